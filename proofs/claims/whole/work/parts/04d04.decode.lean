theorem d_Mod_push_0 : decode b_Mod_push 0 = .ok (.aload_n 0, 1) := by decide +kernel
theorem d_Mod_push_1 : decode b_Mod_push 1 = .ok (.getfield 56, 3) := by decide +kernel
theorem d_Mod_push_4 : decode b_Mod_push 4 = .ok (.bipush 12, 2) := by decide +kernel
theorem d_Mod_push_6 : decode b_Mod_push 6 = .ok (.aload_n 0, 1) := by decide +kernel
theorem d_Mod_push_7 : decode b_Mod_push 7 = .ok (.getfield 112, 3) := by decide +kernel
theorem d_Mod_push_10 : decode b_Mod_push 10 = .ok (.imul, 1) := by decide +kernel
theorem d_Mod_push_11 : decode b_Mod_push 11 = .ok (.aload_n 0, 1) := by decide +kernel
theorem d_Mod_push_12 : decode b_Mod_push 12 = .ok (.getfield 53, 3) := by decide +kernel
theorem d_Mod_push_15 : decode b_Mod_push 15 = .ok (.aload_n 0, 1) := by decide +kernel
theorem d_Mod_push_16 : decode b_Mod_push 16 = .ok (.getfield 112, 3) := by decide +kernel
theorem d_Mod_push_19 : decode b_Mod_push 19 = .ok (.iaload, 1) := by decide +kernel
theorem d_Mod_push_20 : decode b_Mod_push 20 = .ok (.iadd, 1) := by decide +kernel
theorem d_Mod_push_21 : decode b_Mod_push 21 = .ok (.iload_n 1, 1) := by decide +kernel
theorem d_Mod_push_22 : decode b_Mod_push 22 = .ok (.iastore, 1) := by decide +kernel
theorem d_Mod_push_23 : decode b_Mod_push 23 = .ok (.aload_n 0, 1) := by decide +kernel
theorem d_Mod_push_24 : decode b_Mod_push 24 = .ok (.getfield 53, 3) := by decide +kernel
theorem d_Mod_push_27 : decode b_Mod_push 27 = .ok (.aload_n 0, 1) := by decide +kernel
theorem d_Mod_push_28 : decode b_Mod_push 28 = .ok (.getfield 112, 3) := by decide +kernel
theorem d_Mod_push_31 : decode b_Mod_push 31 = .ok (.dup2, 1) := by decide +kernel
theorem d_Mod_push_32 : decode b_Mod_push 32 = .ok (.iaload, 1) := by decide +kernel
theorem d_Mod_push_33 : decode b_Mod_push 33 = .ok (.iconst 1, 1) := by decide +kernel
theorem d_Mod_push_34 : decode b_Mod_push 34 = .ok (.iadd, 1) := by decide +kernel
theorem d_Mod_push_35 : decode b_Mod_push 35 = .ok (.iastore, 1) := by decide +kernel
theorem d_Mod_push_36 : decode b_Mod_push 36 = .ok (.return_, 1) := by decide +kernel
theorem d_Mod_pop_0 : decode b_Mod_pop 0 = .ok (.aload_n 0, 1) := by decide +kernel
theorem d_Mod_pop_1 : decode b_Mod_pop 1 = .ok (.getfield 53, 3) := by decide +kernel
theorem d_Mod_pop_4 : decode b_Mod_pop 4 = .ok (.aload_n 0, 1) := by decide +kernel
theorem d_Mod_pop_5 : decode b_Mod_pop 5 = .ok (.getfield 112, 3) := by decide +kernel
theorem d_Mod_pop_8 : decode b_Mod_pop 8 = .ok (.dup2, 1) := by decide +kernel
theorem d_Mod_pop_9 : decode b_Mod_pop 9 = .ok (.iaload, 1) := by decide +kernel
theorem d_Mod_pop_10 : decode b_Mod_pop 10 = .ok (.iconst 1, 1) := by decide +kernel
theorem d_Mod_pop_11 : decode b_Mod_pop 11 = .ok (.isub, 1) := by decide +kernel
theorem d_Mod_pop_12 : decode b_Mod_pop 12 = .ok (.iastore, 1) := by decide +kernel
theorem d_Mod_pop_13 : decode b_Mod_pop 13 = .ok (.aload_n 0, 1) := by decide +kernel
theorem d_Mod_pop_14 : decode b_Mod_pop 14 = .ok (.getfield 56, 3) := by decide +kernel
theorem d_Mod_pop_17 : decode b_Mod_pop 17 = .ok (.bipush 12, 2) := by decide +kernel
theorem d_Mod_pop_19 : decode b_Mod_pop 19 = .ok (.aload_n 0, 1) := by decide +kernel
theorem d_Mod_pop_20 : decode b_Mod_pop 20 = .ok (.getfield 112, 3) := by decide +kernel
theorem d_Mod_pop_23 : decode b_Mod_pop 23 = .ok (.imul, 1) := by decide +kernel
theorem d_Mod_pop_24 : decode b_Mod_pop 24 = .ok (.aload_n 0, 1) := by decide +kernel
theorem d_Mod_pop_25 : decode b_Mod_pop 25 = .ok (.getfield 53, 3) := by decide +kernel
theorem d_Mod_pop_28 : decode b_Mod_pop 28 = .ok (.aload_n 0, 1) := by decide +kernel
theorem d_Mod_pop_29 : decode b_Mod_pop 29 = .ok (.getfield 112, 3) := by decide +kernel
theorem d_Mod_pop_32 : decode b_Mod_pop 32 = .ok (.iaload, 1) := by decide +kernel
theorem d_Mod_pop_33 : decode b_Mod_pop 33 = .ok (.iadd, 1) := by decide +kernel
theorem d_Mod_pop_34 : decode b_Mod_pop 34 = .ok (.iaload, 1) := by decide +kernel
theorem d_Mod_pop_35 : decode b_Mod_pop 35 = .ok (.ireturn, 1) := by decide +kernel
theorem d_Mod_peek_0 : decode b_Mod_peek 0 = .ok (.iload_n 1, 1) := by decide +kernel
theorem d_Mod_peek_1 : decode b_Mod_peek 1 = .ok (.ifCond .lt 45, 3) := by decide +kernel
theorem d_Mod_peek_4 : decode b_Mod_peek 4 = .ok (.iload_n 1, 1) := by decide +kernel
theorem d_Mod_peek_5 : decode b_Mod_peek 5 = .ok (.aload_n 0, 1) := by decide +kernel
theorem d_Mod_peek_6 : decode b_Mod_peek 6 = .ok (.getfield 53, 3) := by decide +kernel
theorem d_Mod_peek_9 : decode b_Mod_peek 9 = .ok (.aload_n 0, 1) := by decide +kernel
theorem d_Mod_peek_10 : decode b_Mod_peek 10 = .ok (.getfield 112, 3) := by decide +kernel
theorem d_Mod_peek_13 : decode b_Mod_peek 13 = .ok (.iaload, 1) := by decide +kernel
theorem d_Mod_peek_14 : decode b_Mod_peek 14 = .ok (.if_icmp .ge 32, 3) := by decide +kernel
theorem d_Mod_peek_17 : decode b_Mod_peek 17 = .ok (.aload_n 0, 1) := by decide +kernel
theorem d_Mod_peek_18 : decode b_Mod_peek 18 = .ok (.getfield 56, 3) := by decide +kernel
theorem d_Mod_peek_21 : decode b_Mod_peek 21 = .ok (.bipush 12, 2) := by decide +kernel
theorem d_Mod_peek_23 : decode b_Mod_peek 23 = .ok (.aload_n 0, 1) := by decide +kernel
theorem d_Mod_peek_24 : decode b_Mod_peek 24 = .ok (.getfield 112, 3) := by decide +kernel
theorem d_Mod_peek_27 : decode b_Mod_peek 27 = .ok (.imul, 1) := by decide +kernel
theorem d_Mod_peek_28 : decode b_Mod_peek 28 = .ok (.aload_n 0, 1) := by decide +kernel
theorem d_Mod_peek_29 : decode b_Mod_peek 29 = .ok (.getfield 53, 3) := by decide +kernel
theorem d_Mod_peek_32 : decode b_Mod_peek 32 = .ok (.aload_n 0, 1) := by decide +kernel
theorem d_Mod_peek_33 : decode b_Mod_peek 33 = .ok (.getfield 112, 3) := by decide +kernel
theorem d_Mod_peek_36 : decode b_Mod_peek 36 = .ok (.iaload, 1) := by decide +kernel
theorem d_Mod_peek_37 : decode b_Mod_peek 37 = .ok (.iadd, 1) := by decide +kernel
theorem d_Mod_peek_38 : decode b_Mod_peek 38 = .ok (.iconst 1, 1) := by decide +kernel
theorem d_Mod_peek_39 : decode b_Mod_peek 39 = .ok (.isub, 1) := by decide +kernel
theorem d_Mod_peek_40 : decode b_Mod_peek 40 = .ok (.iload_n 1, 1) := by decide +kernel
theorem d_Mod_peek_41 : decode b_Mod_peek 41 = .ok (.isub, 1) := by decide +kernel
theorem d_Mod_peek_42 : decode b_Mod_peek 42 = .ok (.iaload, 1) := by decide +kernel
theorem d_Mod_peek_43 : decode b_Mod_peek 43 = .ok (.goto 4, 3) := by decide +kernel
theorem d_Mod_peek_46 : decode b_Mod_peek 46 = .ok (.iconst 0, 1) := by decide +kernel
theorem d_Mod_peek_47 : decode b_Mod_peek 47 = .ok (.ireturn, 1) := by decide +kernel
theorem d_Mod_leave_0 : decode b_Mod_leave 0 = .ok (.iload_n 1, 1) := by decide +kernel
theorem d_Mod_leave_1 : decode b_Mod_leave 1 = .ok (.ifCond .ne 69, 3) := by decide +kernel
theorem d_Mod_leave_4 : decode b_Mod_leave 4 = .ok (.iconst 0, 1) := by decide +kernel
theorem d_Mod_leave_5 : decode b_Mod_leave 5 = .ok (.istore 4, 2) := by decide +kernel
theorem d_Mod_leave_7 : decode b_Mod_leave 7 = .ok (.iload 4, 2) := by decide +kernel
theorem d_Mod_leave_9 : decode b_Mod_leave 9 = .ok (.sipush 576, 3) := by decide +kernel
theorem d_Mod_leave_12 : decode b_Mod_leave 12 = .ok (.if_icmp .ge 32, 3) := by decide +kernel
theorem d_Mod_leave_15 : decode b_Mod_leave 15 = .ok (.aload_n 0, 1) := by decide +kernel
theorem d_Mod_leave_16 : decode b_Mod_leave 16 = .ok (.getfield 7, 3) := by decide +kernel
theorem d_Mod_leave_19 : decode b_Mod_leave 19 = .ok (.iload 4, 2) := by decide +kernel
theorem d_Mod_leave_21 : decode b_Mod_leave 21 = .ok (.aload_n 0, 1) := by decide +kernel
theorem d_Mod_leave_22 : decode b_Mod_leave 22 = .ok (.getfield 59, 3) := by decide +kernel
theorem d_Mod_leave_25 : decode b_Mod_leave 25 = .ok (.sipush 576, 3) := by decide +kernel
theorem d_Mod_leave_28 : decode b_Mod_leave 28 = .ok (.aload_n 0, 1) := by decide +kernel
theorem d_Mod_leave_29 : decode b_Mod_leave 29 = .ok (.getfield 112, 3) := by decide +kernel
theorem d_Mod_leave_32 : decode b_Mod_leave 32 = .ok (.imul, 1) := by decide +kernel
theorem d_Mod_leave_33 : decode b_Mod_leave 33 = .ok (.iload 4, 2) := by decide +kernel
theorem d_Mod_leave_35 : decode b_Mod_leave 35 = .ok (.iadd, 1) := by decide +kernel
theorem d_Mod_leave_36 : decode b_Mod_leave 36 = .ok (.iaload, 1) := by decide +kernel
theorem d_Mod_leave_37 : decode b_Mod_leave 37 = .ok (.iastore, 1) := by decide +kernel
theorem d_Mod_leave_38 : decode b_Mod_leave 38 = .ok (.iinc 4 1, 3) := by decide +kernel
theorem d_Mod_leave_41 : decode b_Mod_leave 41 = .ok (.goto (-34), 3) := by decide +kernel
theorem d_Mod_leave_44 : decode b_Mod_leave 44 = .ok (.aload_n 0, 1) := by decide +kernel
theorem d_Mod_leave_45 : decode b_Mod_leave 45 = .ok (.aload_n 0, 1) := by decide +kernel
theorem d_Mod_leave_46 : decode b_Mod_leave 46 = .ok (.getfield 62, 3) := by decide +kernel
theorem d_Mod_leave_49 : decode b_Mod_leave 49 = .ok (.aload_n 0, 1) := by decide +kernel
theorem d_Mod_leave_50 : decode b_Mod_leave 50 = .ok (.getfield 112, 3) := by decide +kernel
theorem d_Mod_leave_53 : decode b_Mod_leave 53 = .ok (.iaload, 1) := by decide +kernel
theorem d_Mod_leave_54 : decode b_Mod_leave 54 = .ok (.putfield 115, 3) := by decide +kernel
theorem d_Mod_leave_57 : decode b_Mod_leave 57 = .ok (.aload_n 0, 1) := by decide +kernel
theorem d_Mod_leave_58 : decode b_Mod_leave 58 = .ok (.aload_n 0, 1) := by decide +kernel
theorem d_Mod_leave_59 : decode b_Mod_leave 59 = .ok (.getfield 65, 3) := by decide +kernel
theorem d_Mod_leave_62 : decode b_Mod_leave 62 = .ok (.aload_n 0, 1) := by decide +kernel
theorem d_Mod_leave_63 : decode b_Mod_leave 63 = .ok (.getfield 112, 3) := by decide +kernel
theorem d_Mod_leave_66 : decode b_Mod_leave 66 = .ok (.iaload, 1) := by decide +kernel
theorem d_Mod_leave_67 : decode b_Mod_leave 67 = .ok (.putfield 118, 3) := by decide +kernel
theorem d_Mod_leave_70 : decode b_Mod_leave 70 = .ok (.aload_n 0, 1) := by decide +kernel
theorem d_Mod_leave_71 : decode b_Mod_leave 71 = .ok (.dup, 1) := by decide +kernel
theorem d_Mod_leave_72 : decode b_Mod_leave 72 = .ok (.getfield 112, 3) := by decide +kernel
theorem d_Mod_leave_75 : decode b_Mod_leave 75 = .ok (.iconst 1, 1) := by decide +kernel
theorem d_Mod_leave_76 : decode b_Mod_leave 76 = .ok (.isub, 1) := by decide +kernel
theorem d_Mod_leave_77 : decode b_Mod_leave 77 = .ok (.putfield 112, 3) := by decide +kernel
theorem d_Mod_leave_80 : decode b_Mod_leave 80 = .ok (.aload_n 0, 1) := by decide +kernel
theorem d_Mod_leave_81 : decode b_Mod_leave 81 = .ok (.getfield 112, 3) := by decide +kernel
theorem d_Mod_leave_84 : decode b_Mod_leave 84 = .ok (.ifCond .ge 27, 3) := by decide +kernel
theorem d_Mod_leave_87 : decode b_Mod_leave 87 = .ok (.aload_n 0, 1) := by decide +kernel
theorem d_Mod_leave_88 : decode b_Mod_leave 88 = .ok (.iload_n 3, 1) := by decide +kernel
theorem d_Mod_leave_89 : decode b_Mod_leave 89 = .ok (.putfield 121, 3) := by decide +kernel
theorem d_Mod_leave_92 : decode b_Mod_leave 92 = .ok (.aload_n 0, 1) := by decide +kernel
theorem d_Mod_leave_93 : decode b_Mod_leave 93 = .ok (.iload_n 1, 1) := by decide +kernel
theorem d_Mod_leave_94 : decode b_Mod_leave 94 = .ok (.ifCond .eq 7, 3) := by decide +kernel
theorem d_Mod_leave_97 : decode b_Mod_leave 97 = .ok (.iconst 1, 1) := by decide +kernel
theorem d_Mod_leave_98 : decode b_Mod_leave 98 = .ok (.goto 4, 3) := by decide +kernel
theorem d_Mod_leave_101 : decode b_Mod_leave 101 = .ok (.iconst 0, 1) := by decide +kernel
theorem d_Mod_leave_102 : decode b_Mod_leave 102 = .ok (.putfield 124, 3) := by decide +kernel
theorem d_Mod_leave_105 : decode b_Mod_leave 105 = .ok (.aload_n 0, 1) := by decide +kernel
theorem d_Mod_leave_106 : decode b_Mod_leave 106 = .ok (.iload_n 2, 1) := by decide +kernel
theorem d_Mod_leave_107 : decode b_Mod_leave 107 = .ok (.putfield 127, 3) := by decide +kernel
theorem d_Mod_leave_110 : decode b_Mod_leave 110 = .ok (.return_, 1) := by decide +kernel
theorem d_Mod_leave_111 : decode b_Mod_leave 111 = .ok (.aload_n 0, 1) := by decide +kernel
theorem d_Mod_leave_112 : decode b_Mod_leave 112 = .ok (.getfield 50, 3) := by decide +kernel
theorem d_Mod_leave_115 : decode b_Mod_leave 115 = .ok (.aload_n 0, 1) := by decide +kernel
theorem d_Mod_leave_116 : decode b_Mod_leave 116 = .ok (.getfield 112, 3) := by decide +kernel
theorem d_Mod_leave_119 : decode b_Mod_leave 119 = .ok (.dup2, 1) := by decide +kernel
theorem d_Mod_leave_120 : decode b_Mod_leave 120 = .ok (.iaload, 1) := by decide +kernel
theorem d_Mod_leave_121 : decode b_Mod_leave 121 = .ok (.iload_n 3, 1) := by decide +kernel
theorem d_Mod_leave_122 : decode b_Mod_leave 122 = .ok (.iadd, 1) := by decide +kernel
theorem d_Mod_leave_123 : decode b_Mod_leave 123 = .ok (.iastore, 1) := by decide +kernel
theorem d_Mod_leave_124 : decode b_Mod_leave 124 = .ok (.aload_n 0, 1) := by decide +kernel
theorem d_Mod_leave_125 : decode b_Mod_leave 125 = .ok (.iload_n 2, 1) := by decide +kernel
theorem d_Mod_leave_126 : decode b_Mod_leave 126 = .ok (.invokevirtual 130, 3) := by decide +kernel
theorem d_Mod_leave_129 : decode b_Mod_leave 129 = .ok (.aload_n 0, 1) := by decide +kernel
theorem d_Mod_leave_130 : decode b_Mod_leave 130 = .ok (.iload_n 1, 1) := by decide +kernel
theorem d_Mod_leave_131 : decode b_Mod_leave 131 = .ok (.ifCond .eq 7, 3) := by decide +kernel
theorem d_Mod_leave_134 : decode b_Mod_leave 134 = .ok (.iconst 1, 1) := by decide +kernel
theorem d_Mod_leave_135 : decode b_Mod_leave 135 = .ok (.goto 4, 3) := by decide +kernel
theorem d_Mod_leave_138 : decode b_Mod_leave 138 = .ok (.iconst 0, 1) := by decide +kernel
theorem d_Mod_leave_139 : decode b_Mod_leave 139 = .ok (.invokevirtual 130, 3) := by decide +kernel
theorem d_Mod_leave_142 : decode b_Mod_leave 142 = .ok (.return_, 1) := by decide +kernel
theorem d_Mod_pops_0 : decode b_Mod_pops 0 = .ok (.iload_n 0, 1) := by decide +kernel
theorem d_Mod_pops_1 : decode b_Mod_pops 1 = .ok (.bipush 22, 2) := by decide +kernel
theorem d_Mod_pops_3 : decode b_Mod_pops 3 = .ok (.if_icmp .ne 5, 3) := by decide +kernel
theorem d_Mod_pops_6 : decode b_Mod_pops 6 = .ok (.iconst 4, 1) := by decide +kernel
theorem d_Mod_pops_7 : decode b_Mod_pops 7 = .ok (.ireturn, 1) := by decide +kernel
theorem d_Mod_pops_8 : decode b_Mod_pops 8 = .ok (.iload_n 0, 1) := by decide +kernel
theorem d_Mod_pops_9 : decode b_Mod_pops 9 = .ok (.bipush 23, 2) := by decide +kernel
theorem d_Mod_pops_11 : decode b_Mod_pops 11 = .ok (.if_icmp .eq 9, 3) := by decide +kernel
theorem d_Mod_pops_14 : decode b_Mod_pops 14 = .ok (.iload_n 0, 1) := by decide +kernel
theorem d_Mod_pops_15 : decode b_Mod_pops 15 = .ok (.bipush 24, 2) := by decide +kernel
theorem d_Mod_pops_17 : decode b_Mod_pops 17 = .ok (.if_icmp .ne 5, 3) := by decide +kernel
theorem d_Mod_pops_20 : decode b_Mod_pops 20 = .ok (.iconst 3, 1) := by decide +kernel
theorem d_Mod_pops_21 : decode b_Mod_pops 21 = .ok (.ireturn, 1) := by decide +kernel
theorem d_Mod_pops_22 : decode b_Mod_pops 22 = .ok (.iload_n 0, 1) := by decide +kernel
theorem d_Mod_pops_23 : decode b_Mod_pops 23 = .ok (.iconst 5, 1) := by decide +kernel
theorem d_Mod_pops_24 : decode b_Mod_pops 24 = .ok (.if_icmp .lt 9, 3) := by decide +kernel
theorem d_Mod_pops_27 : decode b_Mod_pops 27 = .ok (.iload_n 0, 1) := by decide +kernel
theorem d_Mod_pops_28 : decode b_Mod_pops 28 = .ok (.bipush 10, 2) := by decide +kernel
theorem d_Mod_pops_30 : decode b_Mod_pops 30 = .ok (.if_icmp .le 15, 3) := by decide +kernel
theorem d_Mod_pops_33 : decode b_Mod_pops 33 = .ok (.iload_n 0, 1) := by decide +kernel
theorem d_Mod_pops_34 : decode b_Mod_pops 34 = .ok (.bipush 13, 2) := by decide +kernel
theorem d_Mod_pops_36 : decode b_Mod_pops 36 = .ok (.if_icmp .eq 9, 3) := by decide +kernel
theorem d_Mod_pops_39 : decode b_Mod_pops 39 = .ok (.iload_n 0, 1) := by decide +kernel
theorem d_Mod_pops_40 : decode b_Mod_pops 40 = .ok (.bipush 15, 2) := by decide +kernel
theorem d_Mod_pops_42 : decode b_Mod_pops 42 = .ok (.if_icmp .ne 5, 3) := by decide +kernel
theorem d_Mod_pops_45 : decode b_Mod_pops 45 = .ok (.iconst 2, 1) := by decide +kernel
theorem d_Mod_pops_46 : decode b_Mod_pops 46 = .ok (.ireturn, 1) := by decide +kernel
theorem d_Mod_pops_47 : decode b_Mod_pops 47 = .ok (.iload_n 0, 1) := by decide +kernel
theorem d_Mod_pops_48 : decode b_Mod_pops 48 = .ok (.iconst 2, 1) := by decide +kernel
theorem d_Mod_pops_49 : decode b_Mod_pops 49 = .ok (.if_icmp .eq 33, 3) := by decide +kernel
theorem d_Mod_pops_52 : decode b_Mod_pops 52 = .ok (.iload_n 0, 1) := by decide +kernel
theorem d_Mod_pops_53 : decode b_Mod_pops 53 = .ok (.bipush 11, 2) := by decide +kernel
theorem d_Mod_pops_55 : decode b_Mod_pops 55 = .ok (.if_icmp .eq 27, 3) := by decide +kernel
theorem d_Mod_pops_58 : decode b_Mod_pops 58 = .ok (.iload_n 0, 1) := by decide +kernel
theorem d_Mod_pops_59 : decode b_Mod_pops 59 = .ok (.bipush 12, 2) := by decide +kernel
theorem d_Mod_pops_61 : decode b_Mod_pops 61 = .ok (.if_icmp .eq 21, 3) := by decide +kernel
theorem d_Mod_pops_64 : decode b_Mod_pops 64 = .ok (.iload_n 0, 1) := by decide +kernel
theorem d_Mod_pops_65 : decode b_Mod_pops 65 = .ok (.bipush 14, 2) := by decide +kernel
theorem d_Mod_pops_67 : decode b_Mod_pops 67 = .ok (.if_icmp .eq 15, 3) := by decide +kernel
theorem d_Mod_pops_70 : decode b_Mod_pops 70 = .ok (.iload_n 0, 1) := by decide +kernel
theorem d_Mod_pops_71 : decode b_Mod_pops 71 = .ok (.bipush 16, 2) := by decide +kernel
theorem d_Mod_pops_73 : decode b_Mod_pops 73 = .ok (.if_icmp .eq 9, 3) := by decide +kernel
theorem d_Mod_pops_76 : decode b_Mod_pops 76 = .ok (.iload_n 0, 1) := by decide +kernel
theorem d_Mod_pops_77 : decode b_Mod_pops 77 = .ok (.bipush 25, 2) := by decide +kernel
theorem d_Mod_pops_79 : decode b_Mod_pops 79 = .ok (.if_icmp .lt 7, 3) := by decide +kernel
theorem d_Mod_pops_82 : decode b_Mod_pops 82 = .ok (.iconst 1, 1) := by decide +kernel
theorem d_Mod_pops_83 : decode b_Mod_pops 83 = .ok (.goto 4, 3) := by decide +kernel
theorem d_Mod_pops_86 : decode b_Mod_pops 86 = .ok (.iconst 0, 1) := by decide +kernel
theorem d_Mod_pops_87 : decode b_Mod_pops 87 = .ok (.ireturn, 1) := by decide +kernel
theorem d_Mod_pushes_0 : decode b_Mod_pushes 0 = .ok (.iload_n 0, 1) := by decide +kernel
theorem d_Mod_pushes_1 : decode b_Mod_pushes 1 = .ok (.bipush 22, 2) := by decide +kernel
theorem d_Mod_pushes_3 : decode b_Mod_pushes 3 = .ok (.if_icmp .eq 9, 3) := by decide +kernel
theorem d_Mod_pushes_6 : decode b_Mod_pushes 6 = .ok (.iload_n 0, 1) := by decide +kernel
theorem d_Mod_pushes_7 : decode b_Mod_pushes 7 = .ok (.bipush 23, 2) := by decide +kernel
theorem d_Mod_pushes_9 : decode b_Mod_pushes 9 = .ok (.if_icmp .ne 5, 3) := by decide +kernel
theorem d_Mod_pushes_12 : decode b_Mod_pushes 12 = .ok (.iconst 2, 1) := by decide +kernel
theorem d_Mod_pushes_13 : decode b_Mod_pushes 13 = .ok (.ireturn, 1) := by decide +kernel
theorem d_Mod_pushes_14 : decode b_Mod_pushes 14 = .ok (.iload_n 0, 1) := by decide +kernel
theorem d_Mod_pushes_15 : decode b_Mod_pushes 15 = .ok (.iconst 1, 1) := by decide +kernel
theorem d_Mod_pushes_16 : decode b_Mod_pushes 16 = .ok (.if_icmp .eq 43, 3) := by decide +kernel
theorem d_Mod_pushes_19 : decode b_Mod_pushes 19 = .ok (.iload_n 0, 1) := by decide +kernel
theorem d_Mod_pushes_20 : decode b_Mod_pushes 20 = .ok (.iconst 3, 1) := by decide +kernel
theorem d_Mod_pushes_21 : decode b_Mod_pushes 21 = .ok (.if_icmp .eq 38, 3) := by decide +kernel
theorem d_Mod_pushes_24 : decode b_Mod_pushes 24 = .ok (.iload_n 0, 1) := by decide +kernel
theorem d_Mod_pushes_25 : decode b_Mod_pushes 25 = .ok (.iconst 5, 1) := by decide +kernel
theorem d_Mod_pushes_26 : decode b_Mod_pushes 26 = .ok (.if_icmp .lt 9, 3) := by decide +kernel
theorem d_Mod_pushes_29 : decode b_Mod_pushes 29 = .ok (.iload_n 0, 1) := by decide +kernel
theorem d_Mod_pushes_30 : decode b_Mod_pushes 30 = .ok (.bipush 11, 2) := by decide +kernel
theorem d_Mod_pushes_32 : decode b_Mod_pushes 32 = .ok (.if_icmp .le 27, 3) := by decide +kernel
theorem d_Mod_pushes_35 : decode b_Mod_pushes 35 = .ok (.iload_n 0, 1) := by decide +kernel
theorem d_Mod_pushes_36 : decode b_Mod_pushes 36 = .ok (.bipush 14, 2) := by decide +kernel
theorem d_Mod_pushes_38 : decode b_Mod_pushes 38 = .ok (.if_icmp .eq 21, 3) := by decide +kernel
theorem d_Mod_pushes_41 : decode b_Mod_pushes 41 = .ok (.iload_n 0, 1) := by decide +kernel
theorem d_Mod_pushes_42 : decode b_Mod_pushes 42 = .ok (.bipush 16, 2) := by decide +kernel
theorem d_Mod_pushes_44 : decode b_Mod_pushes 44 = .ok (.if_icmp .lt 9, 3) := by decide +kernel
theorem d_Mod_pushes_47 : decode b_Mod_pushes 47 = .ok (.iload_n 0, 1) := by decide +kernel
theorem d_Mod_pushes_48 : decode b_Mod_pushes 48 = .ok (.bipush 21, 2) := by decide +kernel
theorem d_Mod_pushes_50 : decode b_Mod_pushes 50 = .ok (.if_icmp .le 9, 3) := by decide +kernel
theorem d_Mod_pushes_53 : decode b_Mod_pushes 53 = .ok (.iload_n 0, 1) := by decide +kernel
theorem d_Mod_pushes_54 : decode b_Mod_pushes 54 = .ok (.bipush 24, 2) := by decide +kernel
theorem d_Mod_pushes_56 : decode b_Mod_pushes 56 = .ok (.if_icmp .ne 7, 3) := by decide +kernel
theorem d_Mod_pushes_59 : decode b_Mod_pushes 59 = .ok (.iconst 1, 1) := by decide +kernel
theorem d_Mod_pushes_60 : decode b_Mod_pushes 60 = .ok (.goto 4, 3) := by decide +kernel
theorem d_Mod_pushes_63 : decode b_Mod_pushes 63 = .ok (.iconst 0, 1) := by decide +kernel
theorem d_Mod_pushes_64 : decode b_Mod_pushes 64 = .ok (.ireturn, 1) := by decide +kernel
theorem d_Mod_cost_0 : decode b_Mod_cost 0 = .ok (.iload_n 1, 1) := by decide +kernel
theorem d_Mod_cost_1 : decode b_Mod_cost 1 = .ok (.ifCond .eq 15, 3) := by decide +kernel
theorem d_Mod_cost_4 : decode b_Mod_cost 4 = .ok (.iload_n 1, 1) := by decide +kernel
theorem d_Mod_cost_5 : decode b_Mod_cost 5 = .ok (.bipush 26, 2) := by decide +kernel
theorem d_Mod_cost_7 : decode b_Mod_cost 7 = .ok (.if_icmp .eq 9, 3) := by decide +kernel
theorem d_Mod_cost_10 : decode b_Mod_cost 10 = .ok (.iload_n 1, 1) := by decide +kernel
theorem d_Mod_cost_11 : decode b_Mod_cost 11 = .ok (.bipush 27, 2) := by decide +kernel
theorem d_Mod_cost_13 : decode b_Mod_cost 13 = .ok (.if_icmp .ne 5, 3) := by decide +kernel
theorem d_Mod_cost_16 : decode b_Mod_cost 16 = .ok (.iconst 0, 1) := by decide +kernel
theorem d_Mod_cost_17 : decode b_Mod_cost 17 = .ok (.ireturn, 1) := by decide +kernel
theorem d_Mod_cost_18 : decode b_Mod_cost 18 = .ok (.iload_n 1, 1) := by decide +kernel
theorem d_Mod_cost_19 : decode b_Mod_cost 19 = .ok (.bipush 15, 2) := by decide +kernel
theorem d_Mod_cost_21 : decode b_Mod_cost 21 = .ok (.if_icmp .ne 59, 3) := by decide +kernel
theorem d_Mod_cost_24 : decode b_Mod_cost 24 = .ok (.aload_n 0, 1) := by decide +kernel
theorem d_Mod_cost_25 : decode b_Mod_cost 25 = .ok (.iconst 0, 1) := by decide +kernel
theorem d_Mod_cost_26 : decode b_Mod_cost 26 = .ok (.invokevirtual 134, 3) := by decide +kernel
theorem d_Mod_cost_29 : decode b_Mod_cost 29 = .ok (.istore_n 2, 1) := by decide +kernel
theorem d_Mod_cost_30 : decode b_Mod_cost 30 = .ok (.iload_n 2, 1) := by decide +kernel
theorem d_Mod_cost_31 : decode b_Mod_cost 31 = .ok (.bipush 8, 2) := by decide +kernel
theorem d_Mod_cost_33 : decode b_Mod_cost 33 = .ok (.invokestatic 81, 3) := by decide +kernel
theorem d_Mod_cost_36 : decode b_Mod_cost 36 = .ok (.ifCond .eq 41, 3) := by decide +kernel
theorem d_Mod_cost_39 : decode b_Mod_cost 39 = .ok (.aload_n 0, 1) := by decide +kernel
theorem d_Mod_cost_40 : decode b_Mod_cost 40 = .ok (.getfield 7, 3) := by decide +kernel
theorem d_Mod_cost_43 : decode b_Mod_cost 43 = .ok (.bipush 36, 2) := by decide +kernel
theorem d_Mod_cost_45 : decode b_Mod_cost 45 = .ok (.aload_n 0, 1) := by decide +kernel
theorem d_Mod_cost_46 : decode b_Mod_cost 46 = .ok (.getfield 32, 3) := by decide +kernel
theorem d_Mod_cost_49 : decode b_Mod_cost 49 = .ok (.aload_n 0, 1) := by decide +kernel
theorem d_Mod_cost_50 : decode b_Mod_cost 50 = .ok (.getfield 112, 3) := by decide +kernel
theorem d_Mod_cost_53 : decode b_Mod_cost 53 = .ok (.iaload, 1) := by decide +kernel
theorem d_Mod_cost_54 : decode b_Mod_cost 54 = .ok (.imul, 1) := by decide +kernel
theorem d_Mod_cost_55 : decode b_Mod_cost 55 = .ok (.bipush 27, 2) := by decide +kernel
theorem d_Mod_cost_57 : decode b_Mod_cost 57 = .ok (.iadd, 1) := by decide +kernel
theorem d_Mod_cost_58 : decode b_Mod_cost 58 = .ok (.iload_n 2, 1) := by decide +kernel
theorem d_Mod_cost_59 : decode b_Mod_cost 59 = .ok (.iadd, 1) := by decide +kernel
theorem d_Mod_cost_60 : decode b_Mod_cost 60 = .ok (.iaload, 1) := by decide +kernel
theorem d_Mod_cost_61 : decode b_Mod_cost 61 = .ok (.ifCond .ne 16, 3) := by decide +kernel
theorem d_Mod_cost_64 : decode b_Mod_cost 64 = .ok (.aload_n 0, 1) := by decide +kernel
theorem d_Mod_cost_65 : decode b_Mod_cost 65 = .ok (.iconst 1, 1) := by decide +kernel
theorem d_Mod_cost_66 : decode b_Mod_cost 66 = .ok (.invokevirtual 134, 3) := by decide +kernel
theorem d_Mod_cost_69 : decode b_Mod_cost 69 = .ok (.ifCond .eq 8, 3) := by decide +kernel
theorem d_Mod_cost_72 : decode b_Mod_cost 72 = .ok (.bipush 40, 2) := by decide +kernel
theorem d_Mod_cost_74 : decode b_Mod_cost 74 = .ok (.goto 5, 3) := by decide +kernel
theorem d_Mod_cost_77 : decode b_Mod_cost 77 = .ok (.bipush 10, 2) := by decide +kernel
theorem d_Mod_cost_79 : decode b_Mod_cost 79 = .ok (.ireturn, 1) := by decide +kernel
theorem d_Mod_cost_80 : decode b_Mod_cost 80 = .ok (.iload_n 1, 1) := by decide +kernel
theorem d_Mod_cost_81 : decode b_Mod_cost 81 = .ok (.bipush 22, 2) := by decide +kernel
theorem d_Mod_cost_83 : decode b_Mod_cost 83 = .ok (.if_icmp .ne 19, 3) := by decide +kernel
theorem d_Mod_cost_86 : decode b_Mod_cost 86 = .ok (.aload_n 0, 1) := by decide +kernel
theorem d_Mod_cost_87 : decode b_Mod_cost 87 = .ok (.iconst 2, 1) := by decide +kernel
theorem d_Mod_cost_88 : decode b_Mod_cost 88 = .ok (.invokevirtual 134, 3) := by decide +kernel
theorem d_Mod_cost_91 : decode b_Mod_cost 91 = .ok (.ifCond .eq 8, 3) := by decide +kernel
theorem d_Mod_cost_94 : decode b_Mod_cost 94 = .ok (.bipush 50, 2) := by decide +kernel
theorem d_Mod_cost_96 : decode b_Mod_cost 96 = .ok (.goto 5, 3) := by decide +kernel
theorem d_Mod_cost_99 : decode b_Mod_cost 99 = .ok (.bipush 30, 2) := by decide +kernel
theorem d_Mod_cost_101 : decode b_Mod_cost 101 = .ok (.ireturn, 1) := by decide +kernel
theorem d_Mod_cost_102 : decode b_Mod_cost 102 = .ok (.iload_n 1, 1) := by decide +kernel
theorem d_Mod_cost_103 : decode b_Mod_cost 103 = .ok (.bipush 24, 2) := by decide +kernel
theorem d_Mod_cost_105 : decode b_Mod_cost 105 = .ok (.if_icmp .ne 36, 3) := by decide +kernel
theorem d_Mod_cost_108 : decode b_Mod_cost 108 = .ok (.aload_n 0, 1) := by decide +kernel
theorem d_Mod_cost_109 : decode b_Mod_cost 109 = .ok (.iconst 2, 1) := by decide +kernel
theorem d_Mod_cost_110 : decode b_Mod_cost 110 = .ok (.invokevirtual 134, 3) := by decide +kernel
theorem d_Mod_cost_113 : decode b_Mod_cost 113 = .ok (.istore_n 2, 1) := by decide +kernel
theorem d_Mod_cost_114 : decode b_Mod_cost 114 = .ok (.bipush 60, 2) := by decide +kernel
theorem d_Mod_cost_116 : decode b_Mod_cost 116 = .ok (.iconst 2, 1) := by decide +kernel
theorem d_Mod_cost_117 : decode b_Mod_cost 117 = .ok (.iload_n 2, 1) := by decide +kernel
theorem d_Mod_cost_118 : decode b_Mod_cost 118 = .ok (.iconst 1, 1) := by decide +kernel
theorem d_Mod_cost_119 : decode b_Mod_cost 119 = .ok (.if_icmp .ge 7, 3) := by decide +kernel
theorem d_Mod_cost_122 : decode b_Mod_cost 122 = .ok (.iconst 0, 1) := by decide +kernel
theorem d_Mod_cost_123 : decode b_Mod_cost 123 = .ok (.goto 15, 3) := by decide +kernel
theorem d_Mod_cost_126 : decode b_Mod_cost 126 = .ok (.iload_n 2, 1) := by decide +kernel
theorem d_Mod_cost_127 : decode b_Mod_cost 127 = .ok (.bipush 24, 2) := by decide +kernel
theorem d_Mod_cost_129 : decode b_Mod_cost 129 = .ok (.if_icmp .le 8, 3) := by decide +kernel
theorem d_Mod_cost_132 : decode b_Mod_cost 132 = .ok (.bipush 24, 2) := by decide +kernel
theorem d_Mod_cost_134 : decode b_Mod_cost 134 = .ok (.goto 4, 3) := by decide +kernel
theorem d_Mod_cost_137 : decode b_Mod_cost 137 = .ok (.iload_n 2, 1) := by decide +kernel
theorem d_Mod_cost_138 : decode b_Mod_cost 138 = .ok (.imul, 1) := by decide +kernel
theorem d_Mod_cost_139 : decode b_Mod_cost 139 = .ok (.iadd, 1) := by decide +kernel
theorem d_Mod_cost_140 : decode b_Mod_cost 140 = .ok (.ireturn, 1) := by decide +kernel
theorem d_Mod_cost_141 : decode b_Mod_cost 141 = .ok (.iload_n 1, 1) := by decide +kernel
theorem d_Mod_cost_142 : decode b_Mod_cost 142 = .ok (.bipush 7, 2) := by decide +kernel
theorem d_Mod_cost_144 : decode b_Mod_cost 144 = .ok (.if_icmp .eq 9, 3) := by decide +kernel
theorem d_Mod_cost_147 : decode b_Mod_cost 147 = .ok (.iload_n 1, 1) := by decide +kernel
theorem d_Mod_cost_148 : decode b_Mod_cost 148 = .ok (.bipush 8, 2) := by decide +kernel
theorem d_Mod_cost_150 : decode b_Mod_cost 150 = .ok (.if_icmp .ne 7, 3) := by decide +kernel
theorem d_Mod_cost_153 : decode b_Mod_cost 153 = .ok (.iconst 2, 1) := by decide +kernel
theorem d_Mod_cost_154 : decode b_Mod_cost 154 = .ok (.goto 74, 3) := by decide +kernel
theorem d_Mod_cost_157 : decode b_Mod_cost 157 = .ok (.iload_n 1, 1) := by decide +kernel
theorem d_Mod_cost_158 : decode b_Mod_cost 158 = .ok (.bipush 12, 2) := by decide +kernel
theorem d_Mod_cost_160 : decode b_Mod_cost 160 = .ok (.if_icmp .ne 7, 3) := by decide +kernel
theorem d_Mod_cost_163 : decode b_Mod_cost 163 = .ok (.iconst 3, 1) := by decide +kernel
theorem d_Mod_cost_164 : decode b_Mod_cost 164 = .ok (.goto 64, 3) := by decide +kernel
theorem d_Mod_cost_167 : decode b_Mod_cost 167 = .ok (.iload_n 1, 1) := by decide +kernel
theorem d_Mod_cost_168 : decode b_Mod_cost 168 = .ok (.bipush 13, 2) := by decide +kernel
theorem d_Mod_cost_170 : decode b_Mod_cost 170 = .ok (.if_icmp .ne 7, 3) := by decide +kernel
theorem d_Mod_cost_173 : decode b_Mod_cost 173 = .ok (.iconst 4, 1) := by decide +kernel
theorem d_Mod_cost_174 : decode b_Mod_cost 174 = .ok (.goto 54, 3) := by decide +kernel
theorem d_Mod_cost_177 : decode b_Mod_cost 177 = .ok (.iload_n 1, 1) := by decide +kernel
theorem d_Mod_cost_178 : decode b_Mod_cost 178 = .ok (.bipush 14, 2) := by decide +kernel
theorem d_Mod_cost_180 : decode b_Mod_cost 180 = .ok (.if_icmp .eq 9, 3) := by decide +kernel
theorem d_Mod_cost_183 : decode b_Mod_cost 183 = .ok (.iload_n 1, 1) := by decide +kernel
theorem d_Mod_cost_184 : decode b_Mod_cost 184 = .ok (.bipush 16, 2) := by decide +kernel
theorem d_Mod_cost_186 : decode b_Mod_cost 186 = .ok (.if_icmp .ne 8, 3) := by decide +kernel
theorem d_Mod_cost_189 : decode b_Mod_cost 189 = .ok (.bipush 10, 2) := by decide +kernel
theorem d_Mod_cost_191 : decode b_Mod_cost 191 = .ok (.goto 37, 3) := by decide +kernel
theorem d_Mod_cost_194 : decode b_Mod_cost 194 = .ok (.iload_n 1, 1) := by decide +kernel
theorem d_Mod_cost_195 : decode b_Mod_cost 195 = .ok (.bipush 23, 2) := by decide +kernel
theorem d_Mod_cost_197 : decode b_Mod_cost 197 = .ok (.if_icmp .ne 8, 3) := by decide +kernel
theorem d_Mod_cost_200 : decode b_Mod_cost 200 = .ok (.bipush 30, 2) := by decide +kernel
theorem d_Mod_cost_202 : decode b_Mod_cost 202 = .ok (.goto 26, 3) := by decide +kernel
theorem d_Mod_cost_205 : decode b_Mod_cost 205 = .ok (.iload_n 1, 1) := by decide +kernel
theorem d_Mod_cost_206 : decode b_Mod_cost 206 = .ok (.bipush 25, 2) := by decide +kernel
theorem d_Mod_cost_208 : decode b_Mod_cost 208 = .ok (.if_icmp .ne 8, 3) := by decide +kernel
theorem d_Mod_cost_211 : decode b_Mod_cost 211 = .ok (.bipush 12, 2) := by decide +kernel
theorem d_Mod_cost_213 : decode b_Mod_cost 213 = .ok (.goto 15, 3) := by decide +kernel
theorem d_Mod_cost_216 : decode b_Mod_cost 216 = .ok (.iload_n 1, 1) := by decide +kernel
theorem d_Mod_cost_217 : decode b_Mod_cost 217 = .ok (.bipush 28, 2) := by decide +kernel
theorem d_Mod_cost_219 : decode b_Mod_cost 219 = .ok (.if_icmp .ne 8, 3) := by decide +kernel
theorem d_Mod_cost_222 : decode b_Mod_cost 222 = .ok (.bipush 20, 2) := by decide +kernel
theorem d_Mod_cost_224 : decode b_Mod_cost 224 = .ok (.goto 4, 3) := by decide +kernel
theorem d_Mod_cost_227 : decode b_Mod_cost 227 = .ok (.iconst 1, 1) := by decide +kernel
theorem d_Mod_cost_228 : decode b_Mod_cost 228 = .ok (.ireturn, 1) := by decide +kernel
