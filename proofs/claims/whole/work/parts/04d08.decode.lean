theorem d_Mod_begin_0 : decode b_Mod_begin 0 = .ok (.aload_n 0, 1) := by decide +kernel
theorem d_Mod_begin_1 : decode b_Mod_begin 1 = .ok (.getfield 195, 3) := by decide +kernel
theorem d_Mod_begin_4 : decode b_Mod_begin 4 = .ok (.ifCond .ne 29, 3) := by decide +kernel
theorem d_Mod_begin_7 : decode b_Mod_begin 7 = .ok (.iload_n 1, 1) := by decide +kernel
theorem d_Mod_begin_8 : decode b_Mod_begin 8 = .ok (.aload_n 0, 1) := by decide +kernel
theorem d_Mod_begin_9 : decode b_Mod_begin 9 = .ok (.getfield 215, 3) := by decide +kernel
theorem d_Mod_begin_12 : decode b_Mod_begin 12 = .ok (.if_icmp .le 21, 3) := by decide +kernel
theorem d_Mod_begin_15 : decode b_Mod_begin 15 = .ok (.iload_n 2, 1) := by decide +kernel
theorem d_Mod_begin_16 : decode b_Mod_begin 16 = .ok (.bipush 16, 2) := by decide +kernel
theorem d_Mod_begin_18 : decode b_Mod_begin 18 = .ok (.invokestatic 81, 3) := by decide +kernel
theorem d_Mod_begin_21 : decode b_Mod_begin 21 = .ok (.ifCond .eq 12, 3) := by decide +kernel
theorem d_Mod_begin_24 : decode b_Mod_begin 24 = .ok (.aload_n 0, 1) := by decide +kernel
theorem d_Mod_begin_25 : decode b_Mod_begin 25 = .ok (.getfield 86, 3) := by decide +kernel
theorem d_Mod_begin_28 : decode b_Mod_begin 28 = .ok (.bipush 30, 2) := by decide +kernel
theorem d_Mod_begin_30 : decode b_Mod_begin 30 = .ok (.if_icmp .ne 5, 3) := by decide +kernel
theorem d_Mod_begin_33 : decode b_Mod_begin 33 = .ok (.iconst 0, 1) := by decide +kernel
theorem d_Mod_begin_34 : decode b_Mod_begin 34 = .ok (.ireturn, 1) := by decide +kernel
theorem d_Mod_begin_35 : decode b_Mod_begin 35 = .ok (.aload_n 0, 1) := by decide +kernel
theorem d_Mod_begin_36 : decode b_Mod_begin 36 = .ok (.dup, 1) := by decide +kernel
theorem d_Mod_begin_37 : decode b_Mod_begin 37 = .ok (.getfield 86, 3) := by decide +kernel
theorem d_Mod_begin_40 : decode b_Mod_begin 40 = .ok (.iconst 1, 1) := by decide +kernel
theorem d_Mod_begin_41 : decode b_Mod_begin 41 = .ok (.iadd, 1) := by decide +kernel
theorem d_Mod_begin_42 : decode b_Mod_begin 42 = .ok (.putfield 86, 3) := by decide +kernel
theorem d_Mod_begin_45 : decode b_Mod_begin 45 = .ok (.aload_n 0, 1) := by decide +kernel
theorem d_Mod_begin_46 : decode b_Mod_begin 46 = .ok (.iconst 1, 1) := by decide +kernel
theorem d_Mod_begin_47 : decode b_Mod_begin 47 = .ok (.putfield 195, 3) := by decide +kernel
theorem d_Mod_begin_50 : decode b_Mod_begin 50 = .ok (.aload_n 0, 1) := by decide +kernel
theorem d_Mod_begin_51 : decode b_Mod_begin 51 = .ok (.iload_n 1, 1) := by decide +kernel
theorem d_Mod_begin_52 : decode b_Mod_begin 52 = .ok (.putfield 218, 3) := by decide +kernel
theorem d_Mod_begin_55 : decode b_Mod_begin 55 = .ok (.aload_n 0, 1) := by decide +kernel
theorem d_Mod_begin_56 : decode b_Mod_begin 56 = .ok (.iload_n 2, 1) := by decide +kernel
theorem d_Mod_begin_57 : decode b_Mod_begin 57 = .ok (.putfield 206, 3) := by decide +kernel
theorem d_Mod_begin_60 : decode b_Mod_begin 60 = .ok (.iconst 0, 1) := by decide +kernel
theorem d_Mod_begin_61 : decode b_Mod_begin 61 = .ok (.istore_n 3, 1) := by decide +kernel
theorem d_Mod_begin_62 : decode b_Mod_begin 62 = .ok (.iload_n 3, 1) := by decide +kernel
theorem d_Mod_begin_63 : decode b_Mod_begin 63 = .ok (.sipush 576, 3) := by decide +kernel
theorem d_Mod_begin_66 : decode b_Mod_begin 66 = .ok (.if_icmp .ge 21, 3) := by decide +kernel
theorem d_Mod_begin_69 : decode b_Mod_begin 69 = .ok (.aload_n 0, 1) := by decide +kernel
theorem d_Mod_begin_70 : decode b_Mod_begin 70 = .ok (.getfield 13, 3) := by decide +kernel
theorem d_Mod_begin_73 : decode b_Mod_begin 73 = .ok (.iload_n 3, 1) := by decide +kernel
theorem d_Mod_begin_74 : decode b_Mod_begin 74 = .ok (.aload_n 0, 1) := by decide +kernel
theorem d_Mod_begin_75 : decode b_Mod_begin 75 = .ok (.getfield 7, 3) := by decide +kernel
theorem d_Mod_begin_78 : decode b_Mod_begin 78 = .ok (.iload_n 3, 1) := by decide +kernel
theorem d_Mod_begin_79 : decode b_Mod_begin 79 = .ok (.iaload, 1) := by decide +kernel
theorem d_Mod_begin_80 : decode b_Mod_begin 80 = .ok (.iastore, 1) := by decide +kernel
theorem d_Mod_begin_81 : decode b_Mod_begin 81 = .ok (.iinc 3 1, 3) := by decide +kernel
theorem d_Mod_begin_84 : decode b_Mod_begin 84 = .ok (.goto (-22), 3) := by decide +kernel
theorem d_Mod_begin_87 : decode b_Mod_begin 87 = .ok (.aload_n 0, 1) := by decide +kernel
theorem d_Mod_begin_88 : decode b_Mod_begin 88 = .ok (.iconst 0, 1) := by decide +kernel
theorem d_Mod_begin_89 : decode b_Mod_begin 89 = .ok (.putfield 199, 3) := by decide +kernel
theorem d_Mod_begin_92 : decode b_Mod_begin 92 = .ok (.aload_n 0, 1) := by decide +kernel
theorem d_Mod_begin_93 : decode b_Mod_begin 93 = .ok (.iconst 0, 1) := by decide +kernel
theorem d_Mod_begin_94 : decode b_Mod_begin 94 = .ok (.putfield 212, 3) := by decide +kernel
theorem d_Mod_begin_97 : decode b_Mod_begin 97 = .ok (.aload_n 0, 1) := by decide +kernel
theorem d_Mod_begin_98 : decode b_Mod_begin 98 = .ok (.iconst 0, 1) := by decide +kernel
theorem d_Mod_begin_99 : decode b_Mod_begin 99 = .ok (.putfield 118, 3) := by decide +kernel
theorem d_Mod_begin_102 : decode b_Mod_begin 102 = .ok (.iconst 1, 1) := by decide +kernel
theorem d_Mod_begin_103 : decode b_Mod_begin 103 = .ok (.ireturn, 1) := by decide +kernel
theorem d_Mod_seal_0 : decode b_Mod_seal 0 = .ok (.aload_n 0, 1) := by decide +kernel
theorem d_Mod_seal_1 : decode b_Mod_seal 1 = .ok (.getfield 195, 3) := by decide +kernel
theorem d_Mod_seal_4 : decode b_Mod_seal 4 = .ok (.ifCond .ne 5, 3) := by decide +kernel
theorem d_Mod_seal_7 : decode b_Mod_seal 7 = .ok (.iconst (-1), 1) := by decide +kernel
theorem d_Mod_seal_8 : decode b_Mod_seal 8 = .ok (.ireturn, 1) := by decide +kernel
theorem d_Mod_seal_9 : decode b_Mod_seal 9 = .ok (.aload_n 0, 1) := by decide +kernel
theorem d_Mod_seal_10 : decode b_Mod_seal 10 = .ok (.iconst 0, 1) := by decide +kernel
theorem d_Mod_seal_11 : decode b_Mod_seal 11 = .ok (.putfield 195, 3) := by decide +kernel
theorem d_Mod_seal_14 : decode b_Mod_seal 14 = .ok (.aload_n 0, 1) := by decide +kernel
theorem d_Mod_seal_15 : decode b_Mod_seal 15 = .ok (.getfield 7, 3) := by decide +kernel
theorem d_Mod_seal_18 : decode b_Mod_seal 18 = .ok (.bipush 36, 2) := by decide +kernel
theorem d_Mod_seal_20 : decode b_Mod_seal 20 = .ok (.aload_n 0, 1) := by decide +kernel
theorem d_Mod_seal_21 : decode b_Mod_seal 21 = .ok (.getfield 206, 3) := by decide +kernel
theorem d_Mod_seal_24 : decode b_Mod_seal 24 = .ok (.imul, 1) := by decide +kernel
theorem d_Mod_seal_25 : decode b_Mod_seal 25 = .ok (.dup2, 1) := by decide +kernel
theorem d_Mod_seal_26 : decode b_Mod_seal 26 = .ok (.iaload, 1) := by decide +kernel
theorem d_Mod_seal_27 : decode b_Mod_seal 27 = .ok (.bipush 50, 2) := by decide +kernel
theorem d_Mod_seal_29 : decode b_Mod_seal 29 = .ok (.iadd, 1) := by decide +kernel
theorem d_Mod_seal_30 : decode b_Mod_seal 30 = .ok (.iastore, 1) := by decide +kernel
theorem d_Mod_seal_31 : decode b_Mod_seal 31 = .ok (.iload_n 1, 1) := by decide +kernel
theorem d_Mod_seal_32 : decode b_Mod_seal 32 = .ok (.ifCond .ne 23, 3) := by decide +kernel
theorem d_Mod_seal_35 : decode b_Mod_seal 35 = .ok (.aload_n 0, 1) := by decide +kernel
theorem d_Mod_seal_36 : decode b_Mod_seal 36 = .ok (.dup, 1) := by decide +kernel
theorem d_Mod_seal_37 : decode b_Mod_seal 37 = .ok (.getfield 221, 3) := by decide +kernel
theorem d_Mod_seal_40 : decode b_Mod_seal 40 = .ok (.iconst 1, 1) := by decide +kernel
theorem d_Mod_seal_41 : decode b_Mod_seal 41 = .ok (.iadd, 1) := by decide +kernel
theorem d_Mod_seal_42 : decode b_Mod_seal 42 = .ok (.putfield 221, 3) := by decide +kernel
theorem d_Mod_seal_45 : decode b_Mod_seal 45 = .ok (.aload_n 0, 1) := by decide +kernel
theorem d_Mod_seal_46 : decode b_Mod_seal 46 = .ok (.aload_n 0, 1) := by decide +kernel
theorem d_Mod_seal_47 : decode b_Mod_seal 47 = .ok (.getfield 218, 3) := by decide +kernel
theorem d_Mod_seal_50 : decode b_Mod_seal 50 = .ok (.putfield 215, 3) := by decide +kernel
theorem d_Mod_seal_53 : decode b_Mod_seal 53 = .ok (.iconst 1, 1) := by decide +kernel
theorem d_Mod_seal_54 : decode b_Mod_seal 54 = .ok (.ireturn, 1) := by decide +kernel
theorem d_Mod_seal_55 : decode b_Mod_seal 55 = .ok (.aload_n 0, 1) := by decide +kernel
theorem d_Mod_seal_56 : decode b_Mod_seal 56 = .ok (.dup, 1) := by decide +kernel
theorem d_Mod_seal_57 : decode b_Mod_seal 57 = .ok (.getfield 224, 3) := by decide +kernel
theorem d_Mod_seal_60 : decode b_Mod_seal 60 = .ok (.iconst 1, 1) := by decide +kernel
theorem d_Mod_seal_61 : decode b_Mod_seal 61 = .ok (.iadd, 1) := by decide +kernel
theorem d_Mod_seal_62 : decode b_Mod_seal 62 = .ok (.putfield 224, 3) := by decide +kernel
theorem d_Mod_seal_65 : decode b_Mod_seal 65 = .ok (.iconst 0, 1) := by decide +kernel
theorem d_Mod_seal_66 : decode b_Mod_seal 66 = .ok (.istore_n 2, 1) := by decide +kernel
theorem d_Mod_seal_67 : decode b_Mod_seal 67 = .ok (.iload_n 2, 1) := by decide +kernel
theorem d_Mod_seal_68 : decode b_Mod_seal 68 = .ok (.sipush 576, 3) := by decide +kernel
theorem d_Mod_seal_71 : decode b_Mod_seal 71 = .ok (.if_icmp .ge 21, 3) := by decide +kernel
theorem d_Mod_seal_74 : decode b_Mod_seal 74 = .ok (.aload_n 0, 1) := by decide +kernel
theorem d_Mod_seal_75 : decode b_Mod_seal 75 = .ok (.getfield 7, 3) := by decide +kernel
theorem d_Mod_seal_78 : decode b_Mod_seal 78 = .ok (.iload_n 2, 1) := by decide +kernel
theorem d_Mod_seal_79 : decode b_Mod_seal 79 = .ok (.aload_n 0, 1) := by decide +kernel
theorem d_Mod_seal_80 : decode b_Mod_seal 80 = .ok (.getfield 13, 3) := by decide +kernel
theorem d_Mod_seal_83 : decode b_Mod_seal 83 = .ok (.iload_n 2, 1) := by decide +kernel
theorem d_Mod_seal_84 : decode b_Mod_seal 84 = .ok (.iaload, 1) := by decide +kernel
theorem d_Mod_seal_85 : decode b_Mod_seal 85 = .ok (.iastore, 1) := by decide +kernel
theorem d_Mod_seal_86 : decode b_Mod_seal 86 = .ok (.iinc 2 1, 3) := by decide +kernel
theorem d_Mod_seal_89 : decode b_Mod_seal 89 = .ok (.goto (-22), 3) := by decide +kernel
theorem d_Mod_seal_92 : decode b_Mod_seal 92 = .ok (.iconst 0, 1) := by decide +kernel
theorem d_Mod_seal_93 : decode b_Mod_seal 93 = .ok (.ireturn, 1) := by decide +kernel
theorem d_Mod_look_0 : decode b_Mod_look 0 = .ok (.iload_n 1, 1) := by decide +kernel
theorem d_Mod_look_1 : decode b_Mod_look 1 = .ok (.bipush 16, 2) := by decide +kernel
theorem d_Mod_look_3 : decode b_Mod_look 3 = .ok (.invokestatic 81, 3) := by decide +kernel
theorem d_Mod_look_6 : decode b_Mod_look 6 = .ok (.ifCond .eq 11, 3) := by decide +kernel
theorem d_Mod_look_9 : decode b_Mod_look 9 = .ok (.iload_n 2, 1) := by decide +kernel
theorem d_Mod_look_10 : decode b_Mod_look 10 = .ok (.iconst 5, 1) := by decide +kernel
theorem d_Mod_look_11 : decode b_Mod_look 11 = .ok (.invokestatic 81, 3) := by decide +kernel
theorem d_Mod_look_14 : decode b_Mod_look 14 = .ok (.ifCond .ne 5, 3) := by decide +kernel
theorem d_Mod_look_17 : decode b_Mod_look 17 = .ok (.iconst (-1), 1) := by decide +kernel
theorem d_Mod_look_18 : decode b_Mod_look 18 = .ok (.ireturn, 1) := by decide +kernel
theorem d_Mod_look_19 : decode b_Mod_look 19 = .ok (.iload_n 2, 1) := by decide +kernel
theorem d_Mod_look_20 : decode b_Mod_look 20 = .ok (.iconst 3, 1) := by decide +kernel
theorem d_Mod_look_21 : decode b_Mod_look 21 = .ok (.if_icmp .ge 17, 3) := by decide +kernel
theorem d_Mod_look_24 : decode b_Mod_look 24 = .ok (.aload_n 0, 1) := by decide +kernel
theorem d_Mod_look_25 : decode b_Mod_look 25 = .ok (.getfield 7, 3) := by decide +kernel
theorem d_Mod_look_28 : decode b_Mod_look 28 = .ok (.bipush 36, 2) := by decide +kernel
theorem d_Mod_look_30 : decode b_Mod_look 30 = .ok (.iload_n 1, 1) := by decide +kernel
theorem d_Mod_look_31 : decode b_Mod_look 31 = .ok (.imul, 1) := by decide +kernel
theorem d_Mod_look_32 : decode b_Mod_look 32 = .ok (.iload_n 2, 1) := by decide +kernel
theorem d_Mod_look_33 : decode b_Mod_look 33 = .ok (.iadd, 1) := by decide +kernel
theorem d_Mod_look_34 : decode b_Mod_look 34 = .ok (.iaload, 1) := by decide +kernel
theorem d_Mod_look_35 : decode b_Mod_look 35 = .ok (.goto 21, 3) := by decide +kernel
theorem d_Mod_look_38 : decode b_Mod_look 38 = .ok (.iload_n 2, 1) := by decide +kernel
theorem d_Mod_look_39 : decode b_Mod_look 39 = .ok (.iconst 3, 1) := by decide +kernel
theorem d_Mod_look_40 : decode b_Mod_look 40 = .ok (.if_icmp .ne 11, 3) := by decide +kernel
theorem d_Mod_look_43 : decode b_Mod_look 43 = .ok (.aload_n 0, 1) := by decide +kernel
theorem d_Mod_look_44 : decode b_Mod_look 44 = .ok (.iload_n 1, 1) := by decide +kernel
theorem d_Mod_look_45 : decode b_Mod_look 45 = .ok (.invokevirtual 102, 3) := by decide +kernel
theorem d_Mod_look_48 : decode b_Mod_look 48 = .ok (.goto 8, 3) := by decide +kernel
theorem d_Mod_look_51 : decode b_Mod_look 51 = .ok (.aload_n 0, 1) := by decide +kernel
theorem d_Mod_look_52 : decode b_Mod_look 52 = .ok (.iload_n 1, 1) := by decide +kernel
theorem d_Mod_look_53 : decode b_Mod_look 53 = .ok (.invokevirtual 105, 3) := by decide +kernel
theorem d_Mod_look_56 : decode b_Mod_look 56 = .ok (.ireturn, 1) := by decide +kernel
theorem d_Mod_slot_0 : decode b_Mod_slot 0 = .ok (.iload_n 1, 1) := by decide +kernel
theorem d_Mod_slot_1 : decode b_Mod_slot 1 = .ok (.bipush 16, 2) := by decide +kernel
theorem d_Mod_slot_3 : decode b_Mod_slot 3 = .ok (.invokestatic 81, 3) := by decide +kernel
theorem d_Mod_slot_6 : decode b_Mod_slot 6 = .ok (.ifCond .eq 29, 3) := by decide +kernel
theorem d_Mod_slot_9 : decode b_Mod_slot 9 = .ok (.iload_n 2, 1) := by decide +kernel
theorem d_Mod_slot_10 : decode b_Mod_slot 10 = .ok (.bipush 8, 2) := by decide +kernel
theorem d_Mod_slot_12 : decode b_Mod_slot 12 = .ok (.invokestatic 81, 3) := by decide +kernel
theorem d_Mod_slot_15 : decode b_Mod_slot 15 = .ok (.ifCond .eq 20, 3) := by decide +kernel
theorem d_Mod_slot_18 : decode b_Mod_slot 18 = .ok (.aload_n 0, 1) := by decide +kernel
theorem d_Mod_slot_19 : decode b_Mod_slot 19 = .ok (.getfield 7, 3) := by decide +kernel
theorem d_Mod_slot_22 : decode b_Mod_slot 22 = .ok (.bipush 36, 2) := by decide +kernel
theorem d_Mod_slot_24 : decode b_Mod_slot 24 = .ok (.iload_n 1, 1) := by decide +kernel
theorem d_Mod_slot_25 : decode b_Mod_slot 25 = .ok (.imul, 1) := by decide +kernel
theorem d_Mod_slot_26 : decode b_Mod_slot 26 = .ok (.bipush 27, 2) := by decide +kernel
theorem d_Mod_slot_28 : decode b_Mod_slot 28 = .ok (.iadd, 1) := by decide +kernel
theorem d_Mod_slot_29 : decode b_Mod_slot 29 = .ok (.iload_n 2, 1) := by decide +kernel
theorem d_Mod_slot_30 : decode b_Mod_slot 30 = .ok (.iadd, 1) := by decide +kernel
theorem d_Mod_slot_31 : decode b_Mod_slot 31 = .ok (.iaload, 1) := by decide +kernel
theorem d_Mod_slot_32 : decode b_Mod_slot 32 = .ok (.goto 4, 3) := by decide +kernel
theorem d_Mod_slot_35 : decode b_Mod_slot 35 = .ok (.iconst 0, 1) := by decide +kernel
theorem d_Mod_slot_36 : decode b_Mod_slot 36 = .ok (.ireturn, 1) := by decide +kernel
theorem d_Mod_word_0 : decode b_Mod_word 0 = .ok (.iload_n 1, 1) := by decide +kernel
theorem d_Mod_word_1 : decode b_Mod_word 1 = .ok (.bipush 16, 2) := by decide +kernel
theorem d_Mod_word_3 : decode b_Mod_word 3 = .ok (.invokestatic 81, 3) := by decide +kernel
theorem d_Mod_word_6 : decode b_Mod_word 6 = .ok (.ifCond .eq 38, 3) := by decide +kernel
theorem d_Mod_word_9 : decode b_Mod_word 9 = .ok (.iload_n 2, 1) := by decide +kernel
theorem d_Mod_word_10 : decode b_Mod_word 10 = .ok (.ifCond .lt 34, 3) := by decide +kernel
theorem d_Mod_word_13 : decode b_Mod_word 13 = .ok (.iload_n 2, 1) := by decide +kernel
theorem d_Mod_word_14 : decode b_Mod_word 14 = .ok (.aload_n 0, 1) := by decide +kernel
theorem d_Mod_word_15 : decode b_Mod_word 15 = .ok (.getfield 7, 3) := by decide +kernel
theorem d_Mod_word_18 : decode b_Mod_word 18 = .ok (.bipush 36, 2) := by decide +kernel
theorem d_Mod_word_20 : decode b_Mod_word 20 = .ok (.iload_n 1, 1) := by decide +kernel
theorem d_Mod_word_21 : decode b_Mod_word 21 = .ok (.imul, 1) := by decide +kernel
theorem d_Mod_word_22 : decode b_Mod_word 22 = .ok (.iconst 2, 1) := by decide +kernel
theorem d_Mod_word_23 : decode b_Mod_word 23 = .ok (.iadd, 1) := by decide +kernel
theorem d_Mod_word_24 : decode b_Mod_word 24 = .ok (.iaload, 1) := by decide +kernel
theorem d_Mod_word_25 : decode b_Mod_word 25 = .ok (.if_icmp .ge 19, 3) := by decide +kernel
theorem d_Mod_word_28 : decode b_Mod_word 28 = .ok (.aload_n 0, 1) := by decide +kernel
theorem d_Mod_word_29 : decode b_Mod_word 29 = .ok (.getfield 7, 3) := by decide +kernel
theorem d_Mod_word_32 : decode b_Mod_word 32 = .ok (.bipush 36, 2) := by decide +kernel
theorem d_Mod_word_34 : decode b_Mod_word 34 = .ok (.iload_n 1, 1) := by decide +kernel
theorem d_Mod_word_35 : decode b_Mod_word 35 = .ok (.imul, 1) := by decide +kernel
theorem d_Mod_word_36 : decode b_Mod_word 36 = .ok (.iconst 3, 1) := by decide +kernel
theorem d_Mod_word_37 : decode b_Mod_word 37 = .ok (.iadd, 1) := by decide +kernel
theorem d_Mod_word_38 : decode b_Mod_word 38 = .ok (.iload_n 2, 1) := by decide +kernel
theorem d_Mod_word_39 : decode b_Mod_word 39 = .ok (.iadd, 1) := by decide +kernel
theorem d_Mod_word_40 : decode b_Mod_word 40 = .ok (.iaload, 1) := by decide +kernel
theorem d_Mod_word_41 : decode b_Mod_word 41 = .ok (.goto 4, 3) := by decide +kernel
theorem d_Mod_word_44 : decode b_Mod_word 44 = .ok (.iconst 0, 1) := by decide +kernel
theorem d_Mod_word_45 : decode b_Mod_word 45 = .ok (.ireturn, 1) := by decide +kernel
theorem d_Mod_bloom_0 : decode b_Mod_bloom 0 = .ok (.iconst 0, 1) := by decide +kernel
theorem d_Mod_bloom_1 : decode b_Mod_bloom 1 = .ok (.istore_n 1, 1) := by decide +kernel
theorem d_Mod_bloom_2 : decode b_Mod_bloom 2 = .ok (.iconst 0, 1) := by decide +kernel
theorem d_Mod_bloom_3 : decode b_Mod_bloom 3 = .ok (.istore_n 2, 1) := by decide +kernel
theorem d_Mod_bloom_4 : decode b_Mod_bloom 4 = .ok (.iload_n 2, 1) := by decide +kernel
theorem d_Mod_bloom_5 : decode b_Mod_bloom 5 = .ok (.aload_n 0, 1) := by decide +kernel
theorem d_Mod_bloom_6 : decode b_Mod_bloom 6 = .ok (.getfield 118, 3) := by decide +kernel
theorem d_Mod_bloom_9 : decode b_Mod_bloom 9 = .ok (.if_icmp .ge 37, 3) := by decide +kernel
theorem d_Mod_bloom_12 : decode b_Mod_bloom 12 = .ok (.aload_n 0, 1) := by decide +kernel
theorem d_Mod_bloom_13 : decode b_Mod_bloom 13 = .ok (.getfield 22, 3) := by decide +kernel
theorem d_Mod_bloom_16 : decode b_Mod_bloom 16 = .ok (.iload_n 2, 1) := by decide +kernel
theorem d_Mod_bloom_17 : decode b_Mod_bloom 17 = .ok (.iaload, 1) := by decide +kernel
theorem d_Mod_bloom_18 : decode b_Mod_bloom 18 = .ok (.istore_n 3, 1) := by decide +kernel
theorem d_Mod_bloom_19 : decode b_Mod_bloom 19 = .ok (.iload_n 1, 1) := by decide +kernel
theorem d_Mod_bloom_20 : decode b_Mod_bloom 20 = .ok (.iconst 1, 1) := by decide +kernel
theorem d_Mod_bloom_21 : decode b_Mod_bloom 21 = .ok (.iload_n 3, 1) := by decide +kernel
theorem d_Mod_bloom_22 : decode b_Mod_bloom 22 = .ok (.bipush 31, 2) := by decide +kernel
theorem d_Mod_bloom_24 : decode b_Mod_bloom 24 = .ok (.iand, 1) := by decide +kernel
theorem d_Mod_bloom_25 : decode b_Mod_bloom 25 = .ok (.ishl, 1) := by decide +kernel
theorem d_Mod_bloom_26 : decode b_Mod_bloom 26 = .ok (.ior, 1) := by decide +kernel
theorem d_Mod_bloom_27 : decode b_Mod_bloom 27 = .ok (.iconst 1, 1) := by decide +kernel
theorem d_Mod_bloom_28 : decode b_Mod_bloom 28 = .ok (.bipush 6, 2) := by decide +kernel
theorem d_Mod_bloom_30 : decode b_Mod_bloom 30 = .ok (.iload_n 3, 1) := by decide +kernel
theorem d_Mod_bloom_31 : decode b_Mod_bloom 31 = .ok (.invokestatic 94, 3) := by decide +kernel
theorem d_Mod_bloom_34 : decode b_Mod_bloom 34 = .ok (.bipush 31, 2) := by decide +kernel
theorem d_Mod_bloom_36 : decode b_Mod_bloom 36 = .ok (.iand, 1) := by decide +kernel
theorem d_Mod_bloom_37 : decode b_Mod_bloom 37 = .ok (.ishl, 1) := by decide +kernel
theorem d_Mod_bloom_38 : decode b_Mod_bloom 38 = .ok (.ior, 1) := by decide +kernel
theorem d_Mod_bloom_39 : decode b_Mod_bloom 39 = .ok (.istore_n 1, 1) := by decide +kernel
theorem d_Mod_bloom_40 : decode b_Mod_bloom 40 = .ok (.iinc 2 1, 3) := by decide +kernel
theorem d_Mod_bloom_43 : decode b_Mod_bloom 43 = .ok (.goto (-39), 3) := by decide +kernel
theorem d_Mod_bloom_46 : decode b_Mod_bloom 46 = .ok (.iload_n 1, 1) := by decide +kernel
theorem d_Mod_bloom_47 : decode b_Mod_bloom 47 = .ok (.ireturn, 1) := by decide +kernel
theorem d_Mod_block_0 : decode b_Mod_block 0 = .ok (.iload_n 1, 1) := by decide +kernel
theorem d_Mod_block_1 : decode b_Mod_block 1 = .ok (.iconst 4, 1) := by decide +kernel
theorem d_Mod_block_2 : decode b_Mod_block 2 = .ok (.if_icmp .ge 60, 3) := by decide +kernel
theorem d_Mod_block_5 : decode b_Mod_block 5 = .ok (.iload_n 1, 1) := by decide +kernel
theorem d_Mod_block_6 : decode b_Mod_block 6 = .ok (.ifCond .ne 10, 3) := by decide +kernel
theorem d_Mod_block_9 : decode b_Mod_block 9 = .ok (.aload_n 0, 1) := by decide +kernel
theorem d_Mod_block_10 : decode b_Mod_block 10 = .ok (.getfield 221, 3) := by decide +kernel
theorem d_Mod_block_13 : decode b_Mod_block 13 = .ok (.goto 48, 3) := by decide +kernel
theorem d_Mod_block_16 : decode b_Mod_block 16 = .ok (.iload_n 1, 1) := by decide +kernel
theorem d_Mod_block_17 : decode b_Mod_block 17 = .ok (.iconst 1, 1) := by decide +kernel
theorem d_Mod_block_18 : decode b_Mod_block 18 = .ok (.if_icmp .ne 10, 3) := by decide +kernel
theorem d_Mod_block_21 : decode b_Mod_block 21 = .ok (.aload_n 0, 1) := by decide +kernel
theorem d_Mod_block_22 : decode b_Mod_block 22 = .ok (.getfield 224, 3) := by decide +kernel
theorem d_Mod_block_25 : decode b_Mod_block 25 = .ok (.goto 36, 3) := by decide +kernel
theorem d_Mod_block_28 : decode b_Mod_block 28 = .ok (.iload_n 1, 1) := by decide +kernel
theorem d_Mod_block_29 : decode b_Mod_block 29 = .ok (.iconst 2, 1) := by decide +kernel
theorem d_Mod_block_30 : decode b_Mod_block 30 = .ok (.if_icmp .ne 10, 3) := by decide +kernel
theorem d_Mod_block_33 : decode b_Mod_block 33 = .ok (.aload_n 0, 1) := by decide +kernel
theorem d_Mod_block_34 : decode b_Mod_block 34 = .ok (.getfield 215, 3) := by decide +kernel
theorem d_Mod_block_37 : decode b_Mod_block 37 = .ok (.goto 24, 3) := by decide +kernel
theorem d_Mod_block_40 : decode b_Mod_block 40 = .ok (.iload_n 1, 1) := by decide +kernel
theorem d_Mod_block_41 : decode b_Mod_block 41 = .ok (.iconst 3, 1) := by decide +kernel
theorem d_Mod_block_42 : decode b_Mod_block 42 = .ok (.if_icmp .ne 18, 3) := by decide +kernel
theorem d_Mod_block_45 : decode b_Mod_block 45 = .ok (.aload_n 0, 1) := by decide +kernel
theorem d_Mod_block_46 : decode b_Mod_block 46 = .ok (.getfield 195, 3) := by decide +kernel
theorem d_Mod_block_49 : decode b_Mod_block 49 = .ok (.ifCond .eq 7, 3) := by decide +kernel
theorem d_Mod_block_52 : decode b_Mod_block 52 = .ok (.iconst 1, 1) := by decide +kernel
theorem d_Mod_block_53 : decode b_Mod_block 53 = .ok (.goto 8, 3) := by decide +kernel
theorem d_Mod_block_56 : decode b_Mod_block 56 = .ok (.iconst 0, 1) := by decide +kernel
theorem d_Mod_block_57 : decode b_Mod_block 57 = .ok (.goto 4, 3) := by decide +kernel
theorem d_Mod_block_60 : decode b_Mod_block 60 = .ok (.iconst (-1), 1) := by decide +kernel
theorem d_Mod_block_61 : decode b_Mod_block 61 = .ok (.ireturn, 1) := by decide +kernel
theorem d_Mod_block_62 : decode b_Mod_block 62 = .ok (.iload_n 1, 1) := by decide +kernel
theorem d_Mod_block_63 : decode b_Mod_block 63 = .ok (.iconst 4, 1) := by decide +kernel
theorem d_Mod_block_64 : decode b_Mod_block 64 = .ok (.if_icmp .ne 10, 3) := by decide +kernel
theorem d_Mod_block_67 : decode b_Mod_block 67 = .ok (.aload_n 0, 1) := by decide +kernel
theorem d_Mod_block_68 : decode b_Mod_block 68 = .ok (.getfield 199, 3) := by decide +kernel
theorem d_Mod_block_71 : decode b_Mod_block 71 = .ok (.goto 42, 3) := by decide +kernel
theorem d_Mod_block_74 : decode b_Mod_block 74 = .ok (.iload_n 1, 1) := by decide +kernel
theorem d_Mod_block_75 : decode b_Mod_block 75 = .ok (.iconst 5, 1) := by decide +kernel
theorem d_Mod_block_76 : decode b_Mod_block 76 = .ok (.if_icmp .ne 10, 3) := by decide +kernel
theorem d_Mod_block_79 : decode b_Mod_block 79 = .ok (.aload_n 0, 1) := by decide +kernel
theorem d_Mod_block_80 : decode b_Mod_block 80 = .ok (.invokevirtual 227, 3) := by decide +kernel
theorem d_Mod_block_83 : decode b_Mod_block 83 = .ok (.goto 30, 3) := by decide +kernel
theorem d_Mod_block_86 : decode b_Mod_block 86 = .ok (.iload_n 1, 1) := by decide +kernel
theorem d_Mod_block_87 : decode b_Mod_block 87 = .ok (.bipush 6, 2) := by decide +kernel
theorem d_Mod_block_89 : decode b_Mod_block 89 = .ok (.if_icmp .ne 10, 3) := by decide +kernel
theorem d_Mod_block_92 : decode b_Mod_block 92 = .ok (.aload_n 0, 1) := by decide +kernel
theorem d_Mod_block_93 : decode b_Mod_block 93 = .ok (.getfield 212, 3) := by decide +kernel
theorem d_Mod_block_96 : decode b_Mod_block 96 = .ok (.goto 17, 3) := by decide +kernel
theorem d_Mod_block_99 : decode b_Mod_block 99 = .ok (.iload_n 1, 1) := by decide +kernel
theorem d_Mod_block_100 : decode b_Mod_block 100 = .ok (.bipush 7, 2) := by decide +kernel
theorem d_Mod_block_102 : decode b_Mod_block 102 = .ok (.if_icmp .ne 10, 3) := by decide +kernel
theorem d_Mod_block_105 : decode b_Mod_block 105 = .ok (.aload_n 0, 1) := by decide +kernel
theorem d_Mod_block_106 : decode b_Mod_block 106 = .ok (.getfield 118, 3) := by decide +kernel
theorem d_Mod_block_109 : decode b_Mod_block 109 = .ok (.goto 4, 3) := by decide +kernel
theorem d_Mod_block_112 : decode b_Mod_block 112 = .ok (.iconst (-1), 1) := by decide +kernel
theorem d_Mod_block_113 : decode b_Mod_block 113 = .ok (.ireturn, 1) := by decide +kernel
theorem d_Mod_receipt_0 : decode b_Mod_receipt 0 = .ok (.iload_n 1, 1) := by decide +kernel
theorem d_Mod_receipt_1 : decode b_Mod_receipt 1 = .ok (.ifCond .lt 38, 3) := by decide +kernel
theorem d_Mod_receipt_4 : decode b_Mod_receipt 4 = .ok (.iload_n 1, 1) := by decide +kernel
theorem d_Mod_receipt_5 : decode b_Mod_receipt 5 = .ok (.aload_n 0, 1) := by decide +kernel
theorem d_Mod_receipt_6 : decode b_Mod_receipt 6 = .ok (.getfield 212, 3) := by decide +kernel
theorem d_Mod_receipt_9 : decode b_Mod_receipt 9 = .ok (.if_icmp .ge 30, 3) := by decide +kernel
theorem d_Mod_receipt_12 : decode b_Mod_receipt 12 = .ok (.iload_n 1, 1) := by decide +kernel
theorem d_Mod_receipt_13 : decode b_Mod_receipt 13 = .ok (.bipush 16, 2) := by decide +kernel
theorem d_Mod_receipt_15 : decode b_Mod_receipt 15 = .ok (.if_icmp .ge 24, 3) := by decide +kernel
theorem d_Mod_receipt_18 : decode b_Mod_receipt 18 = .ok (.iload_n 2, 1) := by decide +kernel
theorem d_Mod_receipt_19 : decode b_Mod_receipt 19 = .ok (.iconst 4, 1) := by decide +kernel
theorem d_Mod_receipt_20 : decode b_Mod_receipt 20 = .ok (.invokestatic 81, 3) := by decide +kernel
theorem d_Mod_receipt_23 : decode b_Mod_receipt 23 = .ok (.ifCond .eq 16, 3) := by decide +kernel
theorem d_Mod_receipt_26 : decode b_Mod_receipt 26 = .ok (.aload_n 0, 1) := by decide +kernel
theorem d_Mod_receipt_27 : decode b_Mod_receipt 27 = .ok (.getfield 16, 3) := by decide +kernel
theorem d_Mod_receipt_30 : decode b_Mod_receipt 30 = .ok (.iconst 4, 1) := by decide +kernel
theorem d_Mod_receipt_31 : decode b_Mod_receipt 31 = .ok (.iload_n 1, 1) := by decide +kernel
theorem d_Mod_receipt_32 : decode b_Mod_receipt 32 = .ok (.imul, 1) := by decide +kernel
theorem d_Mod_receipt_33 : decode b_Mod_receipt 33 = .ok (.iload_n 2, 1) := by decide +kernel
theorem d_Mod_receipt_34 : decode b_Mod_receipt 34 = .ok (.iadd, 1) := by decide +kernel
theorem d_Mod_receipt_35 : decode b_Mod_receipt 35 = .ok (.iaload, 1) := by decide +kernel
theorem d_Mod_receipt_36 : decode b_Mod_receipt 36 = .ok (.goto 4, 3) := by decide +kernel
theorem d_Mod_receipt_39 : decode b_Mod_receipt 39 = .ok (.iconst (-1), 1) := by decide +kernel
theorem d_Mod_receipt_40 : decode b_Mod_receipt 40 = .ok (.ireturn, 1) := by decide +kernel
theorem d_Mod_log_0 : decode b_Mod_log 0 = .ok (.iload_n 1, 1) := by decide +kernel
theorem d_Mod_log_1 : decode b_Mod_log 1 = .ok (.ifCond .lt 25, 3) := by decide +kernel
theorem d_Mod_log_4 : decode b_Mod_log 4 = .ok (.iload_n 1, 1) := by decide +kernel
theorem d_Mod_log_5 : decode b_Mod_log 5 = .ok (.aload_n 0, 1) := by decide +kernel
theorem d_Mod_log_6 : decode b_Mod_log 6 = .ok (.getfield 118, 3) := by decide +kernel
theorem d_Mod_log_9 : decode b_Mod_log 9 = .ok (.if_icmp .ge 17, 3) := by decide +kernel
theorem d_Mod_log_12 : decode b_Mod_log 12 = .ok (.iload_n 1, 1) := by decide +kernel
theorem d_Mod_log_13 : decode b_Mod_log 13 = .ok (.bipush 15, 2) := by decide +kernel
theorem d_Mod_log_15 : decode b_Mod_log 15 = .ok (.if_icmp .gt 11, 3) := by decide +kernel
theorem d_Mod_log_18 : decode b_Mod_log 18 = .ok (.iload_n 2, 1) := by decide +kernel
theorem d_Mod_log_19 : decode b_Mod_log 19 = .ok (.iconst 2, 1) := by decide +kernel
theorem d_Mod_log_20 : decode b_Mod_log 20 = .ok (.invokestatic 81, 3) := by decide +kernel
theorem d_Mod_log_23 : decode b_Mod_log 23 = .ok (.ifCond .ne 7, 3) := by decide +kernel
theorem d_Mod_log_26 : decode b_Mod_log 26 = .ok (.iconst (-1), 1) := by decide +kernel
theorem d_Mod_log_27 : decode b_Mod_log 27 = .ok (.goto 22, 3) := by decide +kernel
theorem d_Mod_log_30 : decode b_Mod_log 30 = .ok (.iload_n 2, 1) := by decide +kernel
theorem d_Mod_log_31 : decode b_Mod_log 31 = .ok (.ifCond .ne 12, 3) := by decide +kernel
theorem d_Mod_log_34 : decode b_Mod_log 34 = .ok (.aload_n 0, 1) := by decide +kernel
theorem d_Mod_log_35 : decode b_Mod_log 35 = .ok (.getfield 19, 3) := by decide +kernel
theorem d_Mod_log_38 : decode b_Mod_log 38 = .ok (.iload_n 1, 1) := by decide +kernel
theorem d_Mod_log_39 : decode b_Mod_log 39 = .ok (.iaload, 1) := by decide +kernel
theorem d_Mod_log_40 : decode b_Mod_log 40 = .ok (.goto 9, 3) := by decide +kernel
theorem d_Mod_log_43 : decode b_Mod_log 43 = .ok (.aload_n 0, 1) := by decide +kernel
theorem d_Mod_log_44 : decode b_Mod_log 44 = .ok (.getfield 22, 3) := by decide +kernel
theorem d_Mod_log_47 : decode b_Mod_log 47 = .ok (.iload_n 1, 1) := by decide +kernel
theorem d_Mod_log_48 : decode b_Mod_log 48 = .ok (.iaload, 1) := by decide +kernel
theorem d_Mod_log_49 : decode b_Mod_log 49 = .ok (.ireturn, 1) := by decide +kernel
theorem d_Mod_total_0 : decode b_Mod_total 0 = .ok (.lconst 0, 1) := by decide +kernel
theorem d_Mod_total_1 : decode b_Mod_total 1 = .ok (.lstore_n 1, 1) := by decide +kernel
theorem d_Mod_total_2 : decode b_Mod_total 2 = .ok (.iconst 0, 1) := by decide +kernel
theorem d_Mod_total_3 : decode b_Mod_total 3 = .ok (.istore_n 3, 1) := by decide +kernel
theorem d_Mod_total_4 : decode b_Mod_total 4 = .ok (.iload_n 3, 1) := by decide +kernel
theorem d_Mod_total_5 : decode b_Mod_total 5 = .ok (.bipush 16, 2) := by decide +kernel
theorem d_Mod_total_7 : decode b_Mod_total 7 = .ok (.if_icmp .ge 22, 3) := by decide +kernel
theorem d_Mod_total_10 : decode b_Mod_total 10 = .ok (.lload_n 1, 1) := by decide +kernel
theorem d_Mod_total_11 : decode b_Mod_total 11 = .ok (.aload_n 0, 1) := by decide +kernel
theorem d_Mod_total_12 : decode b_Mod_total 12 = .ok (.getfield 7, 3) := by decide +kernel
theorem d_Mod_total_15 : decode b_Mod_total 15 = .ok (.bipush 36, 2) := by decide +kernel
theorem d_Mod_total_17 : decode b_Mod_total 17 = .ok (.iload_n 3, 1) := by decide +kernel
theorem d_Mod_total_18 : decode b_Mod_total 18 = .ok (.imul, 1) := by decide +kernel
theorem d_Mod_total_19 : decode b_Mod_total 19 = .ok (.iaload, 1) := by decide +kernel
theorem d_Mod_total_20 : decode b_Mod_total 20 = .ok (.i2l, 1) := by decide +kernel
theorem d_Mod_total_21 : decode b_Mod_total 21 = .ok (.ladd, 1) := by decide +kernel
theorem d_Mod_total_22 : decode b_Mod_total 22 = .ok (.lstore_n 1, 1) := by decide +kernel
theorem d_Mod_total_23 : decode b_Mod_total 23 = .ok (.iinc 3 1, 3) := by decide +kernel
theorem d_Mod_total_26 : decode b_Mod_total 26 = .ok (.goto (-22), 3) := by decide +kernel
theorem d_Mod_total_29 : decode b_Mod_total 29 = .ok (.lload_n 1, 1) := by decide +kernel
theorem d_Mod_total_30 : decode b_Mod_total 30 = .ok (.lreturn, 1) := by decide +kernel
theorem d_Acc_init_0 : decode b_Acc_init 0 = .ok (.aload_n 0, 1) := by decide +kernel
theorem d_Acc_init_1 : decode b_Acc_init 1 = .ok (.invokespecial 3, 3) := by decide +kernel
theorem d_Acc_init_4 : decode b_Acc_init 4 = .ok (.aload_n 0, 1) := by decide +kernel
theorem d_Acc_init_5 : decode b_Acc_init 5 = .ok (.bipush 16, 2) := by decide +kernel
theorem d_Acc_init_7 : decode b_Acc_init 7 = .ok (.newarray .int, 2) := by decide +kernel
theorem d_Acc_init_9 : decode b_Acc_init 9 = .ok (.putfield 9, 3) := by decide +kernel
theorem d_Acc_init_12 : decode b_Acc_init 12 = .ok (.aload_n 0, 1) := by decide +kernel
theorem d_Acc_init_13 : decode b_Acc_init 13 = .ok (.bipush 16, 2) := by decide +kernel
theorem d_Acc_init_15 : decode b_Acc_init 15 = .ok (.newarray .int, 2) := by decide +kernel
theorem d_Acc_init_17 : decode b_Acc_init 17 = .ok (.putfield 15, 3) := by decide +kernel
theorem d_Acc_init_20 : decode b_Acc_init 20 = .ok (.aload_n 0, 1) := by decide +kernel
theorem d_Acc_init_21 : decode b_Acc_init 21 = .ok (.bipush 16, 2) := by decide +kernel
theorem d_Acc_init_23 : decode b_Acc_init 23 = .ok (.newarray .int, 2) := by decide +kernel
theorem d_Acc_init_25 : decode b_Acc_init 25 = .ok (.putfield 18, 3) := by decide +kernel
theorem d_Acc_init_28 : decode b_Acc_init 28 = .ok (.aload_n 0, 1) := by decide +kernel
theorem d_Acc_init_29 : decode b_Acc_init 29 = .ok (.sipush 384, 3) := by decide +kernel
theorem d_Acc_init_32 : decode b_Acc_init 32 = .ok (.newarray .int, 2) := by decide +kernel
theorem d_Acc_init_34 : decode b_Acc_init 34 = .ok (.putfield 21, 3) := by decide +kernel
theorem d_Acc_init_37 : decode b_Acc_init 37 = .ok (.aload_n 0, 1) := by decide +kernel
theorem d_Acc_init_38 : decode b_Acc_init 38 = .ok (.sipush 128, 3) := by decide +kernel
theorem d_Acc_init_41 : decode b_Acc_init 41 = .ok (.newarray .int, 2) := by decide +kernel
theorem d_Acc_init_43 : decode b_Acc_init 43 = .ok (.putfield 24, 3) := by decide +kernel
theorem d_Acc_init_46 : decode b_Acc_init 46 = .ok (.aload_n 0, 1) := by decide +kernel
theorem d_Acc_init_47 : decode b_Acc_init 47 = .ok (.bipush 16, 2) := by decide +kernel
theorem d_Acc_init_49 : decode b_Acc_init 49 = .ok (.newarray .int, 2) := by decide +kernel
theorem d_Acc_init_51 : decode b_Acc_init 51 = .ok (.putfield 27, 3) := by decide +kernel
theorem d_Acc_init_54 : decode b_Acc_init 54 = .ok (.return_, 1) := by decide +kernel
theorem d_Acc_copyFrom_0 : decode b_Acc_copyFrom 0 = .ok (.aload_n 1, 1) := by decide +kernel
theorem d_Acc_copyFrom_1 : decode b_Acc_copyFrom 1 = .ok (.getfield 9, 3) := by decide +kernel
theorem d_Acc_copyFrom_4 : decode b_Acc_copyFrom 4 = .ok (.iconst 0, 1) := by decide +kernel
theorem d_Acc_copyFrom_5 : decode b_Acc_copyFrom 5 = .ok (.aload_n 0, 1) := by decide +kernel
theorem d_Acc_copyFrom_6 : decode b_Acc_copyFrom 6 = .ok (.getfield 9, 3) := by decide +kernel
theorem d_Acc_copyFrom_9 : decode b_Acc_copyFrom 9 = .ok (.iconst 0, 1) := by decide +kernel
theorem d_Acc_copyFrom_10 : decode b_Acc_copyFrom 10 = .ok (.bipush 16, 2) := by decide +kernel
theorem d_Acc_copyFrom_12 : decode b_Acc_copyFrom 12 = .ok (.invokestatic 30, 3) := by decide +kernel
theorem d_Acc_copyFrom_15 : decode b_Acc_copyFrom 15 = .ok (.aload_n 1, 1) := by decide +kernel
theorem d_Acc_copyFrom_16 : decode b_Acc_copyFrom 16 = .ok (.getfield 15, 3) := by decide +kernel
theorem d_Acc_copyFrom_19 : decode b_Acc_copyFrom 19 = .ok (.iconst 0, 1) := by decide +kernel
theorem d_Acc_copyFrom_20 : decode b_Acc_copyFrom 20 = .ok (.aload_n 0, 1) := by decide +kernel
theorem d_Acc_copyFrom_21 : decode b_Acc_copyFrom 21 = .ok (.getfield 15, 3) := by decide +kernel
theorem d_Acc_copyFrom_24 : decode b_Acc_copyFrom 24 = .ok (.iconst 0, 1) := by decide +kernel
theorem d_Acc_copyFrom_25 : decode b_Acc_copyFrom 25 = .ok (.bipush 16, 2) := by decide +kernel
theorem d_Acc_copyFrom_27 : decode b_Acc_copyFrom 27 = .ok (.invokestatic 30, 3) := by decide +kernel
theorem d_Acc_copyFrom_30 : decode b_Acc_copyFrom 30 = .ok (.aload_n 1, 1) := by decide +kernel
theorem d_Acc_copyFrom_31 : decode b_Acc_copyFrom 31 = .ok (.getfield 18, 3) := by decide +kernel
theorem d_Acc_copyFrom_34 : decode b_Acc_copyFrom 34 = .ok (.iconst 0, 1) := by decide +kernel
theorem d_Acc_copyFrom_35 : decode b_Acc_copyFrom 35 = .ok (.aload_n 0, 1) := by decide +kernel
theorem d_Acc_copyFrom_36 : decode b_Acc_copyFrom 36 = .ok (.getfield 18, 3) := by decide +kernel
theorem d_Acc_copyFrom_39 : decode b_Acc_copyFrom 39 = .ok (.iconst 0, 1) := by decide +kernel
theorem d_Acc_copyFrom_40 : decode b_Acc_copyFrom 40 = .ok (.bipush 16, 2) := by decide +kernel
theorem d_Acc_copyFrom_42 : decode b_Acc_copyFrom 42 = .ok (.invokestatic 30, 3) := by decide +kernel
theorem d_Acc_copyFrom_45 : decode b_Acc_copyFrom 45 = .ok (.aload_n 1, 1) := by decide +kernel
theorem d_Acc_copyFrom_46 : decode b_Acc_copyFrom 46 = .ok (.getfield 21, 3) := by decide +kernel
theorem d_Acc_copyFrom_49 : decode b_Acc_copyFrom 49 = .ok (.iconst 0, 1) := by decide +kernel
theorem d_Acc_copyFrom_50 : decode b_Acc_copyFrom 50 = .ok (.aload_n 0, 1) := by decide +kernel
theorem d_Acc_copyFrom_51 : decode b_Acc_copyFrom 51 = .ok (.getfield 21, 3) := by decide +kernel
theorem d_Acc_copyFrom_54 : decode b_Acc_copyFrom 54 = .ok (.iconst 0, 1) := by decide +kernel
theorem d_Acc_copyFrom_55 : decode b_Acc_copyFrom 55 = .ok (.sipush 384, 3) := by decide +kernel
theorem d_Acc_copyFrom_58 : decode b_Acc_copyFrom 58 = .ok (.invokestatic 30, 3) := by decide +kernel
theorem d_Acc_copyFrom_61 : decode b_Acc_copyFrom 61 = .ok (.aload_n 1, 1) := by decide +kernel
theorem d_Acc_copyFrom_62 : decode b_Acc_copyFrom 62 = .ok (.getfield 24, 3) := by decide +kernel
theorem d_Acc_copyFrom_65 : decode b_Acc_copyFrom 65 = .ok (.iconst 0, 1) := by decide +kernel
theorem d_Acc_copyFrom_66 : decode b_Acc_copyFrom 66 = .ok (.aload_n 0, 1) := by decide +kernel
theorem d_Acc_copyFrom_67 : decode b_Acc_copyFrom 67 = .ok (.getfield 24, 3) := by decide +kernel
theorem d_Acc_copyFrom_70 : decode b_Acc_copyFrom 70 = .ok (.iconst 0, 1) := by decide +kernel
theorem d_Acc_copyFrom_71 : decode b_Acc_copyFrom 71 = .ok (.sipush 128, 3) := by decide +kernel
theorem d_Acc_copyFrom_74 : decode b_Acc_copyFrom 74 = .ok (.invokestatic 30, 3) := by decide +kernel
theorem d_Acc_copyFrom_77 : decode b_Acc_copyFrom 77 = .ok (.return_, 1) := by decide +kernel
