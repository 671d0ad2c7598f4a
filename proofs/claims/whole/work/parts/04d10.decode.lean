theorem d_Frm_start_0 : decode b_Frm_start 0 = .ok (.aload_n 0, 1) := by decide +kernel
theorem d_Frm_start_1 : decode b_Frm_start 1 = .ok (.iload_n 1, 1) := by decide +kernel
theorem d_Frm_start_2 : decode b_Frm_start 2 = .ok (.putfield 22, 3) := by decide +kernel
theorem d_Frm_start_5 : decode b_Frm_start 5 = .ok (.aload_n 0, 1) := by decide +kernel
theorem d_Frm_start_6 : decode b_Frm_start 6 = .ok (.iload_n 2, 1) := by decide +kernel
theorem d_Frm_start_7 : decode b_Frm_start 7 = .ok (.putfield 26, 3) := by decide +kernel
theorem d_Frm_start_10 : decode b_Frm_start 10 = .ok (.aload_n 0, 1) := by decide +kernel
theorem d_Frm_start_11 : decode b_Frm_start 11 = .ok (.iconst 0, 1) := by decide +kernel
theorem d_Frm_start_12 : decode b_Frm_start 12 = .ok (.putfield 29, 3) := by decide +kernel
theorem d_Frm_start_15 : decode b_Frm_start 15 = .ok (.aload_n 0, 1) := by decide +kernel
theorem d_Frm_start_16 : decode b_Frm_start 16 = .ok (.iload_n 3, 1) := by decide +kernel
theorem d_Frm_start_17 : decode b_Frm_start 17 = .ok (.putfield 32, 3) := by decide +kernel
theorem d_Frm_start_20 : decode b_Frm_start 20 = .ok (.aload_n 0, 1) := by decide +kernel
theorem d_Frm_start_21 : decode b_Frm_start 21 = .ok (.iload 4, 2) := by decide +kernel
theorem d_Frm_start_23 : decode b_Frm_start 23 = .ok (.putfield 35, 3) := by decide +kernel
theorem d_Frm_start_26 : decode b_Frm_start 26 = .ok (.aload_n 0, 1) := by decide +kernel
theorem d_Frm_start_27 : decode b_Frm_start 27 = .ok (.iload 5, 2) := by decide +kernel
theorem d_Frm_start_29 : decode b_Frm_start 29 = .ok (.putfield 38, 3) := by decide +kernel
theorem d_Frm_start_32 : decode b_Frm_start 32 = .ok (.aload_n 0, 1) := by decide +kernel
theorem d_Frm_start_33 : decode b_Frm_start 33 = .ok (.iload 6, 2) := by decide +kernel
theorem d_Frm_start_35 : decode b_Frm_start 35 = .ok (.putfield 41, 3) := by decide +kernel
theorem d_Frm_start_38 : decode b_Frm_start 38 = .ok (.aload_n 0, 1) := by decide +kernel
theorem d_Frm_start_39 : decode b_Frm_start 39 = .ok (.iconst 0, 1) := by decide +kernel
theorem d_Frm_start_40 : decode b_Frm_start 40 = .ok (.putfield 44, 3) := by decide +kernel
theorem d_Frm_start_43 : decode b_Frm_start 43 = .ok (.aload_n 0, 1) := by decide +kernel
theorem d_Frm_start_44 : decode b_Frm_start 44 = .ok (.iconst 0, 1) := by decide +kernel
theorem d_Frm_start_45 : decode b_Frm_start 45 = .ok (.putfield 47, 3) := by decide +kernel
theorem d_Frm_start_48 : decode b_Frm_start 48 = .ok (.return_, 1) := by decide +kernel
theorem d_Frm_end_0 : decode b_Frm_end 0 = .ok (.aload_n 0, 1) := by decide +kernel
theorem d_Frm_end_1 : decode b_Frm_end 1 = .ok (.iconst 1, 1) := by decide +kernel
theorem d_Frm_end_2 : decode b_Frm_end 2 = .ok (.putfield 47, 3) := by decide +kernel
theorem d_Frm_end_5 : decode b_Frm_end 5 = .ok (.aload_n 0, 1) := by decide +kernel
theorem d_Frm_end_6 : decode b_Frm_end 6 = .ok (.iload_n 1, 1) := by decide +kernel
theorem d_Frm_end_7 : decode b_Frm_end 7 = .ok (.putfield 51, 3) := by decide +kernel
theorem d_Frm_end_10 : decode b_Frm_end 10 = .ok (.aload_n 0, 1) := by decide +kernel
theorem d_Frm_end_11 : decode b_Frm_end 11 = .ok (.iload_n 2, 1) := by decide +kernel
theorem d_Frm_end_12 : decode b_Frm_end 12 = .ok (.putfield 54, 3) := by decide +kernel
theorem d_Frm_end_15 : decode b_Frm_end 15 = .ok (.return_, 1) := by decide +kernel
theorem d_Frm_fail_0 : decode b_Frm_fail 0 = .ok (.aload_n 0, 1) := by decide +kernel
theorem d_Frm_fail_1 : decode b_Frm_fail 1 = .ok (.iconst 0, 1) := by decide +kernel
theorem d_Frm_fail_2 : decode b_Frm_fail 2 = .ok (.putfield 41, 3) := by decide +kernel
theorem d_Frm_fail_5 : decode b_Frm_fail 5 = .ok (.aload_n 0, 1) := by decide +kernel
theorem d_Frm_fail_6 : decode b_Frm_fail 6 = .ok (.iconst 0, 1) := by decide +kernel
theorem d_Frm_fail_7 : decode b_Frm_fail 7 = .ok (.iconst 0, 1) := by decide +kernel
theorem d_Frm_fail_8 : decode b_Frm_fail 8 = .ok (.invokevirtual 57, 3) := by decide +kernel
theorem d_Frm_fail_11 : decode b_Frm_fail 11 = .ok (.return_, 1) := by decide +kernel
theorem d_Frm_below_0 : decode b_Frm_below 0 = .ok (.aload_n 0, 1) := by decide +kernel
theorem d_Frm_below_1 : decode b_Frm_below 1 = .ok (.getfield 44, 3) := by decide +kernel
theorem d_Frm_below_4 : decode b_Frm_below 4 = .ok (.iconst 1, 1) := by decide +kernel
theorem d_Frm_below_5 : decode b_Frm_below 5 = .ok (.isub, 1) := by decide +kernel
theorem d_Frm_below_6 : decode b_Frm_below 6 = .ok (.iload_n 1, 1) := by decide +kernel
theorem d_Frm_below_7 : decode b_Frm_below 7 = .ok (.isub, 1) := by decide +kernel
theorem d_Frm_below_8 : decode b_Frm_below 8 = .ok (.istore_n 2, 1) := by decide +kernel
theorem d_Frm_below_9 : decode b_Frm_below 9 = .ok (.iload_n 2, 1) := by decide +kernel
theorem d_Frm_below_10 : decode b_Frm_below 10 = .ok (.ifCond .lt 20, 3) := by decide +kernel
theorem d_Frm_below_13 : decode b_Frm_below 13 = .ok (.iload_n 2, 1) := by decide +kernel
theorem d_Frm_below_14 : decode b_Frm_below 14 = .ok (.aload_n 0, 1) := by decide +kernel
theorem d_Frm_below_15 : decode b_Frm_below 15 = .ok (.getfield 44, 3) := by decide +kernel
theorem d_Frm_below_18 : decode b_Frm_below 18 = .ok (.if_icmp .ge 12, 3) := by decide +kernel
theorem d_Frm_below_21 : decode b_Frm_below 21 = .ok (.aload_n 0, 1) := by decide +kernel
theorem d_Frm_below_22 : decode b_Frm_below 22 = .ok (.getfield 9, 3) := by decide +kernel
theorem d_Frm_below_25 : decode b_Frm_below 25 = .ok (.iload_n 2, 1) := by decide +kernel
theorem d_Frm_below_26 : decode b_Frm_below 26 = .ok (.iaload, 1) := by decide +kernel
theorem d_Frm_below_27 : decode b_Frm_below 27 = .ok (.goto 4, 3) := by decide +kernel
theorem d_Frm_below_30 : decode b_Frm_below 30 = .ok (.iconst 0, 1) := by decide +kernel
theorem d_Frm_below_31 : decode b_Frm_below 31 = .ok (.ireturn, 1) := by decide +kernel
theorem d_Frm_push_0 : decode b_Frm_push 0 = .ok (.aload_n 0, 1) := by decide +kernel
theorem d_Frm_push_1 : decode b_Frm_push 1 = .ok (.getfield 44, 3) := by decide +kernel
theorem d_Frm_push_4 : decode b_Frm_push 4 = .ok (.bipush 12, 2) := by decide +kernel
theorem d_Frm_push_6 : decode b_Frm_push 6 = .ok (.if_icmp .ge 23, 3) := by decide +kernel
theorem d_Frm_push_9 : decode b_Frm_push 9 = .ok (.aload_n 0, 1) := by decide +kernel
theorem d_Frm_push_10 : decode b_Frm_push 10 = .ok (.getfield 9, 3) := by decide +kernel
theorem d_Frm_push_13 : decode b_Frm_push 13 = .ok (.aload_n 0, 1) := by decide +kernel
theorem d_Frm_push_14 : decode b_Frm_push 14 = .ok (.getfield 44, 3) := by decide +kernel
theorem d_Frm_push_17 : decode b_Frm_push 17 = .ok (.iload_n 1, 1) := by decide +kernel
theorem d_Frm_push_18 : decode b_Frm_push 18 = .ok (.iastore, 1) := by decide +kernel
theorem d_Frm_push_19 : decode b_Frm_push 19 = .ok (.aload_n 0, 1) := by decide +kernel
theorem d_Frm_push_20 : decode b_Frm_push 20 = .ok (.dup, 1) := by decide +kernel
theorem d_Frm_push_21 : decode b_Frm_push 21 = .ok (.getfield 44, 3) := by decide +kernel
theorem d_Frm_push_24 : decode b_Frm_push 24 = .ok (.iconst 1, 1) := by decide +kernel
theorem d_Frm_push_25 : decode b_Frm_push 25 = .ok (.iadd, 1) := by decide +kernel
theorem d_Frm_push_26 : decode b_Frm_push 26 = .ok (.putfield 44, 3) := by decide +kernel
theorem d_Frm_push_29 : decode b_Frm_push 29 = .ok (.return_, 1) := by decide +kernel
theorem d_Frm_pop_0 : decode b_Frm_pop 0 = .ok (.aload_n 0, 1) := by decide +kernel
theorem d_Frm_pop_1 : decode b_Frm_pop 1 = .ok (.getfield 44, 3) := by decide +kernel
theorem d_Frm_pop_4 : decode b_Frm_pop 4 = .ok (.ifCond .gt 5, 3) := by decide +kernel
theorem d_Frm_pop_7 : decode b_Frm_pop 7 = .ok (.iconst 0, 1) := by decide +kernel
theorem d_Frm_pop_8 : decode b_Frm_pop 8 = .ok (.ireturn, 1) := by decide +kernel
theorem d_Frm_pop_9 : decode b_Frm_pop 9 = .ok (.aload_n 0, 1) := by decide +kernel
theorem d_Frm_pop_10 : decode b_Frm_pop 10 = .ok (.dup, 1) := by decide +kernel
theorem d_Frm_pop_11 : decode b_Frm_pop 11 = .ok (.getfield 44, 3) := by decide +kernel
theorem d_Frm_pop_14 : decode b_Frm_pop 14 = .ok (.iconst 1, 1) := by decide +kernel
theorem d_Frm_pop_15 : decode b_Frm_pop 15 = .ok (.isub, 1) := by decide +kernel
theorem d_Frm_pop_16 : decode b_Frm_pop 16 = .ok (.putfield 44, 3) := by decide +kernel
theorem d_Frm_pop_19 : decode b_Frm_pop 19 = .ok (.aload_n 0, 1) := by decide +kernel
theorem d_Frm_pop_20 : decode b_Frm_pop 20 = .ok (.getfield 9, 3) := by decide +kernel
theorem d_Frm_pop_23 : decode b_Frm_pop 23 = .ok (.aload_n 0, 1) := by decide +kernel
theorem d_Frm_pop_24 : decode b_Frm_pop 24 = .ok (.getfield 44, 3) := by decide +kernel
theorem d_Frm_pop_27 : decode b_Frm_pop 27 = .ok (.iaload, 1) := by decide +kernel
theorem d_Frm_pop_28 : decode b_Frm_pop 28 = .ok (.ireturn, 1) := by decide +kernel
theorem d_Frm_swap_0 : decode b_Frm_swap 0 = .ok (.aload_n 0, 1) := by decide +kernel
theorem d_Frm_swap_1 : decode b_Frm_swap 1 = .ok (.getfield 44, 3) := by decide +kernel
theorem d_Frm_swap_4 : decode b_Frm_swap 4 = .ok (.iconst 1, 1) := by decide +kernel
theorem d_Frm_swap_5 : decode b_Frm_swap 5 = .ok (.isub, 1) := by decide +kernel
theorem d_Frm_swap_6 : decode b_Frm_swap 6 = .ok (.iload_n 1, 1) := by decide +kernel
theorem d_Frm_swap_7 : decode b_Frm_swap 7 = .ok (.isub, 1) := by decide +kernel
theorem d_Frm_swap_8 : decode b_Frm_swap 8 = .ok (.istore_n 2, 1) := by decide +kernel
theorem d_Frm_swap_9 : decode b_Frm_swap 9 = .ok (.iload_n 2, 1) := by decide +kernel
theorem d_Frm_swap_10 : decode b_Frm_swap 10 = .ok (.ifCond .lt 47, 3) := by decide +kernel
theorem d_Frm_swap_13 : decode b_Frm_swap 13 = .ok (.iload_n 2, 1) := by decide +kernel
theorem d_Frm_swap_14 : decode b_Frm_swap 14 = .ok (.aload_n 0, 1) := by decide +kernel
theorem d_Frm_swap_15 : decode b_Frm_swap 15 = .ok (.getfield 44, 3) := by decide +kernel
theorem d_Frm_swap_18 : decode b_Frm_swap 18 = .ok (.if_icmp .ge 39, 3) := by decide +kernel
theorem d_Frm_swap_21 : decode b_Frm_swap 21 = .ok (.aload_n 0, 1) := by decide +kernel
theorem d_Frm_swap_22 : decode b_Frm_swap 22 = .ok (.getfield 9, 3) := by decide +kernel
theorem d_Frm_swap_25 : decode b_Frm_swap 25 = .ok (.aload_n 0, 1) := by decide +kernel
theorem d_Frm_swap_26 : decode b_Frm_swap 26 = .ok (.getfield 44, 3) := by decide +kernel
theorem d_Frm_swap_29 : decode b_Frm_swap 29 = .ok (.iconst 1, 1) := by decide +kernel
theorem d_Frm_swap_30 : decode b_Frm_swap 30 = .ok (.isub, 1) := by decide +kernel
theorem d_Frm_swap_31 : decode b_Frm_swap 31 = .ok (.iaload, 1) := by decide +kernel
theorem d_Frm_swap_32 : decode b_Frm_swap 32 = .ok (.istore_n 3, 1) := by decide +kernel
theorem d_Frm_swap_33 : decode b_Frm_swap 33 = .ok (.aload_n 0, 1) := by decide +kernel
theorem d_Frm_swap_34 : decode b_Frm_swap 34 = .ok (.getfield 9, 3) := by decide +kernel
theorem d_Frm_swap_37 : decode b_Frm_swap 37 = .ok (.aload_n 0, 1) := by decide +kernel
theorem d_Frm_swap_38 : decode b_Frm_swap 38 = .ok (.getfield 44, 3) := by decide +kernel
theorem d_Frm_swap_41 : decode b_Frm_swap 41 = .ok (.iconst 1, 1) := by decide +kernel
theorem d_Frm_swap_42 : decode b_Frm_swap 42 = .ok (.isub, 1) := by decide +kernel
theorem d_Frm_swap_43 : decode b_Frm_swap 43 = .ok (.aload_n 0, 1) := by decide +kernel
theorem d_Frm_swap_44 : decode b_Frm_swap 44 = .ok (.getfield 9, 3) := by decide +kernel
theorem d_Frm_swap_47 : decode b_Frm_swap 47 = .ok (.iload_n 2, 1) := by decide +kernel
theorem d_Frm_swap_48 : decode b_Frm_swap 48 = .ok (.iaload, 1) := by decide +kernel
theorem d_Frm_swap_49 : decode b_Frm_swap 49 = .ok (.iastore, 1) := by decide +kernel
theorem d_Frm_swap_50 : decode b_Frm_swap 50 = .ok (.aload_n 0, 1) := by decide +kernel
theorem d_Frm_swap_51 : decode b_Frm_swap 51 = .ok (.getfield 9, 3) := by decide +kernel
theorem d_Frm_swap_54 : decode b_Frm_swap 54 = .ok (.iload_n 2, 1) := by decide +kernel
theorem d_Frm_swap_55 : decode b_Frm_swap 55 = .ok (.iload_n 3, 1) := by decide +kernel
theorem d_Frm_swap_56 : decode b_Frm_swap 56 = .ok (.iastore, 1) := by decide +kernel
theorem d_Frm_swap_57 : decode b_Frm_swap 57 = .ok (.return_, 1) := by decide +kernel
theorem d_Log_init_0 : decode b_Log_init 0 = .ok (.aload_n 0, 1) := by decide +kernel
theorem d_Log_init_1 : decode b_Log_init 1 = .ok (.invokespecial 3, 3) := by decide +kernel
theorem d_Log_init_4 : decode b_Log_init 4 = .ok (.aload_n 0, 1) := by decide +kernel
theorem d_Log_init_5 : decode b_Log_init 5 = .ok (.bipush 16, 2) := by decide +kernel
theorem d_Log_init_7 : decode b_Log_init 7 = .ok (.newarray .int, 2) := by decide +kernel
theorem d_Log_init_9 : decode b_Log_init 9 = .ok (.putfield 9, 3) := by decide +kernel
theorem d_Log_init_12 : decode b_Log_init 12 = .ok (.aload_n 0, 1) := by decide +kernel
theorem d_Log_init_13 : decode b_Log_init 13 = .ok (.bipush 16, 2) := by decide +kernel
theorem d_Log_init_15 : decode b_Log_init 15 = .ok (.newarray .int, 2) := by decide +kernel
theorem d_Log_init_17 : decode b_Log_init 17 = .ok (.putfield 15, 3) := by decide +kernel
theorem d_Log_init_20 : decode b_Log_init 20 = .ok (.return_, 1) := by decide +kernel
theorem d_Log_add_0 : decode b_Log_add 0 = .ok (.aload_n 0, 1) := by decide +kernel
theorem d_Log_add_1 : decode b_Log_add 1 = .ok (.getfield 18, 3) := by decide +kernel
theorem d_Log_add_4 : decode b_Log_add 4 = .ok (.bipush 16, 2) := by decide +kernel
theorem d_Log_add_6 : decode b_Log_add 6 = .ok (.if_icmp .ge 23, 3) := by decide +kernel
theorem d_Log_add_9 : decode b_Log_add 9 = .ok (.aload_n 0, 1) := by decide +kernel
theorem d_Log_add_10 : decode b_Log_add 10 = .ok (.getfield 9, 3) := by decide +kernel
theorem d_Log_add_13 : decode b_Log_add 13 = .ok (.aload_n 0, 1) := by decide +kernel
theorem d_Log_add_14 : decode b_Log_add 14 = .ok (.getfield 18, 3) := by decide +kernel
theorem d_Log_add_17 : decode b_Log_add 17 = .ok (.iload_n 1, 1) := by decide +kernel
theorem d_Log_add_18 : decode b_Log_add 18 = .ok (.iastore, 1) := by decide +kernel
theorem d_Log_add_19 : decode b_Log_add 19 = .ok (.aload_n 0, 1) := by decide +kernel
theorem d_Log_add_20 : decode b_Log_add 20 = .ok (.getfield 15, 3) := by decide +kernel
theorem d_Log_add_23 : decode b_Log_add 23 = .ok (.aload_n 0, 1) := by decide +kernel
theorem d_Log_add_24 : decode b_Log_add 24 = .ok (.getfield 18, 3) := by decide +kernel
theorem d_Log_add_27 : decode b_Log_add 27 = .ok (.iload_n 2, 1) := by decide +kernel
theorem d_Log_add_28 : decode b_Log_add 28 = .ok (.iastore, 1) := by decide +kernel
theorem d_Log_add_29 : decode b_Log_add 29 = .ok (.aload_n 0, 1) := by decide +kernel
theorem d_Log_add_30 : decode b_Log_add 30 = .ok (.dup, 1) := by decide +kernel
theorem d_Log_add_31 : decode b_Log_add 31 = .ok (.getfield 18, 3) := by decide +kernel
theorem d_Log_add_34 : decode b_Log_add 34 = .ok (.iconst 1, 1) := by decide +kernel
theorem d_Log_add_35 : decode b_Log_add 35 = .ok (.iadd, 1) := by decide +kernel
theorem d_Log_add_36 : decode b_Log_add 36 = .ok (.putfield 18, 3) := by decide +kernel
theorem d_Log_add_39 : decode b_Log_add 39 = .ok (.aload_n 0, 1) := by decide +kernel
theorem d_Log_add_40 : decode b_Log_add 40 = .ok (.dup, 1) := by decide +kernel
theorem d_Log_add_41 : decode b_Log_add 41 = .ok (.getfield 22, 3) := by decide +kernel
theorem d_Log_add_44 : decode b_Log_add 44 = .ok (.iconst 1, 1) := by decide +kernel
theorem d_Log_add_45 : decode b_Log_add 45 = .ok (.iload_n 2, 1) := by decide +kernel
theorem d_Log_add_46 : decode b_Log_add 46 = .ok (.bipush 31, 2) := by decide +kernel
theorem d_Log_add_48 : decode b_Log_add 48 = .ok (.iand, 1) := by decide +kernel
theorem d_Log_add_49 : decode b_Log_add 49 = .ok (.ishl, 1) := by decide +kernel
theorem d_Log_add_50 : decode b_Log_add 50 = .ok (.iconst 1, 1) := by decide +kernel
theorem d_Log_add_51 : decode b_Log_add 51 = .ok (.bipush 6, 2) := by decide +kernel
theorem d_Log_add_53 : decode b_Log_add 53 = .ok (.iload_n 2, 1) := by decide +kernel
theorem d_Log_add_54 : decode b_Log_add 54 = .ok (.invokestatic 25, 3) := by decide +kernel
theorem d_Log_add_57 : decode b_Log_add 57 = .ok (.bipush 31, 2) := by decide +kernel
theorem d_Log_add_59 : decode b_Log_add 59 = .ok (.iand, 1) := by decide +kernel
theorem d_Log_add_60 : decode b_Log_add 60 = .ok (.ishl, 1) := by decide +kernel
theorem d_Log_add_61 : decode b_Log_add 61 = .ok (.ior, 1) := by decide +kernel
theorem d_Log_add_62 : decode b_Log_add 62 = .ok (.ior, 1) := by decide +kernel
theorem d_Log_add_63 : decode b_Log_add 63 = .ok (.putfield 22, 3) := by decide +kernel
theorem d_Log_add_66 : decode b_Log_add 66 = .ok (.return_, 1) := by decide +kernel
theorem d_Log_cutBackTo_0 : decode b_Log_cutBackTo 0 = .ok (.aload_n 0, 1) := by decide +kernel
theorem d_Log_cutBackTo_1 : decode b_Log_cutBackTo 1 = .ok (.iload_n 1, 1) := by decide +kernel
theorem d_Log_cutBackTo_2 : decode b_Log_cutBackTo 2 = .ok (.putfield 18, 3) := by decide +kernel
theorem d_Log_cutBackTo_5 : decode b_Log_cutBackTo 5 = .ok (.aload_n 0, 1) := by decide +kernel
theorem d_Log_cutBackTo_6 : decode b_Log_cutBackTo 6 = .ok (.iload_n 2, 1) := by decide +kernel
theorem d_Log_cutBackTo_7 : decode b_Log_cutBackTo 7 = .ok (.putfield 22, 3) := by decide +kernel
theorem d_Log_cutBackTo_10 : decode b_Log_cutBackTo 10 = .ok (.return_, 1) := by decide +kernel
theorem d_Log_partOf_0 : decode b_Log_partOf 0 = .ok (.iload_n 1, 1) := by decide +kernel
theorem d_Log_partOf_1 : decode b_Log_partOf 1 = .ok (.ifCond .lt 17, 3) := by decide +kernel
theorem d_Log_partOf_4 : decode b_Log_partOf 4 = .ok (.iload_n 1, 1) := by decide +kernel
theorem d_Log_partOf_5 : decode b_Log_partOf 5 = .ok (.aload_n 0, 1) := by decide +kernel
theorem d_Log_partOf_6 : decode b_Log_partOf 6 = .ok (.getfield 18, 3) := by decide +kernel
theorem d_Log_partOf_9 : decode b_Log_partOf 9 = .ok (.if_icmp .ge 9, 3) := by decide +kernel
theorem d_Log_partOf_12 : decode b_Log_partOf 12 = .ok (.iload_n 1, 1) := by decide +kernel
theorem d_Log_partOf_13 : decode b_Log_partOf 13 = .ok (.bipush 16, 2) := by decide +kernel
theorem d_Log_partOf_15 : decode b_Log_partOf 15 = .ok (.if_icmp .lt 5, 3) := by decide +kernel
theorem d_Log_partOf_18 : decode b_Log_partOf 18 = .ok (.iconst (-1), 1) := by decide +kernel
theorem d_Log_partOf_19 : decode b_Log_partOf 19 = .ok (.ireturn, 1) := by decide +kernel
theorem d_Log_partOf_20 : decode b_Log_partOf 20 = .ok (.iload_n 2, 1) := by decide +kernel
theorem d_Log_partOf_21 : decode b_Log_partOf 21 = .ok (.lookupswitch 41 #[(0, 27), (1, 34)], 27) := by decide +kernel
theorem d_Log_partOf_48 : decode b_Log_partOf 48 = .ok (.aload_n 0, 1) := by decide +kernel
theorem d_Log_partOf_49 : decode b_Log_partOf 49 = .ok (.getfield 9, 3) := by decide +kernel
theorem d_Log_partOf_52 : decode b_Log_partOf 52 = .ok (.iload_n 1, 1) := by decide +kernel
theorem d_Log_partOf_53 : decode b_Log_partOf 53 = .ok (.iaload, 1) := by decide +kernel
theorem d_Log_partOf_54 : decode b_Log_partOf 54 = .ok (.ireturn, 1) := by decide +kernel
theorem d_Log_partOf_55 : decode b_Log_partOf 55 = .ok (.aload_n 0, 1) := by decide +kernel
theorem d_Log_partOf_56 : decode b_Log_partOf 56 = .ok (.getfield 15, 3) := by decide +kernel
theorem d_Log_partOf_59 : decode b_Log_partOf 59 = .ok (.iload_n 1, 1) := by decide +kernel
theorem d_Log_partOf_60 : decode b_Log_partOf 60 = .ok (.iaload, 1) := by decide +kernel
theorem d_Log_partOf_61 : decode b_Log_partOf 61 = .ok (.ireturn, 1) := by decide +kernel
theorem d_Log_partOf_62 : decode b_Log_partOf 62 = .ok (.iconst (-1), 1) := by decide +kernel
theorem d_Log_partOf_63 : decode b_Log_partOf 63 = .ok (.ireturn, 1) := by decide +kernel
theorem d_Mac_init_0 : decode b_Mac_init 0 = .ok (.aload_n 0, 1) := by decide +kernel
theorem d_Mac_init_1 : decode b_Mac_init 1 = .ok (.invokespecial 3, 3) := by decide +kernel
theorem d_Mac_init_4 : decode b_Mac_init 4 = .ok (.aload_n 0, 1) := by decide +kernel
theorem d_Mac_init_5 : decode b_Mac_init 5 = .ok (.new 9, 3) := by decide +kernel
theorem d_Mac_init_8 : decode b_Mac_init 8 = .ok (.dup, 1) := by decide +kernel
theorem d_Mac_init_9 : decode b_Mac_init 9 = .ok (.invokespecial 11, 3) := by decide +kernel
theorem d_Mac_init_12 : decode b_Mac_init 12 = .ok (.putfield 12, 3) := by decide +kernel
theorem d_Mac_init_15 : decode b_Mac_init 15 = .ok (.aload_n 0, 1) := by decide +kernel
theorem d_Mac_init_16 : decode b_Mac_init 16 = .ok (.new 18, 3) := by decide +kernel
theorem d_Mac_init_19 : decode b_Mac_init 19 = .ok (.dup, 1) := by decide +kernel
theorem d_Mac_init_20 : decode b_Mac_init 20 = .ok (.invokespecial 20, 3) := by decide +kernel
theorem d_Mac_init_23 : decode b_Mac_init 23 = .ok (.putfield 21, 3) := by decide +kernel
theorem d_Mac_init_26 : decode b_Mac_init 26 = .ok (.aload_n 0, 1) := by decide +kernel
theorem d_Mac_init_27 : decode b_Mac_init 27 = .ok (.bipush 8, 2) := by decide +kernel
theorem d_Mac_init_29 : decode b_Mac_init 29 = .ok (.anewarray 25, 3) := by decide +kernel
theorem d_Mac_init_32 : decode b_Mac_init 32 = .ok (.putfield 27, 3) := by decide +kernel
theorem d_Mac_init_35 : decode b_Mac_init 35 = .ok (.iconst 0, 1) := by decide +kernel
theorem d_Mac_init_36 : decode b_Mac_init 36 = .ok (.istore_n 1, 1) := by decide +kernel
theorem d_Mac_init_37 : decode b_Mac_init 37 = .ok (.iload_n 1, 1) := by decide +kernel
theorem d_Mac_init_38 : decode b_Mac_init 38 = .ok (.bipush 8, 2) := by decide +kernel
theorem d_Mac_init_40 : decode b_Mac_init 40 = .ok (.if_icmp .ge 22, 3) := by decide +kernel
theorem d_Mac_init_43 : decode b_Mac_init 43 = .ok (.aload_n 0, 1) := by decide +kernel
theorem d_Mac_init_44 : decode b_Mac_init 44 = .ok (.getfield 27, 3) := by decide +kernel
theorem d_Mac_init_47 : decode b_Mac_init 47 = .ok (.iload_n 1, 1) := by decide +kernel
theorem d_Mac_init_48 : decode b_Mac_init 48 = .ok (.new 25, 3) := by decide +kernel
theorem d_Mac_init_51 : decode b_Mac_init 51 = .ok (.dup, 1) := by decide +kernel
theorem d_Mac_init_52 : decode b_Mac_init 52 = .ok (.invokespecial 31, 3) := by decide +kernel
theorem d_Mac_init_55 : decode b_Mac_init 55 = .ok (.aastore, 1) := by decide +kernel
theorem d_Mac_init_56 : decode b_Mac_init 56 = .ok (.iinc 1 1, 3) := by decide +kernel
theorem d_Mac_init_59 : decode b_Mac_init 59 = .ok (.goto (-22), 3) := by decide +kernel
theorem d_Mac_init_62 : decode b_Mac_init 62 = .ok (.return_, 1) := by decide +kernel
theorem d_Mac_run_0 : decode b_Mac_run 0 = .ok (.aload_n 0, 1) := by decide +kernel
theorem d_Mac_run_1 : decode b_Mac_run 1 = .ok (.iconst 0, 1) := by decide +kernel
theorem d_Mac_run_2 : decode b_Mac_run 2 = .ok (.putfield 32, 3) := by decide +kernel
theorem d_Mac_run_5 : decode b_Mac_run 5 = .ok (.aload_n 0, 1) := by decide +kernel
theorem d_Mac_run_6 : decode b_Mac_run 6 = .ok (.iconst 0, 1) := by decide +kernel
theorem d_Mac_run_7 : decode b_Mac_run 7 = .ok (.putfield 36, 3) := by decide +kernel
theorem d_Mac_run_10 : decode b_Mac_run 10 = .ok (.aload_n 0, 1) := by decide +kernel
theorem d_Mac_run_11 : decode b_Mac_run 11 = .ok (.iconst 0, 1) := by decide +kernel
theorem d_Mac_run_12 : decode b_Mac_run 12 = .ok (.putfield 39, 3) := by decide +kernel
theorem d_Mac_run_15 : decode b_Mac_run 15 = .ok (.aload_n 0, 1) := by decide +kernel
theorem d_Mac_run_16 : decode b_Mac_run 16 = .ok (.iload_n 2, 1) := by decide +kernel
theorem d_Mac_run_17 : decode b_Mac_run 17 = .ok (.iload_n 2, 1) := by decide +kernel
theorem d_Mac_run_18 : decode b_Mac_run 18 = .ok (.iload_n 1, 1) := by decide +kernel
theorem d_Mac_run_19 : decode b_Mac_run 19 = .ok (.iload_n 3, 1) := by decide +kernel
theorem d_Mac_run_20 : decode b_Mac_run 20 = .ok (.iload 4, 2) := by decide +kernel
theorem d_Mac_run_22 : decode b_Mac_run 22 = .ok (.iload 5, 2) := by decide +kernel
theorem d_Mac_run_24 : decode b_Mac_run 24 = .ok (.invokevirtual 42, 3) := by decide +kernel
theorem d_Mac_run_27 : decode b_Mac_run 27 = .ok (.aload_n 0, 1) := by decide +kernel
theorem d_Mac_run_28 : decode b_Mac_run 28 = .ok (.getfield 12, 3) := by decide +kernel
theorem d_Mac_run_31 : decode b_Mac_run 31 = .ok (.iload_n 1, 1) := by decide +kernel
theorem d_Mac_run_32 : decode b_Mac_run 32 = .ok (.iload_n 2, 1) := by decide +kernel
theorem d_Mac_run_33 : decode b_Mac_run 33 = .ok (.iload_n 3, 1) := by decide +kernel
theorem d_Mac_run_34 : decode b_Mac_run 34 = .ok (.invokevirtual 46, 3) := by decide +kernel
theorem d_Mac_run_37 : decode b_Mac_run 37 = .ok (.iconst 0, 1) := by decide +kernel
theorem d_Mac_run_38 : decode b_Mac_run 38 = .ok (.istore 6, 2) := by decide +kernel
theorem d_Mac_run_40 : decode b_Mac_run 40 = .ok (.iload 6, 2) := by decide +kernel
theorem d_Mac_run_42 : decode b_Mac_run 42 = .ok (.ldc 50, 2) := by decide +kernel
theorem d_Mac_run_44 : decode b_Mac_run 44 = .ok (.if_icmp .ge 49, 3) := by decide +kernel
theorem d_Mac_run_47 : decode b_Mac_run 47 = .ok (.aload_n 0, 1) := by decide +kernel
theorem d_Mac_run_48 : decode b_Mac_run 48 = .ok (.getfield 39, 3) := by decide +kernel
theorem d_Mac_run_51 : decode b_Mac_run 51 = .ok (.ifCond .le 42, 3) := by decide +kernel
theorem d_Mac_run_54 : decode b_Mac_run 54 = .ok (.aload_n 0, 1) := by decide +kernel
theorem d_Mac_run_55 : decode b_Mac_run 55 = .ok (.getfield 27, 3) := by decide +kernel
theorem d_Mac_run_58 : decode b_Mac_run 58 = .ok (.aload_n 0, 1) := by decide +kernel
theorem d_Mac_run_59 : decode b_Mac_run 59 = .ok (.getfield 39, 3) := by decide +kernel
theorem d_Mac_run_62 : decode b_Mac_run 62 = .ok (.iconst 1, 1) := by decide +kernel
theorem d_Mac_run_63 : decode b_Mac_run 63 = .ok (.isub, 1) := by decide +kernel
theorem d_Mac_run_64 : decode b_Mac_run 64 = .ok (.aaload, 1) := by decide +kernel
theorem d_Mac_run_65 : decode b_Mac_run 65 = .ok (.astore 7, 2) := by decide +kernel
theorem d_Mac_run_67 : decode b_Mac_run 67 = .ok (.aload_n 0, 1) := by decide +kernel
theorem d_Mac_run_68 : decode b_Mac_run 68 = .ok (.aload 7, 2) := by decide +kernel
theorem d_Mac_run_70 : decode b_Mac_run 70 = .ok (.invokevirtual 51, 3) := by decide +kernel
theorem d_Mac_run_73 : decode b_Mac_run 73 = .ok (.aload 7, 2) := by decide +kernel
theorem d_Mac_run_75 : decode b_Mac_run 75 = .ok (.getfield 55, 3) := by decide +kernel
theorem d_Mac_run_78 : decode b_Mac_run 78 = .ok (.ifCond .eq 9, 3) := by decide +kernel
theorem d_Mac_run_81 : decode b_Mac_run 81 = .ok (.aload_n 0, 1) := by decide +kernel
theorem d_Mac_run_82 : decode b_Mac_run 82 = .ok (.aload 7, 2) := by decide +kernel
theorem d_Mac_run_84 : decode b_Mac_run 84 = .ok (.invokevirtual 59, 3) := by decide +kernel
theorem d_Mac_run_87 : decode b_Mac_run 87 = .ok (.iinc 6 1, 3) := by decide +kernel
theorem d_Mac_run_90 : decode b_Mac_run 90 = .ok (.goto (-50), 3) := by decide +kernel
theorem d_Mac_run_93 : decode b_Mac_run 93 = .ok (.aload_n 0, 1) := by decide +kernel
theorem d_Mac_run_94 : decode b_Mac_run 94 = .ok (.getfield 27, 3) := by decide +kernel
theorem d_Mac_run_97 : decode b_Mac_run 97 = .ok (.iconst 0, 1) := by decide +kernel
theorem d_Mac_run_98 : decode b_Mac_run 98 = .ok (.aaload, 1) := by decide +kernel
theorem d_Mac_run_99 : decode b_Mac_run 99 = .ok (.areturn, 1) := by decide +kernel
theorem d_Mac_removeGoers_0 : decode b_Mac_removeGoers 0 = .ok (.iconst 0, 1) := by decide +kernel
theorem d_Mac_removeGoers_1 : decode b_Mac_removeGoers 1 = .ok (.istore_n 1, 1) := by decide +kernel
theorem d_Mac_removeGoers_2 : decode b_Mac_removeGoers 2 = .ok (.iload_n 1, 1) := by decide +kernel
theorem d_Mac_removeGoers_3 : decode b_Mac_removeGoers 3 = .ok (.bipush 16, 2) := by decide +kernel
theorem d_Mac_removeGoers_5 : decode b_Mac_removeGoers 5 = .ok (.if_icmp .ge 28, 3) := by decide +kernel
theorem d_Mac_removeGoers_8 : decode b_Mac_removeGoers 8 = .ok (.aload_n 0, 1) := by decide +kernel
theorem d_Mac_removeGoers_9 : decode b_Mac_removeGoers 9 = .ok (.getfield 36, 3) := by decide +kernel
theorem d_Mac_removeGoers_12 : decode b_Mac_removeGoers 12 = .ok (.iload_n 1, 1) := by decide +kernel
theorem d_Mac_removeGoers_13 : decode b_Mac_removeGoers 13 = .ok (.iushr, 1) := by decide +kernel
theorem d_Mac_removeGoers_14 : decode b_Mac_removeGoers 14 = .ok (.iconst 1, 1) := by decide +kernel
theorem d_Mac_removeGoers_15 : decode b_Mac_removeGoers 15 = .ok (.iand, 1) := by decide +kernel
theorem d_Mac_removeGoers_16 : decode b_Mac_removeGoers 16 = .ok (.ifCond .eq 11, 3) := by decide +kernel
theorem d_Mac_removeGoers_19 : decode b_Mac_removeGoers 19 = .ok (.aload_n 0, 1) := by decide +kernel
theorem d_Mac_removeGoers_20 : decode b_Mac_removeGoers 20 = .ok (.getfield 12, 3) := by decide +kernel
theorem d_Mac_removeGoers_23 : decode b_Mac_removeGoers 23 = .ok (.iload_n 1, 1) := by decide +kernel
theorem d_Mac_removeGoers_24 : decode b_Mac_removeGoers 24 = .ok (.invokevirtual 62, 3) := by decide +kernel
theorem d_Mac_removeGoers_27 : decode b_Mac_removeGoers 27 = .ok (.iinc 1 1, 3) := by decide +kernel
theorem d_Mac_removeGoers_30 : decode b_Mac_removeGoers 30 = .ok (.goto (-28), 3) := by decide +kernel
theorem d_Mac_removeGoers_33 : decode b_Mac_removeGoers 33 = .ok (.return_, 1) := by decide +kernel
theorem d_Mac_enter_0 : decode b_Mac_enter 0 = .ok (.aload_n 0, 1) := by decide +kernel
theorem d_Mac_enter_1 : decode b_Mac_enter 1 = .ok (.getfield 27, 3) := by decide +kernel
theorem d_Mac_enter_4 : decode b_Mac_enter 4 = .ok (.aload_n 0, 1) := by decide +kernel
theorem d_Mac_enter_5 : decode b_Mac_enter 5 = .ok (.getfield 39, 3) := by decide +kernel
theorem d_Mac_enter_8 : decode b_Mac_enter 8 = .ok (.aaload, 1) := by decide +kernel
theorem d_Mac_enter_9 : decode b_Mac_enter 9 = .ok (.astore 7, 2) := by decide +kernel
theorem d_Mac_enter_11 : decode b_Mac_enter 11 = .ok (.aload_n 0, 1) := by decide +kernel
theorem d_Mac_enter_12 : decode b_Mac_enter 12 = .ok (.dup, 1) := by decide +kernel
theorem d_Mac_enter_13 : decode b_Mac_enter 13 = .ok (.getfield 39, 3) := by decide +kernel
theorem d_Mac_enter_16 : decode b_Mac_enter 16 = .ok (.iconst 1, 1) := by decide +kernel
theorem d_Mac_enter_17 : decode b_Mac_enter 17 = .ok (.iadd, 1) := by decide +kernel
theorem d_Mac_enter_18 : decode b_Mac_enter 18 = .ok (.putfield 39, 3) := by decide +kernel
theorem d_Mac_enter_21 : decode b_Mac_enter 21 = .ok (.aload 7, 2) := by decide +kernel
theorem d_Mac_enter_23 : decode b_Mac_enter 23 = .ok (.iload_n 1, 1) := by decide +kernel
theorem d_Mac_enter_24 : decode b_Mac_enter 24 = .ok (.iload_n 2, 1) := by decide +kernel
theorem d_Mac_enter_25 : decode b_Mac_enter 25 = .ok (.iload_n 3, 1) := by decide +kernel
theorem d_Mac_enter_26 : decode b_Mac_enter 26 = .ok (.iload 4, 2) := by decide +kernel
theorem d_Mac_enter_28 : decode b_Mac_enter 28 = .ok (.iload 5, 2) := by decide +kernel
theorem d_Mac_enter_30 : decode b_Mac_enter 30 = .ok (.iload 6, 2) := by decide +kernel
theorem d_Mac_enter_32 : decode b_Mac_enter 32 = .ok (.invokevirtual 66, 3) := by decide +kernel
theorem d_Mac_enter_35 : decode b_Mac_enter 35 = .ok (.aload 7, 2) := by decide +kernel
theorem d_Mac_enter_37 : decode b_Mac_enter 37 = .ok (.getfield 69, 3) := by decide +kernel
theorem d_Mac_enter_40 : decode b_Mac_enter 40 = .ok (.aload_n 0, 1) := by decide +kernel
theorem d_Mac_enter_41 : decode b_Mac_enter 41 = .ok (.getfield 12, 3) := by decide +kernel
theorem d_Mac_enter_44 : decode b_Mac_enter 44 = .ok (.invokevirtual 72, 3) := by decide +kernel
theorem d_Mac_enter_47 : decode b_Mac_enter 47 = .ok (.aload 7, 2) := by decide +kernel
theorem d_Mac_enter_49 : decode b_Mac_enter 49 = .ok (.aload_n 0, 1) := by decide +kernel
theorem d_Mac_enter_50 : decode b_Mac_enter 50 = .ok (.getfield 32, 3) := by decide +kernel
theorem d_Mac_enter_53 : decode b_Mac_enter 53 = .ok (.putfield 76, 3) := by decide +kernel
theorem d_Mac_enter_56 : decode b_Mac_enter 56 = .ok (.aload 7, 2) := by decide +kernel
theorem d_Mac_enter_58 : decode b_Mac_enter 58 = .ok (.aload_n 0, 1) := by decide +kernel
theorem d_Mac_enter_59 : decode b_Mac_enter 59 = .ok (.getfield 36, 3) := by decide +kernel
theorem d_Mac_enter_62 : decode b_Mac_enter 62 = .ok (.putfield 79, 3) := by decide +kernel
theorem d_Mac_enter_65 : decode b_Mac_enter 65 = .ok (.aload 7, 2) := by decide +kernel
theorem d_Mac_enter_67 : decode b_Mac_enter 67 = .ok (.aload_n 0, 1) := by decide +kernel
theorem d_Mac_enter_68 : decode b_Mac_enter 68 = .ok (.getfield 21, 3) := by decide +kernel
theorem d_Mac_enter_71 : decode b_Mac_enter 71 = .ok (.getfield 82, 3) := by decide +kernel
theorem d_Mac_enter_74 : decode b_Mac_enter 74 = .ok (.putfield 85, 3) := by decide +kernel
theorem d_Mac_enter_77 : decode b_Mac_enter 77 = .ok (.aload 7, 2) := by decide +kernel
theorem d_Mac_enter_79 : decode b_Mac_enter 79 = .ok (.aload_n 0, 1) := by decide +kernel
theorem d_Mac_enter_80 : decode b_Mac_enter 80 = .ok (.getfield 21, 3) := by decide +kernel
theorem d_Mac_enter_83 : decode b_Mac_enter 83 = .ok (.getfield 88, 3) := by decide +kernel
theorem d_Mac_enter_86 : decode b_Mac_enter 86 = .ok (.putfield 91, 3) := by decide +kernel
theorem d_Mac_enter_89 : decode b_Mac_enter 89 = .ok (.return_, 1) := by decide +kernel
theorem d_Mac_undo_0 : decode b_Mac_undo 0 = .ok (.aload_n 0, 1) := by decide +kernel
theorem d_Mac_undo_1 : decode b_Mac_undo 1 = .ok (.getfield 12, 3) := by decide +kernel
theorem d_Mac_undo_4 : decode b_Mac_undo 4 = .ok (.aload_n 1, 1) := by decide +kernel
theorem d_Mac_undo_5 : decode b_Mac_undo 5 = .ok (.getfield 69, 3) := by decide +kernel
theorem d_Mac_undo_8 : decode b_Mac_undo 8 = .ok (.invokevirtual 72, 3) := by decide +kernel
theorem d_Mac_undo_11 : decode b_Mac_undo 11 = .ok (.aload_n 0, 1) := by decide +kernel
theorem d_Mac_undo_12 : decode b_Mac_undo 12 = .ok (.aload_n 1, 1) := by decide +kernel
theorem d_Mac_undo_13 : decode b_Mac_undo 13 = .ok (.getfield 76, 3) := by decide +kernel
theorem d_Mac_undo_16 : decode b_Mac_undo 16 = .ok (.putfield 32, 3) := by decide +kernel
theorem d_Mac_undo_19 : decode b_Mac_undo 19 = .ok (.aload_n 0, 1) := by decide +kernel
theorem d_Mac_undo_20 : decode b_Mac_undo 20 = .ok (.aload_n 1, 1) := by decide +kernel
theorem d_Mac_undo_21 : decode b_Mac_undo 21 = .ok (.getfield 79, 3) := by decide +kernel
theorem d_Mac_undo_24 : decode b_Mac_undo 24 = .ok (.putfield 36, 3) := by decide +kernel
theorem d_Mac_undo_27 : decode b_Mac_undo 27 = .ok (.aload_n 0, 1) := by decide +kernel
theorem d_Mac_undo_28 : decode b_Mac_undo 28 = .ok (.getfield 21, 3) := by decide +kernel
theorem d_Mac_undo_31 : decode b_Mac_undo 31 = .ok (.aload_n 1, 1) := by decide +kernel
theorem d_Mac_undo_32 : decode b_Mac_undo 32 = .ok (.getfield 85, 3) := by decide +kernel
theorem d_Mac_undo_35 : decode b_Mac_undo 35 = .ok (.aload_n 1, 1) := by decide +kernel
theorem d_Mac_undo_36 : decode b_Mac_undo 36 = .ok (.getfield 91, 3) := by decide +kernel
theorem d_Mac_undo_39 : decode b_Mac_undo 39 = .ok (.invokevirtual 94, 3) := by decide +kernel
theorem d_Mac_undo_42 : decode b_Mac_undo 42 = .ok (.return_, 1) := by decide +kernel
theorem d_Mac_leave_0 : decode b_Mac_leave 0 = .ok (.aload_n 1, 1) := by decide +kernel
theorem d_Mac_leave_1 : decode b_Mac_leave 1 = .ok (.getfield 98, 3) := by decide +kernel
theorem d_Mac_leave_4 : decode b_Mac_leave 4 = .ok (.ifCond .ne 8, 3) := by decide +kernel
theorem d_Mac_leave_7 : decode b_Mac_leave 7 = .ok (.aload_n 0, 1) := by decide +kernel
theorem d_Mac_leave_8 : decode b_Mac_leave 8 = .ok (.aload_n 1, 1) := by decide +kernel
theorem d_Mac_leave_9 : decode b_Mac_leave 9 = .ok (.invokevirtual 101, 3) := by decide +kernel
theorem d_Mac_leave_12 : decode b_Mac_leave 12 = .ok (.aload_n 0, 1) := by decide +kernel
theorem d_Mac_leave_13 : decode b_Mac_leave 13 = .ok (.dup, 1) := by decide +kernel
theorem d_Mac_leave_14 : decode b_Mac_leave 14 = .ok (.getfield 39, 3) := by decide +kernel
theorem d_Mac_leave_17 : decode b_Mac_leave 17 = .ok (.iconst 1, 1) := by decide +kernel
theorem d_Mac_leave_18 : decode b_Mac_leave 18 = .ok (.isub, 1) := by decide +kernel
theorem d_Mac_leave_19 : decode b_Mac_leave 19 = .ok (.putfield 39, 3) := by decide +kernel
theorem d_Mac_leave_22 : decode b_Mac_leave 22 = .ok (.aload_n 0, 1) := by decide +kernel
theorem d_Mac_leave_23 : decode b_Mac_leave 23 = .ok (.getfield 39, 3) := by decide +kernel
theorem d_Mac_leave_26 : decode b_Mac_leave 26 = .ok (.ifCond .le 52, 3) := by decide +kernel
theorem d_Mac_leave_29 : decode b_Mac_leave 29 = .ok (.aload_n 0, 1) := by decide +kernel
theorem d_Mac_leave_30 : decode b_Mac_leave 30 = .ok (.getfield 27, 3) := by decide +kernel
theorem d_Mac_leave_33 : decode b_Mac_leave 33 = .ok (.aload_n 0, 1) := by decide +kernel
theorem d_Mac_leave_34 : decode b_Mac_leave 34 = .ok (.getfield 39, 3) := by decide +kernel
theorem d_Mac_leave_37 : decode b_Mac_leave 37 = .ok (.iconst 1, 1) := by decide +kernel
theorem d_Mac_leave_38 : decode b_Mac_leave 38 = .ok (.isub, 1) := by decide +kernel
theorem d_Mac_leave_39 : decode b_Mac_leave 39 = .ok (.aaload, 1) := by decide +kernel
theorem d_Mac_leave_40 : decode b_Mac_leave 40 = .ok (.astore_n 2, 1) := by decide +kernel
theorem d_Mac_leave_41 : decode b_Mac_leave 41 = .ok (.aload_n 2, 1) := by decide +kernel
theorem d_Mac_leave_42 : decode b_Mac_leave 42 = .ok (.dup, 1) := by decide +kernel
theorem d_Mac_leave_43 : decode b_Mac_leave 43 = .ok (.getfield 104, 3) := by decide +kernel
theorem d_Mac_leave_46 : decode b_Mac_leave 46 = .ok (.aload_n 1, 1) := by decide +kernel
theorem d_Mac_leave_47 : decode b_Mac_leave 47 = .ok (.getfield 104, 3) := by decide +kernel
theorem d_Mac_leave_50 : decode b_Mac_leave 50 = .ok (.iadd, 1) := by decide +kernel
theorem d_Mac_leave_51 : decode b_Mac_leave 51 = .ok (.putfield 104, 3) := by decide +kernel
theorem d_Mac_leave_54 : decode b_Mac_leave 54 = .ok (.aload_n 2, 1) := by decide +kernel
theorem d_Mac_leave_55 : decode b_Mac_leave 55 = .ok (.aload_n 1, 1) := by decide +kernel
theorem d_Mac_leave_56 : decode b_Mac_leave 56 = .ok (.getfield 107, 3) := by decide +kernel
theorem d_Mac_leave_59 : decode b_Mac_leave 59 = .ok (.invokevirtual 110, 3) := by decide +kernel
theorem d_Mac_leave_62 : decode b_Mac_leave 62 = .ok (.aload_n 2, 1) := by decide +kernel
theorem d_Mac_leave_63 : decode b_Mac_leave 63 = .ok (.aload_n 1, 1) := by decide +kernel
theorem d_Mac_leave_64 : decode b_Mac_leave 64 = .ok (.getfield 98, 3) := by decide +kernel
theorem d_Mac_leave_67 : decode b_Mac_leave 67 = .ok (.ifCond .eq 7, 3) := by decide +kernel
theorem d_Mac_leave_70 : decode b_Mac_leave 70 = .ok (.iconst 1, 1) := by decide +kernel
theorem d_Mac_leave_71 : decode b_Mac_leave 71 = .ok (.goto 4, 3) := by decide +kernel
theorem d_Mac_leave_74 : decode b_Mac_leave 74 = .ok (.iconst 0, 1) := by decide +kernel
theorem d_Mac_leave_75 : decode b_Mac_leave 75 = .ok (.invokevirtual 110, 3) := by decide +kernel
theorem d_Mac_leave_78 : decode b_Mac_leave 78 = .ok (.return_, 1) := by decide +kernel
