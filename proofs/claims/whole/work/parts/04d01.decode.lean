theorem d_Led_init_0 : decode b_Led_init 0 = .ok (.aload_n 0, 1) := by decide +kernel
theorem d_Led_init_1 : decode b_Led_init 1 = .ok (.invokespecial 1, 3) := by decide +kernel
theorem d_Led_init_4 : decode b_Led_init 4 = .ok (.aload_n 0, 1) := by decide +kernel
theorem d_Led_init_5 : decode b_Led_init 5 = .ok (.new 7, 3) := by decide +kernel
theorem d_Led_init_8 : decode b_Led_init 8 = .ok (.dup, 1) := by decide +kernel
theorem d_Led_init_9 : decode b_Led_init 9 = .ok (.invokespecial 9, 3) := by decide +kernel
theorem d_Led_init_12 : decode b_Led_init 12 = .ok (.putfield 10, 3) := by decide +kernel
theorem d_Led_init_15 : decode b_Led_init 15 = .ok (.aload_n 0, 1) := by decide +kernel
theorem d_Led_init_16 : decode b_Led_init 16 = .ok (.new 16, 3) := by decide +kernel
theorem d_Led_init_19 : decode b_Led_init 19 = .ok (.dup, 1) := by decide +kernel
theorem d_Led_init_20 : decode b_Led_init 20 = .ok (.invokespecial 18, 3) := by decide +kernel
theorem d_Led_init_23 : decode b_Led_init 23 = .ok (.putfield 19, 3) := by decide +kernel
theorem d_Led_init_26 : decode b_Led_init 26 = .ok (.aload_n 0, 1) := by decide +kernel
theorem d_Led_init_27 : decode b_Led_init 27 = .ok (.new 23, 3) := by decide +kernel
theorem d_Led_init_30 : decode b_Led_init 30 = .ok (.dup, 1) := by decide +kernel
theorem d_Led_init_31 : decode b_Led_init 31 = .ok (.invokespecial 25, 3) := by decide +kernel
theorem d_Led_init_34 : decode b_Led_init 34 = .ok (.putfield 26, 3) := by decide +kernel
theorem d_Led_init_37 : decode b_Led_init 37 = .ok (.aload_n 0, 1) := by decide +kernel
theorem d_Led_init_38 : decode b_Led_init 38 = .ok (.sipush 200, 3) := by decide +kernel
theorem d_Led_init_41 : decode b_Led_init 41 = .ok (.putfield 30, 3) := by decide +kernel
theorem d_Led_init_44 : decode b_Led_init 44 = .ok (.aload_n 0, 1) := by decide +kernel
theorem d_Led_init_45 : decode b_Led_init 45 = .ok (.iconst 1, 1) := by decide +kernel
theorem d_Led_init_46 : decode b_Led_init 46 = .ok (.putfield 34, 3) := by decide +kernel
theorem d_Led_init_49 : decode b_Led_init 49 = .ok (.return_, 1) := by decide +kernel
theorem d_Led_fund_0 : decode b_Led_fund 0 = .ok (.aload_n 0, 1) := by decide +kernel
theorem d_Led_fund_1 : decode b_Led_fund 1 = .ok (.getfield 37, 3) := by decide +kernel
theorem d_Led_fund_4 : decode b_Led_fund 4 = .ok (.ifCond .gt 20, 3) := by decide +kernel
theorem d_Led_fund_7 : decode b_Led_fund 7 = .ok (.iload_n 1, 1) := by decide +kernel
theorem d_Led_fund_8 : decode b_Led_fund 8 = .ok (.invokestatic 40, 3) := by decide +kernel
theorem d_Led_fund_11 : decode b_Led_fund 11 = .ok (.ifCond .eq 13, 3) := by decide +kernel
theorem d_Led_fund_14 : decode b_Led_fund 14 = .ok (.iload_n 2, 1) := by decide +kernel
theorem d_Led_fund_15 : decode b_Led_fund 15 = .ok (.ifCond .lt 9, 3) := by decide +kernel
theorem d_Led_fund_18 : decode b_Led_fund 18 = .ok (.iload_n 2, 1) := by decide +kernel
theorem d_Led_fund_19 : decode b_Led_fund 19 = .ok (.ldc 44, 2) := by decide +kernel
theorem d_Led_fund_21 : decode b_Led_fund 21 = .ok (.if_icmp .le 5, 3) := by decide +kernel
theorem d_Led_fund_24 : decode b_Led_fund 24 = .ok (.iconst 0, 1) := by decide +kernel
theorem d_Led_fund_25 : decode b_Led_fund 25 = .ok (.ireturn, 1) := by decide +kernel
theorem d_Led_fund_26 : decode b_Led_fund 26 = .ok (.aload_n 0, 1) := by decide +kernel
theorem d_Led_fund_27 : decode b_Led_fund 27 = .ok (.getfield 10, 3) := by decide +kernel
theorem d_Led_fund_30 : decode b_Led_fund 30 = .ok (.getfield 45, 3) := by decide +kernel
theorem d_Led_fund_33 : decode b_Led_fund 33 = .ok (.getfield 48, 3) := by decide +kernel
theorem d_Led_fund_36 : decode b_Led_fund 36 = .ok (.iload_n 1, 1) := by decide +kernel
theorem d_Led_fund_37 : decode b_Led_fund 37 = .ok (.dup2, 1) := by decide +kernel
theorem d_Led_fund_38 : decode b_Led_fund 38 = .ok (.iaload, 1) := by decide +kernel
theorem d_Led_fund_39 : decode b_Led_fund 39 = .ok (.iload_n 2, 1) := by decide +kernel
theorem d_Led_fund_40 : decode b_Led_fund 40 = .ok (.iadd, 1) := by decide +kernel
theorem d_Led_fund_41 : decode b_Led_fund 41 = .ok (.iastore, 1) := by decide +kernel
theorem d_Led_fund_42 : decode b_Led_fund 42 = .ok (.iconst 1, 1) := by decide +kernel
theorem d_Led_fund_43 : decode b_Led_fund 43 = .ok (.ireturn, 1) := by decide +kernel
theorem d_Led_code_0 : decode b_Led_code 0 = .ok (.aload_n 0, 1) := by decide +kernel
theorem d_Led_code_1 : decode b_Led_code 1 = .ok (.getfield 37, 3) := by decide +kernel
theorem d_Led_code_4 : decode b_Led_code 4 = .ok (.ifCond .gt 10, 3) := by decide +kernel
theorem d_Led_code_7 : decode b_Led_code 7 = .ok (.iload_n 1, 1) := by decide +kernel
theorem d_Led_code_8 : decode b_Led_code 8 = .ok (.invokestatic 40, 3) := by decide +kernel
theorem d_Led_code_11 : decode b_Led_code 11 = .ok (.ifCond .ne 5, 3) := by decide +kernel
theorem d_Led_code_14 : decode b_Led_code 14 = .ok (.iconst 0, 1) := by decide +kernel
theorem d_Led_code_15 : decode b_Led_code 15 = .ok (.ireturn, 1) := by decide +kernel
theorem d_Led_code_16 : decode b_Led_code 16 = .ok (.aload_n 0, 1) := by decide +kernel
theorem d_Led_code_17 : decode b_Led_code 17 = .ok (.getfield 10, 3) := by decide +kernel
theorem d_Led_code_20 : decode b_Led_code 20 = .ok (.getfield 45, 3) := by decide +kernel
theorem d_Led_code_23 : decode b_Led_code 23 = .ok (.iload_n 1, 1) := by decide +kernel
theorem d_Led_code_24 : decode b_Led_code 24 = .ok (.iload_n 2, 1) := by decide +kernel
theorem d_Led_code_25 : decode b_Led_code 25 = .ok (.invokevirtual 52, 3) := by decide +kernel
theorem d_Led_code_28 : decode b_Led_code 28 = .ok (.ireturn, 1) := by decide +kernel
theorem d_Led_preset_0 : decode b_Led_preset 0 = .ok (.aload_n 0, 1) := by decide +kernel
theorem d_Led_preset_1 : decode b_Led_preset 1 = .ok (.getfield 37, 3) := by decide +kernel
theorem d_Led_preset_4 : decode b_Led_preset 4 = .ok (.ifCond .gt 17, 3) := by decide +kernel
theorem d_Led_preset_7 : decode b_Led_preset 7 = .ok (.iload_n 1, 1) := by decide +kernel
theorem d_Led_preset_8 : decode b_Led_preset 8 = .ok (.invokestatic 40, 3) := by decide +kernel
theorem d_Led_preset_11 : decode b_Led_preset 11 = .ok (.ifCond .eq 10, 3) := by decide +kernel
theorem d_Led_preset_14 : decode b_Led_preset 14 = .ok (.iload_n 2, 1) := by decide +kernel
theorem d_Led_preset_15 : decode b_Led_preset 15 = .ok (.invokestatic 56, 3) := by decide +kernel
theorem d_Led_preset_18 : decode b_Led_preset 18 = .ok (.ifCond .ne 5, 3) := by decide +kernel
theorem d_Led_preset_21 : decode b_Led_preset 21 = .ok (.iconst 0, 1) := by decide +kernel
theorem d_Led_preset_22 : decode b_Led_preset 22 = .ok (.ireturn, 1) := by decide +kernel
theorem d_Led_preset_23 : decode b_Led_preset 23 = .ok (.aload_n 0, 1) := by decide +kernel
theorem d_Led_preset_24 : decode b_Led_preset 24 = .ok (.getfield 10, 3) := by decide +kernel
theorem d_Led_preset_27 : decode b_Led_preset 27 = .ok (.getfield 45, 3) := by decide +kernel
theorem d_Led_preset_30 : decode b_Led_preset 30 = .ok (.getfield 59, 3) := by decide +kernel
theorem d_Led_preset_33 : decode b_Led_preset 33 = .ok (.iload_n 1, 1) := by decide +kernel
theorem d_Led_preset_34 : decode b_Led_preset 34 = .ok (.bipush 8, 2) := by decide +kernel
theorem d_Led_preset_36 : decode b_Led_preset 36 = .ok (.imul, 1) := by decide +kernel
theorem d_Led_preset_37 : decode b_Led_preset 37 = .ok (.iload_n 2, 1) := by decide +kernel
theorem d_Led_preset_38 : decode b_Led_preset 38 = .ok (.iadd, 1) := by decide +kernel
theorem d_Led_preset_39 : decode b_Led_preset 39 = .ok (.iload_n 3, 1) := by decide +kernel
theorem d_Led_preset_40 : decode b_Led_preset 40 = .ok (.iastore, 1) := by decide +kernel
theorem d_Led_preset_41 : decode b_Led_preset 41 = .ok (.iconst 1, 1) := by decide +kernel
theorem d_Led_preset_42 : decode b_Led_preset 42 = .ok (.ireturn, 1) := by decide +kernel
theorem d_Led_begin_0 : decode b_Led_begin 0 = .ok (.aload_n 0, 1) := by decide +kernel
theorem d_Led_begin_1 : decode b_Led_begin 1 = .ok (.getfield 62, 3) := by decide +kernel
theorem d_Led_begin_4 : decode b_Led_begin 4 = .ok (.ifCond .ne 27, 3) := by decide +kernel
theorem d_Led_begin_7 : decode b_Led_begin 7 = .ok (.iload_n 1, 1) := by decide +kernel
theorem d_Led_begin_8 : decode b_Led_begin 8 = .ok (.aload_n 0, 1) := by decide +kernel
theorem d_Led_begin_9 : decode b_Led_begin 9 = .ok (.getfield 66, 3) := by decide +kernel
theorem d_Led_begin_12 : decode b_Led_begin 12 = .ok (.if_icmp .le 19, 3) := by decide +kernel
theorem d_Led_begin_15 : decode b_Led_begin 15 = .ok (.iload_n 2, 1) := by decide +kernel
theorem d_Led_begin_16 : decode b_Led_begin 16 = .ok (.invokestatic 40, 3) := by decide +kernel
theorem d_Led_begin_19 : decode b_Led_begin 19 = .ok (.ifCond .eq 12, 3) := by decide +kernel
theorem d_Led_begin_22 : decode b_Led_begin 22 = .ok (.aload_n 0, 1) := by decide +kernel
theorem d_Led_begin_23 : decode b_Led_begin 23 = .ok (.getfield 37, 3) := by decide +kernel
theorem d_Led_begin_26 : decode b_Led_begin 26 = .ok (.bipush 30, 2) := by decide +kernel
theorem d_Led_begin_28 : decode b_Led_begin 28 = .ok (.if_icmp .lt 5, 3) := by decide +kernel
theorem d_Led_begin_31 : decode b_Led_begin 31 = .ok (.iconst 0, 1) := by decide +kernel
theorem d_Led_begin_32 : decode b_Led_begin 32 = .ok (.ireturn, 1) := by decide +kernel
theorem d_Led_begin_33 : decode b_Led_begin 33 = .ok (.aload_n 0, 1) := by decide +kernel
theorem d_Led_begin_34 : decode b_Led_begin 34 = .ok (.iconst 1, 1) := by decide +kernel
theorem d_Led_begin_35 : decode b_Led_begin 35 = .ok (.putfield 62, 3) := by decide +kernel
theorem d_Led_begin_38 : decode b_Led_begin 38 = .ok (.aload_n 0, 1) := by decide +kernel
theorem d_Led_begin_39 : decode b_Led_begin 39 = .ok (.iload_n 1, 1) := by decide +kernel
theorem d_Led_begin_40 : decode b_Led_begin 40 = .ok (.putfield 69, 3) := by decide +kernel
theorem d_Led_begin_43 : decode b_Led_begin 43 = .ok (.aload_n 0, 1) := by decide +kernel
theorem d_Led_begin_44 : decode b_Led_begin 44 = .ok (.iload_n 2, 1) := by decide +kernel
theorem d_Led_begin_45 : decode b_Led_begin 45 = .ok (.putfield 72, 3) := by decide +kernel
theorem d_Led_begin_48 : decode b_Led_begin 48 = .ok (.aload_n 0, 1) := by decide +kernel
theorem d_Led_begin_49 : decode b_Led_begin 49 = .ok (.dup, 1) := by decide +kernel
theorem d_Led_begin_50 : decode b_Led_begin 50 = .ok (.getfield 37, 3) := by decide +kernel
theorem d_Led_begin_53 : decode b_Led_begin 53 = .ok (.iconst 1, 1) := by decide +kernel
theorem d_Led_begin_54 : decode b_Led_begin 54 = .ok (.iadd, 1) := by decide +kernel
theorem d_Led_begin_55 : decode b_Led_begin 55 = .ok (.putfield 37, 3) := by decide +kernel
theorem d_Led_begin_58 : decode b_Led_begin 58 = .ok (.aload_n 0, 1) := by decide +kernel
theorem d_Led_begin_59 : decode b_Led_begin 59 = .ok (.iconst 0, 1) := by decide +kernel
theorem d_Led_begin_60 : decode b_Led_begin 60 = .ok (.putfield 75, 3) := by decide +kernel
theorem d_Led_begin_63 : decode b_Led_begin 63 = .ok (.aload_n 0, 1) := by decide +kernel
theorem d_Led_begin_64 : decode b_Led_begin 64 = .ok (.getfield 26, 3) := by decide +kernel
theorem d_Led_begin_67 : decode b_Led_begin 67 = .ok (.iconst 0, 1) := by decide +kernel
theorem d_Led_begin_68 : decode b_Led_begin 68 = .ok (.putfield 78, 3) := by decide +kernel
theorem d_Led_begin_71 : decode b_Led_begin 71 = .ok (.aload_n 0, 1) := by decide +kernel
theorem d_Led_begin_72 : decode b_Led_begin 72 = .ok (.getfield 10, 3) := by decide +kernel
theorem d_Led_begin_75 : decode b_Led_begin 75 = .ok (.getfield 81, 3) := by decide +kernel
theorem d_Led_begin_78 : decode b_Led_begin 78 = .ok (.iconst 0, 1) := by decide +kernel
theorem d_Led_begin_79 : decode b_Led_begin 79 = .ok (.iconst 0, 1) := by decide +kernel
theorem d_Led_begin_80 : decode b_Led_begin 80 = .ok (.invokevirtual 85, 3) := by decide +kernel
theorem d_Led_begin_83 : decode b_Led_begin 83 = .ok (.aload_n 0, 1) := by decide +kernel
theorem d_Led_begin_84 : decode b_Led_begin 84 = .ok (.getfield 19, 3) := by decide +kernel
theorem d_Led_begin_87 : decode b_Led_begin 87 = .ok (.aload_n 0, 1) := by decide +kernel
theorem d_Led_begin_88 : decode b_Led_begin 88 = .ok (.getfield 10, 3) := by decide +kernel
theorem d_Led_begin_91 : decode b_Led_begin 91 = .ok (.getfield 45, 3) := by decide +kernel
theorem d_Led_begin_94 : decode b_Led_begin 94 = .ok (.invokevirtual 91, 3) := by decide +kernel
theorem d_Led_begin_97 : decode b_Led_begin 97 = .ok (.iconst 1, 1) := by decide +kernel
theorem d_Led_begin_98 : decode b_Led_begin 98 = .ok (.ireturn, 1) := by decide +kernel
theorem d_Led_send_0 : decode b_Led_send 0 = .ok (.aload_n 0, 1) := by decide +kernel
theorem d_Led_send_1 : decode b_Led_send 1 = .ok (.iload_n 1, 1) := by decide +kernel
theorem d_Led_send_2 : decode b_Led_send 2 = .ok (.iload_n 2, 1) := by decide +kernel
theorem d_Led_send_3 : decode b_Led_send 3 = .ok (.iload_n 3, 1) := by decide +kernel
theorem d_Led_send_4 : decode b_Led_send 4 = .ok (.sipush 200, 3) := by decide +kernel
theorem d_Led_send_7 : decode b_Led_send 7 = .ok (.iconst 1, 1) := by decide +kernel
theorem d_Led_send_8 : decode b_Led_send 8 = .ok (.iconst 0, 1) := by decide +kernel
theorem d_Led_send_9 : decode b_Led_send 9 = .ok (.invokevirtual 95, 3) := by decide +kernel
theorem d_Led_send_12 : decode b_Led_send 12 = .ok (.istore 5, 2) := by decide +kernel
theorem d_Led_send_14 : decode b_Led_send 14 = .ok (.iload 5, 2) := by decide +kernel
theorem d_Led_send_16 : decode b_Led_send 16 = .ok (.ifCond .ge 8, 3) := by decide +kernel
theorem d_Led_send_19 : decode b_Led_send 19 = .ok (.iload 5, 2) := by decide +kernel
theorem d_Led_send_21 : decode b_Led_send 21 = .ok (.goto 16, 3) := by decide +kernel
theorem d_Led_send_24 : decode b_Led_send 24 = .ok (.aload_n 0, 1) := by decide +kernel
theorem d_Led_send_25 : decode b_Led_send 25 = .ok (.iload_n 1, 1) := by decide +kernel
theorem d_Led_send_26 : decode b_Led_send 26 = .ok (.iload_n 2, 1) := by decide +kernel
theorem d_Led_send_27 : decode b_Led_send 27 = .ok (.iload_n 3, 1) := by decide +kernel
theorem d_Led_send_28 : decode b_Led_send 28 = .ok (.iload 4, 2) := by decide +kernel
theorem d_Led_send_30 : decode b_Led_send 30 = .ok (.sipush 200, 3) := by decide +kernel
theorem d_Led_send_33 : decode b_Led_send 33 = .ok (.iconst 1, 1) := by decide +kernel
theorem d_Led_send_34 : decode b_Led_send 34 = .ok (.invokevirtual 99, 3) := by decide +kernel
theorem d_Led_send_37 : decode b_Led_send 37 = .ok (.ireturn, 1) := by decide +kernel
theorem d_Led_terms_0 : decode b_Led_terms 0 = .ok (.aload_n 0, 1) := by decide +kernel
theorem d_Led_terms_1 : decode b_Led_terms 1 = .ok (.iload_n 1, 1) := by decide +kernel
theorem d_Led_terms_2 : decode b_Led_terms 2 = .ok (.putfield 30, 3) := by decide +kernel
theorem d_Led_terms_5 : decode b_Led_terms 5 = .ok (.aload_n 0, 1) := by decide +kernel
theorem d_Led_terms_6 : decode b_Led_terms 6 = .ok (.iload_n 2, 1) := by decide +kernel
theorem d_Led_terms_7 : decode b_Led_terms 7 = .ok (.putfield 34, 3) := by decide +kernel
theorem d_Led_terms_10 : decode b_Led_terms 10 = .ok (.aload_n 0, 1) := by decide +kernel
theorem d_Led_terms_11 : decode b_Led_terms 11 = .ok (.iload_n 3, 1) := by decide +kernel
theorem d_Led_terms_12 : decode b_Led_terms 12 = .ok (.putfield 102, 3) := by decide +kernel
theorem d_Led_terms_15 : decode b_Led_terms 15 = .ok (.return_, 1) := by decide +kernel
theorem d_Led_pay_0 : decode b_Led_pay 0 = .ok (.aload_n 0, 1) := by decide +kernel
theorem d_Led_pay_1 : decode b_Led_pay 1 = .ok (.getfield 30, 3) := by decide +kernel
theorem d_Led_pay_4 : decode b_Led_pay 4 = .ok (.istore 5, 2) := by decide +kernel
theorem d_Led_pay_6 : decode b_Led_pay 6 = .ok (.aload_n 0, 1) := by decide +kernel
theorem d_Led_pay_7 : decode b_Led_pay 7 = .ok (.getfield 34, 3) := by decide +kernel
theorem d_Led_pay_10 : decode b_Led_pay 10 = .ok (.istore 6, 2) := by decide +kernel
theorem d_Led_pay_12 : decode b_Led_pay 12 = .ok (.aload_n 0, 1) := by decide +kernel
theorem d_Led_pay_13 : decode b_Led_pay 13 = .ok (.iload_n 1, 1) := by decide +kernel
theorem d_Led_pay_14 : decode b_Led_pay 14 = .ok (.iload_n 2, 1) := by decide +kernel
theorem d_Led_pay_15 : decode b_Led_pay 15 = .ok (.iload_n 3, 1) := by decide +kernel
theorem d_Led_pay_16 : decode b_Led_pay 16 = .ok (.iload 5, 2) := by decide +kernel
theorem d_Led_pay_18 : decode b_Led_pay 18 = .ok (.iload 6, 2) := by decide +kernel
theorem d_Led_pay_20 : decode b_Led_pay 20 = .ok (.aload_n 0, 1) := by decide +kernel
theorem d_Led_pay_21 : decode b_Led_pay 21 = .ok (.getfield 102, 3) := by decide +kernel
theorem d_Led_pay_24 : decode b_Led_pay 24 = .ok (.invokevirtual 95, 3) := by decide +kernel
theorem d_Led_pay_27 : decode b_Led_pay 27 = .ok (.istore 7, 2) := by decide +kernel
theorem d_Led_pay_29 : decode b_Led_pay 29 = .ok (.aload_n 0, 1) := by decide +kernel
theorem d_Led_pay_30 : decode b_Led_pay 30 = .ok (.sipush 200, 3) := by decide +kernel
theorem d_Led_pay_33 : decode b_Led_pay 33 = .ok (.iconst 1, 1) := by decide +kernel
theorem d_Led_pay_34 : decode b_Led_pay 34 = .ok (.iconst 0, 1) := by decide +kernel
theorem d_Led_pay_35 : decode b_Led_pay 35 = .ok (.invokevirtual 105, 3) := by decide +kernel
theorem d_Led_pay_38 : decode b_Led_pay 38 = .ok (.iload 7, 2) := by decide +kernel
theorem d_Led_pay_40 : decode b_Led_pay 40 = .ok (.ifCond .ge 8, 3) := by decide +kernel
theorem d_Led_pay_43 : decode b_Led_pay 43 = .ok (.iload 7, 2) := by decide +kernel
theorem d_Led_pay_45 : decode b_Led_pay 45 = .ok (.goto 16, 3) := by decide +kernel
theorem d_Led_pay_48 : decode b_Led_pay 48 = .ok (.aload_n 0, 1) := by decide +kernel
theorem d_Led_pay_49 : decode b_Led_pay 49 = .ok (.iload_n 1, 1) := by decide +kernel
theorem d_Led_pay_50 : decode b_Led_pay 50 = .ok (.iload_n 2, 1) := by decide +kernel
theorem d_Led_pay_51 : decode b_Led_pay 51 = .ok (.iload_n 3, 1) := by decide +kernel
theorem d_Led_pay_52 : decode b_Led_pay 52 = .ok (.iload 4, 2) := by decide +kernel
theorem d_Led_pay_54 : decode b_Led_pay 54 = .ok (.iload 5, 2) := by decide +kernel
theorem d_Led_pay_56 : decode b_Led_pay 56 = .ok (.iload 6, 2) := by decide +kernel
theorem d_Led_pay_58 : decode b_Led_pay 58 = .ok (.invokevirtual 99, 3) := by decide +kernel
theorem d_Led_pay_61 : decode b_Led_pay 61 = .ok (.ireturn, 1) := by decide +kernel
theorem d_Led_seal_0 : decode b_Led_seal 0 = .ok (.aload_n 0, 1) := by decide +kernel
theorem d_Led_seal_1 : decode b_Led_seal 1 = .ok (.getfield 62, 3) := by decide +kernel
theorem d_Led_seal_4 : decode b_Led_seal 4 = .ok (.ifCond .ne 5, 3) := by decide +kernel
theorem d_Led_seal_7 : decode b_Led_seal 7 = .ok (.iconst (-1), 1) := by decide +kernel
theorem d_Led_seal_8 : decode b_Led_seal 8 = .ok (.ireturn, 1) := by decide +kernel
theorem d_Led_seal_9 : decode b_Led_seal 9 = .ok (.aload_n 0, 1) := by decide +kernel
theorem d_Led_seal_10 : decode b_Led_seal 10 = .ok (.iconst 0, 1) := by decide +kernel
theorem d_Led_seal_11 : decode b_Led_seal 11 = .ok (.putfield 62, 3) := by decide +kernel
theorem d_Led_seal_14 : decode b_Led_seal 14 = .ok (.aload_n 0, 1) := by decide +kernel
theorem d_Led_seal_15 : decode b_Led_seal 15 = .ok (.getfield 10, 3) := by decide +kernel
theorem d_Led_seal_18 : decode b_Led_seal 18 = .ok (.getfield 45, 3) := by decide +kernel
theorem d_Led_seal_21 : decode b_Led_seal 21 = .ok (.getfield 48, 3) := by decide +kernel
theorem d_Led_seal_24 : decode b_Led_seal 24 = .ok (.aload_n 0, 1) := by decide +kernel
theorem d_Led_seal_25 : decode b_Led_seal 25 = .ok (.getfield 72, 3) := by decide +kernel
theorem d_Led_seal_28 : decode b_Led_seal 28 = .ok (.dup2, 1) := by decide +kernel
theorem d_Led_seal_29 : decode b_Led_seal 29 = .ok (.iaload, 1) := by decide +kernel
theorem d_Led_seal_30 : decode b_Led_seal 30 = .ok (.bipush 50, 2) := by decide +kernel
theorem d_Led_seal_32 : decode b_Led_seal 32 = .ok (.iadd, 1) := by decide +kernel
theorem d_Led_seal_33 : decode b_Led_seal 33 = .ok (.iastore, 1) := by decide +kernel
theorem d_Led_seal_34 : decode b_Led_seal 34 = .ok (.iload_n 1, 1) := by decide +kernel
theorem d_Led_seal_35 : decode b_Led_seal 35 = .ok (.ifCond .ne 23, 3) := by decide +kernel
theorem d_Led_seal_38 : decode b_Led_seal 38 = .ok (.aload_n 0, 1) := by decide +kernel
theorem d_Led_seal_39 : decode b_Led_seal 39 = .ok (.dup, 1) := by decide +kernel
theorem d_Led_seal_40 : decode b_Led_seal 40 = .ok (.getfield 109, 3) := by decide +kernel
theorem d_Led_seal_43 : decode b_Led_seal 43 = .ok (.iconst 1, 1) := by decide +kernel
theorem d_Led_seal_44 : decode b_Led_seal 44 = .ok (.iadd, 1) := by decide +kernel
theorem d_Led_seal_45 : decode b_Led_seal 45 = .ok (.putfield 109, 3) := by decide +kernel
theorem d_Led_seal_48 : decode b_Led_seal 48 = .ok (.aload_n 0, 1) := by decide +kernel
theorem d_Led_seal_49 : decode b_Led_seal 49 = .ok (.aload_n 0, 1) := by decide +kernel
theorem d_Led_seal_50 : decode b_Led_seal 50 = .ok (.getfield 69, 3) := by decide +kernel
theorem d_Led_seal_53 : decode b_Led_seal 53 = .ok (.putfield 66, 3) := by decide +kernel
theorem d_Led_seal_56 : decode b_Led_seal 56 = .ok (.iconst 1, 1) := by decide +kernel
theorem d_Led_seal_57 : decode b_Led_seal 57 = .ok (.ireturn, 1) := by decide +kernel
theorem d_Led_seal_58 : decode b_Led_seal 58 = .ok (.aload_n 0, 1) := by decide +kernel
theorem d_Led_seal_59 : decode b_Led_seal 59 = .ok (.dup, 1) := by decide +kernel
theorem d_Led_seal_60 : decode b_Led_seal 60 = .ok (.getfield 112, 3) := by decide +kernel
theorem d_Led_seal_63 : decode b_Led_seal 63 = .ok (.iconst 1, 1) := by decide +kernel
theorem d_Led_seal_64 : decode b_Led_seal 64 = .ok (.iadd, 1) := by decide +kernel
theorem d_Led_seal_65 : decode b_Led_seal 65 = .ok (.putfield 112, 3) := by decide +kernel
theorem d_Led_seal_68 : decode b_Led_seal 68 = .ok (.aload_n 0, 1) := by decide +kernel
theorem d_Led_seal_69 : decode b_Led_seal 69 = .ok (.getfield 10, 3) := by decide +kernel
theorem d_Led_seal_72 : decode b_Led_seal 72 = .ok (.getfield 45, 3) := by decide +kernel
theorem d_Led_seal_75 : decode b_Led_seal 75 = .ok (.aload_n 0, 1) := by decide +kernel
theorem d_Led_seal_76 : decode b_Led_seal 76 = .ok (.getfield 19, 3) := by decide +kernel
theorem d_Led_seal_79 : decode b_Led_seal 79 = .ok (.invokevirtual 91, 3) := by decide +kernel
theorem d_Led_seal_82 : decode b_Led_seal 82 = .ok (.iconst 0, 1) := by decide +kernel
theorem d_Led_seal_83 : decode b_Led_seal 83 = .ok (.ireturn, 1) := by decide +kernel
theorem d_Led_look_0 : decode b_Led_look 0 = .ok (.iload_n 1, 1) := by decide +kernel
theorem d_Led_look_1 : decode b_Led_look 1 = .ok (.invokestatic 40, 3) := by decide +kernel
theorem d_Led_look_4 : decode b_Led_look 4 = .ok (.ifCond .ne 5, 3) := by decide +kernel
theorem d_Led_look_7 : decode b_Led_look 7 = .ok (.iconst (-1), 1) := by decide +kernel
theorem d_Led_look_8 : decode b_Led_look 8 = .ok (.ireturn, 1) := by decide +kernel
theorem d_Led_look_9 : decode b_Led_look 9 = .ok (.iload_n 2, 1) := by decide +kernel
theorem d_Led_look_10 : decode b_Led_look 10 = .ok (.tableswitch 97 0 4 #[34, 47, 60, 73, 85], 34) := by decide +kernel
theorem d_Led_look_44 : decode b_Led_look 44 = .ok (.aload_n 0, 1) := by decide +kernel
theorem d_Led_look_45 : decode b_Led_look 45 = .ok (.getfield 10, 3) := by decide +kernel
theorem d_Led_look_48 : decode b_Led_look 48 = .ok (.getfield 45, 3) := by decide +kernel
theorem d_Led_look_51 : decode b_Led_look 51 = .ok (.getfield 48, 3) := by decide +kernel
theorem d_Led_look_54 : decode b_Led_look 54 = .ok (.iload_n 1, 1) := by decide +kernel
theorem d_Led_look_55 : decode b_Led_look 55 = .ok (.iaload, 1) := by decide +kernel
theorem d_Led_look_56 : decode b_Led_look 56 = .ok (.ireturn, 1) := by decide +kernel
theorem d_Led_look_57 : decode b_Led_look 57 = .ok (.aload_n 0, 1) := by decide +kernel
theorem d_Led_look_58 : decode b_Led_look 58 = .ok (.getfield 10, 3) := by decide +kernel
theorem d_Led_look_61 : decode b_Led_look 61 = .ok (.getfield 45, 3) := by decide +kernel
theorem d_Led_look_64 : decode b_Led_look 64 = .ok (.getfield 115, 3) := by decide +kernel
theorem d_Led_look_67 : decode b_Led_look 67 = .ok (.iload_n 1, 1) := by decide +kernel
theorem d_Led_look_68 : decode b_Led_look 68 = .ok (.iaload, 1) := by decide +kernel
theorem d_Led_look_69 : decode b_Led_look 69 = .ok (.ireturn, 1) := by decide +kernel
theorem d_Led_look_70 : decode b_Led_look 70 = .ok (.aload_n 0, 1) := by decide +kernel
theorem d_Led_look_71 : decode b_Led_look 71 = .ok (.getfield 10, 3) := by decide +kernel
theorem d_Led_look_74 : decode b_Led_look 74 = .ok (.getfield 45, 3) := by decide +kernel
theorem d_Led_look_77 : decode b_Led_look 77 = .ok (.getfield 118, 3) := by decide +kernel
theorem d_Led_look_80 : decode b_Led_look 80 = .ok (.iload_n 1, 1) := by decide +kernel
theorem d_Led_look_81 : decode b_Led_look 81 = .ok (.iaload, 1) := by decide +kernel
theorem d_Led_look_82 : decode b_Led_look 82 = .ok (.ireturn, 1) := by decide +kernel
theorem d_Led_look_83 : decode b_Led_look 83 = .ok (.aload_n 0, 1) := by decide +kernel
theorem d_Led_look_84 : decode b_Led_look 84 = .ok (.getfield 10, 3) := by decide +kernel
theorem d_Led_look_87 : decode b_Led_look 87 = .ok (.getfield 45, 3) := by decide +kernel
theorem d_Led_look_90 : decode b_Led_look 90 = .ok (.iload_n 1, 1) := by decide +kernel
theorem d_Led_look_91 : decode b_Led_look 91 = .ok (.invokevirtual 121, 3) := by decide +kernel
theorem d_Led_look_94 : decode b_Led_look 94 = .ok (.ireturn, 1) := by decide +kernel
theorem d_Led_look_95 : decode b_Led_look 95 = .ok (.aload_n 0, 1) := by decide +kernel
theorem d_Led_look_96 : decode b_Led_look 96 = .ok (.getfield 10, 3) := by decide +kernel
theorem d_Led_look_99 : decode b_Led_look 99 = .ok (.getfield 45, 3) := by decide +kernel
theorem d_Led_look_102 : decode b_Led_look 102 = .ok (.iload_n 1, 1) := by decide +kernel
theorem d_Led_look_103 : decode b_Led_look 103 = .ok (.invokevirtual 125, 3) := by decide +kernel
theorem d_Led_look_106 : decode b_Led_look 106 = .ok (.ireturn, 1) := by decide +kernel
theorem d_Led_look_107 : decode b_Led_look 107 = .ok (.iconst (-1), 1) := by decide +kernel
theorem d_Led_look_108 : decode b_Led_look 108 = .ok (.ireturn, 1) := by decide +kernel
theorem d_Led_slot_0 : decode b_Led_slot 0 = .ok (.aload_n 0, 1) := by decide +kernel
theorem d_Led_slot_1 : decode b_Led_slot 1 = .ok (.getfield 10, 3) := by decide +kernel
theorem d_Led_slot_4 : decode b_Led_slot 4 = .ok (.getfield 45, 3) := by decide +kernel
theorem d_Led_slot_7 : decode b_Led_slot 7 = .ok (.iload_n 1, 1) := by decide +kernel
theorem d_Led_slot_8 : decode b_Led_slot 8 = .ok (.iload_n 2, 1) := by decide +kernel
theorem d_Led_slot_9 : decode b_Led_slot 9 = .ok (.invokevirtual 128, 3) := by decide +kernel
theorem d_Led_slot_12 : decode b_Led_slot 12 = .ok (.ireturn, 1) := by decide +kernel
theorem d_Led_word_0 : decode b_Led_word 0 = .ok (.aload_n 0, 1) := by decide +kernel
theorem d_Led_word_1 : decode b_Led_word 1 = .ok (.getfield 10, 3) := by decide +kernel
theorem d_Led_word_4 : decode b_Led_word 4 = .ok (.getfield 45, 3) := by decide +kernel
theorem d_Led_word_7 : decode b_Led_word 7 = .ok (.iload_n 1, 1) := by decide +kernel
theorem d_Led_word_8 : decode b_Led_word 8 = .ok (.iload_n 2, 1) := by decide +kernel
theorem d_Led_word_9 : decode b_Led_word 9 = .ok (.invokevirtual 132, 3) := by decide +kernel
theorem d_Led_word_12 : decode b_Led_word 12 = .ok (.ireturn, 1) := by decide +kernel
theorem d_Led_root_0 : decode b_Led_root 0 = .ok (.aload_n 0, 1) := by decide +kernel
theorem d_Led_root_1 : decode b_Led_root 1 = .ok (.getfield 10, 3) := by decide +kernel
theorem d_Led_root_4 : decode b_Led_root 4 = .ok (.getfield 45, 3) := by decide +kernel
theorem d_Led_root_7 : decode b_Led_root 7 = .ok (.invokevirtual 135, 3) := by decide +kernel
theorem d_Led_root_10 : decode b_Led_root 10 = .ok (.ireturn, 1) := by decide +kernel
theorem d_Led_block_0 : decode b_Led_block 0 = .ok (.iload_n 1, 1) := by decide +kernel
theorem d_Led_block_1 : decode b_Led_block 1 = .ok (.tableswitch 110 0 7 #[47, 52, 57, 62, 75, 80, 91, 99], 47) := by decide +kernel
theorem d_Led_block_48 : decode b_Led_block 48 = .ok (.aload_n 0, 1) := by decide +kernel
theorem d_Led_block_49 : decode b_Led_block 49 = .ok (.getfield 109, 3) := by decide +kernel
theorem d_Led_block_52 : decode b_Led_block 52 = .ok (.ireturn, 1) := by decide +kernel
theorem d_Led_block_53 : decode b_Led_block 53 = .ok (.aload_n 0, 1) := by decide +kernel
theorem d_Led_block_54 : decode b_Led_block 54 = .ok (.getfield 112, 3) := by decide +kernel
theorem d_Led_block_57 : decode b_Led_block 57 = .ok (.ireturn, 1) := by decide +kernel
theorem d_Led_block_58 : decode b_Led_block 58 = .ok (.aload_n 0, 1) := by decide +kernel
theorem d_Led_block_59 : decode b_Led_block 59 = .ok (.getfield 66, 3) := by decide +kernel
theorem d_Led_block_62 : decode b_Led_block 62 = .ok (.ireturn, 1) := by decide +kernel
theorem d_Led_block_63 : decode b_Led_block 63 = .ok (.aload_n 0, 1) := by decide +kernel
theorem d_Led_block_64 : decode b_Led_block 64 = .ok (.getfield 62, 3) := by decide +kernel
theorem d_Led_block_67 : decode b_Led_block 67 = .ok (.ifCond .eq 7, 3) := by decide +kernel
theorem d_Led_block_70 : decode b_Led_block 70 = .ok (.iconst 1, 1) := by decide +kernel
theorem d_Led_block_71 : decode b_Led_block 71 = .ok (.goto 4, 3) := by decide +kernel
theorem d_Led_block_74 : decode b_Led_block 74 = .ok (.iconst 0, 1) := by decide +kernel
theorem d_Led_block_75 : decode b_Led_block 75 = .ok (.ireturn, 1) := by decide +kernel
theorem d_Led_block_76 : decode b_Led_block 76 = .ok (.aload_n 0, 1) := by decide +kernel
theorem d_Led_block_77 : decode b_Led_block 77 = .ok (.getfield 75, 3) := by decide +kernel
theorem d_Led_block_80 : decode b_Led_block 80 = .ok (.ireturn, 1) := by decide +kernel
theorem d_Led_block_81 : decode b_Led_block 81 = .ok (.aload_n 0, 1) := by decide +kernel
theorem d_Led_block_82 : decode b_Led_block 82 = .ok (.getfield 10, 3) := by decide +kernel
theorem d_Led_block_85 : decode b_Led_block 85 = .ok (.getfield 81, 3) := by decide +kernel
theorem d_Led_block_88 : decode b_Led_block 88 = .ok (.getfield 139, 3) := by decide +kernel
theorem d_Led_block_91 : decode b_Led_block 91 = .ok (.ireturn, 1) := by decide +kernel
theorem d_Led_block_92 : decode b_Led_block 92 = .ok (.aload_n 0, 1) := by decide +kernel
theorem d_Led_block_93 : decode b_Led_block 93 = .ok (.getfield 26, 3) := by decide +kernel
theorem d_Led_block_96 : decode b_Led_block 96 = .ok (.getfield 78, 3) := by decide +kernel
theorem d_Led_block_99 : decode b_Led_block 99 = .ok (.ireturn, 1) := by decide +kernel
theorem d_Led_block_100 : decode b_Led_block 100 = .ok (.aload_n 0, 1) := by decide +kernel
theorem d_Led_block_101 : decode b_Led_block 101 = .ok (.getfield 10, 3) := by decide +kernel
theorem d_Led_block_104 : decode b_Led_block 104 = .ok (.getfield 81, 3) := by decide +kernel
theorem d_Led_block_107 : decode b_Led_block 107 = .ok (.getfield 142, 3) := by decide +kernel
theorem d_Led_block_110 : decode b_Led_block 110 = .ok (.ireturn, 1) := by decide +kernel
theorem d_Led_block_111 : decode b_Led_block 111 = .ok (.iconst (-1), 1) := by decide +kernel
theorem d_Led_block_112 : decode b_Led_block 112 = .ok (.ireturn, 1) := by decide +kernel
theorem d_Led_receipt_0 : decode b_Led_receipt 0 = .ok (.aload_n 0, 1) := by decide +kernel
theorem d_Led_receipt_1 : decode b_Led_receipt 1 = .ok (.getfield 26, 3) := by decide +kernel
theorem d_Led_receipt_4 : decode b_Led_receipt 4 = .ok (.iload_n 1, 1) := by decide +kernel
theorem d_Led_receipt_5 : decode b_Led_receipt 5 = .ok (.iload_n 2, 1) := by decide +kernel
theorem d_Led_receipt_6 : decode b_Led_receipt 6 = .ok (.invokevirtual 143, 3) := by decide +kernel
theorem d_Led_receipt_9 : decode b_Led_receipt 9 = .ok (.ireturn, 1) := by decide +kernel
theorem d_Led_log_0 : decode b_Led_log 0 = .ok (.aload_n 0, 1) := by decide +kernel
theorem d_Led_log_1 : decode b_Led_log 1 = .ok (.getfield 10, 3) := by decide +kernel
theorem d_Led_log_4 : decode b_Led_log 4 = .ok (.getfield 81, 3) := by decide +kernel
theorem d_Led_log_7 : decode b_Led_log 7 = .ok (.iload_n 1, 1) := by decide +kernel
theorem d_Led_log_8 : decode b_Led_log 8 = .ok (.iload_n 2, 1) := by decide +kernel
theorem d_Led_log_9 : decode b_Led_log 9 = .ok (.invokevirtual 146, 3) := by decide +kernel
theorem d_Led_log_12 : decode b_Led_log 12 = .ok (.ireturn, 1) := by decide +kernel
theorem d_Led_total_0 : decode b_Led_total 0 = .ok (.lconst 0, 1) := by decide +kernel
theorem d_Led_total_1 : decode b_Led_total 1 = .ok (.lstore_n 1, 1) := by decide +kernel
theorem d_Led_total_2 : decode b_Led_total 2 = .ok (.iconst 0, 1) := by decide +kernel
theorem d_Led_total_3 : decode b_Led_total 3 = .ok (.istore_n 3, 1) := by decide +kernel
theorem d_Led_total_4 : decode b_Led_total 4 = .ok (.iload_n 3, 1) := by decide +kernel
theorem d_Led_total_5 : decode b_Led_total 5 = .ok (.bipush 16, 2) := by decide +kernel
theorem d_Led_total_7 : decode b_Led_total 7 = .ok (.if_icmp .ge 25, 3) := by decide +kernel
theorem d_Led_total_10 : decode b_Led_total 10 = .ok (.lload_n 1, 1) := by decide +kernel
theorem d_Led_total_11 : decode b_Led_total 11 = .ok (.aload_n 0, 1) := by decide +kernel
theorem d_Led_total_12 : decode b_Led_total 12 = .ok (.getfield 10, 3) := by decide +kernel
theorem d_Led_total_15 : decode b_Led_total 15 = .ok (.getfield 45, 3) := by decide +kernel
theorem d_Led_total_18 : decode b_Led_total 18 = .ok (.getfield 48, 3) := by decide +kernel
theorem d_Led_total_21 : decode b_Led_total 21 = .ok (.iload_n 3, 1) := by decide +kernel
theorem d_Led_total_22 : decode b_Led_total 22 = .ok (.iaload, 1) := by decide +kernel
theorem d_Led_total_23 : decode b_Led_total 23 = .ok (.i2l, 1) := by decide +kernel
theorem d_Led_total_24 : decode b_Led_total 24 = .ok (.ladd, 1) := by decide +kernel
theorem d_Led_total_25 : decode b_Led_total 25 = .ok (.lstore_n 1, 1) := by decide +kernel
theorem d_Led_total_26 : decode b_Led_total 26 = .ok (.iinc 3 1, 3) := by decide +kernel
theorem d_Led_total_29 : decode b_Led_total 29 = .ok (.goto (-25), 3) := by decide +kernel
theorem d_Led_total_32 : decode b_Led_total 32 = .ok (.lload_n 1, 1) := by decide +kernel
theorem d_Led_total_33 : decode b_Led_total 33 = .ok (.lreturn, 1) := by decide +kernel
theorem d_Led_refusalOf_0 : decode b_Led_refusalOf 0 = .ok (.aload_n 0, 1) := by decide +kernel
theorem d_Led_refusalOf_1 : decode b_Led_refusalOf 1 = .ok (.getfield 62, 3) := by decide +kernel
theorem d_Led_refusalOf_4 : decode b_Led_refusalOf 4 = .ok (.ifCond .ne 5, 3) := by decide +kernel
theorem d_Led_refusalOf_7 : decode b_Led_refusalOf 7 = .ok (.iconst (-1), 1) := by decide +kernel
theorem d_Led_refusalOf_8 : decode b_Led_refusalOf 8 = .ok (.ireturn, 1) := by decide +kernel
theorem d_Led_refusalOf_9 : decode b_Led_refusalOf 9 = .ok (.iload_n 1, 1) := by decide +kernel
theorem d_Led_refusalOf_10 : decode b_Led_refusalOf 10 = .ok (.invokestatic 40, 3) := by decide +kernel
theorem d_Led_refusalOf_13 : decode b_Led_refusalOf 13 = .ok (.ifCond .eq 14, 3) := by decide +kernel
theorem d_Led_refusalOf_16 : decode b_Led_refusalOf 16 = .ok (.iload_n 2, 1) := by decide +kernel
theorem d_Led_refusalOf_17 : decode b_Led_refusalOf 17 = .ok (.invokestatic 40, 3) := by decide +kernel
theorem d_Led_refusalOf_20 : decode b_Led_refusalOf 20 = .ok (.ifCond .eq 7, 3) := by decide +kernel
theorem d_Led_refusalOf_23 : decode b_Led_refusalOf 23 = .ok (.iload_n 3, 1) := by decide +kernel
theorem d_Led_refusalOf_24 : decode b_Led_refusalOf 24 = .ok (.ifCond .ge 6, 3) := by decide +kernel
theorem d_Led_refusalOf_27 : decode b_Led_refusalOf 27 = .ok (.bipush (-2), 2) := by decide +kernel
theorem d_Led_refusalOf_29 : decode b_Led_refusalOf 29 = .ok (.ireturn, 1) := by decide +kernel
theorem d_Led_refusalOf_30 : decode b_Led_refusalOf 30 = .ok (.iload 6, 2) := by decide +kernel
theorem d_Led_refusalOf_32 : decode b_Led_refusalOf 32 = .ok (.ifCond .eq 6, 3) := by decide +kernel
theorem d_Led_refusalOf_35 : decode b_Led_refusalOf 35 = .ok (.bipush (-3), 2) := by decide +kernel
theorem d_Led_refusalOf_37 : decode b_Led_refusalOf 37 = .ok (.ireturn, 1) := by decide +kernel
theorem d_Led_refusalOf_38 : decode b_Led_refusalOf 38 = .ok (.iload 4, 2) := by decide +kernel
theorem d_Led_refusalOf_40 : decode b_Led_refusalOf 40 = .ok (.bipush 20, 2) := by decide +kernel
theorem d_Led_refusalOf_42 : decode b_Led_refusalOf 42 = .ok (.if_icmp .lt 23, 3) := by decide +kernel
theorem d_Led_refusalOf_45 : decode b_Led_refusalOf 45 = .ok (.iload 4, 2) := by decide +kernel
theorem d_Led_refusalOf_47 : decode b_Led_refusalOf 47 = .ok (.sipush 3000, 3) := by decide +kernel
theorem d_Led_refusalOf_50 : decode b_Led_refusalOf 50 = .ok (.if_icmp .gt 15, 3) := by decide +kernel
theorem d_Led_refusalOf_53 : decode b_Led_refusalOf 53 = .ok (.iload 5, 2) := by decide +kernel
theorem d_Led_refusalOf_55 : decode b_Led_refusalOf 55 = .ok (.ifCond .lt 10, 3) := by decide +kernel
theorem d_Led_refusalOf_58 : decode b_Led_refusalOf 58 = .ok (.iload 5, 2) := by decide +kernel
theorem d_Led_refusalOf_60 : decode b_Led_refusalOf 60 = .ok (.bipush 100, 2) := by decide +kernel
theorem d_Led_refusalOf_62 : decode b_Led_refusalOf 62 = .ok (.if_icmp .le 6, 3) := by decide +kernel
theorem d_Led_refusalOf_65 : decode b_Led_refusalOf 65 = .ok (.bipush (-4), 2) := by decide +kernel
theorem d_Led_refusalOf_67 : decode b_Led_refusalOf 67 = .ok (.ireturn, 1) := by decide +kernel
theorem d_Led_refusalOf_68 : decode b_Led_refusalOf 68 = .ok (.iload 4, 2) := by decide +kernel
theorem d_Led_refusalOf_70 : decode b_Led_refusalOf 70 = .ok (.sipush 3000, 3) := by decide +kernel
theorem d_Led_refusalOf_73 : decode b_Led_refusalOf 73 = .ok (.aload_n 0, 1) := by decide +kernel
theorem d_Led_refusalOf_74 : decode b_Led_refusalOf 74 = .ok (.getfield 75, 3) := by decide +kernel
theorem d_Led_refusalOf_77 : decode b_Led_refusalOf 77 = .ok (.isub, 1) := by decide +kernel
theorem d_Led_refusalOf_78 : decode b_Led_refusalOf 78 = .ok (.if_icmp .le 6, 3) := by decide +kernel
theorem d_Led_refusalOf_81 : decode b_Led_refusalOf 81 = .ok (.bipush (-5), 2) := by decide +kernel
theorem d_Led_refusalOf_83 : decode b_Led_refusalOf 83 = .ok (.ireturn, 1) := by decide +kernel
theorem d_Led_refusalOf_84 : decode b_Led_refusalOf 84 = .ok (.iload 4, 2) := by decide +kernel
theorem d_Led_refusalOf_86 : decode b_Led_refusalOf 86 = .ok (.i2l, 1) := by decide +kernel
theorem d_Led_refusalOf_87 : decode b_Led_refusalOf 87 = .ok (.iload 5, 2) := by decide +kernel
theorem d_Led_refusalOf_89 : decode b_Led_refusalOf 89 = .ok (.i2l, 1) := by decide +kernel
theorem d_Led_refusalOf_90 : decode b_Led_refusalOf 90 = .ok (.lmul, 1) := by decide +kernel
theorem d_Led_refusalOf_91 : decode b_Led_refusalOf 91 = .ok (.iload_n 3, 1) := by decide +kernel
theorem d_Led_refusalOf_92 : decode b_Led_refusalOf 92 = .ok (.i2l, 1) := by decide +kernel
theorem d_Led_refusalOf_93 : decode b_Led_refusalOf 93 = .ok (.ladd, 1) := by decide +kernel
theorem d_Led_refusalOf_94 : decode b_Led_refusalOf 94 = .ok (.lstore 7, 2) := by decide +kernel
theorem d_Led_refusalOf_96 : decode b_Led_refusalOf 96 = .ok (.aload_n 0, 1) := by decide +kernel
theorem d_Led_refusalOf_97 : decode b_Led_refusalOf 97 = .ok (.getfield 10, 3) := by decide +kernel
theorem d_Led_refusalOf_100 : decode b_Led_refusalOf 100 = .ok (.getfield 45, 3) := by decide +kernel
theorem d_Led_refusalOf_103 : decode b_Led_refusalOf 103 = .ok (.getfield 48, 3) := by decide +kernel
theorem d_Led_refusalOf_106 : decode b_Led_refusalOf 106 = .ok (.iload_n 1, 1) := by decide +kernel
theorem d_Led_refusalOf_107 : decode b_Led_refusalOf 107 = .ok (.iaload, 1) := by decide +kernel
theorem d_Led_refusalOf_108 : decode b_Led_refusalOf 108 = .ok (.i2l, 1) := by decide +kernel
theorem d_Led_refusalOf_109 : decode b_Led_refusalOf 109 = .ok (.lload 7, 2) := by decide +kernel
theorem d_Led_refusalOf_111 : decode b_Led_refusalOf 111 = .ok (.lcmp, 1) := by decide +kernel
theorem d_Led_refusalOf_112 : decode b_Led_refusalOf 112 = .ok (.ifCond .ge 8, 3) := by decide +kernel
theorem d_Led_refusalOf_115 : decode b_Led_refusalOf 115 = .ok (.bipush (-6), 2) := by decide +kernel
theorem d_Led_refusalOf_117 : decode b_Led_refusalOf 117 = .ok (.goto 4, 3) := by decide +kernel
theorem d_Led_refusalOf_120 : decode b_Led_refusalOf 120 = .ok (.iconst 0, 1) := by decide +kernel
theorem d_Led_refusalOf_121 : decode b_Led_refusalOf 121 = .ok (.ireturn, 1) := by decide +kernel
