theorem d_Acc_append_0 : decode b_Acc_append 0 = .ok (.aload_n 0, 1) := by decide +kernel
theorem d_Acc_append_1 : decode b_Acc_append 1 = .ok (.getfield 18, 3) := by decide +kernel
theorem d_Acc_append_4 : decode b_Acc_append 4 = .ok (.iload_n 1, 1) := by decide +kernel
theorem d_Acc_append_5 : decode b_Acc_append 5 = .ok (.iaload, 1) := by decide +kernel
theorem d_Acc_append_6 : decode b_Acc_append 6 = .ok (.bipush 24, 2) := by decide +kernel
theorem d_Acc_append_8 : decode b_Acc_append 8 = .ok (.if_icmp .lt 5, 3) := by decide +kernel
theorem d_Acc_append_11 : decode b_Acc_append 11 = .ok (.iconst 0, 1) := by decide +kernel
theorem d_Acc_append_12 : decode b_Acc_append 12 = .ok (.ireturn, 1) := by decide +kernel
theorem d_Acc_append_13 : decode b_Acc_append 13 = .ok (.aload_n 0, 1) := by decide +kernel
theorem d_Acc_append_14 : decode b_Acc_append 14 = .ok (.getfield 21, 3) := by decide +kernel
theorem d_Acc_append_17 : decode b_Acc_append 17 = .ok (.iload_n 1, 1) := by decide +kernel
theorem d_Acc_append_18 : decode b_Acc_append 18 = .ok (.bipush 24, 2) := by decide +kernel
theorem d_Acc_append_20 : decode b_Acc_append 20 = .ok (.imul, 1) := by decide +kernel
theorem d_Acc_append_21 : decode b_Acc_append 21 = .ok (.aload_n 0, 1) := by decide +kernel
theorem d_Acc_append_22 : decode b_Acc_append 22 = .ok (.getfield 18, 3) := by decide +kernel
theorem d_Acc_append_25 : decode b_Acc_append 25 = .ok (.iload_n 1, 1) := by decide +kernel
theorem d_Acc_append_26 : decode b_Acc_append 26 = .ok (.iaload, 1) := by decide +kernel
theorem d_Acc_append_27 : decode b_Acc_append 27 = .ok (.iadd, 1) := by decide +kernel
theorem d_Acc_append_28 : decode b_Acc_append 28 = .ok (.iload_n 2, 1) := by decide +kernel
theorem d_Acc_append_29 : decode b_Acc_append 29 = .ok (.iastore, 1) := by decide +kernel
theorem d_Acc_append_30 : decode b_Acc_append 30 = .ok (.aload_n 0, 1) := by decide +kernel
theorem d_Acc_append_31 : decode b_Acc_append 31 = .ok (.getfield 18, 3) := by decide +kernel
theorem d_Acc_append_34 : decode b_Acc_append 34 = .ok (.iload_n 1, 1) := by decide +kernel
theorem d_Acc_append_35 : decode b_Acc_append 35 = .ok (.dup2, 1) := by decide +kernel
theorem d_Acc_append_36 : decode b_Acc_append 36 = .ok (.iaload, 1) := by decide +kernel
theorem d_Acc_append_37 : decode b_Acc_append 37 = .ok (.iconst 1, 1) := by decide +kernel
theorem d_Acc_append_38 : decode b_Acc_append 38 = .ok (.iadd, 1) := by decide +kernel
theorem d_Acc_append_39 : decode b_Acc_append 39 = .ok (.iastore, 1) := by decide +kernel
theorem d_Acc_append_40 : decode b_Acc_append 40 = .ok (.iconst 1, 1) := by decide +kernel
theorem d_Acc_append_41 : decode b_Acc_append 41 = .ok (.ireturn, 1) := by decide +kernel
theorem d_Acc_wordOf_0 : decode b_Acc_wordOf 0 = .ok (.iload_n 1, 1) := by decide +kernel
theorem d_Acc_wordOf_1 : decode b_Acc_wordOf 1 = .ok (.invokestatic 36, 3) := by decide +kernel
theorem d_Acc_wordOf_4 : decode b_Acc_wordOf 4 = .ok (.ifCond .eq 17, 3) := by decide +kernel
theorem d_Acc_wordOf_7 : decode b_Acc_wordOf 7 = .ok (.iload_n 2, 1) := by decide +kernel
theorem d_Acc_wordOf_8 : decode b_Acc_wordOf 8 = .ok (.ifCond .lt 13, 3) := by decide +kernel
theorem d_Acc_wordOf_11 : decode b_Acc_wordOf 11 = .ok (.iload_n 2, 1) := by decide +kernel
theorem d_Acc_wordOf_12 : decode b_Acc_wordOf 12 = .ok (.aload_n 0, 1) := by decide +kernel
theorem d_Acc_wordOf_13 : decode b_Acc_wordOf 13 = .ok (.getfield 18, 3) := by decide +kernel
theorem d_Acc_wordOf_16 : decode b_Acc_wordOf 16 = .ok (.iload_n 1, 1) := by decide +kernel
theorem d_Acc_wordOf_17 : decode b_Acc_wordOf 17 = .ok (.iaload, 1) := by decide +kernel
theorem d_Acc_wordOf_18 : decode b_Acc_wordOf 18 = .ok (.if_icmp .lt 5, 3) := by decide +kernel
theorem d_Acc_wordOf_21 : decode b_Acc_wordOf 21 = .ok (.iconst 0, 1) := by decide +kernel
theorem d_Acc_wordOf_22 : decode b_Acc_wordOf 22 = .ok (.ireturn, 1) := by decide +kernel
theorem d_Acc_wordOf_23 : decode b_Acc_wordOf 23 = .ok (.aload_n 0, 1) := by decide +kernel
theorem d_Acc_wordOf_24 : decode b_Acc_wordOf 24 = .ok (.getfield 21, 3) := by decide +kernel
theorem d_Acc_wordOf_27 : decode b_Acc_wordOf 27 = .ok (.iload_n 1, 1) := by decide +kernel
theorem d_Acc_wordOf_28 : decode b_Acc_wordOf 28 = .ok (.bipush 24, 2) := by decide +kernel
theorem d_Acc_wordOf_30 : decode b_Acc_wordOf 30 = .ok (.imul, 1) := by decide +kernel
theorem d_Acc_wordOf_31 : decode b_Acc_wordOf 31 = .ok (.iload_n 2, 1) := by decide +kernel
theorem d_Acc_wordOf_32 : decode b_Acc_wordOf 32 = .ok (.iadd, 1) := by decide +kernel
theorem d_Acc_wordOf_33 : decode b_Acc_wordOf 33 = .ok (.iaload, 1) := by decide +kernel
theorem d_Acc_wordOf_34 : decode b_Acc_wordOf 34 = .ok (.ireturn, 1) := by decide +kernel
theorem d_Acc_slotOf_0 : decode b_Acc_slotOf 0 = .ok (.iload_n 1, 1) := by decide +kernel
theorem d_Acc_slotOf_1 : decode b_Acc_slotOf 1 = .ok (.invokestatic 36, 3) := by decide +kernel
theorem d_Acc_slotOf_4 : decode b_Acc_slotOf 4 = .ok (.ifCond .eq 24, 3) := by decide +kernel
theorem d_Acc_slotOf_7 : decode b_Acc_slotOf 7 = .ok (.iload_n 2, 1) := by decide +kernel
theorem d_Acc_slotOf_8 : decode b_Acc_slotOf 8 = .ok (.invokestatic 40, 3) := by decide +kernel
theorem d_Acc_slotOf_11 : decode b_Acc_slotOf 11 = .ok (.ifCond .eq 17, 3) := by decide +kernel
theorem d_Acc_slotOf_14 : decode b_Acc_slotOf 14 = .ok (.aload_n 0, 1) := by decide +kernel
theorem d_Acc_slotOf_15 : decode b_Acc_slotOf 15 = .ok (.getfield 24, 3) := by decide +kernel
theorem d_Acc_slotOf_18 : decode b_Acc_slotOf 18 = .ok (.iload_n 1, 1) := by decide +kernel
theorem d_Acc_slotOf_19 : decode b_Acc_slotOf 19 = .ok (.bipush 8, 2) := by decide +kernel
theorem d_Acc_slotOf_21 : decode b_Acc_slotOf 21 = .ok (.imul, 1) := by decide +kernel
theorem d_Acc_slotOf_22 : decode b_Acc_slotOf 22 = .ok (.iload_n 2, 1) := by decide +kernel
theorem d_Acc_slotOf_23 : decode b_Acc_slotOf 23 = .ok (.iadd, 1) := by decide +kernel
theorem d_Acc_slotOf_24 : decode b_Acc_slotOf 24 = .ok (.iaload, 1) := by decide +kernel
theorem d_Acc_slotOf_25 : decode b_Acc_slotOf 25 = .ok (.goto 4, 3) := by decide +kernel
theorem d_Acc_slotOf_28 : decode b_Acc_slotOf 28 = .ok (.iconst 0, 1) := by decide +kernel
theorem d_Acc_slotOf_29 : decode b_Acc_slotOf 29 = .ok (.ireturn, 1) := by decide +kernel
theorem d_Acc_balanceOf_0 : decode b_Acc_balanceOf 0 = .ok (.iload_n 1, 1) := by decide +kernel
theorem d_Acc_balanceOf_1 : decode b_Acc_balanceOf 1 = .ok (.invokestatic 36, 3) := by decide +kernel
theorem d_Acc_balanceOf_4 : decode b_Acc_balanceOf 4 = .ok (.ifCond .eq 12, 3) := by decide +kernel
theorem d_Acc_balanceOf_7 : decode b_Acc_balanceOf 7 = .ok (.aload_n 0, 1) := by decide +kernel
theorem d_Acc_balanceOf_8 : decode b_Acc_balanceOf 8 = .ok (.getfield 9, 3) := by decide +kernel
theorem d_Acc_balanceOf_11 : decode b_Acc_balanceOf 11 = .ok (.iload_n 1, 1) := by decide +kernel
theorem d_Acc_balanceOf_12 : decode b_Acc_balanceOf 12 = .ok (.iaload, 1) := by decide +kernel
theorem d_Acc_balanceOf_13 : decode b_Acc_balanceOf 13 = .ok (.goto 4, 3) := by decide +kernel
theorem d_Acc_balanceOf_16 : decode b_Acc_balanceOf 16 = .ok (.iconst 0, 1) := by decide +kernel
theorem d_Acc_balanceOf_17 : decode b_Acc_balanceOf 17 = .ok (.ireturn, 1) := by decide +kernel
theorem d_Acc_give_0 : decode b_Acc_give 0 = .ok (.aload_n 0, 1) := by decide +kernel
theorem d_Acc_give_1 : decode b_Acc_give 1 = .ok (.getfield 9, 3) := by decide +kernel
theorem d_Acc_give_4 : decode b_Acc_give 4 = .ok (.iload_n 1, 1) := by decide +kernel
theorem d_Acc_give_5 : decode b_Acc_give 5 = .ok (.dup2, 1) := by decide +kernel
theorem d_Acc_give_6 : decode b_Acc_give 6 = .ok (.iaload, 1) := by decide +kernel
theorem d_Acc_give_7 : decode b_Acc_give 7 = .ok (.iload_n 3, 1) := by decide +kernel
theorem d_Acc_give_8 : decode b_Acc_give 8 = .ok (.isub, 1) := by decide +kernel
theorem d_Acc_give_9 : decode b_Acc_give 9 = .ok (.iastore, 1) := by decide +kernel
theorem d_Acc_give_10 : decode b_Acc_give 10 = .ok (.aload_n 0, 1) := by decide +kernel
theorem d_Acc_give_11 : decode b_Acc_give 11 = .ok (.getfield 9, 3) := by decide +kernel
theorem d_Acc_give_14 : decode b_Acc_give 14 = .ok (.iload_n 2, 1) := by decide +kernel
theorem d_Acc_give_15 : decode b_Acc_give 15 = .ok (.dup2, 1) := by decide +kernel
theorem d_Acc_give_16 : decode b_Acc_give 16 = .ok (.iaload, 1) := by decide +kernel
theorem d_Acc_give_17 : decode b_Acc_give 17 = .ok (.iload_n 3, 1) := by decide +kernel
theorem d_Acc_give_18 : decode b_Acc_give 18 = .ok (.iadd, 1) := by decide +kernel
theorem d_Acc_give_19 : decode b_Acc_give 19 = .ok (.iastore, 1) := by decide +kernel
theorem d_Acc_give_20 : decode b_Acc_give 20 = .ok (.return_, 1) := by decide +kernel
theorem d_Acc_clear_0 : decode b_Acc_clear 0 = .ok (.aload_n 0, 1) := by decide +kernel
theorem d_Acc_clear_1 : decode b_Acc_clear 1 = .ok (.getfield 9, 3) := by decide +kernel
theorem d_Acc_clear_4 : decode b_Acc_clear 4 = .ok (.iload_n 1, 1) := by decide +kernel
theorem d_Acc_clear_5 : decode b_Acc_clear 5 = .ok (.iconst 0, 1) := by decide +kernel
theorem d_Acc_clear_6 : decode b_Acc_clear 6 = .ok (.iastore, 1) := by decide +kernel
theorem d_Acc_clear_7 : decode b_Acc_clear 7 = .ok (.aload_n 0, 1) := by decide +kernel
theorem d_Acc_clear_8 : decode b_Acc_clear 8 = .ok (.getfield 15, 3) := by decide +kernel
theorem d_Acc_clear_11 : decode b_Acc_clear 11 = .ok (.iload_n 1, 1) := by decide +kernel
theorem d_Acc_clear_12 : decode b_Acc_clear 12 = .ok (.iconst 0, 1) := by decide +kernel
theorem d_Acc_clear_13 : decode b_Acc_clear 13 = .ok (.iastore, 1) := by decide +kernel
theorem d_Acc_clear_14 : decode b_Acc_clear 14 = .ok (.aload_n 0, 1) := by decide +kernel
theorem d_Acc_clear_15 : decode b_Acc_clear 15 = .ok (.getfield 18, 3) := by decide +kernel
theorem d_Acc_clear_18 : decode b_Acc_clear 18 = .ok (.iload_n 1, 1) := by decide +kernel
theorem d_Acc_clear_19 : decode b_Acc_clear 19 = .ok (.iconst 0, 1) := by decide +kernel
theorem d_Acc_clear_20 : decode b_Acc_clear 20 = .ok (.iastore, 1) := by decide +kernel
theorem d_Acc_clear_21 : decode b_Acc_clear 21 = .ok (.iconst 0, 1) := by decide +kernel
theorem d_Acc_clear_22 : decode b_Acc_clear 22 = .ok (.istore_n 2, 1) := by decide +kernel
theorem d_Acc_clear_23 : decode b_Acc_clear 23 = .ok (.iload_n 2, 1) := by decide +kernel
theorem d_Acc_clear_24 : decode b_Acc_clear 24 = .ok (.bipush 8, 2) := by decide +kernel
theorem d_Acc_clear_26 : decode b_Acc_clear 26 = .ok (.if_icmp .ge 21, 3) := by decide +kernel
theorem d_Acc_clear_29 : decode b_Acc_clear 29 = .ok (.aload_n 0, 1) := by decide +kernel
theorem d_Acc_clear_30 : decode b_Acc_clear 30 = .ok (.getfield 24, 3) := by decide +kernel
theorem d_Acc_clear_33 : decode b_Acc_clear 33 = .ok (.iload_n 1, 1) := by decide +kernel
theorem d_Acc_clear_34 : decode b_Acc_clear 34 = .ok (.bipush 8, 2) := by decide +kernel
theorem d_Acc_clear_36 : decode b_Acc_clear 36 = .ok (.imul, 1) := by decide +kernel
theorem d_Acc_clear_37 : decode b_Acc_clear 37 = .ok (.iload_n 2, 1) := by decide +kernel
theorem d_Acc_clear_38 : decode b_Acc_clear 38 = .ok (.iadd, 1) := by decide +kernel
theorem d_Acc_clear_39 : decode b_Acc_clear 39 = .ok (.iconst 0, 1) := by decide +kernel
theorem d_Acc_clear_40 : decode b_Acc_clear 40 = .ok (.iastore, 1) := by decide +kernel
theorem d_Acc_clear_41 : decode b_Acc_clear 41 = .ok (.iinc 2 1, 3) := by decide +kernel
theorem d_Acc_clear_44 : decode b_Acc_clear 44 = .ok (.goto (-21), 3) := by decide +kernel
theorem d_Acc_clear_47 : decode b_Acc_clear 47 = .ok (.return_, 1) := by decide +kernel
theorem d_Acc_isEmpty_0 : decode b_Acc_isEmpty 0 = .ok (.aload_n 0, 1) := by decide +kernel
theorem d_Acc_isEmpty_1 : decode b_Acc_isEmpty 1 = .ok (.getfield 9, 3) := by decide +kernel
theorem d_Acc_isEmpty_4 : decode b_Acc_isEmpty 4 = .ok (.iload_n 1, 1) := by decide +kernel
theorem d_Acc_isEmpty_5 : decode b_Acc_isEmpty 5 = .ok (.iaload, 1) := by decide +kernel
theorem d_Acc_isEmpty_6 : decode b_Acc_isEmpty 6 = .ok (.ifCond .ne 33, 3) := by decide +kernel
theorem d_Acc_isEmpty_9 : decode b_Acc_isEmpty 9 = .ok (.aload_n 0, 1) := by decide +kernel
theorem d_Acc_isEmpty_10 : decode b_Acc_isEmpty 10 = .ok (.getfield 15, 3) := by decide +kernel
theorem d_Acc_isEmpty_13 : decode b_Acc_isEmpty 13 = .ok (.iload_n 1, 1) := by decide +kernel
theorem d_Acc_isEmpty_14 : decode b_Acc_isEmpty 14 = .ok (.iaload, 1) := by decide +kernel
theorem d_Acc_isEmpty_15 : decode b_Acc_isEmpty 15 = .ok (.ifCond .ne 24, 3) := by decide +kernel
theorem d_Acc_isEmpty_18 : decode b_Acc_isEmpty 18 = .ok (.aload_n 0, 1) := by decide +kernel
theorem d_Acc_isEmpty_19 : decode b_Acc_isEmpty 19 = .ok (.getfield 18, 3) := by decide +kernel
theorem d_Acc_isEmpty_22 : decode b_Acc_isEmpty 22 = .ok (.iload_n 1, 1) := by decide +kernel
theorem d_Acc_isEmpty_23 : decode b_Acc_isEmpty 23 = .ok (.iaload, 1) := by decide +kernel
theorem d_Acc_isEmpty_24 : decode b_Acc_isEmpty 24 = .ok (.ifCond .ne 15, 3) := by decide +kernel
theorem d_Acc_isEmpty_27 : decode b_Acc_isEmpty 27 = .ok (.aload_n 0, 1) := by decide +kernel
theorem d_Acc_isEmpty_28 : decode b_Acc_isEmpty 28 = .ok (.iload_n 1, 1) := by decide +kernel
theorem d_Acc_isEmpty_29 : decode b_Acc_isEmpty 29 = .ok (.invokevirtual 43, 3) := by decide +kernel
theorem d_Acc_isEmpty_32 : decode b_Acc_isEmpty 32 = .ok (.ifCond .ne 7, 3) := by decide +kernel
theorem d_Acc_isEmpty_35 : decode b_Acc_isEmpty 35 = .ok (.iconst 1, 1) := by decide +kernel
theorem d_Acc_isEmpty_36 : decode b_Acc_isEmpty 36 = .ok (.goto 4, 3) := by decide +kernel
theorem d_Acc_isEmpty_39 : decode b_Acc_isEmpty 39 = .ok (.iconst 0, 1) := by decide +kernel
theorem d_Acc_isEmpty_40 : decode b_Acc_isEmpty 40 = .ok (.ireturn, 1) := by decide +kernel
theorem d_Acc_leastEmpty_0 : decode b_Acc_leastEmpty 0 = .ok (.iconst 0, 1) := by decide +kernel
theorem d_Acc_leastEmpty_1 : decode b_Acc_leastEmpty 1 = .ok (.istore_n 1, 1) := by decide +kernel
theorem d_Acc_leastEmpty_2 : decode b_Acc_leastEmpty 2 = .ok (.iload_n 1, 1) := by decide +kernel
theorem d_Acc_leastEmpty_3 : decode b_Acc_leastEmpty 3 = .ok (.bipush 16, 2) := by decide +kernel
theorem d_Acc_leastEmpty_5 : decode b_Acc_leastEmpty 5 = .ok (.if_icmp .ge 19, 3) := by decide +kernel
theorem d_Acc_leastEmpty_8 : decode b_Acc_leastEmpty 8 = .ok (.aload_n 0, 1) := by decide +kernel
theorem d_Acc_leastEmpty_9 : decode b_Acc_leastEmpty 9 = .ok (.iload_n 1, 1) := by decide +kernel
theorem d_Acc_leastEmpty_10 : decode b_Acc_leastEmpty 10 = .ok (.invokevirtual 47, 3) := by decide +kernel
theorem d_Acc_leastEmpty_13 : decode b_Acc_leastEmpty 13 = .ok (.ifCond .eq 5, 3) := by decide +kernel
theorem d_Acc_leastEmpty_16 : decode b_Acc_leastEmpty 16 = .ok (.iload_n 1, 1) := by decide +kernel
theorem d_Acc_leastEmpty_17 : decode b_Acc_leastEmpty 17 = .ok (.ireturn, 1) := by decide +kernel
theorem d_Acc_leastEmpty_18 : decode b_Acc_leastEmpty 18 = .ok (.iinc 1 1, 3) := by decide +kernel
theorem d_Acc_leastEmpty_21 : decode b_Acc_leastEmpty 21 = .ok (.goto (-19), 3) := by decide +kernel
theorem d_Acc_leastEmpty_24 : decode b_Acc_leastEmpty 24 = .ok (.iconst (-1), 1) := by decide +kernel
theorem d_Acc_leastEmpty_25 : decode b_Acc_leastEmpty 25 = .ok (.ireturn, 1) := by decide +kernel
theorem d_Acc_filledSlots_0 : decode b_Acc_filledSlots 0 = .ok (.iconst 0, 1) := by decide +kernel
theorem d_Acc_filledSlots_1 : decode b_Acc_filledSlots 1 = .ok (.istore_n 2, 1) := by decide +kernel
theorem d_Acc_filledSlots_2 : decode b_Acc_filledSlots 2 = .ok (.iconst 0, 1) := by decide +kernel
theorem d_Acc_filledSlots_3 : decode b_Acc_filledSlots 3 = .ok (.istore_n 3, 1) := by decide +kernel
theorem d_Acc_filledSlots_4 : decode b_Acc_filledSlots 4 = .ok (.iload_n 3, 1) := by decide +kernel
theorem d_Acc_filledSlots_5 : decode b_Acc_filledSlots 5 = .ok (.bipush 8, 2) := by decide +kernel
theorem d_Acc_filledSlots_7 : decode b_Acc_filledSlots 7 = .ok (.if_icmp .ge 29, 3) := by decide +kernel
theorem d_Acc_filledSlots_10 : decode b_Acc_filledSlots 10 = .ok (.aload_n 0, 1) := by decide +kernel
theorem d_Acc_filledSlots_11 : decode b_Acc_filledSlots 11 = .ok (.getfield 24, 3) := by decide +kernel
theorem d_Acc_filledSlots_14 : decode b_Acc_filledSlots 14 = .ok (.iload_n 1, 1) := by decide +kernel
theorem d_Acc_filledSlots_15 : decode b_Acc_filledSlots 15 = .ok (.bipush 8, 2) := by decide +kernel
theorem d_Acc_filledSlots_17 : decode b_Acc_filledSlots 17 = .ok (.imul, 1) := by decide +kernel
theorem d_Acc_filledSlots_18 : decode b_Acc_filledSlots 18 = .ok (.iload_n 3, 1) := by decide +kernel
theorem d_Acc_filledSlots_19 : decode b_Acc_filledSlots 19 = .ok (.iadd, 1) := by decide +kernel
theorem d_Acc_filledSlots_20 : decode b_Acc_filledSlots 20 = .ok (.iaload, 1) := by decide +kernel
theorem d_Acc_filledSlots_21 : decode b_Acc_filledSlots 21 = .ok (.ifCond .eq 9, 3) := by decide +kernel
theorem d_Acc_filledSlots_24 : decode b_Acc_filledSlots 24 = .ok (.iload_n 2, 1) := by decide +kernel
theorem d_Acc_filledSlots_25 : decode b_Acc_filledSlots 25 = .ok (.iconst 1, 1) := by decide +kernel
theorem d_Acc_filledSlots_26 : decode b_Acc_filledSlots 26 = .ok (.iload_n 3, 1) := by decide +kernel
theorem d_Acc_filledSlots_27 : decode b_Acc_filledSlots 27 = .ok (.ishl, 1) := by decide +kernel
theorem d_Acc_filledSlots_28 : decode b_Acc_filledSlots 28 = .ok (.ior, 1) := by decide +kernel
theorem d_Acc_filledSlots_29 : decode b_Acc_filledSlots 29 = .ok (.istore_n 2, 1) := by decide +kernel
theorem d_Acc_filledSlots_30 : decode b_Acc_filledSlots 30 = .ok (.iinc 3 1, 3) := by decide +kernel
theorem d_Acc_filledSlots_33 : decode b_Acc_filledSlots 33 = .ok (.goto (-29), 3) := by decide +kernel
theorem d_Acc_filledSlots_36 : decode b_Acc_filledSlots 36 = .ok (.iload_n 2, 1) := by decide +kernel
theorem d_Acc_filledSlots_37 : decode b_Acc_filledSlots 37 = .ok (.ireturn, 1) := by decide +kernel
theorem d_Acc_slotsRoot_0 : decode b_Acc_slotsRoot 0 = .ok (.aload_n 0, 1) := by decide +kernel
theorem d_Acc_slotsRoot_1 : decode b_Acc_slotsRoot 1 = .ok (.getfield 24, 3) := by decide +kernel
theorem d_Acc_slotsRoot_4 : decode b_Acc_slotsRoot 4 = .ok (.iload_n 1, 1) := by decide +kernel
theorem d_Acc_slotsRoot_5 : decode b_Acc_slotsRoot 5 = .ok (.bipush 8, 2) := by decide +kernel
theorem d_Acc_slotsRoot_7 : decode b_Acc_slotsRoot 7 = .ok (.imul, 1) := by decide +kernel
theorem d_Acc_slotsRoot_8 : decode b_Acc_slotsRoot 8 = .ok (.aload_n 0, 1) := by decide +kernel
theorem d_Acc_slotsRoot_9 : decode b_Acc_slotsRoot 9 = .ok (.iload_n 1, 1) := by decide +kernel
theorem d_Acc_slotsRoot_10 : decode b_Acc_slotsRoot 10 = .ok (.invokevirtual 43, 3) := by decide +kernel
theorem d_Acc_slotsRoot_13 : decode b_Acc_slotsRoot 13 = .ok (.iconst 3, 1) := by decide +kernel
theorem d_Acc_slotsRoot_14 : decode b_Acc_slotsRoot 14 = .ok (.invokestatic 50, 3) := by decide +kernel
theorem d_Acc_slotsRoot_17 : decode b_Acc_slotsRoot 17 = .ok (.ireturn, 1) := by decide +kernel
theorem d_Acc_codeNumber_0 : decode b_Acc_codeNumber 0 = .ok (.iconst 5, 1) := by decide +kernel
theorem d_Acc_codeNumber_1 : decode b_Acc_codeNumber 1 = .ok (.istore_n 2, 1) := by decide +kernel
theorem d_Acc_codeNumber_2 : decode b_Acc_codeNumber 2 = .ok (.iconst 0, 1) := by decide +kernel
theorem d_Acc_codeNumber_3 : decode b_Acc_codeNumber 3 = .ok (.istore_n 3, 1) := by decide +kernel
theorem d_Acc_codeNumber_4 : decode b_Acc_codeNumber 4 = .ok (.iload_n 3, 1) := by decide +kernel
theorem d_Acc_codeNumber_5 : decode b_Acc_codeNumber 5 = .ok (.aload_n 0, 1) := by decide +kernel
theorem d_Acc_codeNumber_6 : decode b_Acc_codeNumber 6 = .ok (.getfield 18, 3) := by decide +kernel
theorem d_Acc_codeNumber_9 : decode b_Acc_codeNumber 9 = .ok (.iload_n 1, 1) := by decide +kernel
theorem d_Acc_codeNumber_10 : decode b_Acc_codeNumber 10 = .ok (.iaload, 1) := by decide +kernel
theorem d_Acc_codeNumber_11 : decode b_Acc_codeNumber 11 = .ok (.if_icmp .ge 25, 3) := by decide +kernel
theorem d_Acc_codeNumber_14 : decode b_Acc_codeNumber 14 = .ok (.iload_n 2, 1) := by decide +kernel
theorem d_Acc_codeNumber_15 : decode b_Acc_codeNumber 15 = .ok (.aload_n 0, 1) := by decide +kernel
theorem d_Acc_codeNumber_16 : decode b_Acc_codeNumber 16 = .ok (.getfield 21, 3) := by decide +kernel
theorem d_Acc_codeNumber_19 : decode b_Acc_codeNumber 19 = .ok (.iload_n 1, 1) := by decide +kernel
theorem d_Acc_codeNumber_20 : decode b_Acc_codeNumber 20 = .ok (.bipush 24, 2) := by decide +kernel
theorem d_Acc_codeNumber_22 : decode b_Acc_codeNumber 22 = .ok (.imul, 1) := by decide +kernel
theorem d_Acc_codeNumber_23 : decode b_Acc_codeNumber 23 = .ok (.iload_n 3, 1) := by decide +kernel
theorem d_Acc_codeNumber_24 : decode b_Acc_codeNumber 24 = .ok (.iadd, 1) := by decide +kernel
theorem d_Acc_codeNumber_25 : decode b_Acc_codeNumber 25 = .ok (.iaload, 1) := by decide +kernel
theorem d_Acc_codeNumber_26 : decode b_Acc_codeNumber 26 = .ok (.invokestatic 56, 3) := by decide +kernel
theorem d_Acc_codeNumber_29 : decode b_Acc_codeNumber 29 = .ok (.istore_n 2, 1) := by decide +kernel
theorem d_Acc_codeNumber_30 : decode b_Acc_codeNumber 30 = .ok (.iinc 3 1, 3) := by decide +kernel
theorem d_Acc_codeNumber_33 : decode b_Acc_codeNumber 33 = .ok (.goto (-29), 3) := by decide +kernel
theorem d_Acc_codeNumber_36 : decode b_Acc_codeNumber 36 = .ok (.iload_n 2, 1) := by decide +kernel
theorem d_Acc_codeNumber_37 : decode b_Acc_codeNumber 37 = .ok (.ireturn, 1) := by decide +kernel
theorem d_Acc_valueOf_0 : decode b_Acc_valueOf 0 = .ok (.iconst 4, 1) := by decide +kernel
theorem d_Acc_valueOf_1 : decode b_Acc_valueOf 1 = .ok (.aload_n 0, 1) := by decide +kernel
theorem d_Acc_valueOf_2 : decode b_Acc_valueOf 2 = .ok (.getfield 9, 3) := by decide +kernel
theorem d_Acc_valueOf_5 : decode b_Acc_valueOf 5 = .ok (.iload_n 1, 1) := by decide +kernel
theorem d_Acc_valueOf_6 : decode b_Acc_valueOf 6 = .ok (.iaload, 1) := by decide +kernel
theorem d_Acc_valueOf_7 : decode b_Acc_valueOf 7 = .ok (.invokestatic 56, 3) := by decide +kernel
theorem d_Acc_valueOf_10 : decode b_Acc_valueOf 10 = .ok (.istore_n 2, 1) := by decide +kernel
theorem d_Acc_valueOf_11 : decode b_Acc_valueOf 11 = .ok (.iload_n 2, 1) := by decide +kernel
theorem d_Acc_valueOf_12 : decode b_Acc_valueOf 12 = .ok (.aload_n 0, 1) := by decide +kernel
theorem d_Acc_valueOf_13 : decode b_Acc_valueOf 13 = .ok (.getfield 15, 3) := by decide +kernel
theorem d_Acc_valueOf_16 : decode b_Acc_valueOf 16 = .ok (.iload_n 1, 1) := by decide +kernel
theorem d_Acc_valueOf_17 : decode b_Acc_valueOf 17 = .ok (.iaload, 1) := by decide +kernel
theorem d_Acc_valueOf_18 : decode b_Acc_valueOf 18 = .ok (.invokestatic 56, 3) := by decide +kernel
theorem d_Acc_valueOf_21 : decode b_Acc_valueOf 21 = .ok (.istore_n 2, 1) := by decide +kernel
theorem d_Acc_valueOf_22 : decode b_Acc_valueOf 22 = .ok (.iload_n 2, 1) := by decide +kernel
theorem d_Acc_valueOf_23 : decode b_Acc_valueOf 23 = .ok (.aload_n 0, 1) := by decide +kernel
theorem d_Acc_valueOf_24 : decode b_Acc_valueOf 24 = .ok (.iload_n 1, 1) := by decide +kernel
theorem d_Acc_valueOf_25 : decode b_Acc_valueOf 25 = .ok (.invokevirtual 60, 3) := by decide +kernel
theorem d_Acc_valueOf_28 : decode b_Acc_valueOf 28 = .ok (.invokestatic 56, 3) := by decide +kernel
theorem d_Acc_valueOf_31 : decode b_Acc_valueOf 31 = .ok (.istore_n 2, 1) := by decide +kernel
theorem d_Acc_valueOf_32 : decode b_Acc_valueOf 32 = .ok (.iload_n 2, 1) := by decide +kernel
theorem d_Acc_valueOf_33 : decode b_Acc_valueOf 33 = .ok (.aload_n 0, 1) := by decide +kernel
theorem d_Acc_valueOf_34 : decode b_Acc_valueOf 34 = .ok (.iload_n 1, 1) := by decide +kernel
theorem d_Acc_valueOf_35 : decode b_Acc_valueOf 35 = .ok (.invokevirtual 63, 3) := by decide +kernel
theorem d_Acc_valueOf_38 : decode b_Acc_valueOf 38 = .ok (.invokestatic 56, 3) := by decide +kernel
theorem d_Acc_valueOf_41 : decode b_Acc_valueOf 41 = .ok (.ireturn, 1) := by decide +kernel
theorem d_Acc_rootOfAll_0 : decode b_Acc_rootOfAll 0 = .ok (.iconst 0, 1) := by decide +kernel
theorem d_Acc_rootOfAll_1 : decode b_Acc_rootOfAll 1 = .ok (.istore_n 1, 1) := by decide +kernel
theorem d_Acc_rootOfAll_2 : decode b_Acc_rootOfAll 2 = .ok (.iconst 0, 1) := by decide +kernel
theorem d_Acc_rootOfAll_3 : decode b_Acc_rootOfAll 3 = .ok (.istore_n 2, 1) := by decide +kernel
theorem d_Acc_rootOfAll_4 : decode b_Acc_rootOfAll 4 = .ok (.iload_n 2, 1) := by decide +kernel
theorem d_Acc_rootOfAll_5 : decode b_Acc_rootOfAll 5 = .ok (.bipush 16, 2) := by decide +kernel
theorem d_Acc_rootOfAll_7 : decode b_Acc_rootOfAll 7 = .ok (.if_icmp .ge 34, 3) := by decide +kernel
theorem d_Acc_rootOfAll_10 : decode b_Acc_rootOfAll 10 = .ok (.aload_n 0, 1) := by decide +kernel
theorem d_Acc_rootOfAll_11 : decode b_Acc_rootOfAll 11 = .ok (.iload_n 2, 1) := by decide +kernel
theorem d_Acc_rootOfAll_12 : decode b_Acc_rootOfAll 12 = .ok (.invokevirtual 47, 3) := by decide +kernel
theorem d_Acc_rootOfAll_15 : decode b_Acc_rootOfAll 15 = .ok (.ifCond .ne 20, 3) := by decide +kernel
theorem d_Acc_rootOfAll_18 : decode b_Acc_rootOfAll 18 = .ok (.iload_n 1, 1) := by decide +kernel
theorem d_Acc_rootOfAll_19 : decode b_Acc_rootOfAll 19 = .ok (.iconst 1, 1) := by decide +kernel
theorem d_Acc_rootOfAll_20 : decode b_Acc_rootOfAll 20 = .ok (.iload_n 2, 1) := by decide +kernel
theorem d_Acc_rootOfAll_21 : decode b_Acc_rootOfAll 21 = .ok (.ishl, 1) := by decide +kernel
theorem d_Acc_rootOfAll_22 : decode b_Acc_rootOfAll 22 = .ok (.ior, 1) := by decide +kernel
theorem d_Acc_rootOfAll_23 : decode b_Acc_rootOfAll 23 = .ok (.istore_n 1, 1) := by decide +kernel
theorem d_Acc_rootOfAll_24 : decode b_Acc_rootOfAll 24 = .ok (.aload_n 0, 1) := by decide +kernel
theorem d_Acc_rootOfAll_25 : decode b_Acc_rootOfAll 25 = .ok (.getfield 27, 3) := by decide +kernel
theorem d_Acc_rootOfAll_28 : decode b_Acc_rootOfAll 28 = .ok (.iload_n 2, 1) := by decide +kernel
theorem d_Acc_rootOfAll_29 : decode b_Acc_rootOfAll 29 = .ok (.aload_n 0, 1) := by decide +kernel
theorem d_Acc_rootOfAll_30 : decode b_Acc_rootOfAll 30 = .ok (.iload_n 2, 1) := by decide +kernel
theorem d_Acc_rootOfAll_31 : decode b_Acc_rootOfAll 31 = .ok (.invokevirtual 66, 3) := by decide +kernel
theorem d_Acc_rootOfAll_34 : decode b_Acc_rootOfAll 34 = .ok (.iastore, 1) := by decide +kernel
theorem d_Acc_rootOfAll_35 : decode b_Acc_rootOfAll 35 = .ok (.iinc 2 1, 3) := by decide +kernel
theorem d_Acc_rootOfAll_38 : decode b_Acc_rootOfAll 38 = .ok (.goto (-34), 3) := by decide +kernel
theorem d_Acc_rootOfAll_41 : decode b_Acc_rootOfAll 41 = .ok (.aload_n 0, 1) := by decide +kernel
theorem d_Acc_rootOfAll_42 : decode b_Acc_rootOfAll 42 = .ok (.getfield 27, 3) := by decide +kernel
theorem d_Acc_rootOfAll_45 : decode b_Acc_rootOfAll 45 = .ok (.iconst 0, 1) := by decide +kernel
theorem d_Acc_rootOfAll_46 : decode b_Acc_rootOfAll 46 = .ok (.iload_n 1, 1) := by decide +kernel
theorem d_Acc_rootOfAll_47 : decode b_Acc_rootOfAll 47 = .ok (.iconst 4, 1) := by decide +kernel
theorem d_Acc_rootOfAll_48 : decode b_Acc_rootOfAll 48 = .ok (.invokestatic 50, 3) := by decide +kernel
theorem d_Acc_rootOfAll_51 : decode b_Acc_rootOfAll 51 = .ok (.ireturn, 1) := by decide +kernel
theorem d_Com_mix_0 : decode b_Com_mix 0 = .ok (.iload_n 0, 1) := by decide +kernel
theorem d_Com_mix_1 : decode b_Com_mix 1 = .ok (.ldc 7, 2) := by decide +kernel
theorem d_Com_mix_3 : decode b_Com_mix 3 = .ok (.imul, 1) := by decide +kernel
theorem d_Com_mix_4 : decode b_Com_mix 4 = .ok (.iload_n 1, 1) := by decide +kernel
theorem d_Com_mix_5 : decode b_Com_mix 5 = .ok (.iadd, 1) := by decide +kernel
theorem d_Com_mix_6 : decode b_Com_mix 6 = .ok (.istore_n 2, 1) := by decide +kernel
theorem d_Com_mix_7 : decode b_Com_mix 7 = .ok (.iload_n 2, 1) := by decide +kernel
theorem d_Com_mix_8 : decode b_Com_mix 8 = .ok (.iload_n 2, 1) := by decide +kernel
theorem d_Com_mix_9 : decode b_Com_mix 9 = .ok (.bipush 13, 2) := by decide +kernel
theorem d_Com_mix_11 : decode b_Com_mix 11 = .ok (.iushr, 1) := by decide +kernel
theorem d_Com_mix_12 : decode b_Com_mix 12 = .ok (.ixor, 1) := by decide +kernel
theorem d_Com_mix_13 : decode b_Com_mix 13 = .ok (.ireturn, 1) := by decide +kernel
theorem d_Com_rootOfMap_0 : decode b_Com_rootOfMap 0 = .ok (.aload_n 0, 1) := by decide +kernel
theorem d_Com_rootOfMap_1 : decode b_Com_rootOfMap 1 = .ok (.iload_n 1, 1) := by decide +kernel
theorem d_Com_rootOfMap_2 : decode b_Com_rootOfMap 2 = .ok (.iload_n 2, 1) := by decide +kernel
theorem d_Com_rootOfMap_3 : decode b_Com_rootOfMap 3 = .ok (.iconst 0, 1) := by decide +kernel
theorem d_Com_rootOfMap_4 : decode b_Com_rootOfMap 4 = .ok (.iload_n 3, 1) := by decide +kernel
theorem d_Com_rootOfMap_5 : decode b_Com_rootOfMap 5 = .ok (.invokestatic 8, 3) := by decide +kernel
theorem d_Com_rootOfMap_8 : decode b_Com_rootOfMap 8 = .ok (.ireturn, 1) := by decide +kernel
theorem d_Com_rootOfPart_0 : decode b_Com_rootOfPart 0 = .ok (.iconst (-1), 1) := by decide +kernel
theorem d_Com_rootOfPart_1 : decode b_Com_rootOfPart 1 = .ok (.istore 5, 2) := by decide +kernel
theorem d_Com_rootOfPart_3 : decode b_Com_rootOfPart 3 = .ok (.iconst (-1), 1) := by decide +kernel
theorem d_Com_rootOfPart_4 : decode b_Com_rootOfPart 4 = .ok (.istore 6, 2) := by decide +kernel
theorem d_Com_rootOfPart_6 : decode b_Com_rootOfPart 6 = .ok (.iload_n 3, 1) := by decide +kernel
theorem d_Com_rootOfPart_7 : decode b_Com_rootOfPart 7 = .ok (.istore 7, 2) := by decide +kernel
theorem d_Com_rootOfPart_9 : decode b_Com_rootOfPart 9 = .ok (.iload 7, 2) := by decide +kernel
theorem d_Com_rootOfPart_11 : decode b_Com_rootOfPart 11 = .ok (.iload_n 3, 1) := by decide +kernel
theorem d_Com_rootOfPart_12 : decode b_Com_rootOfPart 12 = .ok (.iconst 1, 1) := by decide +kernel
theorem d_Com_rootOfPart_13 : decode b_Com_rootOfPart 13 = .ok (.iload 4, 2) := by decide +kernel
theorem d_Com_rootOfPart_15 : decode b_Com_rootOfPart 15 = .ok (.ishl, 1) := by decide +kernel
theorem d_Com_rootOfPart_16 : decode b_Com_rootOfPart 16 = .ok (.iadd, 1) := by decide +kernel
theorem d_Com_rootOfPart_17 : decode b_Com_rootOfPart 17 = .ok (.if_icmp .ge 36, 3) := by decide +kernel
theorem d_Com_rootOfPart_20 : decode b_Com_rootOfPart 20 = .ok (.iload_n 2, 1) := by decide +kernel
theorem d_Com_rootOfPart_21 : decode b_Com_rootOfPart 21 = .ok (.iload 7, 2) := by decide +kernel
theorem d_Com_rootOfPart_23 : decode b_Com_rootOfPart 23 = .ok (.iushr, 1) := by decide +kernel
theorem d_Com_rootOfPart_24 : decode b_Com_rootOfPart 24 = .ok (.iconst 1, 1) := by decide +kernel
theorem d_Com_rootOfPart_25 : decode b_Com_rootOfPart 25 = .ok (.iand, 1) := by decide +kernel
theorem d_Com_rootOfPart_26 : decode b_Com_rootOfPart 26 = .ok (.ifCond .eq 21, 3) := by decide +kernel
theorem d_Com_rootOfPart_29 : decode b_Com_rootOfPart 29 = .ok (.iload 5, 2) := by decide +kernel
theorem d_Com_rootOfPart_31 : decode b_Com_rootOfPart 31 = .ok (.ifCond .ge 8, 3) := by decide +kernel
theorem d_Com_rootOfPart_34 : decode b_Com_rootOfPart 34 = .ok (.iload 7, 2) := by decide +kernel
theorem d_Com_rootOfPart_36 : decode b_Com_rootOfPart 36 = .ok (.goto 5, 3) := by decide +kernel
theorem d_Com_rootOfPart_39 : decode b_Com_rootOfPart 39 = .ok (.iload 5, 2) := by decide +kernel
theorem d_Com_rootOfPart_41 : decode b_Com_rootOfPart 41 = .ok (.istore 5, 2) := by decide +kernel
theorem d_Com_rootOfPart_43 : decode b_Com_rootOfPart 43 = .ok (.iload 7, 2) := by decide +kernel
theorem d_Com_rootOfPart_45 : decode b_Com_rootOfPart 45 = .ok (.istore 6, 2) := by decide +kernel
theorem d_Com_rootOfPart_47 : decode b_Com_rootOfPart 47 = .ok (.iinc 7 1, 3) := by decide +kernel
theorem d_Com_rootOfPart_50 : decode b_Com_rootOfPart 50 = .ok (.goto (-41), 3) := by decide +kernel
theorem d_Com_rootOfPart_53 : decode b_Com_rootOfPart 53 = .ok (.iload 5, 2) := by decide +kernel
theorem d_Com_rootOfPart_55 : decode b_Com_rootOfPart 55 = .ok (.ifCond .ge 5, 3) := by decide +kernel
theorem d_Com_rootOfPart_58 : decode b_Com_rootOfPart 58 = .ok (.iconst 0, 1) := by decide +kernel
theorem d_Com_rootOfPart_59 : decode b_Com_rootOfPart 59 = .ok (.ireturn, 1) := by decide +kernel
theorem d_Com_rootOfPart_60 : decode b_Com_rootOfPart 60 = .ok (.iload 4, 2) := by decide +kernel
theorem d_Com_rootOfPart_62 : decode b_Com_rootOfPart 62 = .ok (.ifCond .le 10, 3) := by decide +kernel
theorem d_Com_rootOfPart_65 : decode b_Com_rootOfPart 65 = .ok (.iload 5, 2) := by decide +kernel
theorem d_Com_rootOfPart_67 : decode b_Com_rootOfPart 67 = .ok (.iload 6, 2) := by decide +kernel
theorem d_Com_rootOfPart_69 : decode b_Com_rootOfPart 69 = .ok (.if_icmp .ne 26, 3) := by decide +kernel
theorem d_Com_rootOfPart_72 : decode b_Com_rootOfPart 72 = .ok (.iconst 1, 1) := by decide +kernel
theorem d_Com_rootOfPart_73 : decode b_Com_rootOfPart 73 = .ok (.iconst 1, 1) := by decide +kernel
theorem d_Com_rootOfPart_74 : decode b_Com_rootOfPart 74 = .ok (.iload 4, 2) := by decide +kernel
theorem d_Com_rootOfPart_76 : decode b_Com_rootOfPart 76 = .ok (.ishl, 1) := by decide +kernel
theorem d_Com_rootOfPart_77 : decode b_Com_rootOfPart 77 = .ok (.iload 5, 2) := by decide +kernel
theorem d_Com_rootOfPart_79 : decode b_Com_rootOfPart 79 = .ok (.iadd, 1) := by decide +kernel
theorem d_Com_rootOfPart_80 : decode b_Com_rootOfPart 80 = .ok (.iload_n 3, 1) := by decide +kernel
theorem d_Com_rootOfPart_81 : decode b_Com_rootOfPart 81 = .ok (.isub, 1) := by decide +kernel
theorem d_Com_rootOfPart_82 : decode b_Com_rootOfPart 82 = .ok (.invokestatic 14, 3) := by decide +kernel
theorem d_Com_rootOfPart_85 : decode b_Com_rootOfPart 85 = .ok (.aload_n 0, 1) := by decide +kernel
theorem d_Com_rootOfPart_86 : decode b_Com_rootOfPart 86 = .ok (.iload_n 1, 1) := by decide +kernel
theorem d_Com_rootOfPart_87 : decode b_Com_rootOfPart 87 = .ok (.iload 5, 2) := by decide +kernel
theorem d_Com_rootOfPart_89 : decode b_Com_rootOfPart 89 = .ok (.iadd, 1) := by decide +kernel
theorem d_Com_rootOfPart_90 : decode b_Com_rootOfPart 90 = .ok (.iaload, 1) := by decide +kernel
theorem d_Com_rootOfPart_91 : decode b_Com_rootOfPart 91 = .ok (.invokestatic 14, 3) := by decide +kernel
theorem d_Com_rootOfPart_94 : decode b_Com_rootOfPart 94 = .ok (.ireturn, 1) := by decide +kernel
theorem d_Com_rootOfPart_95 : decode b_Com_rootOfPart 95 = .ok (.iconst 1, 1) := by decide +kernel
theorem d_Com_rootOfPart_96 : decode b_Com_rootOfPart 96 = .ok (.istore 7, 2) := by decide +kernel
theorem d_Com_rootOfPart_98 : decode b_Com_rootOfPart 98 = .ok (.iload 7, 2) := by decide +kernel
theorem d_Com_rootOfPart_100 : decode b_Com_rootOfPart 100 = .ok (.iload 4, 2) := by decide +kernel
theorem d_Com_rootOfPart_102 : decode b_Com_rootOfPart 102 = .ok (.if_icmp .ge 22, 3) := by decide +kernel
theorem d_Com_rootOfPart_105 : decode b_Com_rootOfPart 105 = .ok (.iload 5, 2) := by decide +kernel
theorem d_Com_rootOfPart_107 : decode b_Com_rootOfPart 107 = .ok (.iload 7, 2) := by decide +kernel
theorem d_Com_rootOfPart_109 : decode b_Com_rootOfPart 109 = .ok (.ishr, 1) := by decide +kernel
theorem d_Com_rootOfPart_110 : decode b_Com_rootOfPart 110 = .ok (.iload 6, 2) := by decide +kernel
theorem d_Com_rootOfPart_112 : decode b_Com_rootOfPart 112 = .ok (.iload 7, 2) := by decide +kernel
theorem d_Com_rootOfPart_114 : decode b_Com_rootOfPart 114 = .ok (.ishr, 1) := by decide +kernel
theorem d_Com_rootOfPart_115 : decode b_Com_rootOfPart 115 = .ok (.if_icmp .eq 9, 3) := by decide +kernel
theorem d_Com_rootOfPart_118 : decode b_Com_rootOfPart 118 = .ok (.iinc 7 1, 3) := by decide +kernel
theorem d_Com_rootOfPart_121 : decode b_Com_rootOfPart 121 = .ok (.goto (-23), 3) := by decide +kernel
theorem d_Com_rootOfPart_124 : decode b_Com_rootOfPart 124 = .ok (.iload 7, 2) := by decide +kernel
theorem d_Com_rootOfPart_126 : decode b_Com_rootOfPart 126 = .ok (.iload 4, 2) := by decide +kernel
theorem d_Com_rootOfPart_128 : decode b_Com_rootOfPart 128 = .ok (.if_icmp .ge 50, 3) := by decide +kernel
theorem d_Com_rootOfPart_131 : decode b_Com_rootOfPart 131 = .ok (.iload 5, 2) := by decide +kernel
theorem d_Com_rootOfPart_133 : decode b_Com_rootOfPart 133 = .ok (.iload 7, 2) := by decide +kernel
theorem d_Com_rootOfPart_135 : decode b_Com_rootOfPart 135 = .ok (.ishr, 1) := by decide +kernel
theorem d_Com_rootOfPart_136 : decode b_Com_rootOfPart 136 = .ok (.iload 7, 2) := by decide +kernel
theorem d_Com_rootOfPart_138 : decode b_Com_rootOfPart 138 = .ok (.ishl, 1) := by decide +kernel
theorem d_Com_rootOfPart_139 : decode b_Com_rootOfPart 139 = .ok (.istore 8, 2) := by decide +kernel
theorem d_Com_rootOfPart_141 : decode b_Com_rootOfPart 141 = .ok (.iconst 1, 1) := by decide +kernel
theorem d_Com_rootOfPart_142 : decode b_Com_rootOfPart 142 = .ok (.iload 4, 2) := by decide +kernel
theorem d_Com_rootOfPart_144 : decode b_Com_rootOfPart 144 = .ok (.iload 7, 2) := by decide +kernel
theorem d_Com_rootOfPart_146 : decode b_Com_rootOfPart 146 = .ok (.isub, 1) := by decide +kernel
theorem d_Com_rootOfPart_147 : decode b_Com_rootOfPart 147 = .ok (.ishl, 1) := by decide +kernel
theorem d_Com_rootOfPart_148 : decode b_Com_rootOfPart 148 = .ok (.iload 8, 2) := by decide +kernel
theorem d_Com_rootOfPart_150 : decode b_Com_rootOfPart 150 = .ok (.iload_n 3, 1) := by decide +kernel
theorem d_Com_rootOfPart_151 : decode b_Com_rootOfPart 151 = .ok (.isub, 1) := by decide +kernel
theorem d_Com_rootOfPart_152 : decode b_Com_rootOfPart 152 = .ok (.iload 7, 2) := by decide +kernel
theorem d_Com_rootOfPart_154 : decode b_Com_rootOfPart 154 = .ok (.ishr, 1) := by decide +kernel
theorem d_Com_rootOfPart_155 : decode b_Com_rootOfPart 155 = .ok (.iadd, 1) := by decide +kernel
theorem d_Com_rootOfPart_156 : decode b_Com_rootOfPart 156 = .ok (.istore 9, 2) := by decide +kernel
theorem d_Com_rootOfPart_158 : decode b_Com_rootOfPart 158 = .ok (.iconst 2, 1) := by decide +kernel
theorem d_Com_rootOfPart_159 : decode b_Com_rootOfPart 159 = .ok (.iload 9, 2) := by decide +kernel
theorem d_Com_rootOfPart_161 : decode b_Com_rootOfPart 161 = .ok (.invokestatic 14, 3) := by decide +kernel
theorem d_Com_rootOfPart_164 : decode b_Com_rootOfPart 164 = .ok (.aload_n 0, 1) := by decide +kernel
theorem d_Com_rootOfPart_165 : decode b_Com_rootOfPart 165 = .ok (.iload_n 1, 1) := by decide +kernel
theorem d_Com_rootOfPart_166 : decode b_Com_rootOfPart 166 = .ok (.iload_n 2, 1) := by decide +kernel
theorem d_Com_rootOfPart_167 : decode b_Com_rootOfPart 167 = .ok (.iload 8, 2) := by decide +kernel
theorem d_Com_rootOfPart_169 : decode b_Com_rootOfPart 169 = .ok (.iload 7, 2) := by decide +kernel
theorem d_Com_rootOfPart_171 : decode b_Com_rootOfPart 171 = .ok (.invokestatic 8, 3) := by decide +kernel
theorem d_Com_rootOfPart_174 : decode b_Com_rootOfPart 174 = .ok (.invokestatic 14, 3) := by decide +kernel
theorem d_Com_rootOfPart_177 : decode b_Com_rootOfPart 177 = .ok (.ireturn, 1) := by decide +kernel
theorem d_Com_rootOfPart_178 : decode b_Com_rootOfPart 178 = .ok (.aload_n 0, 1) := by decide +kernel
theorem d_Com_rootOfPart_179 : decode b_Com_rootOfPart 179 = .ok (.iload_n 1, 1) := by decide +kernel
theorem d_Com_rootOfPart_180 : decode b_Com_rootOfPart 180 = .ok (.iload_n 2, 1) := by decide +kernel
theorem d_Com_rootOfPart_181 : decode b_Com_rootOfPart 181 = .ok (.iload_n 3, 1) := by decide +kernel
theorem d_Com_rootOfPart_182 : decode b_Com_rootOfPart 182 = .ok (.iload 4, 2) := by decide +kernel
theorem d_Com_rootOfPart_184 : decode b_Com_rootOfPart 184 = .ok (.iconst 1, 1) := by decide +kernel
theorem d_Com_rootOfPart_185 : decode b_Com_rootOfPart 185 = .ok (.isub, 1) := by decide +kernel
theorem d_Com_rootOfPart_186 : decode b_Com_rootOfPart 186 = .ok (.invokestatic 8, 3) := by decide +kernel
theorem d_Com_rootOfPart_189 : decode b_Com_rootOfPart 189 = .ok (.istore 8, 2) := by decide +kernel
theorem d_Com_rootOfPart_191 : decode b_Com_rootOfPart 191 = .ok (.aload_n 0, 1) := by decide +kernel
theorem d_Com_rootOfPart_192 : decode b_Com_rootOfPart 192 = .ok (.iload_n 1, 1) := by decide +kernel
theorem d_Com_rootOfPart_193 : decode b_Com_rootOfPart 193 = .ok (.iload_n 2, 1) := by decide +kernel
theorem d_Com_rootOfPart_194 : decode b_Com_rootOfPart 194 = .ok (.iload_n 3, 1) := by decide +kernel
theorem d_Com_rootOfPart_195 : decode b_Com_rootOfPart 195 = .ok (.iconst 1, 1) := by decide +kernel
theorem d_Com_rootOfPart_196 : decode b_Com_rootOfPart 196 = .ok (.iload 4, 2) := by decide +kernel
theorem d_Com_rootOfPart_198 : decode b_Com_rootOfPart 198 = .ok (.iconst 1, 1) := by decide +kernel
theorem d_Com_rootOfPart_199 : decode b_Com_rootOfPart 199 = .ok (.isub, 1) := by decide +kernel
theorem d_Com_rootOfPart_200 : decode b_Com_rootOfPart 200 = .ok (.ishl, 1) := by decide +kernel
theorem d_Com_rootOfPart_201 : decode b_Com_rootOfPart 201 = .ok (.iadd, 1) := by decide +kernel
theorem d_Com_rootOfPart_202 : decode b_Com_rootOfPart 202 = .ok (.iload 4, 2) := by decide +kernel
theorem d_Com_rootOfPart_204 : decode b_Com_rootOfPart 204 = .ok (.iconst 1, 1) := by decide +kernel
theorem d_Com_rootOfPart_205 : decode b_Com_rootOfPart 205 = .ok (.isub, 1) := by decide +kernel
theorem d_Com_rootOfPart_206 : decode b_Com_rootOfPart 206 = .ok (.invokestatic 8, 3) := by decide +kernel
theorem d_Com_rootOfPart_209 : decode b_Com_rootOfPart 209 = .ok (.istore 9, 2) := by decide +kernel
theorem d_Com_rootOfPart_211 : decode b_Com_rootOfPart 211 = .ok (.iconst 3, 1) := by decide +kernel
theorem d_Com_rootOfPart_212 : decode b_Com_rootOfPart 212 = .ok (.iload 8, 2) := by decide +kernel
theorem d_Com_rootOfPart_214 : decode b_Com_rootOfPart 214 = .ok (.invokestatic 14, 3) := by decide +kernel
theorem d_Com_rootOfPart_217 : decode b_Com_rootOfPart 217 = .ok (.iload 9, 2) := by decide +kernel
theorem d_Com_rootOfPart_219 : decode b_Com_rootOfPart 219 = .ok (.invokestatic 14, 3) := by decide +kernel
theorem d_Com_rootOfPart_222 : decode b_Com_rootOfPart 222 = .ok (.ireturn, 1) := by decide +kernel
theorem d_Frm_init_0 : decode b_Frm_init 0 = .ok (.aload_n 0, 1) := by decide +kernel
theorem d_Frm_init_1 : decode b_Frm_init 1 = .ok (.invokespecial 3, 3) := by decide +kernel
theorem d_Frm_init_4 : decode b_Frm_init 4 = .ok (.aload_n 0, 1) := by decide +kernel
theorem d_Frm_init_5 : decode b_Frm_init 5 = .ok (.bipush 12, 2) := by decide +kernel
theorem d_Frm_init_7 : decode b_Frm_init 7 = .ok (.newarray .int, 2) := by decide +kernel
theorem d_Frm_init_9 : decode b_Frm_init 9 = .ok (.putfield 9, 3) := by decide +kernel
theorem d_Frm_init_12 : decode b_Frm_init 12 = .ok (.aload_n 0, 1) := by decide +kernel
theorem d_Frm_init_13 : decode b_Frm_init 13 = .ok (.new 15, 3) := by decide +kernel
theorem d_Frm_init_16 : decode b_Frm_init 16 = .ok (.dup, 1) := by decide +kernel
theorem d_Frm_init_17 : decode b_Frm_init 17 = .ok (.invokespecial 17, 3) := by decide +kernel
theorem d_Frm_init_20 : decode b_Frm_init 20 = .ok (.putfield 18, 3) := by decide +kernel
theorem d_Frm_init_23 : decode b_Frm_init 23 = .ok (.return_, 1) := by decide +kernel
