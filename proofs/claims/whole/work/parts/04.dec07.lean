theorem dL_party_0 : decode cL_party 0 = .ok (.aload_n 3, 1) := by decide +kernel
theorem dL_party_1 : decode cL_party 1 = .ok (.iconst 0, 1) := by decide +kernel
theorem dL_party_2 : decode cL_party 2 = .ok (.aload_n 0, 1) := by decide +kernel
theorem dL_party_3 : decode cL_party 3 = .ok (.iload_n 1, 1) := by decide +kernel
theorem dL_party_4 : decode cL_party 4 = .ok (.iload_n 2, 1) := by decide +kernel
theorem dL_party_5 : decode cL_party 5 = .ok (.invokevirtual 7, 3) := by decide +kernel
theorem dL_party_8 : decode cL_party 8 = .ok (.i2l, 1) := by decide +kernel
theorem dL_party_9 : decode cL_party 9 = .ok (.lastore, 1) := by decide +kernel
theorem dL_party_10 : decode cL_party 10 = .ok (.goto 15, 3) := by decide +kernel
theorem dL_party_13 : decode cL_party 13 = .ok (.astore 4, 2) := by decide +kernel
theorem dL_party_15 : decode cL_party 15 = .ok (.iconst 1, 1) := by decide +kernel
theorem dL_party_16 : decode cL_party 16 = .ok (.ireturn, 1) := by decide +kernel
theorem dL_party_17 : decode cL_party 17 = .ok (.astore 4, 2) := by decide +kernel
theorem dL_party_19 : decode cL_party 19 = .ok (.iconst 2, 1) := by decide +kernel
theorem dL_party_20 : decode cL_party 20 = .ok (.ireturn, 1) := by decide +kernel
theorem dL_party_21 : decode cL_party 21 = .ok (.astore 4, 2) := by decide +kernel
theorem dL_party_23 : decode cL_party 23 = .ok (.iconst 3, 1) := by decide +kernel
theorem dL_party_24 : decode cL_party 24 = .ok (.ireturn, 1) := by decide +kernel
theorem dL_party_25 : decode cL_party 25 = .ok (.iconst 0, 1) := by decide +kernel
theorem dL_party_26 : decode cL_party 26 = .ok (.ireturn, 1) := by decide +kernel
theorem dL_work_0 : decode cL_work 0 = .ok (.aload_n 3, 1) := by decide +kernel
theorem dL_work_1 : decode cL_work 1 = .ok (.iconst 0, 1) := by decide +kernel
theorem dL_work_2 : decode cL_work 2 = .ok (.aload_n 0, 1) := by decide +kernel
theorem dL_work_3 : decode cL_work 3 = .ok (.iload_n 1, 1) := by decide +kernel
theorem dL_work_4 : decode cL_work 4 = .ok (.iload_n 2, 1) := by decide +kernel
theorem dL_work_5 : decode cL_work 5 = .ok (.invokevirtual 19, 3) := by decide +kernel
theorem dL_work_8 : decode cL_work 8 = .ok (.i2l, 1) := by decide +kernel
theorem dL_work_9 : decode cL_work 9 = .ok (.lastore, 1) := by decide +kernel
theorem dL_work_10 : decode cL_work 10 = .ok (.goto 15, 3) := by decide +kernel
theorem dL_work_13 : decode cL_work 13 = .ok (.astore 4, 2) := by decide +kernel
theorem dL_work_15 : decode cL_work 15 = .ok (.iconst 1, 1) := by decide +kernel
theorem dL_work_16 : decode cL_work 16 = .ok (.ireturn, 1) := by decide +kernel
theorem dL_work_17 : decode cL_work 17 = .ok (.astore 4, 2) := by decide +kernel
theorem dL_work_19 : decode cL_work 19 = .ok (.iconst 2, 1) := by decide +kernel
theorem dL_work_20 : decode cL_work 20 = .ok (.ireturn, 1) := by decide +kernel
theorem dL_work_21 : decode cL_work 21 = .ok (.astore 4, 2) := by decide +kernel
theorem dL_work_23 : decode cL_work 23 = .ok (.iconst 3, 1) := by decide +kernel
theorem dL_work_24 : decode cL_work 24 = .ok (.ireturn, 1) := by decide +kernel
theorem dL_work_25 : decode cL_work 25 = .ok (.iconst 0, 1) := by decide +kernel
theorem dL_work_26 : decode cL_work 26 = .ok (.ireturn, 1) := by decide +kernel
theorem dL_value_0 : decode cL_value 0 = .ok (.aload_n 3, 1) := by decide +kernel
theorem dL_value_1 : decode cL_value 1 = .ok (.iconst 0, 1) := by decide +kernel
theorem dL_value_2 : decode cL_value 2 = .ok (.aload_n 0, 1) := by decide +kernel
theorem dL_value_3 : decode cL_value 3 = .ok (.iload_n 1, 1) := by decide +kernel
theorem dL_value_4 : decode cL_value 4 = .ok (.iload_n 2, 1) := by decide +kernel
theorem dL_value_5 : decode cL_value 5 = .ok (.invokevirtual 22, 3) := by decide +kernel
theorem dL_value_8 : decode cL_value 8 = .ok (.i2l, 1) := by decide +kernel
theorem dL_value_9 : decode cL_value 9 = .ok (.lastore, 1) := by decide +kernel
theorem dL_value_10 : decode cL_value 10 = .ok (.goto 11, 3) := by decide +kernel
theorem dL_value_13 : decode cL_value 13 = .ok (.astore 4, 2) := by decide +kernel
theorem dL_value_15 : decode cL_value 15 = .ok (.iconst 1, 1) := by decide +kernel
theorem dL_value_16 : decode cL_value 16 = .ok (.ireturn, 1) := by decide +kernel
theorem dL_value_17 : decode cL_value 17 = .ok (.astore 4, 2) := by decide +kernel
theorem dL_value_19 : decode cL_value 19 = .ok (.iconst 2, 1) := by decide +kernel
theorem dL_value_20 : decode cL_value 20 = .ok (.ireturn, 1) := by decide +kernel
theorem dL_value_21 : decode cL_value 21 = .ok (.iconst 0, 1) := by decide +kernel
theorem dL_value_22 : decode cL_value 22 = .ok (.ireturn, 1) := by decide +kernel
theorem dL_pass_0 : decode cL_pass 0 = .ok (.aload_n 2, 1) := by decide +kernel
theorem dL_pass_1 : decode cL_pass 1 = .ok (.iconst 0, 1) := by decide +kernel
theorem dL_pass_2 : decode cL_pass 2 = .ok (.aload_n 0, 1) := by decide +kernel
theorem dL_pass_3 : decode cL_pass 3 = .ok (.iload_n 1, 1) := by decide +kernel
theorem dL_pass_4 : decode cL_pass 4 = .ok (.invokevirtual 25, 3) := by decide +kernel
theorem dL_pass_7 : decode cL_pass 7 = .ok (.i2l, 1) := by decide +kernel
theorem dL_pass_8 : decode cL_pass 8 = .ok (.lastore, 1) := by decide +kernel
theorem dL_pass_9 : decode cL_pass 9 = .ok (.goto 9, 3) := by decide +kernel
theorem dL_pass_12 : decode cL_pass 12 = .ok (.astore_n 3, 1) := by decide +kernel
theorem dL_pass_13 : decode cL_pass 13 = .ok (.iconst 1, 1) := by decide +kernel
theorem dL_pass_14 : decode cL_pass 14 = .ok (.ireturn, 1) := by decide +kernel
theorem dL_pass_15 : decode cL_pass 15 = .ok (.astore_n 3, 1) := by decide +kernel
theorem dL_pass_16 : decode cL_pass 16 = .ok (.iconst 2, 1) := by decide +kernel
theorem dL_pass_17 : decode cL_pass 17 = .ok (.ireturn, 1) := by decide +kernel
theorem dL_pass_18 : decode cL_pass 18 = .ok (.iconst 0, 1) := by decide +kernel
theorem dL_pass_19 : decode cL_pass 19 = .ok (.ireturn, 1) := by decide +kernel
theorem dL_weight_0 : decode cL_weight 0 = .ok (.aload_n 3, 1) := by decide +kernel
theorem dL_weight_1 : decode cL_weight 1 = .ok (.iconst 0, 1) := by decide +kernel
theorem dL_weight_2 : decode cL_weight 2 = .ok (.aload_n 0, 1) := by decide +kernel
theorem dL_weight_3 : decode cL_weight 3 = .ok (.iload_n 1, 1) := by decide +kernel
theorem dL_weight_4 : decode cL_weight 4 = .ok (.iload_n 2, 1) := by decide +kernel
theorem dL_weight_5 : decode cL_weight 5 = .ok (.invokevirtual 29, 3) := by decide +kernel
theorem dL_weight_8 : decode cL_weight 8 = .ok (.i2l, 1) := by decide +kernel
theorem dL_weight_9 : decode cL_weight 9 = .ok (.lastore, 1) := by decide +kernel
theorem dL_weight_10 : decode cL_weight 10 = .ok (.goto 11, 3) := by decide +kernel
theorem dL_weight_13 : decode cL_weight 13 = .ok (.astore 4, 2) := by decide +kernel
theorem dL_weight_15 : decode cL_weight 15 = .ok (.iconst 1, 1) := by decide +kernel
theorem dL_weight_16 : decode cL_weight 16 = .ok (.ireturn, 1) := by decide +kernel
theorem dL_weight_17 : decode cL_weight 17 = .ok (.astore 4, 2) := by decide +kernel
theorem dL_weight_19 : decode cL_weight 19 = .ok (.iconst 2, 1) := by decide +kernel
theorem dL_weight_20 : decode cL_weight 20 = .ok (.ireturn, 1) := by decide +kernel
theorem dL_weight_21 : decode cL_weight 21 = .ok (.iconst 0, 1) := by decide +kernel
theorem dL_weight_22 : decode cL_weight 22 = .ok (.ireturn, 1) := by decide +kernel
theorem dL_word_0 : decode cL_word 0 = .ok (.aload 4, 2) := by decide +kernel
theorem dL_word_2 : decode cL_word 2 = .ok (.iconst 0, 1) := by decide +kernel
theorem dL_word_3 : decode cL_word 3 = .ok (.aload_n 0, 1) := by decide +kernel
theorem dL_word_4 : decode cL_word 4 = .ok (.iload_n 1, 1) := by decide +kernel
theorem dL_word_5 : decode cL_word 5 = .ok (.iload_n 2, 1) := by decide +kernel
theorem dL_word_6 : decode cL_word 6 = .ok (.iload_n 3, 1) := by decide +kernel
theorem dL_word_7 : decode cL_word 7 = .ok (.invokevirtual 32, 3) := by decide +kernel
theorem dL_word_10 : decode cL_word 10 = .ok (.i2l, 1) := by decide +kernel
theorem dL_word_11 : decode cL_word 11 = .ok (.lastore, 1) := by decide +kernel
theorem dL_word_12 : decode cL_word 12 = .ok (.goto 11, 3) := by decide +kernel
theorem dL_word_15 : decode cL_word 15 = .ok (.astore 5, 2) := by decide +kernel
theorem dL_word_17 : decode cL_word 17 = .ok (.iconst 1, 1) := by decide +kernel
theorem dL_word_18 : decode cL_word 18 = .ok (.ireturn, 1) := by decide +kernel
theorem dL_word_19 : decode cL_word 19 = .ok (.astore 5, 2) := by decide +kernel
theorem dL_word_21 : decode cL_word 21 = .ok (.iconst 2, 1) := by decide +kernel
theorem dL_word_22 : decode cL_word 22 = .ok (.ireturn, 1) := by decide +kernel
theorem dL_word_23 : decode cL_word 23 = .ok (.iconst 0, 1) := by decide +kernel
theorem dL_word_24 : decode cL_word 24 = .ok (.ireturn, 1) := by decide +kernel
theorem dL_paper_0 : decode cL_paper 0 = .ok (.aload_n 0, 1) := by decide +kernel
theorem dL_paper_1 : decode cL_paper 1 = .ok (.iload_n 1, 1) := by decide +kernel
theorem dL_paper_2 : decode cL_paper 2 = .ok (.iload_n 2, 1) := by decide +kernel
theorem dL_paper_3 : decode cL_paper 3 = .ok (.iload_n 3, 1) := by decide +kernel
theorem dL_paper_4 : decode cL_paper 4 = .ok (.invokevirtual 36, 3) := by decide +kernel
theorem dL_paper_7 : decode cL_paper 7 = .ok (.goto 11, 3) := by decide +kernel
theorem dL_paper_10 : decode cL_paper 10 = .ok (.astore 4, 2) := by decide +kernel
theorem dL_paper_12 : decode cL_paper 12 = .ok (.iconst 1, 1) := by decide +kernel
theorem dL_paper_13 : decode cL_paper 13 = .ok (.ireturn, 1) := by decide +kernel
theorem dL_paper_14 : decode cL_paper 14 = .ok (.astore 4, 2) := by decide +kernel
theorem dL_paper_16 : decode cL_paper 16 = .ok (.iconst 2, 1) := by decide +kernel
theorem dL_paper_17 : decode cL_paper 17 = .ok (.ireturn, 1) := by decide +kernel
theorem dL_paper_18 : decode cL_paper 18 = .ok (.iconst 0, 1) := by decide +kernel
theorem dL_paper_19 : decode cL_paper 19 = .ok (.ireturn, 1) := by decide +kernel
theorem dL_right_0 : decode cL_right 0 = .ok (.aload_n 3, 1) := by decide +kernel
theorem dL_right_1 : decode cL_right 1 = .ok (.iconst 0, 1) := by decide +kernel
theorem dL_right_2 : decode cL_right 2 = .ok (.aload_n 0, 1) := by decide +kernel
theorem dL_right_3 : decode cL_right 3 = .ok (.iload_n 1, 1) := by decide +kernel
theorem dL_right_4 : decode cL_right 4 = .ok (.iload_n 2, 1) := by decide +kernel
theorem dL_right_5 : decode cL_right 5 = .ok (.invokevirtual 40, 3) := by decide +kernel
theorem dL_right_8 : decode cL_right 8 = .ok (.i2l, 1) := by decide +kernel
theorem dL_right_9 : decode cL_right 9 = .ok (.lastore, 1) := by decide +kernel
theorem dL_right_10 : decode cL_right 10 = .ok (.goto 11, 3) := by decide +kernel
theorem dL_right_13 : decode cL_right 13 = .ok (.astore 4, 2) := by decide +kernel
theorem dL_right_15 : decode cL_right 15 = .ok (.iconst 1, 1) := by decide +kernel
theorem dL_right_16 : decode cL_right 16 = .ok (.ireturn, 1) := by decide +kernel
theorem dL_right_17 : decode cL_right 17 = .ok (.astore 4, 2) := by decide +kernel
theorem dL_right_19 : decode cL_right 19 = .ok (.iconst 2, 1) := by decide +kernel
theorem dL_right_20 : decode cL_right 20 = .ok (.ireturn, 1) := by decide +kernel
theorem dL_right_21 : decode cL_right 21 = .ok (.iconst 0, 1) := by decide +kernel
theorem dL_right_22 : decode cL_right 22 = .ok (.ireturn, 1) := by decide +kernel
theorem dL_bar_0 : decode cL_bar 0 = .ok (.aload_n 3, 1) := by decide +kernel
theorem dL_bar_1 : decode cL_bar 1 = .ok (.iconst 0, 1) := by decide +kernel
theorem dL_bar_2 : decode cL_bar 2 = .ok (.aload_n 0, 1) := by decide +kernel
theorem dL_bar_3 : decode cL_bar 3 = .ok (.iload_n 1, 1) := by decide +kernel
theorem dL_bar_4 : decode cL_bar 4 = .ok (.iload_n 2, 1) := by decide +kernel
theorem dL_bar_5 : decode cL_bar 5 = .ok (.invokevirtual 43, 3) := by decide +kernel
theorem dL_bar_8 : decode cL_bar 8 = .ok (.i2l, 1) := by decide +kernel
theorem dL_bar_9 : decode cL_bar 9 = .ok (.lastore, 1) := by decide +kernel
theorem dL_bar_10 : decode cL_bar 10 = .ok (.goto 11, 3) := by decide +kernel
theorem dL_bar_13 : decode cL_bar 13 = .ok (.astore 4, 2) := by decide +kernel
theorem dL_bar_15 : decode cL_bar 15 = .ok (.iconst 1, 1) := by decide +kernel
theorem dL_bar_16 : decode cL_bar 16 = .ok (.ireturn, 1) := by decide +kernel
theorem dL_bar_17 : decode cL_bar 17 = .ok (.astore 4, 2) := by decide +kernel
theorem dL_bar_19 : decode cL_bar 19 = .ok (.iconst 2, 1) := by decide +kernel
theorem dL_bar_20 : decode cL_bar 20 = .ok (.ireturn, 1) := by decide +kernel
theorem dL_bar_21 : decode cL_bar 21 = .ok (.iconst 0, 1) := by decide +kernel
theorem dL_bar_22 : decode cL_bar 22 = .ok (.ireturn, 1) := by decide +kernel
theorem dL_seal_0 : decode cL_seal 0 = .ok (.aload_n 3, 1) := by decide +kernel
theorem dL_seal_1 : decode cL_seal 1 = .ok (.iconst 0, 1) := by decide +kernel
theorem dL_seal_2 : decode cL_seal 2 = .ok (.aload_n 0, 1) := by decide +kernel
theorem dL_seal_3 : decode cL_seal 3 = .ok (.iload_n 1, 1) := by decide +kernel
theorem dL_seal_4 : decode cL_seal 4 = .ok (.iload_n 2, 1) := by decide +kernel
theorem dL_seal_5 : decode cL_seal 5 = .ok (.invokevirtual 46, 3) := by decide +kernel
theorem dL_seal_8 : decode cL_seal 8 = .ok (.ifCond .eq 7, 3) := by decide +kernel
theorem dL_seal_11 : decode cL_seal 11 = .ok (.lconst 1, 1) := by decide +kernel
theorem dL_seal_12 : decode cL_seal 12 = .ok (.goto 4, 3) := by decide +kernel
theorem dL_seal_15 : decode cL_seal 15 = .ok (.lconst 0, 1) := by decide +kernel
theorem dL_seal_16 : decode cL_seal 16 = .ok (.lastore, 1) := by decide +kernel
theorem dL_seal_17 : decode cL_seal 17 = .ok (.goto 11, 3) := by decide +kernel
theorem dL_seal_20 : decode cL_seal 20 = .ok (.astore 4, 2) := by decide +kernel
theorem dL_seal_22 : decode cL_seal 22 = .ok (.iconst 1, 1) := by decide +kernel
theorem dL_seal_23 : decode cL_seal 23 = .ok (.ireturn, 1) := by decide +kernel
theorem dL_seal_24 : decode cL_seal 24 = .ok (.astore 4, 2) := by decide +kernel
theorem dL_seal_26 : decode cL_seal 26 = .ok (.iconst 2, 1) := by decide +kernel
theorem dL_seal_27 : decode cL_seal 27 = .ok (.ireturn, 1) := by decide +kernel
theorem dL_seal_28 : decode cL_seal 28 = .ok (.iconst 0, 1) := by decide +kernel
theorem dL_seal_29 : decode cL_seal 29 = .ok (.ireturn, 1) := by decide +kernel
theorem dL_bring_0 : decode cL_bring 0 = .ok (.aload_n 3, 1) := by decide +kernel
theorem dL_bring_1 : decode cL_bring 1 = .ok (.iconst 0, 1) := by decide +kernel
theorem dL_bring_2 : decode cL_bring 2 = .ok (.aload_n 0, 1) := by decide +kernel
theorem dL_bring_3 : decode cL_bring 3 = .ok (.iload_n 1, 1) := by decide +kernel
theorem dL_bring_4 : decode cL_bring 4 = .ok (.iload_n 2, 1) := by decide +kernel
theorem dL_bring_5 : decode cL_bring 5 = .ok (.invokevirtual 50, 3) := by decide +kernel
theorem dL_bring_8 : decode cL_bring 8 = .ok (.i2l, 1) := by decide +kernel
theorem dL_bring_9 : decode cL_bring 9 = .ok (.lastore, 1) := by decide +kernel
theorem dL_bring_10 : decode cL_bring 10 = .ok (.goto 11, 3) := by decide +kernel
theorem dL_bring_13 : decode cL_bring 13 = .ok (.astore 4, 2) := by decide +kernel
theorem dL_bring_15 : decode cL_bring 15 = .ok (.iconst 1, 1) := by decide +kernel
theorem dL_bring_16 : decode cL_bring 16 = .ok (.ireturn, 1) := by decide +kernel
theorem dL_bring_17 : decode cL_bring 17 = .ok (.astore 4, 2) := by decide +kernel
theorem dL_bring_19 : decode cL_bring 19 = .ok (.iconst 2, 1) := by decide +kernel
theorem dL_bring_20 : decode cL_bring 20 = .ok (.ireturn, 1) := by decide +kernel
theorem dL_bring_21 : decode cL_bring 21 = .ok (.iconst 0, 1) := by decide +kernel
theorem dL_bring_22 : decode cL_bring 22 = .ok (.ireturn, 1) := by decide +kernel
theorem dL_list_0 : decode cL_list 0 = .ok (.aload_n 0, 1) := by decide +kernel
theorem dL_list_1 : decode cL_list 1 = .ok (.iload_n 1, 1) := by decide +kernel
theorem dL_list_2 : decode cL_list 2 = .ok (.invokevirtual 53, 3) := by decide +kernel
theorem dL_list_5 : decode cL_list 5 = .ok (.goto 9, 3) := by decide +kernel
theorem dL_list_8 : decode cL_list 8 = .ok (.astore_n 2, 1) := by decide +kernel
theorem dL_list_9 : decode cL_list 9 = .ok (.iconst 1, 1) := by decide +kernel
theorem dL_list_10 : decode cL_list 10 = .ok (.ireturn, 1) := by decide +kernel
theorem dL_list_11 : decode cL_list 11 = .ok (.astore_n 2, 1) := by decide +kernel
theorem dL_list_12 : decode cL_list 12 = .ok (.iconst 2, 1) := by decide +kernel
theorem dL_list_13 : decode cL_list 13 = .ok (.ireturn, 1) := by decide +kernel
theorem dL_list_14 : decode cL_list 14 = .ok (.iconst 0, 1) := by decide +kernel
theorem dL_list_15 : decode cL_list 15 = .ok (.ireturn, 1) := by decide +kernel
theorem dL_fail_0 : decode cL_fail 0 = .ok (.aload_n 2, 1) := by decide +kernel
theorem dL_fail_1 : decode cL_fail 1 = .ok (.iconst 0, 1) := by decide +kernel
theorem dL_fail_2 : decode cL_fail 2 = .ok (.aload_n 0, 1) := by decide +kernel
theorem dL_fail_3 : decode cL_fail 3 = .ok (.iload_n 1, 1) := by decide +kernel
theorem dL_fail_4 : decode cL_fail 4 = .ok (.invokevirtual 57, 3) := by decide +kernel
theorem dL_fail_7 : decode cL_fail 7 = .ok (.i2l, 1) := by decide +kernel
theorem dL_fail_8 : decode cL_fail 8 = .ok (.lastore, 1) := by decide +kernel
theorem dL_fail_9 : decode cL_fail 9 = .ok (.goto 9, 3) := by decide +kernel
theorem dL_fail_12 : decode cL_fail 12 = .ok (.astore_n 3, 1) := by decide +kernel
theorem dL_fail_13 : decode cL_fail 13 = .ok (.iconst 1, 1) := by decide +kernel
theorem dL_fail_14 : decode cL_fail 14 = .ok (.ireturn, 1) := by decide +kernel
theorem dL_fail_15 : decode cL_fail 15 = .ok (.astore_n 3, 1) := by decide +kernel
theorem dL_fail_16 : decode cL_fail 16 = .ok (.iconst 2, 1) := by decide +kernel
theorem dL_fail_17 : decode cL_fail 17 = .ok (.ireturn, 1) := by decide +kernel
theorem dL_fail_18 : decode cL_fail 18 = .ok (.iconst 0, 1) := by decide +kernel
theorem dL_fail_19 : decode cL_fail 19 = .ok (.ireturn, 1) := by decide +kernel
theorem dL_sell_0 : decode cL_sell 0 = .ok (.aload 5, 2) := by decide +kernel
theorem dL_sell_2 : decode cL_sell 2 = .ok (.iconst 0, 1) := by decide +kernel
theorem dL_sell_3 : decode cL_sell 3 = .ok (.aload_n 0, 1) := by decide +kernel
theorem dL_sell_4 : decode cL_sell 4 = .ok (.iload_n 1, 1) := by decide +kernel
theorem dL_sell_5 : decode cL_sell 5 = .ok (.iload_n 2, 1) := by decide +kernel
theorem dL_sell_6 : decode cL_sell 6 = .ok (.iload_n 3, 1) := by decide +kernel
theorem dL_sell_7 : decode cL_sell 7 = .ok (.iload 4, 2) := by decide +kernel
theorem dL_sell_9 : decode cL_sell 9 = .ok (.invokevirtual 60, 3) := by decide +kernel
theorem dL_sell_12 : decode cL_sell 12 = .ok (.i2l, 1) := by decide +kernel
theorem dL_sell_13 : decode cL_sell 13 = .ok (.lastore, 1) := by decide +kernel
theorem dL_sell_14 : decode cL_sell 14 = .ok (.goto 15, 3) := by decide +kernel
theorem dL_sell_17 : decode cL_sell 17 = .ok (.astore 6, 2) := by decide +kernel
theorem dL_sell_19 : decode cL_sell 19 = .ok (.iconst 1, 1) := by decide +kernel
theorem dL_sell_20 : decode cL_sell 20 = .ok (.ireturn, 1) := by decide +kernel
theorem dL_sell_21 : decode cL_sell 21 = .ok (.astore 6, 2) := by decide +kernel
theorem dL_sell_23 : decode cL_sell 23 = .ok (.iconst 2, 1) := by decide +kernel
theorem dL_sell_24 : decode cL_sell 24 = .ok (.ireturn, 1) := by decide +kernel
theorem dL_sell_25 : decode cL_sell 25 = .ok (.astore 6, 2) := by decide +kernel
theorem dL_sell_27 : decode cL_sell 27 = .ok (.iconst 3, 1) := by decide +kernel
theorem dL_sell_28 : decode cL_sell 28 = .ok (.ireturn, 1) := by decide +kernel
theorem dL_sell_29 : decode cL_sell 29 = .ok (.iconst 0, 1) := by decide +kernel
theorem dL_sell_30 : decode cL_sell 30 = .ok (.ireturn, 1) := by decide +kernel
theorem dL_consign_0 : decode cL_consign 0 = .ok (.aload_n 0, 1) := by decide +kernel
theorem dL_consign_1 : decode cL_consign 1 = .ok (.iload_n 1, 1) := by decide +kernel
theorem dL_consign_2 : decode cL_consign 2 = .ok (.iload_n 2, 1) := by decide +kernel
theorem dL_consign_3 : decode cL_consign 3 = .ok (.iload_n 3, 1) := by decide +kernel
theorem dL_consign_4 : decode cL_consign 4 = .ok (.iload 4, 2) := by decide +kernel
theorem dL_consign_6 : decode cL_consign 6 = .ok (.iload 5, 2) := by decide +kernel
theorem dL_consign_8 : decode cL_consign 8 = .ok (.invokevirtual 64, 3) := by decide +kernel
theorem dL_consign_11 : decode cL_consign 11 = .ok (.goto 15, 3) := by decide +kernel
theorem dL_consign_14 : decode cL_consign 14 = .ok (.astore 6, 2) := by decide +kernel
theorem dL_consign_16 : decode cL_consign 16 = .ok (.iconst 1, 1) := by decide +kernel
theorem dL_consign_17 : decode cL_consign 17 = .ok (.ireturn, 1) := by decide +kernel
theorem dL_consign_18 : decode cL_consign 18 = .ok (.astore 6, 2) := by decide +kernel
theorem dL_consign_20 : decode cL_consign 20 = .ok (.iconst 2, 1) := by decide +kernel
theorem dL_consign_21 : decode cL_consign 21 = .ok (.ireturn, 1) := by decide +kernel
theorem dL_consign_22 : decode cL_consign 22 = .ok (.astore 6, 2) := by decide +kernel
theorem dL_consign_24 : decode cL_consign 24 = .ok (.iconst 3, 1) := by decide +kernel
theorem dL_consign_25 : decode cL_consign 25 = .ok (.ireturn, 1) := by decide +kernel
theorem dL_consign_26 : decode cL_consign 26 = .ok (.iconst 0, 1) := by decide +kernel
theorem dL_consign_27 : decode cL_consign 27 = .ok (.ireturn, 1) := by decide +kernel
theorem dL_back_0 : decode cL_back 0 = .ok (.aload_n 2, 1) := by decide +kernel
theorem dL_back_1 : decode cL_back 1 = .ok (.iconst 0, 1) := by decide +kernel
theorem dL_back_2 : decode cL_back 2 = .ok (.aload_n 0, 1) := by decide +kernel
theorem dL_back_3 : decode cL_back 3 = .ok (.iload_n 1, 1) := by decide +kernel
theorem dL_back_4 : decode cL_back 4 = .ok (.invokevirtual 68, 3) := by decide +kernel
theorem dL_back_7 : decode cL_back 7 = .ok (.i2l, 1) := by decide +kernel
theorem dL_back_8 : decode cL_back 8 = .ok (.lastore, 1) := by decide +kernel
theorem dL_back_9 : decode cL_back 9 = .ok (.goto 9, 3) := by decide +kernel
theorem dL_back_12 : decode cL_back 12 = .ok (.astore_n 3, 1) := by decide +kernel
theorem dL_back_13 : decode cL_back 13 = .ok (.iconst 1, 1) := by decide +kernel
theorem dL_back_14 : decode cL_back 14 = .ok (.ireturn, 1) := by decide +kernel
theorem dL_back_15 : decode cL_back 15 = .ok (.astore_n 3, 1) := by decide +kernel
theorem dL_back_16 : decode cL_back 16 = .ok (.iconst 2, 1) := by decide +kernel
theorem dL_back_17 : decode cL_back 17 = .ok (.ireturn, 1) := by decide +kernel
theorem dL_back_18 : decode cL_back 18 = .ok (.iconst 0, 1) := by decide +kernel
theorem dL_back_19 : decode cL_back 19 = .ok (.ireturn, 1) := by decide +kernel
theorem dL_deal_0 : decode cL_deal 0 = .ok (.aload 4, 2) := by decide +kernel
theorem dL_deal_2 : decode cL_deal 2 = .ok (.iconst 0, 1) := by decide +kernel
theorem dL_deal_3 : decode cL_deal 3 = .ok (.aload_n 0, 1) := by decide +kernel
theorem dL_deal_4 : decode cL_deal 4 = .ok (.iload_n 1, 1) := by decide +kernel
theorem dL_deal_5 : decode cL_deal 5 = .ok (.iload_n 2, 1) := by decide +kernel
theorem dL_deal_6 : decode cL_deal 6 = .ok (.iload_n 3, 1) := by decide +kernel
theorem dL_deal_7 : decode cL_deal 7 = .ok (.invokevirtual 71, 3) := by decide +kernel
theorem dL_deal_10 : decode cL_deal 10 = .ok (.i2l, 1) := by decide +kernel
theorem dL_deal_11 : decode cL_deal 11 = .ok (.lastore, 1) := by decide +kernel
theorem dL_deal_12 : decode cL_deal 12 = .ok (.goto 15, 3) := by decide +kernel
theorem dL_deal_15 : decode cL_deal 15 = .ok (.astore 5, 2) := by decide +kernel
theorem dL_deal_17 : decode cL_deal 17 = .ok (.iconst 1, 1) := by decide +kernel
theorem dL_deal_18 : decode cL_deal 18 = .ok (.ireturn, 1) := by decide +kernel
theorem dL_deal_19 : decode cL_deal 19 = .ok (.astore 5, 2) := by decide +kernel
theorem dL_deal_21 : decode cL_deal 21 = .ok (.iconst 2, 1) := by decide +kernel
theorem dL_deal_22 : decode cL_deal 22 = .ok (.ireturn, 1) := by decide +kernel
theorem dL_deal_23 : decode cL_deal 23 = .ok (.astore 5, 2) := by decide +kernel
theorem dL_deal_25 : decode cL_deal 25 = .ok (.iconst 3, 1) := by decide +kernel
theorem dL_deal_26 : decode cL_deal 26 = .ok (.ireturn, 1) := by decide +kernel
theorem dL_deal_27 : decode cL_deal 27 = .ok (.iconst 0, 1) := by decide +kernel
theorem dL_deal_28 : decode cL_deal 28 = .ok (.ireturn, 1) := by decide +kernel
theorem dL_tell_0 : decode cL_tell 0 = .ok (.aload 4, 2) := by decide +kernel
theorem dL_tell_2 : decode cL_tell 2 = .ok (.iconst 0, 1) := by decide +kernel
theorem dL_tell_3 : decode cL_tell 3 = .ok (.aload_n 0, 1) := by decide +kernel
theorem dL_tell_4 : decode cL_tell 4 = .ok (.iload_n 1, 1) := by decide +kernel
theorem dL_tell_5 : decode cL_tell 5 = .ok (.iload_n 2, 1) := by decide +kernel
theorem dL_tell_6 : decode cL_tell 6 = .ok (.iload_n 3, 1) := by decide +kernel
theorem dL_tell_7 : decode cL_tell 7 = .ok (.invokevirtual 75, 3) := by decide +kernel
theorem dL_tell_10 : decode cL_tell 10 = .ok (.ifCond .eq 7, 3) := by decide +kernel
theorem dL_tell_13 : decode cL_tell 13 = .ok (.lconst 1, 1) := by decide +kernel
theorem dL_tell_14 : decode cL_tell 14 = .ok (.goto 4, 3) := by decide +kernel
theorem dL_tell_17 : decode cL_tell 17 = .ok (.lconst 0, 1) := by decide +kernel
theorem dL_tell_18 : decode cL_tell 18 = .ok (.lastore, 1) := by decide +kernel
theorem dL_tell_19 : decode cL_tell 19 = .ok (.goto 11, 3) := by decide +kernel
theorem dL_tell_22 : decode cL_tell 22 = .ok (.astore 5, 2) := by decide +kernel
theorem dL_tell_24 : decode cL_tell 24 = .ok (.iconst 1, 1) := by decide +kernel
theorem dL_tell_25 : decode cL_tell 25 = .ok (.ireturn, 1) := by decide +kernel
theorem dL_tell_26 : decode cL_tell 26 = .ok (.astore 5, 2) := by decide +kernel
theorem dL_tell_28 : decode cL_tell 28 = .ok (.iconst 2, 1) := by decide +kernel
theorem dL_tell_29 : decode cL_tell 29 = .ok (.ireturn, 1) := by decide +kernel
theorem dL_tell_30 : decode cL_tell 30 = .ok (.iconst 0, 1) := by decide +kernel
theorem dL_tell_31 : decode cL_tell 31 = .ok (.ireturn, 1) := by decide +kernel
theorem dL_restore_0 : decode cL_restore 0 = .ok (.aload_n 3, 1) := by decide +kernel
theorem dL_restore_1 : decode cL_restore 1 = .ok (.iconst 0, 1) := by decide +kernel
theorem dL_restore_2 : decode cL_restore 2 = .ok (.aload_n 0, 1) := by decide +kernel
theorem dL_restore_3 : decode cL_restore 3 = .ok (.iload_n 1, 1) := by decide +kernel
theorem dL_restore_4 : decode cL_restore 4 = .ok (.iload_n 2, 1) := by decide +kernel
theorem dL_restore_5 : decode cL_restore 5 = .ok (.invokevirtual 79, 3) := by decide +kernel
theorem dL_restore_8 : decode cL_restore 8 = .ok (.i2l, 1) := by decide +kernel
theorem dL_restore_9 : decode cL_restore 9 = .ok (.lastore, 1) := by decide +kernel
theorem dL_restore_10 : decode cL_restore 10 = .ok (.goto 11, 3) := by decide +kernel
theorem dL_restore_13 : decode cL_restore 13 = .ok (.astore 4, 2) := by decide +kernel
theorem dL_restore_15 : decode cL_restore 15 = .ok (.iconst 1, 1) := by decide +kernel
theorem dL_restore_16 : decode cL_restore 16 = .ok (.ireturn, 1) := by decide +kernel
theorem dL_restore_17 : decode cL_restore 17 = .ok (.astore 4, 2) := by decide +kernel
theorem dL_restore_19 : decode cL_restore 19 = .ok (.iconst 2, 1) := by decide +kernel
theorem dL_restore_20 : decode cL_restore 20 = .ok (.ireturn, 1) := by decide +kernel
theorem dL_restore_21 : decode cL_restore 21 = .ok (.iconst 0, 1) := by decide +kernel
theorem dL_restore_22 : decode cL_restore 22 = .ok (.ireturn, 1) := by decide +kernel
theorem dL_lend_0 : decode cL_lend 0 = .ok (.aload 6, 2) := by decide +kernel
theorem dL_lend_2 : decode cL_lend 2 = .ok (.iconst 0, 1) := by decide +kernel
theorem dL_lend_3 : decode cL_lend 3 = .ok (.aload_n 0, 1) := by decide +kernel
theorem dL_lend_4 : decode cL_lend 4 = .ok (.iload_n 1, 1) := by decide +kernel
theorem dL_lend_5 : decode cL_lend 5 = .ok (.iload_n 2, 1) := by decide +kernel
theorem dL_lend_6 : decode cL_lend 6 = .ok (.iload_n 3, 1) := by decide +kernel
theorem dL_lend_7 : decode cL_lend 7 = .ok (.iload 4, 2) := by decide +kernel
theorem dL_lend_9 : decode cL_lend 9 = .ok (.iload 5, 2) := by decide +kernel
theorem dL_lend_11 : decode cL_lend 11 = .ok (.invokevirtual 82, 3) := by decide +kernel
theorem dL_lend_14 : decode cL_lend 14 = .ok (.i2l, 1) := by decide +kernel
theorem dL_lend_15 : decode cL_lend 15 = .ok (.lastore, 1) := by decide +kernel
theorem dL_lend_16 : decode cL_lend 16 = .ok (.goto 15, 3) := by decide +kernel
theorem dL_lend_19 : decode cL_lend 19 = .ok (.astore 7, 2) := by decide +kernel
theorem dL_lend_21 : decode cL_lend 21 = .ok (.iconst 1, 1) := by decide +kernel
theorem dL_lend_22 : decode cL_lend 22 = .ok (.ireturn, 1) := by decide +kernel
theorem dL_lend_23 : decode cL_lend 23 = .ok (.astore 7, 2) := by decide +kernel
theorem dL_lend_25 : decode cL_lend 25 = .ok (.iconst 2, 1) := by decide +kernel
theorem dL_lend_26 : decode cL_lend 26 = .ok (.ireturn, 1) := by decide +kernel
theorem dL_lend_27 : decode cL_lend 27 = .ok (.astore 7, 2) := by decide +kernel
theorem dL_lend_29 : decode cL_lend 29 = .ok (.iconst 3, 1) := by decide +kernel
theorem dL_lend_30 : decode cL_lend 30 = .ok (.ireturn, 1) := by decide +kernel
theorem dL_lend_31 : decode cL_lend 31 = .ok (.iconst 0, 1) := by decide +kernel
theorem dL_lend_32 : decode cL_lend 32 = .ok (.ireturn, 1) := by decide +kernel
theorem dL_repay_0 : decode cL_repay 0 = .ok (.aload_n 2, 1) := by decide +kernel
theorem dL_repay_1 : decode cL_repay 1 = .ok (.iconst 0, 1) := by decide +kernel
theorem dL_repay_2 : decode cL_repay 2 = .ok (.aload_n 0, 1) := by decide +kernel
theorem dL_repay_3 : decode cL_repay 3 = .ok (.iload_n 1, 1) := by decide +kernel
theorem dL_repay_4 : decode cL_repay 4 = .ok (.invokevirtual 86, 3) := by decide +kernel
theorem dL_repay_7 : decode cL_repay 7 = .ok (.i2l, 1) := by decide +kernel
theorem dL_repay_8 : decode cL_repay 8 = .ok (.lastore, 1) := by decide +kernel
theorem dL_repay_9 : decode cL_repay 9 = .ok (.goto 9, 3) := by decide +kernel
theorem dL_repay_12 : decode cL_repay 12 = .ok (.astore_n 3, 1) := by decide +kernel
theorem dL_repay_13 : decode cL_repay 13 = .ok (.iconst 1, 1) := by decide +kernel
theorem dL_repay_14 : decode cL_repay 14 = .ok (.ireturn, 1) := by decide +kernel
theorem dL_repay_15 : decode cL_repay 15 = .ok (.astore_n 3, 1) := by decide +kernel
theorem dL_repay_16 : decode cL_repay 16 = .ok (.iconst 2, 1) := by decide +kernel
theorem dL_repay_17 : decode cL_repay 17 = .ok (.ireturn, 1) := by decide +kernel
theorem dL_repay_18 : decode cL_repay 18 = .ok (.iconst 0, 1) := by decide +kernel
theorem dL_repay_19 : decode cL_repay 19 = .ok (.ireturn, 1) := by decide +kernel
theorem dL_seize_0 : decode cL_seize 0 = .ok (.aload_n 2, 1) := by decide +kernel
theorem dL_seize_1 : decode cL_seize 1 = .ok (.iconst 0, 1) := by decide +kernel
theorem dL_seize_2 : decode cL_seize 2 = .ok (.aload_n 0, 1) := by decide +kernel
theorem dL_seize_3 : decode cL_seize 3 = .ok (.iload_n 1, 1) := by decide +kernel
theorem dL_seize_4 : decode cL_seize 4 = .ok (.invokevirtual 89, 3) := by decide +kernel
theorem dL_seize_7 : decode cL_seize 7 = .ok (.i2l, 1) := by decide +kernel
theorem dL_seize_8 : decode cL_seize 8 = .ok (.lastore, 1) := by decide +kernel
theorem dL_seize_9 : decode cL_seize 9 = .ok (.goto 9, 3) := by decide +kernel
theorem dL_seize_12 : decode cL_seize 12 = .ok (.astore_n 3, 1) := by decide +kernel
theorem dL_seize_13 : decode cL_seize 13 = .ok (.iconst 1, 1) := by decide +kernel
theorem dL_seize_14 : decode cL_seize 14 = .ok (.ireturn, 1) := by decide +kernel
theorem dL_seize_15 : decode cL_seize 15 = .ok (.astore_n 3, 1) := by decide +kernel
theorem dL_seize_16 : decode cL_seize 16 = .ok (.iconst 2, 1) := by decide +kernel
theorem dL_seize_17 : decode cL_seize 17 = .ok (.ireturn, 1) := by decide +kernel
theorem dL_seize_18 : decode cL_seize 18 = .ok (.iconst 0, 1) := by decide +kernel
theorem dL_seize_19 : decode cL_seize 19 = .ok (.ireturn, 1) := by decide +kernel
theorem dL_assign_0 : decode cL_assign 0 = .ok (.aload 4, 2) := by decide +kernel
theorem dL_assign_2 : decode cL_assign 2 = .ok (.iconst 0, 1) := by decide +kernel
theorem dL_assign_3 : decode cL_assign 3 = .ok (.aload_n 0, 1) := by decide +kernel
theorem dL_assign_4 : decode cL_assign 4 = .ok (.iload_n 1, 1) := by decide +kernel
theorem dL_assign_5 : decode cL_assign 5 = .ok (.iload_n 2, 1) := by decide +kernel
theorem dL_assign_6 : decode cL_assign 6 = .ok (.iload_n 3, 1) := by decide +kernel
theorem dL_assign_7 : decode cL_assign 7 = .ok (.invokevirtual 92, 3) := by decide +kernel
theorem dL_assign_10 : decode cL_assign 10 = .ok (.i2l, 1) := by decide +kernel
theorem dL_assign_11 : decode cL_assign 11 = .ok (.lastore, 1) := by decide +kernel
theorem dL_assign_12 : decode cL_assign 12 = .ok (.goto 15, 3) := by decide +kernel
theorem dL_assign_15 : decode cL_assign 15 = .ok (.astore 5, 2) := by decide +kernel
theorem dL_assign_17 : decode cL_assign 17 = .ok (.iconst 1, 1) := by decide +kernel
theorem dL_assign_18 : decode cL_assign 18 = .ok (.ireturn, 1) := by decide +kernel
theorem dL_assign_19 : decode cL_assign 19 = .ok (.astore 5, 2) := by decide +kernel
theorem dL_assign_21 : decode cL_assign 21 = .ok (.iconst 2, 1) := by decide +kernel
theorem dL_assign_22 : decode cL_assign 22 = .ok (.ireturn, 1) := by decide +kernel
theorem dL_assign_23 : decode cL_assign 23 = .ok (.astore 5, 2) := by decide +kernel
theorem dL_assign_25 : decode cL_assign 25 = .ok (.iconst 3, 1) := by decide +kernel
theorem dL_assign_26 : decode cL_assign 26 = .ok (.ireturn, 1) := by decide +kernel
theorem dL_assign_27 : decode cL_assign 27 = .ok (.iconst 0, 1) := by decide +kernel
theorem dL_assign_28 : decode cL_assign 28 = .ok (.ireturn, 1) := by decide +kernel
theorem dL_bars_0 : decode cL_bars 0 = .ok (.aload 5, 2) := by decide +kernel
theorem dL_bars_2 : decode cL_bars 2 = .ok (.iconst 0, 1) := by decide +kernel
theorem dL_bars_3 : decode cL_bars 3 = .ok (.aload_n 0, 1) := by decide +kernel
theorem dL_bars_4 : decode cL_bars 4 = .ok (.iload_n 1, 1) := by decide +kernel
theorem dL_bars_5 : decode cL_bars 5 = .ok (.iload_n 2, 1) := by decide +kernel
theorem dL_bars_6 : decode cL_bars 6 = .ok (.iload_n 3, 1) := by decide +kernel
theorem dL_bars_7 : decode cL_bars 7 = .ok (.iload 4, 2) := by decide +kernel
theorem dL_bars_9 : decode cL_bars 9 = .ok (.invokevirtual 95, 3) := by decide +kernel
theorem dL_bars_12 : decode cL_bars 12 = .ok (.i2l, 1) := by decide +kernel
theorem dL_bars_13 : decode cL_bars 13 = .ok (.lastore, 1) := by decide +kernel
theorem dL_bars_14 : decode cL_bars 14 = .ok (.goto 11, 3) := by decide +kernel
theorem dL_bars_17 : decode cL_bars 17 = .ok (.astore 6, 2) := by decide +kernel
theorem dL_bars_19 : decode cL_bars 19 = .ok (.iconst 1, 1) := by decide +kernel
theorem dL_bars_20 : decode cL_bars 20 = .ok (.ireturn, 1) := by decide +kernel
theorem dL_bars_21 : decode cL_bars 21 = .ok (.astore 6, 2) := by decide +kernel
theorem dL_bars_23 : decode cL_bars 23 = .ok (.iconst 2, 1) := by decide +kernel
theorem dL_bars_24 : decode cL_bars 24 = .ok (.ireturn, 1) := by decide +kernel
theorem dL_bars_25 : decode cL_bars 25 = .ok (.iconst 0, 1) := by decide +kernel
theorem dL_bars_26 : decode cL_bars 26 = .ok (.ireturn, 1) := by decide +kernel
theorem dL_barredBy_0 : decode cL_barredBy 0 = .ok (.aload 5, 2) := by decide +kernel
theorem dL_barredBy_2 : decode cL_barredBy 2 = .ok (.iconst 0, 1) := by decide +kernel
theorem dL_barredBy_3 : decode cL_barredBy 3 = .ok (.aload_n 0, 1) := by decide +kernel
theorem dL_barredBy_4 : decode cL_barredBy 4 = .ok (.iload_n 1, 1) := by decide +kernel
theorem dL_barredBy_5 : decode cL_barredBy 5 = .ok (.iload_n 2, 1) := by decide +kernel
theorem dL_barredBy_6 : decode cL_barredBy 6 = .ok (.iload_n 3, 1) := by decide +kernel
theorem dL_barredBy_7 : decode cL_barredBy 7 = .ok (.iload 4, 2) := by decide +kernel
theorem dL_barredBy_9 : decode cL_barredBy 9 = .ok (.invokevirtual 98, 3) := by decide +kernel
theorem dL_barredBy_12 : decode cL_barredBy 12 = .ok (.i2l, 1) := by decide +kernel
theorem dL_barredBy_13 : decode cL_barredBy 13 = .ok (.lastore, 1) := by decide +kernel
theorem dL_barredBy_14 : decode cL_barredBy 14 = .ok (.goto 11, 3) := by decide +kernel
theorem dL_barredBy_17 : decode cL_barredBy 17 = .ok (.astore 6, 2) := by decide +kernel
theorem dL_barredBy_19 : decode cL_barredBy 19 = .ok (.iconst 1, 1) := by decide +kernel
theorem dL_barredBy_20 : decode cL_barredBy 20 = .ok (.ireturn, 1) := by decide +kernel
theorem dL_barredBy_21 : decode cL_barredBy 21 = .ok (.astore 6, 2) := by decide +kernel
theorem dL_barredBy_23 : decode cL_barredBy 23 = .ok (.iconst 2, 1) := by decide +kernel
theorem dL_barredBy_24 : decode cL_barredBy 24 = .ok (.ireturn, 1) := by decide +kernel
theorem dL_barredBy_25 : decode cL_barredBy 25 = .ok (.iconst 0, 1) := by decide +kernel
theorem dL_barredBy_26 : decode cL_barredBy 26 = .ok (.ireturn, 1) := by decide +kernel
theorem dL_price_0 : decode cL_price 0 = .ok (.aload_n 3, 1) := by decide +kernel
theorem dL_price_1 : decode cL_price 1 = .ok (.iconst 0, 1) := by decide +kernel
theorem dL_price_2 : decode cL_price 2 = .ok (.aload_n 0, 1) := by decide +kernel
theorem dL_price_3 : decode cL_price 3 = .ok (.iload_n 1, 1) := by decide +kernel
theorem dL_price_4 : decode cL_price 4 = .ok (.iload_n 2, 1) := by decide +kernel
theorem dL_price_5 : decode cL_price 5 = .ok (.invokevirtual 101, 3) := by decide +kernel
theorem dL_price_8 : decode cL_price 8 = .ok (.i2l, 1) := by decide +kernel
theorem dL_price_9 : decode cL_price 9 = .ok (.lastore, 1) := by decide +kernel
theorem dL_price_10 : decode cL_price 10 = .ok (.goto 7, 3) := by decide +kernel
theorem dL_price_13 : decode cL_price 13 = .ok (.astore 4, 2) := by decide +kernel
theorem dL_price_15 : decode cL_price 15 = .ok (.iconst 1, 1) := by decide +kernel
theorem dL_price_16 : decode cL_price 16 = .ok (.ireturn, 1) := by decide +kernel
theorem dL_price_17 : decode cL_price 17 = .ok (.iconst 0, 1) := by decide +kernel
theorem dL_price_18 : decode cL_price 18 = .ok (.ireturn, 1) := by decide +kernel
theorem dL_ofParty_0 : decode cL_ofParty 0 = .ok (.aload_n 3, 1) := by decide +kernel
theorem dL_ofParty_1 : decode cL_ofParty 1 = .ok (.iconst 0, 1) := by decide +kernel
theorem dL_ofParty_2 : decode cL_ofParty 2 = .ok (.aload_n 0, 1) := by decide +kernel
theorem dL_ofParty_3 : decode cL_ofParty 3 = .ok (.iload_n 1, 1) := by decide +kernel
theorem dL_ofParty_4 : decode cL_ofParty 4 = .ok (.iload_n 2, 1) := by decide +kernel
theorem dL_ofParty_5 : decode cL_ofParty 5 = .ok (.invokevirtual 104, 3) := by decide +kernel
theorem dL_ofParty_8 : decode cL_ofParty 8 = .ok (.i2l, 1) := by decide +kernel
theorem dL_ofParty_9 : decode cL_ofParty 9 = .ok (.lastore, 1) := by decide +kernel
theorem dL_ofParty_10 : decode cL_ofParty 10 = .ok (.goto 11, 3) := by decide +kernel
theorem dL_ofParty_13 : decode cL_ofParty 13 = .ok (.astore 4, 2) := by decide +kernel
theorem dL_ofParty_15 : decode cL_ofParty 15 = .ok (.iconst 1, 1) := by decide +kernel
theorem dL_ofParty_16 : decode cL_ofParty 16 = .ok (.ireturn, 1) := by decide +kernel
theorem dL_ofParty_17 : decode cL_ofParty 17 = .ok (.astore 4, 2) := by decide +kernel
theorem dL_ofParty_19 : decode cL_ofParty 19 = .ok (.iconst 2, 1) := by decide +kernel
theorem dL_ofParty_20 : decode cL_ofParty 20 = .ok (.ireturn, 1) := by decide +kernel
theorem dL_ofParty_21 : decode cL_ofParty 21 = .ok (.iconst 0, 1) := by decide +kernel
theorem dL_ofParty_22 : decode cL_ofParty 22 = .ok (.ireturn, 1) := by decide +kernel
theorem dL_ofWork_0 : decode cL_ofWork 0 = .ok (.aload_n 3, 1) := by decide +kernel
theorem dL_ofWork_1 : decode cL_ofWork 1 = .ok (.iconst 0, 1) := by decide +kernel
theorem dL_ofWork_2 : decode cL_ofWork 2 = .ok (.aload_n 0, 1) := by decide +kernel
theorem dL_ofWork_3 : decode cL_ofWork 3 = .ok (.iload_n 1, 1) := by decide +kernel
theorem dL_ofWork_4 : decode cL_ofWork 4 = .ok (.iload_n 2, 1) := by decide +kernel
theorem dL_ofWork_5 : decode cL_ofWork 5 = .ok (.invokevirtual 107, 3) := by decide +kernel
theorem dL_ofWork_8 : decode cL_ofWork 8 = .ok (.i2l, 1) := by decide +kernel
theorem dL_ofWork_9 : decode cL_ofWork 9 = .ok (.lastore, 1) := by decide +kernel
theorem dL_ofWork_10 : decode cL_ofWork 10 = .ok (.goto 11, 3) := by decide +kernel
theorem dL_ofWork_13 : decode cL_ofWork 13 = .ok (.astore 4, 2) := by decide +kernel
theorem dL_ofWork_15 : decode cL_ofWork 15 = .ok (.iconst 1, 1) := by decide +kernel
theorem dL_ofWork_16 : decode cL_ofWork 16 = .ok (.ireturn, 1) := by decide +kernel
theorem dL_ofWork_17 : decode cL_ofWork 17 = .ok (.astore 4, 2) := by decide +kernel
theorem dL_ofWork_19 : decode cL_ofWork 19 = .ok (.iconst 2, 1) := by decide +kernel
theorem dL_ofWork_20 : decode cL_ofWork 20 = .ok (.ireturn, 1) := by decide +kernel
theorem dL_ofWork_21 : decode cL_ofWork 21 = .ok (.iconst 0, 1) := by decide +kernel
theorem dL_ofWork_22 : decode cL_ofWork 22 = .ok (.ireturn, 1) := by decide +kernel
theorem dL_ofLot_0 : decode cL_ofLot 0 = .ok (.aload_n 3, 1) := by decide +kernel
theorem dL_ofLot_1 : decode cL_ofLot 1 = .ok (.iconst 0, 1) := by decide +kernel
theorem dL_ofLot_2 : decode cL_ofLot 2 = .ok (.aload_n 0, 1) := by decide +kernel
theorem dL_ofLot_3 : decode cL_ofLot 3 = .ok (.iload_n 1, 1) := by decide +kernel
theorem dL_ofLot_4 : decode cL_ofLot 4 = .ok (.iload_n 2, 1) := by decide +kernel
theorem dL_ofLot_5 : decode cL_ofLot 5 = .ok (.invokevirtual 110, 3) := by decide +kernel
theorem dL_ofLot_8 : decode cL_ofLot 8 = .ok (.i2l, 1) := by decide +kernel
theorem dL_ofLot_9 : decode cL_ofLot 9 = .ok (.lastore, 1) := by decide +kernel
theorem dL_ofLot_10 : decode cL_ofLot 10 = .ok (.goto 11, 3) := by decide +kernel
theorem dL_ofLot_13 : decode cL_ofLot 13 = .ok (.astore 4, 2) := by decide +kernel
theorem dL_ofLot_15 : decode cL_ofLot 15 = .ok (.iconst 1, 1) := by decide +kernel
theorem dL_ofLot_16 : decode cL_ofLot 16 = .ok (.ireturn, 1) := by decide +kernel
theorem dL_ofLot_17 : decode cL_ofLot 17 = .ok (.astore 4, 2) := by decide +kernel
theorem dL_ofLot_19 : decode cL_ofLot 19 = .ok (.iconst 2, 1) := by decide +kernel
theorem dL_ofLot_20 : decode cL_ofLot 20 = .ok (.ireturn, 1) := by decide +kernel
theorem dL_ofLot_21 : decode cL_ofLot 21 = .ok (.iconst 0, 1) := by decide +kernel
theorem dL_ofLot_22 : decode cL_ofLot 22 = .ok (.ireturn, 1) := by decide +kernel
theorem dL_ofLoan_0 : decode cL_ofLoan 0 = .ok (.aload_n 3, 1) := by decide +kernel
theorem dL_ofLoan_1 : decode cL_ofLoan 1 = .ok (.iconst 0, 1) := by decide +kernel
theorem dL_ofLoan_2 : decode cL_ofLoan 2 = .ok (.aload_n 0, 1) := by decide +kernel
theorem dL_ofLoan_3 : decode cL_ofLoan 3 = .ok (.iload_n 1, 1) := by decide +kernel
theorem dL_ofLoan_4 : decode cL_ofLoan 4 = .ok (.iload_n 2, 1) := by decide +kernel
theorem dL_ofLoan_5 : decode cL_ofLoan 5 = .ok (.invokevirtual 113, 3) := by decide +kernel
theorem dL_ofLoan_8 : decode cL_ofLoan 8 = .ok (.i2l, 1) := by decide +kernel
theorem dL_ofLoan_9 : decode cL_ofLoan 9 = .ok (.lastore, 1) := by decide +kernel
theorem dL_ofLoan_10 : decode cL_ofLoan 10 = .ok (.goto 11, 3) := by decide +kernel
theorem dL_ofLoan_13 : decode cL_ofLoan 13 = .ok (.astore 4, 2) := by decide +kernel
theorem dL_ofLoan_15 : decode cL_ofLoan 15 = .ok (.iconst 1, 1) := by decide +kernel
theorem dL_ofLoan_16 : decode cL_ofLoan 16 = .ok (.ireturn, 1) := by decide +kernel
theorem dL_ofLoan_17 : decode cL_ofLoan 17 = .ok (.astore 4, 2) := by decide +kernel
theorem dL_ofLoan_19 : decode cL_ofLoan 19 = .ok (.iconst 2, 1) := by decide +kernel
theorem dL_ofLoan_20 : decode cL_ofLoan 20 = .ok (.ireturn, 1) := by decide +kernel
theorem dL_ofLoan_21 : decode cL_ofLoan 21 = .ok (.iconst 0, 1) := by decide +kernel
theorem dL_ofLoan_22 : decode cL_ofLoan 22 = .ok (.ireturn, 1) := by decide +kernel
theorem dL_doubt_0 : decode cL_doubt 0 = .ok (.aload_n 3, 1) := by decide +kernel
theorem dL_doubt_1 : decode cL_doubt 1 = .ok (.iconst 0, 1) := by decide +kernel
theorem dL_doubt_2 : decode cL_doubt 2 = .ok (.aload_n 0, 1) := by decide +kernel
theorem dL_doubt_3 : decode cL_doubt 3 = .ok (.iload_n 1, 1) := by decide +kernel
theorem dL_doubt_4 : decode cL_doubt 4 = .ok (.iload_n 2, 1) := by decide +kernel
theorem dL_doubt_5 : decode cL_doubt 5 = .ok (.invokevirtual 116, 3) := by decide +kernel
theorem dL_doubt_8 : decode cL_doubt 8 = .ok (.i2l, 1) := by decide +kernel
theorem dL_doubt_9 : decode cL_doubt 9 = .ok (.lastore, 1) := by decide +kernel
theorem dL_doubt_10 : decode cL_doubt 10 = .ok (.goto 11, 3) := by decide +kernel
theorem dL_doubt_13 : decode cL_doubt 13 = .ok (.astore 4, 2) := by decide +kernel
theorem dL_doubt_15 : decode cL_doubt 15 = .ok (.iconst 1, 1) := by decide +kernel
theorem dL_doubt_16 : decode cL_doubt 16 = .ok (.ireturn, 1) := by decide +kernel
theorem dL_doubt_17 : decode cL_doubt 17 = .ok (.astore 4, 2) := by decide +kernel
theorem dL_doubt_19 : decode cL_doubt 19 = .ok (.iconst 2, 1) := by decide +kernel
theorem dL_doubt_20 : decode cL_doubt 20 = .ok (.ireturn, 1) := by decide +kernel
theorem dL_doubt_21 : decode cL_doubt 21 = .ok (.iconst 0, 1) := by decide +kernel
theorem dL_doubt_22 : decode cL_doubt 22 = .ok (.ireturn, 1) := by decide +kernel
theorem dL_gaps_0 : decode cL_gaps 0 = .ok (.aload 4, 2) := by decide +kernel
theorem dL_gaps_2 : decode cL_gaps 2 = .ok (.iconst 0, 1) := by decide +kernel
theorem dL_gaps_3 : decode cL_gaps 3 = .ok (.aload_n 0, 1) := by decide +kernel
theorem dL_gaps_4 : decode cL_gaps 4 = .ok (.iload_n 1, 1) := by decide +kernel
theorem dL_gaps_5 : decode cL_gaps 5 = .ok (.iload_n 2, 1) := by decide +kernel
theorem dL_gaps_6 : decode cL_gaps 6 = .ok (.iload_n 3, 1) := by decide +kernel
theorem dL_gaps_7 : decode cL_gaps 7 = .ok (.invokevirtual 119, 3) := by decide +kernel
theorem dL_gaps_10 : decode cL_gaps 10 = .ok (.i2l, 1) := by decide +kernel
theorem dL_gaps_11 : decode cL_gaps 11 = .ok (.lastore, 1) := by decide +kernel
theorem dL_gaps_12 : decode cL_gaps 12 = .ok (.goto 11, 3) := by decide +kernel
theorem dL_gaps_15 : decode cL_gaps 15 = .ok (.astore 5, 2) := by decide +kernel
theorem dL_gaps_17 : decode cL_gaps 17 = .ok (.iconst 1, 1) := by decide +kernel
theorem dL_gaps_18 : decode cL_gaps 18 = .ok (.ireturn, 1) := by decide +kernel
theorem dL_gaps_19 : decode cL_gaps 19 = .ok (.astore 5, 2) := by decide +kernel
theorem dL_gaps_21 : decode cL_gaps 21 = .ok (.iconst 2, 1) := by decide +kernel
theorem dL_gaps_22 : decode cL_gaps 22 = .ok (.ireturn, 1) := by decide +kernel
theorem dL_gaps_23 : decode cL_gaps 23 = .ok (.iconst 0, 1) := by decide +kernel
theorem dL_gaps_24 : decode cL_gaps 24 = .ok (.ireturn, 1) := by decide +kernel
