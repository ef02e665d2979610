theorem dL_begin_0 : decode cL_begin 0 = .ok (.aload_n 0, 1) := by decide +kernel
theorem dL_begin_1 : decode cL_begin 1 = .ok (.iload_n 1, 1) := by decide +kernel
theorem dL_begin_2 : decode cL_begin 2 = .ok (.iload_n 2, 1) := by decide +kernel
theorem dL_begin_3 : decode cL_begin 3 = .ok (.invokevirtual 7, 3) := by decide +kernel
theorem dL_begin_6 : decode cL_begin 6 = .ok (.goto 6, 3) := by decide +kernel
theorem dL_begin_9 : decode cL_begin 9 = .ok (.astore_n 3, 1) := by decide +kernel
theorem dL_begin_10 : decode cL_begin 10 = .ok (.iconst 1, 1) := by decide +kernel
theorem dL_begin_11 : decode cL_begin 11 = .ok (.ireturn, 1) := by decide +kernel
theorem dL_begin_12 : decode cL_begin 12 = .ok (.iconst 0, 1) := by decide +kernel
theorem dL_begin_13 : decode cL_begin 13 = .ok (.ireturn, 1) := by decide +kernel
theorem dL_deal_0 : decode cL_deal 0 = .ok (.aload_n 0, 1) := by decide +kernel
theorem dL_deal_1 : decode cL_deal 1 = .ok (.iload_n 1, 1) := by decide +kernel
theorem dL_deal_2 : decode cL_deal 2 = .ok (.lload_n 2, 1) := by decide +kernel
theorem dL_deal_3 : decode cL_deal 3 = .ok (.invokevirtual 15, 3) := by decide +kernel
theorem dL_deal_6 : decode cL_deal 6 = .ok (.goto 11, 3) := by decide +kernel
theorem dL_deal_9 : decode cL_deal 9 = .ok (.astore 4, 2) := by decide +kernel
theorem dL_deal_11 : decode cL_deal 11 = .ok (.iconst 1, 1) := by decide +kernel
theorem dL_deal_12 : decode cL_deal 12 = .ok (.ireturn, 1) := by decide +kernel
theorem dL_deal_13 : decode cL_deal 13 = .ok (.astore 4, 2) := by decide +kernel
theorem dL_deal_15 : decode cL_deal 15 = .ok (.iconst 2, 1) := by decide +kernel
theorem dL_deal_16 : decode cL_deal 16 = .ok (.ireturn, 1) := by decide +kernel
theorem dL_deal_17 : decode cL_deal 17 = .ok (.iconst 0, 1) := by decide +kernel
theorem dL_deal_18 : decode cL_deal 18 = .ok (.ireturn, 1) := by decide +kernel
theorem dL_spoil_0 : decode cL_spoil 0 = .ok (.aload 4, 2) := by decide +kernel
theorem dL_spoil_2 : decode cL_spoil 2 = .ok (.iconst 0, 1) := by decide +kernel
theorem dL_spoil_3 : decode cL_spoil 3 = .ok (.aload_n 0, 1) := by decide +kernel
theorem dL_spoil_4 : decode cL_spoil 4 = .ok (.iload_n 1, 1) := by decide +kernel
theorem dL_spoil_5 : decode cL_spoil 5 = .ok (.iload_n 2, 1) := by decide +kernel
theorem dL_spoil_6 : decode cL_spoil 6 = .ok (.iload_n 3, 1) := by decide +kernel
theorem dL_spoil_7 : decode cL_spoil 7 = .ok (.invokevirtual 21, 3) := by decide +kernel
theorem dL_spoil_10 : decode cL_spoil 10 = .ok (.i2l, 1) := by decide +kernel
theorem dL_spoil_11 : decode cL_spoil 11 = .ok (.lastore, 1) := by decide +kernel
theorem dL_spoil_12 : decode cL_spoil 12 = .ok (.goto 11, 3) := by decide +kernel
theorem dL_spoil_15 : decode cL_spoil 15 = .ok (.astore 5, 2) := by decide +kernel
theorem dL_spoil_17 : decode cL_spoil 17 = .ok (.iconst 1, 1) := by decide +kernel
theorem dL_spoil_18 : decode cL_spoil 18 = .ok (.ireturn, 1) := by decide +kernel
theorem dL_spoil_19 : decode cL_spoil 19 = .ok (.astore 5, 2) := by decide +kernel
theorem dL_spoil_21 : decode cL_spoil 21 = .ok (.iconst 2, 1) := by decide +kernel
theorem dL_spoil_22 : decode cL_spoil 22 = .ok (.ireturn, 1) := by decide +kernel
theorem dL_spoil_23 : decode cL_spoil 23 = .ok (.iconst 0, 1) := by decide +kernel
theorem dL_spoil_24 : decode cL_spoil 24 = .ok (.ireturn, 1) := by decide +kernel
theorem dL_commitment_0 : decode cL_commitment 0 = .ok (.aload_n 3, 1) := by decide +kernel
theorem dL_commitment_1 : decode cL_commitment 1 = .ok (.iconst 0, 1) := by decide +kernel
theorem dL_commitment_2 : decode cL_commitment 2 = .ok (.aload_n 0, 1) := by decide +kernel
theorem dL_commitment_3 : decode cL_commitment 3 = .ok (.iload_n 1, 1) := by decide +kernel
theorem dL_commitment_4 : decode cL_commitment 4 = .ok (.iload_n 2, 1) := by decide +kernel
theorem dL_commitment_5 : decode cL_commitment 5 = .ok (.invokevirtual 25, 3) := by decide +kernel
theorem dL_commitment_8 : decode cL_commitment 8 = .ok (.i2l, 1) := by decide +kernel
theorem dL_commitment_9 : decode cL_commitment 9 = .ok (.lastore, 1) := by decide +kernel
theorem dL_commitment_10 : decode cL_commitment 10 = .ok (.goto 11, 3) := by decide +kernel
theorem dL_commitment_13 : decode cL_commitment 13 = .ok (.astore 4, 2) := by decide +kernel
theorem dL_commitment_15 : decode cL_commitment 15 = .ok (.iconst 1, 1) := by decide +kernel
theorem dL_commitment_16 : decode cL_commitment 16 = .ok (.ireturn, 1) := by decide +kernel
theorem dL_commitment_17 : decode cL_commitment 17 = .ok (.astore 4, 2) := by decide +kernel
theorem dL_commitment_19 : decode cL_commitment 19 = .ok (.iconst 2, 1) := by decide +kernel
theorem dL_commitment_20 : decode cL_commitment 20 = .ok (.ireturn, 1) := by decide +kernel
theorem dL_commitment_21 : decode cL_commitment 21 = .ok (.iconst 0, 1) := by decide +kernel
theorem dL_commitment_22 : decode cL_commitment 22 = .ok (.ireturn, 1) := by decide +kernel
theorem dL_share_0 : decode cL_share 0 = .ok (.aload_n 3, 1) := by decide +kernel
theorem dL_share_1 : decode cL_share 1 = .ok (.iconst 0, 1) := by decide +kernel
theorem dL_share_2 : decode cL_share 2 = .ok (.aload_n 0, 1) := by decide +kernel
theorem dL_share_3 : decode cL_share 3 = .ok (.iload_n 1, 1) := by decide +kernel
theorem dL_share_4 : decode cL_share 4 = .ok (.iload_n 2, 1) := by decide +kernel
theorem dL_share_5 : decode cL_share 5 = .ok (.invokevirtual 29, 3) := by decide +kernel
theorem dL_share_8 : decode cL_share 8 = .ok (.i2l, 1) := by decide +kernel
theorem dL_share_9 : decode cL_share 9 = .ok (.lastore, 1) := by decide +kernel
theorem dL_share_10 : decode cL_share 10 = .ok (.goto 11, 3) := by decide +kernel
theorem dL_share_13 : decode cL_share 13 = .ok (.astore 4, 2) := by decide +kernel
theorem dL_share_15 : decode cL_share 15 = .ok (.iconst 1, 1) := by decide +kernel
theorem dL_share_16 : decode cL_share 16 = .ok (.ireturn, 1) := by decide +kernel
theorem dL_share_17 : decode cL_share 17 = .ok (.astore 4, 2) := by decide +kernel
theorem dL_share_19 : decode cL_share 19 = .ok (.iconst 2, 1) := by decide +kernel
theorem dL_share_20 : decode cL_share 20 = .ok (.ireturn, 1) := by decide +kernel
theorem dL_share_21 : decode cL_share 21 = .ok (.iconst 0, 1) := by decide +kernel
theorem dL_share_22 : decode cL_share 22 = .ok (.ireturn, 1) := by decide +kernel
theorem dL_isRight_0 : decode cL_isRight 0 = .ok (.aload 4, 2) := by decide +kernel
theorem dL_isRight_2 : decode cL_isRight 2 = .ok (.iconst 0, 1) := by decide +kernel
theorem dL_isRight_3 : decode cL_isRight 3 = .ok (.aload_n 0, 1) := by decide +kernel
theorem dL_isRight_4 : decode cL_isRight 4 = .ok (.iload_n 1, 1) := by decide +kernel
theorem dL_isRight_5 : decode cL_isRight 5 = .ok (.iload_n 2, 1) := by decide +kernel
theorem dL_isRight_6 : decode cL_isRight 6 = .ok (.iload_n 3, 1) := by decide +kernel
theorem dL_isRight_7 : decode cL_isRight 7 = .ok (.invokevirtual 32, 3) := by decide +kernel
theorem dL_isRight_10 : decode cL_isRight 10 = .ok (.ifCond .eq 7, 3) := by decide +kernel
theorem dL_isRight_13 : decode cL_isRight 13 = .ok (.lconst 1, 1) := by decide +kernel
theorem dL_isRight_14 : decode cL_isRight 14 = .ok (.goto 4, 3) := by decide +kernel
theorem dL_isRight_17 : decode cL_isRight 17 = .ok (.lconst 0, 1) := by decide +kernel
theorem dL_isRight_18 : decode cL_isRight 18 = .ok (.lastore, 1) := by decide +kernel
theorem dL_isRight_19 : decode cL_isRight 19 = .ok (.goto 11, 3) := by decide +kernel
theorem dL_isRight_22 : decode cL_isRight 22 = .ok (.astore 5, 2) := by decide +kernel
theorem dL_isRight_24 : decode cL_isRight 24 = .ok (.iconst 1, 1) := by decide +kernel
theorem dL_isRight_25 : decode cL_isRight 25 = .ok (.ireturn, 1) := by decide +kernel
theorem dL_isRight_26 : decode cL_isRight 26 = .ok (.astore 5, 2) := by decide +kernel
theorem dL_isRight_28 : decode cL_isRight 28 = .ok (.iconst 2, 1) := by decide +kernel
theorem dL_isRight_29 : decode cL_isRight 29 = .ok (.ireturn, 1) := by decide +kernel
theorem dL_isRight_30 : decode cL_isRight 30 = .ok (.iconst 0, 1) := by decide +kernel
theorem dL_isRight_31 : decode cL_isRight 31 = .ok (.ireturn, 1) := by decide +kernel
theorem dL_complain_0 : decode cL_complain 0 = .ok (.aload_n 1, 1) := by decide +kernel
theorem dL_complain_1 : decode cL_complain 1 = .ok (.iconst 0, 1) := by decide +kernel
theorem dL_complain_2 : decode cL_complain 2 = .ok (.aload_n 0, 1) := by decide +kernel
theorem dL_complain_3 : decode cL_complain 3 = .ok (.invokevirtual 36, 3) := by decide +kernel
theorem dL_complain_6 : decode cL_complain 6 = .ok (.i2l, 1) := by decide +kernel
theorem dL_complain_7 : decode cL_complain 7 = .ok (.lastore, 1) := by decide +kernel
theorem dL_complain_8 : decode cL_complain 8 = .ok (.goto 6, 3) := by decide +kernel
theorem dL_complain_11 : decode cL_complain 11 = .ok (.astore_n 2, 1) := by decide +kernel
theorem dL_complain_12 : decode cL_complain 12 = .ok (.iconst 1, 1) := by decide +kernel
theorem dL_complain_13 : decode cL_complain 13 = .ok (.ireturn, 1) := by decide +kernel
theorem dL_complain_14 : decode cL_complain 14 = .ok (.iconst 0, 1) := by decide +kernel
theorem dL_complain_15 : decode cL_complain 15 = .ok (.ireturn, 1) := by decide +kernel
theorem dL_answer_0 : decode cL_answer 0 = .ok (.aload 4, 2) := by decide +kernel
theorem dL_answer_2 : decode cL_answer 2 = .ok (.iconst 0, 1) := by decide +kernel
theorem dL_answer_3 : decode cL_answer 3 = .ok (.aload_n 0, 1) := by decide +kernel
theorem dL_answer_4 : decode cL_answer 4 = .ok (.iload_n 1, 1) := by decide +kernel
theorem dL_answer_5 : decode cL_answer 5 = .ok (.iload_n 2, 1) := by decide +kernel
theorem dL_answer_6 : decode cL_answer 6 = .ok (.iload_n 3, 1) := by decide +kernel
theorem dL_answer_7 : decode cL_answer 7 = .ok (.invokevirtual 40, 3) := by decide +kernel
theorem dL_answer_10 : decode cL_answer 10 = .ok (.ifCond .eq 7, 3) := by decide +kernel
theorem dL_answer_13 : decode cL_answer 13 = .ok (.lconst 1, 1) := by decide +kernel
theorem dL_answer_14 : decode cL_answer 14 = .ok (.goto 4, 3) := by decide +kernel
theorem dL_answer_17 : decode cL_answer 17 = .ok (.lconst 0, 1) := by decide +kernel
theorem dL_answer_18 : decode cL_answer 18 = .ok (.lastore, 1) := by decide +kernel
theorem dL_answer_19 : decode cL_answer 19 = .ok (.goto 11, 3) := by decide +kernel
theorem dL_answer_22 : decode cL_answer 22 = .ok (.astore 5, 2) := by decide +kernel
theorem dL_answer_24 : decode cL_answer 24 = .ok (.iconst 1, 1) := by decide +kernel
theorem dL_answer_25 : decode cL_answer 25 = .ok (.ireturn, 1) := by decide +kernel
theorem dL_answer_26 : decode cL_answer 26 = .ok (.astore 5, 2) := by decide +kernel
theorem dL_answer_28 : decode cL_answer 28 = .ok (.iconst 2, 1) := by decide +kernel
theorem dL_answer_29 : decode cL_answer 29 = .ok (.ireturn, 1) := by decide +kernel
theorem dL_answer_30 : decode cL_answer 30 = .ok (.iconst 0, 1) := by decide +kernel
theorem dL_answer_31 : decode cL_answer 31 = .ok (.ireturn, 1) := by decide +kernel
theorem dL_close_0 : decode cL_close 0 = .ok (.aload_n 3, 1) := by decide +kernel
theorem dL_close_1 : decode cL_close 1 = .ok (.iconst 0, 1) := by decide +kernel
theorem dL_close_2 : decode cL_close 2 = .ok (.aload_n 0, 1) := by decide +kernel
theorem dL_close_3 : decode cL_close 3 = .ok (.lload_n 1, 1) := by decide +kernel
theorem dL_close_4 : decode cL_close 4 = .ok (.invokevirtual 43, 3) := by decide +kernel
theorem dL_close_7 : decode cL_close 7 = .ok (.i2l, 1) := by decide +kernel
theorem dL_close_8 : decode cL_close 8 = .ok (.lastore, 1) := by decide +kernel
theorem dL_close_9 : decode cL_close 9 = .ok (.goto 7, 3) := by decide +kernel
theorem dL_close_12 : decode cL_close 12 = .ok (.astore 4, 2) := by decide +kernel
theorem dL_close_14 : decode cL_close 14 = .ok (.iconst 1, 1) := by decide +kernel
theorem dL_close_15 : decode cL_close 15 = .ok (.ireturn, 1) := by decide +kernel
theorem dL_close_16 : decode cL_close 16 = .ok (.iconst 0, 1) := by decide +kernel
theorem dL_close_17 : decode cL_close 17 = .ok (.ireturn, 1) := by decide +kernel
theorem dL_key_0 : decode cL_key 0 = .ok (.aload_n 3, 1) := by decide +kernel
theorem dL_key_1 : decode cL_key 1 = .ok (.iconst 0, 1) := by decide +kernel
theorem dL_key_2 : decode cL_key 2 = .ok (.aload_n 0, 1) := by decide +kernel
theorem dL_key_3 : decode cL_key 3 = .ok (.iload_n 1, 1) := by decide +kernel
theorem dL_key_4 : decode cL_key 4 = .ok (.iload_n 2, 1) := by decide +kernel
theorem dL_key_5 : decode cL_key 5 = .ok (.invokevirtual 47, 3) := by decide +kernel
theorem dL_key_8 : decode cL_key 8 = .ok (.i2l, 1) := by decide +kernel
theorem dL_key_9 : decode cL_key 9 = .ok (.lastore, 1) := by decide +kernel
theorem dL_key_10 : decode cL_key 10 = .ok (.goto 11, 3) := by decide +kernel
theorem dL_key_13 : decode cL_key 13 = .ok (.astore 4, 2) := by decide +kernel
theorem dL_key_15 : decode cL_key 15 = .ok (.iconst 1, 1) := by decide +kernel
theorem dL_key_16 : decode cL_key 16 = .ok (.ireturn, 1) := by decide +kernel
theorem dL_key_17 : decode cL_key 17 = .ok (.astore 4, 2) := by decide +kernel
theorem dL_key_19 : decode cL_key 19 = .ok (.iconst 2, 1) := by decide +kernel
theorem dL_key_20 : decode cL_key 20 = .ok (.ireturn, 1) := by decide +kernel
theorem dL_key_21 : decode cL_key 21 = .ok (.iconst 0, 1) := by decide +kernel
theorem dL_key_22 : decode cL_key 22 = .ok (.ireturn, 1) := by decide +kernel
theorem dL_round_0 : decode cL_round 0 = .ok (.aload_n 2, 1) := by decide +kernel
theorem dL_round_1 : decode cL_round 1 = .ok (.iconst 0, 1) := by decide +kernel
theorem dL_round_2 : decode cL_round 2 = .ok (.aload_n 0, 1) := by decide +kernel
theorem dL_round_3 : decode cL_round 3 = .ok (.iload_n 1, 1) := by decide +kernel
theorem dL_round_4 : decode cL_round 4 = .ok (.invokevirtual 50, 3) := by decide +kernel
theorem dL_round_7 : decode cL_round 7 = .ok (.i2l, 1) := by decide +kernel
theorem dL_round_8 : decode cL_round 8 = .ok (.lastore, 1) := by decide +kernel
theorem dL_round_9 : decode cL_round 9 = .ok (.goto 9, 3) := by decide +kernel
theorem dL_round_12 : decode cL_round 12 = .ok (.astore_n 3, 1) := by decide +kernel
theorem dL_round_13 : decode cL_round 13 = .ok (.iconst 1, 1) := by decide +kernel
theorem dL_round_14 : decode cL_round 14 = .ok (.ireturn, 1) := by decide +kernel
theorem dL_round_15 : decode cL_round 15 = .ok (.astore_n 3, 1) := by decide +kernel
theorem dL_round_16 : decode cL_round 16 = .ok (.iconst 2, 1) := by decide +kernel
theorem dL_round_17 : decode cL_round 17 = .ok (.ireturn, 1) := by decide +kernel
theorem dL_round_18 : decode cL_round 18 = .ok (.iconst 0, 1) := by decide +kernel
theorem dL_round_19 : decode cL_round 19 = .ok (.ireturn, 1) := by decide +kernel
theorem dL_says_0 : decode cL_says 0 = .ok (.aload_n 3, 1) := by decide +kernel
theorem dL_says_1 : decode cL_says 1 = .ok (.iconst 0, 1) := by decide +kernel
theorem dL_says_2 : decode cL_says 2 = .ok (.aload_n 0, 1) := by decide +kernel
theorem dL_says_3 : decode cL_says 3 = .ok (.iload_n 1, 1) := by decide +kernel
theorem dL_says_4 : decode cL_says 4 = .ok (.iload_n 2, 1) := by decide +kernel
theorem dL_says_5 : decode cL_says 5 = .ok (.invokevirtual 54, 3) := by decide +kernel
theorem dL_says_8 : decode cL_says 8 = .ok (.i2l, 1) := by decide +kernel
theorem dL_says_9 : decode cL_says 9 = .ok (.lastore, 1) := by decide +kernel
theorem dL_says_10 : decode cL_says 10 = .ok (.goto 11, 3) := by decide +kernel
theorem dL_says_13 : decode cL_says 13 = .ok (.astore 4, 2) := by decide +kernel
theorem dL_says_15 : decode cL_says 15 = .ok (.iconst 1, 1) := by decide +kernel
theorem dL_says_16 : decode cL_says 16 = .ok (.ireturn, 1) := by decide +kernel
theorem dL_says_17 : decode cL_says 17 = .ok (.astore 4, 2) := by decide +kernel
theorem dL_says_19 : decode cL_says 19 = .ok (.iconst 2, 1) := by decide +kernel
theorem dL_says_20 : decode cL_says 20 = .ok (.ireturn, 1) := by decide +kernel
theorem dL_says_21 : decode cL_says 21 = .ok (.iconst 0, 1) := by decide +kernel
theorem dL_says_22 : decode cL_says 22 = .ok (.ireturn, 1) := by decide +kernel
theorem dL_offer_0 : decode cL_offer 0 = .ok (.aload 6, 2) := by decide +kernel
theorem dL_offer_2 : decode cL_offer 2 = .ok (.iconst 0, 1) := by decide +kernel
theorem dL_offer_3 : decode cL_offer 3 = .ok (.aload_n 0, 1) := by decide +kernel
theorem dL_offer_4 : decode cL_offer 4 = .ok (.iload_n 1, 1) := by decide +kernel
theorem dL_offer_5 : decode cL_offer 5 = .ok (.iload_n 2, 1) := by decide +kernel
theorem dL_offer_6 : decode cL_offer 6 = .ok (.iload_n 3, 1) := by decide +kernel
theorem dL_offer_7 : decode cL_offer 7 = .ok (.iload 4, 2) := by decide +kernel
theorem dL_offer_9 : decode cL_offer 9 = .ok (.iload 5, 2) := by decide +kernel
theorem dL_offer_11 : decode cL_offer 11 = .ok (.invokevirtual 57, 3) := by decide +kernel
theorem dL_offer_14 : decode cL_offer 14 = .ok (.ifCond .eq 7, 3) := by decide +kernel
theorem dL_offer_17 : decode cL_offer 17 = .ok (.lconst 1, 1) := by decide +kernel
theorem dL_offer_18 : decode cL_offer 18 = .ok (.goto 4, 3) := by decide +kernel
theorem dL_offer_21 : decode cL_offer 21 = .ok (.lconst 0, 1) := by decide +kernel
theorem dL_offer_22 : decode cL_offer 22 = .ok (.lastore, 1) := by decide +kernel
theorem dL_offer_23 : decode cL_offer 23 = .ok (.goto 11, 3) := by decide +kernel
theorem dL_offer_26 : decode cL_offer 26 = .ok (.astore 7, 2) := by decide +kernel
theorem dL_offer_28 : decode cL_offer 28 = .ok (.iconst 1, 1) := by decide +kernel
theorem dL_offer_29 : decode cL_offer 29 = .ok (.ireturn, 1) := by decide +kernel
theorem dL_offer_30 : decode cL_offer 30 = .ok (.astore 7, 2) := by decide +kernel
theorem dL_offer_32 : decode cL_offer 32 = .ok (.iconst 2, 1) := by decide +kernel
theorem dL_offer_33 : decode cL_offer 33 = .ok (.ireturn, 1) := by decide +kernel
theorem dL_offer_34 : decode cL_offer 34 = .ok (.iconst 0, 1) := by decide +kernel
theorem dL_offer_35 : decode cL_offer 35 = .ok (.ireturn, 1) := by decide +kernel
theorem dL_value_0 : decode cL_value 0 = .ok (.aload_n 2, 1) := by decide +kernel
theorem dL_value_1 : decode cL_value 1 = .ok (.iconst 0, 1) := by decide +kernel
theorem dL_value_2 : decode cL_value 2 = .ok (.aload_n 0, 1) := by decide +kernel
theorem dL_value_3 : decode cL_value 3 = .ok (.iload_n 1, 1) := by decide +kernel
theorem dL_value_4 : decode cL_value 4 = .ok (.invokevirtual 61, 3) := by decide +kernel
theorem dL_value_7 : decode cL_value 7 = .ok (.i2l, 1) := by decide +kernel
theorem dL_value_8 : decode cL_value 8 = .ok (.lastore, 1) := by decide +kernel
theorem dL_value_9 : decode cL_value 9 = .ok (.goto 9, 3) := by decide +kernel
theorem dL_value_12 : decode cL_value 12 = .ok (.astore_n 3, 1) := by decide +kernel
theorem dL_value_13 : decode cL_value 13 = .ok (.iconst 1, 1) := by decide +kernel
theorem dL_value_14 : decode cL_value 14 = .ok (.ireturn, 1) := by decide +kernel
theorem dL_value_15 : decode cL_value 15 = .ok (.astore_n 3, 1) := by decide +kernel
theorem dL_value_16 : decode cL_value 16 = .ok (.iconst 2, 1) := by decide +kernel
theorem dL_value_17 : decode cL_value 17 = .ok (.ireturn, 1) := by decide +kernel
theorem dL_value_18 : decode cL_value 18 = .ok (.iconst 0, 1) := by decide +kernel
theorem dL_value_19 : decode cL_value 19 = .ok (.ireturn, 1) := by decide +kernel
theorem dL_publish_0 : decode cL_publish 0 = .ok (.aload_n 1, 1) := by decide +kernel
theorem dL_publish_1 : decode cL_publish 1 = .ok (.iconst 0, 1) := by decide +kernel
theorem dL_publish_2 : decode cL_publish 2 = .ok (.aload_n 0, 1) := by decide +kernel
theorem dL_publish_3 : decode cL_publish 3 = .ok (.invokevirtual 64, 3) := by decide +kernel
theorem dL_publish_6 : decode cL_publish 6 = .ok (.i2l, 1) := by decide +kernel
theorem dL_publish_7 : decode cL_publish 7 = .ok (.lastore, 1) := by decide +kernel
theorem dL_publish_8 : decode cL_publish 8 = .ok (.goto 9, 3) := by decide +kernel
theorem dL_publish_11 : decode cL_publish 11 = .ok (.astore_n 2, 1) := by decide +kernel
theorem dL_publish_12 : decode cL_publish 12 = .ok (.iconst 1, 1) := by decide +kernel
theorem dL_publish_13 : decode cL_publish 13 = .ok (.ireturn, 1) := by decide +kernel
theorem dL_publish_14 : decode cL_publish 14 = .ok (.astore_n 2, 1) := by decide +kernel
theorem dL_publish_15 : decode cL_publish 15 = .ok (.iconst 2, 1) := by decide +kernel
theorem dL_publish_16 : decode cL_publish 16 = .ok (.ireturn, 1) := by decide +kernel
theorem dL_publish_17 : decode cL_publish 17 = .ok (.iconst 0, 1) := by decide +kernel
theorem dL_publish_18 : decode cL_publish 18 = .ok (.ireturn, 1) := by decide +kernel
theorem dL_ended_0 : decode cL_ended 0 = .ok (.aload_n 2, 1) := by decide +kernel
theorem dL_ended_1 : decode cL_ended 1 = .ok (.iconst 0, 1) := by decide +kernel
theorem dL_ended_2 : decode cL_ended 2 = .ok (.aload_n 0, 1) := by decide +kernel
theorem dL_ended_3 : decode cL_ended 3 = .ok (.iload_n 1, 1) := by decide +kernel
theorem dL_ended_4 : decode cL_ended 4 = .ok (.invokevirtual 69, 3) := by decide +kernel
theorem dL_ended_7 : decode cL_ended 7 = .ok (.lastore, 1) := by decide +kernel
theorem dL_ended_8 : decode cL_ended 8 = .ok (.goto 9, 3) := by decide +kernel
theorem dL_ended_11 : decode cL_ended 11 = .ok (.astore_n 3, 1) := by decide +kernel
theorem dL_ended_12 : decode cL_ended 12 = .ok (.iconst 1, 1) := by decide +kernel
theorem dL_ended_13 : decode cL_ended 13 = .ok (.ireturn, 1) := by decide +kernel
theorem dL_ended_14 : decode cL_ended 14 = .ok (.astore_n 3, 1) := by decide +kernel
theorem dL_ended_15 : decode cL_ended 15 = .ok (.iconst 2, 1) := by decide +kernel
theorem dL_ended_16 : decode cL_ended 16 = .ok (.ireturn, 1) := by decide +kernel
theorem dL_ended_17 : decode cL_ended 17 = .ok (.iconst 0, 1) := by decide +kernel
theorem dL_ended_18 : decode cL_ended 18 = .ok (.ireturn, 1) := by decide +kernel
theorem dL_random_0 : decode cL_random 0 = .ok (.aload_n 2, 1) := by decide +kernel
theorem dL_random_1 : decode cL_random 1 = .ok (.iconst 0, 1) := by decide +kernel
theorem dL_random_2 : decode cL_random 2 = .ok (.aload_n 0, 1) := by decide +kernel
theorem dL_random_3 : decode cL_random 3 = .ok (.iload_n 1, 1) := by decide +kernel
theorem dL_random_4 : decode cL_random 4 = .ok (.invokevirtual 73, 3) := by decide +kernel
theorem dL_random_7 : decode cL_random 7 = .ok (.lastore, 1) := by decide +kernel
theorem dL_random_8 : decode cL_random 8 = .ok (.goto 9, 3) := by decide +kernel
theorem dL_random_11 : decode cL_random 11 = .ok (.astore_n 3, 1) := by decide +kernel
theorem dL_random_12 : decode cL_random 12 = .ok (.iconst 1, 1) := by decide +kernel
theorem dL_random_13 : decode cL_random 13 = .ok (.ireturn, 1) := by decide +kernel
theorem dL_random_14 : decode cL_random 14 = .ok (.astore_n 3, 1) := by decide +kernel
theorem dL_random_15 : decode cL_random 15 = .ok (.iconst 2, 1) := by decide +kernel
theorem dL_random_16 : decode cL_random 16 = .ok (.ireturn, 1) := by decide +kernel
theorem dL_random_17 : decode cL_random 17 = .ok (.iconst 0, 1) := by decide +kernel
theorem dL_random_18 : decode cL_random 18 = .ok (.ireturn, 1) := by decide +kernel
theorem dL_about_0 : decode cL_about 0 = .ok (.aload_n 2, 1) := by decide +kernel
theorem dL_about_1 : decode cL_about 1 = .ok (.iconst 0, 1) := by decide +kernel
theorem dL_about_2 : decode cL_about 2 = .ok (.aload_n 0, 1) := by decide +kernel
theorem dL_about_3 : decode cL_about 3 = .ok (.iload_n 1, 1) := by decide +kernel
theorem dL_about_4 : decode cL_about 4 = .ok (.invokevirtual 76, 3) := by decide +kernel
theorem dL_about_7 : decode cL_about 7 = .ok (.i2l, 1) := by decide +kernel
theorem dL_about_8 : decode cL_about 8 = .ok (.lastore, 1) := by decide +kernel
theorem dL_about_9 : decode cL_about 9 = .ok (.goto 6, 3) := by decide +kernel
theorem dL_about_12 : decode cL_about 12 = .ok (.astore_n 3, 1) := by decide +kernel
theorem dL_about_13 : decode cL_about 13 = .ok (.iconst 1, 1) := by decide +kernel
theorem dL_about_14 : decode cL_about 14 = .ok (.ireturn, 1) := by decide +kernel
theorem dL_about_15 : decode cL_about 15 = .ok (.iconst 0, 1) := by decide +kernel
theorem dL_about_16 : decode cL_about 16 = .ok (.ireturn, 1) := by decide +kernel
theorem dL_law_0 : decode cL_law 0 = .ok (.new 8, 3) := by decide +kernel
theorem dL_law_3 : decode cL_law 3 = .ok (.dup, 1) := by decide +kernel
theorem dL_law_4 : decode cL_law 4 = .ok (.invokespecial 79, 3) := by decide +kernel
theorem dL_law_7 : decode cL_law 7 = .ok (.astore_n 1, 1) := by decide +kernel
theorem dL_law_8 : decode cL_law 8 = .ok (.new 80, 3) := by decide +kernel
theorem dL_law_11 : decode cL_law 11 = .ok (.dup, 1) := by decide +kernel
theorem dL_law_12 : decode cL_law 12 = .ok (.invokespecial 82, 3) := by decide +kernel
theorem dL_law_15 : decode cL_law 15 = .ok (.astore_n 2, 1) := by decide +kernel
theorem dL_law_16 : decode cL_law 16 = .ok (.iconst 1, 1) := by decide +kernel
theorem dL_law_17 : decode cL_law 17 = .ok (.newarray .long, 2) := by decide +kernel
theorem dL_law_19 : decode cL_law 19 = .ok (.astore_n 3, 1) := by decide +kernel
theorem dL_law_20 : decode cL_law 20 = .ok (.iconst 0, 1) := by decide +kernel
theorem dL_law_21 : decode cL_law 21 = .ok (.istore 4, 2) := by decide +kernel
theorem dL_law_23 : decode cL_law 23 = .ok (.iload 4, 2) := by decide +kernel
theorem dL_law_25 : decode cL_law 25 = .ok (.aload_n 0, 1) := by decide +kernel
theorem dL_law_26 : decode cL_law 26 = .ok (.arraylength, 1) := by decide +kernel
theorem dL_law_27 : decode cL_law 27 = .ok (.bipush 6, 2) := by decide +kernel
theorem dL_law_29 : decode cL_law 29 = .ok (.isub, 1) := by decide +kernel
theorem dL_law_30 : decode cL_law 30 = .ok (.if_icmp .gt 1323, 3) := by decide +kernel
theorem dL_law_33 : decode cL_law 33 = .ok (.aload_n 0, 1) := by decide +kernel
theorem dL_law_34 : decode cL_law 34 = .ok (.iload 4, 2) := by decide +kernel
theorem dL_law_36 : decode cL_law 36 = .ok (.iaload, 1) := by decide +kernel
theorem dL_law_37 : decode cL_law 37 = .ok (.bipush 31, 2) := by decide +kernel
theorem dL_law_39 : decode cL_law 39 = .ok (.iand, 1) := by decide +kernel
theorem dL_law_40 : decode cL_law 40 = .ok (.tableswitch 1307 0 17 #[88, 136, 216, 296, 364, 432, 519, 563, 650, 738, 806, 862, 930, 1041, 1097, 1141, 1196, 1251], 88) := by decide +kernel
theorem dL_law_128 : decode cL_law 128 = .ok (.aload_n 1, 1) := by decide +kernel
theorem dL_law_129 : decode cL_law 129 = .ok (.aload_n 0, 1) := by decide +kernel
theorem dL_law_130 : decode cL_law 130 = .ok (.iload 4, 2) := by decide +kernel
theorem dL_law_132 : decode cL_law 132 = .ok (.iconst 1, 1) := by decide +kernel
theorem dL_law_133 : decode cL_law 133 = .ok (.iadd, 1) := by decide +kernel
theorem dL_law_134 : decode cL_law 134 = .ok (.iaload, 1) := by decide +kernel
theorem dL_law_135 : decode cL_law 135 = .ok (.aload_n 0, 1) := by decide +kernel
theorem dL_law_136 : decode cL_law 136 = .ok (.iload 4, 2) := by decide +kernel
theorem dL_law_138 : decode cL_law 138 = .ok (.iconst 2, 1) := by decide +kernel
theorem dL_law_139 : decode cL_law 139 = .ok (.iadd, 1) := by decide +kernel
theorem dL_law_140 : decode cL_law 140 = .ok (.iaload, 1) := by decide +kernel
theorem dL_law_141 : decode cL_law 141 = .ok (.invokestatic 83, 3) := by decide +kernel
theorem dL_law_144 : decode cL_law 144 = .ok (.istore 5, 2) := by decide +kernel
theorem dL_law_146 : decode cL_law 146 = .ok (.aload_n 2, 1) := by decide +kernel
theorem dL_law_147 : decode cL_law 147 = .ok (.aload_n 0, 1) := by decide +kernel
theorem dL_law_148 : decode cL_law 148 = .ok (.iload 4, 2) := by decide +kernel
theorem dL_law_150 : decode cL_law 150 = .ok (.iconst 1, 1) := by decide +kernel
theorem dL_law_151 : decode cL_law 151 = .ok (.iadd, 1) := by decide +kernel
theorem dL_law_152 : decode cL_law 152 = .ok (.iaload, 1) := by decide +kernel
theorem dL_law_153 : decode cL_law 153 = .ok (.aload_n 0, 1) := by decide +kernel
theorem dL_law_154 : decode cL_law 154 = .ok (.iload 4, 2) := by decide +kernel
theorem dL_law_156 : decode cL_law 156 = .ok (.iconst 2, 1) := by decide +kernel
theorem dL_law_157 : decode cL_law 157 = .ok (.iadd, 1) := by decide +kernel
theorem dL_law_158 : decode cL_law 158 = .ok (.iaload, 1) := by decide +kernel
theorem dL_law_159 : decode cL_law 159 = .ok (.invokevirtual 88, 3) := by decide +kernel
theorem dL_law_162 : decode cL_law 162 = .ok (.aload_n 2, 1) := by decide +kernel
theorem dL_law_163 : decode cL_law 163 = .ok (.invokevirtual 89, 3) := by decide +kernel
theorem dL_law_166 : decode cL_law 166 = .ok (.iload 5, 2) := by decide +kernel
theorem dL_law_168 : decode cL_law 168 = .ok (.if_icmp .eq 5, 3) := by decide +kernel
theorem dL_law_171 : decode cL_law 171 = .ok (.iconst 0, 1) := by decide +kernel
theorem dL_law_172 : decode cL_law 172 = .ok (.ireturn, 1) := by decide +kernel
theorem dL_law_173 : decode cL_law 173 = .ok (.goto 1174, 3) := by decide +kernel
theorem dL_law_176 : decode cL_law 176 = .ok (.aload_n 1, 1) := by decide +kernel
theorem dL_law_177 : decode cL_law 177 = .ok (.aload_n 0, 1) := by decide +kernel
theorem dL_law_178 : decode cL_law 178 = .ok (.iload 4, 2) := by decide +kernel
theorem dL_law_180 : decode cL_law 180 = .ok (.iconst 1, 1) := by decide +kernel
theorem dL_law_181 : decode cL_law 181 = .ok (.iadd, 1) := by decide +kernel
theorem dL_law_182 : decode cL_law 182 = .ok (.iaload, 1) := by decide +kernel
theorem dL_law_183 : decode cL_law 183 = .ok (.aload_n 0, 1) := by decide +kernel
theorem dL_law_184 : decode cL_law 184 = .ok (.iload 4, 2) := by decide +kernel
theorem dL_law_186 : decode cL_law 186 = .ok (.iconst 2, 1) := by decide +kernel
theorem dL_law_187 : decode cL_law 187 = .ok (.iadd, 1) := by decide +kernel
theorem dL_law_188 : decode cL_law 188 = .ok (.iaload, 1) := by decide +kernel
theorem dL_law_189 : decode cL_law 189 = .ok (.i2l, 1) := by decide +kernel
theorem dL_law_190 : decode cL_law 190 = .ok (.bipush 32, 2) := by decide +kernel
theorem dL_law_192 : decode cL_law 192 = .ok (.lshl, 1) := by decide +kernel
theorem dL_law_193 : decode cL_law 193 = .ok (.aload_n 0, 1) := by decide +kernel
theorem dL_law_194 : decode cL_law 194 = .ok (.iload 4, 2) := by decide +kernel
theorem dL_law_196 : decode cL_law 196 = .ok (.iconst 3, 1) := by decide +kernel
theorem dL_law_197 : decode cL_law 197 = .ok (.iadd, 1) := by decide +kernel
theorem dL_law_198 : decode cL_law 198 = .ok (.iaload, 1) := by decide +kernel
theorem dL_law_199 : decode cL_law 199 = .ok (.i2l, 1) := by decide +kernel
theorem dL_law_200 : decode cL_law 200 = .ok (.ldc2_w 92, 3) := by decide +kernel
theorem dL_law_203 : decode cL_law 203 = .ok (.land, 1) := by decide +kernel
theorem dL_law_204 : decode cL_law 204 = .ok (.lor, 1) := by decide +kernel
theorem dL_law_205 : decode cL_law 205 = .ok (.invokestatic 94, 3) := by decide +kernel
theorem dL_law_208 : decode cL_law 208 = .ok (.istore 5, 2) := by decide +kernel
theorem dL_law_210 : decode cL_law 210 = .ok (.aload_n 2, 1) := by decide +kernel
theorem dL_law_211 : decode cL_law 211 = .ok (.aload_n 0, 1) := by decide +kernel
theorem dL_law_212 : decode cL_law 212 = .ok (.iload 4, 2) := by decide +kernel
theorem dL_law_214 : decode cL_law 214 = .ok (.iconst 1, 1) := by decide +kernel
theorem dL_law_215 : decode cL_law 215 = .ok (.iadd, 1) := by decide +kernel
theorem dL_law_216 : decode cL_law 216 = .ok (.iaload, 1) := by decide +kernel
theorem dL_law_217 : decode cL_law 217 = .ok (.aload_n 0, 1) := by decide +kernel
theorem dL_law_218 : decode cL_law 218 = .ok (.iload 4, 2) := by decide +kernel
theorem dL_law_220 : decode cL_law 220 = .ok (.iconst 2, 1) := by decide +kernel
theorem dL_law_221 : decode cL_law 221 = .ok (.iadd, 1) := by decide +kernel
theorem dL_law_222 : decode cL_law 222 = .ok (.iaload, 1) := by decide +kernel
theorem dL_law_223 : decode cL_law 223 = .ok (.i2l, 1) := by decide +kernel
theorem dL_law_224 : decode cL_law 224 = .ok (.bipush 32, 2) := by decide +kernel
theorem dL_law_226 : decode cL_law 226 = .ok (.lshl, 1) := by decide +kernel
theorem dL_law_227 : decode cL_law 227 = .ok (.aload_n 0, 1) := by decide +kernel
theorem dL_law_228 : decode cL_law 228 = .ok (.iload 4, 2) := by decide +kernel
theorem dL_law_230 : decode cL_law 230 = .ok (.iconst 3, 1) := by decide +kernel
theorem dL_law_231 : decode cL_law 231 = .ok (.iadd, 1) := by decide +kernel
theorem dL_law_232 : decode cL_law 232 = .ok (.iaload, 1) := by decide +kernel
theorem dL_law_233 : decode cL_law 233 = .ok (.i2l, 1) := by decide +kernel
theorem dL_law_234 : decode cL_law 234 = .ok (.ldc2_w 92, 3) := by decide +kernel
theorem dL_law_237 : decode cL_law 237 = .ok (.land, 1) := by decide +kernel
theorem dL_law_238 : decode cL_law 238 = .ok (.lor, 1) := by decide +kernel
theorem dL_law_239 : decode cL_law 239 = .ok (.invokevirtual 97, 3) := by decide +kernel
theorem dL_law_242 : decode cL_law 242 = .ok (.aload_n 2, 1) := by decide +kernel
theorem dL_law_243 : decode cL_law 243 = .ok (.invokevirtual 89, 3) := by decide +kernel
theorem dL_law_246 : decode cL_law 246 = .ok (.iload 5, 2) := by decide +kernel
theorem dL_law_248 : decode cL_law 248 = .ok (.if_icmp .eq 5, 3) := by decide +kernel
theorem dL_law_251 : decode cL_law 251 = .ok (.iconst 0, 1) := by decide +kernel
theorem dL_law_252 : decode cL_law 252 = .ok (.ireturn, 1) := by decide +kernel
theorem dL_law_253 : decode cL_law 253 = .ok (.goto 1094, 3) := by decide +kernel
theorem dL_law_256 : decode cL_law 256 = .ok (.aload_n 1, 1) := by decide +kernel
theorem dL_law_257 : decode cL_law 257 = .ok (.aload_n 0, 1) := by decide +kernel
theorem dL_law_258 : decode cL_law 258 = .ok (.iload 4, 2) := by decide +kernel
theorem dL_law_260 : decode cL_law 260 = .ok (.iconst 1, 1) := by decide +kernel
theorem dL_law_261 : decode cL_law 261 = .ok (.iadd, 1) := by decide +kernel
theorem dL_law_262 : decode cL_law 262 = .ok (.iaload, 1) := by decide +kernel
theorem dL_law_263 : decode cL_law 263 = .ok (.aload_n 0, 1) := by decide +kernel
theorem dL_law_264 : decode cL_law 264 = .ok (.iload 4, 2) := by decide +kernel
theorem dL_law_266 : decode cL_law 266 = .ok (.iconst 2, 1) := by decide +kernel
theorem dL_law_267 : decode cL_law 267 = .ok (.iadd, 1) := by decide +kernel
theorem dL_law_268 : decode cL_law 268 = .ok (.iaload, 1) := by decide +kernel
theorem dL_law_269 : decode cL_law 269 = .ok (.aload_n 0, 1) := by decide +kernel
theorem dL_law_270 : decode cL_law 270 = .ok (.iload 4, 2) := by decide +kernel
theorem dL_law_272 : decode cL_law 272 = .ok (.iconst 3, 1) := by decide +kernel
theorem dL_law_273 : decode cL_law 273 = .ok (.iadd, 1) := by decide +kernel
theorem dL_law_274 : decode cL_law 274 = .ok (.iaload, 1) := by decide +kernel
theorem dL_law_275 : decode cL_law 275 = .ok (.aload_n 3, 1) := by decide +kernel
theorem dL_law_276 : decode cL_law 276 = .ok (.invokestatic 98, 3) := by decide +kernel
theorem dL_law_279 : decode cL_law 279 = .ok (.istore 5, 2) := by decide +kernel
theorem dL_law_281 : decode cL_law 281 = .ok (.aload_n 2, 1) := by decide +kernel
theorem dL_law_282 : decode cL_law 282 = .ok (.aload_n 0, 1) := by decide +kernel
theorem dL_law_283 : decode cL_law 283 = .ok (.iload 4, 2) := by decide +kernel
theorem dL_law_285 : decode cL_law 285 = .ok (.iconst 1, 1) := by decide +kernel
theorem dL_law_286 : decode cL_law 286 = .ok (.iadd, 1) := by decide +kernel
theorem dL_law_287 : decode cL_law 287 = .ok (.iaload, 1) := by decide +kernel
theorem dL_law_288 : decode cL_law 288 = .ok (.aload_n 0, 1) := by decide +kernel
theorem dL_law_289 : decode cL_law 289 = .ok (.iload 4, 2) := by decide +kernel
theorem dL_law_291 : decode cL_law 291 = .ok (.iconst 2, 1) := by decide +kernel
theorem dL_law_292 : decode cL_law 292 = .ok (.iadd, 1) := by decide +kernel
theorem dL_law_293 : decode cL_law 293 = .ok (.iaload, 1) := by decide +kernel
theorem dL_law_294 : decode cL_law 294 = .ok (.aload_n 0, 1) := by decide +kernel
theorem dL_law_295 : decode cL_law 295 = .ok (.iload 4, 2) := by decide +kernel
theorem dL_law_297 : decode cL_law 297 = .ok (.iconst 3, 1) := by decide +kernel
theorem dL_law_298 : decode cL_law 298 = .ok (.iadd, 1) := by decide +kernel
theorem dL_law_299 : decode cL_law 299 = .ok (.iaload, 1) := by decide +kernel
theorem dL_law_300 : decode cL_law 300 = .ok (.invokevirtual 101, 3) := by decide +kernel
theorem dL_law_303 : decode cL_law 303 = .ok (.istore 6, 2) := by decide +kernel
theorem dL_law_305 : decode cL_law 305 = .ok (.aload_n 2, 1) := by decide +kernel
theorem dL_law_306 : decode cL_law 306 = .ok (.invokevirtual 89, 3) := by decide +kernel
theorem dL_law_309 : decode cL_law 309 = .ok (.iload 5, 2) := by decide +kernel
theorem dL_law_311 : decode cL_law 311 = .ok (.if_icmp .eq 5, 3) := by decide +kernel
theorem dL_law_314 : decode cL_law 314 = .ok (.iconst 0, 1) := by decide +kernel
theorem dL_law_315 : decode cL_law 315 = .ok (.ireturn, 1) := by decide +kernel
theorem dL_law_316 : decode cL_law 316 = .ok (.iload 5, 2) := by decide +kernel
theorem dL_law_318 : decode cL_law 318 = .ok (.ifCond .ne 15, 3) := by decide +kernel
theorem dL_law_321 : decode cL_law 321 = .ok (.aload_n 3, 1) := by decide +kernel
theorem dL_law_322 : decode cL_law 322 = .ok (.iconst 0, 1) := by decide +kernel
theorem dL_law_323 : decode cL_law 323 = .ok (.laload, 1) := by decide +kernel
theorem dL_law_324 : decode cL_law 324 = .ok (.iload 6, 2) := by decide +kernel
theorem dL_law_326 : decode cL_law 326 = .ok (.i2l, 1) := by decide +kernel
theorem dL_law_327 : decode cL_law 327 = .ok (.lcmp, 1) := by decide +kernel
theorem dL_law_328 : decode cL_law 328 = .ok (.ifCond .eq 5, 3) := by decide +kernel
theorem dL_law_331 : decode cL_law 331 = .ok (.iconst 0, 1) := by decide +kernel
theorem dL_law_332 : decode cL_law 332 = .ok (.ireturn, 1) := by decide +kernel
theorem dL_law_333 : decode cL_law 333 = .ok (.goto 1014, 3) := by decide +kernel
theorem dL_law_336 : decode cL_law 336 = .ok (.aload_n 1, 1) := by decide +kernel
theorem dL_law_337 : decode cL_law 337 = .ok (.aload_n 0, 1) := by decide +kernel
theorem dL_law_338 : decode cL_law 338 = .ok (.iload 4, 2) := by decide +kernel
theorem dL_law_340 : decode cL_law 340 = .ok (.iconst 1, 1) := by decide +kernel
theorem dL_law_341 : decode cL_law 341 = .ok (.iadd, 1) := by decide +kernel
theorem dL_law_342 : decode cL_law 342 = .ok (.iaload, 1) := by decide +kernel
theorem dL_law_343 : decode cL_law 343 = .ok (.aload_n 0, 1) := by decide +kernel
theorem dL_law_344 : decode cL_law 344 = .ok (.iload 4, 2) := by decide +kernel
theorem dL_law_346 : decode cL_law 346 = .ok (.iconst 2, 1) := by decide +kernel
theorem dL_law_347 : decode cL_law 347 = .ok (.iadd, 1) := by decide +kernel
theorem dL_law_348 : decode cL_law 348 = .ok (.iaload, 1) := by decide +kernel
theorem dL_law_349 : decode cL_law 349 = .ok (.aload_n 3, 1) := by decide +kernel
theorem dL_law_350 : decode cL_law 350 = .ok (.invokestatic 102, 3) := by decide +kernel
theorem dL_law_353 : decode cL_law 353 = .ok (.istore 5, 2) := by decide +kernel
theorem dL_law_355 : decode cL_law 355 = .ok (.aload_n 2, 1) := by decide +kernel
theorem dL_law_356 : decode cL_law 356 = .ok (.aload_n 0, 1) := by decide +kernel
theorem dL_law_357 : decode cL_law 357 = .ok (.iload 4, 2) := by decide +kernel
theorem dL_law_359 : decode cL_law 359 = .ok (.iconst 1, 1) := by decide +kernel
theorem dL_law_360 : decode cL_law 360 = .ok (.iadd, 1) := by decide +kernel
theorem dL_law_361 : decode cL_law 361 = .ok (.iaload, 1) := by decide +kernel
theorem dL_law_362 : decode cL_law 362 = .ok (.aload_n 0, 1) := by decide +kernel
theorem dL_law_363 : decode cL_law 363 = .ok (.iload 4, 2) := by decide +kernel
theorem dL_law_365 : decode cL_law 365 = .ok (.iconst 2, 1) := by decide +kernel
theorem dL_law_366 : decode cL_law 366 = .ok (.iadd, 1) := by decide +kernel
theorem dL_law_367 : decode cL_law 367 = .ok (.iaload, 1) := by decide +kernel
theorem dL_law_368 : decode cL_law 368 = .ok (.invokevirtual 105, 3) := by decide +kernel
theorem dL_law_371 : decode cL_law 371 = .ok (.istore 6, 2) := by decide +kernel
theorem dL_law_373 : decode cL_law 373 = .ok (.aload_n 2, 1) := by decide +kernel
theorem dL_law_374 : decode cL_law 374 = .ok (.invokevirtual 89, 3) := by decide +kernel
theorem dL_law_377 : decode cL_law 377 = .ok (.iload 5, 2) := by decide +kernel
theorem dL_law_379 : decode cL_law 379 = .ok (.if_icmp .eq 5, 3) := by decide +kernel
theorem dL_law_382 : decode cL_law 382 = .ok (.iconst 0, 1) := by decide +kernel
theorem dL_law_383 : decode cL_law 383 = .ok (.ireturn, 1) := by decide +kernel
theorem dL_law_384 : decode cL_law 384 = .ok (.iload 5, 2) := by decide +kernel
theorem dL_law_386 : decode cL_law 386 = .ok (.ifCond .ne 15, 3) := by decide +kernel
theorem dL_law_389 : decode cL_law 389 = .ok (.aload_n 3, 1) := by decide +kernel
theorem dL_law_390 : decode cL_law 390 = .ok (.iconst 0, 1) := by decide +kernel
theorem dL_law_391 : decode cL_law 391 = .ok (.laload, 1) := by decide +kernel
theorem dL_law_392 : decode cL_law 392 = .ok (.iload 6, 2) := by decide +kernel
theorem dL_law_394 : decode cL_law 394 = .ok (.i2l, 1) := by decide +kernel
theorem dL_law_395 : decode cL_law 395 = .ok (.lcmp, 1) := by decide +kernel
theorem dL_law_396 : decode cL_law 396 = .ok (.ifCond .eq 5, 3) := by decide +kernel
theorem dL_law_399 : decode cL_law 399 = .ok (.iconst 0, 1) := by decide +kernel
