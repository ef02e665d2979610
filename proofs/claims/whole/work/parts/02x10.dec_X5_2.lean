theorem dX5_round_86 : decode cX5_round 86 = .ok (.goto 16, 3) := by decide +kernel
theorem dX5_round_89 : decode cX5_round 89 = .ok (.iload_n 1, 1) := by decide +kernel
theorem dX5_round_90 : decode cX5_round 90 = .ok (.iconst 2, 1) := by decide +kernel
theorem dX5_round_91 : decode cX5_round 91 = .ok (.if_icmp .ne 7, 3) := by decide +kernel
theorem dX5_round_94 : decode cX5_round 94 = .ok (.iload_n 2, 1) := by decide +kernel
theorem dX5_round_95 : decode cX5_round 95 = .ok (.goto 7, 3) := by decide +kernel
theorem dX5_round_98 : decode cX5_round 98 = .ok (.aload_n 0, 1) := by decide +kernel
theorem dX5_round_99 : decode cX5_round 99 = .ok (.getfield 81, 3) := by decide +kernel
theorem dX5_round_102 : decode cX5_round 102 = .ok (.ireturn, 1) := by decide +kernel
theorem dX5_challenge_0 : decode cX5_challenge 0 = .ok (.aload_n 0, 1) := by decide +kernel
theorem dX5_challenge_1 : decode cX5_challenge 1 = .ok (.lconst 0, 1) := by decide +kernel
theorem dX5_challenge_2 : decode cX5_challenge 2 = .ok (.putfield 45, 3) := by decide +kernel
theorem dX5_challenge_5 : decode cX5_challenge 5 = .ok (.aload_n 0, 1) := by decide +kernel
theorem dX5_challenge_6 : decode cX5_challenge 6 = .ok (.lload_n 1, 1) := by decide +kernel
theorem dX5_challenge_7 : decode cX5_challenge 7 = .ok (.invokevirtual 87, 3) := by decide +kernel
theorem dX5_challenge_10 : decode cX5_challenge 10 = .ok (.aload_n 0, 1) := by decide +kernel
theorem dX5_challenge_11 : decode cX5_challenge 11 = .ok (.lload_n 3, 1) := by decide +kernel
theorem dX5_challenge_12 : decode cX5_challenge 12 = .ok (.invokevirtual 87, 3) := by decide +kernel
theorem dX5_challenge_15 : decode cX5_challenge 15 = .ok (.aload_n 0, 1) := by decide +kernel
theorem dX5_challenge_16 : decode cX5_challenge 16 = .ok (.lload 5, 2) := by decide +kernel
theorem dX5_challenge_18 : decode cX5_challenge 18 = .ok (.invokevirtual 87, 3) := by decide +kernel
theorem dX5_challenge_21 : decode cX5_challenge 21 = .ok (.aload_n 0, 1) := by decide +kernel
theorem dX5_challenge_22 : decode cX5_challenge 22 = .ok (.lload 7, 2) := by decide +kernel
theorem dX5_challenge_24 : decode cX5_challenge 24 = .ok (.invokevirtual 87, 3) := by decide +kernel
theorem dX5_challenge_27 : decode cX5_challenge 27 = .ok (.aload_n 0, 1) := by decide +kernel
theorem dX5_challenge_28 : decode cX5_challenge 28 = .ok (.lload 9, 2) := by decide +kernel
theorem dX5_challenge_30 : decode cX5_challenge 30 = .ok (.invokevirtual 87, 3) := by decide +kernel
theorem dX5_challenge_33 : decode cX5_challenge 33 = .ok (.aload_n 0, 1) := by decide +kernel
theorem dX5_challenge_34 : decode cX5_challenge 34 = .ok (.getfield 45, 3) := by decide +kernel
theorem dX5_challenge_37 : decode cX5_challenge 37 = .ok (.ldc2_w 62, 3) := by decide +kernel
theorem dX5_challenge_40 : decode cX5_challenge 40 = .ok (.invokestatic 55, 3) := by decide +kernel
theorem dX5_challenge_43 : decode cX5_challenge 43 = .ok (.lreturn, 1) := by decide +kernel
theorem dX5_said_0 : decode cX5_said 0 = .ok (.aload_n 0, 1) := by decide +kernel
theorem dX5_said_1 : decode cX5_said 1 = .ok (.invokevirtual 119, 3) := by decide +kernel
theorem dX5_said_4 : decode cX5_said 4 = .ok (.lstore_n 3, 1) := by decide +kernel
theorem dX5_said_5 : decode cX5_said 5 = .ok (.lload_n 3, 1) := by decide +kernel
theorem dX5_said_6 : decode cX5_said 6 = .ok (.aload_n 0, 1) := by decide +kernel
theorem dX5_said_7 : decode cX5_said 7 = .ok (.getfield 29, 3) := by decide +kernel
theorem dX5_said_10 : decode cX5_said 10 = .ok (.iload_n 1, 1) := by decide +kernel
theorem dX5_said_11 : decode cX5_said 11 = .ok (.laload, 1) := by decide +kernel
theorem dX5_said_12 : decode cX5_said 12 = .ok (.ldc2_w 93, 3) := by decide +kernel
theorem dX5_said_15 : decode cX5_said 15 = .ok (.invokestatic 95, 3) := by decide +kernel
theorem dX5_said_18 : decode cX5_said 18 = .ok (.lstore 5, 2) := by decide +kernel
theorem dX5_said_20 : decode cX5_said 20 = .ok (.iload_n 2, 1) := by decide +kernel
theorem dX5_said_21 : decode cX5_said 21 = .ok (.ifCond .ne 6, 3) := by decide +kernel
theorem dX5_said_24 : decode cX5_said 24 = .ok (.lload 5, 2) := by decide +kernel
theorem dX5_said_26 : decode cX5_said 26 = .ok (.lreturn, 1) := by decide +kernel
theorem dX5_said_27 : decode cX5_said 27 = .ok (.aload_n 0, 1) := by decide +kernel
theorem dX5_said_28 : decode cX5_said 28 = .ok (.invokevirtual 113, 3) := by decide +kernel
theorem dX5_said_31 : decode cX5_said 31 = .ok (.lstore 7, 2) := by decide +kernel
theorem dX5_said_33 : decode cX5_said 33 = .ok (.aload_n 0, 1) := by decide +kernel
theorem dX5_said_34 : decode cX5_said 34 = .ok (.lconst 0, 1) := by decide +kernel
theorem dX5_said_35 : decode cX5_said 35 = .ok (.putfield 45, 3) := by decide +kernel
theorem dX5_said_38 : decode cX5_said 38 = .ok (.aload_n 0, 1) := by decide +kernel
theorem dX5_said_39 : decode cX5_said 39 = .ok (.aload_n 0, 1) := by decide +kernel
theorem dX5_said_40 : decode cX5_said 40 = .ok (.getfield 29, 3) := by decide +kernel
theorem dX5_said_43 : decode cX5_said 43 = .ok (.iload_n 1, 1) := by decide +kernel
theorem dX5_said_44 : decode cX5_said 44 = .ok (.laload, 1) := by decide +kernel
theorem dX5_said_45 : decode cX5_said 45 = .ok (.invokevirtual 87, 3) := by decide +kernel
theorem dX5_said_48 : decode cX5_said 48 = .ok (.aload_n 0, 1) := by decide +kernel
theorem dX5_said_49 : decode cX5_said 49 = .ok (.lload 7, 2) := by decide +kernel
theorem dX5_said_51 : decode cX5_said 51 = .ok (.invokevirtual 87, 3) := by decide +kernel
theorem dX5_said_54 : decode cX5_said 54 = .ok (.aload_n 0, 1) := by decide +kernel
theorem dX5_said_55 : decode cX5_said 55 = .ok (.getfield 45, 3) := by decide +kernel
theorem dX5_said_58 : decode cX5_said 58 = .ok (.ldc2_w 62, 3) := by decide +kernel
theorem dX5_said_61 : decode cX5_said 61 = .ok (.invokestatic 55, 3) := by decide +kernel
theorem dX5_said_64 : decode cX5_said 64 = .ok (.lstore 9, 2) := by decide +kernel
theorem dX5_said_66 : decode cX5_said 66 = .ok (.aload_n 0, 1) := by decide +kernel
theorem dX5_said_67 : decode cX5_said 67 = .ok (.lload_n 3, 1) := by decide +kernel
theorem dX5_said_68 : decode cX5_said 68 = .ok (.aload_n 0, 1) := by decide +kernel
theorem dX5_said_69 : decode cX5_said 69 = .ok (.getfield 32, 3) := by decide +kernel
theorem dX5_said_72 : decode cX5_said 72 = .ok (.iload_n 1, 1) := by decide +kernel
theorem dX5_said_73 : decode cX5_said 73 = .ok (.laload, 1) := by decide +kernel
theorem dX5_said_74 : decode cX5_said 74 = .ok (.lload 5, 2) := by decide +kernel
theorem dX5_said_76 : decode cX5_said 76 = .ok (.ldc2_w 91, 3) := by decide +kernel
theorem dX5_said_79 : decode cX5_said 79 = .ok (.lload 9, 2) := by decide +kernel
theorem dX5_said_81 : decode cX5_said 81 = .ok (.ldc2_w 93, 3) := by decide +kernel
theorem dX5_said_84 : decode cX5_said 84 = .ok (.invokestatic 95, 3) := by decide +kernel
theorem dX5_said_87 : decode cX5_said 87 = .ok (.lload_n 3, 1) := by decide +kernel
theorem dX5_said_88 : decode cX5_said 88 = .ok (.lload 9, 2) := by decide +kernel
theorem dX5_said_90 : decode cX5_said 90 = .ok (.ldc2_w 93, 3) := by decide +kernel
theorem dX5_said_93 : decode cX5_said 93 = .ok (.invokestatic 95, 3) := by decide +kernel
theorem dX5_said_96 : decode cX5_said 96 = .ok (.invokevirtual 122, 3) := by decide +kernel
theorem dX5_said_99 : decode cX5_said 99 = .ok (.lstore 11, 2) := by decide +kernel
theorem dX5_said_101 : decode cX5_said 101 = .ok (.iload_n 2, 1) := by decide +kernel
theorem dX5_said_102 : decode cX5_said 102 = .ok (.iconst 1, 1) := by decide +kernel
theorem dX5_said_103 : decode cX5_said 103 = .ok (.if_icmp .ne 8, 3) := by decide +kernel
theorem dX5_said_106 : decode cX5_said 106 = .ok (.lload 11, 2) := by decide +kernel
theorem dX5_said_108 : decode cX5_said 108 = .ok (.goto 19, 3) := by decide +kernel
theorem dX5_said_111 : decode cX5_said 111 = .ok (.lload 9, 2) := by decide +kernel
theorem dX5_said_113 : decode cX5_said 113 = .ok (.lload 11, 2) := by decide +kernel
theorem dX5_said_115 : decode cX5_said 115 = .ok (.aload_n 0, 1) := by decide +kernel
theorem dX5_said_116 : decode cX5_said 116 = .ok (.getfield 29, 3) := by decide +kernel
theorem dX5_said_119 : decode cX5_said 119 = .ok (.iload_n 1, 1) := by decide +kernel
theorem dX5_said_120 : decode cX5_said 120 = .ok (.laload, 1) := by decide +kernel
theorem dX5_said_121 : decode cX5_said 121 = .ok (.lmul, 1) := by decide +kernel
theorem dX5_said_122 : decode cX5_said 122 = .ok (.ladd, 1) := by decide +kernel
theorem dX5_said_123 : decode cX5_said 123 = .ok (.ldc2_w 62, 3) := by decide +kernel
theorem dX5_said_126 : decode cX5_said 126 = .ok (.lrem, 1) := by decide +kernel
theorem dX5_said_127 : decode cX5_said 127 = .ok (.lreturn, 1) := by decide +kernel
theorem dX5_says_0 : decode cX5_says 0 = .ok (.aload_n 0, 1) := by decide +kernel
theorem dX5_says_1 : decode cX5_says 1 = .ok (.aload_n 0, 1) := by decide +kernel
theorem dX5_says_2 : decode cX5_says 2 = .ok (.getfield 71, 3) := by decide +kernel
theorem dX5_says_5 : decode cX5_says 5 = .ok (.ifCond .ne 7, 3) := by decide +kernel
theorem dX5_says_8 : decode cX5_says 8 = .ok (.iconst 1, 1) := by decide +kernel
theorem dX5_says_9 : decode cX5_says 9 = .ok (.goto 25, 3) := by decide +kernel
theorem dX5_says_12 : decode cX5_says 12 = .ok (.aload_n 0, 1) := by decide +kernel
theorem dX5_says_13 : decode cX5_says 13 = .ok (.iload_n 1, 1) := by decide +kernel
theorem dX5_says_14 : decode cX5_says 14 = .ok (.invokevirtual 84, 3) := by decide +kernel
theorem dX5_says_17 : decode cX5_says 17 = .ok (.ifCond .eq 12, 3) := by decide +kernel
theorem dX5_says_20 : decode cX5_says 20 = .ok (.iload_n 2, 1) := by decide +kernel
theorem dX5_says_21 : decode cX5_says 21 = .ok (.ifCond .lt 8, 3) := by decide +kernel
theorem dX5_says_24 : decode cX5_says 24 = .ok (.iload_n 2, 1) := by decide +kernel
theorem dX5_says_25 : decode cX5_says 25 = .ok (.iconst 2, 1) := by decide +kernel
theorem dX5_says_26 : decode cX5_says 26 = .ok (.if_icmp .le 7, 3) := by decide +kernel
theorem dX5_says_29 : decode cX5_says 29 = .ok (.iconst 2, 1) := by decide +kernel
theorem dX5_says_30 : decode cX5_says 30 = .ok (.goto 4, 3) := by decide +kernel
theorem dX5_says_33 : decode cX5_says 33 = .ok (.iconst 0, 1) := by decide +kernel
theorem dX5_says_34 : decode cX5_says 34 = .ok (.invokevirtual 64, 3) := by decide +kernel
theorem dX5_says_37 : decode cX5_says 37 = .ok (.ifCond .eq 5, 3) := by decide +kernel
theorem dX5_says_40 : decode cX5_says 40 = .ok (.iconst 0, 1) := by decide +kernel
theorem dX5_says_41 : decode cX5_says 41 = .ok (.ireturn, 1) := by decide +kernel
theorem dX5_says_42 : decode cX5_says 42 = .ok (.aload_n 0, 1) := by decide +kernel
theorem dX5_says_43 : decode cX5_says 43 = .ok (.iload_n 1, 1) := by decide +kernel
theorem dX5_says_44 : decode cX5_says 44 = .ok (.iload_n 2, 1) := by decide +kernel
theorem dX5_says_45 : decode cX5_says 45 = .ok (.invokevirtual 126, 3) := by decide +kernel
theorem dX5_says_48 : decode cX5_says 48 = .ok (.l2i, 1) := by decide +kernel
theorem dX5_says_49 : decode cX5_says 49 = .ok (.ireturn, 1) := by decide +kernel
theorem dX5_quotient_0 : decode cX5_quotient 0 = .ok (.lload_n 0, 1) := by decide +kernel
theorem dX5_quotient_1 : decode cX5_quotient 1 = .ok (.lload_n 2, 1) := by decide +kernel
theorem dX5_quotient_2 : decode cX5_quotient 2 = .ok (.ldc2_w 93, 3) := by decide +kernel
theorem dX5_quotient_5 : decode cX5_quotient 5 = .ok (.invokestatic 95, 3) := by decide +kernel
theorem dX5_quotient_8 : decode cX5_quotient 8 = .ok (.lload 4, 2) := by decide +kernel
theorem dX5_quotient_10 : decode cX5_quotient 10 = .ok (.ldc2_w 117, 3) := by decide +kernel
theorem dX5_quotient_13 : decode cX5_quotient 13 = .ok (.lload 6, 2) := by decide +kernel
theorem dX5_quotient_15 : decode cX5_quotient 15 = .ok (.lsub, 1) := by decide +kernel
theorem dX5_quotient_16 : decode cX5_quotient 16 = .ok (.ldc2_w 93, 3) := by decide +kernel
theorem dX5_quotient_19 : decode cX5_quotient 19 = .ok (.invokestatic 95, 3) := by decide +kernel
theorem dX5_quotient_22 : decode cX5_quotient 22 = .ok (.lmul, 1) := by decide +kernel
theorem dX5_quotient_23 : decode cX5_quotient 23 = .ok (.ldc2_w 93, 3) := by decide +kernel
theorem dX5_quotient_26 : decode cX5_quotient 26 = .ok (.lrem, 1) := by decide +kernel
theorem dX5_quotient_27 : decode cX5_quotient 27 = .ok (.lreturn, 1) := by decide +kernel
theorem dX5_holds_0 : decode cX5_holds 0 = .ok (.lload_n 2, 1) := by decide +kernel
theorem dX5_holds_1 : decode cX5_holds 1 = .ok (.lconst 1, 1) := by decide +kernel
theorem dX5_holds_2 : decode cX5_holds 2 = .ok (.lcmp, 1) := by decide +kernel
theorem dX5_holds_3 : decode cX5_holds 3 = .ok (.ifCond .lt 58, 3) := by decide +kernel
theorem dX5_holds_6 : decode cX5_holds 6 = .ok (.lload_n 2, 1) := by decide +kernel
theorem dX5_holds_7 : decode cX5_holds 7 = .ok (.ldc2_w 93, 3) := by decide +kernel
theorem dX5_holds_10 : decode cX5_holds 10 = .ok (.lcmp, 1) := by decide +kernel
theorem dX5_holds_11 : decode cX5_holds 11 = .ok (.ifCond .ge 50, 3) := by decide +kernel
theorem dX5_holds_14 : decode cX5_holds 14 = .ok (.lload_n 2, 1) := by decide +kernel
theorem dX5_holds_15 : decode cX5_holds 15 = .ok (.ldc2_w 62, 3) := by decide +kernel
theorem dX5_holds_18 : decode cX5_holds 18 = .ok (.ldc2_w 93, 3) := by decide +kernel
theorem dX5_holds_21 : decode cX5_holds 21 = .ok (.invokestatic 95, 3) := by decide +kernel
theorem dX5_holds_24 : decode cX5_holds 24 = .ok (.lconst 1, 1) := by decide +kernel
theorem dX5_holds_25 : decode cX5_holds 25 = .ok (.lcmp, 1) := by decide +kernel
theorem dX5_holds_26 : decode cX5_holds 26 = .ok (.ifCond .ne 35, 3) := by decide +kernel
theorem dX5_holds_29 : decode cX5_holds 29 = .ok (.lload 4, 2) := by decide +kernel
theorem dX5_holds_31 : decode cX5_holds 31 = .ok (.lconst 0, 1) := by decide +kernel
theorem dX5_holds_32 : decode cX5_holds 32 = .ok (.lcmp, 1) := by decide +kernel
theorem dX5_holds_33 : decode cX5_holds 33 = .ok (.ifCond .lt 28, 3) := by decide +kernel
theorem dX5_holds_36 : decode cX5_holds 36 = .ok (.lload 4, 2) := by decide +kernel
theorem dX5_holds_38 : decode cX5_holds 38 = .ok (.ldc2_w 62, 3) := by decide +kernel
theorem dX5_holds_41 : decode cX5_holds 41 = .ok (.lcmp, 1) := by decide +kernel
theorem dX5_holds_42 : decode cX5_holds 42 = .ok (.ifCond .ge 19, 3) := by decide +kernel
theorem dX5_holds_45 : decode cX5_holds 45 = .ok (.lload 6, 2) := by decide +kernel
theorem dX5_holds_47 : decode cX5_holds 47 = .ok (.lconst 0, 1) := by decide +kernel
theorem dX5_holds_48 : decode cX5_holds 48 = .ok (.lcmp, 1) := by decide +kernel
theorem dX5_holds_49 : decode cX5_holds 49 = .ok (.ifCond .lt 12, 3) := by decide +kernel
theorem dX5_holds_52 : decode cX5_holds 52 = .ok (.lload 6, 2) := by decide +kernel
theorem dX5_holds_54 : decode cX5_holds 54 = .ok (.ldc2_w 62, 3) := by decide +kernel
theorem dX5_holds_57 : decode cX5_holds 57 = .ok (.lcmp, 1) := by decide +kernel
theorem dX5_holds_58 : decode cX5_holds 58 = .ok (.ifCond .lt 5, 3) := by decide +kernel
theorem dX5_holds_61 : decode cX5_holds 61 = .ok (.iconst 0, 1) := by decide +kernel
theorem dX5_holds_62 : decode cX5_holds 62 = .ok (.ireturn, 1) := by decide +kernel
theorem dX5_holds_63 : decode cX5_holds 63 = .ok (.aload_n 0, 1) := by decide +kernel
theorem dX5_holds_64 : decode cX5_holds 64 = .ok (.invokevirtual 119, 3) := by decide +kernel
theorem dX5_holds_67 : decode cX5_holds 67 = .ok (.lstore 8, 2) := by decide +kernel
theorem dX5_holds_69 : decode cX5_holds 69 = .ok (.lload 4, 2) := by decide +kernel
theorem dX5_holds_71 : decode cX5_holds 71 = .ok (.aload_n 0, 1) := by decide +kernel
theorem dX5_holds_72 : decode cX5_holds 72 = .ok (.lload 8, 2) := by decide +kernel
theorem dX5_holds_74 : decode cX5_holds 74 = .ok (.aload_n 0, 1) := by decide +kernel
theorem dX5_holds_75 : decode cX5_holds 75 = .ok (.getfield 32, 3) := by decide +kernel
theorem dX5_holds_78 : decode cX5_holds 78 = .ok (.iload_n 1, 1) := by decide +kernel
theorem dX5_holds_79 : decode cX5_holds 79 = .ok (.laload, 1) := by decide +kernel
theorem dX5_holds_80 : decode cX5_holds 80 = .ok (.lload_n 2, 1) := by decide +kernel
theorem dX5_holds_81 : decode cX5_holds 81 = .ok (.ldc2_w 91, 3) := by decide +kernel
theorem dX5_holds_84 : decode cX5_holds 84 = .ok (.lload 6, 2) := by decide +kernel
theorem dX5_holds_86 : decode cX5_holds 86 = .ok (.aload_n 0, 1) := by decide +kernel
theorem dX5_holds_87 : decode cX5_holds 87 = .ok (.getfield 32, 3) := by decide +kernel
theorem dX5_holds_90 : decode cX5_holds 90 = .ok (.iload_n 1, 1) := by decide +kernel
theorem dX5_holds_91 : decode cX5_holds 91 = .ok (.laload, 1) := by decide +kernel
theorem dX5_holds_92 : decode cX5_holds 92 = .ok (.lload 4, 2) := by decide +kernel
theorem dX5_holds_94 : decode cX5_holds 94 = .ok (.invokestatic 129, 3) := by decide +kernel
theorem dX5_holds_97 : decode cX5_holds 97 = .ok (.lload 8, 2) := by decide +kernel
theorem dX5_holds_99 : decode cX5_holds 99 = .ok (.lload 6, 2) := by decide +kernel
theorem dX5_holds_101 : decode cX5_holds 101 = .ok (.lload_n 2, 1) := by decide +kernel
theorem dX5_holds_102 : decode cX5_holds 102 = .ok (.lload 4, 2) := by decide +kernel
theorem dX5_holds_104 : decode cX5_holds 104 = .ok (.invokestatic 129, 3) := by decide +kernel
theorem dX5_holds_107 : decode cX5_holds 107 = .ok (.invokevirtual 122, 3) := by decide +kernel
theorem dX5_holds_110 : decode cX5_holds 110 = .ok (.lcmp, 1) := by decide +kernel
theorem dX5_holds_111 : decode cX5_holds 111 = .ok (.ifCond .ne 7, 3) := by decide +kernel
theorem dX5_holds_114 : decode cX5_holds 114 = .ok (.iconst 1, 1) := by decide +kernel
theorem dX5_holds_115 : decode cX5_holds 115 = .ok (.goto 4, 3) := by decide +kernel
theorem dX5_holds_118 : decode cX5_holds 118 = .ok (.iconst 0, 1) := by decide +kernel
theorem dX5_holds_119 : decode cX5_holds 119 = .ok (.ireturn, 1) := by decide +kernel
theorem dX5_offer_0 : decode cX5_offer 0 = .ok (.aload_n 0, 1) := by decide +kernel
theorem dX5_offer_1 : decode cX5_offer 1 = .ok (.aload_n 0, 1) := by decide +kernel
theorem dX5_offer_2 : decode cX5_offer 2 = .ok (.getfield 71, 3) := by decide +kernel
theorem dX5_offer_5 : decode cX5_offer 5 = .ok (.ifCond .ne 7, 3) := by decide +kernel
theorem dX5_offer_8 : decode cX5_offer 8 = .ok (.iconst 1, 1) := by decide +kernel
theorem dX5_offer_9 : decode cX5_offer 9 = .ok (.goto 24, 3) := by decide +kernel
theorem dX5_offer_12 : decode cX5_offer 12 = .ok (.aload_n 0, 1) := by decide +kernel
theorem dX5_offer_13 : decode cX5_offer 13 = .ok (.iload_n 1, 1) := by decide +kernel
theorem dX5_offer_14 : decode cX5_offer 14 = .ok (.invokevirtual 84, 3) := by decide +kernel
theorem dX5_offer_17 : decode cX5_offer 17 = .ok (.ifCond .eq 11, 3) := by decide +kernel
theorem dX5_offer_20 : decode cX5_offer 20 = .ok (.aload_n 0, 1) := by decide +kernel
theorem dX5_offer_21 : decode cX5_offer 21 = .ok (.iload_n 2, 1) := by decide +kernel
theorem dX5_offer_22 : decode cX5_offer 22 = .ok (.invokevirtual 84, 3) := by decide +kernel
theorem dX5_offer_25 : decode cX5_offer 25 = .ok (.ifCond .ne 7, 3) := by decide +kernel
theorem dX5_offer_28 : decode cX5_offer 28 = .ok (.iconst 2, 1) := by decide +kernel
theorem dX5_offer_29 : decode cX5_offer 29 = .ok (.goto 4, 3) := by decide +kernel
theorem dX5_offer_32 : decode cX5_offer 32 = .ok (.iconst 0, 1) := by decide +kernel
theorem dX5_offer_33 : decode cX5_offer 33 = .ok (.invokevirtual 64, 3) := by decide +kernel
theorem dX5_offer_36 : decode cX5_offer 36 = .ok (.ifCond .eq 5, 3) := by decide +kernel
theorem dX5_offer_39 : decode cX5_offer 39 = .ok (.iconst 0, 1) := by decide +kernel
theorem dX5_offer_40 : decode cX5_offer 40 = .ok (.ireturn, 1) := by decide +kernel
theorem dX5_offer_41 : decode cX5_offer 41 = .ok (.aload_n 0, 1) := by decide +kernel
theorem dX5_offer_42 : decode cX5_offer 42 = .ok (.iload_n 2, 1) := by decide +kernel
theorem dX5_offer_43 : decode cX5_offer 43 = .ok (.iconst 0, 1) := by decide +kernel
theorem dX5_offer_44 : decode cX5_offer 44 = .ok (.invokevirtual 126, 3) := by decide +kernel
theorem dX5_offer_47 : decode cX5_offer 47 = .ok (.iload_n 3, 1) := by decide +kernel
theorem dX5_offer_48 : decode cX5_offer 48 = .ok (.i2l, 1) := by decide +kernel
theorem dX5_offer_49 : decode cX5_offer 49 = .ok (.ladd, 1) := by decide +kernel
theorem dX5_offer_50 : decode cX5_offer 50 = .ok (.lstore 6, 2) := by decide +kernel
theorem dX5_offer_52 : decode cX5_offer 52 = .ok (.aload_n 0, 1) := by decide +kernel
theorem dX5_offer_53 : decode cX5_offer 53 = .ok (.iload_n 2, 1) := by decide +kernel
theorem dX5_offer_54 : decode cX5_offer 54 = .ok (.iconst 1, 1) := by decide +kernel
theorem dX5_offer_55 : decode cX5_offer 55 = .ok (.invokevirtual 126, 3) := by decide +kernel
theorem dX5_offer_58 : decode cX5_offer 58 = .ok (.iload 4, 2) := by decide +kernel
theorem dX5_offer_60 : decode cX5_offer 60 = .ok (.i2l, 1) := by decide +kernel
theorem dX5_offer_61 : decode cX5_offer 61 = .ok (.ladd, 1) := by decide +kernel
theorem dX5_offer_62 : decode cX5_offer 62 = .ok (.lstore 8, 2) := by decide +kernel
theorem dX5_offer_64 : decode cX5_offer 64 = .ok (.aload_n 0, 1) := by decide +kernel
theorem dX5_offer_65 : decode cX5_offer 65 = .ok (.iload_n 2, 1) := by decide +kernel
theorem dX5_offer_66 : decode cX5_offer 66 = .ok (.iconst 2, 1) := by decide +kernel
theorem dX5_offer_67 : decode cX5_offer 67 = .ok (.invokevirtual 126, 3) := by decide +kernel
theorem dX5_offer_70 : decode cX5_offer 70 = .ok (.iload 5, 2) := by decide +kernel
theorem dX5_offer_72 : decode cX5_offer 72 = .ok (.i2l, 1) := by decide +kernel
theorem dX5_offer_73 : decode cX5_offer 73 = .ok (.ladd, 1) := by decide +kernel
theorem dX5_offer_74 : decode cX5_offer 74 = .ok (.lstore 10, 2) := by decide +kernel
theorem dX5_offer_76 : decode cX5_offer 76 = .ok (.aload_n 0, 1) := by decide +kernel
theorem dX5_offer_77 : decode cX5_offer 77 = .ok (.iload_n 1, 1) := by decide +kernel
theorem dX5_offer_78 : decode cX5_offer 78 = .ok (.lload 6, 2) := by decide +kernel
theorem dX5_offer_80 : decode cX5_offer 80 = .ok (.lload 8, 2) := by decide +kernel
theorem dX5_offer_82 : decode cX5_offer 82 = .ok (.lload 10, 2) := by decide +kernel
theorem dX5_offer_84 : decode cX5_offer 84 = .ok (.invokevirtual 133, 3) := by decide +kernel
theorem dX5_offer_87 : decode cX5_offer 87 = .ok (.ifCond .eq 15, 3) := by decide +kernel
theorem dX5_offer_90 : decode cX5_offer 90 = .ok (.aload_n 0, 1) := by decide +kernel
theorem dX5_offer_91 : decode cX5_offer 91 = .ok (.getfield 81, 3) := by decide +kernel
theorem dX5_offer_94 : decode cX5_offer 94 = .ok (.iload_n 1, 1) := by decide +kernel
theorem dX5_offer_95 : decode cX5_offer 95 = .ok (.ishr, 1) := by decide +kernel
theorem dX5_offer_96 : decode cX5_offer 96 = .ok (.iconst 1, 1) := by decide +kernel
theorem dX5_offer_97 : decode cX5_offer 97 = .ok (.iand, 1) := by decide +kernel
theorem dX5_offer_98 : decode cX5_offer 98 = .ok (.iconst 1, 1) := by decide +kernel
theorem dX5_offer_99 : decode cX5_offer 99 = .ok (.if_icmp .ne 5, 3) := by decide +kernel
theorem dX5_offer_102 : decode cX5_offer 102 = .ok (.iconst 0, 1) := by decide +kernel
theorem dX5_offer_103 : decode cX5_offer 103 = .ok (.ireturn, 1) := by decide +kernel
theorem dX5_offer_104 : decode cX5_offer 104 = .ok (.aload_n 0, 1) := by decide +kernel
theorem dX5_offer_105 : decode cX5_offer 105 = .ok (.dup, 1) := by decide +kernel
theorem dX5_offer_106 : decode cX5_offer 106 = .ok (.getfield 81, 3) := by decide +kernel
theorem dX5_offer_109 : decode cX5_offer 109 = .ok (.iconst 1, 1) := by decide +kernel
theorem dX5_offer_110 : decode cX5_offer 110 = .ok (.iload_n 1, 1) := by decide +kernel
theorem dX5_offer_111 : decode cX5_offer 111 = .ok (.ishl, 1) := by decide +kernel
theorem dX5_offer_112 : decode cX5_offer 112 = .ok (.ior, 1) := by decide +kernel
theorem dX5_offer_113 : decode cX5_offer 113 = .ok (.putfield 81, 3) := by decide +kernel
theorem dX5_offer_116 : decode cX5_offer 116 = .ok (.aload_n 0, 1) := by decide +kernel
theorem dX5_offer_117 : decode cX5_offer 117 = .ok (.getfield 38, 3) := by decide +kernel
theorem dX5_offer_120 : decode cX5_offer 120 = .ok (.iload_n 1, 1) := by decide +kernel
theorem dX5_offer_121 : decode cX5_offer 121 = .ok (.lload 6, 2) := by decide +kernel
theorem dX5_offer_123 : decode cX5_offer 123 = .ok (.lastore, 1) := by decide +kernel
theorem dX5_offer_124 : decode cX5_offer 124 = .ok (.iconst 1, 1) := by decide +kernel
theorem dX5_offer_125 : decode cX5_offer 125 = .ok (.ireturn, 1) := by decide +kernel
theorem dX5_combined_0 : decode cX5_combined 0 = .ok (.lconst 1, 1) := by decide +kernel
theorem dX5_combined_1 : decode cX5_combined 1 = .ok (.lstore_n 2, 1) := by decide +kernel
theorem dX5_combined_2 : decode cX5_combined 2 = .ok (.iconst 1, 1) := by decide +kernel
theorem dX5_combined_3 : decode cX5_combined 3 = .ok (.istore 4, 2) := by decide +kernel
theorem dX5_combined_5 : decode cX5_combined 5 = .ok (.iload 4, 2) := by decide +kernel
theorem dX5_combined_7 : decode cX5_combined 7 = .ok (.aload_n 0, 1) := by decide +kernel
theorem dX5_combined_8 : decode cX5_combined 8 = .ok (.getfield 59, 3) := by decide +kernel
theorem dX5_combined_11 : decode cX5_combined 11 = .ok (.if_icmp .gt 133, 3) := by decide +kernel
theorem dX5_combined_14 : decode cX5_combined 14 = .ok (.iload_n 1, 1) := by decide +kernel
theorem dX5_combined_15 : decode cX5_combined 15 = .ok (.iload 4, 2) := by decide +kernel
theorem dX5_combined_17 : decode cX5_combined 17 = .ok (.ishr, 1) := by decide +kernel
theorem dX5_combined_18 : decode cX5_combined 18 = .ok (.iconst 1, 1) := by decide +kernel
theorem dX5_combined_19 : decode cX5_combined 19 = .ok (.iand, 1) := by decide +kernel
theorem dX5_combined_20 : decode cX5_combined 20 = .ok (.ifCond .ne 6, 3) := by decide +kernel
theorem dX5_combined_23 : decode cX5_combined 23 = .ok (.goto 115, 3) := by decide +kernel
theorem dX5_combined_26 : decode cX5_combined 26 = .ok (.lconst 1, 1) := by decide +kernel
theorem dX5_combined_27 : decode cX5_combined 27 = .ok (.lstore 5, 2) := by decide +kernel
theorem dX5_combined_29 : decode cX5_combined 29 = .ok (.lconst 1, 1) := by decide +kernel
theorem dX5_combined_30 : decode cX5_combined 30 = .ok (.lstore 7, 2) := by decide +kernel
theorem dX5_combined_32 : decode cX5_combined 32 = .ok (.iconst 1, 1) := by decide +kernel
theorem dX5_combined_33 : decode cX5_combined 33 = .ok (.istore 9, 2) := by decide +kernel
theorem dX5_combined_35 : decode cX5_combined 35 = .ok (.iload 9, 2) := by decide +kernel
theorem dX5_combined_37 : decode cX5_combined 37 = .ok (.aload_n 0, 1) := by decide +kernel
theorem dX5_combined_38 : decode cX5_combined 38 = .ok (.getfield 59, 3) := by decide +kernel
theorem dX5_combined_41 : decode cX5_combined 41 = .ok (.if_icmp .gt 59, 3) := by decide +kernel
theorem dX5_combined_44 : decode cX5_combined 44 = .ok (.iload 9, 2) := by decide +kernel
theorem dX5_combined_46 : decode cX5_combined 46 = .ok (.iload 4, 2) := by decide +kernel
theorem dX5_combined_48 : decode cX5_combined 48 = .ok (.if_icmp .eq 46, 3) := by decide +kernel
theorem dX5_combined_51 : decode cX5_combined 51 = .ok (.iload_n 1, 1) := by decide +kernel
theorem dX5_combined_52 : decode cX5_combined 52 = .ok (.iload 9, 2) := by decide +kernel
theorem dX5_combined_54 : decode cX5_combined 54 = .ok (.ishr, 1) := by decide +kernel
theorem dX5_combined_55 : decode cX5_combined 55 = .ok (.iconst 1, 1) := by decide +kernel
theorem dX5_combined_56 : decode cX5_combined 56 = .ok (.iand, 1) := by decide +kernel
theorem dX5_combined_57 : decode cX5_combined 57 = .ok (.iconst 1, 1) := by decide +kernel
theorem dX5_combined_58 : decode cX5_combined 58 = .ok (.if_icmp .ne 36, 3) := by decide +kernel
theorem dX5_combined_61 : decode cX5_combined 61 = .ok (.lload 5, 2) := by decide +kernel
theorem dX5_combined_63 : decode cX5_combined 63 = .ok (.iload 9, 2) := by decide +kernel
theorem dX5_combined_65 : decode cX5_combined 65 = .ok (.i2l, 1) := by decide +kernel
theorem dX5_combined_66 : decode cX5_combined 66 = .ok (.lmul, 1) := by decide +kernel
theorem dX5_combined_67 : decode cX5_combined 67 = .ok (.ldc2_w 62, 3) := by decide +kernel
theorem dX5_combined_70 : decode cX5_combined 70 = .ok (.lrem, 1) := by decide +kernel
theorem dX5_combined_71 : decode cX5_combined 71 = .ok (.lstore 5, 2) := by decide +kernel
theorem dX5_combined_73 : decode cX5_combined 73 = .ok (.lload 7, 2) := by decide +kernel
theorem dX5_combined_75 : decode cX5_combined 75 = .ok (.iload 9, 2) := by decide +kernel
theorem dX5_combined_77 : decode cX5_combined 77 = .ok (.iload 4, 2) := by decide +kernel
theorem dX5_combined_79 : decode cX5_combined 79 = .ok (.isub, 1) := by decide +kernel
theorem dX5_combined_80 : decode cX5_combined 80 = .ok (.i2l, 1) := by decide +kernel
theorem dX5_combined_81 : decode cX5_combined 81 = .ok (.ldc2_w 62, 3) := by decide +kernel
theorem dX5_combined_84 : decode cX5_combined 84 = .ok (.invokestatic 55, 3) := by decide +kernel
theorem dX5_combined_87 : decode cX5_combined 87 = .ok (.lmul, 1) := by decide +kernel
theorem dX5_combined_88 : decode cX5_combined 88 = .ok (.ldc2_w 62, 3) := by decide +kernel
theorem dX5_combined_91 : decode cX5_combined 91 = .ok (.lrem, 1) := by decide +kernel
theorem dX5_combined_92 : decode cX5_combined 92 = .ok (.lstore 7, 2) := by decide +kernel
theorem dX5_combined_94 : decode cX5_combined 94 = .ok (.iinc 9 1, 3) := by decide +kernel
theorem dX5_combined_97 : decode cX5_combined 97 = .ok (.goto (-62), 3) := by decide +kernel
theorem dX5_combined_100 : decode cX5_combined 100 = .ok (.lload_n 2, 1) := by decide +kernel
theorem dX5_combined_101 : decode cX5_combined 101 = .ok (.aload_n 0, 1) := by decide +kernel
theorem dX5_combined_102 : decode cX5_combined 102 = .ok (.getfield 38, 3) := by decide +kernel
theorem dX5_combined_105 : decode cX5_combined 105 = .ok (.iload 4, 2) := by decide +kernel
theorem dX5_combined_107 : decode cX5_combined 107 = .ok (.laload, 1) := by decide +kernel
theorem dX5_combined_108 : decode cX5_combined 108 = .ok (.lload 5, 2) := by decide +kernel
theorem dX5_combined_110 : decode cX5_combined 110 = .ok (.lload 7, 2) := by decide +kernel
theorem dX5_combined_112 : decode cX5_combined 112 = .ok (.ldc2_w 137, 3) := by decide +kernel
theorem dX5_combined_115 : decode cX5_combined 115 = .ok (.ldc2_w 62, 3) := by decide +kernel
theorem dX5_combined_118 : decode cX5_combined 118 = .ok (.invokestatic 95, 3) := by decide +kernel
theorem dX5_combined_121 : decode cX5_combined 121 = .ok (.lmul, 1) := by decide +kernel
theorem dX5_combined_122 : decode cX5_combined 122 = .ok (.ldc2_w 62, 3) := by decide +kernel
theorem dX5_combined_125 : decode cX5_combined 125 = .ok (.lrem, 1) := by decide +kernel
theorem dX5_combined_126 : decode cX5_combined 126 = .ok (.ldc2_w 93, 3) := by decide +kernel
theorem dX5_combined_129 : decode cX5_combined 129 = .ok (.invokestatic 95, 3) := by decide +kernel
theorem dX5_combined_132 : decode cX5_combined 132 = .ok (.lmul, 1) := by decide +kernel
theorem dX5_combined_133 : decode cX5_combined 133 = .ok (.ldc2_w 93, 3) := by decide +kernel
theorem dX5_combined_136 : decode cX5_combined 136 = .ok (.lrem, 1) := by decide +kernel
theorem dX5_combined_137 : decode cX5_combined 137 = .ok (.lstore_n 2, 1) := by decide +kernel
theorem dX5_combined_138 : decode cX5_combined 138 = .ok (.iinc 4 1, 3) := by decide +kernel
theorem dX5_combined_141 : decode cX5_combined 141 = .ok (.goto (-136), 3) := by decide +kernel
theorem dX5_combined_144 : decode cX5_combined 144 = .ok (.lload_n 2, 1) := by decide +kernel
theorem dX5_combined_145 : decode cX5_combined 145 = .ok (.lreturn, 1) := by decide +kernel
theorem dX5_value_0 : decode cX5_value 0 = .ok (.iconst 0, 1) := by decide +kernel
theorem dX5_value_1 : decode cX5_value 1 = .ok (.istore_n 2, 1) := by decide +kernel
theorem dX5_value_2 : decode cX5_value 2 = .ok (.iconst 1, 1) := by decide +kernel
theorem dX5_value_3 : decode cX5_value 3 = .ok (.istore_n 3, 1) := by decide +kernel
theorem dX5_value_4 : decode cX5_value 4 = .ok (.iload_n 3, 1) := by decide +kernel
theorem dX5_value_5 : decode cX5_value 5 = .ok (.aload_n 0, 1) := by decide +kernel
theorem dX5_value_6 : decode cX5_value 6 = .ok (.getfield 59, 3) := by decide +kernel
theorem dX5_value_9 : decode cX5_value 9 = .ok (.if_icmp .gt 17, 3) := by decide +kernel
theorem dX5_value_12 : decode cX5_value 12 = .ok (.iload_n 2, 1) := by decide +kernel
theorem dX5_value_13 : decode cX5_value 13 = .ok (.iload_n 1, 1) := by decide +kernel
theorem dX5_value_14 : decode cX5_value 14 = .ok (.iload_n 3, 1) := by decide +kernel
theorem dX5_value_15 : decode cX5_value 15 = .ok (.ishr, 1) := by decide +kernel
theorem dX5_value_16 : decode cX5_value 16 = .ok (.iconst 1, 1) := by decide +kernel
theorem dX5_value_17 : decode cX5_value 17 = .ok (.iand, 1) := by decide +kernel
theorem dX5_value_18 : decode cX5_value 18 = .ok (.iadd, 1) := by decide +kernel
theorem dX5_value_19 : decode cX5_value 19 = .ok (.istore_n 2, 1) := by decide +kernel
theorem dX5_value_20 : decode cX5_value 20 = .ok (.iinc 3 1, 3) := by decide +kernel
theorem dX5_value_23 : decode cX5_value 23 = .ok (.goto (-19), 3) := by decide +kernel
theorem dX5_value_26 : decode cX5_value 26 = .ok (.aload_n 0, 1) := by decide +kernel
theorem dX5_value_27 : decode cX5_value 27 = .ok (.aload_n 0, 1) := by decide +kernel
theorem dX5_value_28 : decode cX5_value 28 = .ok (.getfield 71, 3) := by decide +kernel
theorem dX5_value_31 : decode cX5_value 31 = .ok (.ifCond .ne 7, 3) := by decide +kernel
theorem dX5_value_34 : decode cX5_value 34 = .ok (.iconst 1, 1) := by decide +kernel
theorem dX5_value_35 : decode cX5_value 35 = .ok (.goto 27, 3) := by decide +kernel
theorem dX5_value_38 : decode cX5_value 38 = .ok (.iload_n 1, 1) := by decide +kernel
theorem dX5_value_39 : decode cX5_value 39 = .ok (.aload_n 0, 1) := by decide +kernel
theorem dX5_value_40 : decode cX5_value 40 = .ok (.getfield 81, 3) := by decide +kernel
theorem dX5_value_43 : decode cX5_value 43 = .ok (.iconst (-1), 1) := by decide +kernel
theorem dX5_value_44 : decode cX5_value 44 = .ok (.ixor, 1) := by decide +kernel
theorem dX5_value_45 : decode cX5_value 45 = .ok (.iand, 1) := by decide +kernel
theorem dX5_value_46 : decode cX5_value 46 = .ok (.ifCond .ne 11, 3) := by decide +kernel
theorem dX5_value_49 : decode cX5_value 49 = .ok (.iload_n 2, 1) := by decide +kernel
theorem dX5_value_50 : decode cX5_value 50 = .ok (.aload_n 0, 1) := by decide +kernel
theorem dX5_value_51 : decode cX5_value 51 = .ok (.getfield 68, 3) := by decide +kernel
theorem dX5_value_54 : decode cX5_value 54 = .ok (.if_icmp .eq 7, 3) := by decide +kernel
theorem dX5_value_57 : decode cX5_value 57 = .ok (.iconst 2, 1) := by decide +kernel
theorem dX5_value_58 : decode cX5_value 58 = .ok (.goto 4, 3) := by decide +kernel
theorem dX5_value_61 : decode cX5_value 61 = .ok (.iconst 0, 1) := by decide +kernel
theorem dX5_value_62 : decode cX5_value 62 = .ok (.invokevirtual 64, 3) := by decide +kernel
theorem dX5_value_65 : decode cX5_value 65 = .ok (.ifCond .eq 5, 3) := by decide +kernel
theorem dX5_value_68 : decode cX5_value 68 = .ok (.iconst 0, 1) := by decide +kernel
theorem dX5_value_69 : decode cX5_value 69 = .ok (.ireturn, 1) := by decide +kernel
theorem dX5_value_70 : decode cX5_value 70 = .ok (.aload_n 0, 1) := by decide +kernel
theorem dX5_value_71 : decode cX5_value 71 = .ok (.iload_n 1, 1) := by decide +kernel
theorem dX5_value_72 : decode cX5_value 72 = .ok (.invokevirtual 139, 3) := by decide +kernel
theorem dX5_value_75 : decode cX5_value 75 = .ok (.l2i, 1) := by decide +kernel
theorem dX5_value_76 : decode cX5_value 76 = .ok (.ireturn, 1) := by decide +kernel
theorem dX5_publish_0 : decode cX5_publish 0 = .ok (.iconst 0, 1) := by decide +kernel
theorem dX5_publish_1 : decode cX5_publish 1 = .ok (.istore_n 1, 1) := by decide +kernel
theorem dX5_publish_2 : decode cX5_publish 2 = .ok (.iconst 0, 1) := by decide +kernel
theorem dX5_publish_3 : decode cX5_publish 3 = .ok (.istore_n 2, 1) := by decide +kernel
theorem dX5_publish_4 : decode cX5_publish 4 = .ok (.iconst 1, 1) := by decide +kernel
theorem dX5_publish_5 : decode cX5_publish 5 = .ok (.istore_n 3, 1) := by decide +kernel
theorem dX5_publish_6 : decode cX5_publish 6 = .ok (.iload_n 3, 1) := by decide +kernel
theorem dX5_publish_7 : decode cX5_publish 7 = .ok (.aload_n 0, 1) := by decide +kernel
theorem dX5_publish_8 : decode cX5_publish 8 = .ok (.getfield 59, 3) := by decide +kernel
theorem dX5_publish_11 : decode cX5_publish 11 = .ok (.if_icmp .gt 64, 3) := by decide +kernel
theorem dX5_publish_14 : decode cX5_publish 14 = .ok (.iload_n 2, 1) := by decide +kernel
theorem dX5_publish_15 : decode cX5_publish 15 = .ok (.aload_n 0, 1) := by decide +kernel
theorem dX5_publish_16 : decode cX5_publish 16 = .ok (.getfield 68, 3) := by decide +kernel
theorem dX5_publish_19 : decode cX5_publish 19 = .ok (.if_icmp .ge 19, 3) := by decide +kernel
theorem dX5_publish_22 : decode cX5_publish 22 = .ok (.aload_n 0, 1) := by decide +kernel
theorem dX5_publish_23 : decode cX5_publish 23 = .ok (.getfield 81, 3) := by decide +kernel
theorem dX5_publish_26 : decode cX5_publish 26 = .ok (.iload_n 3, 1) := by decide +kernel
theorem dX5_publish_27 : decode cX5_publish 27 = .ok (.ishr, 1) := by decide +kernel
theorem dX5_publish_28 : decode cX5_publish 28 = .ok (.iconst 1, 1) := by decide +kernel
theorem dX5_publish_29 : decode cX5_publish 29 = .ok (.iand, 1) := by decide +kernel
theorem dX5_publish_30 : decode cX5_publish 30 = .ok (.iconst 1, 1) := by decide +kernel
theorem dX5_publish_31 : decode cX5_publish 31 = .ok (.if_icmp .ne 7, 3) := by decide +kernel
theorem dX5_publish_34 : decode cX5_publish 34 = .ok (.iconst 1, 1) := by decide +kernel
theorem dX5_publish_35 : decode cX5_publish 35 = .ok (.goto 4, 3) := by decide +kernel
theorem dX5_publish_38 : decode cX5_publish 38 = .ok (.iconst 0, 1) := by decide +kernel
theorem dX5_publish_39 : decode cX5_publish 39 = .ok (.istore 4, 2) := by decide +kernel
theorem dX5_publish_41 : decode cX5_publish 41 = .ok (.iload_n 1, 1) := by decide +kernel
theorem dX5_publish_42 : decode cX5_publish 42 = .ok (.iload 4, 2) := by decide +kernel
theorem dX5_publish_44 : decode cX5_publish 44 = .ok (.ifCond .eq 9, 3) := by decide +kernel
theorem dX5_publish_47 : decode cX5_publish 47 = .ok (.iconst 1, 1) := by decide +kernel
theorem dX5_publish_48 : decode cX5_publish 48 = .ok (.iload_n 3, 1) := by decide +kernel
theorem dX5_publish_49 : decode cX5_publish 49 = .ok (.ishl, 1) := by decide +kernel
theorem dX5_publish_50 : decode cX5_publish 50 = .ok (.goto 4, 3) := by decide +kernel
theorem dX5_publish_53 : decode cX5_publish 53 = .ok (.iconst 0, 1) := by decide +kernel
theorem dX5_publish_54 : decode cX5_publish 54 = .ok (.ior, 1) := by decide +kernel
theorem dX5_publish_55 : decode cX5_publish 55 = .ok (.istore_n 1, 1) := by decide +kernel
theorem dX5_publish_56 : decode cX5_publish 56 = .ok (.iload_n 2, 1) := by decide +kernel
theorem dX5_publish_57 : decode cX5_publish 57 = .ok (.iload 4, 2) := by decide +kernel
theorem dX5_publish_59 : decode cX5_publish 59 = .ok (.ifCond .eq 7, 3) := by decide +kernel
theorem dX5_publish_62 : decode cX5_publish 62 = .ok (.iconst 1, 1) := by decide +kernel
theorem dX5_publish_63 : decode cX5_publish 63 = .ok (.goto 4, 3) := by decide +kernel
theorem dX5_publish_66 : decode cX5_publish 66 = .ok (.iconst 0, 1) := by decide +kernel
theorem dX5_publish_67 : decode cX5_publish 67 = .ok (.iadd, 1) := by decide +kernel
theorem dX5_publish_68 : decode cX5_publish 68 = .ok (.istore_n 2, 1) := by decide +kernel
theorem dX5_publish_69 : decode cX5_publish 69 = .ok (.iinc 3 1, 3) := by decide +kernel
theorem dX5_publish_72 : decode cX5_publish 72 = .ok (.goto (-66), 3) := by decide +kernel
theorem dX5_publish_75 : decode cX5_publish 75 = .ok (.aload_n 0, 1) := by decide +kernel
theorem dX5_publish_76 : decode cX5_publish 76 = .ok (.aload_n 0, 1) := by decide +kernel
theorem dX5_publish_77 : decode cX5_publish 77 = .ok (.getfield 71, 3) := by decide +kernel
theorem dX5_publish_80 : decode cX5_publish 80 = .ok (.ifCond .eq 11, 3) := by decide +kernel
theorem dX5_publish_83 : decode cX5_publish 83 = .ok (.iload_n 2, 1) := by decide +kernel
theorem dX5_publish_84 : decode cX5_publish 84 = .ok (.aload_n 0, 1) := by decide +kernel
theorem dX5_publish_85 : decode cX5_publish 85 = .ok (.getfield 68, 3) := by decide +kernel
theorem dX5_publish_88 : decode cX5_publish 88 = .ok (.if_icmp .ge 7, 3) := by decide +kernel
theorem dX5_publish_91 : decode cX5_publish 91 = .ok (.iconst 1, 1) := by decide +kernel
theorem dX5_publish_92 : decode cX5_publish 92 = .ok (.goto 18, 3) := by decide +kernel
theorem dX5_publish_95 : decode cX5_publish 95 = .ok (.aload_n 0, 1) := by decide +kernel
theorem dX5_publish_96 : decode cX5_publish 96 = .ok (.getfield 78, 3) := by decide +kernel
theorem dX5_publish_99 : decode cX5_publish 99 = .ok (.sipush 300, 3) := by decide +kernel
theorem dX5_publish_102 : decode cX5_publish 102 = .ok (.if_icmp .ne 7, 3) := by decide +kernel
theorem dX5_publish_105 : decode cX5_publish 105 = .ok (.iconst 2, 1) := by decide +kernel
theorem dX5_publish_106 : decode cX5_publish 106 = .ok (.goto 4, 3) := by decide +kernel
theorem dX5_publish_109 : decode cX5_publish 109 = .ok (.iconst 0, 1) := by decide +kernel
theorem dX5_publish_110 : decode cX5_publish 110 = .ok (.invokevirtual 64, 3) := by decide +kernel
theorem dX5_publish_113 : decode cX5_publish 113 = .ok (.ifCond .eq 5, 3) := by decide +kernel
theorem dX5_publish_116 : decode cX5_publish 116 = .ok (.iconst 0, 1) := by decide +kernel
theorem dX5_publish_117 : decode cX5_publish 117 = .ok (.ireturn, 1) := by decide +kernel
theorem dX5_publish_118 : decode cX5_publish 118 = .ok (.aload_n 0, 1) := by decide +kernel
theorem dX5_publish_119 : decode cX5_publish 119 = .ok (.iload_n 1, 1) := by decide +kernel
theorem dX5_publish_120 : decode cX5_publish 120 = .ok (.invokevirtual 139, 3) := by decide +kernel
theorem dX5_publish_123 : decode cX5_publish 123 = .ok (.lstore_n 3, 1) := by decide +kernel
theorem dX5_publish_124 : decode cX5_publish 124 = .ok (.aload_n 0, 1) := by decide +kernel
theorem dX5_publish_125 : decode cX5_publish 125 = .ok (.dup, 1) := by decide +kernel
theorem dX5_publish_126 : decode cX5_publish 126 = .ok (.getfield 78, 3) := by decide +kernel
theorem dX5_publish_129 : decode cX5_publish 129 = .ok (.iconst 1, 1) := by decide +kernel
theorem dX5_publish_130 : decode cX5_publish 130 = .ok (.iadd, 1) := by decide +kernel
theorem dX5_publish_131 : decode cX5_publish 131 = .ok (.putfield 78, 3) := by decide +kernel
theorem dX5_publish_134 : decode cX5_publish 134 = .ok (.aload_n 0, 1) := by decide +kernel
theorem dX5_publish_135 : decode cX5_publish 135 = .ok (.getfield 35, 3) := by decide +kernel
theorem dX5_publish_138 : decode cX5_publish 138 = .ok (.aload_n 0, 1) := by decide +kernel
theorem dX5_publish_139 : decode cX5_publish 139 = .ok (.getfield 78, 3) := by decide +kernel
theorem dX5_publish_142 : decode cX5_publish 142 = .ok (.lload_n 3, 1) := by decide +kernel
theorem dX5_publish_143 : decode cX5_publish 143 = .ok (.lastore, 1) := by decide +kernel
theorem dX5_publish_144 : decode cX5_publish 144 = .ok (.aload_n 0, 1) := by decide +kernel
theorem dX5_publish_145 : decode cX5_publish 145 = .ok (.iconst 0, 1) := by decide +kernel
theorem dX5_publish_146 : decode cX5_publish 146 = .ok (.putfield 81, 3) := by decide +kernel
theorem dX5_publish_149 : decode cX5_publish 149 = .ok (.lload_n 3, 1) := by decide +kernel
theorem dX5_publish_150 : decode cX5_publish 150 = .ok (.l2i, 1) := by decide +kernel
theorem dX5_publish_151 : decode cX5_publish 151 = .ok (.ireturn, 1) := by decide +kernel
theorem dX5_ended_0 : decode cX5_ended 0 = .ok (.iload_n 1, 1) := by decide +kernel
theorem dX5_ended_1 : decode cX5_ended 1 = .ok (.ifCond .lt 22, 3) := by decide +kernel
theorem dX5_ended_4 : decode cX5_ended 4 = .ok (.aload_n 0, 1) := by decide +kernel
