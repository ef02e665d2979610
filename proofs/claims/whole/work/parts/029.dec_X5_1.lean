theorem dX5_isRight_0 : decode cX5_isRight 0 = .ok (.aload_n 0, 1) := by decide +kernel
theorem dX5_isRight_1 : decode cX5_isRight 1 = .ok (.iload_n 1, 1) := by decide +kernel
theorem dX5_isRight_2 : decode cX5_isRight 2 = .ok (.invokevirtual 84, 3) := by decide +kernel
theorem dX5_isRight_5 : decode cX5_isRight 5 = .ok (.ifCond .eq 22, 3) := by decide +kernel
theorem dX5_isRight_8 : decode cX5_isRight 8 = .ok (.aload_n 0, 1) := by decide +kernel
theorem dX5_isRight_9 : decode cX5_isRight 9 = .ok (.iload_n 2, 1) := by decide +kernel
theorem dX5_isRight_10 : decode cX5_isRight 10 = .ok (.invokevirtual 84, 3) := by decide +kernel
theorem dX5_isRight_13 : decode cX5_isRight 13 = .ok (.ifCond .eq 14, 3) := by decide +kernel
theorem dX5_isRight_16 : decode cX5_isRight 16 = .ok (.iload_n 3, 1) := by decide +kernel
theorem dX5_isRight_17 : decode cX5_isRight 17 = .ok (.invokestatic 103, 3) := by decide +kernel
theorem dX5_isRight_20 : decode cX5_isRight 20 = .ok (.ifCond .eq 7, 3) := by decide +kernel
theorem dX5_isRight_23 : decode cX5_isRight 23 = .ok (.iconst 1, 1) := by decide +kernel
theorem dX5_isRight_24 : decode cX5_isRight 24 = .ok (.goto 4, 3) := by decide +kernel
theorem dX5_isRight_27 : decode cX5_isRight 27 = .ok (.iconst 0, 1) := by decide +kernel
theorem dX5_isRight_28 : decode cX5_isRight 28 = .ok (.istore 4, 2) := by decide +kernel
theorem dX5_isRight_30 : decode cX5_isRight 30 = .ok (.aload_n 0, 1) := by decide +kernel
theorem dX5_isRight_31 : decode cX5_isRight 31 = .ok (.iload 4, 2) := by decide +kernel
theorem dX5_isRight_33 : decode cX5_isRight 33 = .ok (.ifCond .ne 7, 3) := by decide +kernel
theorem dX5_isRight_36 : decode cX5_isRight 36 = .ok (.iconst 1, 1) := by decide +kernel
theorem dX5_isRight_37 : decode cX5_isRight 37 = .ok (.goto 17, 3) := by decide +kernel
theorem dX5_isRight_40 : decode cX5_isRight 40 = .ok (.aload_n 0, 1) := by decide +kernel
theorem dX5_isRight_41 : decode cX5_isRight 41 = .ok (.getfield 7, 3) := by decide +kernel
theorem dX5_isRight_44 : decode cX5_isRight 44 = .ok (.iload_n 1, 1) := by decide +kernel
theorem dX5_isRight_45 : decode cX5_isRight 45 = .ok (.baload, 1) := by decide +kernel
theorem dX5_isRight_46 : decode cX5_isRight 46 = .ok (.ifCond .ne 7, 3) := by decide +kernel
theorem dX5_isRight_49 : decode cX5_isRight 49 = .ok (.iconst 2, 1) := by decide +kernel
theorem dX5_isRight_50 : decode cX5_isRight 50 = .ok (.goto 4, 3) := by decide +kernel
theorem dX5_isRight_53 : decode cX5_isRight 53 = .ok (.iconst 0, 1) := by decide +kernel
theorem dX5_isRight_54 : decode cX5_isRight 54 = .ok (.invokevirtual 64, 3) := by decide +kernel
theorem dX5_isRight_57 : decode cX5_isRight 57 = .ok (.ifCond .ne 19, 3) := by decide +kernel
theorem dX5_isRight_60 : decode cX5_isRight 60 = .ok (.aload_n 0, 1) := by decide +kernel
theorem dX5_isRight_61 : decode cX5_isRight 61 = .ok (.iload_n 1, 1) := by decide +kernel
theorem dX5_isRight_62 : decode cX5_isRight 62 = .ok (.iload_n 2, 1) := by decide +kernel
theorem dX5_isRight_63 : decode cX5_isRight 63 = .ok (.invokevirtual 99, 3) := by decide +kernel
theorem dX5_isRight_66 : decode cX5_isRight 66 = .ok (.iload_n 3, 1) := by decide +kernel
theorem dX5_isRight_67 : decode cX5_isRight 67 = .ok (.i2l, 1) := by decide +kernel
theorem dX5_isRight_68 : decode cX5_isRight 68 = .ok (.lcmp, 1) := by decide +kernel
theorem dX5_isRight_69 : decode cX5_isRight 69 = .ok (.ifCond .ne 7, 3) := by decide +kernel
theorem dX5_isRight_72 : decode cX5_isRight 72 = .ok (.iconst 1, 1) := by decide +kernel
theorem dX5_isRight_73 : decode cX5_isRight 73 = .ok (.goto 4, 3) := by decide +kernel
theorem dX5_isRight_76 : decode cX5_isRight 76 = .ok (.iconst 0, 1) := by decide +kernel
theorem dX5_isRight_77 : decode cX5_isRight 77 = .ok (.ireturn, 1) := by decide +kernel
theorem dX5_complain_0 : decode cX5_complain 0 = .ok (.aload_n 0, 1) := by decide +kernel
theorem dX5_complain_1 : decode cX5_complain 1 = .ok (.aload_n 0, 1) := by decide +kernel
theorem dX5_complain_2 : decode cX5_complain 2 = .ok (.getfield 71, 3) := by decide +kernel
theorem dX5_complain_5 : decode cX5_complain 5 = .ok (.ifCond .eq 7, 3) := by decide +kernel
theorem dX5_complain_8 : decode cX5_complain 8 = .ok (.iconst 1, 1) := by decide +kernel
theorem dX5_complain_9 : decode cX5_complain 9 = .ok (.goto 4, 3) := by decide +kernel
theorem dX5_complain_12 : decode cX5_complain 12 = .ok (.iconst 0, 1) := by decide +kernel
theorem dX5_complain_13 : decode cX5_complain 13 = .ok (.invokevirtual 64, 3) := by decide +kernel
theorem dX5_complain_16 : decode cX5_complain 16 = .ok (.ifCond .eq 5, 3) := by decide +kernel
theorem dX5_complain_19 : decode cX5_complain 19 = .ok (.iconst 0, 1) := by decide +kernel
theorem dX5_complain_20 : decode cX5_complain 20 = .ok (.ireturn, 1) := by decide +kernel
theorem dX5_complain_21 : decode cX5_complain 21 = .ok (.iconst 1, 1) := by decide +kernel
theorem dX5_complain_22 : decode cX5_complain 22 = .ok (.istore_n 1, 1) := by decide +kernel
theorem dX5_complain_23 : decode cX5_complain 23 = .ok (.iload_n 1, 1) := by decide +kernel
theorem dX5_complain_24 : decode cX5_complain 24 = .ok (.aload_n 0, 1) := by decide +kernel
theorem dX5_complain_25 : decode cX5_complain 25 = .ok (.getfield 59, 3) := by decide +kernel
theorem dX5_complain_28 : decode cX5_complain 28 = .ok (.if_icmp .gt 85, 3) := by decide +kernel
theorem dX5_complain_31 : decode cX5_complain 31 = .ok (.iconst 1, 1) := by decide +kernel
theorem dX5_complain_32 : decode cX5_complain 32 = .ok (.istore_n 2, 1) := by decide +kernel
theorem dX5_complain_33 : decode cX5_complain 33 = .ok (.iload_n 2, 1) := by decide +kernel
theorem dX5_complain_34 : decode cX5_complain 34 = .ok (.aload_n 0, 1) := by decide +kernel
theorem dX5_complain_35 : decode cX5_complain 35 = .ok (.getfield 59, 3) := by decide +kernel
theorem dX5_complain_38 : decode cX5_complain 38 = .ok (.if_icmp .gt 69, 3) := by decide +kernel
theorem dX5_complain_41 : decode cX5_complain 41 = .ok (.aload_n 0, 1) := by decide +kernel
theorem dX5_complain_42 : decode cX5_complain 42 = .ok (.getfield 7, 3) := by decide +kernel
theorem dX5_complain_45 : decode cX5_complain 45 = .ok (.iload_n 1, 1) := by decide +kernel
theorem dX5_complain_46 : decode cX5_complain 46 = .ok (.baload, 1) := by decide +kernel
theorem dX5_complain_47 : decode cX5_complain 47 = .ok (.ifCond .eq 60, 3) := by decide +kernel
theorem dX5_complain_50 : decode cX5_complain 50 = .ok (.aload_n 0, 1) := by decide +kernel
theorem dX5_complain_51 : decode cX5_complain 51 = .ok (.getfield 26, 3) := by decide +kernel
theorem dX5_complain_54 : decode cX5_complain 54 = .ok (.bipush 17, 2) := by decide +kernel
theorem dX5_complain_56 : decode cX5_complain 56 = .ok (.iload_n 1, 1) := by decide +kernel
theorem dX5_complain_57 : decode cX5_complain 57 = .ok (.imul, 1) := by decide +kernel
theorem dX5_complain_58 : decode cX5_complain 58 = .ok (.iload_n 2, 1) := by decide +kernel
theorem dX5_complain_59 : decode cX5_complain 59 = .ok (.iadd, 1) := by decide +kernel
theorem dX5_complain_60 : decode cX5_complain 60 = .ok (.aload_n 0, 1) := by decide +kernel
theorem dX5_complain_61 : decode cX5_complain 61 = .ok (.getfield 26, 3) := by decide +kernel
theorem dX5_complain_64 : decode cX5_complain 64 = .ok (.bipush 17, 2) := by decide +kernel
theorem dX5_complain_66 : decode cX5_complain 66 = .ok (.iload_n 1, 1) := by decide +kernel
theorem dX5_complain_67 : decode cX5_complain 67 = .ok (.imul, 1) := by decide +kernel
theorem dX5_complain_68 : decode cX5_complain 68 = .ok (.iload_n 2, 1) := by decide +kernel
theorem dX5_complain_69 : decode cX5_complain 69 = .ok (.iadd, 1) := by decide +kernel
theorem dX5_complain_70 : decode cX5_complain 70 = .ok (.baload, 1) := by decide +kernel
theorem dX5_complain_71 : decode cX5_complain 71 = .ok (.ifCond .ne 24, 3) := by decide +kernel
theorem dX5_complain_74 : decode cX5_complain 74 = .ok (.aload_n 0, 1) := by decide +kernel
theorem dX5_complain_75 : decode cX5_complain 75 = .ok (.getfield 23, 3) := by decide +kernel
theorem dX5_complain_78 : decode cX5_complain 78 = .ok (.bipush 17, 2) := by decide +kernel
theorem dX5_complain_80 : decode cX5_complain 80 = .ok (.iload_n 1, 1) := by decide +kernel
theorem dX5_complain_81 : decode cX5_complain 81 = .ok (.imul, 1) := by decide +kernel
theorem dX5_complain_82 : decode cX5_complain 82 = .ok (.iload_n 2, 1) := by decide +kernel
theorem dX5_complain_83 : decode cX5_complain 83 = .ok (.iadd, 1) := by decide +kernel
theorem dX5_complain_84 : decode cX5_complain 84 = .ok (.laload, 1) := by decide +kernel
theorem dX5_complain_85 : decode cX5_complain 85 = .ok (.aload_n 0, 1) := by decide +kernel
theorem dX5_complain_86 : decode cX5_complain 86 = .ok (.iload_n 1, 1) := by decide +kernel
theorem dX5_complain_87 : decode cX5_complain 87 = .ok (.iload_n 2, 1) := by decide +kernel
theorem dX5_complain_88 : decode cX5_complain 88 = .ok (.invokevirtual 99, 3) := by decide +kernel
theorem dX5_complain_91 : decode cX5_complain 91 = .ok (.lcmp, 1) := by decide +kernel
theorem dX5_complain_92 : decode cX5_complain 92 = .ok (.ifCond .eq 7, 3) := by decide +kernel
theorem dX5_complain_95 : decode cX5_complain 95 = .ok (.iconst 1, 1) := by decide +kernel
theorem dX5_complain_96 : decode cX5_complain 96 = .ok (.goto 4, 3) := by decide +kernel
theorem dX5_complain_99 : decode cX5_complain 99 = .ok (.iconst 0, 1) := by decide +kernel
theorem dX5_complain_100 : decode cX5_complain 100 = .ok (.bastore, 1) := by decide +kernel
theorem dX5_complain_101 : decode cX5_complain 101 = .ok (.iinc 2 1, 3) := by decide +kernel
theorem dX5_complain_104 : decode cX5_complain 104 = .ok (.goto (-71), 3) := by decide +kernel
theorem dX5_complain_107 : decode cX5_complain 107 = .ok (.iinc 1 1, 3) := by decide +kernel
theorem dX5_complain_110 : decode cX5_complain 110 = .ok (.goto (-87), 3) := by decide +kernel
theorem dX5_complain_113 : decode cX5_complain 113 = .ok (.aload_n 0, 1) := by decide +kernel
theorem dX5_complain_114 : decode cX5_complain 114 = .ok (.iconst 0, 1) := by decide +kernel
theorem dX5_complain_115 : decode cX5_complain 115 = .ok (.invokevirtual 106, 3) := by decide +kernel
theorem dX5_complain_118 : decode cX5_complain 118 = .ok (.ireturn, 1) := by decide +kernel
theorem dX5_complaints_0 : decode cX5_complaints 0 = .ok (.iconst 0, 1) := by decide +kernel
theorem dX5_complaints_1 : decode cX5_complaints 1 = .ok (.istore_n 2, 1) := by decide +kernel
theorem dX5_complaints_2 : decode cX5_complaints 2 = .ok (.iconst 1, 1) := by decide +kernel
theorem dX5_complaints_3 : decode cX5_complaints 3 = .ok (.istore_n 3, 1) := by decide +kernel
theorem dX5_complaints_4 : decode cX5_complaints 4 = .ok (.iload_n 3, 1) := by decide +kernel
theorem dX5_complaints_5 : decode cX5_complaints 5 = .ok (.aload_n 0, 1) := by decide +kernel
theorem dX5_complaints_6 : decode cX5_complaints 6 = .ok (.getfield 59, 3) := by decide +kernel
theorem dX5_complaints_9 : decode cX5_complaints 9 = .ok (.if_icmp .gt 59, 3) := by decide +kernel
theorem dX5_complaints_12 : decode cX5_complaints 12 = .ok (.iconst 1, 1) := by decide +kernel
theorem dX5_complaints_13 : decode cX5_complaints 13 = .ok (.istore 4, 2) := by decide +kernel
theorem dX5_complaints_15 : decode cX5_complaints 15 = .ok (.iload 4, 2) := by decide +kernel
theorem dX5_complaints_17 : decode cX5_complaints 17 = .ok (.aload_n 0, 1) := by decide +kernel
theorem dX5_complaints_18 : decode cX5_complaints 18 = .ok (.getfield 59, 3) := by decide +kernel
theorem dX5_complaints_21 : decode cX5_complaints 21 = .ok (.if_icmp .gt 41, 3) := by decide +kernel
theorem dX5_complaints_24 : decode cX5_complaints 24 = .ok (.iload_n 2, 1) := by decide +kernel
theorem dX5_complaints_25 : decode cX5_complaints 25 = .ok (.aload_n 0, 1) := by decide +kernel
theorem dX5_complaints_26 : decode cX5_complaints 26 = .ok (.getfield 26, 3) := by decide +kernel
theorem dX5_complaints_29 : decode cX5_complaints 29 = .ok (.bipush 17, 2) := by decide +kernel
theorem dX5_complaints_31 : decode cX5_complaints 31 = .ok (.iload_n 3, 1) := by decide +kernel
theorem dX5_complaints_32 : decode cX5_complaints 32 = .ok (.imul, 1) := by decide +kernel
theorem dX5_complaints_33 : decode cX5_complaints 33 = .ok (.iload 4, 2) := by decide +kernel
theorem dX5_complaints_35 : decode cX5_complaints 35 = .ok (.iadd, 1) := by decide +kernel
theorem dX5_complaints_36 : decode cX5_complaints 36 = .ok (.baload, 1) := by decide +kernel
theorem dX5_complaints_37 : decode cX5_complaints 37 = .ok (.ifCond .eq 16, 3) := by decide +kernel
theorem dX5_complaints_40 : decode cX5_complaints 40 = .ok (.iload_n 1, 1) := by decide +kernel
theorem dX5_complaints_41 : decode cX5_complaints 41 = .ok (.ifCond .eq 8, 3) := by decide +kernel
theorem dX5_complaints_44 : decode cX5_complaints 44 = .ok (.iload_n 1, 1) := by decide +kernel
theorem dX5_complaints_45 : decode cX5_complaints 45 = .ok (.iload_n 3, 1) := by decide +kernel
theorem dX5_complaints_46 : decode cX5_complaints 46 = .ok (.if_icmp .ne 7, 3) := by decide +kernel
theorem dX5_complaints_49 : decode cX5_complaints 49 = .ok (.iconst 1, 1) := by decide +kernel
theorem dX5_complaints_50 : decode cX5_complaints 50 = .ok (.goto 4, 3) := by decide +kernel
theorem dX5_complaints_53 : decode cX5_complaints 53 = .ok (.iconst 0, 1) := by decide +kernel
theorem dX5_complaints_54 : decode cX5_complaints 54 = .ok (.iadd, 1) := by decide +kernel
theorem dX5_complaints_55 : decode cX5_complaints 55 = .ok (.istore_n 2, 1) := by decide +kernel
theorem dX5_complaints_56 : decode cX5_complaints 56 = .ok (.iinc 4 1, 3) := by decide +kernel
theorem dX5_complaints_59 : decode cX5_complaints 59 = .ok (.goto (-44), 3) := by decide +kernel
theorem dX5_complaints_62 : decode cX5_complaints 62 = .ok (.iinc 3 1, 3) := by decide +kernel
theorem dX5_complaints_65 : decode cX5_complaints 65 = .ok (.goto (-61), 3) := by decide +kernel
theorem dX5_complaints_68 : decode cX5_complaints 68 = .ok (.iload_n 2, 1) := by decide +kernel
theorem dX5_complaints_69 : decode cX5_complaints 69 = .ok (.ireturn, 1) := by decide +kernel
theorem dX5_answer_0 : decode cX5_answer 0 = .ok (.aload_n 0, 1) := by decide +kernel
theorem dX5_answer_1 : decode cX5_answer 1 = .ok (.iload_n 1, 1) := by decide +kernel
theorem dX5_answer_2 : decode cX5_answer 2 = .ok (.invokevirtual 84, 3) := by decide +kernel
theorem dX5_answer_5 : decode cX5_answer 5 = .ok (.ifCond .eq 22, 3) := by decide +kernel
theorem dX5_answer_8 : decode cX5_answer 8 = .ok (.aload_n 0, 1) := by decide +kernel
theorem dX5_answer_9 : decode cX5_answer 9 = .ok (.iload_n 2, 1) := by decide +kernel
theorem dX5_answer_10 : decode cX5_answer 10 = .ok (.invokevirtual 84, 3) := by decide +kernel
theorem dX5_answer_13 : decode cX5_answer 13 = .ok (.ifCond .eq 14, 3) := by decide +kernel
theorem dX5_answer_16 : decode cX5_answer 16 = .ok (.iload_n 3, 1) := by decide +kernel
theorem dX5_answer_17 : decode cX5_answer 17 = .ok (.invokestatic 103, 3) := by decide +kernel
theorem dX5_answer_20 : decode cX5_answer 20 = .ok (.ifCond .eq 7, 3) := by decide +kernel
theorem dX5_answer_23 : decode cX5_answer 23 = .ok (.iconst 1, 1) := by decide +kernel
theorem dX5_answer_24 : decode cX5_answer 24 = .ok (.goto 4, 3) := by decide +kernel
theorem dX5_answer_27 : decode cX5_answer 27 = .ok (.iconst 0, 1) := by decide +kernel
theorem dX5_answer_28 : decode cX5_answer 28 = .ok (.istore 4, 2) := by decide +kernel
theorem dX5_answer_30 : decode cX5_answer 30 = .ok (.aload_n 0, 1) := by decide +kernel
theorem dX5_answer_31 : decode cX5_answer 31 = .ok (.iload 4, 2) := by decide +kernel
theorem dX5_answer_33 : decode cX5_answer 33 = .ok (.ifCond .ne 7, 3) := by decide +kernel
theorem dX5_answer_36 : decode cX5_answer 36 = .ok (.iconst 1, 1) := by decide +kernel
theorem dX5_answer_37 : decode cX5_answer 37 = .ok (.goto 29, 3) := by decide +kernel
theorem dX5_answer_40 : decode cX5_answer 40 = .ok (.aload_n 0, 1) := by decide +kernel
theorem dX5_answer_41 : decode cX5_answer 41 = .ok (.getfield 71, 3) := by decide +kernel
theorem dX5_answer_44 : decode cX5_answer 44 = .ok (.ifCond .ne 17, 3) := by decide +kernel
theorem dX5_answer_47 : decode cX5_answer 47 = .ok (.aload_n 0, 1) := by decide +kernel
theorem dX5_answer_48 : decode cX5_answer 48 = .ok (.getfield 26, 3) := by decide +kernel
theorem dX5_answer_51 : decode cX5_answer 51 = .ok (.bipush 17, 2) := by decide +kernel
theorem dX5_answer_53 : decode cX5_answer 53 = .ok (.iload_n 1, 1) := by decide +kernel
theorem dX5_answer_54 : decode cX5_answer 54 = .ok (.imul, 1) := by decide +kernel
theorem dX5_answer_55 : decode cX5_answer 55 = .ok (.iload_n 2, 1) := by decide +kernel
theorem dX5_answer_56 : decode cX5_answer 56 = .ok (.iadd, 1) := by decide +kernel
theorem dX5_answer_57 : decode cX5_answer 57 = .ok (.baload, 1) := by decide +kernel
theorem dX5_answer_58 : decode cX5_answer 58 = .ok (.ifCond .ne 7, 3) := by decide +kernel
theorem dX5_answer_61 : decode cX5_answer 61 = .ok (.iconst 2, 1) := by decide +kernel
theorem dX5_answer_62 : decode cX5_answer 62 = .ok (.goto 4, 3) := by decide +kernel
theorem dX5_answer_65 : decode cX5_answer 65 = .ok (.iconst 0, 1) := by decide +kernel
theorem dX5_answer_66 : decode cX5_answer 66 = .ok (.invokevirtual 64, 3) := by decide +kernel
theorem dX5_answer_69 : decode cX5_answer 69 = .ok (.ifCond .eq 5, 3) := by decide +kernel
theorem dX5_answer_72 : decode cX5_answer 72 = .ok (.iconst 0, 1) := by decide +kernel
theorem dX5_answer_73 : decode cX5_answer 73 = .ok (.ireturn, 1) := by decide +kernel
theorem dX5_answer_74 : decode cX5_answer 74 = .ok (.iload_n 3, 1) := by decide +kernel
theorem dX5_answer_75 : decode cX5_answer 75 = .ok (.ifCond .le 12, 3) := by decide +kernel
theorem dX5_answer_78 : decode cX5_answer 78 = .ok (.aload_n 0, 1) := by decide +kernel
theorem dX5_answer_79 : decode cX5_answer 79 = .ok (.getfield 13, 3) := by decide +kernel
theorem dX5_answer_82 : decode cX5_answer 82 = .ok (.iload_n 1, 1) := by decide +kernel
theorem dX5_answer_83 : decode cX5_answer 83 = .ok (.iconst 1, 1) := by decide +kernel
theorem dX5_answer_84 : decode cX5_answer 84 = .ok (.bastore, 1) := by decide +kernel
theorem dX5_answer_85 : decode cX5_answer 85 = .ok (.iconst 0, 1) := by decide +kernel
theorem dX5_answer_86 : decode cX5_answer 86 = .ok (.ireturn, 1) := by decide +kernel
theorem dX5_answer_87 : decode cX5_answer 87 = .ok (.aload_n 0, 1) := by decide +kernel
theorem dX5_answer_88 : decode cX5_answer 88 = .ok (.getfield 23, 3) := by decide +kernel
theorem dX5_answer_91 : decode cX5_answer 91 = .ok (.bipush 17, 2) := by decide +kernel
theorem dX5_answer_93 : decode cX5_answer 93 = .ok (.iload_n 1, 1) := by decide +kernel
theorem dX5_answer_94 : decode cX5_answer 94 = .ok (.imul, 1) := by decide +kernel
theorem dX5_answer_95 : decode cX5_answer 95 = .ok (.iload_n 2, 1) := by decide +kernel
theorem dX5_answer_96 : decode cX5_answer 96 = .ok (.iadd, 1) := by decide +kernel
theorem dX5_answer_97 : decode cX5_answer 97 = .ok (.aload_n 0, 1) := by decide +kernel
theorem dX5_answer_98 : decode cX5_answer 98 = .ok (.iload_n 1, 1) := by decide +kernel
theorem dX5_answer_99 : decode cX5_answer 99 = .ok (.iload_n 2, 1) := by decide +kernel
theorem dX5_answer_100 : decode cX5_answer 100 = .ok (.invokevirtual 99, 3) := by decide +kernel
theorem dX5_answer_103 : decode cX5_answer 103 = .ok (.lastore, 1) := by decide +kernel
theorem dX5_answer_104 : decode cX5_answer 104 = .ok (.aload_n 0, 1) := by decide +kernel
theorem dX5_answer_105 : decode cX5_answer 105 = .ok (.getfield 26, 3) := by decide +kernel
theorem dX5_answer_108 : decode cX5_answer 108 = .ok (.bipush 17, 2) := by decide +kernel
theorem dX5_answer_110 : decode cX5_answer 110 = .ok (.iload_n 1, 1) := by decide +kernel
theorem dX5_answer_111 : decode cX5_answer 111 = .ok (.imul, 1) := by decide +kernel
theorem dX5_answer_112 : decode cX5_answer 112 = .ok (.iload_n 2, 1) := by decide +kernel
theorem dX5_answer_113 : decode cX5_answer 113 = .ok (.iadd, 1) := by decide +kernel
theorem dX5_answer_114 : decode cX5_answer 114 = .ok (.iconst 0, 1) := by decide +kernel
theorem dX5_answer_115 : decode cX5_answer 115 = .ok (.bastore, 1) := by decide +kernel
theorem dX5_answer_116 : decode cX5_answer 116 = .ok (.iconst 1, 1) := by decide +kernel
theorem dX5_answer_117 : decode cX5_answer 117 = .ok (.ireturn, 1) := by decide +kernel
theorem dX5_isQualified_0 : decode cX5_isQualified 0 = .ok (.aload_n 0, 1) := by decide +kernel
theorem dX5_isQualified_1 : decode cX5_isQualified 1 = .ok (.getfield 7, 3) := by decide +kernel
theorem dX5_isQualified_4 : decode cX5_isQualified 4 = .ok (.iload_n 1, 1) := by decide +kernel
theorem dX5_isQualified_5 : decode cX5_isQualified 5 = .ok (.baload, 1) := by decide +kernel
theorem dX5_isQualified_6 : decode cX5_isQualified 6 = .ok (.ifCond .eq 24, 3) := by decide +kernel
theorem dX5_isQualified_9 : decode cX5_isQualified 9 = .ok (.aload_n 0, 1) := by decide +kernel
theorem dX5_isQualified_10 : decode cX5_isQualified 10 = .ok (.getfield 13, 3) := by decide +kernel
theorem dX5_isQualified_13 : decode cX5_isQualified 13 = .ok (.iload_n 1, 1) := by decide +kernel
theorem dX5_isQualified_14 : decode cX5_isQualified 14 = .ok (.baload, 1) := by decide +kernel
theorem dX5_isQualified_15 : decode cX5_isQualified 15 = .ok (.ifCond .ne 15, 3) := by decide +kernel
theorem dX5_isQualified_18 : decode cX5_isQualified 18 = .ok (.aload_n 0, 1) := by decide +kernel
theorem dX5_isQualified_19 : decode cX5_isQualified 19 = .ok (.iload_n 1, 1) := by decide +kernel
theorem dX5_isQualified_20 : decode cX5_isQualified 20 = .ok (.invokevirtual 106, 3) := by decide +kernel
theorem dX5_isQualified_23 : decode cX5_isQualified 23 = .ok (.ifCond .ne 7, 3) := by decide +kernel
theorem dX5_isQualified_26 : decode cX5_isQualified 26 = .ok (.iconst 1, 1) := by decide +kernel
theorem dX5_isQualified_27 : decode cX5_isQualified 27 = .ok (.goto 4, 3) := by decide +kernel
theorem dX5_isQualified_30 : decode cX5_isQualified 30 = .ok (.iconst 0, 1) := by decide +kernel
theorem dX5_isQualified_31 : decode cX5_isQualified 31 = .ok (.ireturn, 1) := by decide +kernel
theorem dX5_close_0 : decode cX5_close 0 = .ok (.iconst 0, 1) := by decide +kernel
theorem dX5_close_1 : decode cX5_close 1 = .ok (.istore_n 3, 1) := by decide +kernel
theorem dX5_close_2 : decode cX5_close 2 = .ok (.iconst 0, 1) := by decide +kernel
theorem dX5_close_3 : decode cX5_close 3 = .ok (.istore 4, 2) := by decide +kernel
theorem dX5_close_5 : decode cX5_close 5 = .ok (.iconst 1, 1) := by decide +kernel
theorem dX5_close_6 : decode cX5_close 6 = .ok (.istore 5, 2) := by decide +kernel
theorem dX5_close_8 : decode cX5_close 8 = .ok (.iload 5, 2) := by decide +kernel
theorem dX5_close_10 : decode cX5_close 10 = .ok (.aload_n 0, 1) := by decide +kernel
theorem dX5_close_11 : decode cX5_close 11 = .ok (.getfield 59, 3) := by decide +kernel
theorem dX5_close_14 : decode cX5_close 14 = .ok (.if_icmp .gt 48, 3) := by decide +kernel
theorem dX5_close_17 : decode cX5_close 17 = .ok (.iload_n 3, 1) := by decide +kernel
theorem dX5_close_18 : decode cX5_close 18 = .ok (.aload_n 0, 1) := by decide +kernel
theorem dX5_close_19 : decode cX5_close 19 = .ok (.iload 5, 2) := by decide +kernel
theorem dX5_close_21 : decode cX5_close 21 = .ok (.invokevirtual 110, 3) := by decide +kernel
theorem dX5_close_24 : decode cX5_close 24 = .ok (.ifCond .eq 10, 3) := by decide +kernel
theorem dX5_close_27 : decode cX5_close 27 = .ok (.iconst 1, 1) := by decide +kernel
theorem dX5_close_28 : decode cX5_close 28 = .ok (.iload 5, 2) := by decide +kernel
theorem dX5_close_30 : decode cX5_close 30 = .ok (.ishl, 1) := by decide +kernel
theorem dX5_close_31 : decode cX5_close 31 = .ok (.goto 4, 3) := by decide +kernel
theorem dX5_close_34 : decode cX5_close 34 = .ok (.iconst 0, 1) := by decide +kernel
theorem dX5_close_35 : decode cX5_close 35 = .ok (.ior, 1) := by decide +kernel
theorem dX5_close_36 : decode cX5_close 36 = .ok (.istore_n 3, 1) := by decide +kernel
theorem dX5_close_37 : decode cX5_close 37 = .ok (.iload 4, 2) := by decide +kernel
theorem dX5_close_39 : decode cX5_close 39 = .ok (.aload_n 0, 1) := by decide +kernel
theorem dX5_close_40 : decode cX5_close 40 = .ok (.iload 5, 2) := by decide +kernel
theorem dX5_close_42 : decode cX5_close 42 = .ok (.invokevirtual 110, 3) := by decide +kernel
theorem dX5_close_45 : decode cX5_close 45 = .ok (.ifCond .eq 7, 3) := by decide +kernel
theorem dX5_close_48 : decode cX5_close 48 = .ok (.iconst 1, 1) := by decide +kernel
theorem dX5_close_49 : decode cX5_close 49 = .ok (.goto 4, 3) := by decide +kernel
theorem dX5_close_52 : decode cX5_close 52 = .ok (.iconst 0, 1) := by decide +kernel
theorem dX5_close_53 : decode cX5_close 53 = .ok (.iadd, 1) := by decide +kernel
theorem dX5_close_54 : decode cX5_close 54 = .ok (.istore 4, 2) := by decide +kernel
theorem dX5_close_56 : decode cX5_close 56 = .ok (.iinc 5 1, 3) := by decide +kernel
theorem dX5_close_59 : decode cX5_close 59 = .ok (.goto (-51), 3) := by decide +kernel
theorem dX5_close_62 : decode cX5_close 62 = .ok (.aload_n 0, 1) := by decide +kernel
theorem dX5_close_63 : decode cX5_close 63 = .ok (.aload_n 0, 1) := by decide +kernel
theorem dX5_close_64 : decode cX5_close 64 = .ok (.getfield 71, 3) := by decide +kernel
theorem dX5_close_67 : decode cX5_close 67 = .ok (.ifCond .ne 8, 3) := by decide +kernel
theorem dX5_close_70 : decode cX5_close 70 = .ok (.iload 4, 2) := by decide +kernel
theorem dX5_close_72 : decode cX5_close 72 = .ok (.ifCond .ne 7, 3) := by decide +kernel
theorem dX5_close_75 : decode cX5_close 75 = .ok (.iconst 1, 1) := by decide +kernel
theorem dX5_close_76 : decode cX5_close 76 = .ok (.goto 4, 3) := by decide +kernel
theorem dX5_close_79 : decode cX5_close 79 = .ok (.iconst 0, 1) := by decide +kernel
theorem dX5_close_80 : decode cX5_close 80 = .ok (.invokevirtual 64, 3) := by decide +kernel
theorem dX5_close_83 : decode cX5_close 83 = .ok (.ifCond .eq 5, 3) := by decide +kernel
theorem dX5_close_86 : decode cX5_close 86 = .ok (.iconst 0, 1) := by decide +kernel
theorem dX5_close_87 : decode cX5_close 87 = .ok (.ireturn, 1) := by decide +kernel
theorem dX5_close_88 : decode cX5_close 88 = .ok (.aload_n 0, 1) := by decide +kernel
theorem dX5_close_89 : decode cX5_close 89 = .ok (.iconst 1, 1) := by decide +kernel
theorem dX5_close_90 : decode cX5_close 90 = .ok (.putfield 71, 3) := by decide +kernel
theorem dX5_close_93 : decode cX5_close 93 = .ok (.aload_n 0, 1) := by decide +kernel
theorem dX5_close_94 : decode cX5_close 94 = .ok (.iload_n 3, 1) := by decide +kernel
theorem dX5_close_95 : decode cX5_close 95 = .ok (.putfield 75, 3) := by decide +kernel
theorem dX5_close_98 : decode cX5_close 98 = .ok (.aload_n 0, 1) := by decide +kernel
theorem dX5_close_99 : decode cX5_close 99 = .ok (.getfield 35, 3) := by decide +kernel
theorem dX5_close_102 : decode cX5_close 102 = .ok (.iconst 0, 1) := by decide +kernel
theorem dX5_close_103 : decode cX5_close 103 = .ok (.lload_n 1, 1) := by decide +kernel
theorem dX5_close_104 : decode cX5_close 104 = .ok (.lastore, 1) := by decide +kernel
theorem dX5_close_105 : decode cX5_close 105 = .ok (.aload_n 0, 1) := by decide +kernel
theorem dX5_close_106 : decode cX5_close 106 = .ok (.iconst 0, 1) := by decide +kernel
theorem dX5_close_107 : decode cX5_close 107 = .ok (.putfield 78, 3) := by decide +kernel
theorem dX5_close_110 : decode cX5_close 110 = .ok (.aload_n 0, 1) := by decide +kernel
theorem dX5_close_111 : decode cX5_close 111 = .ok (.iconst 0, 1) := by decide +kernel
theorem dX5_close_112 : decode cX5_close 112 = .ok (.putfield 81, 3) := by decide +kernel
theorem dX5_close_115 : decode cX5_close 115 = .ok (.iconst 0, 1) := by decide +kernel
theorem dX5_close_116 : decode cX5_close 116 = .ok (.istore 5, 2) := by decide +kernel
theorem dX5_close_118 : decode cX5_close 118 = .ok (.iload 5, 2) := by decide +kernel
theorem dX5_close_120 : decode cX5_close 120 = .ok (.aload_n 0, 1) := by decide +kernel
theorem dX5_close_121 : decode cX5_close 121 = .ok (.getfield 59, 3) := by decide +kernel
theorem dX5_close_124 : decode cX5_close 124 = .ok (.if_icmp .gt 115, 3) := by decide +kernel
theorem dX5_close_127 : decode cX5_close 127 = .ok (.lconst 0, 1) := by decide +kernel
theorem dX5_close_128 : decode cX5_close 128 = .ok (.lstore 6, 2) := by decide +kernel
theorem dX5_close_130 : decode cX5_close 130 = .ok (.iconst 1, 1) := by decide +kernel
theorem dX5_close_131 : decode cX5_close 131 = .ok (.istore 8, 2) := by decide +kernel
theorem dX5_close_133 : decode cX5_close 133 = .ok (.iload 8, 2) := by decide +kernel
theorem dX5_close_135 : decode cX5_close 135 = .ok (.aload_n 0, 1) := by decide +kernel
theorem dX5_close_136 : decode cX5_close 136 = .ok (.getfield 59, 3) := by decide +kernel
theorem dX5_close_139 : decode cX5_close 139 = .ok (.if_icmp .gt 58, 3) := by decide +kernel
theorem dX5_close_142 : decode cX5_close 142 = .ok (.lload 6, 2) := by decide +kernel
theorem dX5_close_144 : decode cX5_close 144 = .ok (.iload_n 3, 1) := by decide +kernel
theorem dX5_close_145 : decode cX5_close 145 = .ok (.iload 8, 2) := by decide +kernel
theorem dX5_close_147 : decode cX5_close 147 = .ok (.ishr, 1) := by decide +kernel
theorem dX5_close_148 : decode cX5_close 148 = .ok (.iconst 1, 1) := by decide +kernel
theorem dX5_close_149 : decode cX5_close 149 = .ok (.iand, 1) := by decide +kernel
theorem dX5_close_150 : decode cX5_close 150 = .ok (.ifCond .ne 7, 3) := by decide +kernel
theorem dX5_close_153 : decode cX5_close 153 = .ok (.lconst 0, 1) := by decide +kernel
theorem dX5_close_154 : decode cX5_close 154 = .ok (.goto 34, 3) := by decide +kernel
theorem dX5_close_157 : decode cX5_close 157 = .ok (.iload 5, 2) := by decide +kernel
theorem dX5_close_159 : decode cX5_close 159 = .ok (.ifCond .ne 16, 3) := by decide +kernel
theorem dX5_close_162 : decode cX5_close 162 = .ok (.aload_n 0, 1) := by decide +kernel
theorem dX5_close_163 : decode cX5_close 163 = .ok (.getfield 16, 3) := by decide +kernel
theorem dX5_close_166 : decode cX5_close 166 = .ok (.bipush 17, 2) := by decide +kernel
theorem dX5_close_168 : decode cX5_close 168 = .ok (.iload 8, 2) := by decide +kernel
theorem dX5_close_170 : decode cX5_close 170 = .ok (.imul, 1) := by decide +kernel
theorem dX5_close_171 : decode cX5_close 171 = .ok (.laload, 1) := by decide +kernel
theorem dX5_close_172 : decode cX5_close 172 = .ok (.goto 16, 3) := by decide +kernel
theorem dX5_close_175 : decode cX5_close 175 = .ok (.aload_n 0, 1) := by decide +kernel
theorem dX5_close_176 : decode cX5_close 176 = .ok (.getfield 23, 3) := by decide +kernel
theorem dX5_close_179 : decode cX5_close 179 = .ok (.bipush 17, 2) := by decide +kernel
theorem dX5_close_181 : decode cX5_close 181 = .ok (.iload 8, 2) := by decide +kernel
theorem dX5_close_183 : decode cX5_close 183 = .ok (.imul, 1) := by decide +kernel
theorem dX5_close_184 : decode cX5_close 184 = .ok (.iload 5, 2) := by decide +kernel
theorem dX5_close_186 : decode cX5_close 186 = .ok (.iadd, 1) := by decide +kernel
theorem dX5_close_187 : decode cX5_close 187 = .ok (.laload, 1) := by decide +kernel
theorem dX5_close_188 : decode cX5_close 188 = .ok (.ladd, 1) := by decide +kernel
theorem dX5_close_189 : decode cX5_close 189 = .ok (.lstore 6, 2) := by decide +kernel
theorem dX5_close_191 : decode cX5_close 191 = .ok (.iinc 8 1, 3) := by decide +kernel
theorem dX5_close_194 : decode cX5_close 194 = .ok (.goto (-61), 3) := by decide +kernel
theorem dX5_close_197 : decode cX5_close 197 = .ok (.aload_n 0, 1) := by decide +kernel
theorem dX5_close_198 : decode cX5_close 198 = .ok (.getfield 29, 3) := by decide +kernel
theorem dX5_close_201 : decode cX5_close 201 = .ok (.iload 5, 2) := by decide +kernel
theorem dX5_close_203 : decode cX5_close 203 = .ok (.lload 6, 2) := by decide +kernel
theorem dX5_close_205 : decode cX5_close 205 = .ok (.ldc2_w 62, 3) := by decide +kernel
theorem dX5_close_208 : decode cX5_close 208 = .ok (.lrem, 1) := by decide +kernel
theorem dX5_close_209 : decode cX5_close 209 = .ok (.lastore, 1) := by decide +kernel
theorem dX5_close_210 : decode cX5_close 210 = .ok (.aload_n 0, 1) := by decide +kernel
theorem dX5_close_211 : decode cX5_close 211 = .ok (.getfield 32, 3) := by decide +kernel
theorem dX5_close_214 : decode cX5_close 214 = .ok (.iload 5, 2) := by decide +kernel
theorem dX5_close_216 : decode cX5_close 216 = .ok (.ldc2_w 91, 3) := by decide +kernel
theorem dX5_close_219 : decode cX5_close 219 = .ok (.aload_n 0, 1) := by decide +kernel
theorem dX5_close_220 : decode cX5_close 220 = .ok (.getfield 29, 3) := by decide +kernel
theorem dX5_close_223 : decode cX5_close 223 = .ok (.iload 5, 2) := by decide +kernel
theorem dX5_close_225 : decode cX5_close 225 = .ok (.laload, 1) := by decide +kernel
theorem dX5_close_226 : decode cX5_close 226 = .ok (.ldc2_w 93, 3) := by decide +kernel
theorem dX5_close_229 : decode cX5_close 229 = .ok (.invokestatic 95, 3) := by decide +kernel
theorem dX5_close_232 : decode cX5_close 232 = .ok (.lastore, 1) := by decide +kernel
theorem dX5_close_233 : decode cX5_close 233 = .ok (.iinc 5 1, 3) := by decide +kernel
theorem dX5_close_236 : decode cX5_close 236 = .ok (.goto (-118), 3) := by decide +kernel
theorem dX5_close_239 : decode cX5_close 239 = .ok (.iload 4, 2) := by decide +kernel
theorem dX5_close_241 : decode cX5_close 241 = .ok (.ireturn, 1) := by decide +kernel
theorem dX5_key_0 : decode cX5_key 0 = .ok (.aload_n 0, 1) := by decide +kernel
theorem dX5_key_1 : decode cX5_key 1 = .ok (.iload_n 1, 1) := by decide +kernel
theorem dX5_key_2 : decode cX5_key 2 = .ok (.invokevirtual 84, 3) := by decide +kernel
theorem dX5_key_5 : decode cX5_key 5 = .ok (.ifCond .ne 12, 3) := by decide +kernel
theorem dX5_key_8 : decode cX5_key 8 = .ok (.iload_n 1, 1) := by decide +kernel
theorem dX5_key_9 : decode cX5_key 9 = .ok (.ifCond .ne 21, 3) := by decide +kernel
theorem dX5_key_12 : decode cX5_key 12 = .ok (.iload_n 2, 1) := by decide +kernel
theorem dX5_key_13 : decode cX5_key 13 = .ok (.iconst 1, 1) := by decide +kernel
theorem dX5_key_14 : decode cX5_key 14 = .ok (.if_icmp .ne 16, 3) := by decide +kernel
theorem dX5_key_17 : decode cX5_key 17 = .ok (.iload_n 2, 1) := by decide +kernel
theorem dX5_key_18 : decode cX5_key 18 = .ok (.ifCond .lt 12, 3) := by decide +kernel
theorem dX5_key_21 : decode cX5_key 21 = .ok (.iload_n 2, 1) := by decide +kernel
theorem dX5_key_22 : decode cX5_key 22 = .ok (.iconst 1, 1) := by decide +kernel
theorem dX5_key_23 : decode cX5_key 23 = .ok (.if_icmp .gt 7, 3) := by decide +kernel
theorem dX5_key_26 : decode cX5_key 26 = .ok (.iconst 1, 1) := by decide +kernel
theorem dX5_key_27 : decode cX5_key 27 = .ok (.goto 4, 3) := by decide +kernel
theorem dX5_key_30 : decode cX5_key 30 = .ok (.iconst 0, 1) := by decide +kernel
theorem dX5_key_31 : decode cX5_key 31 = .ok (.istore_n 3, 1) := by decide +kernel
theorem dX5_key_32 : decode cX5_key 32 = .ok (.aload_n 0, 1) := by decide +kernel
theorem dX5_key_33 : decode cX5_key 33 = .ok (.iload_n 3, 1) := by decide +kernel
theorem dX5_key_34 : decode cX5_key 34 = .ok (.ifCond .ne 7, 3) := by decide +kernel
theorem dX5_key_37 : decode cX5_key 37 = .ok (.iconst 1, 1) := by decide +kernel
theorem dX5_key_38 : decode cX5_key 38 = .ok (.goto 15, 3) := by decide +kernel
theorem dX5_key_41 : decode cX5_key 41 = .ok (.aload_n 0, 1) := by decide +kernel
theorem dX5_key_42 : decode cX5_key 42 = .ok (.getfield 71, 3) := by decide +kernel
theorem dX5_key_45 : decode cX5_key 45 = .ok (.ifCond .ne 7, 3) := by decide +kernel
theorem dX5_key_48 : decode cX5_key 48 = .ok (.iconst 2, 1) := by decide +kernel
theorem dX5_key_49 : decode cX5_key 49 = .ok (.goto 4, 3) := by decide +kernel
theorem dX5_key_52 : decode cX5_key 52 = .ok (.iconst 0, 1) := by decide +kernel
theorem dX5_key_53 : decode cX5_key 53 = .ok (.invokevirtual 64, 3) := by decide +kernel
theorem dX5_key_56 : decode cX5_key 56 = .ok (.ifCond .eq 5, 3) := by decide +kernel
theorem dX5_key_59 : decode cX5_key 59 = .ok (.iconst 0, 1) := by decide +kernel
theorem dX5_key_60 : decode cX5_key 60 = .ok (.ireturn, 1) := by decide +kernel
theorem dX5_key_61 : decode cX5_key 61 = .ok (.iload_n 2, 1) := by decide +kernel
theorem dX5_key_62 : decode cX5_key 62 = .ok (.ifCond .ne 12, 3) := by decide +kernel
theorem dX5_key_65 : decode cX5_key 65 = .ok (.aload_n 0, 1) := by decide +kernel
theorem dX5_key_66 : decode cX5_key 66 = .ok (.getfield 29, 3) := by decide +kernel
theorem dX5_key_69 : decode cX5_key 69 = .ok (.iload_n 1, 1) := by decide +kernel
theorem dX5_key_70 : decode cX5_key 70 = .ok (.laload, 1) := by decide +kernel
theorem dX5_key_71 : decode cX5_key 71 = .ok (.goto 9, 3) := by decide +kernel
theorem dX5_key_74 : decode cX5_key 74 = .ok (.aload_n 0, 1) := by decide +kernel
theorem dX5_key_75 : decode cX5_key 75 = .ok (.getfield 32, 3) := by decide +kernel
theorem dX5_key_78 : decode cX5_key 78 = .ok (.iload_n 1, 1) := by decide +kernel
theorem dX5_key_79 : decode cX5_key 79 = .ok (.laload, 1) := by decide +kernel
theorem dX5_key_80 : decode cX5_key 80 = .ok (.l2i, 1) := by decide +kernel
theorem dX5_key_81 : decode cX5_key 81 = .ok (.ireturn, 1) := by decide +kernel
theorem dX5_message_0 : decode cX5_message 0 = .ok (.aload_n 0, 1) := by decide +kernel
theorem dX5_message_1 : decode cX5_message 1 = .ok (.lconst 0, 1) := by decide +kernel
theorem dX5_message_2 : decode cX5_message 2 = .ok (.putfield 45, 3) := by decide +kernel
theorem dX5_message_5 : decode cX5_message 5 = .ok (.aload_n 0, 1) := by decide +kernel
theorem dX5_message_6 : decode cX5_message 6 = .ok (.aload_n 0, 1) := by decide +kernel
theorem dX5_message_7 : decode cX5_message 7 = .ok (.getfield 35, 3) := by decide +kernel
theorem dX5_message_10 : decode cX5_message 10 = .ok (.aload_n 0, 1) := by decide +kernel
theorem dX5_message_11 : decode cX5_message 11 = .ok (.getfield 78, 3) := by decide +kernel
theorem dX5_message_14 : decode cX5_message 14 = .ok (.laload, 1) := by decide +kernel
theorem dX5_message_15 : decode cX5_message 15 = .ok (.invokevirtual 87, 3) := by decide +kernel
theorem dX5_message_18 : decode cX5_message 18 = .ok (.aload_n 0, 1) := by decide +kernel
theorem dX5_message_19 : decode cX5_message 19 = .ok (.aload_n 0, 1) := by decide +kernel
theorem dX5_message_20 : decode cX5_message 20 = .ok (.getfield 78, 3) := by decide +kernel
theorem dX5_message_23 : decode cX5_message 23 = .ok (.i2l, 1) := by decide +kernel
theorem dX5_message_24 : decode cX5_message 24 = .ok (.lconst 1, 1) := by decide +kernel
theorem dX5_message_25 : decode cX5_message 25 = .ok (.ladd, 1) := by decide +kernel
theorem dX5_message_26 : decode cX5_message 26 = .ok (.invokevirtual 87, 3) := by decide +kernel
theorem dX5_message_29 : decode cX5_message 29 = .ok (.aload_n 0, 1) := by decide +kernel
theorem dX5_message_30 : decode cX5_message 30 = .ok (.getfield 45, 3) := by decide +kernel
theorem dX5_message_33 : decode cX5_message 33 = .ok (.lreturn, 1) := by decide +kernel
theorem dX5_base_0 : decode cX5_base 0 = .ok (.aload_n 0, 1) := by decide +kernel
theorem dX5_base_1 : decode cX5_base 1 = .ok (.invokevirtual 113, 3) := by decide +kernel
theorem dX5_base_4 : decode cX5_base 4 = .ok (.ldc2_w 117, 3) := by decide +kernel
theorem dX5_base_7 : decode cX5_base 7 = .ok (.invokestatic 55, 3) := by decide +kernel
theorem dX5_base_10 : decode cX5_base 10 = .ok (.lconst 1, 1) := by decide +kernel
theorem dX5_base_11 : decode cX5_base 11 = .ok (.ladd, 1) := by decide +kernel
theorem dX5_base_12 : decode cX5_base 12 = .ok (.lstore_n 1, 1) := by decide +kernel
theorem dX5_base_13 : decode cX5_base 13 = .ok (.lload_n 1, 1) := by decide +kernel
theorem dX5_base_14 : decode cX5_base 14 = .ok (.lload_n 1, 1) := by decide +kernel
theorem dX5_base_15 : decode cX5_base 15 = .ok (.lmul, 1) := by decide +kernel
theorem dX5_base_16 : decode cX5_base 16 = .ok (.ldc2_w 93, 3) := by decide +kernel
theorem dX5_base_19 : decode cX5_base 19 = .ok (.lrem, 1) := by decide +kernel
theorem dX5_base_20 : decode cX5_base 20 = .ok (.lreturn, 1) := by decide +kernel
theorem dX5_round_0 : decode cX5_round 0 = .ok (.aload_n 0, 1) := by decide +kernel
theorem dX5_round_1 : decode cX5_round 1 = .ok (.aload_n 0, 1) := by decide +kernel
theorem dX5_round_2 : decode cX5_round 2 = .ok (.getfield 71, 3) := by decide +kernel
theorem dX5_round_5 : decode cX5_round 5 = .ok (.ifCond .ne 7, 3) := by decide +kernel
theorem dX5_round_8 : decode cX5_round 8 = .ok (.iconst 1, 1) := by decide +kernel
theorem dX5_round_9 : decode cX5_round 9 = .ok (.goto 17, 3) := by decide +kernel
theorem dX5_round_12 : decode cX5_round 12 = .ok (.iload_n 1, 1) := by decide +kernel
theorem dX5_round_13 : decode cX5_round 13 = .ok (.ifCond .lt 8, 3) := by decide +kernel
theorem dX5_round_16 : decode cX5_round 16 = .ok (.iload_n 1, 1) := by decide +kernel
theorem dX5_round_17 : decode cX5_round 17 = .ok (.iconst 3, 1) := by decide +kernel
theorem dX5_round_18 : decode cX5_round 18 = .ok (.if_icmp .le 7, 3) := by decide +kernel
theorem dX5_round_21 : decode cX5_round 21 = .ok (.iconst 2, 1) := by decide +kernel
theorem dX5_round_22 : decode cX5_round 22 = .ok (.goto 4, 3) := by decide +kernel
theorem dX5_round_25 : decode cX5_round 25 = .ok (.iconst 0, 1) := by decide +kernel
theorem dX5_round_26 : decode cX5_round 26 = .ok (.invokevirtual 64, 3) := by decide +kernel
theorem dX5_round_29 : decode cX5_round 29 = .ok (.ifCond .eq 5, 3) := by decide +kernel
theorem dX5_round_32 : decode cX5_round 32 = .ok (.iconst 0, 1) := by decide +kernel
theorem dX5_round_33 : decode cX5_round 33 = .ok (.ireturn, 1) := by decide +kernel
theorem dX5_round_34 : decode cX5_round 34 = .ok (.iconst 0, 1) := by decide +kernel
theorem dX5_round_35 : decode cX5_round 35 = .ok (.istore_n 2, 1) := by decide +kernel
theorem dX5_round_36 : decode cX5_round 36 = .ok (.iconst 1, 1) := by decide +kernel
theorem dX5_round_37 : decode cX5_round 37 = .ok (.istore_n 3, 1) := by decide +kernel
theorem dX5_round_38 : decode cX5_round 38 = .ok (.iload_n 3, 1) := by decide +kernel
theorem dX5_round_39 : decode cX5_round 39 = .ok (.aload_n 0, 1) := by decide +kernel
theorem dX5_round_40 : decode cX5_round 40 = .ok (.getfield 59, 3) := by decide +kernel
theorem dX5_round_43 : decode cX5_round 43 = .ok (.if_icmp .gt 20, 3) := by decide +kernel
theorem dX5_round_46 : decode cX5_round 46 = .ok (.iload_n 2, 1) := by decide +kernel
theorem dX5_round_47 : decode cX5_round 47 = .ok (.aload_n 0, 1) := by decide +kernel
theorem dX5_round_48 : decode cX5_round 48 = .ok (.getfield 81, 3) := by decide +kernel
theorem dX5_round_51 : decode cX5_round 51 = .ok (.iload_n 3, 1) := by decide +kernel
theorem dX5_round_52 : decode cX5_round 52 = .ok (.ishr, 1) := by decide +kernel
theorem dX5_round_53 : decode cX5_round 53 = .ok (.iconst 1, 1) := by decide +kernel
theorem dX5_round_54 : decode cX5_round 54 = .ok (.iand, 1) := by decide +kernel
theorem dX5_round_55 : decode cX5_round 55 = .ok (.iadd, 1) := by decide +kernel
theorem dX5_round_56 : decode cX5_round 56 = .ok (.istore_n 2, 1) := by decide +kernel
theorem dX5_round_57 : decode cX5_round 57 = .ok (.iinc 3 1, 3) := by decide +kernel
theorem dX5_round_60 : decode cX5_round 60 = .ok (.goto (-22), 3) := by decide +kernel
theorem dX5_round_63 : decode cX5_round 63 = .ok (.iload_n 1, 1) := by decide +kernel
theorem dX5_round_64 : decode cX5_round 64 = .ok (.ifCond .ne 12, 3) := by decide +kernel
theorem dX5_round_67 : decode cX5_round 67 = .ok (.aload_n 0, 1) := by decide +kernel
theorem dX5_round_68 : decode cX5_round 68 = .ok (.getfield 78, 3) := by decide +kernel
theorem dX5_round_71 : decode cX5_round 71 = .ok (.iconst 1, 1) := by decide +kernel
theorem dX5_round_72 : decode cX5_round 72 = .ok (.iadd, 1) := by decide +kernel
theorem dX5_round_73 : decode cX5_round 73 = .ok (.goto 29, 3) := by decide +kernel
theorem dX5_round_76 : decode cX5_round 76 = .ok (.iload_n 1, 1) := by decide +kernel
theorem dX5_round_77 : decode cX5_round 77 = .ok (.iconst 1, 1) := by decide +kernel
theorem dX5_round_78 : decode cX5_round 78 = .ok (.if_icmp .ne 11, 3) := by decide +kernel
theorem dX5_round_81 : decode cX5_round 81 = .ok (.aload_n 0, 1) := by decide +kernel
theorem dX5_round_82 : decode cX5_round 82 = .ok (.invokevirtual 119, 3) := by decide +kernel
theorem dX5_round_85 : decode cX5_round 85 = .ok (.l2i, 1) := by decide +kernel
