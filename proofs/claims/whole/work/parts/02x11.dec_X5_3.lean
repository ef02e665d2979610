theorem dX5_ended_5 : decode cX5_ended 5 = .ok (.getfield 71, 3) := by decide +kernel
theorem dX5_ended_8 : decode cX5_ended 8 = .ok (.ifCond .eq 11, 3) := by decide +kernel
theorem dX5_ended_11 : decode cX5_ended 11 = .ok (.iload_n 1, 1) := by decide +kernel
theorem dX5_ended_12 : decode cX5_ended 12 = .ok (.aload_n 0, 1) := by decide +kernel
theorem dX5_ended_13 : decode cX5_ended 13 = .ok (.getfield 78, 3) := by decide +kernel
theorem dX5_ended_16 : decode cX5_ended 16 = .ok (.if_icmp .gt 7, 3) := by decide +kernel
theorem dX5_ended_19 : decode cX5_ended 19 = .ok (.iconst 1, 1) := by decide +kernel
theorem dX5_ended_20 : decode cX5_ended 20 = .ok (.goto 4, 3) := by decide +kernel
theorem dX5_ended_23 : decode cX5_ended 23 = .ok (.iconst 0, 1) := by decide +kernel
theorem dX5_ended_24 : decode cX5_ended 24 = .ok (.istore_n 2, 1) := by decide +kernel
theorem dX5_ended_25 : decode cX5_ended 25 = .ok (.aload_n 0, 1) := by decide +kernel
theorem dX5_ended_26 : decode cX5_ended 26 = .ok (.iload_n 2, 1) := by decide +kernel
theorem dX5_ended_27 : decode cX5_ended 27 = .ok (.ifCond .ne 7, 3) := by decide +kernel
theorem dX5_ended_30 : decode cX5_ended 30 = .ok (.iconst 1, 1) := by decide +kernel
theorem dX5_ended_31 : decode cX5_ended 31 = .ok (.goto 15, 3) := by decide +kernel
theorem dX5_ended_34 : decode cX5_ended 34 = .ok (.aload_n 0, 1) := by decide +kernel
theorem dX5_ended_35 : decode cX5_ended 35 = .ok (.getfield 71, 3) := by decide +kernel
theorem dX5_ended_38 : decode cX5_ended 38 = .ok (.ifCond .ne 7, 3) := by decide +kernel
theorem dX5_ended_41 : decode cX5_ended 41 = .ok (.iconst 2, 1) := by decide +kernel
theorem dX5_ended_42 : decode cX5_ended 42 = .ok (.goto 4, 3) := by decide +kernel
theorem dX5_ended_45 : decode cX5_ended 45 = .ok (.iconst 0, 1) := by decide +kernel
theorem dX5_ended_46 : decode cX5_ended 46 = .ok (.invokevirtual 64, 3) := by decide +kernel
theorem dX5_ended_49 : decode cX5_ended 49 = .ok (.ifCond .eq 7, 3) := by decide +kernel
theorem dX5_ended_52 : decode cX5_ended 52 = .ok (.lconst 0, 1) := by decide +kernel
theorem dX5_ended_53 : decode cX5_ended 53 = .ok (.goto 9, 3) := by decide +kernel
theorem dX5_ended_56 : decode cX5_ended 56 = .ok (.aload_n 0, 1) := by decide +kernel
theorem dX5_ended_57 : decode cX5_ended 57 = .ok (.getfield 35, 3) := by decide +kernel
theorem dX5_ended_60 : decode cX5_ended 60 = .ok (.iload_n 1, 1) := by decide +kernel
theorem dX5_ended_61 : decode cX5_ended 61 = .ok (.laload, 1) := by decide +kernel
theorem dX5_ended_62 : decode cX5_ended 62 = .ok (.lreturn, 1) := by decide +kernel
theorem dX5_random_0 : decode cX5_random 0 = .ok (.iload_n 1, 1) := by decide +kernel
theorem dX5_random_1 : decode cX5_random 1 = .ok (.ifCond .lt 22, 3) := by decide +kernel
theorem dX5_random_4 : decode cX5_random 4 = .ok (.aload_n 0, 1) := by decide +kernel
theorem dX5_random_5 : decode cX5_random 5 = .ok (.getfield 71, 3) := by decide +kernel
theorem dX5_random_8 : decode cX5_random 8 = .ok (.ifCond .eq 11, 3) := by decide +kernel
theorem dX5_random_11 : decode cX5_random 11 = .ok (.iload_n 1, 1) := by decide +kernel
theorem dX5_random_12 : decode cX5_random 12 = .ok (.aload_n 0, 1) := by decide +kernel
theorem dX5_random_13 : decode cX5_random 13 = .ok (.getfield 78, 3) := by decide +kernel
theorem dX5_random_16 : decode cX5_random 16 = .ok (.if_icmp .gt 7, 3) := by decide +kernel
theorem dX5_random_19 : decode cX5_random 19 = .ok (.iconst 1, 1) := by decide +kernel
theorem dX5_random_20 : decode cX5_random 20 = .ok (.goto 4, 3) := by decide +kernel
theorem dX5_random_23 : decode cX5_random 23 = .ok (.iconst 0, 1) := by decide +kernel
theorem dX5_random_24 : decode cX5_random 24 = .ok (.istore_n 2, 1) := by decide +kernel
theorem dX5_random_25 : decode cX5_random 25 = .ok (.aload_n 0, 1) := by decide +kernel
theorem dX5_random_26 : decode cX5_random 26 = .ok (.iload_n 2, 1) := by decide +kernel
theorem dX5_random_27 : decode cX5_random 27 = .ok (.ifCond .ne 7, 3) := by decide +kernel
theorem dX5_random_30 : decode cX5_random 30 = .ok (.iconst 1, 1) := by decide +kernel
theorem dX5_random_31 : decode cX5_random 31 = .ok (.goto 15, 3) := by decide +kernel
theorem dX5_random_34 : decode cX5_random 34 = .ok (.aload_n 0, 1) := by decide +kernel
theorem dX5_random_35 : decode cX5_random 35 = .ok (.getfield 71, 3) := by decide +kernel
theorem dX5_random_38 : decode cX5_random 38 = .ok (.ifCond .ne 7, 3) := by decide +kernel
theorem dX5_random_41 : decode cX5_random 41 = .ok (.iconst 2, 1) := by decide +kernel
theorem dX5_random_42 : decode cX5_random 42 = .ok (.goto 4, 3) := by decide +kernel
theorem dX5_random_45 : decode cX5_random 45 = .ok (.iconst 0, 1) := by decide +kernel
theorem dX5_random_46 : decode cX5_random 46 = .ok (.invokevirtual 64, 3) := by decide +kernel
theorem dX5_random_49 : decode cX5_random 49 = .ok (.ifCond .eq 5, 3) := by decide +kernel
theorem dX5_random_52 : decode cX5_random 52 = .ok (.lconst 0, 1) := by decide +kernel
theorem dX5_random_53 : decode cX5_random 53 = .ok (.lreturn, 1) := by decide +kernel
theorem dX5_random_54 : decode cX5_random 54 = .ok (.aload_n 0, 1) := by decide +kernel
theorem dX5_random_55 : decode cX5_random 55 = .ok (.lconst 0, 1) := by decide +kernel
theorem dX5_random_56 : decode cX5_random 56 = .ok (.putfield 45, 3) := by decide +kernel
theorem dX5_random_59 : decode cX5_random 59 = .ok (.aload_n 0, 1) := by decide +kernel
theorem dX5_random_60 : decode cX5_random 60 = .ok (.aload_n 0, 1) := by decide +kernel
theorem dX5_random_61 : decode cX5_random 61 = .ok (.getfield 35, 3) := by decide +kernel
theorem dX5_random_64 : decode cX5_random 64 = .ok (.iload_n 1, 1) := by decide +kernel
theorem dX5_random_65 : decode cX5_random 65 = .ok (.laload, 1) := by decide +kernel
theorem dX5_random_66 : decode cX5_random 66 = .ok (.invokevirtual 87, 3) := by decide +kernel
theorem dX5_random_69 : decode cX5_random 69 = .ok (.aload_n 0, 1) := by decide +kernel
theorem dX5_random_70 : decode cX5_random 70 = .ok (.iload_n 1, 1) := by decide +kernel
theorem dX5_random_71 : decode cX5_random 71 = .ok (.i2l, 1) := by decide +kernel
theorem dX5_random_72 : decode cX5_random 72 = .ok (.invokevirtual 87, 3) := by decide +kernel
theorem dX5_random_75 : decode cX5_random 75 = .ok (.aload_n 0, 1) := by decide +kernel
theorem dX5_random_76 : decode cX5_random 76 = .ok (.getfield 45, 3) := by decide +kernel
theorem dX5_random_79 : decode cX5_random 79 = .ok (.lreturn, 1) := by decide +kernel
theorem dX5_about_0 : decode cX5_about 0 = .ok (.aload_n 0, 1) := by decide +kernel
theorem dX5_about_1 : decode cX5_about 1 = .ok (.iload_n 1, 1) := by decide +kernel
theorem dX5_about_2 : decode cX5_about 2 = .ok (.ifCond .lt 9, 3) := by decide +kernel
theorem dX5_about_5 : decode cX5_about 5 = .ok (.iload_n 1, 1) := by decide +kernel
theorem dX5_about_6 : decode cX5_about 6 = .ok (.bipush 7, 2) := by decide +kernel
theorem dX5_about_8 : decode cX5_about 8 = .ok (.if_icmp .le 7, 3) := by decide +kernel
theorem dX5_about_11 : decode cX5_about 11 = .ok (.iconst 1, 1) := by decide +kernel
theorem dX5_about_12 : decode cX5_about 12 = .ok (.goto 4, 3) := by decide +kernel
theorem dX5_about_15 : decode cX5_about 15 = .ok (.iconst 0, 1) := by decide +kernel
theorem dX5_about_16 : decode cX5_about 16 = .ok (.invokevirtual 64, 3) := by decide +kernel
theorem dX5_about_19 : decode cX5_about 19 = .ok (.ifCond .eq 5, 3) := by decide +kernel
theorem dX5_about_22 : decode cX5_about 22 = .ok (.iconst 0, 1) := by decide +kernel
theorem dX5_about_23 : decode cX5_about 23 = .ok (.ireturn, 1) := by decide +kernel
theorem dX5_about_24 : decode cX5_about 24 = .ok (.iconst 0, 1) := by decide +kernel
theorem dX5_about_25 : decode cX5_about 25 = .ok (.istore_n 2, 1) := by decide +kernel
theorem dX5_about_26 : decode cX5_about 26 = .ok (.iconst 1, 1) := by decide +kernel
theorem dX5_about_27 : decode cX5_about 27 = .ok (.istore_n 3, 1) := by decide +kernel
theorem dX5_about_28 : decode cX5_about 28 = .ok (.iload_n 3, 1) := by decide +kernel
theorem dX5_about_29 : decode cX5_about 29 = .ok (.aload_n 0, 1) := by decide +kernel
theorem dX5_about_30 : decode cX5_about 30 = .ok (.getfield 59, 3) := by decide +kernel
theorem dX5_about_33 : decode cX5_about 33 = .ok (.if_icmp .gt 62, 3) := by decide +kernel
theorem dX5_about_36 : decode cX5_about 36 = .ok (.iload_n 2, 1) := by decide +kernel
theorem dX5_about_37 : decode cX5_about 37 = .ok (.iload_n 1, 1) := by decide +kernel
theorem dX5_about_38 : decode cX5_about 38 = .ok (.iconst 2, 1) := by decide +kernel
theorem dX5_about_39 : decode cX5_about 39 = .ok (.if_icmp .ne 12, 3) := by decide +kernel
theorem dX5_about_42 : decode cX5_about 42 = .ok (.aload_n 0, 1) := by decide +kernel
theorem dX5_about_43 : decode cX5_about 43 = .ok (.getfield 7, 3) := by decide +kernel
theorem dX5_about_46 : decode cX5_about 46 = .ok (.iload_n 3, 1) := by decide +kernel
theorem dX5_about_47 : decode cX5_about 47 = .ok (.baload, 1) := by decide +kernel
theorem dX5_about_48 : decode cX5_about 48 = .ok (.ifCond .ne 34, 3) := by decide +kernel
theorem dX5_about_51 : decode cX5_about 51 = .ok (.iload_n 1, 1) := by decide +kernel
theorem dX5_about_52 : decode cX5_about 52 = .ok (.iconst 4, 1) := by decide +kernel
theorem dX5_about_53 : decode cX5_about 53 = .ok (.if_icmp .ne 12, 3) := by decide +kernel
theorem dX5_about_56 : decode cX5_about 56 = .ok (.aload_n 0, 1) := by decide +kernel
theorem dX5_about_57 : decode cX5_about 57 = .ok (.getfield 13, 3) := by decide +kernel
theorem dX5_about_60 : decode cX5_about 60 = .ok (.iload_n 3, 1) := by decide +kernel
theorem dX5_about_61 : decode cX5_about 61 = .ok (.baload, 1) := by decide +kernel
theorem dX5_about_62 : decode cX5_about 62 = .ok (.ifCond .ne 20, 3) := by decide +kernel
theorem dX5_about_65 : decode cX5_about 65 = .ok (.iload_n 1, 1) := by decide +kernel
theorem dX5_about_66 : decode cX5_about 66 = .ok (.iconst 5, 1) := by decide +kernel
theorem dX5_about_67 : decode cX5_about 67 = .ok (.if_icmp .ne 19, 3) := by decide +kernel
theorem dX5_about_70 : decode cX5_about 70 = .ok (.aload_n 0, 1) := by decide +kernel
theorem dX5_about_71 : decode cX5_about 71 = .ok (.getfield 75, 3) := by decide +kernel
theorem dX5_about_74 : decode cX5_about 74 = .ok (.iload_n 3, 1) := by decide +kernel
theorem dX5_about_75 : decode cX5_about 75 = .ok (.ishr, 1) := by decide +kernel
theorem dX5_about_76 : decode cX5_about 76 = .ok (.iconst 1, 1) := by decide +kernel
theorem dX5_about_77 : decode cX5_about 77 = .ok (.iand, 1) := by decide +kernel
theorem dX5_about_78 : decode cX5_about 78 = .ok (.iconst 1, 1) := by decide +kernel
theorem dX5_about_79 : decode cX5_about 79 = .ok (.if_icmp .ne 7, 3) := by decide +kernel
theorem dX5_about_82 : decode cX5_about 82 = .ok (.iconst 1, 1) := by decide +kernel
theorem dX5_about_83 : decode cX5_about 83 = .ok (.goto 4, 3) := by decide +kernel
theorem dX5_about_86 : decode cX5_about 86 = .ok (.iconst 0, 1) := by decide +kernel
theorem dX5_about_87 : decode cX5_about 87 = .ok (.iadd, 1) := by decide +kernel
theorem dX5_about_88 : decode cX5_about 88 = .ok (.istore_n 2, 1) := by decide +kernel
theorem dX5_about_89 : decode cX5_about 89 = .ok (.iinc 3 1, 3) := by decide +kernel
theorem dX5_about_92 : decode cX5_about 92 = .ok (.goto (-64), 3) := by decide +kernel
theorem dX5_about_95 : decode cX5_about 95 = .ok (.iload_n 1, 1) := by decide +kernel
theorem dX5_about_96 : decode cX5_about 96 = .ok (.tableswitch 74 0 7 #[48, 53, 74, 58, 74, 74, 64, 69], 48) := by decide +kernel
theorem dX5_about_144 : decode cX5_about 144 = .ok (.aload_n 0, 1) := by decide +kernel
theorem dX5_about_145 : decode cX5_about 145 = .ok (.getfield 59, 3) := by decide +kernel
theorem dX5_about_148 : decode cX5_about 148 = .ok (.ireturn, 1) := by decide +kernel
theorem dX5_about_149 : decode cX5_about 149 = .ok (.aload_n 0, 1) := by decide +kernel
theorem dX5_about_150 : decode cX5_about 150 = .ok (.getfield 68, 3) := by decide +kernel
theorem dX5_about_153 : decode cX5_about 153 = .ok (.ireturn, 1) := by decide +kernel
theorem dX5_about_154 : decode cX5_about 154 = .ok (.aload_n 0, 1) := by decide +kernel
theorem dX5_about_155 : decode cX5_about 155 = .ok (.iconst 0, 1) := by decide +kernel
theorem dX5_about_156 : decode cX5_about 156 = .ok (.invokevirtual 106, 3) := by decide +kernel
theorem dX5_about_159 : decode cX5_about 159 = .ok (.ireturn, 1) := by decide +kernel
theorem dX5_about_160 : decode cX5_about 160 = .ok (.aload_n 0, 1) := by decide +kernel
theorem dX5_about_161 : decode cX5_about 161 = .ok (.getfield 75, 3) := by decide +kernel
theorem dX5_about_164 : decode cX5_about 164 = .ok (.ireturn, 1) := by decide +kernel
theorem dX5_about_165 : decode cX5_about 165 = .ok (.aload_n 0, 1) := by decide +kernel
theorem dX5_about_166 : decode cX5_about 166 = .ok (.getfield 78, 3) := by decide +kernel
theorem dX5_about_169 : decode cX5_about 169 = .ok (.ireturn, 1) := by decide +kernel
theorem dX5_about_170 : decode cX5_about 170 = .ok (.iload_n 2, 1) := by decide +kernel
theorem dX5_about_171 : decode cX5_about 171 = .ok (.ireturn, 1) := by decide +kernel
