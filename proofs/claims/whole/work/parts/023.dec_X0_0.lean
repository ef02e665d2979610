theorem dX0_init_0 : decode cX0_init 0 = .ok (.aload_n 0, 1) := by decide +kernel
theorem dX0_init_1 : decode cX0_init 1 = .ok (.invokespecial 3, 3) := by decide +kernel
theorem dX0_init_4 : decode cX0_init 4 = .ok (.aload_n 0, 1) := by decide +kernel
theorem dX0_init_5 : decode cX0_init 5 = .ok (.bipush 16, 2) := by decide +kernel
theorem dX0_init_7 : decode cX0_init 7 = .ok (.newarray .int, 2) := by decide +kernel
theorem dX0_init_9 : decode cX0_init 9 = .ok (.putfield 9, 3) := by decide +kernel
theorem dX0_init_12 : decode cX0_init 12 = .ok (.aload_n 0, 1) := by decide +kernel
theorem dX0_init_13 : decode cX0_init 13 = .ok (.bipush 17, 2) := by decide +kernel
theorem dX0_init_15 : decode cX0_init 15 = .ok (.newarray .int, 2) := by decide +kernel
theorem dX0_init_17 : decode cX0_init 17 = .ok (.putfield 15, 3) := by decide +kernel
theorem dX0_init_20 : decode cX0_init 20 = .ok (.aload_n 0, 1) := by decide +kernel
theorem dX0_init_21 : decode cX0_init 21 = .ok (.bipush 17, 2) := by decide +kernel
theorem dX0_init_23 : decode cX0_init 23 = .ok (.newarray .int, 2) := by decide +kernel
theorem dX0_init_25 : decode cX0_init 25 = .ok (.putfield 18, 3) := by decide +kernel
theorem dX0_init_28 : decode cX0_init 28 = .ok (.return_, 1) := by decide +kernel
theorem dX0_forget_0 : decode cX0_forget 0 = .ok (.aload_n 0, 1) := by decide +kernel
theorem dX0_forget_1 : decode cX0_forget 1 = .ok (.iconst 0, 1) := by decide +kernel
theorem dX0_forget_2 : decode cX0_forget 2 = .ok (.putfield 21, 3) := by decide +kernel
theorem dX0_forget_5 : decode cX0_forget 5 = .ok (.aload_n 0, 1) := by decide +kernel
theorem dX0_forget_6 : decode cX0_forget 6 = .ok (.iconst 0, 1) := by decide +kernel
theorem dX0_forget_7 : decode cX0_forget 7 = .ok (.putfield 25, 3) := by decide +kernel
theorem dX0_forget_10 : decode cX0_forget 10 = .ok (.aload_n 0, 1) := by decide +kernel
theorem dX0_forget_11 : decode cX0_forget 11 = .ok (.iconst 0, 1) := by decide +kernel
theorem dX0_forget_12 : decode cX0_forget 12 = .ok (.putfield 29, 3) := by decide +kernel
theorem dX0_forget_15 : decode cX0_forget 15 = .ok (.return_, 1) := by decide +kernel
theorem dX0_dealBySeed_0 : decode cX0_dealBySeed 0 = .ok (.iconst 1, 1) := by decide +kernel
theorem dX0_dealBySeed_1 : decode cX0_dealBySeed 1 = .ok (.istore 6, 2) := by decide +kernel
theorem dX0_dealBySeed_3 : decode cX0_dealBySeed 3 = .ok (.iload 6, 2) := by decide +kernel
theorem dX0_dealBySeed_5 : decode cX0_dealBySeed 5 = .ok (.iload 4, 2) := by decide +kernel
theorem dX0_dealBySeed_7 : decode cX0_dealBySeed 7 = .ok (.if_icmp .gt 17, 3) := by decide +kernel
theorem dX0_dealBySeed_10 : decode cX0_dealBySeed 10 = .ok (.aload_n 0, 1) := by decide +kernel
theorem dX0_dealBySeed_11 : decode cX0_dealBySeed 11 = .ok (.getfield 15, 3) := by decide +kernel
theorem dX0_dealBySeed_14 : decode cX0_dealBySeed 14 = .ok (.iload 6, 2) := by decide +kernel
theorem dX0_dealBySeed_16 : decode cX0_dealBySeed 16 = .ok (.iconst 0, 1) := by decide +kernel
theorem dX0_dealBySeed_17 : decode cX0_dealBySeed 17 = .ok (.iastore, 1) := by decide +kernel
theorem dX0_dealBySeed_18 : decode cX0_dealBySeed 18 = .ok (.iinc 6 1, 3) := by decide +kernel
theorem dX0_dealBySeed_21 : decode cX0_dealBySeed 21 = .ok (.goto (-18), 3) := by decide +kernel
theorem dX0_dealBySeed_24 : decode cX0_dealBySeed 24 = .ok (.iload 5, 2) := by decide +kernel
theorem dX0_dealBySeed_26 : decode cX0_dealBySeed 26 = .ok (.iconst 1, 1) := by decide +kernel
theorem dX0_dealBySeed_27 : decode cX0_dealBySeed 27 = .ok (.isub, 1) := by decide +kernel
theorem dX0_dealBySeed_28 : decode cX0_dealBySeed 28 = .ok (.istore 6, 2) := by decide +kernel
theorem dX0_dealBySeed_30 : decode cX0_dealBySeed 30 = .ok (.iload 6, 2) := by decide +kernel
theorem dX0_dealBySeed_32 : decode cX0_dealBySeed 32 = .ok (.ifCond .lt 81, 3) := by decide +kernel
theorem dX0_dealBySeed_35 : decode cX0_dealBySeed 35 = .ok (.lload_n 2, 1) := by decide +kernel
theorem dX0_dealBySeed_36 : decode cX0_dealBySeed 36 = .ok (.iload_n 1, 1) := by decide +kernel
theorem dX0_dealBySeed_37 : decode cX0_dealBySeed 37 = .ok (.i2l, 1) := by decide +kernel
theorem dX0_dealBySeed_38 : decode cX0_dealBySeed 38 = .ok (.invokestatic 32, 3) := by decide +kernel
theorem dX0_dealBySeed_41 : decode cX0_dealBySeed 41 = .ok (.iload 6, 2) := by decide +kernel
theorem dX0_dealBySeed_43 : decode cX0_dealBySeed 43 = .ok (.i2l, 1) := by decide +kernel
theorem dX0_dealBySeed_44 : decode cX0_dealBySeed 44 = .ok (.invokestatic 38, 3) := by decide +kernel
theorem dX0_dealBySeed_47 : decode cX0_dealBySeed 47 = .ok (.invokestatic 41, 3) := by decide +kernel
theorem dX0_dealBySeed_50 : decode cX0_dealBySeed 50 = .ok (.istore 7, 2) := by decide +kernel
theorem dX0_dealBySeed_52 : decode cX0_dealBySeed 52 = .ok (.aload_n 0, 1) := by decide +kernel
theorem dX0_dealBySeed_53 : decode cX0_dealBySeed 53 = .ok (.getfield 9, 3) := by decide +kernel
theorem dX0_dealBySeed_56 : decode cX0_dealBySeed 56 = .ok (.iload 6, 2) := by decide +kernel
theorem dX0_dealBySeed_58 : decode cX0_dealBySeed 58 = .ok (.iconst 4, 1) := by decide +kernel
theorem dX0_dealBySeed_59 : decode cX0_dealBySeed 59 = .ok (.iload 7, 2) := by decide +kernel
theorem dX0_dealBySeed_61 : decode cX0_dealBySeed 61 = .ok (.invokestatic 45, 3) := by decide +kernel
theorem dX0_dealBySeed_64 : decode cX0_dealBySeed 64 = .ok (.iastore, 1) := by decide +kernel
theorem dX0_dealBySeed_65 : decode cX0_dealBySeed 65 = .ok (.iconst 1, 1) := by decide +kernel
theorem dX0_dealBySeed_66 : decode cX0_dealBySeed 66 = .ok (.istore 8, 2) := by decide +kernel
theorem dX0_dealBySeed_68 : decode cX0_dealBySeed 68 = .ok (.iload 8, 2) := by decide +kernel
theorem dX0_dealBySeed_70 : decode cX0_dealBySeed 70 = .ok (.iload 4, 2) := by decide +kernel
theorem dX0_dealBySeed_72 : decode cX0_dealBySeed 72 = .ok (.if_icmp .gt 35, 3) := by decide +kernel
theorem dX0_dealBySeed_75 : decode cX0_dealBySeed 75 = .ok (.aload_n 0, 1) := by decide +kernel
theorem dX0_dealBySeed_76 : decode cX0_dealBySeed 76 = .ok (.getfield 15, 3) := by decide +kernel
theorem dX0_dealBySeed_79 : decode cX0_dealBySeed 79 = .ok (.iload 8, 2) := by decide +kernel
theorem dX0_dealBySeed_81 : decode cX0_dealBySeed 81 = .ok (.aload_n 0, 1) := by decide +kernel
theorem dX0_dealBySeed_82 : decode cX0_dealBySeed 82 = .ok (.getfield 15, 3) := by decide +kernel
theorem dX0_dealBySeed_85 : decode cX0_dealBySeed 85 = .ok (.iload 8, 2) := by decide +kernel
theorem dX0_dealBySeed_87 : decode cX0_dealBySeed 87 = .ok (.iaload, 1) := by decide +kernel
theorem dX0_dealBySeed_88 : decode cX0_dealBySeed 88 = .ok (.i2l, 1) := by decide +kernel
theorem dX0_dealBySeed_89 : decode cX0_dealBySeed 89 = .ok (.iload 8, 2) := by decide +kernel
theorem dX0_dealBySeed_91 : decode cX0_dealBySeed 91 = .ok (.i2l, 1) := by decide +kernel
theorem dX0_dealBySeed_92 : decode cX0_dealBySeed 92 = .ok (.lmul, 1) := by decide +kernel
theorem dX0_dealBySeed_93 : decode cX0_dealBySeed 93 = .ok (.iload 7, 2) := by decide +kernel
theorem dX0_dealBySeed_95 : decode cX0_dealBySeed 95 = .ok (.i2l, 1) := by decide +kernel
theorem dX0_dealBySeed_96 : decode cX0_dealBySeed 96 = .ok (.ladd, 1) := by decide +kernel
theorem dX0_dealBySeed_97 : decode cX0_dealBySeed 97 = .ok (.invokestatic 41, 3) := by decide +kernel
theorem dX0_dealBySeed_100 : decode cX0_dealBySeed 100 = .ok (.iastore, 1) := by decide +kernel
theorem dX0_dealBySeed_101 : decode cX0_dealBySeed 101 = .ok (.iinc 8 1, 3) := by decide +kernel
theorem dX0_dealBySeed_104 : decode cX0_dealBySeed 104 = .ok (.goto (-36), 3) := by decide +kernel
theorem dX0_dealBySeed_107 : decode cX0_dealBySeed 107 = .ok (.iinc 6 (-1), 3) := by decide +kernel
theorem dX0_dealBySeed_110 : decode cX0_dealBySeed 110 = .ok (.goto (-80), 3) := by decide +kernel
theorem dX0_dealBySeed_113 : decode cX0_dealBySeed 113 = .ok (.iconst 1, 1) := by decide +kernel
theorem dX0_dealBySeed_114 : decode cX0_dealBySeed 114 = .ok (.istore 6, 2) := by decide +kernel
theorem dX0_dealBySeed_116 : decode cX0_dealBySeed 116 = .ok (.iload 6, 2) := by decide +kernel
theorem dX0_dealBySeed_118 : decode cX0_dealBySeed 118 = .ok (.iload 4, 2) := by decide +kernel
theorem dX0_dealBySeed_120 : decode cX0_dealBySeed 120 = .ok (.if_icmp .gt 23, 3) := by decide +kernel
theorem dX0_dealBySeed_123 : decode cX0_dealBySeed 123 = .ok (.aload_n 0, 1) := by decide +kernel
theorem dX0_dealBySeed_124 : decode cX0_dealBySeed 124 = .ok (.getfield 18, 3) := by decide +kernel
theorem dX0_dealBySeed_127 : decode cX0_dealBySeed 127 = .ok (.iload 6, 2) := by decide +kernel
theorem dX0_dealBySeed_129 : decode cX0_dealBySeed 129 = .ok (.aload_n 0, 1) := by decide +kernel
theorem dX0_dealBySeed_130 : decode cX0_dealBySeed 130 = .ok (.getfield 15, 3) := by decide +kernel
theorem dX0_dealBySeed_133 : decode cX0_dealBySeed 133 = .ok (.iload 6, 2) := by decide +kernel
theorem dX0_dealBySeed_135 : decode cX0_dealBySeed 135 = .ok (.iaload, 1) := by decide +kernel
theorem dX0_dealBySeed_136 : decode cX0_dealBySeed 136 = .ok (.iastore, 1) := by decide +kernel
theorem dX0_dealBySeed_137 : decode cX0_dealBySeed 137 = .ok (.iinc 6 1, 3) := by decide +kernel
theorem dX0_dealBySeed_140 : decode cX0_dealBySeed 140 = .ok (.goto (-24), 3) := by decide +kernel
theorem dX0_dealBySeed_143 : decode cX0_dealBySeed 143 = .ok (.aload_n 0, 1) := by decide +kernel
theorem dX0_dealBySeed_144 : decode cX0_dealBySeed 144 = .ok (.iconst 1, 1) := by decide +kernel
theorem dX0_dealBySeed_145 : decode cX0_dealBySeed 145 = .ok (.putfield 25, 3) := by decide +kernel
theorem dX0_dealBySeed_148 : decode cX0_dealBySeed 148 = .ok (.return_, 1) := by decide +kernel
theorem dX0_addToGiven_0 : decode cX0_addToGiven 0 = .ok (.aload_n 0, 1) := by decide +kernel
theorem dX0_addToGiven_1 : decode cX0_addToGiven 1 = .ok (.getfield 18, 3) := by decide +kernel
theorem dX0_addToGiven_4 : decode cX0_addToGiven 4 = .ok (.iload_n 1, 1) := by decide +kernel
theorem dX0_addToGiven_5 : decode cX0_addToGiven 5 = .ok (.iaload, 1) := by decide +kernel
theorem dX0_addToGiven_6 : decode cX0_addToGiven 6 = .ok (.istore_n 3, 1) := by decide +kernel
theorem dX0_addToGiven_7 : decode cX0_addToGiven 7 = .ok (.aload_n 0, 1) := by decide +kernel
theorem dX0_addToGiven_8 : decode cX0_addToGiven 8 = .ok (.getfield 18, 3) := by decide +kernel
theorem dX0_addToGiven_11 : decode cX0_addToGiven 11 = .ok (.iload_n 1, 1) := by decide +kernel
theorem dX0_addToGiven_12 : decode cX0_addToGiven 12 = .ok (.iload_n 3, 1) := by decide +kernel
theorem dX0_addToGiven_13 : decode cX0_addToGiven 13 = .ok (.i2l, 1) := by decide +kernel
theorem dX0_addToGiven_14 : decode cX0_addToGiven 14 = .ok (.iload_n 2, 1) := by decide +kernel
theorem dX0_addToGiven_15 : decode cX0_addToGiven 15 = .ok (.i2l, 1) := by decide +kernel
theorem dX0_addToGiven_16 : decode cX0_addToGiven 16 = .ok (.ladd, 1) := by decide +kernel
theorem dX0_addToGiven_17 : decode cX0_addToGiven 17 = .ok (.invokestatic 41, 3) := by decide +kernel
theorem dX0_addToGiven_20 : decode cX0_addToGiven 20 = .ok (.iastore, 1) := by decide +kernel
theorem dX0_addToGiven_21 : decode cX0_addToGiven 21 = .ok (.iload_n 3, 1) := by decide +kernel
theorem dX0_addToGiven_22 : decode cX0_addToGiven 22 = .ok (.ireturn, 1) := by decide +kernel
theorem dX0_isRightShare_0 : decode cX0_isRightShare 0 = .ok (.iload_n 2, 1) := by decide +kernel
theorem dX0_isRightShare_1 : decode cX0_isRightShare 1 = .ok (.aload_n 0, 1) := by decide +kernel
theorem dX0_isRightShare_2 : decode cX0_isRightShare 2 = .ok (.getfield 15, 3) := by decide +kernel
theorem dX0_isRightShare_5 : decode cX0_isRightShare 5 = .ok (.iload_n 1, 1) := by decide +kernel
theorem dX0_isRightShare_6 : decode cX0_isRightShare 6 = .ok (.iaload, 1) := by decide +kernel
theorem dX0_isRightShare_7 : decode cX0_isRightShare 7 = .ok (.if_icmp .ne 7, 3) := by decide +kernel
theorem dX0_isRightShare_10 : decode cX0_isRightShare 10 = .ok (.iconst 1, 1) := by decide +kernel
theorem dX0_isRightShare_11 : decode cX0_isRightShare 11 = .ok (.goto 4, 3) := by decide +kernel
theorem dX0_isRightShare_14 : decode cX0_isRightShare 14 = .ok (.iconst 0, 1) := by decide +kernel
theorem dX0_isRightShare_15 : decode cX0_isRightShare 15 = .ok (.ireturn, 1) := by decide +kernel
theorem dX0_gatherComplaints_0 : decode cX0_gatherComplaints 0 = .ok (.aload_n 0, 1) := by decide +kernel
theorem dX0_gatherComplaints_1 : decode cX0_gatherComplaints 1 = .ok (.getfield 25, 3) := by decide +kernel
theorem dX0_gatherComplaints_4 : decode cX0_gatherComplaints 4 = .ok (.ifCond .ne 4, 3) := by decide +kernel
theorem dX0_gatherComplaints_7 : decode cX0_gatherComplaints 7 = .ok (.return_, 1) := by decide +kernel
theorem dX0_gatherComplaints_8 : decode cX0_gatherComplaints 8 = .ok (.iconst 1, 1) := by decide +kernel
theorem dX0_gatherComplaints_9 : decode cX0_gatherComplaints 9 = .ok (.istore_n 2, 1) := by decide +kernel
theorem dX0_gatherComplaints_10 : decode cX0_gatherComplaints 10 = .ok (.iload_n 2, 1) := by decide +kernel
theorem dX0_gatherComplaints_11 : decode cX0_gatherComplaints 11 = .ok (.iload_n 1, 1) := by decide +kernel
theorem dX0_gatherComplaints_12 : decode cX0_gatherComplaints 12 = .ok (.if_icmp .gt 35, 3) := by decide +kernel
theorem dX0_gatherComplaints_15 : decode cX0_gatherComplaints 15 = .ok (.aload_n 0, 1) := by decide +kernel
theorem dX0_gatherComplaints_16 : decode cX0_gatherComplaints 16 = .ok (.iload_n 2, 1) := by decide +kernel
theorem dX0_gatherComplaints_17 : decode cX0_gatherComplaints 17 = .ok (.aload_n 0, 1) := by decide +kernel
theorem dX0_gatherComplaints_18 : decode cX0_gatherComplaints 18 = .ok (.getfield 18, 3) := by decide +kernel
theorem dX0_gatherComplaints_21 : decode cX0_gatherComplaints 21 = .ok (.iload_n 2, 1) := by decide +kernel
theorem dX0_gatherComplaints_22 : decode cX0_gatherComplaints 22 = .ok (.iaload, 1) := by decide +kernel
theorem dX0_gatherComplaints_23 : decode cX0_gatherComplaints 23 = .ok (.invokevirtual 49, 3) := by decide +kernel
theorem dX0_gatherComplaints_26 : decode cX0_gatherComplaints 26 = .ok (.ifCond .ne 15, 3) := by decide +kernel
theorem dX0_gatherComplaints_29 : decode cX0_gatherComplaints 29 = .ok (.aload_n 0, 1) := by decide +kernel
theorem dX0_gatherComplaints_30 : decode cX0_gatherComplaints 30 = .ok (.dup, 1) := by decide +kernel
theorem dX0_gatherComplaints_31 : decode cX0_gatherComplaints 31 = .ok (.getfield 21, 3) := by decide +kernel
theorem dX0_gatherComplaints_34 : decode cX0_gatherComplaints 34 = .ok (.iconst 1, 1) := by decide +kernel
theorem dX0_gatherComplaints_35 : decode cX0_gatherComplaints 35 = .ok (.iload_n 2, 1) := by decide +kernel
theorem dX0_gatherComplaints_36 : decode cX0_gatherComplaints 36 = .ok (.ishl, 1) := by decide +kernel
theorem dX0_gatherComplaints_37 : decode cX0_gatherComplaints 37 = .ok (.ior, 1) := by decide +kernel
theorem dX0_gatherComplaints_38 : decode cX0_gatherComplaints 38 = .ok (.putfield 21, 3) := by decide +kernel
theorem dX0_gatherComplaints_41 : decode cX0_gatherComplaints 41 = .ok (.iinc 2 1, 3) := by decide +kernel
theorem dX0_gatherComplaints_44 : decode cX0_gatherComplaints 44 = .ok (.goto (-34), 3) := by decide +kernel
theorem dX0_gatherComplaints_47 : decode cX0_gatherComplaints 47 = .ok (.return_, 1) := by decide +kernel
theorem dX0_hasComplaintOf_0 : decode cX0_hasComplaintOf 0 = .ok (.aload_n 0, 1) := by decide +kernel
theorem dX0_hasComplaintOf_1 : decode cX0_hasComplaintOf 1 = .ok (.getfield 21, 3) := by decide +kernel
theorem dX0_hasComplaintOf_4 : decode cX0_hasComplaintOf 4 = .ok (.iload_n 1, 1) := by decide +kernel
theorem dX0_hasComplaintOf_5 : decode cX0_hasComplaintOf 5 = .ok (.invokestatic 53, 3) := by decide +kernel
theorem dX0_hasComplaintOf_8 : decode cX0_hasComplaintOf 8 = .ok (.ireturn, 1) := by decide +kernel
theorem dX0_answerComplaint_0 : decode cX0_answerComplaint 0 = .ok (.aload_n 0, 1) := by decide +kernel
theorem dX0_answerComplaint_1 : decode cX0_answerComplaint 1 = .ok (.getfield 15, 3) := by decide +kernel
theorem dX0_answerComplaint_4 : decode cX0_answerComplaint 4 = .ok (.iload_n 1, 1) := by decide +kernel
theorem dX0_answerComplaint_5 : decode cX0_answerComplaint 5 = .ok (.iaload, 1) := by decide +kernel
theorem dX0_answerComplaint_6 : decode cX0_answerComplaint 6 = .ok (.i2l, 1) := by decide +kernel
theorem dX0_answerComplaint_7 : decode cX0_answerComplaint 7 = .ok (.iload_n 2, 1) := by decide +kernel
theorem dX0_answerComplaint_8 : decode cX0_answerComplaint 8 = .ok (.i2l, 1) := by decide +kernel
theorem dX0_answerComplaint_9 : decode cX0_answerComplaint 9 = .ok (.ladd, 1) := by decide +kernel
theorem dX0_answerComplaint_10 : decode cX0_answerComplaint 10 = .ok (.invokestatic 41, 3) := by decide +kernel
theorem dX0_answerComplaint_13 : decode cX0_answerComplaint 13 = .ok (.istore_n 3, 1) := by decide +kernel
theorem dX0_answerComplaint_14 : decode cX0_answerComplaint 14 = .ok (.aload_n 0, 1) := by decide +kernel
theorem dX0_answerComplaint_15 : decode cX0_answerComplaint 15 = .ok (.iload_n 1, 1) := by decide +kernel
theorem dX0_answerComplaint_16 : decode cX0_answerComplaint 16 = .ok (.iload_n 3, 1) := by decide +kernel
theorem dX0_answerComplaint_17 : decode cX0_answerComplaint 17 = .ok (.invokevirtual 49, 3) := by decide +kernel
theorem dX0_answerComplaint_20 : decode cX0_answerComplaint 20 = .ok (.ifCond .ne 10, 3) := by decide +kernel
theorem dX0_answerComplaint_23 : decode cX0_answerComplaint 23 = .ok (.aload_n 0, 1) := by decide +kernel
theorem dX0_answerComplaint_24 : decode cX0_answerComplaint 24 = .ok (.iconst 1, 1) := by decide +kernel
theorem dX0_answerComplaint_25 : decode cX0_answerComplaint 25 = .ok (.putfield 29, 3) := by decide +kernel
theorem dX0_answerComplaint_28 : decode cX0_answerComplaint 28 = .ok (.iconst 0, 1) := by decide +kernel
theorem dX0_answerComplaint_29 : decode cX0_answerComplaint 29 = .ok (.ireturn, 1) := by decide +kernel
theorem dX0_answerComplaint_30 : decode cX0_answerComplaint 30 = .ok (.aload_n 0, 1) := by decide +kernel
theorem dX0_answerComplaint_31 : decode cX0_answerComplaint 31 = .ok (.getfield 18, 3) := by decide +kernel
theorem dX0_answerComplaint_34 : decode cX0_answerComplaint 34 = .ok (.iload_n 1, 1) := by decide +kernel
theorem dX0_answerComplaint_35 : decode cX0_answerComplaint 35 = .ok (.iload_n 3, 1) := by decide +kernel
theorem dX0_answerComplaint_36 : decode cX0_answerComplaint 36 = .ok (.iastore, 1) := by decide +kernel
theorem dX0_answerComplaint_37 : decode cX0_answerComplaint 37 = .ok (.aload_n 0, 1) := by decide +kernel
theorem dX0_answerComplaint_38 : decode cX0_answerComplaint 38 = .ok (.dup, 1) := by decide +kernel
theorem dX0_answerComplaint_39 : decode cX0_answerComplaint 39 = .ok (.getfield 21, 3) := by decide +kernel
theorem dX0_answerComplaint_42 : decode cX0_answerComplaint 42 = .ok (.iconst 1, 1) := by decide +kernel
theorem dX0_answerComplaint_43 : decode cX0_answerComplaint 43 = .ok (.iload_n 1, 1) := by decide +kernel
theorem dX0_answerComplaint_44 : decode cX0_answerComplaint 44 = .ok (.ishl, 1) := by decide +kernel
theorem dX0_answerComplaint_45 : decode cX0_answerComplaint 45 = .ok (.iconst (-1), 1) := by decide +kernel
theorem dX0_answerComplaint_46 : decode cX0_answerComplaint 46 = .ok (.ixor, 1) := by decide +kernel
theorem dX0_answerComplaint_47 : decode cX0_answerComplaint 47 = .ok (.iand, 1) := by decide +kernel
theorem dX0_answerComplaint_48 : decode cX0_answerComplaint 48 = .ok (.putfield 21, 3) := by decide +kernel
theorem dX0_answerComplaint_51 : decode cX0_answerComplaint 51 = .ok (.iconst 1, 1) := by decide +kernel
theorem dX0_answerComplaint_52 : decode cX0_answerComplaint 52 = .ok (.ireturn, 1) := by decide +kernel
theorem dX0_mayQualify_0 : decode cX0_mayQualify 0 = .ok (.aload_n 0, 1) := by decide +kernel
theorem dX0_mayQualify_1 : decode cX0_mayQualify 1 = .ok (.getfield 25, 3) := by decide +kernel
theorem dX0_mayQualify_4 : decode cX0_mayQualify 4 = .ok (.ifCond .eq 21, 3) := by decide +kernel
theorem dX0_mayQualify_7 : decode cX0_mayQualify 7 = .ok (.aload_n 0, 1) := by decide +kernel
theorem dX0_mayQualify_8 : decode cX0_mayQualify 8 = .ok (.getfield 29, 3) := by decide +kernel
theorem dX0_mayQualify_11 : decode cX0_mayQualify 11 = .ok (.ifCond .ne 14, 3) := by decide +kernel
theorem dX0_mayQualify_14 : decode cX0_mayQualify 14 = .ok (.aload_n 0, 1) := by decide +kernel
theorem dX0_mayQualify_15 : decode cX0_mayQualify 15 = .ok (.getfield 21, 3) := by decide +kernel
theorem dX0_mayQualify_18 : decode cX0_mayQualify 18 = .ok (.ifCond .ne 7, 3) := by decide +kernel
theorem dX0_mayQualify_21 : decode cX0_mayQualify 21 = .ok (.iconst 1, 1) := by decide +kernel
theorem dX0_mayQualify_22 : decode cX0_mayQualify 22 = .ok (.goto 4, 3) := by decide +kernel
theorem dX0_mayQualify_25 : decode cX0_mayQualify 25 = .ok (.iconst 0, 1) := by decide +kernel
theorem dX0_mayQualify_26 : decode cX0_mayQualify 26 = .ok (.ireturn, 1) := by decide +kernel
