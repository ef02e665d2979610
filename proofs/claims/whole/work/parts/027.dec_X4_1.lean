theorem dX4_random_19 : decode cX4_random 19 = .ok (.lreturn, 1) := by decide +kernel
theorem dX4_about_0 : decode cX4_about 0 = .ok (.iload_n 1, 1) := by decide +kernel
theorem dX4_about_1 : decode cX4_about 1 = .ok (.tableswitch 93 0 7 #[47, 52, 57, 62, 67, 72, 80, 85], 47) := by decide +kernel
theorem dX4_about_48 : decode cX4_about 48 = .ok (.aload_n 0, 1) := by decide +kernel
theorem dX4_about_49 : decode cX4_about 49 = .ok (.getfield 44, 3) := by decide +kernel
theorem dX4_about_52 : decode cX4_about 52 = .ok (.ireturn, 1) := by decide +kernel
theorem dX4_about_53 : decode cX4_about 53 = .ok (.aload_n 0, 1) := by decide +kernel
theorem dX4_about_54 : decode cX4_about 54 = .ok (.getfield 48, 3) := by decide +kernel
theorem dX4_about_57 : decode cX4_about 57 = .ok (.ireturn, 1) := by decide +kernel
theorem dX4_about_58 : decode cX4_about 58 = .ok (.aload_n 0, 1) := by decide +kernel
theorem dX4_about_59 : decode cX4_about 59 = .ok (.invokevirtual 214, 3) := by decide +kernel
theorem dX4_about_62 : decode cX4_about 62 = .ok (.ireturn, 1) := by decide +kernel
theorem dX4_about_63 : decode cX4_about 63 = .ok (.aload_n 0, 1) := by decide +kernel
theorem dX4_about_64 : decode cX4_about 64 = .ok (.invokevirtual 106, 3) := by decide +kernel
theorem dX4_about_67 : decode cX4_about 67 = .ok (.ireturn, 1) := by decide +kernel
theorem dX4_about_68 : decode cX4_about 68 = .ok (.aload_n 0, 1) := by decide +kernel
theorem dX4_about_69 : decode cX4_about 69 = .ok (.invokevirtual 217, 3) := by decide +kernel
theorem dX4_about_72 : decode cX4_about 72 = .ok (.ireturn, 1) := by decide +kernel
theorem dX4_about_73 : decode cX4_about 73 = .ok (.aload_n 0, 1) := by decide +kernel
theorem dX4_about_74 : decode cX4_about 74 = .ok (.getfield 55, 3) := by decide +kernel
theorem dX4_about_77 : decode cX4_about 77 = .ok (.invokestatic 131, 3) := by decide +kernel
theorem dX4_about_80 : decode cX4_about 80 = .ok (.ireturn, 1) := by decide +kernel
theorem dX4_about_81 : decode cX4_about 81 = .ok (.aload_n 0, 1) := by decide +kernel
theorem dX4_about_82 : decode cX4_about 82 = .ok (.getfield 55, 3) := by decide +kernel
theorem dX4_about_85 : decode cX4_about 85 = .ok (.ireturn, 1) := by decide +kernel
theorem dX4_about_86 : decode cX4_about 86 = .ok (.aload_n 0, 1) := by decide +kernel
theorem dX4_about_87 : decode cX4_about 87 = .ok (.getfield 26, 3) := by decide +kernel
theorem dX4_about_90 : decode cX4_about 90 = .ok (.getfield 147, 3) := by decide +kernel
theorem dX4_about_93 : decode cX4_about 93 = .ok (.ireturn, 1) := by decide +kernel
theorem dX4_about_94 : decode cX4_about 94 = .ok (.new 37, 3) := by decide +kernel
theorem dX4_about_97 : decode cX4_about 97 = .ok (.dup, 1) := by decide +kernel
theorem dX4_about_98 : decode cX4_about 98 = .ok (.ldc 220, 2) := by decide +kernel
theorem dX4_about_100 : decode cX4_about 100 = .ok (.invokespecial 41, 3) := by decide +kernel
theorem dX4_about_103 : decode cX4_about 103 = .ok (.athrow, 1) := by decide +kernel
theorem dX4_needNode_0 : decode cX4_needNode 0 = .ok (.iload_n 1, 1) := by decide +kernel
theorem dX4_needNode_1 : decode cX4_needNode 1 = .ok (.iconst 1, 1) := by decide +kernel
theorem dX4_needNode_2 : decode cX4_needNode 2 = .ok (.if_icmp .lt 11, 3) := by decide +kernel
theorem dX4_needNode_5 : decode cX4_needNode 5 = .ok (.iload_n 1, 1) := by decide +kernel
theorem dX4_needNode_6 : decode cX4_needNode 6 = .ok (.aload_n 0, 1) := by decide +kernel
theorem dX4_needNode_7 : decode cX4_needNode 7 = .ok (.getfield 44, 3) := by decide +kernel
theorem dX4_needNode_10 : decode cX4_needNode 10 = .ok (.if_icmp .le 13, 3) := by decide +kernel
theorem dX4_needNode_13 : decode cX4_needNode 13 = .ok (.new 37, 3) := by decide +kernel
theorem dX4_needNode_16 : decode cX4_needNode 16 = .ok (.dup, 1) := by decide +kernel
theorem dX4_needNode_17 : decode cX4_needNode 17 = .ok (.ldc 222, 2) := by decide +kernel
theorem dX4_needNode_19 : decode cX4_needNode 19 = .ok (.invokespecial 41, 3) := by decide +kernel
theorem dX4_needNode_22 : decode cX4_needNode 22 = .ok (.athrow, 1) := by decide +kernel
theorem dX4_needNode_23 : decode cX4_needNode 23 = .ok (.return_, 1) := by decide +kernel
theorem dX4_needExponent_0 : decode cX4_needExponent 0 = .ok (.iload_n 1, 1) := by decide +kernel
theorem dX4_needExponent_1 : decode cX4_needExponent 1 = .ok (.invokestatic 224, 3) := by decide +kernel
theorem dX4_needExponent_4 : decode cX4_needExponent 4 = .ok (.ifCond .ne 13, 3) := by decide +kernel
theorem dX4_needExponent_7 : decode cX4_needExponent 7 = .ok (.new 37, 3) := by decide +kernel
theorem dX4_needExponent_10 : decode cX4_needExponent 10 = .ok (.dup, 1) := by decide +kernel
theorem dX4_needExponent_11 : decode cX4_needExponent 11 = .ok (.ldc 227, 2) := by decide +kernel
theorem dX4_needExponent_13 : decode cX4_needExponent 13 = .ok (.invokespecial 41, 3) := by decide +kernel
theorem dX4_needExponent_16 : decode cX4_needExponent 16 = .ok (.athrow, 1) := by decide +kernel
theorem dX4_needExponent_17 : decode cX4_needExponent 17 = .ok (.return_, 1) := by decide +kernel
theorem dX4_needWhat_0 : decode cX4_needWhat 0 = .ok (.iload_n 1, 1) := by decide +kernel
theorem dX4_needWhat_1 : decode cX4_needWhat 1 = .ok (.ifCond .lt 8, 3) := by decide +kernel
theorem dX4_needWhat_4 : decode cX4_needWhat 4 = .ok (.iload_n 1, 1) := by decide +kernel
theorem dX4_needWhat_5 : decode cX4_needWhat 5 = .ok (.iload_n 2, 1) := by decide +kernel
theorem dX4_needWhat_6 : decode cX4_needWhat 6 = .ok (.if_icmp .le 13, 3) := by decide +kernel
theorem dX4_needWhat_9 : decode cX4_needWhat 9 = .ok (.new 37, 3) := by decide +kernel
theorem dX4_needWhat_12 : decode cX4_needWhat 12 = .ok (.dup, 1) := by decide +kernel
theorem dX4_needWhat_13 : decode cX4_needWhat 13 = .ok (.ldc 229, 2) := by decide +kernel
theorem dX4_needWhat_15 : decode cX4_needWhat 15 = .ok (.invokespecial 41, 3) := by decide +kernel
theorem dX4_needWhat_18 : decode cX4_needWhat 18 = .ok (.athrow, 1) := by decide +kernel
theorem dX4_needWhat_19 : decode cX4_needWhat 19 = .ok (.return_, 1) := by decide +kernel
theorem dX4_needDealt_0 : decode cX4_needDealt 0 = .ok (.aload_n 0, 1) := by decide +kernel
theorem dX4_needDealt_1 : decode cX4_needDealt 1 = .ok (.getfield 11, 3) := by decide +kernel
theorem dX4_needDealt_4 : decode cX4_needDealt 4 = .ok (.iload_n 1, 1) := by decide +kernel
theorem dX4_needDealt_5 : decode cX4_needDealt 5 = .ok (.aaload, 1) := by decide +kernel
theorem dX4_needDealt_6 : decode cX4_needDealt 6 = .ok (.getfield 69, 3) := by decide +kernel
theorem dX4_needDealt_9 : decode cX4_needDealt 9 = .ok (.ifCond .ne 13, 3) := by decide +kernel
theorem dX4_needDealt_12 : decode cX4_needDealt 12 = .ok (.new 72, 3) := by decide +kernel
theorem dX4_needDealt_15 : decode cX4_needDealt 15 = .ok (.dup, 1) := by decide +kernel
theorem dX4_needDealt_16 : decode cX4_needDealt 16 = .ok (.ldc 231, 2) := by decide +kernel
theorem dX4_needDealt_18 : decode cX4_needDealt 18 = .ok (.invokespecial 76, 3) := by decide +kernel
theorem dX4_needDealt_21 : decode cX4_needDealt 21 = .ok (.athrow, 1) := by decide +kernel
theorem dX4_needDealt_22 : decode cX4_needDealt 22 = .ok (.return_, 1) := by decide +kernel
theorem dX4_needOpen_0 : decode cX4_needOpen 0 = .ok (.aload_n 0, 1) := by decide +kernel
theorem dX4_needOpen_1 : decode cX4_needOpen 1 = .ok (.getfield 51, 3) := by decide +kernel
theorem dX4_needOpen_4 : decode cX4_needOpen 4 = .ok (.ifCond .eq 13, 3) := by decide +kernel
theorem dX4_needOpen_7 : decode cX4_needOpen 7 = .ok (.new 72, 3) := by decide +kernel
theorem dX4_needOpen_10 : decode cX4_needOpen 10 = .ok (.dup, 1) := by decide +kernel
theorem dX4_needOpen_11 : decode cX4_needOpen 11 = .ok (.ldc 233, 2) := by decide +kernel
theorem dX4_needOpen_13 : decode cX4_needOpen 13 = .ok (.invokespecial 76, 3) := by decide +kernel
theorem dX4_needOpen_16 : decode cX4_needOpen 16 = .ok (.athrow, 1) := by decide +kernel
theorem dX4_needOpen_17 : decode cX4_needOpen 17 = .ok (.return_, 1) := by decide +kernel
theorem dX4_needClosed_0 : decode cX4_needClosed 0 = .ok (.aload_n 0, 1) := by decide +kernel
theorem dX4_needClosed_1 : decode cX4_needClosed 1 = .ok (.getfield 51, 3) := by decide +kernel
theorem dX4_needClosed_4 : decode cX4_needClosed 4 = .ok (.ifCond .ne 13, 3) := by decide +kernel
theorem dX4_needClosed_7 : decode cX4_needClosed 7 = .ok (.new 72, 3) := by decide +kernel
theorem dX4_needClosed_10 : decode cX4_needClosed 10 = .ok (.dup, 1) := by decide +kernel
theorem dX4_needClosed_11 : decode cX4_needClosed 11 = .ok (.ldc 235, 2) := by decide +kernel
theorem dX4_needClosed_13 : decode cX4_needClosed 13 = .ok (.invokespecial 76, 3) := by decide +kernel
theorem dX4_needClosed_16 : decode cX4_needClosed 16 = .ok (.athrow, 1) := by decide +kernel
theorem dX4_needClosed_17 : decode cX4_needClosed 17 = .ok (.return_, 1) := by decide +kernel
theorem dX4_needEnded_0 : decode cX4_needEnded 0 = .ok (.iload_n 1, 1) := by decide +kernel
theorem dX4_needEnded_1 : decode cX4_needEnded 1 = .ok (.ifCond .ge 13, 3) := by decide +kernel
theorem dX4_needEnded_4 : decode cX4_needEnded 4 = .ok (.new 37, 3) := by decide +kernel
theorem dX4_needEnded_7 : decode cX4_needEnded 7 = .ok (.dup, 1) := by decide +kernel
theorem dX4_needEnded_8 : decode cX4_needEnded 8 = .ok (.ldc 237, 2) := by decide +kernel
theorem dX4_needEnded_10 : decode cX4_needEnded 10 = .ok (.invokespecial 41, 3) := by decide +kernel
theorem dX4_needEnded_13 : decode cX4_needEnded 13 = .ok (.athrow, 1) := by decide +kernel
theorem dX4_needEnded_14 : decode cX4_needEnded 14 = .ok (.aload_n 0, 1) := by decide +kernel
theorem dX4_needEnded_15 : decode cX4_needEnded 15 = .ok (.invokevirtual 141, 3) := by decide +kernel
theorem dX4_needEnded_18 : decode cX4_needEnded 18 = .ok (.iload_n 1, 1) := by decide +kernel
theorem dX4_needEnded_19 : decode cX4_needEnded 19 = .ok (.aload_n 0, 1) := by decide +kernel
theorem dX4_needEnded_20 : decode cX4_needEnded 20 = .ok (.getfield 26, 3) := by decide +kernel
theorem dX4_needEnded_23 : decode cX4_needEnded 23 = .ok (.getfield 147, 3) := by decide +kernel
theorem dX4_needEnded_26 : decode cX4_needEnded 26 = .ok (.if_icmp .le 13, 3) := by decide +kernel
theorem dX4_needEnded_29 : decode cX4_needEnded 29 = .ok (.new 37, 3) := by decide +kernel
theorem dX4_needEnded_32 : decode cX4_needEnded 32 = .ok (.dup, 1) := by decide +kernel
theorem dX4_needEnded_33 : decode cX4_needEnded 33 = .ok (.ldc 239, 2) := by decide +kernel
theorem dX4_needEnded_35 : decode cX4_needEnded 35 = .ok (.invokespecial 41, 3) := by decide +kernel
theorem dX4_needEnded_38 : decode cX4_needEnded 38 = .ok (.athrow, 1) := by decide +kernel
theorem dX4_needEnded_39 : decode cX4_needEnded 39 = .ok (.return_, 1) := by decide +kernel
theorem dX4_countDealt_0 : decode cX4_countDealt 0 = .ok (.iconst 0, 1) := by decide +kernel
theorem dX4_countDealt_1 : decode cX4_countDealt 1 = .ok (.istore_n 1, 1) := by decide +kernel
theorem dX4_countDealt_2 : decode cX4_countDealt 2 = .ok (.iconst 1, 1) := by decide +kernel
theorem dX4_countDealt_3 : decode cX4_countDealt 3 = .ok (.istore_n 2, 1) := by decide +kernel
theorem dX4_countDealt_4 : decode cX4_countDealt 4 = .ok (.iload_n 2, 1) := by decide +kernel
theorem dX4_countDealt_5 : decode cX4_countDealt 5 = .ok (.aload_n 0, 1) := by decide +kernel
theorem dX4_countDealt_6 : decode cX4_countDealt 6 = .ok (.getfield 44, 3) := by decide +kernel
theorem dX4_countDealt_9 : decode cX4_countDealt 9 = .ok (.if_icmp .gt 29, 3) := by decide +kernel
theorem dX4_countDealt_12 : decode cX4_countDealt 12 = .ok (.iload_n 1, 1) := by decide +kernel
theorem dX4_countDealt_13 : decode cX4_countDealt 13 = .ok (.aload_n 0, 1) := by decide +kernel
theorem dX4_countDealt_14 : decode cX4_countDealt 14 = .ok (.getfield 11, 3) := by decide +kernel
theorem dX4_countDealt_17 : decode cX4_countDealt 17 = .ok (.iload_n 2, 1) := by decide +kernel
theorem dX4_countDealt_18 : decode cX4_countDealt 18 = .ok (.aaload, 1) := by decide +kernel
theorem dX4_countDealt_19 : decode cX4_countDealt 19 = .ok (.getfield 69, 3) := by decide +kernel
theorem dX4_countDealt_22 : decode cX4_countDealt 22 = .ok (.ifCond .eq 7, 3) := by decide +kernel
theorem dX4_countDealt_25 : decode cX4_countDealt 25 = .ok (.iconst 1, 1) := by decide +kernel
theorem dX4_countDealt_26 : decode cX4_countDealt 26 = .ok (.goto 4, 3) := by decide +kernel
theorem dX4_countDealt_29 : decode cX4_countDealt 29 = .ok (.iconst 0, 1) := by decide +kernel
theorem dX4_countDealt_30 : decode cX4_countDealt 30 = .ok (.iadd, 1) := by decide +kernel
theorem dX4_countDealt_31 : decode cX4_countDealt 31 = .ok (.istore_n 1, 1) := by decide +kernel
theorem dX4_countDealt_32 : decode cX4_countDealt 32 = .ok (.iinc 2 1, 3) := by decide +kernel
theorem dX4_countDealt_35 : decode cX4_countDealt 35 = .ok (.goto (-31), 3) := by decide +kernel
theorem dX4_countDealt_38 : decode cX4_countDealt 38 = .ok (.iload_n 1, 1) := by decide +kernel
theorem dX4_countDealt_39 : decode cX4_countDealt 39 = .ok (.ireturn, 1) := by decide +kernel
theorem dX4_countComplaints_0 : decode cX4_countComplaints 0 = .ok (.iconst 0, 1) := by decide +kernel
theorem dX4_countComplaints_1 : decode cX4_countComplaints 1 = .ok (.istore_n 1, 1) := by decide +kernel
theorem dX4_countComplaints_2 : decode cX4_countComplaints 2 = .ok (.iconst 1, 1) := by decide +kernel
theorem dX4_countComplaints_3 : decode cX4_countComplaints 3 = .ok (.istore_n 2, 1) := by decide +kernel
theorem dX4_countComplaints_4 : decode cX4_countComplaints 4 = .ok (.iload_n 2, 1) := by decide +kernel
theorem dX4_countComplaints_5 : decode cX4_countComplaints 5 = .ok (.aload_n 0, 1) := by decide +kernel
theorem dX4_countComplaints_6 : decode cX4_countComplaints 6 = .ok (.getfield 44, 3) := by decide +kernel
theorem dX4_countComplaints_9 : decode cX4_countComplaints 9 = .ok (.if_icmp .gt 24, 3) := by decide +kernel
theorem dX4_countComplaints_12 : decode cX4_countComplaints 12 = .ok (.iload_n 1, 1) := by decide +kernel
theorem dX4_countComplaints_13 : decode cX4_countComplaints 13 = .ok (.aload_n 0, 1) := by decide +kernel
theorem dX4_countComplaints_14 : decode cX4_countComplaints 14 = .ok (.getfield 11, 3) := by decide +kernel
theorem dX4_countComplaints_17 : decode cX4_countComplaints 17 = .ok (.iload_n 2, 1) := by decide +kernel
theorem dX4_countComplaints_18 : decode cX4_countComplaints 18 = .ok (.aaload, 1) := by decide +kernel
theorem dX4_countComplaints_19 : decode cX4_countComplaints 19 = .ok (.getfield 241, 3) := by decide +kernel
theorem dX4_countComplaints_22 : decode cX4_countComplaints 22 = .ok (.invokestatic 131, 3) := by decide +kernel
theorem dX4_countComplaints_25 : decode cX4_countComplaints 25 = .ok (.iadd, 1) := by decide +kernel
theorem dX4_countComplaints_26 : decode cX4_countComplaints 26 = .ok (.istore_n 1, 1) := by decide +kernel
theorem dX4_countComplaints_27 : decode cX4_countComplaints 27 = .ok (.iinc 2 1, 3) := by decide +kernel
theorem dX4_countComplaints_30 : decode cX4_countComplaints 30 = .ok (.goto (-26), 3) := by decide +kernel
theorem dX4_countComplaints_33 : decode cX4_countComplaints 33 = .ok (.iload_n 1, 1) := by decide +kernel
theorem dX4_countComplaints_34 : decode cX4_countComplaints 34 = .ok (.ireturn, 1) := by decide +kernel
theorem dX4_countOut_0 : decode cX4_countOut 0 = .ok (.iconst 0, 1) := by decide +kernel
theorem dX4_countOut_1 : decode cX4_countOut 1 = .ok (.istore_n 1, 1) := by decide +kernel
theorem dX4_countOut_2 : decode cX4_countOut 2 = .ok (.iconst 1, 1) := by decide +kernel
theorem dX4_countOut_3 : decode cX4_countOut 3 = .ok (.istore_n 2, 1) := by decide +kernel
theorem dX4_countOut_4 : decode cX4_countOut 4 = .ok (.iload_n 2, 1) := by decide +kernel
theorem dX4_countOut_5 : decode cX4_countOut 5 = .ok (.aload_n 0, 1) := by decide +kernel
theorem dX4_countOut_6 : decode cX4_countOut 6 = .ok (.getfield 44, 3) := by decide +kernel
theorem dX4_countOut_9 : decode cX4_countOut 9 = .ok (.if_icmp .gt 29, 3) := by decide +kernel
theorem dX4_countOut_12 : decode cX4_countOut 12 = .ok (.iload_n 1, 1) := by decide +kernel
theorem dX4_countOut_13 : decode cX4_countOut 13 = .ok (.aload_n 0, 1) := by decide +kernel
theorem dX4_countOut_14 : decode cX4_countOut 14 = .ok (.getfield 11, 3) := by decide +kernel
theorem dX4_countOut_17 : decode cX4_countOut 17 = .ok (.iload_n 2, 1) := by decide +kernel
theorem dX4_countOut_18 : decode cX4_countOut 18 = .ok (.aaload, 1) := by decide +kernel
theorem dX4_countOut_19 : decode cX4_countOut 19 = .ok (.getfield 244, 3) := by decide +kernel
theorem dX4_countOut_22 : decode cX4_countOut 22 = .ok (.ifCond .eq 7, 3) := by decide +kernel
theorem dX4_countOut_25 : decode cX4_countOut 25 = .ok (.iconst 1, 1) := by decide +kernel
theorem dX4_countOut_26 : decode cX4_countOut 26 = .ok (.goto 4, 3) := by decide +kernel
theorem dX4_countOut_29 : decode cX4_countOut 29 = .ok (.iconst 0, 1) := by decide +kernel
theorem dX4_countOut_30 : decode cX4_countOut 30 = .ok (.iadd, 1) := by decide +kernel
theorem dX4_countOut_31 : decode cX4_countOut 31 = .ok (.istore_n 1, 1) := by decide +kernel
theorem dX4_countOut_32 : decode cX4_countOut 32 = .ok (.iinc 2 1, 3) := by decide +kernel
theorem dX4_countOut_35 : decode cX4_countOut 35 = .ok (.goto (-31), 3) := by decide +kernel
theorem dX4_countOut_38 : decode cX4_countOut 38 = .ok (.iload_n 1, 1) := by decide +kernel
theorem dX4_countOut_39 : decode cX4_countOut 39 = .ok (.ireturn, 1) := by decide +kernel
theorem dX4_findQualified_0 : decode cX4_findQualified 0 = .ok (.iconst 0, 1) := by decide +kernel
theorem dX4_findQualified_1 : decode cX4_findQualified 1 = .ok (.istore_n 1, 1) := by decide +kernel
theorem dX4_findQualified_2 : decode cX4_findQualified 2 = .ok (.iconst 1, 1) := by decide +kernel
theorem dX4_findQualified_3 : decode cX4_findQualified 3 = .ok (.istore_n 2, 1) := by decide +kernel
theorem dX4_findQualified_4 : decode cX4_findQualified 4 = .ok (.iload_n 2, 1) := by decide +kernel
theorem dX4_findQualified_5 : decode cX4_findQualified 5 = .ok (.aload_n 0, 1) := by decide +kernel
theorem dX4_findQualified_6 : decode cX4_findQualified 6 = .ok (.getfield 44, 3) := by decide +kernel
theorem dX4_findQualified_9 : decode cX4_findQualified 9 = .ok (.if_icmp .gt 27, 3) := by decide +kernel
theorem dX4_findQualified_12 : decode cX4_findQualified 12 = .ok (.aload_n 0, 1) := by decide +kernel
theorem dX4_findQualified_13 : decode cX4_findQualified 13 = .ok (.getfield 11, 3) := by decide +kernel
theorem dX4_findQualified_16 : decode cX4_findQualified 16 = .ok (.iload_n 2, 1) := by decide +kernel
theorem dX4_findQualified_17 : decode cX4_findQualified 17 = .ok (.aaload, 1) := by decide +kernel
theorem dX4_findQualified_18 : decode cX4_findQualified 18 = .ok (.invokevirtual 247, 3) := by decide +kernel
theorem dX4_findQualified_21 : decode cX4_findQualified 21 = .ok (.ifCond .eq 9, 3) := by decide +kernel
theorem dX4_findQualified_24 : decode cX4_findQualified 24 = .ok (.iload_n 1, 1) := by decide +kernel
theorem dX4_findQualified_25 : decode cX4_findQualified 25 = .ok (.iconst 1, 1) := by decide +kernel
theorem dX4_findQualified_26 : decode cX4_findQualified 26 = .ok (.iload_n 2, 1) := by decide +kernel
theorem dX4_findQualified_27 : decode cX4_findQualified 27 = .ok (.ishl, 1) := by decide +kernel
theorem dX4_findQualified_28 : decode cX4_findQualified 28 = .ok (.ior, 1) := by decide +kernel
theorem dX4_findQualified_29 : decode cX4_findQualified 29 = .ok (.istore_n 1, 1) := by decide +kernel
theorem dX4_findQualified_30 : decode cX4_findQualified 30 = .ok (.iinc 2 1, 3) := by decide +kernel
theorem dX4_findQualified_33 : decode cX4_findQualified 33 = .ok (.goto (-29), 3) := by decide +kernel
theorem dX4_findQualified_36 : decode cX4_findQualified 36 = .ok (.iload_n 1, 1) := by decide +kernel
theorem dX4_findQualified_37 : decode cX4_findQualified 37 = .ok (.ireturn, 1) := by decide +kernel
theorem dX4_makeKeys_0 : decode cX4_makeKeys 0 = .ok (.aload_n 0, 1) := by decide +kernel
theorem dX4_makeKeys_1 : decode cX4_makeKeys 1 = .ok (.iconst 1, 1) := by decide +kernel
theorem dX4_makeKeys_2 : decode cX4_makeKeys 2 = .ok (.putfield 144, 3) := by decide +kernel
theorem dX4_makeKeys_5 : decode cX4_makeKeys 5 = .ok (.iconst 1, 1) := by decide +kernel
theorem dX4_makeKeys_6 : decode cX4_makeKeys 6 = .ok (.istore_n 1, 1) := by decide +kernel
theorem dX4_makeKeys_7 : decode cX4_makeKeys 7 = .ok (.iload_n 1, 1) := by decide +kernel
theorem dX4_makeKeys_8 : decode cX4_makeKeys 8 = .ok (.aload_n 0, 1) := by decide +kernel
theorem dX4_makeKeys_9 : decode cX4_makeKeys 9 = .ok (.getfield 44, 3) := by decide +kernel
theorem dX4_makeKeys_12 : decode cX4_makeKeys 12 = .ok (.if_icmp .gt 42, 3) := by decide +kernel
theorem dX4_makeKeys_15 : decode cX4_makeKeys 15 = .ok (.aload_n 0, 1) := by decide +kernel
theorem dX4_makeKeys_16 : decode cX4_makeKeys 16 = .ok (.getfield 55, 3) := by decide +kernel
theorem dX4_makeKeys_19 : decode cX4_makeKeys 19 = .ok (.iload_n 1, 1) := by decide +kernel
theorem dX4_makeKeys_20 : decode cX4_makeKeys 20 = .ok (.invokestatic 251, 3) := by decide +kernel
theorem dX4_makeKeys_23 : decode cX4_makeKeys 23 = .ok (.ifCond .eq 25, 3) := by decide +kernel
theorem dX4_makeKeys_26 : decode cX4_makeKeys 26 = .ok (.aload_n 0, 1) := by decide +kernel
theorem dX4_makeKeys_27 : decode cX4_makeKeys 27 = .ok (.aload_n 0, 1) := by decide +kernel
theorem dX4_makeKeys_28 : decode cX4_makeKeys 28 = .ok (.getfield 144, 3) := by decide +kernel
theorem dX4_makeKeys_31 : decode cX4_makeKeys 31 = .ok (.aload_n 0, 1) := by decide +kernel
theorem dX4_makeKeys_32 : decode cX4_makeKeys 32 = .ok (.getfield 11, 3) := by decide +kernel
theorem dX4_makeKeys_35 : decode cX4_makeKeys 35 = .ok (.iload_n 1, 1) := by decide +kernel
theorem dX4_makeKeys_36 : decode cX4_makeKeys 36 = .ok (.aaload, 1) := by decide +kernel
theorem dX4_makeKeys_37 : decode cX4_makeKeys 37 = .ok (.getfield 93, 3) := by decide +kernel
theorem dX4_makeKeys_40 : decode cX4_makeKeys 40 = .ok (.iconst 0, 1) := by decide +kernel
theorem dX4_makeKeys_41 : decode cX4_makeKeys 41 = .ok (.iaload, 1) := by decide +kernel
theorem dX4_makeKeys_42 : decode cX4_makeKeys 42 = .ok (.invokestatic 254, 3) := by decide +kernel
theorem dX4_makeKeys_45 : decode cX4_makeKeys 45 = .ok (.putfield 144, 3) := by decide +kernel
theorem dX4_makeKeys_48 : decode cX4_makeKeys 48 = .ok (.iinc 1 1, 3) := by decide +kernel
theorem dX4_makeKeys_51 : decode cX4_makeKeys 51 = .ok (.goto (-44), 3) := by decide +kernel
theorem dX4_makeKeys_54 : decode cX4_makeKeys 54 = .ok (.iconst 1, 1) := by decide +kernel
theorem dX4_makeKeys_55 : decode cX4_makeKeys 55 = .ok (.istore_n 1, 1) := by decide +kernel
theorem dX4_makeKeys_56 : decode cX4_makeKeys 56 = .ok (.iload_n 1, 1) := by decide +kernel
theorem dX4_makeKeys_57 : decode cX4_makeKeys 57 = .ok (.aload_n 0, 1) := by decide +kernel
theorem dX4_makeKeys_58 : decode cX4_makeKeys 58 = .ok (.getfield 44, 3) := by decide +kernel
theorem dX4_makeKeys_61 : decode cX4_makeKeys 61 = .ok (.if_icmp .gt 36, 3) := by decide +kernel
theorem dX4_makeKeys_64 : decode cX4_makeKeys 64 = .ok (.aload_n 0, 1) := by decide +kernel
theorem dX4_makeKeys_65 : decode cX4_makeKeys 65 = .ok (.getfield 16, 3) := by decide +kernel
theorem dX4_makeKeys_68 : decode cX4_makeKeys 68 = .ok (.iload_n 1, 1) := by decide +kernel
theorem dX4_makeKeys_69 : decode cX4_makeKeys 69 = .ok (.aload_n 0, 1) := by decide +kernel
theorem dX4_makeKeys_70 : decode cX4_makeKeys 70 = .ok (.iload_n 1, 1) := by decide +kernel
theorem dX4_makeKeys_71 : decode cX4_makeKeys 71 = .ok (.invokevirtual 257, 3) := by decide +kernel
theorem dX4_makeKeys_74 : decode cX4_makeKeys 74 = .ok (.iastore, 1) := by decide +kernel
theorem dX4_makeKeys_75 : decode cX4_makeKeys 75 = .ok (.aload_n 0, 1) := by decide +kernel
theorem dX4_makeKeys_76 : decode cX4_makeKeys 76 = .ok (.getfield 20, 3) := by decide +kernel
theorem dX4_makeKeys_79 : decode cX4_makeKeys 79 = .ok (.iload_n 1, 1) := by decide +kernel
theorem dX4_makeKeys_80 : decode cX4_makeKeys 80 = .ok (.iconst 4, 1) := by decide +kernel
theorem dX4_makeKeys_81 : decode cX4_makeKeys 81 = .ok (.aload_n 0, 1) := by decide +kernel
theorem dX4_makeKeys_82 : decode cX4_makeKeys 82 = .ok (.getfield 16, 3) := by decide +kernel
theorem dX4_makeKeys_85 : decode cX4_makeKeys 85 = .ok (.iload_n 1, 1) := by decide +kernel
theorem dX4_makeKeys_86 : decode cX4_makeKeys 86 = .ok (.iaload, 1) := by decide +kernel
theorem dX4_makeKeys_87 : decode cX4_makeKeys 87 = .ok (.invokestatic 260, 3) := by decide +kernel
theorem dX4_makeKeys_90 : decode cX4_makeKeys 90 = .ok (.iastore, 1) := by decide +kernel
theorem dX4_makeKeys_91 : decode cX4_makeKeys 91 = .ok (.iinc 1 1, 3) := by decide +kernel
theorem dX4_makeKeys_94 : decode cX4_makeKeys 94 = .ok (.goto (-38), 3) := by decide +kernel
theorem dX4_makeKeys_97 : decode cX4_makeKeys 97 = .ok (.return_, 1) := by decide +kernel
theorem dX4_sumOfShares_0 : decode cX4_sumOfShares 0 = .ok (.lconst 0, 1) := by decide +kernel
theorem dX4_sumOfShares_1 : decode cX4_sumOfShares 1 = .ok (.lstore_n 2, 1) := by decide +kernel
theorem dX4_sumOfShares_2 : decode cX4_sumOfShares 2 = .ok (.iconst 1, 1) := by decide +kernel
theorem dX4_sumOfShares_3 : decode cX4_sumOfShares 3 = .ok (.istore 4, 2) := by decide +kernel
theorem dX4_sumOfShares_5 : decode cX4_sumOfShares 5 = .ok (.iload 4, 2) := by decide +kernel
theorem dX4_sumOfShares_7 : decode cX4_sumOfShares 7 = .ok (.aload_n 0, 1) := by decide +kernel
theorem dX4_sumOfShares_8 : decode cX4_sumOfShares 8 = .ok (.getfield 44, 3) := by decide +kernel
theorem dX4_sumOfShares_11 : decode cX4_sumOfShares 11 = .ok (.if_icmp .gt 37, 3) := by decide +kernel
theorem dX4_sumOfShares_14 : decode cX4_sumOfShares 14 = .ok (.aload_n 0, 1) := by decide +kernel
theorem dX4_sumOfShares_15 : decode cX4_sumOfShares 15 = .ok (.getfield 55, 3) := by decide +kernel
theorem dX4_sumOfShares_18 : decode cX4_sumOfShares 18 = .ok (.iload 4, 2) := by decide +kernel
theorem dX4_sumOfShares_20 : decode cX4_sumOfShares 20 = .ok (.invokestatic 251, 3) := by decide +kernel
theorem dX4_sumOfShares_23 : decode cX4_sumOfShares 23 = .ok (.ifCond .eq 19, 3) := by decide +kernel
theorem dX4_sumOfShares_26 : decode cX4_sumOfShares 26 = .ok (.lload_n 2, 1) := by decide +kernel
theorem dX4_sumOfShares_27 : decode cX4_sumOfShares 27 = .ok (.aload_n 0, 1) := by decide +kernel
theorem dX4_sumOfShares_28 : decode cX4_sumOfShares 28 = .ok (.getfield 11, 3) := by decide +kernel
theorem dX4_sumOfShares_31 : decode cX4_sumOfShares 31 = .ok (.iload 4, 2) := by decide +kernel
theorem dX4_sumOfShares_33 : decode cX4_sumOfShares 33 = .ok (.aaload, 1) := by decide +kernel
theorem dX4_sumOfShares_34 : decode cX4_sumOfShares 34 = .ok (.getfield 96, 3) := by decide +kernel
theorem dX4_sumOfShares_37 : decode cX4_sumOfShares 37 = .ok (.iload_n 1, 1) := by decide +kernel
theorem dX4_sumOfShares_38 : decode cX4_sumOfShares 38 = .ok (.iaload, 1) := by decide +kernel
theorem dX4_sumOfShares_39 : decode cX4_sumOfShares 39 = .ok (.i2l, 1) := by decide +kernel
theorem dX4_sumOfShares_40 : decode cX4_sumOfShares 40 = .ok (.ladd, 1) := by decide +kernel
theorem dX4_sumOfShares_41 : decode cX4_sumOfShares 41 = .ok (.lstore_n 2, 1) := by decide +kernel
theorem dX4_sumOfShares_42 : decode cX4_sumOfShares 42 = .ok (.iinc 4 1, 3) := by decide +kernel
theorem dX4_sumOfShares_45 : decode cX4_sumOfShares 45 = .ok (.goto (-40), 3) := by decide +kernel
theorem dX4_sumOfShares_48 : decode cX4_sumOfShares 48 = .ok (.lload_n 2, 1) := by decide +kernel
theorem dX4_sumOfShares_49 : decode cX4_sumOfShares 49 = .ok (.invokestatic 263, 3) := by decide +kernel
theorem dX4_sumOfShares_52 : decode cX4_sumOfShares 52 = .ok (.ireturn, 1) := by decide +kernel
theorem dX4_stateFor_0 : decode cX4_stateFor 0 = .ok (.aload_n 0, 1) := by decide +kernel
theorem dX4_stateFor_1 : decode cX4_stateFor 1 = .ok (.getfield 33, 3) := by decide +kernel
theorem dX4_stateFor_4 : decode cX4_stateFor 4 = .ok (.aload_n 0, 1) := by decide +kernel
theorem dX4_stateFor_5 : decode cX4_stateFor 5 = .ok (.getfield 16, 3) := by decide +kernel
theorem dX4_stateFor_8 : decode cX4_stateFor 8 = .ok (.iload_n 1, 1) := by decide +kernel
theorem dX4_stateFor_9 : decode cX4_stateFor 9 = .ok (.iaload, 1) := by decide +kernel
theorem dX4_stateFor_10 : decode cX4_stateFor 10 = .ok (.aload_n 0, 1) := by decide +kernel
theorem dX4_stateFor_11 : decode cX4_stateFor 11 = .ok (.getfield 20, 3) := by decide +kernel
theorem dX4_stateFor_14 : decode cX4_stateFor 14 = .ok (.iload_n 1, 1) := by decide +kernel
theorem dX4_stateFor_15 : decode cX4_stateFor 15 = .ok (.iaload, 1) := by decide +kernel
theorem dX4_stateFor_16 : decode cX4_stateFor 16 = .ok (.aload_n 0, 1) := by decide +kernel
theorem dX4_stateFor_17 : decode cX4_stateFor 17 = .ok (.getfield 26, 3) := by decide +kernel
theorem dX4_stateFor_20 : decode cX4_stateFor 20 = .ok (.getfield 150, 3) := by decide +kernel
theorem dX4_stateFor_23 : decode cX4_stateFor 23 = .ok (.aload_n 0, 1) := by decide +kernel
theorem dX4_stateFor_24 : decode cX4_stateFor 24 = .ok (.getfield 26, 3) := by decide +kernel
theorem dX4_stateFor_27 : decode cX4_stateFor 27 = .ok (.getfield 267, 3) := by decide +kernel
theorem dX4_stateFor_30 : decode cX4_stateFor 30 = .ok (.invokevirtual 271, 3) := by decide +kernel
theorem dX4_stateFor_33 : decode cX4_stateFor 33 = .ok (.return_, 1) := by decide +kernel
