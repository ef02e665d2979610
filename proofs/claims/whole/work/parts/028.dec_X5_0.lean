theorem dX5_init_0 : decode cX5_init 0 = .ok (.aload_n 0, 1) := by decide +kernel
theorem dX5_init_1 : decode cX5_init 1 = .ok (.invokespecial 1, 3) := by decide +kernel
theorem dX5_init_4 : decode cX5_init 4 = .ok (.aload_n 0, 1) := by decide +kernel
theorem dX5_init_5 : decode cX5_init 5 = .ok (.bipush 17, 2) := by decide +kernel
theorem dX5_init_7 : decode cX5_init 7 = .ok (.newarray .boolean, 2) := by decide +kernel
theorem dX5_init_9 : decode cX5_init 9 = .ok (.putfield 7, 3) := by decide +kernel
theorem dX5_init_12 : decode cX5_init 12 = .ok (.aload_n 0, 1) := by decide +kernel
theorem dX5_init_13 : decode cX5_init 13 = .ok (.bipush 17, 2) := by decide +kernel
theorem dX5_init_15 : decode cX5_init 15 = .ok (.newarray .boolean, 2) := by decide +kernel
theorem dX5_init_17 : decode cX5_init 17 = .ok (.putfield 13, 3) := by decide +kernel
theorem dX5_init_20 : decode cX5_init 20 = .ok (.aload_n 0, 1) := by decide +kernel
theorem dX5_init_21 : decode cX5_init 21 = .ok (.sipush 289, 3) := by decide +kernel
theorem dX5_init_24 : decode cX5_init 24 = .ok (.newarray .long, 2) := by decide +kernel
theorem dX5_init_26 : decode cX5_init 26 = .ok (.putfield 16, 3) := by decide +kernel
theorem dX5_init_29 : decode cX5_init 29 = .ok (.aload_n 0, 1) := by decide +kernel
theorem dX5_init_30 : decode cX5_init 30 = .ok (.sipush 289, 3) := by decide +kernel
theorem dX5_init_33 : decode cX5_init 33 = .ok (.newarray .long, 2) := by decide +kernel
theorem dX5_init_35 : decode cX5_init 35 = .ok (.putfield 20, 3) := by decide +kernel
theorem dX5_init_38 : decode cX5_init 38 = .ok (.aload_n 0, 1) := by decide +kernel
theorem dX5_init_39 : decode cX5_init 39 = .ok (.sipush 289, 3) := by decide +kernel
theorem dX5_init_42 : decode cX5_init 42 = .ok (.newarray .long, 2) := by decide +kernel
theorem dX5_init_44 : decode cX5_init 44 = .ok (.putfield 23, 3) := by decide +kernel
theorem dX5_init_47 : decode cX5_init 47 = .ok (.aload_n 0, 1) := by decide +kernel
theorem dX5_init_48 : decode cX5_init 48 = .ok (.sipush 289, 3) := by decide +kernel
theorem dX5_init_51 : decode cX5_init 51 = .ok (.newarray .boolean, 2) := by decide +kernel
theorem dX5_init_53 : decode cX5_init 53 = .ok (.putfield 26, 3) := by decide +kernel
theorem dX5_init_56 : decode cX5_init 56 = .ok (.aload_n 0, 1) := by decide +kernel
theorem dX5_init_57 : decode cX5_init 57 = .ok (.bipush 17, 2) := by decide +kernel
theorem dX5_init_59 : decode cX5_init 59 = .ok (.newarray .long, 2) := by decide +kernel
theorem dX5_init_61 : decode cX5_init 61 = .ok (.putfield 29, 3) := by decide +kernel
theorem dX5_init_64 : decode cX5_init 64 = .ok (.aload_n 0, 1) := by decide +kernel
theorem dX5_init_65 : decode cX5_init 65 = .ok (.bipush 17, 2) := by decide +kernel
theorem dX5_init_67 : decode cX5_init 67 = .ok (.newarray .long, 2) := by decide +kernel
theorem dX5_init_69 : decode cX5_init 69 = .ok (.putfield 32, 3) := by decide +kernel
theorem dX5_init_72 : decode cX5_init 72 = .ok (.aload_n 0, 1) := by decide +kernel
theorem dX5_init_73 : decode cX5_init 73 = .ok (.sipush 301, 3) := by decide +kernel
theorem dX5_init_76 : decode cX5_init 76 = .ok (.newarray .long, 2) := by decide +kernel
theorem dX5_init_78 : decode cX5_init 78 = .ok (.putfield 35, 3) := by decide +kernel
theorem dX5_init_81 : decode cX5_init 81 = .ok (.aload_n 0, 1) := by decide +kernel
theorem dX5_init_82 : decode cX5_init 82 = .ok (.bipush 17, 2) := by decide +kernel
theorem dX5_init_84 : decode cX5_init 84 = .ok (.newarray .long, 2) := by decide +kernel
theorem dX5_init_86 : decode cX5_init 86 = .ok (.putfield 38, 3) := by decide +kernel
theorem dX5_init_89 : decode cX5_init 89 = .ok (.return_, 1) := by decide +kernel
theorem dX5_thrown_0 : decode cX5_thrown 0 = .ok (.aload_n 0, 1) := by decide +kernel
theorem dX5_thrown_1 : decode cX5_thrown 1 = .ok (.getfield 41, 3) := by decide +kernel
theorem dX5_thrown_4 : decode cX5_thrown 4 = .ok (.ireturn, 1) := by decide +kernel
theorem dX5_refuses_0 : decode cX5_refuses 0 = .ok (.aload_n 0, 1) := by decide +kernel
theorem dX5_refuses_1 : decode cX5_refuses 1 = .ok (.iload_n 1, 1) := by decide +kernel
theorem dX5_refuses_2 : decode cX5_refuses 2 = .ok (.putfield 41, 3) := by decide +kernel
theorem dX5_refuses_5 : decode cX5_refuses 5 = .ok (.iload_n 1, 1) := by decide +kernel
theorem dX5_refuses_6 : decode cX5_refuses 6 = .ok (.ifCond .le 7, 3) := by decide +kernel
theorem dX5_refuses_9 : decode cX5_refuses 9 = .ok (.iconst 1, 1) := by decide +kernel
theorem dX5_refuses_10 : decode cX5_refuses 10 = .ok (.goto 4, 3) := by decide +kernel
theorem dX5_refuses_13 : decode cX5_refuses 13 = .ok (.iconst 0, 1) := by decide +kernel
theorem dX5_refuses_14 : decode cX5_refuses 14 = .ok (.ireturn, 1) := by decide +kernel
theorem dX5_hashes_0 : decode cX5_hashes 0 = .ok (.aload_n 0, 1) := by decide +kernel
theorem dX5_hashes_1 : decode cX5_hashes 1 = .ok (.aload_n 0, 1) := by decide +kernel
theorem dX5_hashes_2 : decode cX5_hashes 2 = .ok (.getfield 45, 3) := by decide +kernel
theorem dX5_hashes_5 : decode cX5_hashes 5 = .ok (.lload_n 1, 1) := by decide +kernel
theorem dX5_hashes_6 : decode cX5_hashes 6 = .ok (.ladd, 1) := by decide +kernel
theorem dX5_hashes_7 : decode cX5_hashes 7 = .ok (.ldc2_w 49, 3) := by decide +kernel
theorem dX5_hashes_10 : decode cX5_hashes 10 = .ok (.lmul, 1) := by decide +kernel
theorem dX5_hashes_11 : decode cX5_hashes 11 = .ok (.ldc2_w 51, 3) := by decide +kernel
theorem dX5_hashes_14 : decode cX5_hashes 14 = .ok (.ladd, 1) := by decide +kernel
theorem dX5_hashes_15 : decode cX5_hashes 15 = .ok (.putfield 45, 3) := by decide +kernel
theorem dX5_hashes_18 : decode cX5_hashes 18 = .ok (.aload_n 0, 1) := by decide +kernel
theorem dX5_hashes_19 : decode cX5_hashes 19 = .ok (.aload_n 0, 1) := by decide +kernel
theorem dX5_hashes_20 : decode cX5_hashes 20 = .ok (.getfield 45, 3) := by decide +kernel
theorem dX5_hashes_23 : decode cX5_hashes 23 = .ok (.aload_n 0, 1) := by decide +kernel
theorem dX5_hashes_24 : decode cX5_hashes 24 = .ok (.getfield 45, 3) := by decide +kernel
theorem dX5_hashes_27 : decode cX5_hashes 27 = .ok (.bipush 29, 2) := by decide +kernel
theorem dX5_hashes_29 : decode cX5_hashes 29 = .ok (.lushr, 1) := by decide +kernel
theorem dX5_hashes_30 : decode cX5_hashes 30 = .ok (.lxor, 1) := by decide +kernel
theorem dX5_hashes_31 : decode cX5_hashes 31 = .ok (.putfield 45, 3) := by decide +kernel
theorem dX5_hashes_34 : decode cX5_hashes 34 = .ok (.aload_n 0, 1) := by decide +kernel
theorem dX5_hashes_35 : decode cX5_hashes 35 = .ok (.aload_n 0, 1) := by decide +kernel
theorem dX5_hashes_36 : decode cX5_hashes 36 = .ok (.getfield 45, 3) := by decide +kernel
theorem dX5_hashes_39 : decode cX5_hashes 39 = .ok (.ldc2_w 53, 3) := by decide +kernel
theorem dX5_hashes_42 : decode cX5_hashes 42 = .ok (.lmul, 1) := by decide +kernel
theorem dX5_hashes_43 : decode cX5_hashes 43 = .ok (.putfield 45, 3) := by decide +kernel
theorem dX5_hashes_46 : decode cX5_hashes 46 = .ok (.aload_n 0, 1) := by decide +kernel
theorem dX5_hashes_47 : decode cX5_hashes 47 = .ok (.aload_n 0, 1) := by decide +kernel
theorem dX5_hashes_48 : decode cX5_hashes 48 = .ok (.getfield 45, 3) := by decide +kernel
theorem dX5_hashes_51 : decode cX5_hashes 51 = .ok (.aload_n 0, 1) := by decide +kernel
theorem dX5_hashes_52 : decode cX5_hashes 52 = .ok (.getfield 45, 3) := by decide +kernel
theorem dX5_hashes_55 : decode cX5_hashes 55 = .ok (.bipush 32, 2) := by decide +kernel
theorem dX5_hashes_57 : decode cX5_hashes 57 = .ok (.lushr, 1) := by decide +kernel
theorem dX5_hashes_58 : decode cX5_hashes 58 = .ok (.lxor, 1) := by decide +kernel
theorem dX5_hashes_59 : decode cX5_hashes 59 = .ok (.putfield 45, 3) := by decide +kernel
theorem dX5_hashes_62 : decode cX5_hashes 62 = .ok (.return_, 1) := by decide +kernel
theorem dX5_rest_0 : decode cX5_rest 0 = .ok (.lload_n 0, 1) := by decide +kernel
theorem dX5_rest_1 : decode cX5_rest 1 = .ok (.lload_n 2, 1) := by decide +kernel
theorem dX5_rest_2 : decode cX5_rest 2 = .ok (.lrem, 1) := by decide +kernel
theorem dX5_rest_3 : decode cX5_rest 3 = .ok (.lstore 4, 2) := by decide +kernel
theorem dX5_rest_5 : decode cX5_rest 5 = .ok (.lload 4, 2) := by decide +kernel
theorem dX5_rest_7 : decode cX5_rest 7 = .ok (.lconst 0, 1) := by decide +kernel
theorem dX5_rest_8 : decode cX5_rest 8 = .ok (.lcmp, 1) := by decide +kernel
theorem dX5_rest_9 : decode cX5_rest 9 = .ok (.ifCond .ge 10, 3) := by decide +kernel
theorem dX5_rest_12 : decode cX5_rest 12 = .ok (.lload 4, 2) := by decide +kernel
theorem dX5_rest_14 : decode cX5_rest 14 = .ok (.lload_n 2, 1) := by decide +kernel
theorem dX5_rest_15 : decode cX5_rest 15 = .ok (.ladd, 1) := by decide +kernel
theorem dX5_rest_16 : decode cX5_rest 16 = .ok (.goto 5, 3) := by decide +kernel
theorem dX5_rest_19 : decode cX5_rest 19 = .ok (.lload 4, 2) := by decide +kernel
theorem dX5_rest_21 : decode cX5_rest 21 = .ok (.lreturn, 1) := by decide +kernel
theorem dX5_power_0 : decode cX5_power 0 = .ok (.lconst 1, 1) := by decide +kernel
theorem dX5_power_1 : decode cX5_power 1 = .ok (.lload 4, 2) := by decide +kernel
theorem dX5_power_3 : decode cX5_power 3 = .ok (.lrem, 1) := by decide +kernel
theorem dX5_power_4 : decode cX5_power 4 = .ok (.lstore 6, 2) := by decide +kernel
theorem dX5_power_6 : decode cX5_power 6 = .ok (.lload_n 0, 1) := by decide +kernel
theorem dX5_power_7 : decode cX5_power 7 = .ok (.lload 4, 2) := by decide +kernel
theorem dX5_power_9 : decode cX5_power 9 = .ok (.invokestatic 55, 3) := by decide +kernel
theorem dX5_power_12 : decode cX5_power 12 = .ok (.lstore 8, 2) := by decide +kernel
theorem dX5_power_14 : decode cX5_power 14 = .ok (.lload_n 2, 1) := by decide +kernel
theorem dX5_power_15 : decode cX5_power 15 = .ok (.lstore 10, 2) := by decide +kernel
theorem dX5_power_17 : decode cX5_power 17 = .ok (.lload 10, 2) := by decide +kernel
theorem dX5_power_19 : decode cX5_power 19 = .ok (.lconst 0, 1) := by decide +kernel
theorem dX5_power_20 : decode cX5_power 20 = .ok (.lcmp, 1) := by decide +kernel
theorem dX5_power_21 : decode cX5_power 21 = .ok (.ifCond .le 46, 3) := by decide +kernel
theorem dX5_power_24 : decode cX5_power 24 = .ok (.lload 10, 2) := by decide +kernel
theorem dX5_power_26 : decode cX5_power 26 = .ok (.lconst 1, 1) := by decide +kernel
theorem dX5_power_27 : decode cX5_power 27 = .ok (.land, 1) := by decide +kernel
theorem dX5_power_28 : decode cX5_power 28 = .ok (.lconst 1, 1) := by decide +kernel
theorem dX5_power_29 : decode cX5_power 29 = .ok (.lcmp, 1) := by decide +kernel
theorem dX5_power_30 : decode cX5_power 30 = .ok (.ifCond .ne 14, 3) := by decide +kernel
theorem dX5_power_33 : decode cX5_power 33 = .ok (.lload 6, 2) := by decide +kernel
theorem dX5_power_35 : decode cX5_power 35 = .ok (.lload 8, 2) := by decide +kernel
theorem dX5_power_37 : decode cX5_power 37 = .ok (.lmul, 1) := by decide +kernel
theorem dX5_power_38 : decode cX5_power 38 = .ok (.lload 4, 2) := by decide +kernel
theorem dX5_power_40 : decode cX5_power 40 = .ok (.lrem, 1) := by decide +kernel
theorem dX5_power_41 : decode cX5_power 41 = .ok (.goto 5, 3) := by decide +kernel
theorem dX5_power_44 : decode cX5_power 44 = .ok (.lload 6, 2) := by decide +kernel
theorem dX5_power_46 : decode cX5_power 46 = .ok (.lstore 6, 2) := by decide +kernel
theorem dX5_power_48 : decode cX5_power 48 = .ok (.lload 8, 2) := by decide +kernel
theorem dX5_power_50 : decode cX5_power 50 = .ok (.lload 8, 2) := by decide +kernel
theorem dX5_power_52 : decode cX5_power 52 = .ok (.lmul, 1) := by decide +kernel
theorem dX5_power_53 : decode cX5_power 53 = .ok (.lload 4, 2) := by decide +kernel
theorem dX5_power_55 : decode cX5_power 55 = .ok (.lrem, 1) := by decide +kernel
theorem dX5_power_56 : decode cX5_power 56 = .ok (.lstore 8, 2) := by decide +kernel
theorem dX5_power_58 : decode cX5_power 58 = .ok (.lload 10, 2) := by decide +kernel
theorem dX5_power_60 : decode cX5_power 60 = .ok (.iconst 1, 1) := by decide +kernel
theorem dX5_power_61 : decode cX5_power 61 = .ok (.lshr, 1) := by decide +kernel
theorem dX5_power_62 : decode cX5_power 62 = .ok (.lstore 10, 2) := by decide +kernel
theorem dX5_power_64 : decode cX5_power 64 = .ok (.goto (-47), 3) := by decide +kernel
theorem dX5_power_67 : decode cX5_power 67 = .ok (.lload 6, 2) := by decide +kernel
theorem dX5_power_69 : decode cX5_power 69 = .ok (.lreturn, 1) := by decide +kernel
theorem dX5_isNode_0 : decode cX5_isNode 0 = .ok (.iload_n 1, 1) := by decide +kernel
theorem dX5_isNode_1 : decode cX5_isNode 1 = .ok (.iconst 1, 1) := by decide +kernel
theorem dX5_isNode_2 : decode cX5_isNode 2 = .ok (.if_icmp .lt 15, 3) := by decide +kernel
theorem dX5_isNode_5 : decode cX5_isNode 5 = .ok (.iload_n 1, 1) := by decide +kernel
theorem dX5_isNode_6 : decode cX5_isNode 6 = .ok (.aload_n 0, 1) := by decide +kernel
theorem dX5_isNode_7 : decode cX5_isNode 7 = .ok (.getfield 59, 3) := by decide +kernel
theorem dX5_isNode_10 : decode cX5_isNode 10 = .ok (.if_icmp .gt 7, 3) := by decide +kernel
theorem dX5_isNode_13 : decode cX5_isNode 13 = .ok (.iconst 1, 1) := by decide +kernel
theorem dX5_isNode_14 : decode cX5_isNode 14 = .ok (.goto 4, 3) := by decide +kernel
theorem dX5_isNode_17 : decode cX5_isNode 17 = .ok (.iconst 0, 1) := by decide +kernel
theorem dX5_isNode_18 : decode cX5_isNode 18 = .ok (.ireturn, 1) := by decide +kernel
theorem dX5_isExponent_0 : decode cX5_isExponent 0 = .ok (.iload_n 0, 1) := by decide +kernel
theorem dX5_isExponent_1 : decode cX5_isExponent 1 = .ok (.ifCond .lt 16, 3) := by decide +kernel
theorem dX5_isExponent_4 : decode cX5_isExponent 4 = .ok (.iload_n 0, 1) := by decide +kernel
theorem dX5_isExponent_5 : decode cX5_isExponent 5 = .ok (.i2l, 1) := by decide +kernel
theorem dX5_isExponent_6 : decode cX5_isExponent 6 = .ok (.ldc2_w 62, 3) := by decide +kernel
theorem dX5_isExponent_9 : decode cX5_isExponent 9 = .ok (.lcmp, 1) := by decide +kernel
theorem dX5_isExponent_10 : decode cX5_isExponent 10 = .ok (.ifCond .ge 7, 3) := by decide +kernel
theorem dX5_isExponent_13 : decode cX5_isExponent 13 = .ok (.iconst 1, 1) := by decide +kernel
theorem dX5_isExponent_14 : decode cX5_isExponent 14 = .ok (.goto 4, 3) := by decide +kernel
theorem dX5_isExponent_17 : decode cX5_isExponent 17 = .ok (.iconst 0, 1) := by decide +kernel
theorem dX5_isExponent_18 : decode cX5_isExponent 18 = .ok (.ireturn, 1) := by decide +kernel
theorem dX5_begin_0 : decode cX5_begin 0 = .ok (.aload_n 0, 1) := by decide +kernel
theorem dX5_begin_1 : decode cX5_begin 1 = .ok (.iload_n 1, 1) := by decide +kernel
theorem dX5_begin_2 : decode cX5_begin 2 = .ok (.iconst 1, 1) := by decide +kernel
theorem dX5_begin_3 : decode cX5_begin 3 = .ok (.if_icmp .lt 19, 3) := by decide +kernel
theorem dX5_begin_6 : decode cX5_begin 6 = .ok (.iload_n 1, 1) := by decide +kernel
theorem dX5_begin_7 : decode cX5_begin 7 = .ok (.bipush 16, 2) := by decide +kernel
theorem dX5_begin_9 : decode cX5_begin 9 = .ok (.if_icmp .gt 13, 3) := by decide +kernel
theorem dX5_begin_12 : decode cX5_begin 12 = .ok (.iload_n 2, 1) := by decide +kernel
theorem dX5_begin_13 : decode cX5_begin 13 = .ok (.iconst 1, 1) := by decide +kernel
theorem dX5_begin_14 : decode cX5_begin 14 = .ok (.if_icmp .lt 8, 3) := by decide +kernel
theorem dX5_begin_17 : decode cX5_begin 17 = .ok (.iload_n 2, 1) := by decide +kernel
theorem dX5_begin_18 : decode cX5_begin 18 = .ok (.iload_n 1, 1) := by decide +kernel
theorem dX5_begin_19 : decode cX5_begin 19 = .ok (.if_icmp .le 7, 3) := by decide +kernel
theorem dX5_begin_22 : decode cX5_begin 22 = .ok (.iconst 1, 1) := by decide +kernel
theorem dX5_begin_23 : decode cX5_begin 23 = .ok (.goto 4, 3) := by decide +kernel
theorem dX5_begin_26 : decode cX5_begin 26 = .ok (.iconst 0, 1) := by decide +kernel
theorem dX5_begin_27 : decode cX5_begin 27 = .ok (.invokevirtual 64, 3) := by decide +kernel
theorem dX5_begin_30 : decode cX5_begin 30 = .ok (.ifCond .eq 4, 3) := by decide +kernel
theorem dX5_begin_33 : decode cX5_begin 33 = .ok (.return_, 1) := by decide +kernel
theorem dX5_begin_34 : decode cX5_begin 34 = .ok (.aload_n 0, 1) := by decide +kernel
theorem dX5_begin_35 : decode cX5_begin 35 = .ok (.iload_n 1, 1) := by decide +kernel
theorem dX5_begin_36 : decode cX5_begin 36 = .ok (.putfield 59, 3) := by decide +kernel
theorem dX5_begin_39 : decode cX5_begin 39 = .ok (.aload_n 0, 1) := by decide +kernel
theorem dX5_begin_40 : decode cX5_begin 40 = .ok (.iload_n 2, 1) := by decide +kernel
theorem dX5_begin_41 : decode cX5_begin 41 = .ok (.putfield 68, 3) := by decide +kernel
theorem dX5_begin_44 : decode cX5_begin 44 = .ok (.aload_n 0, 1) := by decide +kernel
theorem dX5_begin_45 : decode cX5_begin 45 = .ok (.iconst 0, 1) := by decide +kernel
theorem dX5_begin_46 : decode cX5_begin 46 = .ok (.putfield 71, 3) := by decide +kernel
theorem dX5_begin_49 : decode cX5_begin 49 = .ok (.aload_n 0, 1) := by decide +kernel
theorem dX5_begin_50 : decode cX5_begin 50 = .ok (.iconst 0, 1) := by decide +kernel
theorem dX5_begin_51 : decode cX5_begin 51 = .ok (.putfield 75, 3) := by decide +kernel
theorem dX5_begin_54 : decode cX5_begin 54 = .ok (.aload_n 0, 1) := by decide +kernel
theorem dX5_begin_55 : decode cX5_begin 55 = .ok (.iconst 0, 1) := by decide +kernel
theorem dX5_begin_56 : decode cX5_begin 56 = .ok (.putfield 78, 3) := by decide +kernel
theorem dX5_begin_59 : decode cX5_begin 59 = .ok (.aload_n 0, 1) := by decide +kernel
theorem dX5_begin_60 : decode cX5_begin 60 = .ok (.iconst 0, 1) := by decide +kernel
theorem dX5_begin_61 : decode cX5_begin 61 = .ok (.putfield 81, 3) := by decide +kernel
theorem dX5_begin_64 : decode cX5_begin 64 = .ok (.iconst 0, 1) := by decide +kernel
theorem dX5_begin_65 : decode cX5_begin 65 = .ok (.istore_n 3, 1) := by decide +kernel
theorem dX5_begin_66 : decode cX5_begin 66 = .ok (.iload_n 3, 1) := by decide +kernel
theorem dX5_begin_67 : decode cX5_begin 67 = .ok (.bipush 17, 2) := by decide +kernel
theorem dX5_begin_69 : decode cX5_begin 69 = .ok (.if_icmp .ge 23, 3) := by decide +kernel
theorem dX5_begin_72 : decode cX5_begin 72 = .ok (.aload_n 0, 1) := by decide +kernel
theorem dX5_begin_73 : decode cX5_begin 73 = .ok (.getfield 7, 3) := by decide +kernel
theorem dX5_begin_76 : decode cX5_begin 76 = .ok (.iload_n 3, 1) := by decide +kernel
theorem dX5_begin_77 : decode cX5_begin 77 = .ok (.iconst 0, 1) := by decide +kernel
theorem dX5_begin_78 : decode cX5_begin 78 = .ok (.bastore, 1) := by decide +kernel
theorem dX5_begin_79 : decode cX5_begin 79 = .ok (.aload_n 0, 1) := by decide +kernel
theorem dX5_begin_80 : decode cX5_begin 80 = .ok (.getfield 13, 3) := by decide +kernel
theorem dX5_begin_83 : decode cX5_begin 83 = .ok (.iload_n 3, 1) := by decide +kernel
theorem dX5_begin_84 : decode cX5_begin 84 = .ok (.iconst 0, 1) := by decide +kernel
theorem dX5_begin_85 : decode cX5_begin 85 = .ok (.bastore, 1) := by decide +kernel
theorem dX5_begin_86 : decode cX5_begin 86 = .ok (.iinc 3 1, 3) := by decide +kernel
theorem dX5_begin_89 : decode cX5_begin 89 = .ok (.goto (-23), 3) := by decide +kernel
theorem dX5_begin_92 : decode cX5_begin 92 = .ok (.iconst 0, 1) := by decide +kernel
theorem dX5_begin_93 : decode cX5_begin 93 = .ok (.istore_n 3, 1) := by decide +kernel
theorem dX5_begin_94 : decode cX5_begin 94 = .ok (.iload_n 3, 1) := by decide +kernel
theorem dX5_begin_95 : decode cX5_begin 95 = .ok (.sipush 289, 3) := by decide +kernel
theorem dX5_begin_98 : decode cX5_begin 98 = .ok (.if_icmp .ge 16, 3) := by decide +kernel
theorem dX5_begin_101 : decode cX5_begin 101 = .ok (.aload_n 0, 1) := by decide +kernel
theorem dX5_begin_102 : decode cX5_begin 102 = .ok (.getfield 26, 3) := by decide +kernel
theorem dX5_begin_105 : decode cX5_begin 105 = .ok (.iload_n 3, 1) := by decide +kernel
theorem dX5_begin_106 : decode cX5_begin 106 = .ok (.iconst 0, 1) := by decide +kernel
theorem dX5_begin_107 : decode cX5_begin 107 = .ok (.bastore, 1) := by decide +kernel
theorem dX5_begin_108 : decode cX5_begin 108 = .ok (.iinc 3 1, 3) := by decide +kernel
theorem dX5_begin_111 : decode cX5_begin 111 = .ok (.goto (-17), 3) := by decide +kernel
theorem dX5_begin_114 : decode cX5_begin 114 = .ok (.return_, 1) := by decide +kernel
theorem dX5_right_0 : decode cX5_right 0 = .ok (.lconst 0, 1) := by decide +kernel
theorem dX5_right_1 : decode cX5_right 1 = .ok (.lstore_n 3, 1) := by decide +kernel
theorem dX5_right_2 : decode cX5_right 2 = .ok (.lconst 1, 1) := by decide +kernel
theorem dX5_right_3 : decode cX5_right 3 = .ok (.lstore 5, 2) := by decide +kernel
theorem dX5_right_5 : decode cX5_right 5 = .ok (.iconst 0, 1) := by decide +kernel
theorem dX5_right_6 : decode cX5_right 6 = .ok (.istore 7, 2) := by decide +kernel
theorem dX5_right_8 : decode cX5_right 8 = .ok (.iload 7, 2) := by decide +kernel
theorem dX5_right_10 : decode cX5_right 10 = .ok (.aload_n 0, 1) := by decide +kernel
theorem dX5_right_11 : decode cX5_right 11 = .ok (.getfield 68, 3) := by decide +kernel
theorem dX5_right_14 : decode cX5_right 14 = .ok (.if_icmp .ge 42, 3) := by decide +kernel
theorem dX5_right_17 : decode cX5_right 17 = .ok (.lload_n 3, 1) := by decide +kernel
theorem dX5_right_18 : decode cX5_right 18 = .ok (.aload_n 0, 1) := by decide +kernel
theorem dX5_right_19 : decode cX5_right 19 = .ok (.getfield 16, 3) := by decide +kernel
theorem dX5_right_22 : decode cX5_right 22 = .ok (.bipush 17, 2) := by decide +kernel
theorem dX5_right_24 : decode cX5_right 24 = .ok (.iload_n 1, 1) := by decide +kernel
theorem dX5_right_25 : decode cX5_right 25 = .ok (.imul, 1) := by decide +kernel
theorem dX5_right_26 : decode cX5_right 26 = .ok (.iload 7, 2) := by decide +kernel
theorem dX5_right_28 : decode cX5_right 28 = .ok (.iadd, 1) := by decide +kernel
theorem dX5_right_29 : decode cX5_right 29 = .ok (.laload, 1) := by decide +kernel
theorem dX5_right_30 : decode cX5_right 30 = .ok (.lload 5, 2) := by decide +kernel
theorem dX5_right_32 : decode cX5_right 32 = .ok (.lmul, 1) := by decide +kernel
theorem dX5_right_33 : decode cX5_right 33 = .ok (.ladd, 1) := by decide +kernel
theorem dX5_right_34 : decode cX5_right 34 = .ok (.ldc2_w 62, 3) := by decide +kernel
theorem dX5_right_37 : decode cX5_right 37 = .ok (.lrem, 1) := by decide +kernel
theorem dX5_right_38 : decode cX5_right 38 = .ok (.lstore_n 3, 1) := by decide +kernel
theorem dX5_right_39 : decode cX5_right 39 = .ok (.lload 5, 2) := by decide +kernel
theorem dX5_right_41 : decode cX5_right 41 = .ok (.iload_n 2, 1) := by decide +kernel
theorem dX5_right_42 : decode cX5_right 42 = .ok (.i2l, 1) := by decide +kernel
theorem dX5_right_43 : decode cX5_right 43 = .ok (.lmul, 1) := by decide +kernel
theorem dX5_right_44 : decode cX5_right 44 = .ok (.ldc2_w 62, 3) := by decide +kernel
theorem dX5_right_47 : decode cX5_right 47 = .ok (.lrem, 1) := by decide +kernel
theorem dX5_right_48 : decode cX5_right 48 = .ok (.lstore 5, 2) := by decide +kernel
theorem dX5_right_50 : decode cX5_right 50 = .ok (.iinc 7 1, 3) := by decide +kernel
theorem dX5_right_53 : decode cX5_right 53 = .ok (.goto (-45), 3) := by decide +kernel
theorem dX5_right_56 : decode cX5_right 56 = .ok (.lload_n 3, 1) := by decide +kernel
theorem dX5_right_57 : decode cX5_right 57 = .ok (.lreturn, 1) := by decide +kernel
theorem dX5_deal_0 : decode cX5_deal 0 = .ok (.aload_n 0, 1) := by decide +kernel
theorem dX5_deal_1 : decode cX5_deal 1 = .ok (.aload_n 0, 1) := by decide +kernel
theorem dX5_deal_2 : decode cX5_deal 2 = .ok (.iload_n 1, 1) := by decide +kernel
theorem dX5_deal_3 : decode cX5_deal 3 = .ok (.invokevirtual 84, 3) := by decide +kernel
theorem dX5_deal_6 : decode cX5_deal 6 = .ok (.ifCond .ne 7, 3) := by decide +kernel
theorem dX5_deal_9 : decode cX5_deal 9 = .ok (.iconst 1, 1) := by decide +kernel
theorem dX5_deal_10 : decode cX5_deal 10 = .ok (.goto 24, 3) := by decide +kernel
theorem dX5_deal_13 : decode cX5_deal 13 = .ok (.aload_n 0, 1) := by decide +kernel
theorem dX5_deal_14 : decode cX5_deal 14 = .ok (.getfield 7, 3) := by decide +kernel
theorem dX5_deal_17 : decode cX5_deal 17 = .ok (.iload_n 1, 1) := by decide +kernel
theorem dX5_deal_18 : decode cX5_deal 18 = .ok (.baload, 1) := by decide +kernel
theorem dX5_deal_19 : decode cX5_deal 19 = .ok (.ifCond .ne 10, 3) := by decide +kernel
theorem dX5_deal_22 : decode cX5_deal 22 = .ok (.aload_n 0, 1) := by decide +kernel
theorem dX5_deal_23 : decode cX5_deal 23 = .ok (.getfield 71, 3) := by decide +kernel
theorem dX5_deal_26 : decode cX5_deal 26 = .ok (.ifCond .eq 7, 3) := by decide +kernel
theorem dX5_deal_29 : decode cX5_deal 29 = .ok (.iconst 2, 1) := by decide +kernel
theorem dX5_deal_30 : decode cX5_deal 30 = .ok (.goto 4, 3) := by decide +kernel
theorem dX5_deal_33 : decode cX5_deal 33 = .ok (.iconst 0, 1) := by decide +kernel
theorem dX5_deal_34 : decode cX5_deal 34 = .ok (.invokevirtual 64, 3) := by decide +kernel
theorem dX5_deal_37 : decode cX5_deal 37 = .ok (.ifCond .eq 4, 3) := by decide +kernel
theorem dX5_deal_40 : decode cX5_deal 40 = .ok (.return_, 1) := by decide +kernel
theorem dX5_deal_41 : decode cX5_deal 41 = .ok (.aload_n 0, 1) := by decide +kernel
theorem dX5_deal_42 : decode cX5_deal 42 = .ok (.getfield 7, 3) := by decide +kernel
theorem dX5_deal_45 : decode cX5_deal 45 = .ok (.iload_n 1, 1) := by decide +kernel
theorem dX5_deal_46 : decode cX5_deal 46 = .ok (.iconst 1, 1) := by decide +kernel
theorem dX5_deal_47 : decode cX5_deal 47 = .ok (.bastore, 1) := by decide +kernel
theorem dX5_deal_48 : decode cX5_deal 48 = .ok (.iconst 0, 1) := by decide +kernel
theorem dX5_deal_49 : decode cX5_deal 49 = .ok (.istore 4, 2) := by decide +kernel
theorem dX5_deal_51 : decode cX5_deal 51 = .ok (.iload 4, 2) := by decide +kernel
theorem dX5_deal_53 : decode cX5_deal 53 = .ok (.aload_n 0, 1) := by decide +kernel
theorem dX5_deal_54 : decode cX5_deal 54 = .ok (.getfield 68, 3) := by decide +kernel
theorem dX5_deal_57 : decode cX5_deal 57 = .ok (.if_icmp .ge 87, 3) := by decide +kernel
theorem dX5_deal_60 : decode cX5_deal 60 = .ok (.aload_n 0, 1) := by decide +kernel
theorem dX5_deal_61 : decode cX5_deal 61 = .ok (.lconst 0, 1) := by decide +kernel
theorem dX5_deal_62 : decode cX5_deal 62 = .ok (.putfield 45, 3) := by decide +kernel
theorem dX5_deal_65 : decode cX5_deal 65 = .ok (.aload_n 0, 1) := by decide +kernel
theorem dX5_deal_66 : decode cX5_deal 66 = .ok (.lload_n 2, 1) := by decide +kernel
theorem dX5_deal_67 : decode cX5_deal 67 = .ok (.invokevirtual 87, 3) := by decide +kernel
theorem dX5_deal_70 : decode cX5_deal 70 = .ok (.aload_n 0, 1) := by decide +kernel
theorem dX5_deal_71 : decode cX5_deal 71 = .ok (.iload_n 1, 1) := by decide +kernel
theorem dX5_deal_72 : decode cX5_deal 72 = .ok (.i2l, 1) := by decide +kernel
theorem dX5_deal_73 : decode cX5_deal 73 = .ok (.invokevirtual 87, 3) := by decide +kernel
theorem dX5_deal_76 : decode cX5_deal 76 = .ok (.aload_n 0, 1) := by decide +kernel
theorem dX5_deal_77 : decode cX5_deal 77 = .ok (.iload 4, 2) := by decide +kernel
theorem dX5_deal_79 : decode cX5_deal 79 = .ok (.i2l, 1) := by decide +kernel
theorem dX5_deal_80 : decode cX5_deal 80 = .ok (.invokevirtual 87, 3) := by decide +kernel
theorem dX5_deal_83 : decode cX5_deal 83 = .ok (.aload_n 0, 1) := by decide +kernel
theorem dX5_deal_84 : decode cX5_deal 84 = .ok (.getfield 16, 3) := by decide +kernel
theorem dX5_deal_87 : decode cX5_deal 87 = .ok (.bipush 17, 2) := by decide +kernel
theorem dX5_deal_89 : decode cX5_deal 89 = .ok (.iload_n 1, 1) := by decide +kernel
theorem dX5_deal_90 : decode cX5_deal 90 = .ok (.imul, 1) := by decide +kernel
theorem dX5_deal_91 : decode cX5_deal 91 = .ok (.iload 4, 2) := by decide +kernel
theorem dX5_deal_93 : decode cX5_deal 93 = .ok (.iadd, 1) := by decide +kernel
theorem dX5_deal_94 : decode cX5_deal 94 = .ok (.aload_n 0, 1) := by decide +kernel
theorem dX5_deal_95 : decode cX5_deal 95 = .ok (.getfield 45, 3) := by decide +kernel
theorem dX5_deal_98 : decode cX5_deal 98 = .ok (.ldc2_w 62, 3) := by decide +kernel
theorem dX5_deal_101 : decode cX5_deal 101 = .ok (.invokestatic 55, 3) := by decide +kernel
theorem dX5_deal_104 : decode cX5_deal 104 = .ok (.lastore, 1) := by decide +kernel
theorem dX5_deal_105 : decode cX5_deal 105 = .ok (.aload_n 0, 1) := by decide +kernel
theorem dX5_deal_106 : decode cX5_deal 106 = .ok (.getfield 20, 3) := by decide +kernel
theorem dX5_deal_109 : decode cX5_deal 109 = .ok (.bipush 17, 2) := by decide +kernel
theorem dX5_deal_111 : decode cX5_deal 111 = .ok (.iload_n 1, 1) := by decide +kernel
theorem dX5_deal_112 : decode cX5_deal 112 = .ok (.imul, 1) := by decide +kernel
theorem dX5_deal_113 : decode cX5_deal 113 = .ok (.iload 4, 2) := by decide +kernel
theorem dX5_deal_115 : decode cX5_deal 115 = .ok (.iadd, 1) := by decide +kernel
theorem dX5_deal_116 : decode cX5_deal 116 = .ok (.ldc2_w 91, 3) := by decide +kernel
theorem dX5_deal_119 : decode cX5_deal 119 = .ok (.aload_n 0, 1) := by decide +kernel
theorem dX5_deal_120 : decode cX5_deal 120 = .ok (.getfield 16, 3) := by decide +kernel
theorem dX5_deal_123 : decode cX5_deal 123 = .ok (.bipush 17, 2) := by decide +kernel
theorem dX5_deal_125 : decode cX5_deal 125 = .ok (.iload_n 1, 1) := by decide +kernel
theorem dX5_deal_126 : decode cX5_deal 126 = .ok (.imul, 1) := by decide +kernel
theorem dX5_deal_127 : decode cX5_deal 127 = .ok (.iload 4, 2) := by decide +kernel
theorem dX5_deal_129 : decode cX5_deal 129 = .ok (.iadd, 1) := by decide +kernel
theorem dX5_deal_130 : decode cX5_deal 130 = .ok (.laload, 1) := by decide +kernel
theorem dX5_deal_131 : decode cX5_deal 131 = .ok (.ldc2_w 93, 3) := by decide +kernel
theorem dX5_deal_134 : decode cX5_deal 134 = .ok (.invokestatic 95, 3) := by decide +kernel
theorem dX5_deal_137 : decode cX5_deal 137 = .ok (.lastore, 1) := by decide +kernel
theorem dX5_deal_138 : decode cX5_deal 138 = .ok (.iinc 4 1, 3) := by decide +kernel
theorem dX5_deal_141 : decode cX5_deal 141 = .ok (.goto (-90), 3) := by decide +kernel
theorem dX5_deal_144 : decode cX5_deal 144 = .ok (.iconst 1, 1) := by decide +kernel
theorem dX5_deal_145 : decode cX5_deal 145 = .ok (.istore 4, 2) := by decide +kernel
theorem dX5_deal_147 : decode cX5_deal 147 = .ok (.iload 4, 2) := by decide +kernel
theorem dX5_deal_149 : decode cX5_deal 149 = .ok (.aload_n 0, 1) := by decide +kernel
theorem dX5_deal_150 : decode cX5_deal 150 = .ok (.getfield 59, 3) := by decide +kernel
theorem dX5_deal_153 : decode cX5_deal 153 = .ok (.if_icmp .gt 28, 3) := by decide +kernel
theorem dX5_deal_156 : decode cX5_deal 156 = .ok (.aload_n 0, 1) := by decide +kernel
theorem dX5_deal_157 : decode cX5_deal 157 = .ok (.getfield 23, 3) := by decide +kernel
theorem dX5_deal_160 : decode cX5_deal 160 = .ok (.bipush 17, 2) := by decide +kernel
theorem dX5_deal_162 : decode cX5_deal 162 = .ok (.iload_n 1, 1) := by decide +kernel
theorem dX5_deal_163 : decode cX5_deal 163 = .ok (.imul, 1) := by decide +kernel
theorem dX5_deal_164 : decode cX5_deal 164 = .ok (.iload 4, 2) := by decide +kernel
theorem dX5_deal_166 : decode cX5_deal 166 = .ok (.iadd, 1) := by decide +kernel
theorem dX5_deal_167 : decode cX5_deal 167 = .ok (.aload_n 0, 1) := by decide +kernel
theorem dX5_deal_168 : decode cX5_deal 168 = .ok (.iload_n 1, 1) := by decide +kernel
theorem dX5_deal_169 : decode cX5_deal 169 = .ok (.iload 4, 2) := by decide +kernel
theorem dX5_deal_171 : decode cX5_deal 171 = .ok (.invokevirtual 99, 3) := by decide +kernel
theorem dX5_deal_174 : decode cX5_deal 174 = .ok (.lastore, 1) := by decide +kernel
theorem dX5_deal_175 : decode cX5_deal 175 = .ok (.iinc 4 1, 3) := by decide +kernel
theorem dX5_deal_178 : decode cX5_deal 178 = .ok (.goto (-31), 3) := by decide +kernel
theorem dX5_deal_181 : decode cX5_deal 181 = .ok (.return_, 1) := by decide +kernel
theorem dX5_spoil_0 : decode cX5_spoil 0 = .ok (.aload_n 0, 1) := by decide +kernel
theorem dX5_spoil_1 : decode cX5_spoil 1 = .ok (.iload_n 1, 1) := by decide +kernel
theorem dX5_spoil_2 : decode cX5_spoil 2 = .ok (.invokevirtual 84, 3) := by decide +kernel
theorem dX5_spoil_5 : decode cX5_spoil 5 = .ok (.ifCond .eq 22, 3) := by decide +kernel
theorem dX5_spoil_8 : decode cX5_spoil 8 = .ok (.aload_n 0, 1) := by decide +kernel
theorem dX5_spoil_9 : decode cX5_spoil 9 = .ok (.iload_n 2, 1) := by decide +kernel
theorem dX5_spoil_10 : decode cX5_spoil 10 = .ok (.invokevirtual 84, 3) := by decide +kernel
theorem dX5_spoil_13 : decode cX5_spoil 13 = .ok (.ifCond .eq 14, 3) := by decide +kernel
theorem dX5_spoil_16 : decode cX5_spoil 16 = .ok (.iload_n 3, 1) := by decide +kernel
theorem dX5_spoil_17 : decode cX5_spoil 17 = .ok (.invokestatic 103, 3) := by decide +kernel
theorem dX5_spoil_20 : decode cX5_spoil 20 = .ok (.ifCond .eq 7, 3) := by decide +kernel
theorem dX5_spoil_23 : decode cX5_spoil 23 = .ok (.iconst 1, 1) := by decide +kernel
theorem dX5_spoil_24 : decode cX5_spoil 24 = .ok (.goto 4, 3) := by decide +kernel
theorem dX5_spoil_27 : decode cX5_spoil 27 = .ok (.iconst 0, 1) := by decide +kernel
theorem dX5_spoil_28 : decode cX5_spoil 28 = .ok (.istore 4, 2) := by decide +kernel
theorem dX5_spoil_30 : decode cX5_spoil 30 = .ok (.aload_n 0, 1) := by decide +kernel
theorem dX5_spoil_31 : decode cX5_spoil 31 = .ok (.iload 4, 2) := by decide +kernel
theorem dX5_spoil_33 : decode cX5_spoil 33 = .ok (.ifCond .ne 7, 3) := by decide +kernel
theorem dX5_spoil_36 : decode cX5_spoil 36 = .ok (.iconst 1, 1) := by decide +kernel
theorem dX5_spoil_37 : decode cX5_spoil 37 = .ok (.goto 24, 3) := by decide +kernel
theorem dX5_spoil_40 : decode cX5_spoil 40 = .ok (.aload_n 0, 1) := by decide +kernel
theorem dX5_spoil_41 : decode cX5_spoil 41 = .ok (.getfield 7, 3) := by decide +kernel
theorem dX5_spoil_44 : decode cX5_spoil 44 = .ok (.iload_n 1, 1) := by decide +kernel
theorem dX5_spoil_45 : decode cX5_spoil 45 = .ok (.baload, 1) := by decide +kernel
theorem dX5_spoil_46 : decode cX5_spoil 46 = .ok (.ifCond .eq 10, 3) := by decide +kernel
theorem dX5_spoil_49 : decode cX5_spoil 49 = .ok (.aload_n 0, 1) := by decide +kernel
theorem dX5_spoil_50 : decode cX5_spoil 50 = .ok (.getfield 71, 3) := by decide +kernel
theorem dX5_spoil_53 : decode cX5_spoil 53 = .ok (.ifCond .eq 7, 3) := by decide +kernel
theorem dX5_spoil_56 : decode cX5_spoil 56 = .ok (.iconst 2, 1) := by decide +kernel
theorem dX5_spoil_57 : decode cX5_spoil 57 = .ok (.goto 4, 3) := by decide +kernel
theorem dX5_spoil_60 : decode cX5_spoil 60 = .ok (.iconst 0, 1) := by decide +kernel
theorem dX5_spoil_61 : decode cX5_spoil 61 = .ok (.invokevirtual 64, 3) := by decide +kernel
theorem dX5_spoil_64 : decode cX5_spoil 64 = .ok (.ifCond .eq 5, 3) := by decide +kernel
theorem dX5_spoil_67 : decode cX5_spoil 67 = .ok (.iconst 0, 1) := by decide +kernel
theorem dX5_spoil_68 : decode cX5_spoil 68 = .ok (.ireturn, 1) := by decide +kernel
theorem dX5_spoil_69 : decode cX5_spoil 69 = .ok (.aload_n 0, 1) := by decide +kernel
theorem dX5_spoil_70 : decode cX5_spoil 70 = .ok (.getfield 23, 3) := by decide +kernel
theorem dX5_spoil_73 : decode cX5_spoil 73 = .ok (.bipush 17, 2) := by decide +kernel
theorem dX5_spoil_75 : decode cX5_spoil 75 = .ok (.iload_n 1, 1) := by decide +kernel
theorem dX5_spoil_76 : decode cX5_spoil 76 = .ok (.imul, 1) := by decide +kernel
theorem dX5_spoil_77 : decode cX5_spoil 77 = .ok (.iload_n 2, 1) := by decide +kernel
theorem dX5_spoil_78 : decode cX5_spoil 78 = .ok (.iadd, 1) := by decide +kernel
theorem dX5_spoil_79 : decode cX5_spoil 79 = .ok (.laload, 1) := by decide +kernel
theorem dX5_spoil_80 : decode cX5_spoil 80 = .ok (.l2i, 1) := by decide +kernel
theorem dX5_spoil_81 : decode cX5_spoil 81 = .ok (.istore 5, 2) := by decide +kernel
theorem dX5_spoil_83 : decode cX5_spoil 83 = .ok (.aload_n 0, 1) := by decide +kernel
theorem dX5_spoil_84 : decode cX5_spoil 84 = .ok (.getfield 23, 3) := by decide +kernel
theorem dX5_spoil_87 : decode cX5_spoil 87 = .ok (.bipush 17, 2) := by decide +kernel
theorem dX5_spoil_89 : decode cX5_spoil 89 = .ok (.iload_n 1, 1) := by decide +kernel
theorem dX5_spoil_90 : decode cX5_spoil 90 = .ok (.imul, 1) := by decide +kernel
theorem dX5_spoil_91 : decode cX5_spoil 91 = .ok (.iload_n 2, 1) := by decide +kernel
theorem dX5_spoil_92 : decode cX5_spoil 92 = .ok (.iadd, 1) := by decide +kernel
theorem dX5_spoil_93 : decode cX5_spoil 93 = .ok (.iload 5, 2) := by decide +kernel
theorem dX5_spoil_95 : decode cX5_spoil 95 = .ok (.i2l, 1) := by decide +kernel
theorem dX5_spoil_96 : decode cX5_spoil 96 = .ok (.iload_n 3, 1) := by decide +kernel
theorem dX5_spoil_97 : decode cX5_spoil 97 = .ok (.i2l, 1) := by decide +kernel
theorem dX5_spoil_98 : decode cX5_spoil 98 = .ok (.ladd, 1) := by decide +kernel
theorem dX5_spoil_99 : decode cX5_spoil 99 = .ok (.ldc2_w 62, 3) := by decide +kernel
theorem dX5_spoil_102 : decode cX5_spoil 102 = .ok (.lrem, 1) := by decide +kernel
theorem dX5_spoil_103 : decode cX5_spoil 103 = .ok (.lastore, 1) := by decide +kernel
theorem dX5_spoil_104 : decode cX5_spoil 104 = .ok (.iload 5, 2) := by decide +kernel
theorem dX5_spoil_106 : decode cX5_spoil 106 = .ok (.ireturn, 1) := by decide +kernel
theorem dX5_commitment_0 : decode cX5_commitment 0 = .ok (.aload_n 0, 1) := by decide +kernel
theorem dX5_commitment_1 : decode cX5_commitment 1 = .ok (.aload_n 0, 1) := by decide +kernel
theorem dX5_commitment_2 : decode cX5_commitment 2 = .ok (.iload_n 1, 1) := by decide +kernel
theorem dX5_commitment_3 : decode cX5_commitment 3 = .ok (.invokevirtual 84, 3) := by decide +kernel
theorem dX5_commitment_6 : decode cX5_commitment 6 = .ok (.ifCond .eq 15, 3) := by decide +kernel
theorem dX5_commitment_9 : decode cX5_commitment 9 = .ok (.iload_n 2, 1) := by decide +kernel
theorem dX5_commitment_10 : decode cX5_commitment 10 = .ok (.ifCond .lt 11, 3) := by decide +kernel
theorem dX5_commitment_13 : decode cX5_commitment 13 = .ok (.iload_n 2, 1) := by decide +kernel
theorem dX5_commitment_14 : decode cX5_commitment 14 = .ok (.aload_n 0, 1) := by decide +kernel
theorem dX5_commitment_15 : decode cX5_commitment 15 = .ok (.getfield 68, 3) := by decide +kernel
theorem dX5_commitment_18 : decode cX5_commitment 18 = .ok (.if_icmp .lt 7, 3) := by decide +kernel
theorem dX5_commitment_21 : decode cX5_commitment 21 = .ok (.iconst 1, 1) := by decide +kernel
theorem dX5_commitment_22 : decode cX5_commitment 22 = .ok (.goto 17, 3) := by decide +kernel
theorem dX5_commitment_25 : decode cX5_commitment 25 = .ok (.aload_n 0, 1) := by decide +kernel
theorem dX5_commitment_26 : decode cX5_commitment 26 = .ok (.getfield 7, 3) := by decide +kernel
theorem dX5_commitment_29 : decode cX5_commitment 29 = .ok (.iload_n 1, 1) := by decide +kernel
theorem dX5_commitment_30 : decode cX5_commitment 30 = .ok (.baload, 1) := by decide +kernel
theorem dX5_commitment_31 : decode cX5_commitment 31 = .ok (.ifCond .ne 7, 3) := by decide +kernel
theorem dX5_commitment_34 : decode cX5_commitment 34 = .ok (.iconst 2, 1) := by decide +kernel
theorem dX5_commitment_35 : decode cX5_commitment 35 = .ok (.goto 4, 3) := by decide +kernel
theorem dX5_commitment_38 : decode cX5_commitment 38 = .ok (.iconst 0, 1) := by decide +kernel
theorem dX5_commitment_39 : decode cX5_commitment 39 = .ok (.invokevirtual 64, 3) := by decide +kernel
theorem dX5_commitment_42 : decode cX5_commitment 42 = .ok (.ifCond .eq 5, 3) := by decide +kernel
theorem dX5_commitment_45 : decode cX5_commitment 45 = .ok (.iconst 0, 1) := by decide +kernel
theorem dX5_commitment_46 : decode cX5_commitment 46 = .ok (.ireturn, 1) := by decide +kernel
theorem dX5_commitment_47 : decode cX5_commitment 47 = .ok (.aload_n 0, 1) := by decide +kernel
theorem dX5_commitment_48 : decode cX5_commitment 48 = .ok (.getfield 20, 3) := by decide +kernel
theorem dX5_commitment_51 : decode cX5_commitment 51 = .ok (.bipush 17, 2) := by decide +kernel
theorem dX5_commitment_53 : decode cX5_commitment 53 = .ok (.iload_n 1, 1) := by decide +kernel
theorem dX5_commitment_54 : decode cX5_commitment 54 = .ok (.imul, 1) := by decide +kernel
theorem dX5_commitment_55 : decode cX5_commitment 55 = .ok (.iload_n 2, 1) := by decide +kernel
theorem dX5_commitment_56 : decode cX5_commitment 56 = .ok (.iadd, 1) := by decide +kernel
theorem dX5_commitment_57 : decode cX5_commitment 57 = .ok (.laload, 1) := by decide +kernel
theorem dX5_commitment_58 : decode cX5_commitment 58 = .ok (.l2i, 1) := by decide +kernel
theorem dX5_commitment_59 : decode cX5_commitment 59 = .ok (.ireturn, 1) := by decide +kernel
theorem dX5_share_0 : decode cX5_share 0 = .ok (.aload_n 0, 1) := by decide +kernel
theorem dX5_share_1 : decode cX5_share 1 = .ok (.aload_n 0, 1) := by decide +kernel
theorem dX5_share_2 : decode cX5_share 2 = .ok (.iload_n 1, 1) := by decide +kernel
theorem dX5_share_3 : decode cX5_share 3 = .ok (.invokevirtual 84, 3) := by decide +kernel
theorem dX5_share_6 : decode cX5_share 6 = .ok (.ifCond .eq 11, 3) := by decide +kernel
theorem dX5_share_9 : decode cX5_share 9 = .ok (.aload_n 0, 1) := by decide +kernel
theorem dX5_share_10 : decode cX5_share 10 = .ok (.iload_n 2, 1) := by decide +kernel
theorem dX5_share_11 : decode cX5_share 11 = .ok (.invokevirtual 84, 3) := by decide +kernel
theorem dX5_share_14 : decode cX5_share 14 = .ok (.ifCond .ne 7, 3) := by decide +kernel
theorem dX5_share_17 : decode cX5_share 17 = .ok (.iconst 1, 1) := by decide +kernel
theorem dX5_share_18 : decode cX5_share 18 = .ok (.goto 17, 3) := by decide +kernel
theorem dX5_share_21 : decode cX5_share 21 = .ok (.aload_n 0, 1) := by decide +kernel
theorem dX5_share_22 : decode cX5_share 22 = .ok (.getfield 7, 3) := by decide +kernel
theorem dX5_share_25 : decode cX5_share 25 = .ok (.iload_n 1, 1) := by decide +kernel
theorem dX5_share_26 : decode cX5_share 26 = .ok (.baload, 1) := by decide +kernel
theorem dX5_share_27 : decode cX5_share 27 = .ok (.ifCond .ne 7, 3) := by decide +kernel
theorem dX5_share_30 : decode cX5_share 30 = .ok (.iconst 2, 1) := by decide +kernel
theorem dX5_share_31 : decode cX5_share 31 = .ok (.goto 4, 3) := by decide +kernel
theorem dX5_share_34 : decode cX5_share 34 = .ok (.iconst 0, 1) := by decide +kernel
theorem dX5_share_35 : decode cX5_share 35 = .ok (.invokevirtual 64, 3) := by decide +kernel
theorem dX5_share_38 : decode cX5_share 38 = .ok (.ifCond .eq 5, 3) := by decide +kernel
theorem dX5_share_41 : decode cX5_share 41 = .ok (.iconst 0, 1) := by decide +kernel
theorem dX5_share_42 : decode cX5_share 42 = .ok (.ireturn, 1) := by decide +kernel
theorem dX5_share_43 : decode cX5_share 43 = .ok (.aload_n 0, 1) := by decide +kernel
theorem dX5_share_44 : decode cX5_share 44 = .ok (.getfield 23, 3) := by decide +kernel
theorem dX5_share_47 : decode cX5_share 47 = .ok (.bipush 17, 2) := by decide +kernel
theorem dX5_share_49 : decode cX5_share 49 = .ok (.iload_n 1, 1) := by decide +kernel
theorem dX5_share_50 : decode cX5_share 50 = .ok (.imul, 1) := by decide +kernel
theorem dX5_share_51 : decode cX5_share 51 = .ok (.iload_n 2, 1) := by decide +kernel
theorem dX5_share_52 : decode cX5_share 52 = .ok (.iadd, 1) := by decide +kernel
theorem dX5_share_53 : decode cX5_share 53 = .ok (.laload, 1) := by decide +kernel
theorem dX5_share_54 : decode cX5_share 54 = .ok (.l2i, 1) := by decide +kernel
theorem dX5_share_55 : decode cX5_share 55 = .ok (.ireturn, 1) := by decide +kernel
