theorem dX2_init_0 : decode cX2_init 0 = .ok (.aload_n 0, 1) := by decide +kernel
theorem dX2_init_1 : decode cX2_init 1 = .ok (.invokespecial 3, 3) := by decide +kernel
theorem dX2_init_4 : decode cX2_init 4 = .ok (.aload_n 0, 1) := by decide +kernel
theorem dX2_init_5 : decode cX2_init 5 = .ok (.sipush 301, 3) := by decide +kernel
theorem dX2_init_8 : decode cX2_init 8 = .ok (.newarray .long, 2) := by decide +kernel
theorem dX2_init_10 : decode cX2_init 10 = .ok (.putfield 9, 3) := by decide +kernel
theorem dX2_init_13 : decode cX2_init 13 = .ok (.aload_n 0, 1) := by decide +kernel
theorem dX2_init_14 : decode cX2_init 14 = .ok (.bipush 17, 2) := by decide +kernel
theorem dX2_init_16 : decode cX2_init 16 = .ok (.newarray .int, 2) := by decide +kernel
theorem dX2_init_18 : decode cX2_init 18 = .ok (.putfield 15, 3) := by decide +kernel
theorem dX2_init_21 : decode cX2_init 21 = .ok (.aload_n 0, 1) := by decide +kernel
theorem dX2_init_22 : decode cX2_init 22 = .ok (.bipush 16, 2) := by decide +kernel
theorem dX2_init_24 : decode cX2_init 24 = .ok (.newarray .int, 2) := by decide +kernel
theorem dX2_init_26 : decode cX2_init 26 = .ok (.putfield 19, 3) := by decide +kernel
theorem dX2_init_29 : decode cX2_init 29 = .ok (.aload_n 0, 1) := by decide +kernel
theorem dX2_init_30 : decode cX2_init 30 = .ok (.getfield 19, 3) := by decide +kernel
theorem dX2_init_33 : decode cX2_init 33 = .ok (.iconst 1, 1) := by decide +kernel
theorem dX2_init_34 : decode cX2_init 34 = .ok (.iconst 1, 1) := by decide +kernel
theorem dX2_init_35 : decode cX2_init 35 = .ok (.iastore, 1) := by decide +kernel
theorem dX2_init_36 : decode cX2_init 36 = .ok (.iconst 2, 1) := by decide +kernel
theorem dX2_init_37 : decode cX2_init 37 = .ok (.istore_n 1, 1) := by decide +kernel
theorem dX2_init_38 : decode cX2_init 38 = .ok (.iload_n 1, 1) := by decide +kernel
theorem dX2_init_39 : decode cX2_init 39 = .ok (.bipush 16, 2) := by decide +kernel
theorem dX2_init_41 : decode cX2_init 41 = .ok (.if_icmp .ge 39, 3) := by decide +kernel
theorem dX2_init_44 : decode cX2_init 44 = .ok (.ldc 24, 2) := by decide +kernel
theorem dX2_init_46 : decode cX2_init 46 = .ok (.ldc 24, 2) := by decide +kernel
theorem dX2_init_48 : decode cX2_init 48 = .ok (.iload_n 1, 1) := by decide +kernel
theorem dX2_init_49 : decode cX2_init 49 = .ok (.idiv, 1) := by decide +kernel
theorem dX2_init_50 : decode cX2_init 50 = .ok (.isub, 1) := by decide +kernel
theorem dX2_init_51 : decode cX2_init 51 = .ok (.istore_n 2, 1) := by decide +kernel
theorem dX2_init_52 : decode cX2_init 52 = .ok (.aload_n 0, 1) := by decide +kernel
theorem dX2_init_53 : decode cX2_init 53 = .ok (.getfield 19, 3) := by decide +kernel
theorem dX2_init_56 : decode cX2_init 56 = .ok (.iload_n 1, 1) := by decide +kernel
theorem dX2_init_57 : decode cX2_init 57 = .ok (.iload_n 2, 1) := by decide +kernel
theorem dX2_init_58 : decode cX2_init 58 = .ok (.i2l, 1) := by decide +kernel
theorem dX2_init_59 : decode cX2_init 59 = .ok (.aload_n 0, 1) := by decide +kernel
theorem dX2_init_60 : decode cX2_init 60 = .ok (.getfield 19, 3) := by decide +kernel
theorem dX2_init_63 : decode cX2_init 63 = .ok (.ldc 24, 2) := by decide +kernel
theorem dX2_init_65 : decode cX2_init 65 = .ok (.iload_n 1, 1) := by decide +kernel
theorem dX2_init_66 : decode cX2_init 66 = .ok (.irem, 1) := by decide +kernel
theorem dX2_init_67 : decode cX2_init 67 = .ok (.iaload, 1) := by decide +kernel
theorem dX2_init_68 : decode cX2_init 68 = .ok (.i2l, 1) := by decide +kernel
theorem dX2_init_69 : decode cX2_init 69 = .ok (.lmul, 1) := by decide +kernel
theorem dX2_init_70 : decode cX2_init 70 = .ok (.invokestatic 25, 3) := by decide +kernel
theorem dX2_init_73 : decode cX2_init 73 = .ok (.iastore, 1) := by decide +kernel
theorem dX2_init_74 : decode cX2_init 74 = .ok (.iinc 1 1, 3) := by decide +kernel
theorem dX2_init_77 : decode cX2_init 77 = .ok (.goto (-39), 3) := by decide +kernel
theorem dX2_init_80 : decode cX2_init 80 = .ok (.return_, 1) := by decide +kernel
theorem dX2_forget_0 : decode cX2_forget 0 = .ok (.aload_n 0, 1) := by decide +kernel
theorem dX2_forget_1 : decode cX2_forget 1 = .ok (.iconst 0, 1) := by decide +kernel
theorem dX2_forget_2 : decode cX2_forget 2 = .ok (.putfield 29, 3) := by decide +kernel
theorem dX2_forget_5 : decode cX2_forget 5 = .ok (.aload_n 0, 1) := by decide +kernel
theorem dX2_forget_6 : decode cX2_forget 6 = .ok (.iconst 0, 1) := by decide +kernel
theorem dX2_forget_7 : decode cX2_forget 7 = .ok (.putfield 33, 3) := by decide +kernel
theorem dX2_forget_10 : decode cX2_forget 10 = .ok (.return_, 1) := by decide +kernel
theorem dX2_startFrom_0 : decode cX2_startFrom 0 = .ok (.aload_n 0, 1) := by decide +kernel
theorem dX2_startFrom_1 : decode cX2_startFrom 1 = .ok (.getfield 9, 3) := by decide +kernel
theorem dX2_startFrom_4 : decode cX2_startFrom 4 = .ok (.iconst 0, 1) := by decide +kernel
theorem dX2_startFrom_5 : decode cX2_startFrom 5 = .ok (.lload_n 1, 1) := by decide +kernel
theorem dX2_startFrom_6 : decode cX2_startFrom 6 = .ok (.lastore, 1) := by decide +kernel
theorem dX2_startFrom_7 : decode cX2_startFrom 7 = .ok (.aload_n 0, 1) := by decide +kernel
theorem dX2_startFrom_8 : decode cX2_startFrom 8 = .ok (.iconst 0, 1) := by decide +kernel
theorem dX2_startFrom_9 : decode cX2_startFrom 9 = .ok (.putfield 29, 3) := by decide +kernel
theorem dX2_startFrom_12 : decode cX2_startFrom 12 = .ok (.aload_n 0, 1) := by decide +kernel
theorem dX2_startFrom_13 : decode cX2_startFrom 13 = .ok (.invokevirtual 36, 3) := by decide +kernel
theorem dX2_startFrom_16 : decode cX2_startFrom 16 = .ok (.return_, 1) := by decide +kernel
theorem dX2_endWith_0 : decode cX2_endWith 0 = .ok (.aload_n 0, 1) := by decide +kernel
theorem dX2_endWith_1 : decode cX2_endWith 1 = .ok (.dup, 1) := by decide +kernel
theorem dX2_endWith_2 : decode cX2_endWith 2 = .ok (.getfield 29, 3) := by decide +kernel
theorem dX2_endWith_5 : decode cX2_endWith 5 = .ok (.iconst 1, 1) := by decide +kernel
theorem dX2_endWith_6 : decode cX2_endWith 6 = .ok (.iadd, 1) := by decide +kernel
theorem dX2_endWith_7 : decode cX2_endWith 7 = .ok (.putfield 29, 3) := by decide +kernel
theorem dX2_endWith_10 : decode cX2_endWith 10 = .ok (.aload_n 0, 1) := by decide +kernel
theorem dX2_endWith_11 : decode cX2_endWith 11 = .ok (.getfield 9, 3) := by decide +kernel
theorem dX2_endWith_14 : decode cX2_endWith 14 = .ok (.aload_n 0, 1) := by decide +kernel
theorem dX2_endWith_15 : decode cX2_endWith 15 = .ok (.getfield 29, 3) := by decide +kernel
theorem dX2_endWith_18 : decode cX2_endWith 18 = .ok (.iload_n 1, 1) := by decide +kernel
theorem dX2_endWith_19 : decode cX2_endWith 19 = .ok (.i2l, 1) := by decide +kernel
theorem dX2_endWith_20 : decode cX2_endWith 20 = .ok (.lastore, 1) := by decide +kernel
theorem dX2_endWith_21 : decode cX2_endWith 21 = .ok (.aload_n 0, 1) := by decide +kernel
theorem dX2_endWith_22 : decode cX2_endWith 22 = .ok (.invokevirtual 36, 3) := by decide +kernel
theorem dX2_endWith_25 : decode cX2_endWith 25 = .ok (.return_, 1) := by decide +kernel
theorem dX2_startNext_0 : decode cX2_startNext 0 = .ok (.aload_n 0, 1) := by decide +kernel
theorem dX2_startNext_1 : decode cX2_startNext 1 = .ok (.iconst 0, 1) := by decide +kernel
theorem dX2_startNext_2 : decode cX2_startNext 2 = .ok (.putfield 33, 3) := by decide +kernel
theorem dX2_startNext_5 : decode cX2_startNext 5 = .ok (.aload_n 0, 1) := by decide +kernel
theorem dX2_startNext_6 : decode cX2_startNext 6 = .ok (.aload_n 0, 1) := by decide +kernel
theorem dX2_startNext_7 : decode cX2_startNext 7 = .ok (.getfield 9, 3) := by decide +kernel
theorem dX2_startNext_10 : decode cX2_startNext 10 = .ok (.aload_n 0, 1) := by decide +kernel
theorem dX2_startNext_11 : decode cX2_startNext 11 = .ok (.getfield 29, 3) := by decide +kernel
theorem dX2_startNext_14 : decode cX2_startNext 14 = .ok (.laload, 1) := by decide +kernel
theorem dX2_startNext_15 : decode cX2_startNext 15 = .ok (.aload_n 0, 1) := by decide +kernel
theorem dX2_startNext_16 : decode cX2_startNext 16 = .ok (.getfield 29, 3) := by decide +kernel
theorem dX2_startNext_19 : decode cX2_startNext 19 = .ok (.iconst 1, 1) := by decide +kernel
theorem dX2_startNext_20 : decode cX2_startNext 20 = .ok (.iadd, 1) := by decide +kernel
theorem dX2_startNext_21 : decode cX2_startNext 21 = .ok (.i2l, 1) := by decide +kernel
theorem dX2_startNext_22 : decode cX2_startNext 22 = .ok (.invokestatic 39, 3) := by decide +kernel
theorem dX2_startNext_25 : decode cX2_startNext 25 = .ok (.putfield 43, 3) := by decide +kernel
theorem dX2_startNext_28 : decode cX2_startNext 28 = .ok (.aload_n 0, 1) := by decide +kernel
theorem dX2_startNext_29 : decode cX2_startNext 29 = .ok (.getfield 43, 3) := by decide +kernel
theorem dX2_startNext_32 : decode cX2_startNext 32 = .ok (.ldc2_w 47, 3) := by decide +kernel
theorem dX2_startNext_35 : decode cX2_startNext 35 = .ok (.invokestatic 49, 3) := by decide +kernel
theorem dX2_startNext_38 : decode cX2_startNext 38 = .ok (.l2i, 1) := by decide +kernel
theorem dX2_startNext_39 : decode cX2_startNext 39 = .ok (.iconst 1, 1) := by decide +kernel
theorem dX2_startNext_40 : decode cX2_startNext 40 = .ok (.iadd, 1) := by decide +kernel
theorem dX2_startNext_41 : decode cX2_startNext 41 = .ok (.istore_n 1, 1) := by decide +kernel
theorem dX2_startNext_42 : decode cX2_startNext 42 = .ok (.aload_n 0, 1) := by decide +kernel
theorem dX2_startNext_43 : decode cX2_startNext 43 = .ok (.iload_n 1, 1) := by decide +kernel
theorem dX2_startNext_44 : decode cX2_startNext 44 = .ok (.iload_n 1, 1) := by decide +kernel
theorem dX2_startNext_45 : decode cX2_startNext 45 = .ok (.invokestatic 54, 3) := by decide +kernel
theorem dX2_startNext_48 : decode cX2_startNext 48 = .ok (.putfield 58, 3) := by decide +kernel
theorem dX2_startNext_51 : decode cX2_startNext 51 = .ok (.return_, 1) := by decide +kernel
theorem dX2_keepsPartOf_0 : decode cX2_keepsPartOf 0 = .ok (.aload_n 0, 1) := by decide +kernel
theorem dX2_keepsPartOf_1 : decode cX2_keepsPartOf 1 = .ok (.getfield 33, 3) := by decide +kernel
theorem dX2_keepsPartOf_4 : decode cX2_keepsPartOf 4 = .ok (.iload_n 1, 1) := by decide +kernel
theorem dX2_keepsPartOf_5 : decode cX2_keepsPartOf 5 = .ok (.invokestatic 61, 3) := by decide +kernel
theorem dX2_keepsPartOf_8 : decode cX2_keepsPartOf 8 = .ok (.ireturn, 1) := by decide +kernel
theorem dX2_keep_0 : decode cX2_keep 0 = .ok (.aload_n 0, 1) := by decide +kernel
theorem dX2_keep_1 : decode cX2_keep 1 = .ok (.getfield 15, 3) := by decide +kernel
theorem dX2_keep_4 : decode cX2_keep 4 = .ok (.iload_n 1, 1) := by decide +kernel
theorem dX2_keep_5 : decode cX2_keep 5 = .ok (.iload_n 2, 1) := by decide +kernel
theorem dX2_keep_6 : decode cX2_keep 6 = .ok (.iastore, 1) := by decide +kernel
theorem dX2_keep_7 : decode cX2_keep 7 = .ok (.aload_n 0, 1) := by decide +kernel
theorem dX2_keep_8 : decode cX2_keep 8 = .ok (.dup, 1) := by decide +kernel
theorem dX2_keep_9 : decode cX2_keep 9 = .ok (.getfield 33, 3) := by decide +kernel
theorem dX2_keep_12 : decode cX2_keep 12 = .ok (.iconst 1, 1) := by decide +kernel
theorem dX2_keep_13 : decode cX2_keep 13 = .ok (.iload_n 1, 1) := by decide +kernel
theorem dX2_keep_14 : decode cX2_keep 14 = .ok (.ishl, 1) := by decide +kernel
theorem dX2_keep_15 : decode cX2_keep 15 = .ok (.ior, 1) := by decide +kernel
theorem dX2_keep_16 : decode cX2_keep 16 = .ok (.putfield 33, 3) := by decide +kernel
theorem dX2_keep_19 : decode cX2_keep 19 = .ok (.return_, 1) := by decide +kernel
theorem dX2_leastKept_0 : decode cX2_leastKept 0 = .ok (.iconst 0, 1) := by decide +kernel
theorem dX2_leastKept_1 : decode cX2_leastKept 1 = .ok (.istore_n 2, 1) := by decide +kernel
theorem dX2_leastKept_2 : decode cX2_leastKept 2 = .ok (.iconst 0, 1) := by decide +kernel
theorem dX2_leastKept_3 : decode cX2_leastKept 3 = .ok (.istore_n 3, 1) := by decide +kernel
theorem dX2_leastKept_4 : decode cX2_leastKept 4 = .ok (.iconst 1, 1) := by decide +kernel
theorem dX2_leastKept_5 : decode cX2_leastKept 5 = .ok (.istore 4, 2) := by decide +kernel
theorem dX2_leastKept_7 : decode cX2_leastKept 7 = .ok (.iload 4, 2) := by decide +kernel
theorem dX2_leastKept_9 : decode cX2_leastKept 9 = .ok (.bipush 16, 2) := by decide +kernel
theorem dX2_leastKept_11 : decode cX2_leastKept 11 = .ok (.if_icmp .gt 33, 3) := by decide +kernel
theorem dX2_leastKept_14 : decode cX2_leastKept 14 = .ok (.iload_n 3, 1) := by decide +kernel
theorem dX2_leastKept_15 : decode cX2_leastKept 15 = .ok (.iload_n 1, 1) := by decide +kernel
theorem dX2_leastKept_16 : decode cX2_leastKept 16 = .ok (.if_icmp .ge 28, 3) := by decide +kernel
theorem dX2_leastKept_19 : decode cX2_leastKept 19 = .ok (.aload_n 0, 1) := by decide +kernel
theorem dX2_leastKept_20 : decode cX2_leastKept 20 = .ok (.iload 4, 2) := by decide +kernel
theorem dX2_leastKept_22 : decode cX2_leastKept 22 = .ok (.invokevirtual 65, 3) := by decide +kernel
theorem dX2_leastKept_25 : decode cX2_leastKept 25 = .ok (.ifCond .eq 13, 3) := by decide +kernel
theorem dX2_leastKept_28 : decode cX2_leastKept 28 = .ok (.iload_n 2, 1) := by decide +kernel
theorem dX2_leastKept_29 : decode cX2_leastKept 29 = .ok (.iconst 1, 1) := by decide +kernel
theorem dX2_leastKept_30 : decode cX2_leastKept 30 = .ok (.iload 4, 2) := by decide +kernel
theorem dX2_leastKept_32 : decode cX2_leastKept 32 = .ok (.ishl, 1) := by decide +kernel
theorem dX2_leastKept_33 : decode cX2_leastKept 33 = .ok (.ior, 1) := by decide +kernel
theorem dX2_leastKept_34 : decode cX2_leastKept 34 = .ok (.istore_n 2, 1) := by decide +kernel
theorem dX2_leastKept_35 : decode cX2_leastKept 35 = .ok (.iinc 3 1, 3) := by decide +kernel
theorem dX2_leastKept_38 : decode cX2_leastKept 38 = .ok (.iinc 4 1, 3) := by decide +kernel
theorem dX2_leastKept_41 : decode cX2_leastKept 41 = .ok (.goto (-34), 3) := by decide +kernel
theorem dX2_leastKept_44 : decode cX2_leastKept 44 = .ok (.iload_n 2, 1) := by decide +kernel
theorem dX2_leastKept_45 : decode cX2_leastKept 45 = .ok (.ireturn, 1) := by decide +kernel
theorem dX2_combine_0 : decode cX2_combine 0 = .ok (.iconst 1, 1) := by decide +kernel
theorem dX2_combine_1 : decode cX2_combine 1 = .ok (.istore_n 2, 1) := by decide +kernel
theorem dX2_combine_2 : decode cX2_combine 2 = .ok (.iconst 1, 1) := by decide +kernel
theorem dX2_combine_3 : decode cX2_combine 3 = .ok (.istore_n 3, 1) := by decide +kernel
theorem dX2_combine_4 : decode cX2_combine 4 = .ok (.iload_n 3, 1) := by decide +kernel
theorem dX2_combine_5 : decode cX2_combine 5 = .ok (.bipush 16, 2) := by decide +kernel
theorem dX2_combine_7 : decode cX2_combine 7 = .ok (.if_icmp .gt 37, 3) := by decide +kernel
theorem dX2_combine_10 : decode cX2_combine 10 = .ok (.iload_n 1, 1) := by decide +kernel
theorem dX2_combine_11 : decode cX2_combine 11 = .ok (.iload_n 3, 1) := by decide +kernel
theorem dX2_combine_12 : decode cX2_combine 12 = .ok (.invokestatic 61, 3) := by decide +kernel
theorem dX2_combine_15 : decode cX2_combine 15 = .ok (.ifCond .eq 23, 3) := by decide +kernel
theorem dX2_combine_18 : decode cX2_combine 18 = .ok (.iload_n 2, 1) := by decide +kernel
theorem dX2_combine_19 : decode cX2_combine 19 = .ok (.aload_n 0, 1) := by decide +kernel
theorem dX2_combine_20 : decode cX2_combine 20 = .ok (.getfield 15, 3) := by decide +kernel
theorem dX2_combine_23 : decode cX2_combine 23 = .ok (.iload_n 3, 1) := by decide +kernel
theorem dX2_combine_24 : decode cX2_combine 24 = .ok (.iaload, 1) := by decide +kernel
theorem dX2_combine_25 : decode cX2_combine 25 = .ok (.aload_n 0, 1) := by decide +kernel
theorem dX2_combine_26 : decode cX2_combine 26 = .ok (.iload_n 3, 1) := by decide +kernel
theorem dX2_combine_27 : decode cX2_combine 27 = .ok (.iload_n 1, 1) := by decide +kernel
theorem dX2_combine_28 : decode cX2_combine 28 = .ok (.invokevirtual 69, 3) := by decide +kernel
theorem dX2_combine_31 : decode cX2_combine 31 = .ok (.invokestatic 72, 3) := by decide +kernel
theorem dX2_combine_34 : decode cX2_combine 34 = .ok (.invokestatic 54, 3) := by decide +kernel
theorem dX2_combine_37 : decode cX2_combine 37 = .ok (.istore_n 2, 1) := by decide +kernel
theorem dX2_combine_38 : decode cX2_combine 38 = .ok (.iinc 3 1, 3) := by decide +kernel
theorem dX2_combine_41 : decode cX2_combine 41 = .ok (.goto (-37), 3) := by decide +kernel
theorem dX2_combine_44 : decode cX2_combine 44 = .ok (.iload_n 2, 1) := by decide +kernel
theorem dX2_combine_45 : decode cX2_combine 45 = .ok (.ireturn, 1) := by decide +kernel
theorem dX2_weight_0 : decode cX2_weight 0 = .ok (.iconst 1, 1) := by decide +kernel
theorem dX2_weight_1 : decode cX2_weight 1 = .ok (.istore_n 3, 1) := by decide +kernel
theorem dX2_weight_2 : decode cX2_weight 2 = .ok (.iconst 1, 1) := by decide +kernel
theorem dX2_weight_3 : decode cX2_weight 3 = .ok (.istore 4, 2) := by decide +kernel
theorem dX2_weight_5 : decode cX2_weight 5 = .ok (.iload 4, 2) := by decide +kernel
theorem dX2_weight_7 : decode cX2_weight 7 = .ok (.bipush 16, 2) := by decide +kernel
theorem dX2_weight_9 : decode cX2_weight 9 = .ok (.if_icmp .gt 52, 3) := by decide +kernel
theorem dX2_weight_12 : decode cX2_weight 12 = .ok (.iload 4, 2) := by decide +kernel
theorem dX2_weight_14 : decode cX2_weight 14 = .ok (.iload_n 1, 1) := by decide +kernel
theorem dX2_weight_15 : decode cX2_weight 15 = .ok (.if_icmp .eq 40, 3) := by decide +kernel
theorem dX2_weight_18 : decode cX2_weight 18 = .ok (.iload_n 2, 1) := by decide +kernel
theorem dX2_weight_19 : decode cX2_weight 19 = .ok (.iload 4, 2) := by decide +kernel
theorem dX2_weight_21 : decode cX2_weight 21 = .ok (.invokestatic 61, 3) := by decide +kernel
theorem dX2_weight_24 : decode cX2_weight 24 = .ok (.ifCond .eq 31, 3) := by decide +kernel
theorem dX2_weight_27 : decode cX2_weight 27 = .ok (.iload 4, 2) := by decide +kernel
theorem dX2_weight_29 : decode cX2_weight 29 = .ok (.i2l, 1) := by decide +kernel
theorem dX2_weight_30 : decode cX2_weight 30 = .ok (.aload_n 0, 1) := by decide +kernel
theorem dX2_weight_31 : decode cX2_weight 31 = .ok (.iload 4, 2) := by decide +kernel
theorem dX2_weight_33 : decode cX2_weight 33 = .ok (.iload_n 1, 1) := by decide +kernel
theorem dX2_weight_34 : decode cX2_weight 34 = .ok (.isub, 1) := by decide +kernel
theorem dX2_weight_35 : decode cX2_weight 35 = .ok (.invokevirtual 75, 3) := by decide +kernel
theorem dX2_weight_38 : decode cX2_weight 38 = .ok (.i2l, 1) := by decide +kernel
theorem dX2_weight_39 : decode cX2_weight 39 = .ok (.lmul, 1) := by decide +kernel
theorem dX2_weight_40 : decode cX2_weight 40 = .ok (.invokestatic 25, 3) := by decide +kernel
theorem dX2_weight_43 : decode cX2_weight 43 = .ok (.istore 5, 2) := by decide +kernel
theorem dX2_weight_45 : decode cX2_weight 45 = .ok (.iload_n 3, 1) := by decide +kernel
theorem dX2_weight_46 : decode cX2_weight 46 = .ok (.i2l, 1) := by decide +kernel
theorem dX2_weight_47 : decode cX2_weight 47 = .ok (.iload 5, 2) := by decide +kernel
theorem dX2_weight_49 : decode cX2_weight 49 = .ok (.i2l, 1) := by decide +kernel
theorem dX2_weight_50 : decode cX2_weight 50 = .ok (.lmul, 1) := by decide +kernel
theorem dX2_weight_51 : decode cX2_weight 51 = .ok (.invokestatic 25, 3) := by decide +kernel
theorem dX2_weight_54 : decode cX2_weight 54 = .ok (.istore_n 3, 1) := by decide +kernel
theorem dX2_weight_55 : decode cX2_weight 55 = .ok (.iinc 4 1, 3) := by decide +kernel
theorem dX2_weight_58 : decode cX2_weight 58 = .ok (.goto (-53), 3) := by decide +kernel
theorem dX2_weight_61 : decode cX2_weight 61 = .ok (.iload_n 3, 1) := by decide +kernel
theorem dX2_weight_62 : decode cX2_weight 62 = .ok (.ireturn, 1) := by decide +kernel
theorem dX2_inverse_0 : decode cX2_inverse 0 = .ok (.iload_n 1, 1) := by decide +kernel
theorem dX2_inverse_1 : decode cX2_inverse 1 = .ok (.ifCond .le 12, 3) := by decide +kernel
theorem dX2_inverse_4 : decode cX2_inverse 4 = .ok (.aload_n 0, 1) := by decide +kernel
theorem dX2_inverse_5 : decode cX2_inverse 5 = .ok (.getfield 19, 3) := by decide +kernel
theorem dX2_inverse_8 : decode cX2_inverse 8 = .ok (.iload_n 1, 1) := by decide +kernel
theorem dX2_inverse_9 : decode cX2_inverse 9 = .ok (.iaload, 1) := by decide +kernel
theorem dX2_inverse_10 : decode cX2_inverse 10 = .ok (.goto 13, 3) := by decide +kernel
theorem dX2_inverse_13 : decode cX2_inverse 13 = .ok (.ldc 24, 2) := by decide +kernel
theorem dX2_inverse_15 : decode cX2_inverse 15 = .ok (.aload_n 0, 1) := by decide +kernel
theorem dX2_inverse_16 : decode cX2_inverse 16 = .ok (.getfield 19, 3) := by decide +kernel
theorem dX2_inverse_19 : decode cX2_inverse 19 = .ok (.iload_n 1, 1) := by decide +kernel
theorem dX2_inverse_20 : decode cX2_inverse 20 = .ok (.ineg, 1) := by decide +kernel
theorem dX2_inverse_21 : decode cX2_inverse 21 = .ok (.iaload, 1) := by decide +kernel
theorem dX2_inverse_22 : decode cX2_inverse 22 = .ok (.isub, 1) := by decide +kernel
theorem dX2_inverse_23 : decode cX2_inverse 23 = .ok (.ireturn, 1) := by decide +kernel
