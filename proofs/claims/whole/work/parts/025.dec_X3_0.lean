theorem dX3_init_0 : decode cX3_init 0 = .ok (.aload_n 0, 1) := by decide +kernel
theorem dX3_init_1 : decode cX3_init 1 = .ok (.invokespecial 3, 3) := by decide +kernel
theorem dX3_init_4 : decode cX3_init 4 = .ok (.return_, 1) := by decide +kernel
theorem dX3_state_0 : decode cX3_state 0 = .ok (.iload_n 1, 1) := by decide +kernel
theorem dX3_state_1 : decode cX3_state 1 = .ok (.i2l, 1) := by decide +kernel
theorem dX3_state_2 : decode cX3_state 2 = .ok (.lload 4, 2) := by decide +kernel
theorem dX3_state_4 : decode cX3_state 4 = .ok (.invokestatic 9, 3) := by decide +kernel
theorem dX3_state_7 : decode cX3_state 7 = .ok (.invokestatic 15, 3) := by decide +kernel
theorem dX3_state_10 : decode cX3_state 10 = .ok (.istore 6, 2) := by decide +kernel
theorem dX3_state_12 : decode cX3_state 12 = .ok (.aload_n 0, 1) := by decide +kernel
theorem dX3_state_13 : decode cX3_state 13 = .ok (.iload_n 3, 1) := by decide +kernel
theorem dX3_state_14 : decode cX3_state 14 = .ok (.iload_n 1, 1) := by decide +kernel
theorem dX3_state_15 : decode cX3_state 15 = .ok (.invokestatic 19, 3) := by decide +kernel
theorem dX3_state_18 : decode cX3_state 18 = .ok (.putfield 23, 3) := by decide +kernel
theorem dX3_state_21 : decode cX3_state 21 = .ok (.aload_n 0, 1) := by decide +kernel
theorem dX3_state_22 : decode cX3_state 22 = .ok (.aload_n 0, 1) := by decide +kernel
theorem dX3_state_23 : decode cX3_state 23 = .ok (.iload_n 2, 1) := by decide +kernel
theorem dX3_state_24 : decode cX3_state 24 = .ok (.iload_n 3, 1) := by decide +kernel
theorem dX3_state_25 : decode cX3_state 25 = .ok (.iconst 4, 1) := by decide +kernel
theorem dX3_state_26 : decode cX3_state 26 = .ok (.iload 6, 2) := by decide +kernel
theorem dX3_state_28 : decode cX3_state 28 = .ok (.invokestatic 19, 3) := by decide +kernel
theorem dX3_state_31 : decode cX3_state 31 = .ok (.iload_n 3, 1) := by decide +kernel
theorem dX3_state_32 : decode cX3_state 32 = .ok (.iload 6, 2) := by decide +kernel
theorem dX3_state_34 : decode cX3_state 34 = .ok (.invokestatic 19, 3) := by decide +kernel
theorem dX3_state_37 : decode cX3_state 37 = .ok (.invokevirtual 29, 3) := by decide +kernel
theorem dX3_state_40 : decode cX3_state 40 = .ok (.putfield 33, 3) := by decide +kernel
theorem dX3_state_43 : decode cX3_state 43 = .ok (.aload_n 0, 1) := by decide +kernel
theorem dX3_state_44 : decode cX3_state 44 = .ok (.aload_n 0, 1) := by decide +kernel
theorem dX3_state_45 : decode cX3_state 45 = .ok (.getfield 33, 3) := by decide +kernel
theorem dX3_state_48 : decode cX3_state 48 = .ok (.i2l, 1) := by decide +kernel
theorem dX3_state_49 : decode cX3_state 49 = .ok (.iload_n 1, 1) := by decide +kernel
theorem dX3_state_50 : decode cX3_state 50 = .ok (.i2l, 1) := by decide +kernel
theorem dX3_state_51 : decode cX3_state 51 = .ok (.lmul, 1) := by decide +kernel
theorem dX3_state_52 : decode cX3_state 52 = .ok (.iload 6, 2) := by decide +kernel
theorem dX3_state_54 : decode cX3_state 54 = .ok (.i2l, 1) := by decide +kernel
theorem dX3_state_55 : decode cX3_state 55 = .ok (.ladd, 1) := by decide +kernel
theorem dX3_state_56 : decode cX3_state 56 = .ok (.invokestatic 15, 3) := by decide +kernel
theorem dX3_state_59 : decode cX3_state 59 = .ok (.putfield 36, 3) := by decide +kernel
theorem dX3_state_62 : decode cX3_state 62 = .ok (.return_, 1) := by decide +kernel
theorem dX3_add_0 : decode cX3_add 0 = .ok (.aload_n 0, 1) := by decide +kernel
theorem dX3_add_1 : decode cX3_add 1 = .ok (.getfield 23, 3) := by decide +kernel
theorem dX3_add_4 : decode cX3_add 4 = .ok (.iload_n 1, 1) := by decide +kernel
theorem dX3_add_5 : decode cX3_add 5 = .ok (.invokestatic 39, 3) := by decide +kernel
theorem dX3_add_8 : decode cX3_add 8 = .ok (.ifCond .eq 25, 3) := by decide +kernel
theorem dX3_add_11 : decode cX3_add 11 = .ok (.aload_n 0, 1) := by decide +kernel
theorem dX3_add_12 : decode cX3_add 12 = .ok (.getfield 33, 3) := by decide +kernel
theorem dX3_add_15 : decode cX3_add 15 = .ok (.iload_n 2, 1) := by decide +kernel
theorem dX3_add_16 : decode cX3_add 16 = .ok (.invokestatic 39, 3) := by decide +kernel
theorem dX3_add_19 : decode cX3_add 19 = .ok (.ifCond .eq 14, 3) := by decide +kernel
theorem dX3_add_22 : decode cX3_add 22 = .ok (.aload_n 0, 1) := by decide +kernel
theorem dX3_add_23 : decode cX3_add 23 = .ok (.getfield 36, 3) := by decide +kernel
theorem dX3_add_26 : decode cX3_add 26 = .ok (.iload_n 3, 1) := by decide +kernel
theorem dX3_add_27 : decode cX3_add 27 = .ok (.invokestatic 39, 3) := by decide +kernel
theorem dX3_add_30 : decode cX3_add 30 = .ok (.ifCond .ne 5, 3) := by decide +kernel
theorem dX3_add_33 : decode cX3_add 33 = .ok (.iconst 0, 1) := by decide +kernel
theorem dX3_add_34 : decode cX3_add 34 = .ok (.ireturn, 1) := by decide +kernel
theorem dX3_add_35 : decode cX3_add 35 = .ok (.aload_n 0, 1) := by decide +kernel
theorem dX3_add_36 : decode cX3_add 36 = .ok (.dup, 1) := by decide +kernel
theorem dX3_add_37 : decode cX3_add 37 = .ok (.getfield 23, 3) := by decide +kernel
theorem dX3_add_40 : decode cX3_add 40 = .ok (.iload_n 1, 1) := by decide +kernel
theorem dX3_add_41 : decode cX3_add 41 = .ok (.iadd, 1) := by decide +kernel
theorem dX3_add_42 : decode cX3_add 42 = .ok (.putfield 23, 3) := by decide +kernel
theorem dX3_add_45 : decode cX3_add 45 = .ok (.aload_n 0, 1) := by decide +kernel
theorem dX3_add_46 : decode cX3_add 46 = .ok (.dup, 1) := by decide +kernel
theorem dX3_add_47 : decode cX3_add 47 = .ok (.getfield 33, 3) := by decide +kernel
theorem dX3_add_50 : decode cX3_add 50 = .ok (.iload_n 2, 1) := by decide +kernel
theorem dX3_add_51 : decode cX3_add 51 = .ok (.iadd, 1) := by decide +kernel
theorem dX3_add_52 : decode cX3_add 52 = .ok (.putfield 33, 3) := by decide +kernel
theorem dX3_add_55 : decode cX3_add 55 = .ok (.aload_n 0, 1) := by decide +kernel
theorem dX3_add_56 : decode cX3_add 56 = .ok (.dup, 1) := by decide +kernel
theorem dX3_add_57 : decode cX3_add 57 = .ok (.getfield 36, 3) := by decide +kernel
theorem dX3_add_60 : decode cX3_add 60 = .ok (.iload_n 3, 1) := by decide +kernel
theorem dX3_add_61 : decode cX3_add 61 = .ok (.iadd, 1) := by decide +kernel
theorem dX3_add_62 : decode cX3_add 62 = .ok (.putfield 36, 3) := by decide +kernel
theorem dX3_add_65 : decode cX3_add 65 = .ok (.iconst 1, 1) := by decide +kernel
theorem dX3_add_66 : decode cX3_add 66 = .ok (.ireturn, 1) := by decide +kernel
theorem dX3_holds_0 : decode cX3_holds 0 = .ok (.aload_n 0, 1) := by decide +kernel
theorem dX3_holds_1 : decode cX3_holds 1 = .ok (.getfield 23, 3) := by decide +kernel
theorem dX3_holds_4 : decode cX3_holds 4 = .ok (.invokestatic 43, 3) := by decide +kernel
theorem dX3_holds_7 : decode cX3_holds 7 = .ok (.ifCond .eq 23, 3) := by decide +kernel
theorem dX3_holds_10 : decode cX3_holds 10 = .ok (.aload_n 0, 1) := by decide +kernel
theorem dX3_holds_11 : decode cX3_holds 11 = .ok (.getfield 33, 3) := by decide +kernel
theorem dX3_holds_14 : decode cX3_holds 14 = .ok (.invokestatic 47, 3) := by decide +kernel
theorem dX3_holds_17 : decode cX3_holds 17 = .ok (.ifCond .eq 13, 3) := by decide +kernel
theorem dX3_holds_20 : decode cX3_holds 20 = .ok (.aload_n 0, 1) := by decide +kernel
theorem dX3_holds_21 : decode cX3_holds 21 = .ok (.getfield 36, 3) := by decide +kernel
theorem dX3_holds_24 : decode cX3_holds 24 = .ok (.invokestatic 47, 3) := by decide +kernel
theorem dX3_holds_27 : decode cX3_holds 27 = .ok (.ifCond .ne 5, 3) := by decide +kernel
theorem dX3_holds_30 : decode cX3_holds 30 = .ok (.iconst 0, 1) := by decide +kernel
theorem dX3_holds_31 : decode cX3_holds 31 = .ok (.ireturn, 1) := by decide +kernel
theorem dX3_holds_32 : decode cX3_holds 32 = .ok (.iconst 4, 1) := by decide +kernel
theorem dX3_holds_33 : decode cX3_holds 33 = .ok (.aload_n 0, 1) := by decide +kernel
theorem dX3_holds_34 : decode cX3_holds 34 = .ok (.getfield 36, 3) := by decide +kernel
theorem dX3_holds_37 : decode cX3_holds 37 = .ok (.invokestatic 19, 3) := by decide +kernel
theorem dX3_holds_40 : decode cX3_holds 40 = .ok (.iload_n 1, 1) := by decide +kernel
theorem dX3_holds_41 : decode cX3_holds 41 = .ok (.aload_n 0, 1) := by decide +kernel
theorem dX3_holds_42 : decode cX3_holds 42 = .ok (.getfield 33, 3) := by decide +kernel
theorem dX3_holds_45 : decode cX3_holds 45 = .ok (.invokestatic 50, 3) := by decide +kernel
theorem dX3_holds_48 : decode cX3_holds 48 = .ok (.invokestatic 53, 3) := by decide +kernel
theorem dX3_holds_51 : decode cX3_holds 51 = .ok (.istore_n 3, 1) := by decide +kernel
theorem dX3_holds_52 : decode cX3_holds 52 = .ok (.iload_n 2, 1) := by decide +kernel
theorem dX3_holds_53 : decode cX3_holds 53 = .ok (.aload_n 0, 1) := by decide +kernel
theorem dX3_holds_54 : decode cX3_holds 54 = .ok (.getfield 36, 3) := by decide +kernel
theorem dX3_holds_57 : decode cX3_holds 57 = .ok (.invokestatic 19, 3) := by decide +kernel
theorem dX3_holds_60 : decode cX3_holds 60 = .ok (.aload_n 0, 1) := by decide +kernel
theorem dX3_holds_61 : decode cX3_holds 61 = .ok (.getfield 23, 3) := by decide +kernel
theorem dX3_holds_64 : decode cX3_holds 64 = .ok (.aload_n 0, 1) := by decide +kernel
theorem dX3_holds_65 : decode cX3_holds 65 = .ok (.getfield 33, 3) := by decide +kernel
theorem dX3_holds_68 : decode cX3_holds 68 = .ok (.invokestatic 50, 3) := by decide +kernel
theorem dX3_holds_71 : decode cX3_holds 71 = .ok (.invokestatic 53, 3) := by decide +kernel
theorem dX3_holds_74 : decode cX3_holds 74 = .ok (.istore 4, 2) := by decide +kernel
theorem dX3_holds_76 : decode cX3_holds 76 = .ok (.aload_n 0, 1) := by decide +kernel
theorem dX3_holds_77 : decode cX3_holds 77 = .ok (.getfield 33, 3) := by decide +kernel
theorem dX3_holds_80 : decode cX3_holds 80 = .ok (.aload_n 0, 1) := by decide +kernel
theorem dX3_holds_81 : decode cX3_holds 81 = .ok (.iload_n 1, 1) := by decide +kernel
theorem dX3_holds_82 : decode cX3_holds 82 = .ok (.iload_n 2, 1) := by decide +kernel
theorem dX3_holds_83 : decode cX3_holds 83 = .ok (.iload_n 3, 1) := by decide +kernel
theorem dX3_holds_84 : decode cX3_holds 84 = .ok (.iload 4, 2) := by decide +kernel
theorem dX3_holds_86 : decode cX3_holds 86 = .ok (.invokevirtual 29, 3) := by decide +kernel
theorem dX3_holds_89 : decode cX3_holds 89 = .ok (.if_icmp .ne 7, 3) := by decide +kernel
theorem dX3_holds_92 : decode cX3_holds 92 = .ok (.iconst 1, 1) := by decide +kernel
theorem dX3_holds_93 : decode cX3_holds 93 = .ok (.goto 4, 3) := by decide +kernel
theorem dX3_holds_96 : decode cX3_holds 96 = .ok (.iconst 0, 1) := by decide +kernel
theorem dX3_holds_97 : decode cX3_holds 97 = .ok (.ireturn, 1) := by decide +kernel
theorem dX3_challenge_0 : decode cX3_challenge 0 = .ok (.iload_n 2, 1) := by decide +kernel
theorem dX3_challenge_1 : decode cX3_challenge 1 = .ok (.i2l, 1) := by decide +kernel
theorem dX3_challenge_2 : decode cX3_challenge 2 = .ok (.iload_n 1, 1) := by decide +kernel
theorem dX3_challenge_3 : decode cX3_challenge 3 = .ok (.i2l, 1) := by decide +kernel
theorem dX3_challenge_4 : decode cX3_challenge 4 = .ok (.invokestatic 9, 3) := by decide +kernel
theorem dX3_challenge_7 : decode cX3_challenge 7 = .ok (.aload_n 0, 1) := by decide +kernel
theorem dX3_challenge_8 : decode cX3_challenge 8 = .ok (.getfield 23, 3) := by decide +kernel
theorem dX3_challenge_11 : decode cX3_challenge 11 = .ok (.i2l, 1) := by decide +kernel
theorem dX3_challenge_12 : decode cX3_challenge 12 = .ok (.invokestatic 56, 3) := by decide +kernel
theorem dX3_challenge_15 : decode cX3_challenge 15 = .ok (.lstore 5, 2) := by decide +kernel
theorem dX3_challenge_17 : decode cX3_challenge 17 = .ok (.lload 5, 2) := by decide +kernel
theorem dX3_challenge_19 : decode cX3_challenge 19 = .ok (.iload_n 3, 1) := by decide +kernel
theorem dX3_challenge_20 : decode cX3_challenge 20 = .ok (.i2l, 1) := by decide +kernel
theorem dX3_challenge_21 : decode cX3_challenge 21 = .ok (.invokestatic 56, 3) := by decide +kernel
theorem dX3_challenge_24 : decode cX3_challenge 24 = .ok (.iload 4, 2) := by decide +kernel
theorem dX3_challenge_26 : decode cX3_challenge 26 = .ok (.i2l, 1) := by decide +kernel
theorem dX3_challenge_27 : decode cX3_challenge 27 = .ok (.invokestatic 56, 3) := by decide +kernel
theorem dX3_challenge_30 : decode cX3_challenge 30 = .ok (.invokestatic 15, 3) := by decide +kernel
theorem dX3_challenge_33 : decode cX3_challenge 33 = .ok (.ireturn, 1) := by decide +kernel
theorem dX3_canAdd_0 : decode cX3_canAdd 0 = .ok (.iload_n 0, 1) := by decide +kernel
theorem dX3_canAdd_1 : decode cX3_canAdd 1 = .ok (.i2l, 1) := by decide +kernel
theorem dX3_canAdd_2 : decode cX3_canAdd 2 = .ok (.iload_n 1, 1) := by decide +kernel
theorem dX3_canAdd_3 : decode cX3_canAdd 3 = .ok (.i2l, 1) := by decide +kernel
theorem dX3_canAdd_4 : decode cX3_canAdd 4 = .ok (.ladd, 1) := by decide +kernel
theorem dX3_canAdd_5 : decode cX3_canAdd 5 = .ok (.lstore_n 2, 1) := by decide +kernel
theorem dX3_canAdd_6 : decode cX3_canAdd 6 = .ok (.lload_n 2, 1) := by decide +kernel
theorem dX3_canAdd_7 : decode cX3_canAdd 7 = .ok (.lconst 0, 1) := by decide +kernel
theorem dX3_canAdd_8 : decode cX3_canAdd 8 = .ok (.lcmp, 1) := by decide +kernel
theorem dX3_canAdd_9 : decode cX3_canAdd 9 = .ok (.ifCond .lt 15, 3) := by decide +kernel
theorem dX3_canAdd_12 : decode cX3_canAdd 12 = .ok (.lload_n 2, 1) := by decide +kernel
theorem dX3_canAdd_13 : decode cX3_canAdd 13 = .ok (.ldc2_w 59, 3) := by decide +kernel
theorem dX3_canAdd_16 : decode cX3_canAdd 16 = .ok (.lcmp, 1) := by decide +kernel
theorem dX3_canAdd_17 : decode cX3_canAdd 17 = .ok (.ifCond .gt 7, 3) := by decide +kernel
theorem dX3_canAdd_20 : decode cX3_canAdd 20 = .ok (.iconst 1, 1) := by decide +kernel
theorem dX3_canAdd_21 : decode cX3_canAdd 21 = .ok (.goto 4, 3) := by decide +kernel
theorem dX3_canAdd_24 : decode cX3_canAdd 24 = .ok (.iconst 0, 1) := by decide +kernel
theorem dX3_canAdd_25 : decode cX3_canAdd 25 = .ok (.ireturn, 1) := by decide +kernel
