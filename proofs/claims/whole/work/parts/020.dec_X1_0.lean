theorem dX1_hasBit_0 : decode cX1_hasBit 0 = .ok (.iload_n 0, 1) := by decide +kernel
theorem dX1_hasBit_1 : decode cX1_hasBit 1 = .ok (.iload_n 1, 1) := by decide +kernel
theorem dX1_hasBit_2 : decode cX1_hasBit 2 = .ok (.ishr, 1) := by decide +kernel
theorem dX1_hasBit_3 : decode cX1_hasBit 3 = .ok (.iconst 1, 1) := by decide +kernel
theorem dX1_hasBit_4 : decode cX1_hasBit 4 = .ok (.iand, 1) := by decide +kernel
theorem dX1_hasBit_5 : decode cX1_hasBit 5 = .ok (.ifCond .eq 7, 3) := by decide +kernel
theorem dX1_hasBit_8 : decode cX1_hasBit 8 = .ok (.iconst 1, 1) := by decide +kernel
theorem dX1_hasBit_9 : decode cX1_hasBit 9 = .ok (.goto 4, 3) := by decide +kernel
theorem dX1_hasBit_12 : decode cX1_hasBit 12 = .ok (.iconst 0, 1) := by decide +kernel
theorem dX1_hasBit_13 : decode cX1_hasBit 13 = .ok (.ireturn, 1) := by decide +kernel
theorem dX1_times_0 : decode cX1_times 0 = .ok (.iload_n 0, 1) := by decide +kernel
theorem dX1_times_1 : decode cX1_times 1 = .ok (.i2l, 1) := by decide +kernel
theorem dX1_times_2 : decode cX1_times 2 = .ok (.iload_n 1, 1) := by decide +kernel
theorem dX1_times_3 : decode cX1_times 3 = .ok (.i2l, 1) := by decide +kernel
theorem dX1_times_4 : decode cX1_times 4 = .ok (.lmul, 1) := by decide +kernel
theorem dX1_times_5 : decode cX1_times 5 = .ok (.ldc2_w 9, 3) := by decide +kernel
theorem dX1_times_8 : decode cX1_times 8 = .ok (.lrem, 1) := by decide +kernel
theorem dX1_times_9 : decode cX1_times 9 = .ok (.l2i, 1) := by decide +kernel
theorem dX1_times_10 : decode cX1_times 10 = .ok (.ireturn, 1) := by decide +kernel
theorem dX1_power_0 : decode cX1_power 0 = .ok (.iconst 1, 1) := by decide +kernel
theorem dX1_power_1 : decode cX1_power 1 = .ok (.istore_n 2, 1) := by decide +kernel
theorem dX1_power_2 : decode cX1_power 2 = .ok (.bipush 30, 2) := by decide +kernel
theorem dX1_power_4 : decode cX1_power 4 = .ok (.istore_n 3, 1) := by decide +kernel
theorem dX1_power_5 : decode cX1_power 5 = .ok (.iload_n 3, 1) := by decide +kernel
theorem dX1_power_6 : decode cX1_power 6 = .ok (.ifCond .lt 29, 3) := by decide +kernel
theorem dX1_power_9 : decode cX1_power 9 = .ok (.iload_n 2, 1) := by decide +kernel
theorem dX1_power_10 : decode cX1_power 10 = .ok (.iload_n 2, 1) := by decide +kernel
theorem dX1_power_11 : decode cX1_power 11 = .ok (.invokestatic 11, 3) := by decide +kernel
theorem dX1_power_14 : decode cX1_power 14 = .ok (.istore_n 2, 1) := by decide +kernel
theorem dX1_power_15 : decode cX1_power 15 = .ok (.iload_n 1, 1) := by decide +kernel
theorem dX1_power_16 : decode cX1_power 16 = .ok (.iload_n 3, 1) := by decide +kernel
theorem dX1_power_17 : decode cX1_power 17 = .ok (.invokestatic 15, 3) := by decide +kernel
theorem dX1_power_20 : decode cX1_power 20 = .ok (.ifCond .eq 9, 3) := by decide +kernel
theorem dX1_power_23 : decode cX1_power 23 = .ok (.iload_n 2, 1) := by decide +kernel
theorem dX1_power_24 : decode cX1_power 24 = .ok (.iload_n 0, 1) := by decide +kernel
theorem dX1_power_25 : decode cX1_power 25 = .ok (.invokestatic 11, 3) := by decide +kernel
theorem dX1_power_28 : decode cX1_power 28 = .ok (.istore_n 2, 1) := by decide +kernel
theorem dX1_power_29 : decode cX1_power 29 = .ok (.iinc 3 (-1), 3) := by decide +kernel
theorem dX1_power_32 : decode cX1_power 32 = .ok (.goto (-27), 3) := by decide +kernel
theorem dX1_power_35 : decode cX1_power 35 = .ok (.iload_n 2, 1) := by decide +kernel
theorem dX1_power_36 : decode cX1_power 36 = .ok (.ireturn, 1) := by decide +kernel
theorem dX1_powerBelow_0 : decode cX1_powerBelow 0 = .ok (.iload_n 0, 1) := by decide +kernel
theorem dX1_powerBelow_1 : decode cX1_powerBelow 1 = .ok (.ldc 19, 2) := by decide +kernel
theorem dX1_powerBelow_3 : decode cX1_powerBelow 3 = .ok (.iload_n 1, 1) := by decide +kernel
theorem dX1_powerBelow_4 : decode cX1_powerBelow 4 = .ok (.isub, 1) := by decide +kernel
theorem dX1_powerBelow_5 : decode cX1_powerBelow 5 = .ok (.invokestatic 20, 3) := by decide +kernel
theorem dX1_powerBelow_8 : decode cX1_powerBelow 8 = .ok (.ireturn, 1) := by decide +kernel
theorem dX1_isInGroup_0 : decode cX1_isInGroup 0 = .ok (.iload_n 0, 1) := by decide +kernel
theorem dX1_isInGroup_1 : decode cX1_isInGroup 1 = .ok (.iconst 1, 1) := by decide +kernel
theorem dX1_isInGroup_2 : decode cX1_isInGroup 2 = .ok (.if_icmp .lt 23, 3) := by decide +kernel
theorem dX1_isInGroup_5 : decode cX1_isInGroup 5 = .ok (.iload_n 0, 1) := by decide +kernel
theorem dX1_isInGroup_6 : decode cX1_isInGroup 6 = .ok (.ldc 23, 2) := by decide +kernel
theorem dX1_isInGroup_8 : decode cX1_isInGroup 8 = .ok (.if_icmp .ge 17, 3) := by decide +kernel
theorem dX1_isInGroup_11 : decode cX1_isInGroup 11 = .ok (.iload_n 0, 1) := by decide +kernel
theorem dX1_isInGroup_12 : decode cX1_isInGroup 12 = .ok (.ldc 19, 2) := by decide +kernel
theorem dX1_isInGroup_14 : decode cX1_isInGroup 14 = .ok (.invokestatic 20, 3) := by decide +kernel
theorem dX1_isInGroup_17 : decode cX1_isInGroup 17 = .ok (.iconst 1, 1) := by decide +kernel
theorem dX1_isInGroup_18 : decode cX1_isInGroup 18 = .ok (.if_icmp .ne 7, 3) := by decide +kernel
theorem dX1_isInGroup_21 : decode cX1_isInGroup 21 = .ok (.iconst 1, 1) := by decide +kernel
theorem dX1_isInGroup_22 : decode cX1_isInGroup 22 = .ok (.goto 4, 3) := by decide +kernel
theorem dX1_isInGroup_25 : decode cX1_isInGroup 25 = .ok (.iconst 0, 1) := by decide +kernel
theorem dX1_isInGroup_26 : decode cX1_isInGroup 26 = .ok (.ireturn, 1) := by decide +kernel
theorem dX1_isExponent_0 : decode cX1_isExponent 0 = .ok (.iload_n 0, 1) := by decide +kernel
theorem dX1_isExponent_1 : decode cX1_isExponent 1 = .ok (.ifCond .lt 13, 3) := by decide +kernel
theorem dX1_isExponent_4 : decode cX1_isExponent 4 = .ok (.iload_n 0, 1) := by decide +kernel
theorem dX1_isExponent_5 : decode cX1_isExponent 5 = .ok (.ldc 19, 2) := by decide +kernel
theorem dX1_isExponent_7 : decode cX1_isExponent 7 = .ok (.if_icmp .ge 7, 3) := by decide +kernel
theorem dX1_isExponent_10 : decode cX1_isExponent 10 = .ok (.iconst 1, 1) := by decide +kernel
theorem dX1_isExponent_11 : decode cX1_isExponent 11 = .ok (.goto 4, 3) := by decide +kernel
theorem dX1_isExponent_14 : decode cX1_isExponent 14 = .ok (.iconst 0, 1) := by decide +kernel
theorem dX1_isExponent_15 : decode cX1_isExponent 15 = .ok (.ireturn, 1) := by decide +kernel
theorem dX1_toExponent_0 : decode cX1_toExponent 0 = .ok (.lload_n 0, 1) := by decide +kernel
theorem dX1_toExponent_1 : decode cX1_toExponent 1 = .ok (.ldc2_w 24, 3) := by decide +kernel
theorem dX1_toExponent_4 : decode cX1_toExponent 4 = .ok (.invokestatic 26, 3) := by decide +kernel
theorem dX1_toExponent_7 : decode cX1_toExponent 7 = .ok (.l2i, 1) := by decide +kernel
theorem dX1_toExponent_8 : decode cX1_toExponent 8 = .ok (.ireturn, 1) := by decide +kernel
theorem dX1_hash_0 : decode cX1_hash 0 = .ok (.lconst 0, 1) := by decide +kernel
theorem dX1_hash_1 : decode cX1_hash 1 = .ok (.lload_n 0, 1) := by decide +kernel
theorem dX1_hash_2 : decode cX1_hash 2 = .ok (.invokestatic 32, 3) := by decide +kernel
theorem dX1_hash_5 : decode cX1_hash 5 = .ok (.lload_n 2, 1) := by decide +kernel
theorem dX1_hash_6 : decode cX1_hash 6 = .ok (.invokestatic 32, 3) := by decide +kernel
theorem dX1_hash_9 : decode cX1_hash 9 = .ok (.lreturn, 1) := by decide +kernel
theorem dX1_stir_0 : decode cX1_stir 0 = .ok (.lload_n 0, 1) := by decide +kernel
theorem dX1_stir_1 : decode cX1_stir 1 = .ok (.lload_n 2, 1) := by decide +kernel
theorem dX1_stir_2 : decode cX1_stir 2 = .ok (.ladd, 1) := by decide +kernel
theorem dX1_stir_3 : decode cX1_stir 3 = .ok (.ldc2_w 35, 3) := by decide +kernel
theorem dX1_stir_6 : decode cX1_stir 6 = .ok (.lmul, 1) := by decide +kernel
theorem dX1_stir_7 : decode cX1_stir 7 = .ok (.ldc2_w 37, 3) := by decide +kernel
theorem dX1_stir_10 : decode cX1_stir 10 = .ok (.ladd, 1) := by decide +kernel
theorem dX1_stir_11 : decode cX1_stir 11 = .ok (.lstore 4, 2) := by decide +kernel
theorem dX1_stir_13 : decode cX1_stir 13 = .ok (.lload 4, 2) := by decide +kernel
theorem dX1_stir_15 : decode cX1_stir 15 = .ok (.lload 4, 2) := by decide +kernel
theorem dX1_stir_17 : decode cX1_stir 17 = .ok (.bipush 29, 2) := by decide +kernel
theorem dX1_stir_19 : decode cX1_stir 19 = .ok (.lushr, 1) := by decide +kernel
theorem dX1_stir_20 : decode cX1_stir 20 = .ok (.lxor, 1) := by decide +kernel
theorem dX1_stir_21 : decode cX1_stir 21 = .ok (.ldc2_w 39, 3) := by decide +kernel
theorem dX1_stir_24 : decode cX1_stir 24 = .ok (.lmul, 1) := by decide +kernel
theorem dX1_stir_25 : decode cX1_stir 25 = .ok (.lstore 4, 2) := by decide +kernel
theorem dX1_stir_27 : decode cX1_stir 27 = .ok (.lload 4, 2) := by decide +kernel
theorem dX1_stir_29 : decode cX1_stir 29 = .ok (.lload 4, 2) := by decide +kernel
theorem dX1_stir_31 : decode cX1_stir 31 = .ok (.bipush 32, 2) := by decide +kernel
theorem dX1_stir_33 : decode cX1_stir 33 = .ok (.lushr, 1) := by decide +kernel
theorem dX1_stir_34 : decode cX1_stir 34 = .ok (.lxor, 1) := by decide +kernel
theorem dX1_stir_35 : decode cX1_stir 35 = .ok (.lreturn, 1) := by decide +kernel
