theorem dX4_init_0 : decode cX4_init 0 = .ok (.aload_n 0, 1) := by decide +kernel
theorem dX4_init_1 : decode cX4_init 1 = .ok (.invokespecial 1, 3) := by decide +kernel
theorem dX4_init_4 : decode cX4_init 4 = .ok (.aload_n 0, 1) := by decide +kernel
theorem dX4_init_5 : decode cX4_init 5 = .ok (.bipush 17, 2) := by decide +kernel
theorem dX4_init_7 : decode cX4_init 7 = .ok (.anewarray 9, 3) := by decide +kernel
theorem dX4_init_10 : decode cX4_init 10 = .ok (.putfield 11, 3) := by decide +kernel
theorem dX4_init_13 : decode cX4_init 13 = .ok (.iconst 0, 1) := by decide +kernel
theorem dX4_init_14 : decode cX4_init 14 = .ok (.istore_n 1, 1) := by decide +kernel
theorem dX4_init_15 : decode cX4_init 15 = .ok (.iload_n 1, 1) := by decide +kernel
theorem dX4_init_16 : decode cX4_init 16 = .ok (.bipush 16, 2) := by decide +kernel
theorem dX4_init_18 : decode cX4_init 18 = .ok (.if_icmp .gt 22, 3) := by decide +kernel
theorem dX4_init_21 : decode cX4_init 21 = .ok (.aload_n 0, 1) := by decide +kernel
theorem dX4_init_22 : decode cX4_init 22 = .ok (.getfield 11, 3) := by decide +kernel
theorem dX4_init_25 : decode cX4_init 25 = .ok (.iload_n 1, 1) := by decide +kernel
theorem dX4_init_26 : decode cX4_init 26 = .ok (.new 9, 3) := by decide +kernel
theorem dX4_init_29 : decode cX4_init 29 = .ok (.dup, 1) := by decide +kernel
theorem dX4_init_30 : decode cX4_init 30 = .ok (.invokespecial 15, 3) := by decide +kernel
theorem dX4_init_33 : decode cX4_init 33 = .ok (.aastore, 1) := by decide +kernel
theorem dX4_init_34 : decode cX4_init 34 = .ok (.iinc 1 1, 3) := by decide +kernel
theorem dX4_init_37 : decode cX4_init 37 = .ok (.goto (-22), 3) := by decide +kernel
theorem dX4_init_40 : decode cX4_init 40 = .ok (.aload_n 0, 1) := by decide +kernel
theorem dX4_init_41 : decode cX4_init 41 = .ok (.bipush 17, 2) := by decide +kernel
theorem dX4_init_43 : decode cX4_init 43 = .ok (.newarray .int, 2) := by decide +kernel
theorem dX4_init_45 : decode cX4_init 45 = .ok (.putfield 16, 3) := by decide +kernel
theorem dX4_init_48 : decode cX4_init 48 = .ok (.aload_n 0, 1) := by decide +kernel
theorem dX4_init_49 : decode cX4_init 49 = .ok (.bipush 17, 2) := by decide +kernel
theorem dX4_init_51 : decode cX4_init 51 = .ok (.newarray .int, 2) := by decide +kernel
theorem dX4_init_53 : decode cX4_init 53 = .ok (.putfield 20, 3) := by decide +kernel
theorem dX4_init_56 : decode cX4_init 56 = .ok (.aload_n 0, 1) := by decide +kernel
theorem dX4_init_57 : decode cX4_init 57 = .ok (.new 23, 3) := by decide +kernel
theorem dX4_init_60 : decode cX4_init 60 = .ok (.dup, 1) := by decide +kernel
theorem dX4_init_61 : decode cX4_init 61 = .ok (.invokespecial 25, 3) := by decide +kernel
theorem dX4_init_64 : decode cX4_init 64 = .ok (.putfield 26, 3) := by decide +kernel
theorem dX4_init_67 : decode cX4_init 67 = .ok (.aload_n 0, 1) := by decide +kernel
theorem dX4_init_68 : decode cX4_init 68 = .ok (.new 30, 3) := by decide +kernel
theorem dX4_init_71 : decode cX4_init 71 = .ok (.dup, 1) := by decide +kernel
theorem dX4_init_72 : decode cX4_init 72 = .ok (.invokespecial 32, 3) := by decide +kernel
theorem dX4_init_75 : decode cX4_init 75 = .ok (.putfield 33, 3) := by decide +kernel
theorem dX4_init_78 : decode cX4_init 78 = .ok (.return_, 1) := by decide +kernel
theorem dX4_begin_0 : decode cX4_begin 0 = .ok (.iload_n 1, 1) := by decide +kernel
theorem dX4_begin_1 : decode cX4_begin 1 = .ok (.iconst 1, 1) := by decide +kernel
theorem dX4_begin_2 : decode cX4_begin 2 = .ok (.if_icmp .lt 19, 3) := by decide +kernel
theorem dX4_begin_5 : decode cX4_begin 5 = .ok (.iload_n 1, 1) := by decide +kernel
theorem dX4_begin_6 : decode cX4_begin 6 = .ok (.bipush 16, 2) := by decide +kernel
theorem dX4_begin_8 : decode cX4_begin 8 = .ok (.if_icmp .gt 13, 3) := by decide +kernel
theorem dX4_begin_11 : decode cX4_begin 11 = .ok (.iload_n 2, 1) := by decide +kernel
theorem dX4_begin_12 : decode cX4_begin 12 = .ok (.iconst 1, 1) := by decide +kernel
theorem dX4_begin_13 : decode cX4_begin 13 = .ok (.if_icmp .lt 8, 3) := by decide +kernel
theorem dX4_begin_16 : decode cX4_begin 16 = .ok (.iload_n 2, 1) := by decide +kernel
theorem dX4_begin_17 : decode cX4_begin 17 = .ok (.iload_n 1, 1) := by decide +kernel
theorem dX4_begin_18 : decode cX4_begin 18 = .ok (.if_icmp .le 13, 3) := by decide +kernel
theorem dX4_begin_21 : decode cX4_begin 21 = .ok (.new 37, 3) := by decide +kernel
theorem dX4_begin_24 : decode cX4_begin 24 = .ok (.dup, 1) := by decide +kernel
theorem dX4_begin_25 : decode cX4_begin 25 = .ok (.ldc 39, 2) := by decide +kernel
theorem dX4_begin_27 : decode cX4_begin 27 = .ok (.invokespecial 41, 3) := by decide +kernel
theorem dX4_begin_30 : decode cX4_begin 30 = .ok (.athrow, 1) := by decide +kernel
theorem dX4_begin_31 : decode cX4_begin 31 = .ok (.aload_n 0, 1) := by decide +kernel
theorem dX4_begin_32 : decode cX4_begin 32 = .ok (.iload_n 1, 1) := by decide +kernel
theorem dX4_begin_33 : decode cX4_begin 33 = .ok (.putfield 44, 3) := by decide +kernel
theorem dX4_begin_36 : decode cX4_begin 36 = .ok (.aload_n 0, 1) := by decide +kernel
theorem dX4_begin_37 : decode cX4_begin 37 = .ok (.iload_n 2, 1) := by decide +kernel
theorem dX4_begin_38 : decode cX4_begin 38 = .ok (.putfield 48, 3) := by decide +kernel
theorem dX4_begin_41 : decode cX4_begin 41 = .ok (.aload_n 0, 1) := by decide +kernel
theorem dX4_begin_42 : decode cX4_begin 42 = .ok (.iconst 0, 1) := by decide +kernel
theorem dX4_begin_43 : decode cX4_begin 43 = .ok (.putfield 51, 3) := by decide +kernel
theorem dX4_begin_46 : decode cX4_begin 46 = .ok (.aload_n 0, 1) := by decide +kernel
theorem dX4_begin_47 : decode cX4_begin 47 = .ok (.iconst 0, 1) := by decide +kernel
theorem dX4_begin_48 : decode cX4_begin 48 = .ok (.putfield 55, 3) := by decide +kernel
theorem dX4_begin_51 : decode cX4_begin 51 = .ok (.iconst 1, 1) := by decide +kernel
theorem dX4_begin_52 : decode cX4_begin 52 = .ok (.istore_n 3, 1) := by decide +kernel
theorem dX4_begin_53 : decode cX4_begin 53 = .ok (.iload_n 3, 1) := by decide +kernel
theorem dX4_begin_54 : decode cX4_begin 54 = .ok (.bipush 16, 2) := by decide +kernel
theorem dX4_begin_56 : decode cX4_begin 56 = .ok (.if_icmp .gt 18, 3) := by decide +kernel
theorem dX4_begin_59 : decode cX4_begin 59 = .ok (.aload_n 0, 1) := by decide +kernel
theorem dX4_begin_60 : decode cX4_begin 60 = .ok (.getfield 11, 3) := by decide +kernel
theorem dX4_begin_63 : decode cX4_begin 63 = .ok (.iload_n 3, 1) := by decide +kernel
theorem dX4_begin_64 : decode cX4_begin 64 = .ok (.aaload, 1) := by decide +kernel
theorem dX4_begin_65 : decode cX4_begin 65 = .ok (.invokevirtual 58, 3) := by decide +kernel
theorem dX4_begin_68 : decode cX4_begin 68 = .ok (.iinc 3 1, 3) := by decide +kernel
theorem dX4_begin_71 : decode cX4_begin 71 = .ok (.goto (-18), 3) := by decide +kernel
theorem dX4_begin_74 : decode cX4_begin 74 = .ok (.aload_n 0, 1) := by decide +kernel
theorem dX4_begin_75 : decode cX4_begin 75 = .ok (.getfield 26, 3) := by decide +kernel
theorem dX4_begin_78 : decode cX4_begin 78 = .ok (.invokevirtual 61, 3) := by decide +kernel
theorem dX4_begin_81 : decode cX4_begin 81 = .ok (.return_, 1) := by decide +kernel
theorem dX4_deal_0 : decode cX4_deal 0 = .ok (.aload_n 0, 1) := by decide +kernel
theorem dX4_deal_1 : decode cX4_deal 1 = .ok (.iload_n 1, 1) := by decide +kernel
theorem dX4_deal_2 : decode cX4_deal 2 = .ok (.invokevirtual 62, 3) := by decide +kernel
theorem dX4_deal_5 : decode cX4_deal 5 = .ok (.aload_n 0, 1) := by decide +kernel
theorem dX4_deal_6 : decode cX4_deal 6 = .ok (.invokevirtual 66, 3) := by decide +kernel
theorem dX4_deal_9 : decode cX4_deal 9 = .ok (.aload_n 0, 1) := by decide +kernel
theorem dX4_deal_10 : decode cX4_deal 10 = .ok (.getfield 11, 3) := by decide +kernel
theorem dX4_deal_13 : decode cX4_deal 13 = .ok (.iload_n 1, 1) := by decide +kernel
theorem dX4_deal_14 : decode cX4_deal 14 = .ok (.aaload, 1) := by decide +kernel
theorem dX4_deal_15 : decode cX4_deal 15 = .ok (.getfield 69, 3) := by decide +kernel
theorem dX4_deal_18 : decode cX4_deal 18 = .ok (.ifCond .eq 13, 3) := by decide +kernel
theorem dX4_deal_21 : decode cX4_deal 21 = .ok (.new 72, 3) := by decide +kernel
theorem dX4_deal_24 : decode cX4_deal 24 = .ok (.dup, 1) := by decide +kernel
theorem dX4_deal_25 : decode cX4_deal 25 = .ok (.ldc 74, 2) := by decide +kernel
theorem dX4_deal_27 : decode cX4_deal 27 = .ok (.invokespecial 76, 3) := by decide +kernel
theorem dX4_deal_30 : decode cX4_deal 30 = .ok (.athrow, 1) := by decide +kernel
theorem dX4_deal_31 : decode cX4_deal 31 = .ok (.aload_n 0, 1) := by decide +kernel
theorem dX4_deal_32 : decode cX4_deal 32 = .ok (.getfield 11, 3) := by decide +kernel
theorem dX4_deal_35 : decode cX4_deal 35 = .ok (.iload_n 1, 1) := by decide +kernel
theorem dX4_deal_36 : decode cX4_deal 36 = .ok (.aaload, 1) := by decide +kernel
theorem dX4_deal_37 : decode cX4_deal 37 = .ok (.iload_n 1, 1) := by decide +kernel
theorem dX4_deal_38 : decode cX4_deal 38 = .ok (.lload_n 2, 1) := by decide +kernel
theorem dX4_deal_39 : decode cX4_deal 39 = .ok (.aload_n 0, 1) := by decide +kernel
theorem dX4_deal_40 : decode cX4_deal 40 = .ok (.getfield 44, 3) := by decide +kernel
theorem dX4_deal_43 : decode cX4_deal 43 = .ok (.aload_n 0, 1) := by decide +kernel
theorem dX4_deal_44 : decode cX4_deal 44 = .ok (.getfield 48, 3) := by decide +kernel
theorem dX4_deal_47 : decode cX4_deal 47 = .ok (.invokevirtual 77, 3) := by decide +kernel
theorem dX4_deal_50 : decode cX4_deal 50 = .ok (.return_, 1) := by decide +kernel
theorem dX4_spoil_0 : decode cX4_spoil 0 = .ok (.aload_n 0, 1) := by decide +kernel
theorem dX4_spoil_1 : decode cX4_spoil 1 = .ok (.iload_n 1, 1) := by decide +kernel
theorem dX4_spoil_2 : decode cX4_spoil 2 = .ok (.invokevirtual 62, 3) := by decide +kernel
theorem dX4_spoil_5 : decode cX4_spoil 5 = .ok (.aload_n 0, 1) := by decide +kernel
theorem dX4_spoil_6 : decode cX4_spoil 6 = .ok (.iload_n 2, 1) := by decide +kernel
theorem dX4_spoil_7 : decode cX4_spoil 7 = .ok (.invokevirtual 62, 3) := by decide +kernel
theorem dX4_spoil_10 : decode cX4_spoil 10 = .ok (.aload_n 0, 1) := by decide +kernel
theorem dX4_spoil_11 : decode cX4_spoil 11 = .ok (.iload_n 3, 1) := by decide +kernel
theorem dX4_spoil_12 : decode cX4_spoil 12 = .ok (.invokevirtual 81, 3) := by decide +kernel
theorem dX4_spoil_15 : decode cX4_spoil 15 = .ok (.aload_n 0, 1) := by decide +kernel
theorem dX4_spoil_16 : decode cX4_spoil 16 = .ok (.iload_n 1, 1) := by decide +kernel
theorem dX4_spoil_17 : decode cX4_spoil 17 = .ok (.invokevirtual 84, 3) := by decide +kernel
theorem dX4_spoil_20 : decode cX4_spoil 20 = .ok (.aload_n 0, 1) := by decide +kernel
theorem dX4_spoil_21 : decode cX4_spoil 21 = .ok (.invokevirtual 66, 3) := by decide +kernel
theorem dX4_spoil_24 : decode cX4_spoil 24 = .ok (.aload_n 0, 1) := by decide +kernel
theorem dX4_spoil_25 : decode cX4_spoil 25 = .ok (.getfield 11, 3) := by decide +kernel
theorem dX4_spoil_28 : decode cX4_spoil 28 = .ok (.iload_n 1, 1) := by decide +kernel
theorem dX4_spoil_29 : decode cX4_spoil 29 = .ok (.aaload, 1) := by decide +kernel
theorem dX4_spoil_30 : decode cX4_spoil 30 = .ok (.iload_n 2, 1) := by decide +kernel
theorem dX4_spoil_31 : decode cX4_spoil 31 = .ok (.iload_n 3, 1) := by decide +kernel
theorem dX4_spoil_32 : decode cX4_spoil 32 = .ok (.invokevirtual 87, 3) := by decide +kernel
theorem dX4_spoil_35 : decode cX4_spoil 35 = .ok (.ireturn, 1) := by decide +kernel
theorem dX4_commitment_0 : decode cX4_commitment 0 = .ok (.aload_n 0, 1) := by decide +kernel
theorem dX4_commitment_1 : decode cX4_commitment 1 = .ok (.iload_n 1, 1) := by decide +kernel
theorem dX4_commitment_2 : decode cX4_commitment 2 = .ok (.invokevirtual 62, 3) := by decide +kernel
theorem dX4_commitment_5 : decode cX4_commitment 5 = .ok (.iload_n 2, 1) := by decide +kernel
theorem dX4_commitment_6 : decode cX4_commitment 6 = .ok (.ifCond .lt 11, 3) := by decide +kernel
theorem dX4_commitment_9 : decode cX4_commitment 9 = .ok (.iload_n 2, 1) := by decide +kernel
theorem dX4_commitment_10 : decode cX4_commitment 10 = .ok (.aload_n 0, 1) := by decide +kernel
theorem dX4_commitment_11 : decode cX4_commitment 11 = .ok (.getfield 48, 3) := by decide +kernel
theorem dX4_commitment_14 : decode cX4_commitment 14 = .ok (.if_icmp .lt 13, 3) := by decide +kernel
theorem dX4_commitment_17 : decode cX4_commitment 17 = .ok (.new 37, 3) := by decide +kernel
theorem dX4_commitment_20 : decode cX4_commitment 20 = .ok (.dup, 1) := by decide +kernel
theorem dX4_commitment_21 : decode cX4_commitment 21 = .ok (.ldc 91, 2) := by decide +kernel
theorem dX4_commitment_23 : decode cX4_commitment 23 = .ok (.invokespecial 41, 3) := by decide +kernel
theorem dX4_commitment_26 : decode cX4_commitment 26 = .ok (.athrow, 1) := by decide +kernel
theorem dX4_commitment_27 : decode cX4_commitment 27 = .ok (.aload_n 0, 1) := by decide +kernel
theorem dX4_commitment_28 : decode cX4_commitment 28 = .ok (.iload_n 1, 1) := by decide +kernel
theorem dX4_commitment_29 : decode cX4_commitment 29 = .ok (.invokevirtual 84, 3) := by decide +kernel
theorem dX4_commitment_32 : decode cX4_commitment 32 = .ok (.aload_n 0, 1) := by decide +kernel
theorem dX4_commitment_33 : decode cX4_commitment 33 = .ok (.getfield 11, 3) := by decide +kernel
theorem dX4_commitment_36 : decode cX4_commitment 36 = .ok (.iload_n 1, 1) := by decide +kernel
theorem dX4_commitment_37 : decode cX4_commitment 37 = .ok (.aaload, 1) := by decide +kernel
theorem dX4_commitment_38 : decode cX4_commitment 38 = .ok (.getfield 93, 3) := by decide +kernel
theorem dX4_commitment_41 : decode cX4_commitment 41 = .ok (.iload_n 2, 1) := by decide +kernel
theorem dX4_commitment_42 : decode cX4_commitment 42 = .ok (.iaload, 1) := by decide +kernel
theorem dX4_commitment_43 : decode cX4_commitment 43 = .ok (.ireturn, 1) := by decide +kernel
theorem dX4_share_0 : decode cX4_share 0 = .ok (.aload_n 0, 1) := by decide +kernel
theorem dX4_share_1 : decode cX4_share 1 = .ok (.iload_n 1, 1) := by decide +kernel
theorem dX4_share_2 : decode cX4_share 2 = .ok (.invokevirtual 62, 3) := by decide +kernel
theorem dX4_share_5 : decode cX4_share 5 = .ok (.aload_n 0, 1) := by decide +kernel
theorem dX4_share_6 : decode cX4_share 6 = .ok (.iload_n 2, 1) := by decide +kernel
theorem dX4_share_7 : decode cX4_share 7 = .ok (.invokevirtual 62, 3) := by decide +kernel
theorem dX4_share_10 : decode cX4_share 10 = .ok (.aload_n 0, 1) := by decide +kernel
theorem dX4_share_11 : decode cX4_share 11 = .ok (.iload_n 1, 1) := by decide +kernel
theorem dX4_share_12 : decode cX4_share 12 = .ok (.invokevirtual 84, 3) := by decide +kernel
theorem dX4_share_15 : decode cX4_share 15 = .ok (.aload_n 0, 1) := by decide +kernel
theorem dX4_share_16 : decode cX4_share 16 = .ok (.getfield 11, 3) := by decide +kernel
theorem dX4_share_19 : decode cX4_share 19 = .ok (.iload_n 1, 1) := by decide +kernel
theorem dX4_share_20 : decode cX4_share 20 = .ok (.aaload, 1) := by decide +kernel
theorem dX4_share_21 : decode cX4_share 21 = .ok (.getfield 96, 3) := by decide +kernel
theorem dX4_share_24 : decode cX4_share 24 = .ok (.iload_n 2, 1) := by decide +kernel
theorem dX4_share_25 : decode cX4_share 25 = .ok (.iaload, 1) := by decide +kernel
theorem dX4_share_26 : decode cX4_share 26 = .ok (.ireturn, 1) := by decide +kernel
theorem dX4_isRight_0 : decode cX4_isRight 0 = .ok (.aload_n 0, 1) := by decide +kernel
theorem dX4_isRight_1 : decode cX4_isRight 1 = .ok (.iload_n 1, 1) := by decide +kernel
theorem dX4_isRight_2 : decode cX4_isRight 2 = .ok (.invokevirtual 62, 3) := by decide +kernel
theorem dX4_isRight_5 : decode cX4_isRight 5 = .ok (.aload_n 0, 1) := by decide +kernel
theorem dX4_isRight_6 : decode cX4_isRight 6 = .ok (.iload_n 2, 1) := by decide +kernel
theorem dX4_isRight_7 : decode cX4_isRight 7 = .ok (.invokevirtual 62, 3) := by decide +kernel
theorem dX4_isRight_10 : decode cX4_isRight 10 = .ok (.aload_n 0, 1) := by decide +kernel
theorem dX4_isRight_11 : decode cX4_isRight 11 = .ok (.iload_n 3, 1) := by decide +kernel
theorem dX4_isRight_12 : decode cX4_isRight 12 = .ok (.invokevirtual 81, 3) := by decide +kernel
theorem dX4_isRight_15 : decode cX4_isRight 15 = .ok (.aload_n 0, 1) := by decide +kernel
theorem dX4_isRight_16 : decode cX4_isRight 16 = .ok (.iload_n 1, 1) := by decide +kernel
theorem dX4_isRight_17 : decode cX4_isRight 17 = .ok (.invokevirtual 84, 3) := by decide +kernel
theorem dX4_isRight_20 : decode cX4_isRight 20 = .ok (.aload_n 0, 1) := by decide +kernel
theorem dX4_isRight_21 : decode cX4_isRight 21 = .ok (.getfield 11, 3) := by decide +kernel
theorem dX4_isRight_24 : decode cX4_isRight 24 = .ok (.iload_n 1, 1) := by decide +kernel
theorem dX4_isRight_25 : decode cX4_isRight 25 = .ok (.aaload, 1) := by decide +kernel
theorem dX4_isRight_26 : decode cX4_isRight 26 = .ok (.iload_n 2, 1) := by decide +kernel
theorem dX4_isRight_27 : decode cX4_isRight 27 = .ok (.iload_n 3, 1) := by decide +kernel
theorem dX4_isRight_28 : decode cX4_isRight 28 = .ok (.invokevirtual 99, 3) := by decide +kernel
theorem dX4_isRight_31 : decode cX4_isRight 31 = .ok (.ireturn, 1) := by decide +kernel
theorem dX4_complain_0 : decode cX4_complain 0 = .ok (.aload_n 0, 1) := by decide +kernel
theorem dX4_complain_1 : decode cX4_complain 1 = .ok (.invokevirtual 66, 3) := by decide +kernel
theorem dX4_complain_4 : decode cX4_complain 4 = .ok (.iconst 1, 1) := by decide +kernel
theorem dX4_complain_5 : decode cX4_complain 5 = .ok (.istore_n 1, 1) := by decide +kernel
theorem dX4_complain_6 : decode cX4_complain 6 = .ok (.iload_n 1, 1) := by decide +kernel
theorem dX4_complain_7 : decode cX4_complain 7 = .ok (.aload_n 0, 1) := by decide +kernel
theorem dX4_complain_8 : decode cX4_complain 8 = .ok (.getfield 44, 3) := by decide +kernel
theorem dX4_complain_11 : decode cX4_complain 11 = .ok (.if_icmp .gt 22, 3) := by decide +kernel
theorem dX4_complain_14 : decode cX4_complain 14 = .ok (.aload_n 0, 1) := by decide +kernel
theorem dX4_complain_15 : decode cX4_complain 15 = .ok (.getfield 11, 3) := by decide +kernel
theorem dX4_complain_18 : decode cX4_complain 18 = .ok (.iload_n 1, 1) := by decide +kernel
theorem dX4_complain_19 : decode cX4_complain 19 = .ok (.aaload, 1) := by decide +kernel
theorem dX4_complain_20 : decode cX4_complain 20 = .ok (.aload_n 0, 1) := by decide +kernel
theorem dX4_complain_21 : decode cX4_complain 21 = .ok (.getfield 44, 3) := by decide +kernel
theorem dX4_complain_24 : decode cX4_complain 24 = .ok (.invokevirtual 103, 3) := by decide +kernel
theorem dX4_complain_27 : decode cX4_complain 27 = .ok (.iinc 1 1, 3) := by decide +kernel
theorem dX4_complain_30 : decode cX4_complain 30 = .ok (.goto (-24), 3) := by decide +kernel
theorem dX4_complain_33 : decode cX4_complain 33 = .ok (.aload_n 0, 1) := by decide +kernel
theorem dX4_complain_34 : decode cX4_complain 34 = .ok (.invokevirtual 106, 3) := by decide +kernel
theorem dX4_complain_37 : decode cX4_complain 37 = .ok (.ireturn, 1) := by decide +kernel
theorem dX4_answer_0 : decode cX4_answer 0 = .ok (.aload_n 0, 1) := by decide +kernel
theorem dX4_answer_1 : decode cX4_answer 1 = .ok (.iload_n 1, 1) := by decide +kernel
theorem dX4_answer_2 : decode cX4_answer 2 = .ok (.invokevirtual 62, 3) := by decide +kernel
theorem dX4_answer_5 : decode cX4_answer 5 = .ok (.aload_n 0, 1) := by decide +kernel
theorem dX4_answer_6 : decode cX4_answer 6 = .ok (.iload_n 2, 1) := by decide +kernel
theorem dX4_answer_7 : decode cX4_answer 7 = .ok (.invokevirtual 62, 3) := by decide +kernel
theorem dX4_answer_10 : decode cX4_answer 10 = .ok (.aload_n 0, 1) := by decide +kernel
theorem dX4_answer_11 : decode cX4_answer 11 = .ok (.iload_n 3, 1) := by decide +kernel
theorem dX4_answer_12 : decode cX4_answer 12 = .ok (.invokevirtual 81, 3) := by decide +kernel
theorem dX4_answer_15 : decode cX4_answer 15 = .ok (.aload_n 0, 1) := by decide +kernel
theorem dX4_answer_16 : decode cX4_answer 16 = .ok (.invokevirtual 66, 3) := by decide +kernel
theorem dX4_answer_19 : decode cX4_answer 19 = .ok (.aload_n 0, 1) := by decide +kernel
theorem dX4_answer_20 : decode cX4_answer 20 = .ok (.getfield 11, 3) := by decide +kernel
theorem dX4_answer_23 : decode cX4_answer 23 = .ok (.iload_n 1, 1) := by decide +kernel
theorem dX4_answer_24 : decode cX4_answer 24 = .ok (.aaload, 1) := by decide +kernel
theorem dX4_answer_25 : decode cX4_answer 25 = .ok (.iload_n 2, 1) := by decide +kernel
theorem dX4_answer_26 : decode cX4_answer 26 = .ok (.invokevirtual 110, 3) := by decide +kernel
theorem dX4_answer_29 : decode cX4_answer 29 = .ok (.ifCond .ne 13, 3) := by decide +kernel
theorem dX4_answer_32 : decode cX4_answer 32 = .ok (.new 72, 3) := by decide +kernel
theorem dX4_answer_35 : decode cX4_answer 35 = .ok (.dup, 1) := by decide +kernel
theorem dX4_answer_36 : decode cX4_answer 36 = .ok (.ldc 114, 2) := by decide +kernel
theorem dX4_answer_38 : decode cX4_answer 38 = .ok (.invokespecial 76, 3) := by decide +kernel
theorem dX4_answer_41 : decode cX4_answer 41 = .ok (.athrow, 1) := by decide +kernel
theorem dX4_answer_42 : decode cX4_answer 42 = .ok (.aload_n 0, 1) := by decide +kernel
theorem dX4_answer_43 : decode cX4_answer 43 = .ok (.getfield 11, 3) := by decide +kernel
theorem dX4_answer_46 : decode cX4_answer 46 = .ok (.iload_n 1, 1) := by decide +kernel
theorem dX4_answer_47 : decode cX4_answer 47 = .ok (.aaload, 1) := by decide +kernel
theorem dX4_answer_48 : decode cX4_answer 48 = .ok (.iload_n 2, 1) := by decide +kernel
theorem dX4_answer_49 : decode cX4_answer 49 = .ok (.iload_n 3, 1) := by decide +kernel
theorem dX4_answer_50 : decode cX4_answer 50 = .ok (.invokevirtual 116, 3) := by decide +kernel
theorem dX4_answer_53 : decode cX4_answer 53 = .ok (.ireturn, 1) := by decide +kernel
theorem dX4_close_0 : decode cX4_close 0 = .ok (.aload_n 0, 1) := by decide +kernel
theorem dX4_close_1 : decode cX4_close 1 = .ok (.invokevirtual 66, 3) := by decide +kernel
theorem dX4_close_4 : decode cX4_close 4 = .ok (.aload_n 0, 1) := by decide +kernel
theorem dX4_close_5 : decode cX4_close 5 = .ok (.invokevirtual 119, 3) := by decide +kernel
theorem dX4_close_8 : decode cX4_close 8 = .ok (.istore_n 3, 1) := by decide +kernel
theorem dX4_close_9 : decode cX4_close 9 = .ok (.iload_n 3, 1) := by decide +kernel
theorem dX4_close_10 : decode cX4_close 10 = .ok (.ifCond .ne 13, 3) := by decide +kernel
theorem dX4_close_13 : decode cX4_close 13 = .ok (.new 72, 3) := by decide +kernel
theorem dX4_close_16 : decode cX4_close 16 = .ok (.dup, 1) := by decide +kernel
theorem dX4_close_17 : decode cX4_close 17 = .ok (.ldc 122, 2) := by decide +kernel
theorem dX4_close_19 : decode cX4_close 19 = .ok (.invokespecial 76, 3) := by decide +kernel
theorem dX4_close_22 : decode cX4_close 22 = .ok (.athrow, 1) := by decide +kernel
theorem dX4_close_23 : decode cX4_close 23 = .ok (.aload_n 0, 1) := by decide +kernel
theorem dX4_close_24 : decode cX4_close 24 = .ok (.iload_n 3, 1) := by decide +kernel
theorem dX4_close_25 : decode cX4_close 25 = .ok (.putfield 55, 3) := by decide +kernel
theorem dX4_close_28 : decode cX4_close 28 = .ok (.aload_n 0, 1) := by decide +kernel
theorem dX4_close_29 : decode cX4_close 29 = .ok (.invokevirtual 124, 3) := by decide +kernel
theorem dX4_close_32 : decode cX4_close 32 = .ok (.aload_n 0, 1) := by decide +kernel
theorem dX4_close_33 : decode cX4_close 33 = .ok (.getfield 26, 3) := by decide +kernel
theorem dX4_close_36 : decode cX4_close 36 = .ok (.lload_n 1, 1) := by decide +kernel
theorem dX4_close_37 : decode cX4_close 37 = .ok (.invokevirtual 127, 3) := by decide +kernel
theorem dX4_close_40 : decode cX4_close 40 = .ok (.aload_n 0, 1) := by decide +kernel
theorem dX4_close_41 : decode cX4_close 41 = .ok (.iconst 1, 1) := by decide +kernel
theorem dX4_close_42 : decode cX4_close 42 = .ok (.putfield 51, 3) := by decide +kernel
theorem dX4_close_45 : decode cX4_close 45 = .ok (.aload_n 0, 1) := by decide +kernel
theorem dX4_close_46 : decode cX4_close 46 = .ok (.getfield 55, 3) := by decide +kernel
theorem dX4_close_49 : decode cX4_close 49 = .ok (.invokestatic 131, 3) := by decide +kernel
theorem dX4_close_52 : decode cX4_close 52 = .ok (.ireturn, 1) := by decide +kernel
theorem dX4_key_0 : decode cX4_key 0 = .ok (.iload_n 1, 1) := by decide +kernel
theorem dX4_key_1 : decode cX4_key 1 = .ok (.ifCond .ne 12, 3) := by decide +kernel
theorem dX4_key_4 : decode cX4_key 4 = .ok (.iload_n 2, 1) := by decide +kernel
theorem dX4_key_5 : decode cX4_key 5 = .ok (.iconst 1, 1) := by decide +kernel
theorem dX4_key_6 : decode cX4_key 6 = .ok (.if_icmp .ne 7, 3) := by decide +kernel
theorem dX4_key_9 : decode cX4_key 9 = .ok (.iconst 1, 1) := by decide +kernel
theorem dX4_key_10 : decode cX4_key 10 = .ok (.goto 4, 3) := by decide +kernel
theorem dX4_key_13 : decode cX4_key 13 = .ok (.iconst 0, 1) := by decide +kernel
theorem dX4_key_14 : decode cX4_key 14 = .ok (.istore_n 3, 1) := by decide +kernel
theorem dX4_key_15 : decode cX4_key 15 = .ok (.iload_n 3, 1) := by decide +kernel
theorem dX4_key_16 : decode cX4_key 16 = .ok (.ifCond .ne 14, 3) := by decide +kernel
theorem dX4_key_19 : decode cX4_key 19 = .ok (.aload_n 0, 1) := by decide +kernel
theorem dX4_key_20 : decode cX4_key 20 = .ok (.iload_n 1, 1) := by decide +kernel
theorem dX4_key_21 : decode cX4_key 21 = .ok (.invokevirtual 62, 3) := by decide +kernel
theorem dX4_key_24 : decode cX4_key 24 = .ok (.aload_n 0, 1) := by decide +kernel
theorem dX4_key_25 : decode cX4_key 25 = .ok (.iload_n 2, 1) := by decide +kernel
theorem dX4_key_26 : decode cX4_key 26 = .ok (.iconst 1, 1) := by decide +kernel
theorem dX4_key_27 : decode cX4_key 27 = .ok (.invokevirtual 137, 3) := by decide +kernel
theorem dX4_key_30 : decode cX4_key 30 = .ok (.aload_n 0, 1) := by decide +kernel
theorem dX4_key_31 : decode cX4_key 31 = .ok (.invokevirtual 141, 3) := by decide +kernel
theorem dX4_key_34 : decode cX4_key 34 = .ok (.iload_n 3, 1) := by decide +kernel
theorem dX4_key_35 : decode cX4_key 35 = .ok (.ifCond .eq 8, 3) := by decide +kernel
theorem dX4_key_38 : decode cX4_key 38 = .ok (.aload_n 0, 1) := by decide +kernel
theorem dX4_key_39 : decode cX4_key 39 = .ok (.getfield 144, 3) := by decide +kernel
theorem dX4_key_42 : decode cX4_key 42 = .ok (.ireturn, 1) := by decide +kernel
theorem dX4_key_43 : decode cX4_key 43 = .ok (.iload_n 2, 1) := by decide +kernel
theorem dX4_key_44 : decode cX4_key 44 = .ok (.ifCond .ne 12, 3) := by decide +kernel
theorem dX4_key_47 : decode cX4_key 47 = .ok (.aload_n 0, 1) := by decide +kernel
theorem dX4_key_48 : decode cX4_key 48 = .ok (.getfield 16, 3) := by decide +kernel
theorem dX4_key_51 : decode cX4_key 51 = .ok (.iload_n 1, 1) := by decide +kernel
theorem dX4_key_52 : decode cX4_key 52 = .ok (.iaload, 1) := by decide +kernel
theorem dX4_key_53 : decode cX4_key 53 = .ok (.goto 9, 3) := by decide +kernel
theorem dX4_key_56 : decode cX4_key 56 = .ok (.aload_n 0, 1) := by decide +kernel
theorem dX4_key_57 : decode cX4_key 57 = .ok (.getfield 20, 3) := by decide +kernel
theorem dX4_key_60 : decode cX4_key 60 = .ok (.iload_n 1, 1) := by decide +kernel
theorem dX4_key_61 : decode cX4_key 61 = .ok (.iaload, 1) := by decide +kernel
theorem dX4_key_62 : decode cX4_key 62 = .ok (.ireturn, 1) := by decide +kernel
theorem dX4_round_0 : decode cX4_round 0 = .ok (.aload_n 0, 1) := by decide +kernel
theorem dX4_round_1 : decode cX4_round 1 = .ok (.invokevirtual 141, 3) := by decide +kernel
theorem dX4_round_4 : decode cX4_round 4 = .ok (.iload_n 1, 1) := by decide +kernel
theorem dX4_round_5 : decode cX4_round 5 = .ok (.tableswitch 68 0 3 #[31, 41, 49, 60], 31) := by decide +kernel
theorem dX4_round_36 : decode cX4_round 36 = .ok (.aload_n 0, 1) := by decide +kernel
theorem dX4_round_37 : decode cX4_round 37 = .ok (.getfield 26, 3) := by decide +kernel
theorem dX4_round_40 : decode cX4_round 40 = .ok (.getfield 147, 3) := by decide +kernel
theorem dX4_round_43 : decode cX4_round 43 = .ok (.iconst 1, 1) := by decide +kernel
theorem dX4_round_44 : decode cX4_round 44 = .ok (.iadd, 1) := by decide +kernel
theorem dX4_round_45 : decode cX4_round 45 = .ok (.ireturn, 1) := by decide +kernel
theorem dX4_round_46 : decode cX4_round 46 = .ok (.aload_n 0, 1) := by decide +kernel
theorem dX4_round_47 : decode cX4_round 47 = .ok (.getfield 26, 3) := by decide +kernel
theorem dX4_round_50 : decode cX4_round 50 = .ok (.getfield 150, 3) := by decide +kernel
theorem dX4_round_53 : decode cX4_round 53 = .ok (.ireturn, 1) := by decide +kernel
theorem dX4_round_54 : decode cX4_round 54 = .ok (.aload_n 0, 1) := by decide +kernel
theorem dX4_round_55 : decode cX4_round 55 = .ok (.getfield 26, 3) := by decide +kernel
theorem dX4_round_58 : decode cX4_round 58 = .ok (.getfield 153, 3) := by decide +kernel
theorem dX4_round_61 : decode cX4_round 61 = .ok (.invokestatic 131, 3) := by decide +kernel
theorem dX4_round_64 : decode cX4_round 64 = .ok (.ireturn, 1) := by decide +kernel
theorem dX4_round_65 : decode cX4_round 65 = .ok (.aload_n 0, 1) := by decide +kernel
theorem dX4_round_66 : decode cX4_round 66 = .ok (.getfield 26, 3) := by decide +kernel
theorem dX4_round_69 : decode cX4_round 69 = .ok (.getfield 153, 3) := by decide +kernel
theorem dX4_round_72 : decode cX4_round 72 = .ok (.ireturn, 1) := by decide +kernel
theorem dX4_round_73 : decode cX4_round 73 = .ok (.new 37, 3) := by decide +kernel
theorem dX4_round_76 : decode cX4_round 76 = .ok (.dup, 1) := by decide +kernel
theorem dX4_round_77 : decode cX4_round 77 = .ok (.ldc 156, 2) := by decide +kernel
theorem dX4_round_79 : decode cX4_round 79 = .ok (.invokespecial 41, 3) := by decide +kernel
theorem dX4_round_82 : decode cX4_round 82 = .ok (.athrow, 1) := by decide +kernel
theorem dX4_says_0 : decode cX4_says 0 = .ok (.aload_n 0, 1) := by decide +kernel
theorem dX4_says_1 : decode cX4_says 1 = .ok (.invokevirtual 141, 3) := by decide +kernel
theorem dX4_says_4 : decode cX4_says 4 = .ok (.aload_n 0, 1) := by decide +kernel
theorem dX4_says_5 : decode cX4_says 5 = .ok (.iload_n 1, 1) := by decide +kernel
theorem dX4_says_6 : decode cX4_says 6 = .ok (.invokevirtual 62, 3) := by decide +kernel
theorem dX4_says_9 : decode cX4_says 9 = .ok (.aload_n 0, 1) := by decide +kernel
theorem dX4_says_10 : decode cX4_says 10 = .ok (.iload_n 2, 1) := by decide +kernel
theorem dX4_says_11 : decode cX4_says 11 = .ok (.iconst 2, 1) := by decide +kernel
theorem dX4_says_12 : decode cX4_says 12 = .ok (.invokevirtual 137, 3) := by decide +kernel
theorem dX4_says_15 : decode cX4_says 15 = .ok (.aload_n 0, 1) := by decide +kernel
theorem dX4_says_16 : decode cX4_says 16 = .ok (.iload_n 1, 1) := by decide +kernel
theorem dX4_says_17 : decode cX4_says 17 = .ok (.invokevirtual 158, 3) := by decide +kernel
theorem dX4_says_20 : decode cX4_says 20 = .ok (.iload_n 2, 1) := by decide +kernel
theorem dX4_says_21 : decode cX4_says 21 = .ok (.ifCond .ne 11, 3) := by decide +kernel
theorem dX4_says_24 : decode cX4_says 24 = .ok (.aload_n 0, 1) := by decide +kernel
theorem dX4_says_25 : decode cX4_says 25 = .ok (.getfield 33, 3) := by decide +kernel
theorem dX4_says_28 : decode cX4_says 28 = .ok (.getfield 161, 3) := by decide +kernel
theorem dX4_says_31 : decode cX4_says 31 = .ok (.ireturn, 1) := by decide +kernel
theorem dX4_says_32 : decode cX4_says 32 = .ok (.iload_n 2, 1) := by decide +kernel
theorem dX4_says_33 : decode cX4_says 33 = .ok (.iconst 1, 1) := by decide +kernel
theorem dX4_says_34 : decode cX4_says 34 = .ok (.if_icmp .ne 13, 3) := by decide +kernel
theorem dX4_says_37 : decode cX4_says 37 = .ok (.aload_n 0, 1) := by decide +kernel
theorem dX4_says_38 : decode cX4_says 38 = .ok (.getfield 33, 3) := by decide +kernel
theorem dX4_says_41 : decode cX4_says 41 = .ok (.getfield 164, 3) := by decide +kernel
theorem dX4_says_44 : decode cX4_says 44 = .ok (.goto 10, 3) := by decide +kernel
theorem dX4_says_47 : decode cX4_says 47 = .ok (.aload_n 0, 1) := by decide +kernel
theorem dX4_says_48 : decode cX4_says 48 = .ok (.getfield 33, 3) := by decide +kernel
theorem dX4_says_51 : decode cX4_says 51 = .ok (.getfield 167, 3) := by decide +kernel
theorem dX4_says_54 : decode cX4_says 54 = .ok (.ireturn, 1) := by decide +kernel
theorem dX4_offer_0 : decode cX4_offer 0 = .ok (.aload_n 0, 1) := by decide +kernel
theorem dX4_offer_1 : decode cX4_offer 1 = .ok (.invokevirtual 141, 3) := by decide +kernel
theorem dX4_offer_4 : decode cX4_offer 4 = .ok (.aload_n 0, 1) := by decide +kernel
theorem dX4_offer_5 : decode cX4_offer 5 = .ok (.iload_n 1, 1) := by decide +kernel
theorem dX4_offer_6 : decode cX4_offer 6 = .ok (.invokevirtual 62, 3) := by decide +kernel
theorem dX4_offer_9 : decode cX4_offer 9 = .ok (.aload_n 0, 1) := by decide +kernel
theorem dX4_offer_10 : decode cX4_offer 10 = .ok (.iload_n 2, 1) := by decide +kernel
theorem dX4_offer_11 : decode cX4_offer 11 = .ok (.invokevirtual 62, 3) := by decide +kernel
theorem dX4_offer_14 : decode cX4_offer 14 = .ok (.aload_n 0, 1) := by decide +kernel
theorem dX4_offer_15 : decode cX4_offer 15 = .ok (.getfield 26, 3) := by decide +kernel
theorem dX4_offer_18 : decode cX4_offer 18 = .ok (.iload_n 1, 1) := by decide +kernel
theorem dX4_offer_19 : decode cX4_offer 19 = .ok (.invokevirtual 170, 3) := by decide +kernel
theorem dX4_offer_22 : decode cX4_offer 22 = .ok (.ifCond .eq 5, 3) := by decide +kernel
theorem dX4_offer_25 : decode cX4_offer 25 = .ok (.iconst 0, 1) := by decide +kernel
theorem dX4_offer_26 : decode cX4_offer 26 = .ok (.ireturn, 1) := by decide +kernel
theorem dX4_offer_27 : decode cX4_offer 27 = .ok (.aload_n 0, 1) := by decide +kernel
theorem dX4_offer_28 : decode cX4_offer 28 = .ok (.iload_n 2, 1) := by decide +kernel
theorem dX4_offer_29 : decode cX4_offer 29 = .ok (.invokevirtual 158, 3) := by decide +kernel
theorem dX4_offer_32 : decode cX4_offer 32 = .ok (.aload_n 0, 1) := by decide +kernel
theorem dX4_offer_33 : decode cX4_offer 33 = .ok (.getfield 33, 3) := by decide +kernel
theorem dX4_offer_36 : decode cX4_offer 36 = .ok (.iload_n 3, 1) := by decide +kernel
theorem dX4_offer_37 : decode cX4_offer 37 = .ok (.iload 4, 2) := by decide +kernel
theorem dX4_offer_39 : decode cX4_offer 39 = .ok (.iload 5, 2) := by decide +kernel
theorem dX4_offer_41 : decode cX4_offer 41 = .ok (.invokevirtual 173, 3) := by decide +kernel
theorem dX4_offer_44 : decode cX4_offer 44 = .ok (.ifCond .eq 26, 3) := by decide +kernel
theorem dX4_offer_47 : decode cX4_offer 47 = .ok (.aload_n 0, 1) := by decide +kernel
theorem dX4_offer_48 : decode cX4_offer 48 = .ok (.getfield 33, 3) := by decide +kernel
theorem dX4_offer_51 : decode cX4_offer 51 = .ok (.aload_n 0, 1) := by decide +kernel
theorem dX4_offer_52 : decode cX4_offer 52 = .ok (.getfield 20, 3) := by decide +kernel
theorem dX4_offer_55 : decode cX4_offer 55 = .ok (.iload_n 1, 1) := by decide +kernel
theorem dX4_offer_56 : decode cX4_offer 56 = .ok (.iaload, 1) := by decide +kernel
theorem dX4_offer_57 : decode cX4_offer 57 = .ok (.aload_n 0, 1) := by decide +kernel
theorem dX4_offer_58 : decode cX4_offer 58 = .ok (.getfield 26, 3) := by decide +kernel
theorem dX4_offer_61 : decode cX4_offer 61 = .ok (.getfield 150, 3) := by decide +kernel
theorem dX4_offer_64 : decode cX4_offer 64 = .ok (.invokevirtual 177, 3) := by decide +kernel
theorem dX4_offer_67 : decode cX4_offer 67 = .ok (.ifCond .ne 5, 3) := by decide +kernel
theorem dX4_offer_70 : decode cX4_offer 70 = .ok (.iconst 0, 1) := by decide +kernel
theorem dX4_offer_71 : decode cX4_offer 71 = .ok (.ireturn, 1) := by decide +kernel
theorem dX4_offer_72 : decode cX4_offer 72 = .ok (.aload_n 0, 1) := by decide +kernel
theorem dX4_offer_73 : decode cX4_offer 73 = .ok (.getfield 26, 3) := by decide +kernel
theorem dX4_offer_76 : decode cX4_offer 76 = .ok (.iload_n 1, 1) := by decide +kernel
theorem dX4_offer_77 : decode cX4_offer 77 = .ok (.aload_n 0, 1) := by decide +kernel
theorem dX4_offer_78 : decode cX4_offer 78 = .ok (.getfield 33, 3) := by decide +kernel
theorem dX4_offer_81 : decode cX4_offer 81 = .ok (.getfield 161, 3) := by decide +kernel
theorem dX4_offer_84 : decode cX4_offer 84 = .ok (.invokevirtual 180, 3) := by decide +kernel
theorem dX4_offer_87 : decode cX4_offer 87 = .ok (.iconst 1, 1) := by decide +kernel
theorem dX4_offer_88 : decode cX4_offer 88 = .ok (.ireturn, 1) := by decide +kernel
theorem dX4_value_0 : decode cX4_value 0 = .ok (.aload_n 0, 1) := by decide +kernel
theorem dX4_value_1 : decode cX4_value 1 = .ok (.invokevirtual 141, 3) := by decide +kernel
theorem dX4_value_4 : decode cX4_value 4 = .ok (.iload_n 1, 1) := by decide +kernel
theorem dX4_value_5 : decode cX4_value 5 = .ok (.invokestatic 131, 3) := by decide +kernel
theorem dX4_value_8 : decode cX4_value 8 = .ok (.aload_n 0, 1) := by decide +kernel
theorem dX4_value_9 : decode cX4_value 9 = .ok (.getfield 48, 3) := by decide +kernel
theorem dX4_value_12 : decode cX4_value 12 = .ok (.if_icmp .ne 17, 3) := by decide +kernel
theorem dX4_value_15 : decode cX4_value 15 = .ok (.iload_n 1, 1) := by decide +kernel
theorem dX4_value_16 : decode cX4_value 16 = .ok (.aload_n 0, 1) := by decide +kernel
theorem dX4_value_17 : decode cX4_value 17 = .ok (.getfield 26, 3) := by decide +kernel
theorem dX4_value_20 : decode cX4_value 20 = .ok (.getfield 153, 3) := by decide +kernel
theorem dX4_value_23 : decode cX4_value 23 = .ok (.iconst (-1), 1) := by decide +kernel
theorem dX4_value_24 : decode cX4_value 24 = .ok (.ixor, 1) := by decide +kernel
theorem dX4_value_25 : decode cX4_value 25 = .ok (.iand, 1) := by decide +kernel
theorem dX4_value_26 : decode cX4_value 26 = .ok (.ifCond .eq 13, 3) := by decide +kernel
theorem dX4_value_29 : decode cX4_value 29 = .ok (.new 37, 3) := by decide +kernel
theorem dX4_value_32 : decode cX4_value 32 = .ok (.dup, 1) := by decide +kernel
theorem dX4_value_33 : decode cX4_value 33 = .ok (.ldc 183, 2) := by decide +kernel
theorem dX4_value_35 : decode cX4_value 35 = .ok (.invokespecial 41, 3) := by decide +kernel
theorem dX4_value_38 : decode cX4_value 38 = .ok (.athrow, 1) := by decide +kernel
theorem dX4_value_39 : decode cX4_value 39 = .ok (.aload_n 0, 1) := by decide +kernel
theorem dX4_value_40 : decode cX4_value 40 = .ok (.getfield 26, 3) := by decide +kernel
theorem dX4_value_43 : decode cX4_value 43 = .ok (.iload_n 1, 1) := by decide +kernel
theorem dX4_value_44 : decode cX4_value 44 = .ok (.invokevirtual 185, 3) := by decide +kernel
theorem dX4_value_47 : decode cX4_value 47 = .ok (.ireturn, 1) := by decide +kernel
theorem dX4_publish_0 : decode cX4_publish 0 = .ok (.aload_n 0, 1) := by decide +kernel
theorem dX4_publish_1 : decode cX4_publish 1 = .ok (.invokevirtual 141, 3) := by decide +kernel
theorem dX4_publish_4 : decode cX4_publish 4 = .ok (.aload_n 0, 1) := by decide +kernel
theorem dX4_publish_5 : decode cX4_publish 5 = .ok (.getfield 26, 3) := by decide +kernel
theorem dX4_publish_8 : decode cX4_publish 8 = .ok (.getfield 153, 3) := by decide +kernel
theorem dX4_publish_11 : decode cX4_publish 11 = .ok (.invokestatic 131, 3) := by decide +kernel
theorem dX4_publish_14 : decode cX4_publish 14 = .ok (.aload_n 0, 1) := by decide +kernel
theorem dX4_publish_15 : decode cX4_publish 15 = .ok (.getfield 48, 3) := by decide +kernel
theorem dX4_publish_18 : decode cX4_publish 18 = .ok (.if_icmp .ge 13, 3) := by decide +kernel
theorem dX4_publish_21 : decode cX4_publish 21 = .ok (.new 72, 3) := by decide +kernel
theorem dX4_publish_24 : decode cX4_publish 24 = .ok (.dup, 1) := by decide +kernel
theorem dX4_publish_25 : decode cX4_publish 25 = .ok (.ldc 188, 2) := by decide +kernel
theorem dX4_publish_27 : decode cX4_publish 27 = .ok (.invokespecial 76, 3) := by decide +kernel
theorem dX4_publish_30 : decode cX4_publish 30 = .ok (.athrow, 1) := by decide +kernel
theorem dX4_publish_31 : decode cX4_publish 31 = .ok (.aload_n 0, 1) := by decide +kernel
theorem dX4_publish_32 : decode cX4_publish 32 = .ok (.getfield 26, 3) := by decide +kernel
theorem dX4_publish_35 : decode cX4_publish 35 = .ok (.getfield 147, 3) := by decide +kernel
theorem dX4_publish_38 : decode cX4_publish 38 = .ok (.sipush 300, 3) := by decide +kernel
theorem dX4_publish_41 : decode cX4_publish 41 = .ok (.if_icmp .lt 13, 3) := by decide +kernel
theorem dX4_publish_44 : decode cX4_publish 44 = .ok (.new 190, 3) := by decide +kernel
theorem dX4_publish_47 : decode cX4_publish 47 = .ok (.dup, 1) := by decide +kernel
theorem dX4_publish_48 : decode cX4_publish 48 = .ok (.ldc 192, 2) := by decide +kernel
theorem dX4_publish_50 : decode cX4_publish 50 = .ok (.invokespecial 194, 3) := by decide +kernel
theorem dX4_publish_53 : decode cX4_publish 53 = .ok (.athrow, 1) := by decide +kernel
theorem dX4_publish_54 : decode cX4_publish 54 = .ok (.aload_n 0, 1) := by decide +kernel
theorem dX4_publish_55 : decode cX4_publish 55 = .ok (.getfield 26, 3) := by decide +kernel
theorem dX4_publish_58 : decode cX4_publish 58 = .ok (.aload_n 0, 1) := by decide +kernel
theorem dX4_publish_59 : decode cX4_publish 59 = .ok (.getfield 26, 3) := by decide +kernel
theorem dX4_publish_62 : decode cX4_publish 62 = .ok (.aload_n 0, 1) := by decide +kernel
theorem dX4_publish_63 : decode cX4_publish 63 = .ok (.getfield 48, 3) := by decide +kernel
theorem dX4_publish_66 : decode cX4_publish 66 = .ok (.invokevirtual 195, 3) := by decide +kernel
theorem dX4_publish_69 : decode cX4_publish 69 = .ok (.invokevirtual 185, 3) := by decide +kernel
theorem dX4_publish_72 : decode cX4_publish 72 = .ok (.istore_n 1, 1) := by decide +kernel
theorem dX4_publish_73 : decode cX4_publish 73 = .ok (.aload_n 0, 1) := by decide +kernel
theorem dX4_publish_74 : decode cX4_publish 74 = .ok (.getfield 26, 3) := by decide +kernel
theorem dX4_publish_77 : decode cX4_publish 77 = .ok (.iload_n 1, 1) := by decide +kernel
theorem dX4_publish_78 : decode cX4_publish 78 = .ok (.invokevirtual 198, 3) := by decide +kernel
theorem dX4_publish_81 : decode cX4_publish 81 = .ok (.iload_n 1, 1) := by decide +kernel
theorem dX4_publish_82 : decode cX4_publish 82 = .ok (.ireturn, 1) := by decide +kernel
theorem dX4_ended_0 : decode cX4_ended 0 = .ok (.aload_n 0, 1) := by decide +kernel
theorem dX4_ended_1 : decode cX4_ended 1 = .ok (.iload_n 1, 1) := by decide +kernel
theorem dX4_ended_2 : decode cX4_ended 2 = .ok (.invokevirtual 201, 3) := by decide +kernel
theorem dX4_ended_5 : decode cX4_ended 5 = .ok (.aload_n 0, 1) := by decide +kernel
theorem dX4_ended_6 : decode cX4_ended 6 = .ok (.getfield 26, 3) := by decide +kernel
theorem dX4_ended_9 : decode cX4_ended 9 = .ok (.getfield 204, 3) := by decide +kernel
theorem dX4_ended_12 : decode cX4_ended 12 = .ok (.iload_n 1, 1) := by decide +kernel
theorem dX4_ended_13 : decode cX4_ended 13 = .ok (.laload, 1) := by decide +kernel
theorem dX4_ended_14 : decode cX4_ended 14 = .ok (.lreturn, 1) := by decide +kernel
theorem dX4_random_0 : decode cX4_random 0 = .ok (.aload_n 0, 1) := by decide +kernel
theorem dX4_random_1 : decode cX4_random 1 = .ok (.iload_n 1, 1) := by decide +kernel
theorem dX4_random_2 : decode cX4_random 2 = .ok (.invokevirtual 201, 3) := by decide +kernel
theorem dX4_random_5 : decode cX4_random 5 = .ok (.aload_n 0, 1) := by decide +kernel
theorem dX4_random_6 : decode cX4_random 6 = .ok (.getfield 26, 3) := by decide +kernel
theorem dX4_random_9 : decode cX4_random 9 = .ok (.getfield 204, 3) := by decide +kernel
theorem dX4_random_12 : decode cX4_random 12 = .ok (.iload_n 1, 1) := by decide +kernel
theorem dX4_random_13 : decode cX4_random 13 = .ok (.laload, 1) := by decide +kernel
theorem dX4_random_14 : decode cX4_random 14 = .ok (.iload_n 1, 1) := by decide +kernel
theorem dX4_random_15 : decode cX4_random 15 = .ok (.i2l, 1) := by decide +kernel
theorem dX4_random_16 : decode cX4_random 16 = .ok (.invokestatic 208, 3) := by decide +kernel
