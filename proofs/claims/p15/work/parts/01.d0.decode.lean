theorem dX0_init_0 : decode cX0_init 0 = .ok (.aload_n 0, 1) := by decide +kernel
theorem dX0_init_1 : decode cX0_init 1 = .ok (.invokespecial 3, 3) := by decide +kernel
theorem dX0_init_4 : decode cX0_init 4 = .ok (.aload_n 0, 1) := by decide +kernel
theorem dX0_init_5 : decode cX0_init 5 = .ok (.iload_n 1, 1) := by decide +kernel
theorem dX0_init_6 : decode cX0_init 6 = .ok (.putfield 9, 3) := by decide +kernel
theorem dX0_init_9 : decode cX0_init 9 = .ok (.aload_n 0, 1) := by decide +kernel
theorem dX0_init_10 : decode cX0_init 10 = .ok (.iload_n 2, 1) := by decide +kernel
theorem dX0_init_11 : decode cX0_init 11 = .ok (.putfield 15, 3) := by decide +kernel
theorem dX0_init_14 : decode cX0_init 14 = .ok (.aload_n 0, 1) := by decide +kernel
theorem dX0_init_15 : decode cX0_init 15 = .ok (.iload_n 3, 1) := by decide +kernel
theorem dX0_init_16 : decode cX0_init 16 = .ok (.putfield 18, 3) := by decide +kernel
theorem dX0_init_19 : decode cX0_init 19 = .ok (.aload_n 0, 1) := by decide +kernel
theorem dX0_init_20 : decode cX0_init 20 = .ok (.iload 4, 2) := by decide +kernel
theorem dX0_init_22 : decode cX0_init 22 = .ok (.putfield 21, 3) := by decide +kernel
theorem dX0_init_25 : decode cX0_init 25 = .ok (.aload_n 0, 1) := by decide +kernel
theorem dX0_init_26 : decode cX0_init 26 = .ok (.iload 6, 2) := by decide +kernel
theorem dX0_init_28 : decode cX0_init 28 = .ok (.putfield 24, 3) := by decide +kernel
theorem dX0_init_31 : decode cX0_init 31 = .ok (.aload_n 0, 1) := by decide +kernel
theorem dX0_init_32 : decode cX0_init 32 = .ok (.iload 5, 2) := by decide +kernel
theorem dX0_init_34 : decode cX0_init 34 = .ok (.putfield 27, 3) := by decide +kernel
theorem dX0_init_37 : decode cX0_init 37 = .ok (.aload_n 0, 1) := by decide +kernel
theorem dX0_init_38 : decode cX0_init 38 = .ok (.iload 5, 2) := by decide +kernel
theorem dX0_init_40 : decode cX0_init 40 = .ok (.putfield 30, 3) := by decide +kernel
theorem dX0_init_43 : decode cX0_init 43 = .ok (.aload_n 0, 1) := by decide +kernel
theorem dX0_init_44 : decode cX0_init 44 = .ok (.iload_n 2, 1) := by decide +kernel
theorem dX0_init_45 : decode cX0_init 45 = .ok (.putfield 33, 3) := by decide +kernel
theorem dX0_init_48 : decode cX0_init 48 = .ok (.aload_n 0, 1) := by decide +kernel
theorem dX0_init_49 : decode cX0_init 49 = .ok (.iload_n 2, 1) := by decide +kernel
theorem dX0_init_50 : decode cX0_init 50 = .ok (.putfield 36, 3) := by decide +kernel
theorem dX0_init_53 : decode cX0_init 53 = .ok (.aload_n 0, 1) := by decide +kernel
theorem dX0_init_54 : decode cX0_init 54 = .ok (.iconst 0, 1) := by decide +kernel
theorem dX0_init_55 : decode cX0_init 55 = .ok (.putfield 39, 3) := by decide +kernel
theorem dX0_init_58 : decode cX0_init 58 = .ok (.aload_n 0, 1) := by decide +kernel
theorem dX0_init_59 : decode cX0_init 59 = .ok (.aconst_null, 1) := by decide +kernel
theorem dX0_init_60 : decode cX0_init 60 = .ok (.putfield 42, 3) := by decide +kernel
theorem dX0_init_63 : decode cX0_init 63 = .ok (.aload_n 0, 1) := by decide +kernel
theorem dX0_init_64 : decode cX0_init 64 = .ok (.iconst (-1), 1) := by decide +kernel
theorem dX0_init_65 : decode cX0_init 65 = .ok (.putfield 46, 3) := by decide +kernel
theorem dX0_init_68 : decode cX0_init 68 = .ok (.aload_n 0, 1) := by decide +kernel
theorem dX0_init_69 : decode cX0_init 69 = .ok (.iconst (-1), 1) := by decide +kernel
theorem dX0_init_70 : decode cX0_init 70 = .ok (.putfield 49, 3) := by decide +kernel
theorem dX0_init_73 : decode cX0_init 73 = .ok (.return_, 1) := by decide +kernel
theorem dX0_wayTo_0 : decode cX0_wayTo 0 = .ok (.iload_n 1, 1) := by decide +kernel
theorem dX0_wayTo_1 : decode cX0_wayTo 1 = .ok (.invokestatic 52, 3) := by decide +kernel
theorem dX0_wayTo_4 : decode cX0_wayTo 4 = .ok (.aload_n 0, 1) := by decide +kernel
theorem dX0_wayTo_5 : decode cX0_wayTo 5 = .ok (.getfield 18, 3) := by decide +kernel
theorem dX0_wayTo_8 : decode cX0_wayTo 8 = .ok (.invokestatic 52, 3) := by decide +kernel
theorem dX0_wayTo_11 : decode cX0_wayTo 11 = .ok (.isub, 1) := by decide +kernel
theorem dX0_wayTo_12 : decode cX0_wayTo 12 = .ok (.invokestatic 56, 3) := by decide +kernel
theorem dX0_wayTo_15 : decode cX0_wayTo 15 = .ok (.iload_n 1, 1) := by decide +kernel
theorem dX0_wayTo_16 : decode cX0_wayTo 16 = .ok (.invokestatic 61, 3) := by decide +kernel
theorem dX0_wayTo_19 : decode cX0_wayTo 19 = .ok (.aload_n 0, 1) := by decide +kernel
theorem dX0_wayTo_20 : decode cX0_wayTo 20 = .ok (.getfield 18, 3) := by decide +kernel
theorem dX0_wayTo_23 : decode cX0_wayTo 23 = .ok (.invokestatic 61, 3) := by decide +kernel
theorem dX0_wayTo_26 : decode cX0_wayTo 26 = .ok (.isub, 1) := by decide +kernel
theorem dX0_wayTo_27 : decode cX0_wayTo 27 = .ok (.invokestatic 56, 3) := by decide +kernel
theorem dX0_wayTo_30 : decode cX0_wayTo 30 = .ok (.iadd, 1) := by decide +kernel
theorem dX0_wayTo_31 : decode cX0_wayTo 31 = .ok (.ireturn, 1) := by decide +kernel
theorem dX0_hoursFor_0 : decode cX0_hoursFor 0 = .ok (.iconst 1, 1) := by decide +kernel
theorem dX0_hoursFor_1 : decode cX0_hoursFor 1 = .ok (.istore_n 2, 1) := by decide +kernel
theorem dX0_hoursFor_2 : decode cX0_hoursFor 2 = .ok (.iload_n 2, 1) := by decide +kernel
theorem dX0_hoursFor_3 : decode cX0_hoursFor 3 = .ok (.iconst 5, 1) := by decide +kernel
theorem dX0_hoursFor_4 : decode cX0_hoursFor 4 = .ok (.if_icmp .gt 21, 3) := by decide +kernel
theorem dX0_hoursFor_7 : decode cX0_hoursFor 7 = .ok (.iload_n 2, 1) := by decide +kernel
theorem dX0_hoursFor_8 : decode cX0_hoursFor 8 = .ok (.aload_n 0, 1) := by decide +kernel
theorem dX0_hoursFor_9 : decode cX0_hoursFor 9 = .ok (.getfield 21, 3) := by decide +kernel
theorem dX0_hoursFor_12 : decode cX0_hoursFor 12 = .ok (.imul, 1) := by decide +kernel
theorem dX0_hoursFor_13 : decode cX0_hoursFor 13 = .ok (.iload_n 1, 1) := by decide +kernel
theorem dX0_hoursFor_14 : decode cX0_hoursFor 14 = .ok (.if_icmp .lt 5, 3) := by decide +kernel
theorem dX0_hoursFor_17 : decode cX0_hoursFor 17 = .ok (.iload_n 2, 1) := by decide +kernel
theorem dX0_hoursFor_18 : decode cX0_hoursFor 18 = .ok (.ireturn, 1) := by decide +kernel
theorem dX0_hoursFor_19 : decode cX0_hoursFor 19 = .ok (.iinc 2 1, 3) := by decide +kernel
theorem dX0_hoursFor_22 : decode cX0_hoursFor 22 = .ok (.goto (-20), 3) := by decide +kernel
theorem dX0_hoursFor_25 : decode cX0_hoursFor 25 = .ok (.iconst (-1), 1) := by decide +kernel
theorem dX0_hoursFor_26 : decode cX0_hoursFor 26 = .ok (.ireturn, 1) := by decide +kernel
theorem dX0_leaveFor_0 : decode cX0_leaveFor 0 = .ok (.aload_n 0, 1) := by decide +kernel
theorem dX0_leaveFor_1 : decode cX0_leaveFor 1 = .ok (.iconst 1, 1) := by decide +kernel
theorem dX0_leaveFor_2 : decode cX0_leaveFor 2 = .ok (.putfield 39, 3) := by decide +kernel
theorem dX0_leaveFor_5 : decode cX0_leaveFor 5 = .ok (.aload_n 0, 1) := by decide +kernel
theorem dX0_leaveFor_6 : decode cX0_leaveFor 6 = .ok (.aload_n 1, 1) := by decide +kernel
theorem dX0_leaveFor_7 : decode cX0_leaveFor 7 = .ok (.putfield 42, 3) := by decide +kernel
theorem dX0_leaveFor_10 : decode cX0_leaveFor 10 = .ok (.aload_n 0, 1) := by decide +kernel
theorem dX0_leaveFor_11 : decode cX0_leaveFor 11 = .ok (.aload_n 0, 1) := by decide +kernel
theorem dX0_leaveFor_12 : decode cX0_leaveFor 12 = .ok (.getfield 33, 3) := by decide +kernel
theorem dX0_leaveFor_15 : decode cX0_leaveFor 15 = .ok (.putfield 36, 3) := by decide +kernel
theorem dX0_leaveFor_18 : decode cX0_leaveFor 18 = .ok (.aload_n 0, 1) := by decide +kernel
theorem dX0_leaveFor_19 : decode cX0_leaveFor 19 = .ok (.iload_n 2, 1) := by decide +kernel
theorem dX0_leaveFor_20 : decode cX0_leaveFor 20 = .ok (.putfield 49, 3) := by decide +kernel
theorem dX0_leaveFor_23 : decode cX0_leaveFor 23 = .ok (.aload_n 0, 1) := by decide +kernel
theorem dX0_leaveFor_24 : decode cX0_leaveFor 24 = .ok (.iload_n 3, 1) := by decide +kernel
theorem dX0_leaveFor_25 : decode cX0_leaveFor 25 = .ok (.putfield 46, 3) := by decide +kernel
theorem dX0_leaveFor_28 : decode cX0_leaveFor 28 = .ok (.return_, 1) := by decide +kernel
theorem dX0_turnBack_0 : decode cX0_turnBack 0 = .ok (.aload_n 0, 1) := by decide +kernel
theorem dX0_turnBack_1 : decode cX0_turnBack 1 = .ok (.iconst 2, 1) := by decide +kernel
theorem dX0_turnBack_2 : decode cX0_turnBack 2 = .ok (.aload_n 0, 1) := by decide +kernel
theorem dX0_turnBack_3 : decode cX0_turnBack 3 = .ok (.getfield 21, 3) := by decide +kernel
theorem dX0_turnBack_6 : decode cX0_turnBack 6 = .ok (.imul, 1) := by decide +kernel
theorem dX0_turnBack_7 : decode cX0_turnBack 7 = .ok (.iload_n 1, 1) := by decide +kernel
theorem dX0_turnBack_8 : decode cX0_turnBack 8 = .ok (.aload_n 0, 1) := by decide +kernel
theorem dX0_turnBack_9 : decode cX0_turnBack 9 = .ok (.getfield 49, 3) := by decide +kernel
theorem dX0_turnBack_12 : decode cX0_turnBack 12 = .ok (.isub, 1) := by decide +kernel
theorem dX0_turnBack_13 : decode cX0_turnBack 13 = .ok (.imul, 1) := by decide +kernel
theorem dX0_turnBack_14 : decode cX0_turnBack 14 = .ok (.invokevirtual 64, 3) := by decide +kernel
theorem dX0_turnBack_17 : decode cX0_turnBack 17 = .ok (.aload_n 0, 1) := by decide +kernel
theorem dX0_turnBack_18 : decode cX0_turnBack 18 = .ok (.iload_n 1, 1) := by decide +kernel
theorem dX0_turnBack_19 : decode cX0_turnBack 19 = .ok (.invokevirtual 68, 3) := by decide +kernel
theorem dX0_turnBack_22 : decode cX0_turnBack 22 = .ok (.return_, 1) := by decide +kernel
theorem dX0_goHome_0 : decode cX0_goHome 0 = .ok (.aload_n 0, 1) := by decide +kernel
theorem dX0_goHome_1 : decode cX0_goHome 1 = .ok (.iconst 2, 1) := by decide +kernel
theorem dX0_goHome_2 : decode cX0_goHome 2 = .ok (.iload_n 2, 1) := by decide +kernel
theorem dX0_goHome_3 : decode cX0_goHome 3 = .ok (.imul, 1) := by decide +kernel
theorem dX0_goHome_4 : decode cX0_goHome 4 = .ok (.invokevirtual 64, 3) := by decide +kernel
theorem dX0_goHome_7 : decode cX0_goHome 7 = .ok (.aload_n 0, 1) := by decide +kernel
theorem dX0_goHome_8 : decode cX0_goHome 8 = .ok (.iload_n 1, 1) := by decide +kernel
theorem dX0_goHome_9 : decode cX0_goHome 9 = .ok (.invokevirtual 68, 3) := by decide +kernel
theorem dX0_goHome_12 : decode cX0_goHome 12 = .ok (.return_, 1) := by decide +kernel
theorem dX0_rest_0 : decode cX0_rest 0 = .ok (.aload_n 0, 1) := by decide +kernel
theorem dX0_rest_1 : decode cX0_rest 1 = .ok (.iconst 2, 1) := by decide +kernel
theorem dX0_rest_2 : decode cX0_rest 2 = .ok (.putfield 39, 3) := by decide +kernel
theorem dX0_rest_5 : decode cX0_rest 5 = .ok (.aload_n 0, 1) := by decide +kernel
theorem dX0_rest_6 : decode cX0_rest 6 = .ok (.aload_n 0, 1) := by decide +kernel
theorem dX0_rest_7 : decode cX0_rest 7 = .ok (.getfield 27, 3) := by decide +kernel
theorem dX0_rest_10 : decode cX0_rest 10 = .ok (.putfield 30, 3) := by decide +kernel
theorem dX0_rest_13 : decode cX0_rest 13 = .ok (.aload_n 0, 1) := by decide +kernel
theorem dX0_rest_14 : decode cX0_rest 14 = .ok (.iload_n 1, 1) := by decide +kernel
theorem dX0_rest_15 : decode cX0_rest 15 = .ok (.iload_n 1, 1) := by decide +kernel
theorem dX0_rest_16 : decode cX0_rest 16 = .ok (.aload_n 0, 1) := by decide +kernel
theorem dX0_rest_17 : decode cX0_rest 17 = .ok (.getfield 49, 3) := by decide +kernel
theorem dX0_rest_20 : decode cX0_rest 20 = .ok (.isub, 1) := by decide +kernel
theorem dX0_rest_21 : decode cX0_rest 21 = .ok (.iadd, 1) := by decide +kernel
theorem dX0_rest_22 : decode cX0_rest 22 = .ok (.putfield 46, 3) := by decide +kernel
theorem dX0_rest_25 : decode cX0_rest 25 = .ok (.return_, 1) := by decide +kernel
theorem dX0_becomeFree_0 : decode cX0_becomeFree 0 = .ok (.aload_n 0, 1) := by decide +kernel
theorem dX0_becomeFree_1 : decode cX0_becomeFree 1 = .ok (.iconst 0, 1) := by decide +kernel
theorem dX0_becomeFree_2 : decode cX0_becomeFree 2 = .ok (.putfield 39, 3) := by decide +kernel
theorem dX0_becomeFree_5 : decode cX0_becomeFree 5 = .ok (.aload_n 0, 1) := by decide +kernel
theorem dX0_becomeFree_6 : decode cX0_becomeFree 6 = .ok (.iconst (-1), 1) := by decide +kernel
theorem dX0_becomeFree_7 : decode cX0_becomeFree 7 = .ok (.putfield 46, 3) := by decide +kernel
theorem dX0_becomeFree_10 : decode cX0_becomeFree 10 = .ok (.return_, 1) := by decide +kernel
theorem dX0_burn_0 : decode cX0_burn 0 = .ok (.aload_n 0, 1) := by decide +kernel
theorem dX0_burn_1 : decode cX0_burn 1 = .ok (.dup, 1) := by decide +kernel
theorem dX0_burn_2 : decode cX0_burn 2 = .ok (.getfield 30, 3) := by decide +kernel
theorem dX0_burn_5 : decode cX0_burn 5 = .ok (.iload_n 1, 1) := by decide +kernel
theorem dX0_burn_6 : decode cX0_burn 6 = .ok (.aload_n 0, 1) := by decide +kernel
theorem dX0_burn_7 : decode cX0_burn 7 = .ok (.getfield 30, 3) := by decide +kernel
theorem dX0_burn_10 : decode cX0_burn 10 = .ok (.invokestatic 71, 3) := by decide +kernel
theorem dX0_burn_13 : decode cX0_burn 13 = .ok (.isub, 1) := by decide +kernel
theorem dX0_burn_14 : decode cX0_burn 14 = .ok (.putfield 30, 3) := by decide +kernel
theorem dX0_burn_17 : decode cX0_burn 17 = .ok (.return_, 1) := by decide +kernel
theorem dX0_headHome_0 : decode cX0_headHome 0 = .ok (.aload_n 0, 1) := by decide +kernel
theorem dX0_headHome_1 : decode cX0_headHome 1 = .ok (.aconst_null, 1) := by decide +kernel
theorem dX0_headHome_2 : decode cX0_headHome 2 = .ok (.putfield 42, 3) := by decide +kernel
theorem dX0_headHome_5 : decode cX0_headHome 5 = .ok (.aload_n 0, 1) := by decide +kernel
theorem dX0_headHome_6 : decode cX0_headHome 6 = .ok (.iload_n 1, 1) := by decide +kernel
theorem dX0_headHome_7 : decode cX0_headHome 7 = .ok (.iload_n 1, 1) := by decide +kernel
theorem dX0_headHome_8 : decode cX0_headHome 8 = .ok (.aload_n 0, 1) := by decide +kernel
theorem dX0_headHome_9 : decode cX0_headHome 9 = .ok (.getfield 49, 3) := by decide +kernel
theorem dX0_headHome_12 : decode cX0_headHome 12 = .ok (.isub, 1) := by decide +kernel
theorem dX0_headHome_13 : decode cX0_headHome 13 = .ok (.iadd, 1) := by decide +kernel
theorem dX0_headHome_14 : decode cX0_headHome 14 = .ok (.putfield 46, 3) := by decide +kernel
theorem dX0_headHome_17 : decode cX0_headHome 17 = .ok (.return_, 1) := by decide +kernel
theorem dX1_init_0 : decode cX1_init 0 = .ok (.aload_n 0, 1) := by decide +kernel
theorem dX1_init_1 : decode cX1_init 1 = .ok (.invokespecial 3, 3) := by decide +kernel
theorem dX1_init_4 : decode cX1_init 4 = .ok (.aload_n 0, 1) := by decide +kernel
theorem dX1_init_5 : decode cX1_init 5 = .ok (.iload_n 1, 1) := by decide +kernel
theorem dX1_init_6 : decode cX1_init 6 = .ok (.putfield 9, 3) := by decide +kernel
theorem dX1_init_9 : decode cX1_init 9 = .ok (.aload_n 0, 1) := by decide +kernel
theorem dX1_init_10 : decode cX1_init 10 = .ok (.iload_n 2, 1) := by decide +kernel
theorem dX1_init_11 : decode cX1_init 11 = .ok (.putfield 15, 3) := by decide +kernel
theorem dX1_init_14 : decode cX1_init 14 = .ok (.aload_n 0, 1) := by decide +kernel
theorem dX1_init_15 : decode cX1_init 15 = .ok (.iload_n 3, 1) := by decide +kernel
theorem dX1_init_16 : decode cX1_init 16 = .ok (.putfield 18, 3) := by decide +kernel
theorem dX1_init_19 : decode cX1_init 19 = .ok (.aload_n 0, 1) := by decide +kernel
theorem dX1_init_20 : decode cX1_init 20 = .ok (.iload 4, 2) := by decide +kernel
theorem dX1_init_22 : decode cX1_init 22 = .ok (.putfield 21, 3) := by decide +kernel
theorem dX1_init_25 : decode cX1_init 25 = .ok (.aload_n 0, 1) := by decide +kernel
theorem dX1_init_26 : decode cX1_init 26 = .ok (.iconst 0, 1) := by decide +kernel
theorem dX1_init_27 : decode cX1_init 27 = .ok (.putfield 24, 3) := by decide +kernel
theorem dX1_init_30 : decode cX1_init 30 = .ok (.aload_n 0, 1) := by decide +kernel
theorem dX1_init_31 : decode cX1_init 31 = .ok (.aconst_null, 1) := by decide +kernel
theorem dX1_init_32 : decode cX1_init 32 = .ok (.putfield 27, 3) := by decide +kernel
theorem dX1_init_35 : decode cX1_init 35 = .ok (.aload_n 0, 1) := by decide +kernel
theorem dX1_init_36 : decode cX1_init 36 = .ok (.iconst 0, 1) := by decide +kernel
theorem dX1_init_37 : decode cX1_init 37 = .ok (.putfield 31, 3) := by decide +kernel
theorem dX1_init_40 : decode cX1_init 40 = .ok (.aload_n 0, 1) := by decide +kernel
theorem dX1_init_41 : decode cX1_init 41 = .ok (.iconst 0, 1) := by decide +kernel
theorem dX1_init_42 : decode cX1_init 42 = .ok (.putfield 34, 3) := by decide +kernel
theorem dX1_init_45 : decode cX1_init 45 = .ok (.return_, 1) := by decide +kernel
theorem dX2_init_0 : decode cX2_init 0 = .ok (.aload_n 0, 1) := by decide +kernel
theorem dX2_init_1 : decode cX2_init 1 = .ok (.invokespecial 1, 3) := by decide +kernel
theorem dX2_init_4 : decode cX2_init 4 = .ok (.aload_n 0, 1) := by decide +kernel
theorem dX2_init_5 : decode cX2_init 5 = .ok (.iload_n 1, 1) := by decide +kernel
theorem dX2_init_6 : decode cX2_init 6 = .ok (.putfield 7, 3) := by decide +kernel
theorem dX2_init_9 : decode cX2_init 9 = .ok (.aload_n 0, 1) := by decide +kernel
theorem dX2_init_10 : decode cX2_init 10 = .ok (.iload_n 2, 1) := by decide +kernel
theorem dX2_init_11 : decode cX2_init 11 = .ok (.putfield 13, 3) := by decide +kernel
theorem dX2_init_14 : decode cX2_init 14 = .ok (.aload_n 0, 1) := by decide +kernel
theorem dX2_init_15 : decode cX2_init 15 = .ok (.iload_n 3, 1) := by decide +kernel
theorem dX2_init_16 : decode cX2_init 16 = .ok (.putfield 16, 3) := by decide +kernel
theorem dX2_init_19 : decode cX2_init 19 = .ok (.aload_n 0, 1) := by decide +kernel
theorem dX2_init_20 : decode cX2_init 20 = .ok (.iload 4, 2) := by decide +kernel
theorem dX2_init_22 : decode cX2_init 22 = .ok (.putfield 19, 3) := by decide +kernel
theorem dX2_init_25 : decode cX2_init 25 = .ok (.aload_n 0, 1) := by decide +kernel
theorem dX2_init_26 : decode cX2_init 26 = .ok (.iload 5, 2) := by decide +kernel
theorem dX2_init_28 : decode cX2_init 28 = .ok (.putfield 22, 3) := by decide +kernel
theorem dX2_init_31 : decode cX2_init 31 = .ok (.return_, 1) := by decide +kernel
theorem dX2_reward_0 : decode cX2_reward 0 = .ok (.bipush 10, 2) := by decide +kernel
theorem dX2_reward_2 : decode cX2_reward 2 = .ok (.aload_n 0, 1) := by decide +kernel
theorem dX2_reward_3 : decode cX2_reward 3 = .ok (.getfield 16, 3) := by decide +kernel
theorem dX2_reward_6 : decode cX2_reward 6 = .ok (.imul, 1) := by decide +kernel
theorem dX2_reward_7 : decode cX2_reward 7 = .ok (.iconst 5, 1) := by decide +kernel
theorem dX2_reward_8 : decode cX2_reward 8 = .ok (.aload_n 0, 1) := by decide +kernel
theorem dX2_reward_9 : decode cX2_reward 9 = .ok (.getfield 19, 3) := by decide +kernel
theorem dX2_reward_12 : decode cX2_reward 12 = .ok (.imul, 1) := by decide +kernel
theorem dX2_reward_13 : decode cX2_reward 13 = .ok (.iadd, 1) := by decide +kernel
theorem dX2_reward_14 : decode cX2_reward 14 = .ok (.aload_n 0, 1) := by decide +kernel
theorem dX2_reward_15 : decode cX2_reward 15 = .ok (.getfield 22, 3) := by decide +kernel
theorem dX2_reward_18 : decode cX2_reward 18 = .ok (.invokestatic 25, 3) := by decide +kernel
theorem dX2_reward_21 : decode cX2_reward 21 = .ok (.ireturn, 1) := by decide +kernel
theorem dX2_shareOf_0 : decode cX2_shareOf 0 = .ok (.aload_n 0, 1) := by decide +kernel
theorem dX2_shareOf_1 : decode cX2_shareOf 1 = .ok (.invokevirtual 31, 3) := by decide +kernel
theorem dX2_shareOf_4 : decode cX2_shareOf 4 = .ok (.istore_n 2, 1) := by decide +kernel
theorem dX2_shareOf_5 : decode cX2_shareOf 5 = .ok (.aload_n 0, 1) := by decide +kernel
theorem dX2_shareOf_6 : decode cX2_shareOf 6 = .ok (.getfield 7, 3) := by decide +kernel
theorem dX2_shareOf_9 : decode cX2_shareOf 9 = .ok (.aload_n 0, 1) := by decide +kernel
theorem dX2_shareOf_10 : decode cX2_shareOf 10 = .ok (.getfield 13, 3) := by decide +kernel
theorem dX2_shareOf_13 : decode cX2_shareOf 13 = .ok (.if_icmp .ne 7, 3) := by decide +kernel
theorem dX2_shareOf_16 : decode cX2_shareOf 16 = .ok (.iload_n 2, 1) := by decide +kernel
theorem dX2_shareOf_17 : decode cX2_shareOf 17 = .ok (.goto 6, 3) := by decide +kernel
theorem dX2_shareOf_20 : decode cX2_shareOf 20 = .ok (.iload_n 2, 1) := by decide +kernel
theorem dX2_shareOf_21 : decode cX2_shareOf 21 = .ok (.iconst 2, 1) := by decide +kernel
theorem dX2_shareOf_22 : decode cX2_shareOf 22 = .ok (.idiv, 1) := by decide +kernel
theorem dX2_shareOf_23 : decode cX2_shareOf 23 = .ok (.istore_n 3, 1) := by decide +kernel
theorem dX2_shareOf_24 : decode cX2_shareOf 24 = .ok (.iload_n 1, 1) := by decide +kernel
theorem dX2_shareOf_25 : decode cX2_shareOf 25 = .ok (.aload_n 0, 1) := by decide +kernel
theorem dX2_shareOf_26 : decode cX2_shareOf 26 = .ok (.getfield 7, 3) := by decide +kernel
theorem dX2_shareOf_29 : decode cX2_shareOf 29 = .ok (.if_icmp .ne 7, 3) := by decide +kernel
theorem dX2_shareOf_32 : decode cX2_shareOf 32 = .ok (.iload_n 3, 1) := by decide +kernel
theorem dX2_shareOf_33 : decode cX2_shareOf 33 = .ok (.goto 4, 3) := by decide +kernel
theorem dX2_shareOf_36 : decode cX2_shareOf 36 = .ok (.iconst 0, 1) := by decide +kernel
theorem dX2_shareOf_37 : decode cX2_shareOf 37 = .ok (.istore 4, 2) := by decide +kernel
theorem dX2_shareOf_39 : decode cX2_shareOf 39 = .ok (.iload_n 1, 1) := by decide +kernel
theorem dX2_shareOf_40 : decode cX2_shareOf 40 = .ok (.aload_n 0, 1) := by decide +kernel
theorem dX2_shareOf_41 : decode cX2_shareOf 41 = .ok (.getfield 13, 3) := by decide +kernel
theorem dX2_shareOf_44 : decode cX2_shareOf 44 = .ok (.if_icmp .ne 12, 3) := by decide +kernel
theorem dX2_shareOf_47 : decode cX2_shareOf 47 = .ok (.iload 4, 2) := by decide +kernel
theorem dX2_shareOf_49 : decode cX2_shareOf 49 = .ok (.iload_n 2, 1) := by decide +kernel
theorem dX2_shareOf_50 : decode cX2_shareOf 50 = .ok (.iadd, 1) := by decide +kernel
theorem dX2_shareOf_51 : decode cX2_shareOf 51 = .ok (.iload_n 3, 1) := by decide +kernel
theorem dX2_shareOf_52 : decode cX2_shareOf 52 = .ok (.isub, 1) := by decide +kernel
theorem dX2_shareOf_53 : decode cX2_shareOf 53 = .ok (.goto 5, 3) := by decide +kernel
theorem dX2_shareOf_56 : decode cX2_shareOf 56 = .ok (.iload 4, 2) := by decide +kernel
theorem dX2_shareOf_58 : decode cX2_shareOf 58 = .ok (.ireturn, 1) := by decide +kernel
theorem dX3_init_0 : decode cX3_init 0 = .ok (.aload_n 0, 1) := by decide +kernel
theorem dX3_init_1 : decode cX3_init 1 = .ok (.invokespecial 3, 3) := by decide +kernel
theorem dX3_init_4 : decode cX3_init 4 = .ok (.aload_n 0, 1) := by decide +kernel
theorem dX3_init_5 : decode cX3_init 5 = .ok (.iconst 3, 1) := by decide +kernel
theorem dX3_init_6 : decode cX3_init 6 = .ok (.newarray .int, 2) := by decide +kernel
theorem dX3_init_8 : decode cX3_init 8 = .ok (.putfield 9, 3) := by decide +kernel
theorem dX3_init_11 : decode cX3_init 11 = .ok (.aload_n 0, 1) := by decide +kernel
theorem dX3_init_12 : decode cX3_init 12 = .ok (.new 15, 3) := by decide +kernel
theorem dX3_init_15 : decode cX3_init 15 = .ok (.dup, 1) := by decide +kernel
theorem dX3_init_16 : decode cX3_init 16 = .ok (.invokespecial 17, 3) := by decide +kernel
theorem dX3_init_19 : decode cX3_init 19 = .ok (.putfield 18, 3) := by decide +kernel
theorem dX3_init_22 : decode cX3_init 22 = .ok (.return_, 1) := by decide +kernel
theorem dX3_pay_0 : decode cX3_pay 0 = .ok (.aload_n 0, 1) := by decide +kernel
theorem dX3_pay_1 : decode cX3_pay 1 = .ok (.getfield 18, 3) := by decide +kernel
theorem dX3_pay_4 : decode cX3_pay 4 = .ok (.aload_n 1, 1) := by decide +kernel
theorem dX3_pay_5 : decode cX3_pay 5 = .ok (.invokeinterface 22 2, 5) := by decide +kernel
theorem dX3_pay_10 : decode cX3_pay 10 = .ok (.pop, 1) := by decide +kernel
theorem dX3_pay_11 : decode cX3_pay 11 = .ok (.iconst 0, 1) := by decide +kernel
theorem dX3_pay_12 : decode cX3_pay 12 = .ok (.istore_n 2, 1) := by decide +kernel
theorem dX3_pay_13 : decode cX3_pay 13 = .ok (.iload_n 2, 1) := by decide +kernel
theorem dX3_pay_14 : decode cX3_pay 14 = .ok (.aload_n 0, 1) := by decide +kernel
theorem dX3_pay_15 : decode cX3_pay 15 = .ok (.getfield 9, 3) := by decide +kernel
theorem dX3_pay_18 : decode cX3_pay 18 = .ok (.arraylength, 1) := by decide +kernel
theorem dX3_pay_19 : decode cX3_pay 19 = .ok (.if_icmp .ge 23, 3) := by decide +kernel
theorem dX3_pay_22 : decode cX3_pay 22 = .ok (.aload_n 0, 1) := by decide +kernel
theorem dX3_pay_23 : decode cX3_pay 23 = .ok (.getfield 9, 3) := by decide +kernel
theorem dX3_pay_26 : decode cX3_pay 26 = .ok (.iload_n 2, 1) := by decide +kernel
theorem dX3_pay_27 : decode cX3_pay 27 = .ok (.dup2, 1) := by decide +kernel
theorem dX3_pay_28 : decode cX3_pay 28 = .ok (.iaload, 1) := by decide +kernel
theorem dX3_pay_29 : decode cX3_pay 29 = .ok (.aload_n 1, 1) := by decide +kernel
theorem dX3_pay_30 : decode cX3_pay 30 = .ok (.iload_n 2, 1) := by decide +kernel
theorem dX3_pay_31 : decode cX3_pay 31 = .ok (.invokevirtual 28, 3) := by decide +kernel
theorem dX3_pay_34 : decode cX3_pay 34 = .ok (.iadd, 1) := by decide +kernel
theorem dX3_pay_35 : decode cX3_pay 35 = .ok (.iastore, 1) := by decide +kernel
theorem dX3_pay_36 : decode cX3_pay 36 = .ok (.iinc 2 1, 3) := by decide +kernel
theorem dX3_pay_39 : decode cX3_pay 39 = .ok (.goto (-26), 3) := by decide +kernel
theorem dX3_pay_42 : decode cX3_pay 42 = .ok (.return_, 1) := by decide +kernel
theorem dX3_paidTo_0 : decode cX3_paidTo 0 = .ok (.iload_n 1, 1) := by decide +kernel
theorem dX3_paidTo_1 : decode cX3_paidTo 1 = .ok (.ifCond .lt 21, 3) := by decide +kernel
theorem dX3_paidTo_4 : decode cX3_paidTo 4 = .ok (.iload_n 1, 1) := by decide +kernel
theorem dX3_paidTo_5 : decode cX3_paidTo 5 = .ok (.aload_n 0, 1) := by decide +kernel
theorem dX3_paidTo_6 : decode cX3_paidTo 6 = .ok (.getfield 9, 3) := by decide +kernel
theorem dX3_paidTo_9 : decode cX3_paidTo 9 = .ok (.arraylength, 1) := by decide +kernel
theorem dX3_paidTo_10 : decode cX3_paidTo 10 = .ok (.if_icmp .ge 12, 3) := by decide +kernel
theorem dX3_paidTo_13 : decode cX3_paidTo 13 = .ok (.aload_n 0, 1) := by decide +kernel
theorem dX3_paidTo_14 : decode cX3_paidTo 14 = .ok (.getfield 9, 3) := by decide +kernel
theorem dX3_paidTo_17 : decode cX3_paidTo 17 = .ok (.iload_n 1, 1) := by decide +kernel
theorem dX3_paidTo_18 : decode cX3_paidTo 18 = .ok (.iaload, 1) := by decide +kernel
theorem dX3_paidTo_19 : decode cX3_paidTo 19 = .ok (.goto 4, 3) := by decide +kernel
theorem dX3_paidTo_22 : decode cX3_paidTo 22 = .ok (.iconst 0, 1) := by decide +kernel
theorem dX3_paidTo_23 : decode cX3_paidTo 23 = .ok (.ireturn, 1) := by decide +kernel
theorem dX3_foundInLogFor_0 : decode cX3_foundInLogFor 0 = .ok (.iconst 0, 1) := by decide +kernel
theorem dX3_foundInLogFor_1 : decode cX3_foundInLogFor 1 = .ok (.istore_n 2, 1) := by decide +kernel
theorem dX3_foundInLogFor_2 : decode cX3_foundInLogFor 2 = .ok (.iconst 0, 1) := by decide +kernel
theorem dX3_foundInLogFor_3 : decode cX3_foundInLogFor 3 = .ok (.istore_n 3, 1) := by decide +kernel
theorem dX3_foundInLogFor_4 : decode cX3_foundInLogFor 4 = .ok (.iload_n 3, 1) := by decide +kernel
theorem dX3_foundInLogFor_5 : decode cX3_foundInLogFor 5 = .ok (.aload_n 0, 1) := by decide +kernel
theorem dX3_foundInLogFor_6 : decode cX3_foundInLogFor 6 = .ok (.getfield 18, 3) := by decide +kernel
theorem dX3_foundInLogFor_9 : decode cX3_foundInLogFor 9 = .ok (.invokeinterface 34 1, 5) := by decide +kernel
theorem dX3_foundInLogFor_14 : decode cX3_foundInLogFor 14 = .ok (.if_icmp .ge 29, 3) := by decide +kernel
theorem dX3_foundInLogFor_17 : decode cX3_foundInLogFor 17 = .ok (.iload_n 2, 1) := by decide +kernel
theorem dX3_foundInLogFor_18 : decode cX3_foundInLogFor 18 = .ok (.aload_n 0, 1) := by decide +kernel
theorem dX3_foundInLogFor_19 : decode cX3_foundInLogFor 19 = .ok (.getfield 18, 3) := by decide +kernel
theorem dX3_foundInLogFor_22 : decode cX3_foundInLogFor 22 = .ok (.iload_n 3, 1) := by decide +kernel
theorem dX3_foundInLogFor_23 : decode cX3_foundInLogFor 23 = .ok (.invokeinterface 38 2, 5) := by decide +kernel
theorem dX3_foundInLogFor_28 : decode cX3_foundInLogFor 28 = .ok (.checkcast 29, 3) := by decide +kernel
theorem dX3_foundInLogFor_31 : decode cX3_foundInLogFor 31 = .ok (.iload_n 1, 1) := by decide +kernel
theorem dX3_foundInLogFor_32 : decode cX3_foundInLogFor 32 = .ok (.invokevirtual 28, 3) := by decide +kernel
theorem dX3_foundInLogFor_35 : decode cX3_foundInLogFor 35 = .ok (.iadd, 1) := by decide +kernel
theorem dX3_foundInLogFor_36 : decode cX3_foundInLogFor 36 = .ok (.istore_n 2, 1) := by decide +kernel
theorem dX3_foundInLogFor_37 : decode cX3_foundInLogFor 37 = .ok (.iinc 3 1, 3) := by decide +kernel
theorem dX3_foundInLogFor_40 : decode cX3_foundInLogFor 40 = .ok (.goto (-36), 3) := by decide +kernel
theorem dX3_foundInLogFor_43 : decode cX3_foundInLogFor 43 = .ok (.iload_n 2, 1) := by decide +kernel
theorem dX3_foundInLogFor_44 : decode cX3_foundInLogFor 44 = .ok (.ireturn, 1) := by decide +kernel
theorem dX4_init_0 : decode cX4_init 0 = .ok (.aload_n 0, 1) := by decide +kernel
theorem dX4_init_1 : decode cX4_init 1 = .ok (.invokespecial 3, 3) := by decide +kernel
theorem dX4_init_4 : decode cX4_init 4 = .ok (.aload_n 0, 1) := by decide +kernel
theorem dX4_init_5 : decode cX4_init 5 = .ok (.sipush 3024, 3) := by decide +kernel
theorem dX4_init_8 : decode cX4_init 8 = .ok (.newarray .long, 2) := by decide +kernel
theorem dX4_init_10 : decode cX4_init 10 = .ok (.putfield 11, 3) := by decide +kernel
theorem dX4_init_13 : decode cX4_init 13 = .ok (.return_, 1) := by decide +kernel
theorem dX4_put_0 : decode cX4_put 0 = .ok (.iload 4, 2) := by decide +kernel
theorem dX4_put_2 : decode cX4_put 2 = .ok (.i2l, 1) := by decide +kernel
theorem dX4_put_3 : decode cX4_put 3 = .ok (.ldc2_w 15, 3) := by decide +kernel
theorem dX4_put_6 : decode cX4_put 6 = .ok (.lmul, 1) := by decide +kernel
theorem dX4_put_7 : decode cX4_put 7 = .ok (.lstore 5, 2) := by decide +kernel
theorem dX4_put_9 : decode cX4_put 9 = .ok (.iload_n 2, 1) := by decide +kernel
theorem dX4_put_10 : decode cX4_put 10 = .ok (.bipush 16, 2) := by decide +kernel
theorem dX4_put_12 : decode cX4_put 12 = .ok (.idiv, 1) := by decide +kernel
theorem dX4_put_13 : decode cX4_put 13 = .ok (.istore 7, 2) := by decide +kernel
theorem dX4_put_15 : decode cX4_put 15 = .ok (.iload 7, 2) := by decide +kernel
theorem dX4_put_17 : decode cX4_put 17 = .ok (.iload_n 3, 1) := by decide +kernel
theorem dX4_put_18 : decode cX4_put 18 = .ok (.bipush 16, 2) := by decide +kernel
theorem dX4_put_20 : decode cX4_put 20 = .ok (.idiv, 1) := by decide +kernel
theorem dX4_put_21 : decode cX4_put 21 = .ok (.if_icmp .gt 89, 3) := by decide +kernel
theorem dX4_put_24 : decode cX4_put 24 = .ok (.iload_n 1, 1) := by decide +kernel
theorem dX4_put_25 : decode cX4_put 25 = .ok (.bipush 63, 2) := by decide +kernel
theorem dX4_put_27 : decode cX4_put 27 = .ok (.imul, 1) := by decide +kernel
theorem dX4_put_28 : decode cX4_put 28 = .ok (.iload 7, 2) := by decide +kernel
theorem dX4_put_30 : decode cX4_put 30 = .ok (.iadd, 1) := by decide +kernel
theorem dX4_put_31 : decode cX4_put 31 = .ok (.istore 8, 2) := by decide +kernel
theorem dX4_put_33 : decode cX4_put 33 = .ok (.iload 8, 2) := by decide +kernel
theorem dX4_put_35 : decode cX4_put 35 = .ok (.ifCond .lt 69, 3) := by decide +kernel
theorem dX4_put_38 : decode cX4_put 38 = .ok (.iload 8, 2) := by decide +kernel
theorem dX4_put_40 : decode cX4_put 40 = .ok (.aload_n 0, 1) := by decide +kernel
theorem dX4_put_41 : decode cX4_put 41 = .ok (.getfield 11, 3) := by decide +kernel
theorem dX4_put_44 : decode cX4_put 44 = .ok (.arraylength, 1) := by decide +kernel
theorem dX4_put_45 : decode cX4_put 45 = .ok (.if_icmp .ge 59, 3) := by decide +kernel
theorem dX4_put_48 : decode cX4_put 48 = .ok (.iload 7, 2) := by decide +kernel
theorem dX4_put_50 : decode cX4_put 50 = .ok (.bipush 16, 2) := by decide +kernel
theorem dX4_put_52 : decode cX4_put 52 = .ok (.imul, 1) := by decide +kernel
theorem dX4_put_53 : decode cX4_put 53 = .ok (.istore 9, 2) := by decide +kernel
theorem dX4_put_55 : decode cX4_put 55 = .ok (.iload_n 2, 1) := by decide +kernel
theorem dX4_put_56 : decode cX4_put 56 = .ok (.iload 9, 2) := by decide +kernel
theorem dX4_put_58 : decode cX4_put 58 = .ok (.isub, 1) := by decide +kernel
theorem dX4_put_59 : decode cX4_put 59 = .ok (.iconst 0, 1) := by decide +kernel
theorem dX4_put_60 : decode cX4_put 60 = .ok (.invokestatic 17, 3) := by decide +kernel
theorem dX4_put_63 : decode cX4_put 63 = .ok (.iload_n 3, 1) := by decide +kernel
theorem dX4_put_64 : decode cX4_put 64 = .ok (.iload 9, 2) := by decide +kernel
theorem dX4_put_66 : decode cX4_put 66 = .ok (.isub, 1) := by decide +kernel
theorem dX4_put_67 : decode cX4_put 67 = .ok (.bipush 15, 2) := by decide +kernel
theorem dX4_put_69 : decode cX4_put 69 = .ok (.invokestatic 23, 3) := by decide +kernel
theorem dX4_put_72 : decode cX4_put 72 = .ok (.invokestatic 26, 3) := by decide +kernel
theorem dX4_put_75 : decode cX4_put 75 = .ok (.lstore 10, 2) := by decide +kernel
theorem dX4_put_77 : decode cX4_put 77 = .ok (.aload_n 0, 1) := by decide +kernel
theorem dX4_put_78 : decode cX4_put 78 = .ok (.getfield 11, 3) := by decide +kernel
theorem dX4_put_81 : decode cX4_put 81 = .ok (.iload 8, 2) := by decide +kernel
theorem dX4_put_83 : decode cX4_put 83 = .ok (.aload_n 0, 1) := by decide +kernel
theorem dX4_put_84 : decode cX4_put 84 = .ok (.getfield 11, 3) := by decide +kernel
theorem dX4_put_87 : decode cX4_put 87 = .ok (.iload 8, 2) := by decide +kernel
theorem dX4_put_89 : decode cX4_put 89 = .ok (.laload, 1) := by decide +kernel
theorem dX4_put_90 : decode cX4_put 90 = .ok (.lload 10, 2) := by decide +kernel
theorem dX4_put_92 : decode cX4_put 92 = .ok (.ldc2_w 30, 3) := by decide +kernel
theorem dX4_put_95 : decode cX4_put 95 = .ok (.lxor, 1) := by decide +kernel
theorem dX4_put_96 : decode cX4_put 96 = .ok (.land, 1) := by decide +kernel
theorem dX4_put_97 : decode cX4_put 97 = .ok (.lload 5, 2) := by decide +kernel
theorem dX4_put_99 : decode cX4_put 99 = .ok (.lload 10, 2) := by decide +kernel
theorem dX4_put_101 : decode cX4_put 101 = .ok (.land, 1) := by decide +kernel
theorem dX4_put_102 : decode cX4_put 102 = .ok (.lor, 1) := by decide +kernel
theorem dX4_put_103 : decode cX4_put 103 = .ok (.lastore, 1) := by decide +kernel
theorem dX4_put_104 : decode cX4_put 104 = .ok (.iinc 7 1, 3) := by decide +kernel
theorem dX4_put_107 : decode cX4_put 107 = .ok (.goto (-92), 3) := by decide +kernel
theorem dX4_put_110 : decode cX4_put 110 = .ok (.return_, 1) := by decide +kernel
theorem dX4_at_0 : decode cX4_at 0 = .ok (.iload_n 1, 1) := by decide +kernel
theorem dX4_at_1 : decode cX4_at 1 = .ok (.bipush 63, 2) := by decide +kernel
theorem dX4_at_3 : decode cX4_at 3 = .ok (.imul, 1) := by decide +kernel
theorem dX4_at_4 : decode cX4_at 4 = .ok (.iload_n 2, 1) := by decide +kernel
theorem dX4_at_5 : decode cX4_at 5 = .ok (.bipush 16, 2) := by decide +kernel
theorem dX4_at_7 : decode cX4_at 7 = .ok (.idiv, 1) := by decide +kernel
theorem dX4_at_8 : decode cX4_at 8 = .ok (.iadd, 1) := by decide +kernel
theorem dX4_at_9 : decode cX4_at 9 = .ok (.istore_n 3, 1) := by decide +kernel
theorem dX4_at_10 : decode cX4_at 10 = .ok (.iload_n 3, 1) := by decide +kernel
theorem dX4_at_11 : decode cX4_at 11 = .ok (.ifCond .lt 12, 3) := by decide +kernel
theorem dX4_at_14 : decode cX4_at 14 = .ok (.iload_n 3, 1) := by decide +kernel
theorem dX4_at_15 : decode cX4_at 15 = .ok (.aload_n 0, 1) := by decide +kernel
theorem dX4_at_16 : decode cX4_at 16 = .ok (.getfield 11, 3) := by decide +kernel
theorem dX4_at_19 : decode cX4_at 19 = .ok (.arraylength, 1) := by decide +kernel
theorem dX4_at_20 : decode cX4_at 20 = .ok (.if_icmp .lt 5, 3) := by decide +kernel
theorem dX4_at_23 : decode cX4_at 23 = .ok (.iconst 0, 1) := by decide +kernel
theorem dX4_at_24 : decode cX4_at 24 = .ok (.ireturn, 1) := by decide +kernel
theorem dX4_at_25 : decode cX4_at 25 = .ok (.aload_n 0, 1) := by decide +kernel
theorem dX4_at_26 : decode cX4_at 26 = .ok (.getfield 11, 3) := by decide +kernel
theorem dX4_at_29 : decode cX4_at 29 = .ok (.iload_n 3, 1) := by decide +kernel
theorem dX4_at_30 : decode cX4_at 30 = .ok (.laload, 1) := by decide +kernel
theorem dX4_at_31 : decode cX4_at 31 = .ok (.iconst 4, 1) := by decide +kernel
theorem dX4_at_32 : decode cX4_at 32 = .ok (.iload_n 2, 1) := by decide +kernel
theorem dX4_at_33 : decode cX4_at 33 = .ok (.bipush 16, 2) := by decide +kernel
theorem dX4_at_35 : decode cX4_at 35 = .ok (.irem, 1) := by decide +kernel
theorem dX4_at_36 : decode cX4_at 36 = .ok (.imul, 1) := by decide +kernel
theorem dX4_at_37 : decode cX4_at 37 = .ok (.lushr, 1) := by decide +kernel
theorem dX4_at_38 : decode cX4_at 38 = .ok (.l2i, 1) := by decide +kernel
theorem dX4_at_39 : decode cX4_at 39 = .ok (.bipush 15, 2) := by decide +kernel
theorem dX4_at_41 : decode cX4_at 41 = .ok (.iand, 1) := by decide +kernel
theorem dX4_at_42 : decode cX4_at 42 = .ok (.ireturn, 1) := by decide +kernel
theorem dX4_maskOf_0 : decode cX4_maskOf 0 = .ok (.ldc2_w 30, 3) := by decide +kernel
theorem dX4_maskOf_3 : decode cX4_maskOf 3 = .ok (.iconst 4, 1) := by decide +kernel
theorem dX4_maskOf_4 : decode cX4_maskOf 4 = .ok (.iload_n 0, 1) := by decide +kernel
theorem dX4_maskOf_5 : decode cX4_maskOf 5 = .ok (.imul, 1) := by decide +kernel
theorem dX4_maskOf_6 : decode cX4_maskOf 6 = .ok (.lshl, 1) := by decide +kernel
theorem dX4_maskOf_7 : decode cX4_maskOf 7 = .ok (.lstore_n 2, 1) := by decide +kernel
theorem dX4_maskOf_8 : decode cX4_maskOf 8 = .ok (.ldc2_w 30, 3) := by decide +kernel
theorem dX4_maskOf_11 : decode cX4_maskOf 11 = .ok (.iconst 4, 1) := by decide +kernel
theorem dX4_maskOf_12 : decode cX4_maskOf 12 = .ok (.bipush 15, 2) := by decide +kernel
theorem dX4_maskOf_14 : decode cX4_maskOf 14 = .ok (.iload_n 1, 1) := by decide +kernel
theorem dX4_maskOf_15 : decode cX4_maskOf 15 = .ok (.isub, 1) := by decide +kernel
theorem dX4_maskOf_16 : decode cX4_maskOf 16 = .ok (.imul, 1) := by decide +kernel
theorem dX4_maskOf_17 : decode cX4_maskOf 17 = .ok (.lushr, 1) := by decide +kernel
theorem dX4_maskOf_18 : decode cX4_maskOf 18 = .ok (.lstore 4, 2) := by decide +kernel
theorem dX4_maskOf_20 : decode cX4_maskOf 20 = .ok (.lload_n 2, 1) := by decide +kernel
theorem dX4_maskOf_21 : decode cX4_maskOf 21 = .ok (.lload 4, 2) := by decide +kernel
theorem dX4_maskOf_23 : decode cX4_maskOf 23 = .ok (.land, 1) := by decide +kernel
theorem dX4_maskOf_24 : decode cX4_maskOf 24 = .ok (.lreturn, 1) := by decide +kernel
theorem dX5_init_0 : decode cX5_init 0 = .ok (.aload_n 0, 1) := by decide +kernel
theorem dX5_init_1 : decode cX5_init 1 = .ok (.invokespecial 1, 3) := by decide +kernel
theorem dX5_init_4 : decode cX5_init 4 = .ok (.aload_n 0, 1) := by decide +kernel
theorem dX5_init_5 : decode cX5_init 5 = .ok (.new 7, 3) := by decide +kernel
theorem dX5_init_8 : decode cX5_init 8 = .ok (.dup, 1) := by decide +kernel
theorem dX5_init_9 : decode cX5_init 9 = .ok (.invokespecial 9, 3) := by decide +kernel
theorem dX5_init_12 : decode cX5_init 12 = .ok (.putfield 10, 3) := by decide +kernel
theorem dX5_init_15 : decode cX5_init 15 = .ok (.aload_n 0, 1) := by decide +kernel
theorem dX5_init_16 : decode cX5_init 16 = .ok (.new 16, 3) := by decide +kernel
theorem dX5_init_19 : decode cX5_init 19 = .ok (.dup, 1) := by decide +kernel
theorem dX5_init_20 : decode cX5_init 20 = .ok (.invokespecial 18, 3) := by decide +kernel
theorem dX5_init_23 : decode cX5_init 23 = .ok (.putfield 19, 3) := by decide +kernel
theorem dX5_init_26 : decode cX5_init 26 = .ok (.aload_n 0, 1) := by decide +kernel
theorem dX5_init_27 : decode cX5_init 27 = .ok (.new 23, 3) := by decide +kernel
theorem dX5_init_30 : decode cX5_init 30 = .ok (.dup, 1) := by decide +kernel
theorem dX5_init_31 : decode cX5_init 31 = .ok (.invokespecial 25, 3) := by decide +kernel
theorem dX5_init_34 : decode cX5_init 34 = .ok (.putfield 26, 3) := by decide +kernel
theorem dX5_init_37 : decode cX5_init 37 = .ok (.aload_n 0, 1) := by decide +kernel
theorem dX5_init_38 : decode cX5_init 38 = .ok (.new 23, 3) := by decide +kernel
theorem dX5_init_41 : decode cX5_init 41 = .ok (.dup, 1) := by decide +kernel
theorem dX5_init_42 : decode cX5_init 42 = .ok (.invokespecial 25, 3) := by decide +kernel
theorem dX5_init_45 : decode cX5_init 45 = .ok (.putfield 30, 3) := by decide +kernel
theorem dX5_init_48 : decode cX5_init 48 = .ok (.aload_n 0, 1) := by decide +kernel
theorem dX5_init_49 : decode cX5_init 49 = .ok (.iconst 0, 1) := by decide +kernel
theorem dX5_init_50 : decode cX5_init 50 = .ok (.putfield 33, 3) := by decide +kernel
theorem dX5_init_53 : decode cX5_init 53 = .ok (.aload_n 0, 1) := by decide +kernel
theorem dX5_init_54 : decode cX5_init 54 = .ok (.sipush 200, 3) := by decide +kernel
theorem dX5_init_57 : decode cX5_init 57 = .ok (.putfield 37, 3) := by decide +kernel
theorem dX5_init_60 : decode cX5_init 60 = .ok (.return_, 1) := by decide +kernel
theorem dX5_boat_0 : decode cX5_boat 0 = .ok (.iload_n 1, 1) := by decide +kernel
theorem dX5_boat_1 : decode cX5_boat 1 = .ok (.invokestatic 40, 3) := by decide +kernel
theorem dX5_boat_4 : decode cX5_boat 4 = .ok (.iload_n 2, 1) := by decide +kernel
theorem dX5_boat_5 : decode cX5_boat 5 = .ok (.invokestatic 44, 3) := by decide +kernel
theorem dX5_boat_8 : decode cX5_boat 8 = .ok (.iload_n 3, 1) := by decide +kernel
theorem dX5_boat_9 : decode cX5_boat 9 = .ok (.iconst 1, 1) := by decide +kernel
theorem dX5_boat_10 : decode cX5_boat 10 = .ok (.iconst 3, 1) := by decide +kernel
theorem dX5_boat_11 : decode cX5_boat 11 = .ok (.invokestatic 47, 3) := by decide +kernel
theorem dX5_boat_14 : decode cX5_boat 14 = .ok (.iload 4, 2) := by decide +kernel
theorem dX5_boat_16 : decode cX5_boat 16 = .ok (.iconst 1, 1) := by decide +kernel
theorem dX5_boat_17 : decode cX5_boat 17 = .ok (.bipush 100, 2) := by decide +kernel
theorem dX5_boat_19 : decode cX5_boat 19 = .ok (.invokestatic 47, 3) := by decide +kernel
theorem dX5_boat_22 : decode cX5_boat 22 = .ok (.iload 5, 2) := by decide +kernel
theorem dX5_boat_24 : decode cX5_boat 24 = .ok (.iconst 0, 1) := by decide +kernel
theorem dX5_boat_25 : decode cX5_boat 25 = .ok (.bipush 9, 2) := by decide +kernel
theorem dX5_boat_27 : decode cX5_boat 27 = .ok (.invokestatic 47, 3) := by decide +kernel
theorem dX5_boat_30 : decode cX5_boat 30 = .ok (.aload_n 0, 1) := by decide +kernel
theorem dX5_boat_31 : decode cX5_boat 31 = .ok (.getfield 26, 3) := by decide +kernel
theorem dX5_boat_34 : decode cX5_boat 34 = .ok (.invokeinterface 51 1, 5) := by decide +kernel
theorem dX5_boat_39 : decode cX5_boat 39 = .ok (.istore 6, 2) := by decide +kernel
theorem dX5_boat_41 : decode cX5_boat 41 = .ok (.iload 6, 2) := by decide +kernel
theorem dX5_boat_43 : decode cX5_boat 43 = .ok (.bipush 6, 2) := by decide +kernel
theorem dX5_boat_45 : decode cX5_boat 45 = .ok (.if_icmp .lt 13, 3) := by decide +kernel
theorem dX5_boat_48 : decode cX5_boat 48 = .ok (.new 57, 3) := by decide +kernel
theorem dX5_boat_51 : decode cX5_boat 51 = .ok (.dup, 1) := by decide +kernel
theorem dX5_boat_52 : decode cX5_boat 52 = .ok (.ldc 59, 2) := by decide +kernel
theorem dX5_boat_54 : decode cX5_boat 54 = .ok (.invokespecial 61, 3) := by decide +kernel
theorem dX5_boat_57 : decode cX5_boat 57 = .ok (.athrow, 1) := by decide +kernel
theorem dX5_boat_58 : decode cX5_boat 58 = .ok (.aload_n 0, 1) := by decide +kernel
theorem dX5_boat_59 : decode cX5_boat 59 = .ok (.getfield 26, 3) := by decide +kernel
theorem dX5_boat_62 : decode cX5_boat 62 = .ok (.new 64, 3) := by decide +kernel
theorem dX5_boat_65 : decode cX5_boat 65 = .ok (.dup, 1) := by decide +kernel
theorem dX5_boat_66 : decode cX5_boat 66 = .ok (.iload 6, 2) := by decide +kernel
theorem dX5_boat_68 : decode cX5_boat 68 = .ok (.iload_n 1, 1) := by decide +kernel
theorem dX5_boat_69 : decode cX5_boat 69 = .ok (.iload_n 2, 1) := by decide +kernel
theorem dX5_boat_70 : decode cX5_boat 70 = .ok (.iload_n 3, 1) := by decide +kernel
theorem dX5_boat_71 : decode cX5_boat 71 = .ok (.iload 4, 2) := by decide +kernel
theorem dX5_boat_73 : decode cX5_boat 73 = .ok (.iload 5, 2) := by decide +kernel
theorem dX5_boat_75 : decode cX5_boat 75 = .ok (.invokespecial 66, 3) := by decide +kernel
theorem dX5_boat_78 : decode cX5_boat 78 = .ok (.invokeinterface 69 2, 5) := by decide +kernel
theorem dX5_boat_83 : decode cX5_boat 83 = .ok (.pop, 1) := by decide +kernel
theorem dX5_boat_84 : decode cX5_boat 84 = .ok (.iload 6, 2) := by decide +kernel
theorem dX5_boat_86 : decode cX5_boat 86 = .ok (.ireturn, 1) := by decide +kernel
theorem dX5_lend_0 : decode cX5_lend 0 = .ok (.aload_n 0, 1) := by decide +kernel
theorem dX5_lend_1 : decode cX5_lend 1 = .ok (.iload_n 1, 1) := by decide +kernel
theorem dX5_lend_2 : decode cX5_lend 2 = .ok (.invokevirtual 73, 3) := by decide +kernel
theorem dX5_lend_5 : decode cX5_lend 5 = .ok (.astore_n 3, 1) := by decide +kernel
theorem dX5_lend_6 : decode cX5_lend 6 = .ok (.iload_n 2, 1) := by decide +kernel
theorem dX5_lend_7 : decode cX5_lend 7 = .ok (.invokestatic 40, 3) := by decide +kernel
theorem dX5_lend_10 : decode cX5_lend 10 = .ok (.aload_n 3, 1) := by decide +kernel
theorem dX5_lend_11 : decode cX5_lend 11 = .ok (.getfield 77, 3) := by decide +kernel
theorem dX5_lend_14 : decode cX5_lend 14 = .ok (.istore 4, 2) := by decide +kernel
theorem dX5_lend_16 : decode cX5_lend 16 = .ok (.aload_n 3, 1) := by decide +kernel
theorem dX5_lend_17 : decode cX5_lend 17 = .ok (.iload_n 2, 1) := by decide +kernel
theorem dX5_lend_18 : decode cX5_lend 18 = .ok (.putfield 77, 3) := by decide +kernel
theorem dX5_lend_21 : decode cX5_lend 21 = .ok (.iload 4, 2) := by decide +kernel
theorem dX5_lend_23 : decode cX5_lend 23 = .ok (.ireturn, 1) := by decide +kernel
theorem dX5_foretell_0 : decode cX5_foretell 0 = .ok (.iload_n 1, 1) := by decide +kernel
theorem dX5_foretell_1 : decode cX5_foretell 1 = .ok (.invokestatic 44, 3) := by decide +kernel
theorem dX5_foretell_4 : decode cX5_foretell 4 = .ok (.iload_n 2, 1) := by decide +kernel
theorem dX5_foretell_5 : decode cX5_foretell 5 = .ok (.invokestatic 44, 3) := by decide +kernel
theorem dX5_foretell_8 : decode cX5_foretell 8 = .ok (.iload_n 2, 1) := by decide +kernel
theorem dX5_foretell_9 : decode cX5_foretell 9 = .ok (.invokestatic 80, 3) := by decide +kernel
theorem dX5_foretell_12 : decode cX5_foretell 12 = .ok (.iload_n 1, 1) := by decide +kernel
theorem dX5_foretell_13 : decode cX5_foretell 13 = .ok (.invokestatic 80, 3) := by decide +kernel
theorem dX5_foretell_16 : decode cX5_foretell 16 = .ok (.isub, 1) := by decide +kernel
theorem dX5_foretell_17 : decode cX5_foretell 17 = .ok (.iconst 1, 1) := by decide +kernel
theorem dX5_foretell_18 : decode cX5_foretell 18 = .ok (.iadd, 1) := by decide +kernel
theorem dX5_foretell_19 : decode cX5_foretell 19 = .ok (.istore 6, 2) := by decide +kernel
theorem dX5_foretell_21 : decode cX5_foretell 21 = .ok (.iload_n 2, 1) := by decide +kernel
theorem dX5_foretell_22 : decode cX5_foretell 22 = .ok (.invokestatic 84, 3) := by decide +kernel
theorem dX5_foretell_25 : decode cX5_foretell 25 = .ok (.iload_n 1, 1) := by decide +kernel
theorem dX5_foretell_26 : decode cX5_foretell 26 = .ok (.invokestatic 84, 3) := by decide +kernel
theorem dX5_foretell_29 : decode cX5_foretell 29 = .ok (.isub, 1) := by decide +kernel
theorem dX5_foretell_30 : decode cX5_foretell 30 = .ok (.iconst 1, 1) := by decide +kernel
theorem dX5_foretell_31 : decode cX5_foretell 31 = .ok (.iadd, 1) := by decide +kernel
theorem dX5_foretell_32 : decode cX5_foretell 32 = .ok (.istore 7, 2) := by decide +kernel
theorem dX5_foretell_34 : decode cX5_foretell 34 = .ok (.iload 6, 2) := by decide +kernel
theorem dX5_foretell_36 : decode cX5_foretell 36 = .ok (.iconst 1, 1) := by decide +kernel
theorem dX5_foretell_37 : decode cX5_foretell 37 = .ok (.if_icmp .lt 9, 3) := by decide +kernel
theorem dX5_foretell_40 : decode cX5_foretell 40 = .ok (.iload 7, 2) := by decide +kernel
theorem dX5_foretell_42 : decode cX5_foretell 42 = .ok (.iconst 1, 1) := by decide +kernel
theorem dX5_foretell_43 : decode cX5_foretell 43 = .ok (.if_icmp .ge 13, 3) := by decide +kernel
theorem dX5_foretell_46 : decode cX5_foretell 46 = .ok (.new 87, 3) := by decide +kernel
theorem dX5_foretell_49 : decode cX5_foretell 49 = .ok (.dup, 1) := by decide +kernel
theorem dX5_foretell_50 : decode cX5_foretell 50 = .ok (.ldc 89, 2) := by decide +kernel
theorem dX5_foretell_52 : decode cX5_foretell 52 = .ok (.invokespecial 91, 3) := by decide +kernel
theorem dX5_foretell_55 : decode cX5_foretell 55 = .ok (.athrow, 1) := by decide +kernel
theorem dX5_foretell_56 : decode cX5_foretell 56 = .ok (.iload_n 3, 1) := by decide +kernel
theorem dX5_foretell_57 : decode cX5_foretell 57 = .ok (.aload_n 0, 1) := by decide +kernel
theorem dX5_foretell_58 : decode cX5_foretell 58 = .ok (.getfield 33, 3) := by decide +kernel
theorem dX5_foretell_61 : decode cX5_foretell 61 = .ok (.sipush 999, 3) := by decide +kernel
theorem dX5_foretell_64 : decode cX5_foretell 64 = .ok (.invokestatic 47, 3) := by decide +kernel
theorem dX5_foretell_67 : decode cX5_foretell 67 = .ok (.iload 4, 2) := by decide +kernel
theorem dX5_foretell_69 : decode cX5_foretell 69 = .ok (.iload_n 3, 1) := by decide +kernel
theorem dX5_foretell_70 : decode cX5_foretell 70 = .ok (.sipush 999, 3) := by decide +kernel
theorem dX5_foretell_73 : decode cX5_foretell 73 = .ok (.invokestatic 47, 3) := by decide +kernel
theorem dX5_foretell_76 : decode cX5_foretell 76 = .ok (.iload 5, 2) := by decide +kernel
theorem dX5_foretell_78 : decode cX5_foretell 78 = .ok (.iconst 0, 1) := by decide +kernel
theorem dX5_foretell_79 : decode cX5_foretell 79 = .ok (.bipush 9, 2) := by decide +kernel
theorem dX5_foretell_81 : decode cX5_foretell 81 = .ok (.invokestatic 47, 3) := by decide +kernel
theorem dX5_foretell_84 : decode cX5_foretell 84 = .ok (.iconst 0, 1) := by decide +kernel
theorem dX5_foretell_85 : decode cX5_foretell 85 = .ok (.istore 8, 2) := by decide +kernel
theorem dX5_foretell_87 : decode cX5_foretell 87 = .ok (.iload 8, 2) := by decide +kernel
theorem dX5_foretell_89 : decode cX5_foretell 89 = .ok (.iload 7, 2) := by decide +kernel
theorem dX5_foretell_91 : decode cX5_foretell 91 = .ok (.if_icmp .ge 47, 3) := by decide +kernel
theorem dX5_foretell_94 : decode cX5_foretell 94 = .ok (.iconst 0, 1) := by decide +kernel
theorem dX5_foretell_95 : decode cX5_foretell 95 = .ok (.istore 9, 2) := by decide +kernel
theorem dX5_foretell_97 : decode cX5_foretell 97 = .ok (.iload 9, 2) := by decide +kernel
theorem dX5_foretell_99 : decode cX5_foretell 99 = .ok (.iload 6, 2) := by decide +kernel
theorem dX5_foretell_101 : decode cX5_foretell 101 = .ok (.if_icmp .ge 31, 3) := by decide +kernel
theorem dX5_foretell_104 : decode cX5_foretell 104 = .ok (.aload_n 0, 1) := by decide +kernel
theorem dX5_foretell_105 : decode cX5_foretell 105 = .ok (.getfield 10, 3) := by decide +kernel
theorem dX5_foretell_108 : decode cX5_foretell 108 = .ok (.iload_n 1, 1) := by decide +kernel
theorem dX5_foretell_109 : decode cX5_foretell 109 = .ok (.iload 8, 2) := by decide +kernel
theorem dX5_foretell_111 : decode cX5_foretell 111 = .ok (.bipush 8, 2) := by decide +kernel
theorem dX5_foretell_113 : decode cX5_foretell 113 = .ok (.imul, 1) := by decide +kernel
theorem dX5_foretell_114 : decode cX5_foretell 114 = .ok (.iadd, 1) := by decide +kernel
theorem dX5_foretell_115 : decode cX5_foretell 115 = .ok (.iload 9, 2) := by decide +kernel
theorem dX5_foretell_117 : decode cX5_foretell 117 = .ok (.iadd, 1) := by decide +kernel
theorem dX5_foretell_118 : decode cX5_foretell 118 = .ok (.iload_n 3, 1) := by decide +kernel
theorem dX5_foretell_119 : decode cX5_foretell 119 = .ok (.iload 4, 2) := by decide +kernel
theorem dX5_foretell_121 : decode cX5_foretell 121 = .ok (.iload 5, 2) := by decide +kernel
theorem dX5_foretell_123 : decode cX5_foretell 123 = .ok (.invokevirtual 92, 3) := by decide +kernel
theorem dX5_foretell_126 : decode cX5_foretell 126 = .ok (.iinc 9 1, 3) := by decide +kernel
theorem dX5_foretell_129 : decode cX5_foretell 129 = .ok (.goto (-32), 3) := by decide +kernel
