theorem dX5_foretell_132 : decode cX5_foretell 132 = .ok (.iinc 8 1, 3) := by decide +kernel
theorem dX5_foretell_135 : decode cX5_foretell 135 = .ok (.goto (-48), 3) := by decide +kernel
theorem dX5_foretell_138 : decode cX5_foretell 138 = .ok (.iload 6, 2) := by decide +kernel
theorem dX5_foretell_140 : decode cX5_foretell 140 = .ok (.iload 7, 2) := by decide +kernel
theorem dX5_foretell_142 : decode cX5_foretell 142 = .ok (.imul, 1) := by decide +kernel
theorem dX5_foretell_143 : decode cX5_foretell 143 = .ok (.ireturn, 1) := by decide +kernel
theorem dX5_call_0 : decode cX5_call 0 = .ok (.iload_n 1, 1) := by decide +kernel
theorem dX5_call_1 : decode cX5_call 1 = .ok (.invokestatic 44, 3) := by decide +kernel
theorem dX5_call_4 : decode cX5_call 4 = .ok (.iload_n 2, 1) := by decide +kernel
theorem dX5_call_5 : decode cX5_call 5 = .ok (.iconst 1, 1) := by decide +kernel
theorem dX5_call_6 : decode cX5_call 6 = .ok (.bipush 50, 2) := by decide +kernel
theorem dX5_call_8 : decode cX5_call 8 = .ok (.invokestatic 47, 3) := by decide +kernel
theorem dX5_call_11 : decode cX5_call 11 = .ok (.iload_n 3, 1) := by decide +kernel
theorem dX5_call_12 : decode cX5_call 12 = .ok (.aload_n 0, 1) := by decide +kernel
theorem dX5_call_13 : decode cX5_call 13 = .ok (.getfield 33, 3) := by decide +kernel
theorem dX5_call_16 : decode cX5_call 16 = .ok (.iconst 1, 1) := by decide +kernel
theorem dX5_call_17 : decode cX5_call 17 = .ok (.iadd, 1) := by decide +kernel
theorem dX5_call_18 : decode cX5_call 18 = .ok (.sipush 999, 3) := by decide +kernel
theorem dX5_call_21 : decode cX5_call 21 = .ok (.invokestatic 47, 3) := by decide +kernel
theorem dX5_call_24 : decode cX5_call 24 = .ok (.aload_n 0, 1) := by decide +kernel
theorem dX5_call_25 : decode cX5_call 25 = .ok (.getfield 30, 3) := by decide +kernel
theorem dX5_call_28 : decode cX5_call 28 = .ok (.invokeinterface 51 1, 5) := by decide +kernel
theorem dX5_call_33 : decode cX5_call 33 = .ok (.istore 4, 2) := by decide +kernel
theorem dX5_call_35 : decode cX5_call 35 = .ok (.iload 4, 2) := by decide +kernel
theorem dX5_call_37 : decode cX5_call 37 = .ok (.bipush 30, 2) := by decide +kernel
theorem dX5_call_39 : decode cX5_call 39 = .ok (.if_icmp .lt 13, 3) := by decide +kernel
theorem dX5_call_42 : decode cX5_call 42 = .ok (.new 57, 3) := by decide +kernel
theorem dX5_call_45 : decode cX5_call 45 = .ok (.dup, 1) := by decide +kernel
theorem dX5_call_46 : decode cX5_call 46 = .ok (.ldc 96, 2) := by decide +kernel
theorem dX5_call_48 : decode cX5_call 48 = .ok (.invokespecial 61, 3) := by decide +kernel
theorem dX5_call_51 : decode cX5_call 51 = .ok (.athrow, 1) := by decide +kernel
theorem dX5_call_52 : decode cX5_call 52 = .ok (.aload_n 0, 1) := by decide +kernel
theorem dX5_call_53 : decode cX5_call 53 = .ok (.getfield 30, 3) := by decide +kernel
theorem dX5_call_56 : decode cX5_call 56 = .ok (.new 98, 3) := by decide +kernel
theorem dX5_call_59 : decode cX5_call 59 = .ok (.dup, 1) := by decide +kernel
theorem dX5_call_60 : decode cX5_call 60 = .ok (.iload 4, 2) := by decide +kernel
theorem dX5_call_62 : decode cX5_call 62 = .ok (.iload_n 1, 1) := by decide +kernel
theorem dX5_call_63 : decode cX5_call 63 = .ok (.iload_n 2, 1) := by decide +kernel
theorem dX5_call_64 : decode cX5_call 64 = .ok (.iload_n 3, 1) := by decide +kernel
theorem dX5_call_65 : decode cX5_call 65 = .ok (.invokespecial 100, 3) := by decide +kernel
theorem dX5_call_68 : decode cX5_call 68 = .ok (.invokeinterface 69 2, 5) := by decide +kernel
theorem dX5_call_73 : decode cX5_call 73 = .ok (.pop, 1) := by decide +kernel
theorem dX5_call_74 : decode cX5_call 74 = .ok (.iload 4, 2) := by decide +kernel
theorem dX5_call_76 : decode cX5_call 76 = .ok (.ireturn, 1) := by decide +kernel
theorem dX5_cap_0 : decode cX5_cap 0 = .ok (.iload_n 1, 1) := by decide +kernel
theorem dX5_cap_1 : decode cX5_cap 1 = .ok (.iconst 0, 1) := by decide +kernel
theorem dX5_cap_2 : decode cX5_cap 2 = .ok (.sipush 1000, 3) := by decide +kernel
theorem dX5_cap_5 : decode cX5_cap 5 = .ok (.invokestatic 47, 3) := by decide +kernel
theorem dX5_cap_8 : decode cX5_cap 8 = .ok (.aload_n 0, 1) := by decide +kernel
theorem dX5_cap_9 : decode cX5_cap 9 = .ok (.getfield 37, 3) := by decide +kernel
theorem dX5_cap_12 : decode cX5_cap 12 = .ok (.istore_n 2, 1) := by decide +kernel
theorem dX5_cap_13 : decode cX5_cap 13 = .ok (.aload_n 0, 1) := by decide +kernel
theorem dX5_cap_14 : decode cX5_cap 14 = .ok (.iload_n 1, 1) := by decide +kernel
theorem dX5_cap_15 : decode cX5_cap 15 = .ok (.putfield 37, 3) := by decide +kernel
theorem dX5_cap_18 : decode cX5_cap 18 = .ok (.iload_n 2, 1) := by decide +kernel
theorem dX5_cap_19 : decode cX5_cap 19 = .ok (.ireturn, 1) := by decide +kernel
theorem dX5_pass_0 : decode cX5_pass 0 = .ok (.iload_n 1, 1) := by decide +kernel
theorem dX5_pass_1 : decode cX5_pass 1 = .ok (.iconst 1, 1) := by decide +kernel
theorem dX5_pass_2 : decode cX5_pass 2 = .ok (.bipush 48, 2) := by decide +kernel
theorem dX5_pass_4 : decode cX5_pass 4 = .ok (.invokestatic 47, 3) := by decide +kernel
theorem dX5_pass_7 : decode cX5_pass 7 = .ok (.aload_n 0, 1) := by decide +kernel
theorem dX5_pass_8 : decode cX5_pass 8 = .ok (.getfield 33, 3) := by decide +kernel
theorem dX5_pass_11 : decode cX5_pass 11 = .ok (.iload_n 1, 1) := by decide +kernel
theorem dX5_pass_12 : decode cX5_pass 12 = .ok (.iadd, 1) := by decide +kernel
theorem dX5_pass_13 : decode cX5_pass 13 = .ok (.sipush 999, 3) := by decide +kernel
theorem dX5_pass_16 : decode cX5_pass 16 = .ok (.if_icmp .le 13, 3) := by decide +kernel
theorem dX5_pass_19 : decode cX5_pass 19 = .ok (.new 57, 3) := by decide +kernel
theorem dX5_pass_22 : decode cX5_pass 22 = .ok (.dup, 1) := by decide +kernel
theorem dX5_pass_23 : decode cX5_pass 23 = .ok (.ldc 102, 2) := by decide +kernel
theorem dX5_pass_25 : decode cX5_pass 25 = .ok (.invokespecial 61, 3) := by decide +kernel
theorem dX5_pass_28 : decode cX5_pass 28 = .ok (.athrow, 1) := by decide +kernel
theorem dX5_pass_29 : decode cX5_pass 29 = .ok (.iconst 0, 1) := by decide +kernel
theorem dX5_pass_30 : decode cX5_pass 30 = .ok (.istore_n 2, 1) := by decide +kernel
theorem dX5_pass_31 : decode cX5_pass 31 = .ok (.iload_n 2, 1) := by decide +kernel
theorem dX5_pass_32 : decode cX5_pass 32 = .ok (.iload_n 1, 1) := by decide +kernel
theorem dX5_pass_33 : decode cX5_pass 33 = .ok (.if_icmp .ge 35, 3) := by decide +kernel
theorem dX5_pass_36 : decode cX5_pass 36 = .ok (.aload_n 0, 1) := by decide +kernel
theorem dX5_pass_37 : decode cX5_pass 37 = .ok (.dup, 1) := by decide +kernel
theorem dX5_pass_38 : decode cX5_pass 38 = .ok (.getfield 33, 3) := by decide +kernel
theorem dX5_pass_41 : decode cX5_pass 41 = .ok (.iconst 1, 1) := by decide +kernel
theorem dX5_pass_42 : decode cX5_pass 42 = .ok (.iadd, 1) := by decide +kernel
theorem dX5_pass_43 : decode cX5_pass 43 = .ok (.putfield 33, 3) := by decide +kernel
theorem dX5_pass_46 : decode cX5_pass 46 = .ok (.aload_n 0, 1) := by decide +kernel
theorem dX5_pass_47 : decode cX5_pass 47 = .ok (.invokevirtual 104, 3) := by decide +kernel
theorem dX5_pass_50 : decode cX5_pass 50 = .ok (.aload_n 0, 1) := by decide +kernel
theorem dX5_pass_51 : decode cX5_pass 51 = .ok (.invokevirtual 107, 3) := by decide +kernel
theorem dX5_pass_54 : decode cX5_pass 54 = .ok (.aload_n 0, 1) := by decide +kernel
theorem dX5_pass_55 : decode cX5_pass 55 = .ok (.invokevirtual 110, 3) := by decide +kernel
theorem dX5_pass_58 : decode cX5_pass 58 = .ok (.aload_n 0, 1) := by decide +kernel
theorem dX5_pass_59 : decode cX5_pass 59 = .ok (.invokevirtual 113, 3) := by decide +kernel
theorem dX5_pass_62 : decode cX5_pass 62 = .ok (.iinc 2 1, 3) := by decide +kernel
theorem dX5_pass_65 : decode cX5_pass 65 = .ok (.goto (-34), 3) := by decide +kernel
theorem dX5_pass_68 : decode cX5_pass 68 = .ok (.aload_n 0, 1) := by decide +kernel
theorem dX5_pass_69 : decode cX5_pass 69 = .ok (.getfield 33, 3) := by decide +kernel
theorem dX5_pass_72 : decode cX5_pass 72 = .ok (.ireturn, 1) := by decide +kernel
theorem dX5_ofBoat_0 : decode cX5_ofBoat 0 = .ok (.aload_n 0, 1) := by decide +kernel
theorem dX5_ofBoat_1 : decode cX5_ofBoat 1 = .ok (.iload_n 1, 1) := by decide +kernel
theorem dX5_ofBoat_2 : decode cX5_ofBoat 2 = .ok (.invokevirtual 73, 3) := by decide +kernel
theorem dX5_ofBoat_5 : decode cX5_ofBoat 5 = .ok (.astore_n 3, 1) := by decide +kernel
theorem dX5_ofBoat_6 : decode cX5_ofBoat 6 = .ok (.iload_n 2, 1) := by decide +kernel
theorem dX5_ofBoat_7 : decode cX5_ofBoat 7 = .ok (.iconst 0, 1) := by decide +kernel
theorem dX5_ofBoat_8 : decode cX5_ofBoat 8 = .ok (.iconst 3, 1) := by decide +kernel
theorem dX5_ofBoat_9 : decode cX5_ofBoat 9 = .ok (.invokestatic 47, 3) := by decide +kernel
theorem dX5_ofBoat_12 : decode cX5_ofBoat 12 = .ok (.iload_n 2, 1) := by decide +kernel
theorem dX5_ofBoat_13 : decode cX5_ofBoat 13 = .ok (.tableswitch 56 0 2 #[27, 32, 51], 27) := by decide +kernel
theorem dX5_ofBoat_40 : decode cX5_ofBoat 40 = .ok (.aload_n 3, 1) := by decide +kernel
theorem dX5_ofBoat_41 : decode cX5_ofBoat 41 = .ok (.getfield 120, 3) := by decide +kernel
theorem dX5_ofBoat_44 : decode cX5_ofBoat 44 = .ok (.ireturn, 1) := by decide +kernel
theorem dX5_ofBoat_45 : decode cX5_ofBoat 45 = .ok (.aload_n 3, 1) := by decide +kernel
theorem dX5_ofBoat_46 : decode cX5_ofBoat 46 = .ok (.getfield 123, 3) := by decide +kernel
theorem dX5_ofBoat_49 : decode cX5_ofBoat 49 = .ok (.ifnonnull 7, 3) := by decide +kernel
theorem dX5_ofBoat_52 : decode cX5_ofBoat 52 = .ok (.iconst (-1), 1) := by decide +kernel
theorem dX5_ofBoat_53 : decode cX5_ofBoat 53 = .ok (.goto 10, 3) := by decide +kernel
theorem dX5_ofBoat_56 : decode cX5_ofBoat 56 = .ok (.aload_n 3, 1) := by decide +kernel
theorem dX5_ofBoat_57 : decode cX5_ofBoat 57 = .ok (.getfield 123, 3) := by decide +kernel
theorem dX5_ofBoat_60 : decode cX5_ofBoat 60 = .ok (.getfield 127, 3) := by decide +kernel
theorem dX5_ofBoat_63 : decode cX5_ofBoat 63 = .ok (.ireturn, 1) := by decide +kernel
theorem dX5_ofBoat_64 : decode cX5_ofBoat 64 = .ok (.aload_n 3, 1) := by decide +kernel
theorem dX5_ofBoat_65 : decode cX5_ofBoat 65 = .ok (.getfield 130, 3) := by decide +kernel
theorem dX5_ofBoat_68 : decode cX5_ofBoat 68 = .ok (.ireturn, 1) := by decide +kernel
theorem dX5_ofBoat_69 : decode cX5_ofBoat 69 = .ok (.aload_n 3, 1) := by decide +kernel
theorem dX5_ofBoat_70 : decode cX5_ofBoat 70 = .ok (.getfield 133, 3) := by decide +kernel
theorem dX5_ofBoat_73 : decode cX5_ofBoat 73 = .ok (.ireturn, 1) := by decide +kernel
theorem dX5_ofCall_0 : decode cX5_ofCall 0 = .ok (.aload_n 0, 1) := by decide +kernel
theorem dX5_ofCall_1 : decode cX5_ofCall 1 = .ok (.iload_n 1, 1) := by decide +kernel
theorem dX5_ofCall_2 : decode cX5_ofCall 2 = .ok (.invokevirtual 136, 3) := by decide +kernel
theorem dX5_ofCall_5 : decode cX5_ofCall 5 = .ok (.astore_n 3, 1) := by decide +kernel
theorem dX5_ofCall_6 : decode cX5_ofCall 6 = .ok (.iload_n 2, 1) := by decide +kernel
theorem dX5_ofCall_7 : decode cX5_ofCall 7 = .ok (.iconst 0, 1) := by decide +kernel
theorem dX5_ofCall_8 : decode cX5_ofCall 8 = .ok (.iconst 3, 1) := by decide +kernel
theorem dX5_ofCall_9 : decode cX5_ofCall 9 = .ok (.invokestatic 47, 3) := by decide +kernel
theorem dX5_ofCall_12 : decode cX5_ofCall 12 = .ok (.iload_n 2, 1) := by decide +kernel
theorem dX5_ofCall_13 : decode cX5_ofCall 13 = .ok (.tableswitch 56 0 2 #[27, 32, 51], 27) := by decide +kernel
theorem dX5_ofCall_40 : decode cX5_ofCall 40 = .ok (.aload_n 3, 1) := by decide +kernel
theorem dX5_ofCall_41 : decode cX5_ofCall 41 = .ok (.getfield 140, 3) := by decide +kernel
theorem dX5_ofCall_44 : decode cX5_ofCall 44 = .ok (.ireturn, 1) := by decide +kernel
theorem dX5_ofCall_45 : decode cX5_ofCall 45 = .ok (.aload_n 3, 1) := by decide +kernel
theorem dX5_ofCall_46 : decode cX5_ofCall 46 = .ok (.getfield 141, 3) := by decide +kernel
theorem dX5_ofCall_49 : decode cX5_ofCall 49 = .ok (.ifnonnull 7, 3) := by decide +kernel
theorem dX5_ofCall_52 : decode cX5_ofCall 52 = .ok (.iconst (-1), 1) := by decide +kernel
theorem dX5_ofCall_53 : decode cX5_ofCall 53 = .ok (.goto 10, 3) := by decide +kernel
theorem dX5_ofCall_56 : decode cX5_ofCall 56 = .ok (.aload_n 3, 1) := by decide +kernel
theorem dX5_ofCall_57 : decode cX5_ofCall 57 = .ok (.getfield 141, 3) := by decide +kernel
theorem dX5_ofCall_60 : decode cX5_ofCall 60 = .ok (.getfield 145, 3) := by decide +kernel
theorem dX5_ofCall_63 : decode cX5_ofCall 63 = .ok (.ireturn, 1) := by decide +kernel
theorem dX5_ofCall_64 : decode cX5_ofCall 64 = .ok (.aload_n 3, 1) := by decide +kernel
theorem dX5_ofCall_65 : decode cX5_ofCall 65 = .ok (.getfield 146, 3) := by decide +kernel
theorem dX5_ofCall_68 : decode cX5_ofCall 68 = .ok (.ireturn, 1) := by decide +kernel
theorem dX5_ofCall_69 : decode cX5_ofCall 69 = .ok (.aload_n 3, 1) := by decide +kernel
theorem dX5_ofCall_70 : decode cX5_ofCall 70 = .ok (.getfield 149, 3) := by decide +kernel
theorem dX5_ofCall_73 : decode cX5_ofCall 73 = .ok (.ireturn, 1) := by decide +kernel
theorem dX5_rewards_0 : decode cX5_rewards 0 = .ok (.iload_n 1, 1) := by decide +kernel
theorem dX5_rewards_1 : decode cX5_rewards 1 = .ok (.invokestatic 40, 3) := by decide +kernel
theorem dX5_rewards_4 : decode cX5_rewards 4 = .ok (.aload_n 0, 1) := by decide +kernel
theorem dX5_rewards_5 : decode cX5_rewards 5 = .ok (.getfield 19, 3) := by decide +kernel
theorem dX5_rewards_8 : decode cX5_rewards 8 = .ok (.iload_n 1, 1) := by decide +kernel
theorem dX5_rewards_9 : decode cX5_rewards 9 = .ok (.invokevirtual 152, 3) := by decide +kernel
theorem dX5_rewards_12 : decode cX5_rewards 12 = .ok (.ireturn, 1) := by decide +kernel
theorem dX5_rewardsAnew_0 : decode cX5_rewardsAnew 0 = .ok (.iload_n 1, 1) := by decide +kernel
theorem dX5_rewardsAnew_1 : decode cX5_rewardsAnew 1 = .ok (.invokestatic 40, 3) := by decide +kernel
theorem dX5_rewardsAnew_4 : decode cX5_rewardsAnew 4 = .ok (.aload_n 0, 1) := by decide +kernel
theorem dX5_rewardsAnew_5 : decode cX5_rewardsAnew 5 = .ok (.getfield 19, 3) := by decide +kernel
theorem dX5_rewardsAnew_8 : decode cX5_rewardsAnew 8 = .ok (.iload_n 1, 1) := by decide +kernel
theorem dX5_rewardsAnew_9 : decode cX5_rewardsAnew 9 = .ok (.invokevirtual 155, 3) := by decide +kernel
theorem dX5_rewardsAnew_12 : decode cX5_rewardsAnew 12 = .ok (.ireturn, 1) := by decide +kernel
theorem dX5_turnBoatsBack_0 : decode cX5_turnBoatsBack 0 = .ok (.iconst 0, 1) := by decide +kernel
theorem dX5_turnBoatsBack_1 : decode cX5_turnBoatsBack 1 = .ok (.istore_n 1, 1) := by decide +kernel
theorem dX5_turnBoatsBack_2 : decode cX5_turnBoatsBack 2 = .ok (.iload_n 1, 1) := by decide +kernel
theorem dX5_turnBoatsBack_3 : decode cX5_turnBoatsBack 3 = .ok (.aload_n 0, 1) := by decide +kernel
theorem dX5_turnBoatsBack_4 : decode cX5_turnBoatsBack 4 = .ok (.getfield 26, 3) := by decide +kernel
theorem dX5_turnBoatsBack_7 : decode cX5_turnBoatsBack 7 = .ok (.invokeinterface 51 1, 5) := by decide +kernel
theorem dX5_turnBoatsBack_12 : decode cX5_turnBoatsBack 12 = .ok (.if_icmp .ge 67, 3) := by decide +kernel
theorem dX5_turnBoatsBack_15 : decode cX5_turnBoatsBack 15 = .ok (.aload_n 0, 1) := by decide +kernel
theorem dX5_turnBoatsBack_16 : decode cX5_turnBoatsBack 16 = .ok (.getfield 26, 3) := by decide +kernel
theorem dX5_turnBoatsBack_19 : decode cX5_turnBoatsBack 19 = .ok (.iload_n 1, 1) := by decide +kernel
theorem dX5_turnBoatsBack_20 : decode cX5_turnBoatsBack 20 = .ok (.invokeinterface 172 2, 5) := by decide +kernel
theorem dX5_turnBoatsBack_25 : decode cX5_turnBoatsBack 25 = .ok (.checkcast 64, 3) := by decide +kernel
theorem dX5_turnBoatsBack_28 : decode cX5_turnBoatsBack 28 = .ok (.astore_n 2, 1) := by decide +kernel
theorem dX5_turnBoatsBack_29 : decode cX5_turnBoatsBack 29 = .ok (.aload_n 2, 1) := by decide +kernel
theorem dX5_turnBoatsBack_30 : decode cX5_turnBoatsBack 30 = .ok (.getfield 123, 3) := by decide +kernel
theorem dX5_turnBoatsBack_33 : decode cX5_turnBoatsBack 33 = .ok (.astore_n 3, 1) := by decide +kernel
theorem dX5_turnBoatsBack_34 : decode cX5_turnBoatsBack 34 = .ok (.aload_n 3, 1) := by decide +kernel
theorem dX5_turnBoatsBack_35 : decode cX5_turnBoatsBack 35 = .ok (.ifnull 38, 3) := by decide +kernel
theorem dX5_turnBoatsBack_38 : decode cX5_turnBoatsBack 38 = .ok (.aload_n 0, 1) := by decide +kernel
theorem dX5_turnBoatsBack_39 : decode cX5_turnBoatsBack 39 = .ok (.getfield 10, 3) := by decide +kernel
theorem dX5_turnBoatsBack_42 : decode cX5_turnBoatsBack 42 = .ok (.aload_n 3, 1) := by decide +kernel
theorem dX5_turnBoatsBack_43 : decode cX5_turnBoatsBack 43 = .ok (.getfield 176, 3) := by decide +kernel
theorem dX5_turnBoatsBack_46 : decode cX5_turnBoatsBack 46 = .ok (.aload_n 2, 1) := by decide +kernel
theorem dX5_turnBoatsBack_47 : decode cX5_turnBoatsBack 47 = .ok (.getfield 130, 3) := by decide +kernel
theorem dX5_turnBoatsBack_50 : decode cX5_turnBoatsBack 50 = .ok (.invokevirtual 116, 3) := by decide +kernel
theorem dX5_turnBoatsBack_53 : decode cX5_turnBoatsBack 53 = .ok (.aload_n 2, 1) := by decide +kernel
theorem dX5_turnBoatsBack_54 : decode cX5_turnBoatsBack 54 = .ok (.getfield 179, 3) := by decide +kernel
theorem dX5_turnBoatsBack_57 : decode cX5_turnBoatsBack 57 = .ok (.if_icmp .le 16, 3) := by decide +kernel
theorem dX5_turnBoatsBack_60 : decode cX5_turnBoatsBack 60 = .ok (.aload_n 2, 1) := by decide +kernel
theorem dX5_turnBoatsBack_61 : decode cX5_turnBoatsBack 61 = .ok (.aload_n 0, 1) := by decide +kernel
theorem dX5_turnBoatsBack_62 : decode cX5_turnBoatsBack 62 = .ok (.getfield 33, 3) := by decide +kernel
theorem dX5_turnBoatsBack_65 : decode cX5_turnBoatsBack 65 = .ok (.invokevirtual 182, 3) := by decide +kernel
theorem dX5_turnBoatsBack_68 : decode cX5_turnBoatsBack 68 = .ok (.aload_n 3, 1) := by decide +kernel
theorem dX5_turnBoatsBack_69 : decode cX5_turnBoatsBack 69 = .ok (.iconst 0, 1) := by decide +kernel
theorem dX5_turnBoatsBack_70 : decode cX5_turnBoatsBack 70 = .ok (.putfield 140, 3) := by decide +kernel
theorem dX5_turnBoatsBack_73 : decode cX5_turnBoatsBack 73 = .ok (.iinc 1 1, 3) := by decide +kernel
theorem dX5_turnBoatsBack_76 : decode cX5_turnBoatsBack 76 = .ok (.goto (-74), 3) := by decide +kernel
theorem dX5_turnBoatsBack_79 : decode cX5_turnBoatsBack 79 = .ok (.return_, 1) := by decide +kernel
theorem dX5_letBoatsArrive_0 : decode cX5_letBoatsArrive 0 = .ok (.iconst 0, 1) := by decide +kernel
theorem dX5_letBoatsArrive_1 : decode cX5_letBoatsArrive 1 = .ok (.istore_n 1, 1) := by decide +kernel
theorem dX5_letBoatsArrive_2 : decode cX5_letBoatsArrive 2 = .ok (.iload_n 1, 1) := by decide +kernel
theorem dX5_letBoatsArrive_3 : decode cX5_letBoatsArrive 3 = .ok (.aload_n 0, 1) := by decide +kernel
theorem dX5_letBoatsArrive_4 : decode cX5_letBoatsArrive 4 = .ok (.getfield 26, 3) := by decide +kernel
theorem dX5_letBoatsArrive_7 : decode cX5_letBoatsArrive 7 = .ok (.invokeinterface 51 1, 5) := by decide +kernel
theorem dX5_letBoatsArrive_12 : decode cX5_letBoatsArrive 12 = .ok (.if_icmp .ge 69, 3) := by decide +kernel
theorem dX5_letBoatsArrive_15 : decode cX5_letBoatsArrive 15 = .ok (.aload_n 0, 1) := by decide +kernel
theorem dX5_letBoatsArrive_16 : decode cX5_letBoatsArrive 16 = .ok (.getfield 26, 3) := by decide +kernel
theorem dX5_letBoatsArrive_19 : decode cX5_letBoatsArrive 19 = .ok (.iload_n 1, 1) := by decide +kernel
theorem dX5_letBoatsArrive_20 : decode cX5_letBoatsArrive 20 = .ok (.invokeinterface 172 2, 5) := by decide +kernel
theorem dX5_letBoatsArrive_25 : decode cX5_letBoatsArrive 25 = .ok (.checkcast 64, 3) := by decide +kernel
theorem dX5_letBoatsArrive_28 : decode cX5_letBoatsArrive 28 = .ok (.astore_n 2, 1) := by decide +kernel
theorem dX5_letBoatsArrive_29 : decode cX5_letBoatsArrive 29 = .ok (.aload_n 2, 1) := by decide +kernel
theorem dX5_letBoatsArrive_30 : decode cX5_letBoatsArrive 30 = .ok (.getfield 120, 3) := by decide +kernel
theorem dX5_letBoatsArrive_33 : decode cX5_letBoatsArrive 33 = .ok (.iconst 1, 1) := by decide +kernel
theorem dX5_letBoatsArrive_34 : decode cX5_letBoatsArrive 34 = .ok (.if_icmp .ne 41, 3) := by decide +kernel
theorem dX5_letBoatsArrive_37 : decode cX5_letBoatsArrive 37 = .ok (.aload_n 2, 1) := by decide +kernel
theorem dX5_letBoatsArrive_38 : decode cX5_letBoatsArrive 38 = .ok (.getfield 130, 3) := by decide +kernel
theorem dX5_letBoatsArrive_41 : decode cX5_letBoatsArrive 41 = .ok (.aload_n 0, 1) := by decide +kernel
theorem dX5_letBoatsArrive_42 : decode cX5_letBoatsArrive 42 = .ok (.getfield 33, 3) := by decide +kernel
theorem dX5_letBoatsArrive_45 : decode cX5_letBoatsArrive 45 = .ok (.if_icmp .ne 30, 3) := by decide +kernel
theorem dX5_letBoatsArrive_48 : decode cX5_letBoatsArrive 48 = .ok (.aload_n 2, 1) := by decide +kernel
theorem dX5_letBoatsArrive_49 : decode cX5_letBoatsArrive 49 = .ok (.getfield 123, 3) := by decide +kernel
theorem dX5_letBoatsArrive_52 : decode cX5_letBoatsArrive 52 = .ok (.ifnonnull 14, 3) := by decide +kernel
theorem dX5_letBoatsArrive_55 : decode cX5_letBoatsArrive 55 = .ok (.aload_n 2, 1) := by decide +kernel
theorem dX5_letBoatsArrive_56 : decode cX5_letBoatsArrive 56 = .ok (.aload_n 0, 1) := by decide +kernel
theorem dX5_letBoatsArrive_57 : decode cX5_letBoatsArrive 57 = .ok (.getfield 33, 3) := by decide +kernel
theorem dX5_letBoatsArrive_60 : decode cX5_letBoatsArrive 60 = .ok (.invokevirtual 185, 3) := by decide +kernel
theorem dX5_letBoatsArrive_63 : decode cX5_letBoatsArrive 63 = .ok (.goto 12, 3) := by decide +kernel
theorem dX5_letBoatsArrive_66 : decode cX5_letBoatsArrive 66 = .ok (.aload_n 0, 1) := by decide +kernel
theorem dX5_letBoatsArrive_67 : decode cX5_letBoatsArrive 67 = .ok (.aload_n 2, 1) := by decide +kernel
theorem dX5_letBoatsArrive_68 : decode cX5_letBoatsArrive 68 = .ok (.aload_n 2, 1) := by decide +kernel
theorem dX5_letBoatsArrive_69 : decode cX5_letBoatsArrive 69 = .ok (.getfield 123, 3) := by decide +kernel
theorem dX5_letBoatsArrive_72 : decode cX5_letBoatsArrive 72 = .ok (.invokevirtual 188, 3) := by decide +kernel
theorem dX5_letBoatsArrive_75 : decode cX5_letBoatsArrive 75 = .ok (.iinc 1 1, 3) := by decide +kernel
theorem dX5_letBoatsArrive_78 : decode cX5_letBoatsArrive 78 = .ok (.goto (-76), 3) := by decide +kernel
theorem dX5_letBoatsArrive_81 : decode cX5_letBoatsArrive 81 = .ok (.return_, 1) := by decide +kernel
theorem dX5_finish_0 : decode cX5_finish 0 = .ok (.aload_n 1, 1) := by decide +kernel
theorem dX5_finish_1 : decode cX5_finish 1 = .ok (.aload_n 2, 1) := by decide +kernel
theorem dX5_finish_2 : decode cX5_finish 2 = .ok (.getfield 176, 3) := by decide +kernel
theorem dX5_finish_5 : decode cX5_finish 5 = .ok (.invokevirtual 192, 3) := by decide +kernel
theorem dX5_finish_8 : decode cX5_finish 8 = .ok (.istore_n 3, 1) := by decide +kernel
theorem dX5_finish_9 : decode cX5_finish 9 = .ok (.new 195, 3) := by decide +kernel
theorem dX5_finish_12 : decode cX5_finish 12 = .ok (.dup, 1) := by decide +kernel
theorem dX5_finish_13 : decode cX5_finish 13 = .ok (.aload_n 1, 1) := by decide +kernel
theorem dX5_finish_14 : decode cX5_finish 14 = .ok (.getfield 197, 3) := by decide +kernel
theorem dX5_finish_17 : decode cX5_finish 17 = .ok (.aload_n 1, 1) := by decide +kernel
theorem dX5_finish_18 : decode cX5_finish 18 = .ok (.getfield 200, 3) := by decide +kernel
theorem dX5_finish_21 : decode cX5_finish 21 = .ok (.iload_n 3, 1) := by decide +kernel
theorem dX5_finish_22 : decode cX5_finish 22 = .ok (.aload_n 2, 1) := by decide +kernel
theorem dX5_finish_23 : decode cX5_finish 23 = .ok (.getfield 203, 3) := by decide +kernel
theorem dX5_finish_26 : decode cX5_finish 26 = .ok (.aload_n 0, 1) := by decide +kernel
theorem dX5_finish_27 : decode cX5_finish 27 = .ok (.getfield 37, 3) := by decide +kernel
theorem dX5_finish_30 : decode cX5_finish 30 = .ok (.invokespecial 206, 3) := by decide +kernel
theorem dX5_finish_33 : decode cX5_finish 33 = .ok (.astore 4, 2) := by decide +kernel
theorem dX5_finish_35 : decode cX5_finish 35 = .ok (.aload_n 0, 1) := by decide +kernel
theorem dX5_finish_36 : decode cX5_finish 36 = .ok (.getfield 19, 3) := by decide +kernel
theorem dX5_finish_39 : decode cX5_finish 39 = .ok (.aload 4, 2) := by decide +kernel
theorem dX5_finish_41 : decode cX5_finish 41 = .ok (.invokevirtual 209, 3) := by decide +kernel
theorem dX5_finish_44 : decode cX5_finish 44 = .ok (.aload_n 2, 1) := by decide +kernel
theorem dX5_finish_45 : decode cX5_finish 45 = .ok (.iconst 2, 1) := by decide +kernel
theorem dX5_finish_46 : decode cX5_finish 46 = .ok (.putfield 140, 3) := by decide +kernel
theorem dX5_finish_49 : decode cX5_finish 49 = .ok (.aload_n 2, 1) := by decide +kernel
theorem dX5_finish_50 : decode cX5_finish 50 = .ok (.aload 4, 2) := by decide +kernel
theorem dX5_finish_52 : decode cX5_finish 52 = .ok (.invokevirtual 213, 3) := by decide +kernel
theorem dX5_finish_55 : decode cX5_finish 55 = .ok (.putfield 149, 3) := by decide +kernel
theorem dX5_finish_58 : decode cX5_finish 58 = .ok (.aload_n 1, 1) := by decide +kernel
theorem dX5_finish_59 : decode cX5_finish 59 = .ok (.aload_n 0, 1) := by decide +kernel
theorem dX5_finish_60 : decode cX5_finish 60 = .ok (.getfield 33, 3) := by decide +kernel
theorem dX5_finish_63 : decode cX5_finish 63 = .ok (.iload_n 3, 1) := by decide +kernel
theorem dX5_finish_64 : decode cX5_finish 64 = .ok (.invokevirtual 215, 3) := by decide +kernel
theorem dX5_finish_67 : decode cX5_finish 67 = .ok (.return_, 1) := by decide +kernel
theorem dX5_freeBoatsThatRested_0 : decode cX5_freeBoatsThatRested 0 = .ok (.iconst 0, 1) := by decide +kernel
theorem dX5_freeBoatsThatRested_1 : decode cX5_freeBoatsThatRested 1 = .ok (.istore_n 1, 1) := by decide +kernel
theorem dX5_freeBoatsThatRested_2 : decode cX5_freeBoatsThatRested 2 = .ok (.iload_n 1, 1) := by decide +kernel
theorem dX5_freeBoatsThatRested_3 : decode cX5_freeBoatsThatRested 3 = .ok (.aload_n 0, 1) := by decide +kernel
theorem dX5_freeBoatsThatRested_4 : decode cX5_freeBoatsThatRested 4 = .ok (.getfield 26, 3) := by decide +kernel
theorem dX5_freeBoatsThatRested_7 : decode cX5_freeBoatsThatRested 7 = .ok (.invokeinterface 51 1, 5) := by decide +kernel
theorem dX5_freeBoatsThatRested_12 : decode cX5_freeBoatsThatRested 12 = .ok (.if_icmp .ge 46, 3) := by decide +kernel
theorem dX5_freeBoatsThatRested_15 : decode cX5_freeBoatsThatRested 15 = .ok (.aload_n 0, 1) := by decide +kernel
theorem dX5_freeBoatsThatRested_16 : decode cX5_freeBoatsThatRested 16 = .ok (.getfield 26, 3) := by decide +kernel
theorem dX5_freeBoatsThatRested_19 : decode cX5_freeBoatsThatRested 19 = .ok (.iload_n 1, 1) := by decide +kernel
theorem dX5_freeBoatsThatRested_20 : decode cX5_freeBoatsThatRested 20 = .ok (.invokeinterface 172 2, 5) := by decide +kernel
theorem dX5_freeBoatsThatRested_25 : decode cX5_freeBoatsThatRested 25 = .ok (.checkcast 64, 3) := by decide +kernel
theorem dX5_freeBoatsThatRested_28 : decode cX5_freeBoatsThatRested 28 = .ok (.astore_n 2, 1) := by decide +kernel
theorem dX5_freeBoatsThatRested_29 : decode cX5_freeBoatsThatRested 29 = .ok (.aload_n 2, 1) := by decide +kernel
theorem dX5_freeBoatsThatRested_30 : decode cX5_freeBoatsThatRested 30 = .ok (.getfield 120, 3) := by decide +kernel
theorem dX5_freeBoatsThatRested_33 : decode cX5_freeBoatsThatRested 33 = .ok (.iconst 2, 1) := by decide +kernel
theorem dX5_freeBoatsThatRested_34 : decode cX5_freeBoatsThatRested 34 = .ok (.if_icmp .ne 18, 3) := by decide +kernel
theorem dX5_freeBoatsThatRested_37 : decode cX5_freeBoatsThatRested 37 = .ok (.aload_n 2, 1) := by decide +kernel
theorem dX5_freeBoatsThatRested_38 : decode cX5_freeBoatsThatRested 38 = .ok (.getfield 130, 3) := by decide +kernel
theorem dX5_freeBoatsThatRested_41 : decode cX5_freeBoatsThatRested 41 = .ok (.aload_n 0, 1) := by decide +kernel
theorem dX5_freeBoatsThatRested_42 : decode cX5_freeBoatsThatRested 42 = .ok (.getfield 33, 3) := by decide +kernel
theorem dX5_freeBoatsThatRested_45 : decode cX5_freeBoatsThatRested 45 = .ok (.if_icmp .ne 7, 3) := by decide +kernel
theorem dX5_freeBoatsThatRested_48 : decode cX5_freeBoatsThatRested 48 = .ok (.aload_n 2, 1) := by decide +kernel
theorem dX5_freeBoatsThatRested_49 : decode cX5_freeBoatsThatRested 49 = .ok (.invokevirtual 219, 3) := by decide +kernel
theorem dX5_freeBoatsThatRested_52 : decode cX5_freeBoatsThatRested 52 = .ok (.iinc 1 1, 3) := by decide +kernel
theorem dX5_freeBoatsThatRested_55 : decode cX5_freeBoatsThatRested 55 = .ok (.goto (-53), 3) := by decide +kernel
theorem dX5_freeBoatsThatRested_58 : decode cX5_freeBoatsThatRested 58 = .ok (.return_, 1) := by decide +kernel
theorem dX5_answerCalls_0 : decode cX5_answerCalls 0 = .ok (.iconst 0, 1) := by decide +kernel
theorem dX5_answerCalls_1 : decode cX5_answerCalls 1 = .ok (.istore_n 1, 1) := by decide +kernel
theorem dX5_answerCalls_2 : decode cX5_answerCalls 2 = .ok (.iload_n 1, 1) := by decide +kernel
theorem dX5_answerCalls_3 : decode cX5_answerCalls 3 = .ok (.aload_n 0, 1) := by decide +kernel
theorem dX5_answerCalls_4 : decode cX5_answerCalls 4 = .ok (.getfield 30, 3) := by decide +kernel
theorem dX5_answerCalls_7 : decode cX5_answerCalls 7 = .ok (.invokeinterface 51 1, 5) := by decide +kernel
theorem dX5_answerCalls_12 : decode cX5_answerCalls 12 = .ok (.if_icmp .ge 66, 3) := by decide +kernel
theorem dX5_answerCalls_15 : decode cX5_answerCalls 15 = .ok (.aload_n 0, 1) := by decide +kernel
theorem dX5_answerCalls_16 : decode cX5_answerCalls 16 = .ok (.getfield 30, 3) := by decide +kernel
theorem dX5_answerCalls_19 : decode cX5_answerCalls 19 = .ok (.iload_n 1, 1) := by decide +kernel
theorem dX5_answerCalls_20 : decode cX5_answerCalls 20 = .ok (.invokeinterface 172 2, 5) := by decide +kernel
theorem dX5_answerCalls_25 : decode cX5_answerCalls 25 = .ok (.checkcast 98, 3) := by decide +kernel
theorem dX5_answerCalls_28 : decode cX5_answerCalls 28 = .ok (.astore_n 2, 1) := by decide +kernel
theorem dX5_answerCalls_29 : decode cX5_answerCalls 29 = .ok (.aload_n 2, 1) := by decide +kernel
theorem dX5_answerCalls_30 : decode cX5_answerCalls 30 = .ok (.getfield 140, 3) := by decide +kernel
theorem dX5_answerCalls_33 : decode cX5_answerCalls 33 = .ok (.ifCond .ne 22, 3) := by decide +kernel
theorem dX5_answerCalls_36 : decode cX5_answerCalls 36 = .ok (.aload_n 2, 1) := by decide +kernel
theorem dX5_answerCalls_37 : decode cX5_answerCalls 37 = .ok (.getfield 222, 3) := by decide +kernel
theorem dX5_answerCalls_40 : decode cX5_answerCalls 40 = .ok (.aload_n 0, 1) := by decide +kernel
theorem dX5_answerCalls_41 : decode cX5_answerCalls 41 = .ok (.getfield 33, 3) := by decide +kernel
theorem dX5_answerCalls_44 : decode cX5_answerCalls 44 = .ok (.if_icmp .ge 11, 3) := by decide +kernel
theorem dX5_answerCalls_47 : decode cX5_answerCalls 47 = .ok (.aload_n 2, 1) := by decide +kernel
theorem dX5_answerCalls_48 : decode cX5_answerCalls 48 = .ok (.iconst 3, 1) := by decide +kernel
theorem dX5_answerCalls_49 : decode cX5_answerCalls 49 = .ok (.putfield 140, 3) := by decide +kernel
theorem dX5_answerCalls_52 : decode cX5_answerCalls 52 = .ok (.goto 20, 3) := by decide +kernel
theorem dX5_answerCalls_55 : decode cX5_answerCalls 55 = .ok (.aload_n 2, 1) := by decide +kernel
theorem dX5_answerCalls_56 : decode cX5_answerCalls 56 = .ok (.getfield 140, 3) := by decide +kernel
theorem dX5_answerCalls_59 : decode cX5_answerCalls 59 = .ok (.ifCond .ne 13, 3) := by decide +kernel
theorem dX5_answerCalls_62 : decode cX5_answerCalls 62 = .ok (.aload_n 0, 1) := by decide +kernel
theorem dX5_answerCalls_63 : decode cX5_answerCalls 63 = .ok (.aload_n 0, 1) := by decide +kernel
theorem dX5_answerCalls_64 : decode cX5_answerCalls 64 = .ok (.aload_n 2, 1) := by decide +kernel
theorem dX5_answerCalls_65 : decode cX5_answerCalls 65 = .ok (.invokevirtual 225, 3) := by decide +kernel
theorem dX5_answerCalls_68 : decode cX5_answerCalls 68 = .ok (.aload_n 2, 1) := by decide +kernel
theorem dX5_answerCalls_69 : decode cX5_answerCalls 69 = .ok (.invokevirtual 229, 3) := by decide +kernel
theorem dX5_answerCalls_72 : decode cX5_answerCalls 72 = .ok (.iinc 1 1, 3) := by decide +kernel
theorem dX5_answerCalls_75 : decode cX5_answerCalls 75 = .ok (.goto (-73), 3) := by decide +kernel
theorem dX5_answerCalls_78 : decode cX5_answerCalls 78 = .ok (.return_, 1) := by decide +kernel
theorem dX5_task_0 : decode cX5_task 0 = .ok (.aload_n 1, 1) := by decide +kernel
theorem dX5_task_1 : decode cX5_task 1 = .ok (.ifnull 38, 3) := by decide +kernel
theorem dX5_task_4 : decode cX5_task 4 = .ok (.aload_n 1, 1) := by decide +kernel
theorem dX5_task_5 : decode cX5_task 5 = .ok (.aload_n 2, 1) := by decide +kernel
theorem dX5_task_6 : decode cX5_task 6 = .ok (.aload_n 0, 1) := by decide +kernel
theorem dX5_task_7 : decode cX5_task 7 = .ok (.getfield 33, 3) := by decide +kernel
theorem dX5_task_10 : decode cX5_task 10 = .ok (.aload_n 0, 1) := by decide +kernel
theorem dX5_task_11 : decode cX5_task 11 = .ok (.aload_n 1, 1) := by decide +kernel
theorem dX5_task_12 : decode cX5_task 12 = .ok (.aload_n 2, 1) := by decide +kernel
theorem dX5_task_13 : decode cX5_task 13 = .ok (.invokevirtual 232, 3) := by decide +kernel
theorem dX5_task_16 : decode cX5_task 16 = .ok (.invokevirtual 236, 3) := by decide +kernel
theorem dX5_task_19 : decode cX5_task 19 = .ok (.aload_n 2, 1) := by decide +kernel
theorem dX5_task_20 : decode cX5_task 20 = .ok (.iconst 1, 1) := by decide +kernel
theorem dX5_task_21 : decode cX5_task 21 = .ok (.putfield 140, 3) := by decide +kernel
theorem dX5_task_24 : decode cX5_task 24 = .ok (.aload_n 2, 1) := by decide +kernel
theorem dX5_task_25 : decode cX5_task 25 = .ok (.aload_n 1, 1) := by decide +kernel
theorem dX5_task_26 : decode cX5_task 26 = .ok (.putfield 141, 3) := by decide +kernel
theorem dX5_task_29 : decode cX5_task 29 = .ok (.aload_n 2, 1) := by decide +kernel
theorem dX5_task_30 : decode cX5_task 30 = .ok (.dup, 1) := by decide +kernel
theorem dX5_task_31 : decode cX5_task 31 = .ok (.getfield 146, 3) := by decide +kernel
theorem dX5_task_34 : decode cX5_task 34 = .ok (.iconst 1, 1) := by decide +kernel
theorem dX5_task_35 : decode cX5_task 35 = .ok (.iadd, 1) := by decide +kernel
theorem dX5_task_36 : decode cX5_task 36 = .ok (.putfield 146, 3) := by decide +kernel
theorem dX5_task_39 : decode cX5_task 39 = .ok (.return_, 1) := by decide +kernel
theorem dX5_boatFirstThere_0 : decode cX5_boatFirstThere 0 = .ok (.aconst_null, 1) := by decide +kernel
theorem dX5_boatFirstThere_1 : decode cX5_boatFirstThere 1 = .ok (.astore_n 2, 1) := by decide +kernel
theorem dX5_boatFirstThere_2 : decode cX5_boatFirstThere 2 = .ok (.iconst (-1), 1) := by decide +kernel
theorem dX5_boatFirstThere_3 : decode cX5_boatFirstThere 3 = .ok (.istore_n 3, 1) := by decide +kernel
theorem dX5_boatFirstThere_4 : decode cX5_boatFirstThere 4 = .ok (.iconst 0, 1) := by decide +kernel
theorem dX5_boatFirstThere_5 : decode cX5_boatFirstThere 5 = .ok (.istore 4, 2) := by decide +kernel
theorem dX5_boatFirstThere_7 : decode cX5_boatFirstThere 7 = .ok (.iload 4, 2) := by decide +kernel
theorem dX5_boatFirstThere_9 : decode cX5_boatFirstThere 9 = .ok (.aload_n 0, 1) := by decide +kernel
theorem dX5_boatFirstThere_10 : decode cX5_boatFirstThere 10 = .ok (.getfield 26, 3) := by decide +kernel
theorem dX5_boatFirstThere_13 : decode cX5_boatFirstThere 13 = .ok (.invokeinterface 51 1, 5) := by decide +kernel
theorem dX5_boatFirstThere_18 : decode cX5_boatFirstThere 18 = .ok (.if_icmp .ge 56, 3) := by decide +kernel
theorem dX5_boatFirstThere_21 : decode cX5_boatFirstThere 21 = .ok (.aload_n 0, 1) := by decide +kernel
theorem dX5_boatFirstThere_22 : decode cX5_boatFirstThere 22 = .ok (.getfield 26, 3) := by decide +kernel
theorem dX5_boatFirstThere_25 : decode cX5_boatFirstThere 25 = .ok (.iload 4, 2) := by decide +kernel
theorem dX5_boatFirstThere_27 : decode cX5_boatFirstThere 27 = .ok (.invokeinterface 172 2, 5) := by decide +kernel
theorem dX5_boatFirstThere_32 : decode cX5_boatFirstThere 32 = .ok (.checkcast 64, 3) := by decide +kernel
theorem dX5_boatFirstThere_35 : decode cX5_boatFirstThere 35 = .ok (.astore 5, 2) := by decide +kernel
theorem dX5_boatFirstThere_37 : decode cX5_boatFirstThere 37 = .ok (.aload_n 0, 1) := by decide +kernel
theorem dX5_boatFirstThere_38 : decode cX5_boatFirstThere 38 = .ok (.aload 5, 2) := by decide +kernel
theorem dX5_boatFirstThere_40 : decode cX5_boatFirstThere 40 = .ok (.aload_n 1, 1) := by decide +kernel
theorem dX5_boatFirstThere_41 : decode cX5_boatFirstThere 41 = .ok (.invokevirtual 232, 3) := by decide +kernel
theorem dX5_boatFirstThere_44 : decode cX5_boatFirstThere 44 = .ok (.istore 6, 2) := by decide +kernel
theorem dX5_boatFirstThere_46 : decode cX5_boatFirstThere 46 = .ok (.iload 6, 2) := by decide +kernel
theorem dX5_boatFirstThere_48 : decode cX5_boatFirstThere 48 = .ok (.iconst (-1), 1) := by decide +kernel
theorem dX5_boatFirstThere_49 : decode cX5_boatFirstThere 49 = .ok (.if_icmp .eq 19, 3) := by decide +kernel
theorem dX5_boatFirstThere_52 : decode cX5_boatFirstThere 52 = .ok (.aload_n 2, 1) := by decide +kernel
theorem dX5_boatFirstThere_53 : decode cX5_boatFirstThere 53 = .ok (.ifnull 9, 3) := by decide +kernel
theorem dX5_boatFirstThere_56 : decode cX5_boatFirstThere 56 = .ok (.iload 6, 2) := by decide +kernel
theorem dX5_boatFirstThere_58 : decode cX5_boatFirstThere 58 = .ok (.iload_n 3, 1) := by decide +kernel
theorem dX5_boatFirstThere_59 : decode cX5_boatFirstThere 59 = .ok (.if_icmp .ge 9, 3) := by decide +kernel
theorem dX5_boatFirstThere_62 : decode cX5_boatFirstThere 62 = .ok (.aload 5, 2) := by decide +kernel
theorem dX5_boatFirstThere_64 : decode cX5_boatFirstThere 64 = .ok (.astore_n 2, 1) := by decide +kernel
theorem dX5_boatFirstThere_65 : decode cX5_boatFirstThere 65 = .ok (.iload 6, 2) := by decide +kernel
theorem dX5_boatFirstThere_67 : decode cX5_boatFirstThere 67 = .ok (.istore_n 3, 1) := by decide +kernel
theorem dX5_boatFirstThere_68 : decode cX5_boatFirstThere 68 = .ok (.iinc 4 1, 3) := by decide +kernel
theorem dX5_boatFirstThere_71 : decode cX5_boatFirstThere 71 = .ok (.goto (-64), 3) := by decide +kernel
theorem dX5_boatFirstThere_74 : decode cX5_boatFirstThere 74 = .ok (.aload_n 2, 1) := by decide +kernel
theorem dX5_boatFirstThere_75 : decode cX5_boatFirstThere 75 = .ok (.areturn, 1) := by decide +kernel
theorem dX5_hourThere_0 : decode cX5_hourThere 0 = .ok (.aload_n 1, 1) := by decide +kernel
theorem dX5_hourThere_1 : decode cX5_hourThere 1 = .ok (.aload_n 2, 1) := by decide +kernel
theorem dX5_hourThere_2 : decode cX5_hourThere 2 = .ok (.getfield 176, 3) := by decide +kernel
theorem dX5_hourThere_5 : decode cX5_hourThere 5 = .ok (.invokevirtual 192, 3) := by decide +kernel
theorem dX5_hourThere_8 : decode cX5_hourThere 8 = .ok (.istore_n 3, 1) := by decide +kernel
theorem dX5_hourThere_9 : decode cX5_hourThere 9 = .ok (.aload_n 1, 1) := by decide +kernel
theorem dX5_hourThere_10 : decode cX5_hourThere 10 = .ok (.iload_n 3, 1) := by decide +kernel
theorem dX5_hourThere_11 : decode cX5_hourThere 11 = .ok (.invokevirtual 240, 3) := by decide +kernel
theorem dX5_hourThere_14 : decode cX5_hourThere 14 = .ok (.istore 4, 2) := by decide +kernel
theorem dX5_hourThere_16 : decode cX5_hourThere 16 = .ok (.aload_n 1, 1) := by decide +kernel
theorem dX5_hourThere_17 : decode cX5_hourThere 17 = .ok (.getfield 120, 3) := by decide +kernel
theorem dX5_hourThere_20 : decode cX5_hourThere 20 = .ok (.ifCond .ne 19, 3) := by decide +kernel
theorem dX5_hourThere_23 : decode cX5_hourThere 23 = .ok (.iload 4, 2) := by decide +kernel
theorem dX5_hourThere_25 : decode cX5_hourThere 25 = .ok (.iconst (-1), 1) := by decide +kernel
theorem dX5_hourThere_26 : decode cX5_hourThere 26 = .ok (.if_icmp .eq 13, 3) := by decide +kernel
theorem dX5_hourThere_29 : decode cX5_hourThere 29 = .ok (.aload_n 1, 1) := by decide +kernel
theorem dX5_hourThere_30 : decode cX5_hourThere 30 = .ok (.getfield 133, 3) := by decide +kernel
theorem dX5_hourThere_33 : decode cX5_hourThere 33 = .ok (.iconst 2, 1) := by decide +kernel
theorem dX5_hourThere_34 : decode cX5_hourThere 34 = .ok (.iload_n 3, 1) := by decide +kernel
theorem dX5_hourThere_35 : decode cX5_hourThere 35 = .ok (.imul, 1) := by decide +kernel
theorem dX5_hourThere_36 : decode cX5_hourThere 36 = .ok (.if_icmp .ge 5, 3) := by decide +kernel
theorem dX5_hourThere_39 : decode cX5_hourThere 39 = .ok (.iconst (-1), 1) := by decide +kernel
theorem dX5_hourThere_40 : decode cX5_hourThere 40 = .ok (.ireturn, 1) := by decide +kernel
theorem dX5_hourThere_41 : decode cX5_hourThere 41 = .ok (.aload_n 0, 1) := by decide +kernel
theorem dX5_hourThere_42 : decode cX5_hourThere 42 = .ok (.getfield 33, 3) := by decide +kernel
theorem dX5_hourThere_45 : decode cX5_hourThere 45 = .ok (.iload 4, 2) := by decide +kernel
theorem dX5_hourThere_47 : decode cX5_hourThere 47 = .ok (.iadd, 1) := by decide +kernel
theorem dX5_hourThere_48 : decode cX5_hourThere 48 = .ok (.istore 5, 2) := by decide +kernel
theorem dX5_hourThere_50 : decode cX5_hourThere 50 = .ok (.iload 5, 2) := by decide +kernel
theorem dX5_hourThere_52 : decode cX5_hourThere 52 = .ok (.aload_n 2, 1) := by decide +kernel
theorem dX5_hourThere_53 : decode cX5_hourThere 53 = .ok (.getfield 222, 3) := by decide +kernel
theorem dX5_hourThere_56 : decode cX5_hourThere 56 = .ok (.if_icmp .gt 28, 3) := by decide +kernel
theorem dX5_hourThere_59 : decode cX5_hourThere 59 = .ok (.aload_n 0, 1) := by decide +kernel
theorem dX5_hourThere_60 : decode cX5_hourThere 60 = .ok (.getfield 10, 3) := by decide +kernel
theorem dX5_hourThere_63 : decode cX5_hourThere 63 = .ok (.aload_n 2, 1) := by decide +kernel
theorem dX5_hourThere_64 : decode cX5_hourThere 64 = .ok (.getfield 176, 3) := by decide +kernel
theorem dX5_hourThere_67 : decode cX5_hourThere 67 = .ok (.iload 5, 2) := by decide +kernel
theorem dX5_hourThere_69 : decode cX5_hourThere 69 = .ok (.invokevirtual 116, 3) := by decide +kernel
theorem dX5_hourThere_72 : decode cX5_hourThere 72 = .ok (.aload_n 1, 1) := by decide +kernel
theorem dX5_hourThere_73 : decode cX5_hourThere 73 = .ok (.getfield 179, 3) := by decide +kernel
theorem dX5_hourThere_76 : decode cX5_hourThere 76 = .ok (.if_icmp .gt 8, 3) := by decide +kernel
theorem dX5_hourThere_79 : decode cX5_hourThere 79 = .ok (.iload 5, 2) := by decide +kernel
theorem dX5_hourThere_81 : decode cX5_hourThere 81 = .ok (.goto 4, 3) := by decide +kernel
theorem dX5_hourThere_84 : decode cX5_hourThere 84 = .ok (.iconst (-1), 1) := by decide +kernel
theorem dX5_hourThere_85 : decode cX5_hourThere 85 = .ok (.ireturn, 1) := by decide +kernel
theorem dX5_boatNumbered_0 : decode cX5_boatNumbered 0 = .ok (.iload_n 1, 1) := by decide +kernel
theorem dX5_boatNumbered_1 : decode cX5_boatNumbered 1 = .ok (.ifCond .lt 16, 3) := by decide +kernel
theorem dX5_boatNumbered_4 : decode cX5_boatNumbered 4 = .ok (.iload_n 1, 1) := by decide +kernel
theorem dX5_boatNumbered_5 : decode cX5_boatNumbered 5 = .ok (.aload_n 0, 1) := by decide +kernel
theorem dX5_boatNumbered_6 : decode cX5_boatNumbered 6 = .ok (.getfield 26, 3) := by decide +kernel
theorem dX5_boatNumbered_9 : decode cX5_boatNumbered 9 = .ok (.invokeinterface 51 1, 5) := by decide +kernel
theorem dX5_boatNumbered_14 : decode cX5_boatNumbered 14 = .ok (.if_icmp .lt 13, 3) := by decide +kernel
theorem dX5_boatNumbered_17 : decode cX5_boatNumbered 17 = .ok (.new 243, 3) := by decide +kernel
theorem dX5_boatNumbered_20 : decode cX5_boatNumbered 20 = .ok (.dup, 1) := by decide +kernel
theorem dX5_boatNumbered_21 : decode cX5_boatNumbered 21 = .ok (.ldc 245, 2) := by decide +kernel
theorem dX5_boatNumbered_23 : decode cX5_boatNumbered 23 = .ok (.invokespecial 247, 3) := by decide +kernel
theorem dX5_boatNumbered_26 : decode cX5_boatNumbered 26 = .ok (.athrow, 1) := by decide +kernel
theorem dX5_boatNumbered_27 : decode cX5_boatNumbered 27 = .ok (.aload_n 0, 1) := by decide +kernel
theorem dX5_boatNumbered_28 : decode cX5_boatNumbered 28 = .ok (.getfield 26, 3) := by decide +kernel
theorem dX5_boatNumbered_31 : decode cX5_boatNumbered 31 = .ok (.iload_n 1, 1) := by decide +kernel
theorem dX5_boatNumbered_32 : decode cX5_boatNumbered 32 = .ok (.invokeinterface 172 2, 5) := by decide +kernel
theorem dX5_boatNumbered_37 : decode cX5_boatNumbered 37 = .ok (.checkcast 64, 3) := by decide +kernel
theorem dX5_boatNumbered_40 : decode cX5_boatNumbered 40 = .ok (.areturn, 1) := by decide +kernel
theorem dX5_callNumbered_0 : decode cX5_callNumbered 0 = .ok (.iload_n 1, 1) := by decide +kernel
theorem dX5_callNumbered_1 : decode cX5_callNumbered 1 = .ok (.ifCond .lt 16, 3) := by decide +kernel
theorem dX5_callNumbered_4 : decode cX5_callNumbered 4 = .ok (.iload_n 1, 1) := by decide +kernel
theorem dX5_callNumbered_5 : decode cX5_callNumbered 5 = .ok (.aload_n 0, 1) := by decide +kernel
theorem dX5_callNumbered_6 : decode cX5_callNumbered 6 = .ok (.getfield 30, 3) := by decide +kernel
theorem dX5_callNumbered_9 : decode cX5_callNumbered 9 = .ok (.invokeinterface 51 1, 5) := by decide +kernel
theorem dX5_callNumbered_14 : decode cX5_callNumbered 14 = .ok (.if_icmp .lt 13, 3) := by decide +kernel
theorem dX5_callNumbered_17 : decode cX5_callNumbered 17 = .ok (.new 243, 3) := by decide +kernel
theorem dX5_callNumbered_20 : decode cX5_callNumbered 20 = .ok (.dup, 1) := by decide +kernel
theorem dX5_callNumbered_21 : decode cX5_callNumbered 21 = .ok (.ldc 248, 2) := by decide +kernel
theorem dX5_callNumbered_23 : decode cX5_callNumbered 23 = .ok (.invokespecial 247, 3) := by decide +kernel
theorem dX5_callNumbered_26 : decode cX5_callNumbered 26 = .ok (.athrow, 1) := by decide +kernel
theorem dX5_callNumbered_27 : decode cX5_callNumbered 27 = .ok (.aload_n 0, 1) := by decide +kernel
theorem dX5_callNumbered_28 : decode cX5_callNumbered 28 = .ok (.getfield 30, 3) := by decide +kernel
theorem dX5_callNumbered_31 : decode cX5_callNumbered 31 = .ok (.iload_n 1, 1) := by decide +kernel
theorem dX5_callNumbered_32 : decode cX5_callNumbered 32 = .ok (.invokeinterface 172 2, 5) := by decide +kernel
theorem dX5_callNumbered_37 : decode cX5_callNumbered 37 = .ok (.checkcast 98, 3) := by decide +kernel
theorem dX5_callNumbered_40 : decode cX5_callNumbered 40 = .ok (.areturn, 1) := by decide +kernel
theorem dX5_checkClub_0 : decode cX5_checkClub 0 = .ok (.iload_n 0, 1) := by decide +kernel
theorem dX5_checkClub_1 : decode cX5_checkClub 1 = .ok (.ifCond .lt 8, 3) := by decide +kernel
theorem dX5_checkClub_4 : decode cX5_checkClub 4 = .ok (.iload_n 0, 1) := by decide +kernel
theorem dX5_checkClub_5 : decode cX5_checkClub 5 = .ok (.iconst 3, 1) := by decide +kernel
theorem dX5_checkClub_6 : decode cX5_checkClub 6 = .ok (.if_icmp .lt 13, 3) := by decide +kernel
theorem dX5_checkClub_9 : decode cX5_checkClub 9 = .ok (.new 243, 3) := by decide +kernel
theorem dX5_checkClub_12 : decode cX5_checkClub 12 = .ok (.dup, 1) := by decide +kernel
theorem dX5_checkClub_13 : decode cX5_checkClub 13 = .ok (.ldc 250, 2) := by decide +kernel
theorem dX5_checkClub_15 : decode cX5_checkClub 15 = .ok (.invokespecial 247, 3) := by decide +kernel
theorem dX5_checkClub_18 : decode cX5_checkClub 18 = .ok (.athrow, 1) := by decide +kernel
theorem dX5_checkClub_19 : decode cX5_checkClub 19 = .ok (.return_, 1) := by decide +kernel
theorem dX5_checkCell_0 : decode cX5_checkCell 0 = .ok (.iload_n 0, 1) := by decide +kernel
theorem dX5_checkCell_1 : decode cX5_checkCell 1 = .ok (.ifCond .lt 9, 3) := by decide +kernel
theorem dX5_checkCell_4 : decode cX5_checkCell 4 = .ok (.iload_n 0, 1) := by decide +kernel
theorem dX5_checkCell_5 : decode cX5_checkCell 5 = .ok (.bipush 48, 2) := by decide +kernel
theorem dX5_checkCell_7 : decode cX5_checkCell 7 = .ok (.if_icmp .lt 13, 3) := by decide +kernel
theorem dX5_checkCell_10 : decode cX5_checkCell 10 = .ok (.new 243, 3) := by decide +kernel
theorem dX5_checkCell_13 : decode cX5_checkCell 13 = .ok (.dup, 1) := by decide +kernel
theorem dX5_checkCell_14 : decode cX5_checkCell 14 = .ok (.ldc 252, 2) := by decide +kernel
theorem dX5_checkCell_16 : decode cX5_checkCell 16 = .ok (.invokespecial 247, 3) := by decide +kernel
theorem dX5_checkCell_19 : decode cX5_checkCell 19 = .ok (.athrow, 1) := by decide +kernel
theorem dX5_checkCell_20 : decode cX5_checkCell 20 = .ok (.return_, 1) := by decide +kernel
theorem dX5_checkWithin_0 : decode cX5_checkWithin 0 = .ok (.iload_n 0, 1) := by decide +kernel
theorem dX5_checkWithin_1 : decode cX5_checkWithin 1 = .ok (.iload_n 1, 1) := by decide +kernel
theorem dX5_checkWithin_2 : decode cX5_checkWithin 2 = .ok (.if_icmp .lt 8, 3) := by decide +kernel
theorem dX5_checkWithin_5 : decode cX5_checkWithin 5 = .ok (.iload_n 0, 1) := by decide +kernel
theorem dX5_checkWithin_6 : decode cX5_checkWithin 6 = .ok (.iload_n 2, 1) := by decide +kernel
theorem dX5_checkWithin_7 : decode cX5_checkWithin 7 = .ok (.if_icmp .le 13, 3) := by decide +kernel
theorem dX5_checkWithin_10 : decode cX5_checkWithin 10 = .ok (.new 87, 3) := by decide +kernel
theorem dX5_checkWithin_13 : decode cX5_checkWithin 13 = .ok (.dup, 1) := by decide +kernel
theorem dX5_checkWithin_14 : decode cX5_checkWithin 14 = .ok (.ldc 254, 2) := by decide +kernel
theorem dX5_checkWithin_16 : decode cX5_checkWithin 16 = .ok (.invokespecial 91, 3) := by decide +kernel
theorem dX5_checkWithin_19 : decode cX5_checkWithin 19 = .ok (.athrow, 1) := by decide +kernel
theorem dX5_checkWithin_20 : decode cX5_checkWithin 20 = .ok (.return_, 1) := by decide +kernel
theorem dX5_columnOf_0 : decode cX5_columnOf 0 = .ok (.iload_n 0, 1) := by decide +kernel
theorem dX5_columnOf_1 : decode cX5_columnOf 1 = .ok (.bipush 8, 2) := by decide +kernel
theorem dX5_columnOf_3 : decode cX5_columnOf 3 = .ok (.irem, 1) := by decide +kernel
theorem dX5_columnOf_4 : decode cX5_columnOf 4 = .ok (.ireturn, 1) := by decide +kernel
theorem dX5_rowOf_0 : decode cX5_rowOf 0 = .ok (.iload_n 0, 1) := by decide +kernel
theorem dX5_rowOf_1 : decode cX5_rowOf 1 = .ok (.bipush 8, 2) := by decide +kernel
theorem dX5_rowOf_3 : decode cX5_rowOf 3 = .ok (.idiv, 1) := by decide +kernel
theorem dX5_rowOf_4 : decode cX5_rowOf 4 = .ok (.ireturn, 1) := by decide +kernel
theorem dJ9_abs_0f7a4_0 : decode cJ9_abs_0f7a4 0 = .ok (.iload_n 0, 1) := by decide +kernel
theorem dJ9_abs_0f7a4_1 : decode cJ9_abs_0f7a4 1 = .ok (.ifCond .ge 8, 3) := by decide +kernel
theorem dJ9_abs_0f7a4_4 : decode cJ9_abs_0f7a4 4 = .ok (.iload_n 0, 1) := by decide +kernel
theorem dJ9_abs_0f7a4_5 : decode cJ9_abs_0f7a4 5 = .ok (.ineg, 1) := by decide +kernel
theorem dJ9_abs_0f7a4_6 : decode cJ9_abs_0f7a4 6 = .ok (.goto 4, 3) := by decide +kernel
theorem dJ9_abs_0f7a4_9 : decode cJ9_abs_0f7a4 9 = .ok (.iload_n 0, 1) := by decide +kernel
theorem dJ9_abs_0f7a4_10 : decode cJ9_abs_0f7a4 10 = .ok (.ireturn, 1) := by decide +kernel
theorem dJ9_max_7cf53_0 : decode cJ9_max_7cf53 0 = .ok (.iload_n 0, 1) := by decide +kernel
theorem dJ9_max_7cf53_1 : decode cJ9_max_7cf53 1 = .ok (.iload_n 1, 1) := by decide +kernel
theorem dJ9_max_7cf53_2 : decode cJ9_max_7cf53 2 = .ok (.if_icmp .lt 7, 3) := by decide +kernel
theorem dJ9_max_7cf53_5 : decode cJ9_max_7cf53 5 = .ok (.iload_n 0, 1) := by decide +kernel
theorem dJ9_max_7cf53_6 : decode cJ9_max_7cf53 6 = .ok (.goto 4, 3) := by decide +kernel
theorem dJ9_max_7cf53_9 : decode cJ9_max_7cf53 9 = .ok (.iload_n 1, 1) := by decide +kernel
theorem dJ9_max_7cf53_10 : decode cJ9_max_7cf53 10 = .ok (.ireturn, 1) := by decide +kernel
theorem dJ9_min_7cf53_0 : decode cJ9_min_7cf53 0 = .ok (.iload_n 0, 1) := by decide +kernel
theorem dJ9_min_7cf53_1 : decode cJ9_min_7cf53 1 = .ok (.iload_n 1, 1) := by decide +kernel
theorem dJ9_min_7cf53_2 : decode cJ9_min_7cf53 2 = .ok (.if_icmp .gt 7, 3) := by decide +kernel
theorem dJ9_min_7cf53_5 : decode cJ9_min_7cf53 5 = .ok (.iload_n 0, 1) := by decide +kernel
theorem dJ9_min_7cf53_6 : decode cJ9_min_7cf53 6 = .ok (.goto 4, 3) := by decide +kernel
theorem dJ9_min_7cf53_9 : decode cJ9_min_7cf53 9 = .ok (.iload_n 1, 1) := by decide +kernel
theorem dJ9_min_7cf53_10 : decode cJ9_min_7cf53 10 = .ok (.ireturn, 1) := by decide +kernel
theorem dJxa1e45_init_da8c8_0 : decode cJxa1e45_init_da8c8 0 = .ok (.aload_n 0, 1) := by decide +kernel
theorem dJxa1e45_init_da8c8_1 : decode cJxa1e45_init_da8c8 1 = .ok (.invokespecial 1, 3) := by decide +kernel
theorem dJxa1e45_init_da8c8_4 : decode cJxa1e45_init_da8c8 4 = .ok (.return_, 1) := by decide +kernel
theorem dJxc12de_init_da8c8_0 : decode cJxc12de_init_da8c8 0 = .ok (.aload_n 0, 1) := by decide +kernel
theorem dJxc12de_init_da8c8_1 : decode cJxc12de_init_da8c8 1 = .ok (.invokespecial 1, 3) := by decide +kernel
theorem dJxc12de_init_da8c8_4 : decode cJxc12de_init_da8c8 4 = .ok (.aload_n 0, 1) := by decide +kernel
theorem dJxc12de_init_da8c8_5 : decode cJxc12de_init_da8c8 5 = .ok (.iconst 0, 1) := by decide +kernel
theorem dJxc12de_init_da8c8_6 : decode cJxc12de_init_da8c8 6 = .ok (.putfield 7, 3) := by decide +kernel
theorem dJxc12de_init_da8c8_9 : decode cJxc12de_init_da8c8 9 = .ok (.return_, 1) := by decide +kernel
theorem dJx4a65c_init_da8c8_0 : decode cJx4a65c_init_da8c8 0 = .ok (.aload_n 0, 1) := by decide +kernel
theorem dJx4a65c_init_da8c8_1 : decode cJx4a65c_init_da8c8 1 = .ok (.invokespecial 1, 3) := by decide +kernel
theorem dJx4a65c_init_da8c8_4 : decode cJx4a65c_init_da8c8 4 = .ok (.aload_n 0, 1) := by decide +kernel
theorem dJx4a65c_init_da8c8_5 : decode cJx4a65c_init_da8c8 5 = .ok (.getstatic 39, 3) := by decide +kernel
theorem dJx4a65c_init_da8c8_8 : decode cJx4a65c_init_da8c8 8 = .ok (.putfield 9, 3) := by decide +kernel
theorem dJx4a65c_init_da8c8_11 : decode cJx4a65c_init_da8c8 11 = .ok (.return_, 1) := by decide +kernel
theorem dJx4a65c_grow_92f84_0 : decode cJx4a65c_grow_92f84 0 = .ok (.aload_n 0, 1) := by decide +kernel
theorem dJx4a65c_grow_92f84_1 : decode cJx4a65c_grow_92f84 1 = .ok (.getfield 9, 3) := by decide +kernel
theorem dJx4a65c_grow_92f84_4 : decode cJx4a65c_grow_92f84 4 = .ok (.arraylength, 1) := by decide +kernel
theorem dJx4a65c_grow_92f84_5 : decode cJx4a65c_grow_92f84 5 = .ok (.istore_n 2, 1) := by decide +kernel
theorem dJx4a65c_grow_92f84_6 : decode cJx4a65c_grow_92f84 6 = .ok (.iload_n 2, 1) := by decide +kernel
theorem dJx4a65c_grow_92f84_7 : decode cJx4a65c_grow_92f84 7 = .ok (.ifCond .gt 13, 3) := by decide +kernel
theorem dJx4a65c_grow_92f84_10 : decode cJx4a65c_grow_92f84 10 = .ok (.aload_n 0, 1) := by decide +kernel
theorem dJx4a65c_grow_92f84_11 : decode cJx4a65c_grow_92f84 11 = .ok (.getfield 9, 3) := by decide +kernel
theorem dJx4a65c_grow_92f84_14 : decode cJx4a65c_grow_92f84 14 = .ok (.getstatic 39, 3) := by decide +kernel
theorem dJx4a65c_grow_92f84_17 : decode cJx4a65c_grow_92f84 17 = .ok (.if_acmp .eq 28, 3) := by decide +kernel
theorem dJx4a65c_grow_92f84_20 : decode cJx4a65c_grow_92f84 20 = .ok (.iload_n 2, 1) := by decide +kernel
theorem dJx4a65c_grow_92f84_21 : decode cJx4a65c_grow_92f84 21 = .ok (.iload_n 1, 1) := by decide +kernel
theorem dJx4a65c_grow_92f84_22 : decode cJx4a65c_grow_92f84 22 = .ok (.iload_n 2, 1) := by decide +kernel
theorem dJx4a65c_grow_92f84_23 : decode cJx4a65c_grow_92f84 23 = .ok (.isub, 1) := by decide +kernel
theorem dJx4a65c_grow_92f84_24 : decode cJx4a65c_grow_92f84 24 = .ok (.iload_n 2, 1) := by decide +kernel
theorem dJx4a65c_grow_92f84_25 : decode cJx4a65c_grow_92f84 25 = .ok (.iconst 1, 1) := by decide +kernel
theorem dJx4a65c_grow_92f84_26 : decode cJx4a65c_grow_92f84 26 = .ok (.ishr, 1) := by decide +kernel
theorem dJx4a65c_grow_92f84_27 : decode cJx4a65c_grow_92f84 27 = .ok (.invokestatic 73, 3) := by decide +kernel
theorem dJx4a65c_grow_92f84_30 : decode cJx4a65c_grow_92f84 30 = .ok (.istore_n 3, 1) := by decide +kernel
theorem dJx4a65c_grow_92f84_31 : decode cJx4a65c_grow_92f84 31 = .ok (.aload_n 0, 1) := by decide +kernel
theorem dJx4a65c_grow_92f84_32 : decode cJx4a65c_grow_92f84 32 = .ok (.aload_n 0, 1) := by decide +kernel
theorem dJx4a65c_grow_92f84_33 : decode cJx4a65c_grow_92f84 33 = .ok (.getfield 9, 3) := by decide +kernel
theorem dJx4a65c_grow_92f84_36 : decode cJx4a65c_grow_92f84 36 = .ok (.iload_n 3, 1) := by decide +kernel
theorem dJx4a65c_grow_92f84_37 : decode cJx4a65c_grow_92f84 37 = .ok (.invokestatic 66, 3) := by decide +kernel
theorem dJx4a65c_grow_92f84_40 : decode cJx4a65c_grow_92f84 40 = .ok (.dup_x1, 1) := by decide +kernel
theorem dJx4a65c_grow_92f84_41 : decode cJx4a65c_grow_92f84 41 = .ok (.putfield 9, 3) := by decide +kernel
theorem dJx4a65c_grow_92f84_44 : decode cJx4a65c_grow_92f84 44 = .ok (.areturn, 1) := by decide +kernel
theorem dJx4a65c_grow_92f84_45 : decode cJx4a65c_grow_92f84 45 = .ok (.aload_n 0, 1) := by decide +kernel
theorem dJx4a65c_grow_92f84_46 : decode cJx4a65c_grow_92f84 46 = .ok (.bipush 10, 2) := by decide +kernel
theorem dJx4a65c_grow_92f84_48 : decode cJx4a65c_grow_92f84 48 = .ok (.iload_n 1, 1) := by decide +kernel
theorem dJx4a65c_grow_92f84_49 : decode cJx4a65c_grow_92f84 49 = .ok (.invokestatic 79, 3) := by decide +kernel
theorem dJx4a65c_grow_92f84_52 : decode cJx4a65c_grow_92f84 52 = .ok (.anewarray 7, 3) := by decide +kernel
theorem dJx4a65c_grow_92f84_55 : decode cJx4a65c_grow_92f84 55 = .ok (.dup_x1, 1) := by decide +kernel
theorem dJx4a65c_grow_92f84_56 : decode cJx4a65c_grow_92f84 56 = .ok (.putfield 9, 3) := by decide +kernel
theorem dJx4a65c_grow_92f84_59 : decode cJx4a65c_grow_92f84 59 = .ok (.areturn, 1) := by decide +kernel
theorem dJx4a65c_grow_d5877_0 : decode cJx4a65c_grow_d5877 0 = .ok (.aload_n 0, 1) := by decide +kernel
theorem dJx4a65c_grow_d5877_1 : decode cJx4a65c_grow_d5877 1 = .ok (.aload_n 0, 1) := by decide +kernel
theorem dJx4a65c_grow_d5877_2 : decode cJx4a65c_grow_d5877 2 = .ok (.getfield 48, 3) := by decide +kernel
theorem dJx4a65c_grow_d5877_5 : decode cJx4a65c_grow_d5877 5 = .ok (.iconst 1, 1) := by decide +kernel
