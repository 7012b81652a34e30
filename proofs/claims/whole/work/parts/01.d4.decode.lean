theorem dX6_ofBoat_96 : decode cX6_ofBoat 96 = .ok (.ireturn, 1) := by decide +kernel
theorem dX6_ofCall_0 : decode cX6_ofCall 0 = .ok (.aload_n 0, 1) := by decide +kernel
theorem dX6_ofCall_1 : decode cX6_ofCall 1 = .ok (.aload_n 0, 1) := by decide +kernel
theorem dX6_ofCall_2 : decode cX6_ofCall 2 = .ok (.iload_n 1, 1) := by decide +kernel
theorem dX6_ofCall_3 : decode cX6_ofCall 3 = .ok (.iconst 0, 1) := by decide +kernel
theorem dX6_ofCall_4 : decode cX6_ofCall 4 = .ok (.aload_n 0, 1) := by decide +kernel
theorem dX6_ofCall_5 : decode cX6_ofCall 5 = .ok (.getfield 103, 3) := by decide +kernel
theorem dX6_ofCall_8 : decode cX6_ofCall 8 = .ok (.iconst 1, 1) := by decide +kernel
theorem dX6_ofCall_9 : decode cX6_ofCall 9 = .ok (.isub, 1) := by decide +kernel
theorem dX6_ofCall_10 : decode cX6_ofCall 10 = .ok (.invokevirtual 86, 3) := by decide +kernel
theorem dX6_ofCall_13 : decode cX6_ofCall 13 = .ok (.ifCond .ne 7, 3) := by decide +kernel
theorem dX6_ofCall_16 : decode cX6_ofCall 16 = .ok (.iconst 1, 1) := by decide +kernel
theorem dX6_ofCall_17 : decode cX6_ofCall 17 = .ok (.goto 18, 3) := by decide +kernel
theorem dX6_ofCall_20 : decode cX6_ofCall 20 = .ok (.aload_n 0, 1) := by decide +kernel
theorem dX6_ofCall_21 : decode cX6_ofCall 21 = .ok (.iload_n 2, 1) := by decide +kernel
theorem dX6_ofCall_22 : decode cX6_ofCall 22 = .ok (.iconst 0, 1) := by decide +kernel
theorem dX6_ofCall_23 : decode cX6_ofCall 23 = .ok (.iconst 3, 1) := by decide +kernel
theorem dX6_ofCall_24 : decode cX6_ofCall 24 = .ok (.invokevirtual 86, 3) := by decide +kernel
theorem dX6_ofCall_27 : decode cX6_ofCall 27 = .ok (.ifCond .eq 7, 3) := by decide +kernel
theorem dX6_ofCall_30 : decode cX6_ofCall 30 = .ok (.iconst 0, 1) := by decide +kernel
theorem dX6_ofCall_31 : decode cX6_ofCall 31 = .ok (.goto 4, 3) := by decide +kernel
theorem dX6_ofCall_34 : decode cX6_ofCall 34 = .ok (.iconst 2, 1) := by decide +kernel
theorem dX6_ofCall_35 : decode cX6_ofCall 35 = .ok (.invokevirtual 93, 3) := by decide +kernel
theorem dX6_ofCall_38 : decode cX6_ofCall 38 = .ok (.ifCond .eq 5, 3) := by decide +kernel
theorem dX6_ofCall_41 : decode cX6_ofCall 41 = .ok (.iconst (-1), 1) := by decide +kernel
theorem dX6_ofCall_42 : decode cX6_ofCall 42 = .ok (.ireturn, 1) := by decide +kernel
theorem dX6_ofCall_43 : decode cX6_ofCall 43 = .ok (.iload_n 2, 1) := by decide +kernel
theorem dX6_ofCall_44 : decode cX6_ofCall 44 = .ok (.ifCond .ne 12, 3) := by decide +kernel
theorem dX6_ofCall_47 : decode cX6_ofCall 47 = .ok (.aload_n 0, 1) := by decide +kernel
theorem dX6_ofCall_48 : decode cX6_ofCall 48 = .ok (.getfield 60, 3) := by decide +kernel
theorem dX6_ofCall_51 : decode cX6_ofCall 51 = .ok (.iload_n 1, 1) := by decide +kernel
theorem dX6_ofCall_52 : decode cX6_ofCall 52 = .ok (.iaload, 1) := by decide +kernel
theorem dX6_ofCall_53 : decode cX6_ofCall 53 = .ok (.goto 37, 3) := by decide +kernel
theorem dX6_ofCall_56 : decode cX6_ofCall 56 = .ok (.iload_n 2, 1) := by decide +kernel
theorem dX6_ofCall_57 : decode cX6_ofCall 57 = .ok (.iconst 1, 1) := by decide +kernel
theorem dX6_ofCall_58 : decode cX6_ofCall 58 = .ok (.if_icmp .ne 12, 3) := by decide +kernel
theorem dX6_ofCall_61 : decode cX6_ofCall 61 = .ok (.aload_n 0, 1) := by decide +kernel
theorem dX6_ofCall_62 : decode cX6_ofCall 62 = .ok (.getfield 63, 3) := by decide +kernel
theorem dX6_ofCall_65 : decode cX6_ofCall 65 = .ok (.iload_n 1, 1) := by decide +kernel
theorem dX6_ofCall_66 : decode cX6_ofCall 66 = .ok (.iaload, 1) := by decide +kernel
theorem dX6_ofCall_67 : decode cX6_ofCall 67 = .ok (.goto 23, 3) := by decide +kernel
theorem dX6_ofCall_70 : decode cX6_ofCall 70 = .ok (.iload_n 2, 1) := by decide +kernel
theorem dX6_ofCall_71 : decode cX6_ofCall 71 = .ok (.iconst 2, 1) := by decide +kernel
theorem dX6_ofCall_72 : decode cX6_ofCall 72 = .ok (.if_icmp .ne 12, 3) := by decide +kernel
theorem dX6_ofCall_75 : decode cX6_ofCall 75 = .ok (.aload_n 0, 1) := by decide +kernel
theorem dX6_ofCall_76 : decode cX6_ofCall 76 = .ok (.getfield 66, 3) := by decide +kernel
theorem dX6_ofCall_79 : decode cX6_ofCall 79 = .ok (.iload_n 1, 1) := by decide +kernel
theorem dX6_ofCall_80 : decode cX6_ofCall 80 = .ok (.iaload, 1) := by decide +kernel
theorem dX6_ofCall_81 : decode cX6_ofCall 81 = .ok (.goto 9, 3) := by decide +kernel
theorem dX6_ofCall_84 : decode cX6_ofCall 84 = .ok (.aload_n 0, 1) := by decide +kernel
theorem dX6_ofCall_85 : decode cX6_ofCall 85 = .ok (.getfield 69, 3) := by decide +kernel
theorem dX6_ofCall_88 : decode cX6_ofCall 88 = .ok (.iload_n 1, 1) := by decide +kernel
theorem dX6_ofCall_89 : decode cX6_ofCall 89 = .ok (.iaload, 1) := by decide +kernel
theorem dX6_ofCall_90 : decode cX6_ofCall 90 = .ok (.ireturn, 1) := by decide +kernel
theorem dX6_rewards_0 : decode cX6_rewards 0 = .ok (.aload_n 0, 1) := by decide +kernel
theorem dX6_rewards_1 : decode cX6_rewards 1 = .ok (.aload_n 0, 1) := by decide +kernel
theorem dX6_rewards_2 : decode cX6_rewards 2 = .ok (.iload_n 1, 1) := by decide +kernel
theorem dX6_rewards_3 : decode cX6_rewards 3 = .ok (.iconst 0, 1) := by decide +kernel
theorem dX6_rewards_4 : decode cX6_rewards 4 = .ok (.iconst 2, 1) := by decide +kernel
theorem dX6_rewards_5 : decode cX6_rewards 5 = .ok (.invokevirtual 86, 3) := by decide +kernel
theorem dX6_rewards_8 : decode cX6_rewards 8 = .ok (.ifCond .eq 7, 3) := by decide +kernel
theorem dX6_rewards_11 : decode cX6_rewards 11 = .ok (.iconst 0, 1) := by decide +kernel
theorem dX6_rewards_12 : decode cX6_rewards 12 = .ok (.goto 4, 3) := by decide +kernel
theorem dX6_rewards_15 : decode cX6_rewards 15 = .ok (.iconst 1, 1) := by decide +kernel
theorem dX6_rewards_16 : decode cX6_rewards 16 = .ok (.invokevirtual 93, 3) := by decide +kernel
theorem dX6_rewards_19 : decode cX6_rewards 19 = .ok (.ifCond .eq 7, 3) := by decide +kernel
theorem dX6_rewards_22 : decode cX6_rewards 22 = .ok (.iconst (-1), 1) := by decide +kernel
theorem dX6_rewards_23 : decode cX6_rewards 23 = .ok (.goto 9, 3) := by decide +kernel
theorem dX6_rewards_26 : decode cX6_rewards 26 = .ok (.aload_n 0, 1) := by decide +kernel
theorem dX6_rewards_27 : decode cX6_rewards 27 = .ok (.getfield 72, 3) := by decide +kernel
theorem dX6_rewards_30 : decode cX6_rewards 30 = .ok (.iload_n 1, 1) := by decide +kernel
theorem dX6_rewards_31 : decode cX6_rewards 31 = .ok (.iaload, 1) := by decide +kernel
theorem dX6_rewards_32 : decode cX6_rewards 32 = .ok (.ireturn, 1) := by decide +kernel
theorem dX6_rewardsAnew_0 : decode cX6_rewardsAnew 0 = .ok (.aload_n 0, 1) := by decide +kernel
theorem dX6_rewardsAnew_1 : decode cX6_rewardsAnew 1 = .ok (.aload_n 0, 1) := by decide +kernel
theorem dX6_rewardsAnew_2 : decode cX6_rewardsAnew 2 = .ok (.iload_n 1, 1) := by decide +kernel
theorem dX6_rewardsAnew_3 : decode cX6_rewardsAnew 3 = .ok (.iconst 0, 1) := by decide +kernel
theorem dX6_rewardsAnew_4 : decode cX6_rewardsAnew 4 = .ok (.iconst 2, 1) := by decide +kernel
theorem dX6_rewardsAnew_5 : decode cX6_rewardsAnew 5 = .ok (.invokevirtual 86, 3) := by decide +kernel
theorem dX6_rewardsAnew_8 : decode cX6_rewardsAnew 8 = .ok (.ifCond .eq 7, 3) := by decide +kernel
theorem dX6_rewardsAnew_11 : decode cX6_rewardsAnew 11 = .ok (.iconst 0, 1) := by decide +kernel
theorem dX6_rewardsAnew_12 : decode cX6_rewardsAnew 12 = .ok (.goto 4, 3) := by decide +kernel
theorem dX6_rewardsAnew_15 : decode cX6_rewardsAnew 15 = .ok (.iconst 1, 1) := by decide +kernel
theorem dX6_rewardsAnew_16 : decode cX6_rewardsAnew 16 = .ok (.invokevirtual 93, 3) := by decide +kernel
theorem dX6_rewardsAnew_19 : decode cX6_rewardsAnew 19 = .ok (.ifCond .eq 7, 3) := by decide +kernel
theorem dX6_rewardsAnew_22 : decode cX6_rewardsAnew 22 = .ok (.iconst (-1), 1) := by decide +kernel
theorem dX6_rewardsAnew_23 : decode cX6_rewardsAnew 23 = .ok (.goto 9, 3) := by decide +kernel
theorem dX6_rewardsAnew_26 : decode cX6_rewardsAnew 26 = .ok (.aload_n 0, 1) := by decide +kernel
theorem dX6_rewardsAnew_27 : decode cX6_rewardsAnew 27 = .ok (.getfield 72, 3) := by decide +kernel
theorem dX6_rewardsAnew_30 : decode cX6_rewardsAnew 30 = .ok (.iload_n 1, 1) := by decide +kernel
theorem dX6_rewardsAnew_31 : decode cX6_rewardsAnew 31 = .ok (.iaload, 1) := by decide +kernel
theorem dX6_rewardsAnew_32 : decode cX6_rewardsAnew 32 = .ok (.ireturn, 1) := by decide +kernel
theorem dX6_premium_0 : decode cX6_premium 0 = .ok (.aload_n 0, 1) := by decide +kernel
theorem dX6_premium_1 : decode cX6_premium 1 = .ok (.aload_n 0, 1) := by decide +kernel
theorem dX6_premium_2 : decode cX6_premium 2 = .ok (.iload_n 1, 1) := by decide +kernel
theorem dX6_premium_3 : decode cX6_premium 3 = .ok (.iconst 0, 1) := by decide +kernel
theorem dX6_premium_4 : decode cX6_premium 4 = .ok (.bipush 47, 2) := by decide +kernel
theorem dX6_premium_6 : decode cX6_premium 6 = .ok (.invokevirtual 86, 3) := by decide +kernel
theorem dX6_premium_9 : decode cX6_premium 9 = .ok (.ifCond .eq 7, 3) := by decide +kernel
theorem dX6_premium_12 : decode cX6_premium 12 = .ok (.iconst 0, 1) := by decide +kernel
theorem dX6_premium_13 : decode cX6_premium 13 = .ok (.goto 4, 3) := by decide +kernel
theorem dX6_premium_16 : decode cX6_premium 16 = .ok (.iconst 1, 1) := by decide +kernel
theorem dX6_premium_17 : decode cX6_premium 17 = .ok (.invokevirtual 93, 3) := by decide +kernel
theorem dX6_premium_20 : decode cX6_premium 20 = .ok (.ifCond .eq 6, 3) := by decide +kernel
theorem dX6_premium_23 : decode cX6_premium 23 = .ok (.ldc 134, 2) := by decide +kernel
theorem dX6_premium_25 : decode cX6_premium 25 = .ok (.freturn, 1) := by decide +kernel
theorem dX6_premium_26 : decode cX6_premium 26 = .ok (.iconst 0, 1) := by decide +kernel
theorem dX6_premium_27 : decode cX6_premium 27 = .ok (.istore_n 2, 1) := by decide +kernel
theorem dX6_premium_28 : decode cX6_premium 28 = .ok (.iconst 0, 1) := by decide +kernel
theorem dX6_premium_29 : decode cX6_premium 29 = .ok (.istore_n 3, 1) := by decide +kernel
theorem dX6_premium_30 : decode cX6_premium 30 = .ok (.aload_n 0, 1) := by decide +kernel
theorem dX6_premium_31 : decode cX6_premium 31 = .ok (.getfield 100, 3) := by decide +kernel
theorem dX6_premium_34 : decode cX6_premium 34 = .ok (.istore 4, 2) := by decide +kernel
theorem dX6_premium_36 : decode cX6_premium 36 = .ok (.iload 4, 2) := by decide +kernel
theorem dX6_premium_38 : decode cX6_premium 38 = .ok (.aload_n 0, 1) := by decide +kernel
theorem dX6_premium_39 : decode cX6_premium 39 = .ok (.getfield 100, 3) := by decide +kernel
theorem dX6_premium_42 : decode cX6_premium 42 = .ok (.bipush 24, 2) := by decide +kernel
theorem dX6_premium_44 : decode cX6_premium 44 = .ok (.iadd, 1) := by decide +kernel
theorem dX6_premium_45 : decode cX6_premium 45 = .ok (.if_icmp .ge 52, 3) := by decide +kernel
theorem dX6_premium_48 : decode cX6_premium 48 = .ok (.iload 4, 2) := by decide +kernel
theorem dX6_premium_50 : decode cX6_premium 50 = .ok (.sipush 1000, 3) := by decide +kernel
theorem dX6_premium_53 : decode cX6_premium 53 = .ok (.if_icmp .ge 44, 3) := by decide +kernel
theorem dX6_premium_56 : decode cX6_premium 56 = .ok (.aload_n 0, 1) := by decide +kernel
theorem dX6_premium_57 : decode cX6_premium 57 = .ok (.getfield 8, 3) := by decide +kernel
theorem dX6_premium_60 : decode cX6_premium 60 = .ok (.sipush 1000, 3) := by decide +kernel
theorem dX6_premium_63 : decode cX6_premium 63 = .ok (.iload_n 1, 1) := by decide +kernel
theorem dX6_premium_64 : decode cX6_premium 64 = .ok (.imul, 1) := by decide +kernel
theorem dX6_premium_65 : decode cX6_premium 65 = .ok (.iload 4, 2) := by decide +kernel
theorem dX6_premium_67 : decode cX6_premium 67 = .ok (.iadd, 1) := by decide +kernel
theorem dX6_premium_68 : decode cX6_premium 68 = .ok (.baload, 1) := by decide +kernel
theorem dX6_premium_69 : decode cX6_premium 69 = .ok (.iload_n 2, 1) := by decide +kernel
theorem dX6_premium_70 : decode cX6_premium 70 = .ok (.if_icmp .le 19, 3) := by decide +kernel
theorem dX6_premium_73 : decode cX6_premium 73 = .ok (.aload_n 0, 1) := by decide +kernel
theorem dX6_premium_74 : decode cX6_premium 74 = .ok (.getfield 8, 3) := by decide +kernel
theorem dX6_premium_77 : decode cX6_premium 77 = .ok (.sipush 1000, 3) := by decide +kernel
theorem dX6_premium_80 : decode cX6_premium 80 = .ok (.iload_n 1, 1) := by decide +kernel
theorem dX6_premium_81 : decode cX6_premium 81 = .ok (.imul, 1) := by decide +kernel
theorem dX6_premium_82 : decode cX6_premium 82 = .ok (.iload 4, 2) := by decide +kernel
theorem dX6_premium_84 : decode cX6_premium 84 = .ok (.iadd, 1) := by decide +kernel
theorem dX6_premium_85 : decode cX6_premium 85 = .ok (.baload, 1) := by decide +kernel
theorem dX6_premium_86 : decode cX6_premium 86 = .ok (.goto 4, 3) := by decide +kernel
theorem dX6_premium_89 : decode cX6_premium 89 = .ok (.iload_n 2, 1) := by decide +kernel
theorem dX6_premium_90 : decode cX6_premium 90 = .ok (.istore_n 2, 1) := by decide +kernel
theorem dX6_premium_91 : decode cX6_premium 91 = .ok (.iinc 4 1, 3) := by decide +kernel
theorem dX6_premium_94 : decode cX6_premium 94 = .ok (.goto (-58), 3) := by decide +kernel
theorem dX6_premium_97 : decode cX6_premium 97 = .ok (.iconst 0, 1) := by decide +kernel
theorem dX6_premium_98 : decode cX6_premium 98 = .ok (.istore 4, 2) := by decide +kernel
theorem dX6_premium_100 : decode cX6_premium 100 = .ok (.iload 4, 2) := by decide +kernel
theorem dX6_premium_102 : decode cX6_premium 102 = .ok (.aload_n 0, 1) := by decide +kernel
theorem dX6_premium_103 : decode cX6_premium 103 = .ok (.getfield 103, 3) := by decide +kernel
theorem dX6_premium_106 : decode cX6_premium 106 = .ok (.if_icmp .ge 28, 3) := by decide +kernel
theorem dX6_premium_109 : decode cX6_premium 109 = .ok (.iload_n 3, 1) := by decide +kernel
theorem dX6_premium_110 : decode cX6_premium 110 = .ok (.aload_n 0, 1) := by decide +kernel
theorem dX6_premium_111 : decode cX6_premium 111 = .ok (.getfield 51, 3) := by decide +kernel
theorem dX6_premium_114 : decode cX6_premium 114 = .ok (.iload 4, 2) := by decide +kernel
theorem dX6_premium_116 : decode cX6_premium 116 = .ok (.iaload, 1) := by decide +kernel
theorem dX6_premium_117 : decode cX6_premium 117 = .ok (.iload_n 1, 1) := by decide +kernel
theorem dX6_premium_118 : decode cX6_premium 118 = .ok (.if_icmp .ne 7, 3) := by decide +kernel
theorem dX6_premium_121 : decode cX6_premium 121 = .ok (.iconst 1, 1) := by decide +kernel
theorem dX6_premium_122 : decode cX6_premium 122 = .ok (.goto 4, 3) := by decide +kernel
theorem dX6_premium_125 : decode cX6_premium 125 = .ok (.iconst 0, 1) := by decide +kernel
theorem dX6_premium_126 : decode cX6_premium 126 = .ok (.iadd, 1) := by decide +kernel
theorem dX6_premium_127 : decode cX6_premium 127 = .ok (.istore_n 3, 1) := by decide +kernel
theorem dX6_premium_128 : decode cX6_premium 128 = .ok (.iinc 4 1, 3) := by decide +kernel
theorem dX6_premium_131 : decode cX6_premium 131 = .ok (.goto (-31), 3) := by decide +kernel
theorem dX6_premium_134 : decode cX6_premium 134 = .ok (.ldc 135, 2) := by decide +kernel
theorem dX6_premium_136 : decode cX6_premium 136 = .ok (.iload_n 2, 1) := by decide +kernel
theorem dX6_premium_137 : decode cX6_premium 137 = .ok (.i2f, 1) := by decide +kernel
theorem dX6_premium_138 : decode cX6_premium 138 = .ok (.fmul, 1) := by decide +kernel
theorem dX6_premium_139 : decode cX6_premium 139 = .ok (.ldc 136, 2) := by decide +kernel
theorem dX6_premium_141 : decode cX6_premium 141 = .ok (.iload_n 3, 1) := by decide +kernel
theorem dX6_premium_142 : decode cX6_premium 142 = .ok (.i2f, 1) := by decide +kernel
theorem dX6_premium_143 : decode cX6_premium 143 = .ok (.fmul, 1) := by decide +kernel
theorem dX6_premium_144 : decode cX6_premium 144 = .ok (.fadd, 1) := by decide +kernel
theorem dX6_premium_145 : decode cX6_premium 145 = .ok (.freturn, 1) := by decide +kernel
theorem dJ9_abs_0f7a4_0 : decode cJ9_abs_0f7a4 0 = .ok (.iload_n 0, 1) := by decide +kernel
theorem dJ9_abs_0f7a4_1 : decode cJ9_abs_0f7a4 1 = .ok (.ifCond .ge 8, 3) := by decide +kernel
theorem dJ9_abs_0f7a4_4 : decode cJ9_abs_0f7a4 4 = .ok (.iload_n 0, 1) := by decide +kernel
theorem dJ9_abs_0f7a4_5 : decode cJ9_abs_0f7a4 5 = .ok (.ineg, 1) := by decide +kernel
theorem dJ9_abs_0f7a4_6 : decode cJ9_abs_0f7a4 6 = .ok (.goto 4, 3) := by decide +kernel
theorem dJ9_abs_0f7a4_9 : decode cJ9_abs_0f7a4 9 = .ok (.iload_n 0, 1) := by decide +kernel
theorem dJ9_abs_0f7a4_10 : decode cJ9_abs_0f7a4 10 = .ok (.ireturn, 1) := by decide +kernel
theorem dJ9_max_7cf53_0 : decode cJ9_max_7cf53 0 = .ok (.iload_n 0, 1) := by decide +kernel
theorem dJ9_max_7cf53_1 : decode cJ9_max_7cf53 1 = .ok (.iload_n 1, 1) := by decide +kernel
theorem dJ9_max_7cf53_2 : decode cJ9_max_7cf53 2 = .ok (.if_icmp .lt 7, 3) := by decide +kernel
theorem dJ9_max_7cf53_5 : decode cJ9_max_7cf53 5 = .ok (.iload_n 0, 1) := by decide +kernel
theorem dJ9_max_7cf53_6 : decode cJ9_max_7cf53 6 = .ok (.goto 4, 3) := by decide +kernel
theorem dJ9_max_7cf53_9 : decode cJ9_max_7cf53 9 = .ok (.iload_n 1, 1) := by decide +kernel
theorem dJ9_max_7cf53_10 : decode cJ9_max_7cf53 10 = .ok (.ireturn, 1) := by decide +kernel
theorem dJ9_min_7cf53_0 : decode cJ9_min_7cf53 0 = .ok (.iload_n 0, 1) := by decide +kernel
theorem dJ9_min_7cf53_1 : decode cJ9_min_7cf53 1 = .ok (.iload_n 1, 1) := by decide +kernel
theorem dJ9_min_7cf53_2 : decode cJ9_min_7cf53 2 = .ok (.if_icmp .gt 7, 3) := by decide +kernel
theorem dJ9_min_7cf53_5 : decode cJ9_min_7cf53 5 = .ok (.iload_n 0, 1) := by decide +kernel
theorem dJ9_min_7cf53_6 : decode cJ9_min_7cf53 6 = .ok (.goto 4, 3) := by decide +kernel
theorem dJ9_min_7cf53_9 : decode cJ9_min_7cf53 9 = .ok (.iload_n 1, 1) := by decide +kernel
theorem dJ9_min_7cf53_10 : decode cJ9_min_7cf53 10 = .ok (.ireturn, 1) := by decide +kernel
theorem dJxa1e45_init_da8c8_0 : decode cJxa1e45_init_da8c8 0 = .ok (.aload_n 0, 1) := by decide +kernel
theorem dJxa1e45_init_da8c8_1 : decode cJxa1e45_init_da8c8 1 = .ok (.invokespecial 1, 3) := by decide +kernel
theorem dJxa1e45_init_da8c8_4 : decode cJxa1e45_init_da8c8 4 = .ok (.return_, 1) := by decide +kernel
theorem dJxc12de_init_da8c8_0 : decode cJxc12de_init_da8c8 0 = .ok (.aload_n 0, 1) := by decide +kernel
theorem dJxc12de_init_da8c8_1 : decode cJxc12de_init_da8c8 1 = .ok (.invokespecial 1, 3) := by decide +kernel
theorem dJxc12de_init_da8c8_4 : decode cJxc12de_init_da8c8 4 = .ok (.aload_n 0, 1) := by decide +kernel
theorem dJxc12de_init_da8c8_5 : decode cJxc12de_init_da8c8 5 = .ok (.iconst 0, 1) := by decide +kernel
theorem dJxc12de_init_da8c8_6 : decode cJxc12de_init_da8c8 6 = .ok (.putfield 7, 3) := by decide +kernel
theorem dJxc12de_init_da8c8_9 : decode cJxc12de_init_da8c8 9 = .ok (.return_, 1) := by decide +kernel
theorem dJx4a65c_init_da8c8_0 : decode cJx4a65c_init_da8c8 0 = .ok (.aload_n 0, 1) := by decide +kernel
theorem dJx4a65c_init_da8c8_1 : decode cJx4a65c_init_da8c8 1 = .ok (.invokespecial 1, 3) := by decide +kernel
theorem dJx4a65c_init_da8c8_4 : decode cJx4a65c_init_da8c8 4 = .ok (.aload_n 0, 1) := by decide +kernel
theorem dJx4a65c_init_da8c8_5 : decode cJx4a65c_init_da8c8 5 = .ok (.getstatic 39, 3) := by decide +kernel
theorem dJx4a65c_init_da8c8_8 : decode cJx4a65c_init_da8c8 8 = .ok (.putfield 9, 3) := by decide +kernel
theorem dJx4a65c_init_da8c8_11 : decode cJx4a65c_init_da8c8 11 = .ok (.return_, 1) := by decide +kernel
theorem dJx4a65c_grow_92f84_0 : decode cJx4a65c_grow_92f84 0 = .ok (.aload_n 0, 1) := by decide +kernel
theorem dJx4a65c_grow_92f84_1 : decode cJx4a65c_grow_92f84 1 = .ok (.getfield 9, 3) := by decide +kernel
theorem dJx4a65c_grow_92f84_4 : decode cJx4a65c_grow_92f84 4 = .ok (.arraylength, 1) := by decide +kernel
theorem dJx4a65c_grow_92f84_5 : decode cJx4a65c_grow_92f84 5 = .ok (.istore_n 2, 1) := by decide +kernel
theorem dJx4a65c_grow_92f84_6 : decode cJx4a65c_grow_92f84 6 = .ok (.iload_n 2, 1) := by decide +kernel
theorem dJx4a65c_grow_92f84_7 : decode cJx4a65c_grow_92f84 7 = .ok (.ifCond .gt 13, 3) := by decide +kernel
theorem dJx4a65c_grow_92f84_10 : decode cJx4a65c_grow_92f84 10 = .ok (.aload_n 0, 1) := by decide +kernel
theorem dJx4a65c_grow_92f84_11 : decode cJx4a65c_grow_92f84 11 = .ok (.getfield 9, 3) := by decide +kernel
theorem dJx4a65c_grow_92f84_14 : decode cJx4a65c_grow_92f84 14 = .ok (.getstatic 39, 3) := by decide +kernel
theorem dJx4a65c_grow_92f84_17 : decode cJx4a65c_grow_92f84 17 = .ok (.if_acmp .eq 28, 3) := by decide +kernel
theorem dJx4a65c_grow_92f84_20 : decode cJx4a65c_grow_92f84 20 = .ok (.iload_n 2, 1) := by decide +kernel
theorem dJx4a65c_grow_92f84_21 : decode cJx4a65c_grow_92f84 21 = .ok (.iload_n 1, 1) := by decide +kernel
theorem dJx4a65c_grow_92f84_22 : decode cJx4a65c_grow_92f84 22 = .ok (.iload_n 2, 1) := by decide +kernel
theorem dJx4a65c_grow_92f84_23 : decode cJx4a65c_grow_92f84 23 = .ok (.isub, 1) := by decide +kernel
theorem dJx4a65c_grow_92f84_24 : decode cJx4a65c_grow_92f84 24 = .ok (.iload_n 2, 1) := by decide +kernel
theorem dJx4a65c_grow_92f84_25 : decode cJx4a65c_grow_92f84 25 = .ok (.iconst 1, 1) := by decide +kernel
theorem dJx4a65c_grow_92f84_26 : decode cJx4a65c_grow_92f84 26 = .ok (.ishr, 1) := by decide +kernel
theorem dJx4a65c_grow_92f84_27 : decode cJx4a65c_grow_92f84 27 = .ok (.invokestatic 73, 3) := by decide +kernel
theorem dJx4a65c_grow_92f84_30 : decode cJx4a65c_grow_92f84 30 = .ok (.istore_n 3, 1) := by decide +kernel
theorem dJx4a65c_grow_92f84_31 : decode cJx4a65c_grow_92f84 31 = .ok (.aload_n 0, 1) := by decide +kernel
theorem dJx4a65c_grow_92f84_32 : decode cJx4a65c_grow_92f84 32 = .ok (.aload_n 0, 1) := by decide +kernel
theorem dJx4a65c_grow_92f84_33 : decode cJx4a65c_grow_92f84 33 = .ok (.getfield 9, 3) := by decide +kernel
theorem dJx4a65c_grow_92f84_36 : decode cJx4a65c_grow_92f84 36 = .ok (.iload_n 3, 1) := by decide +kernel
theorem dJx4a65c_grow_92f84_37 : decode cJx4a65c_grow_92f84 37 = .ok (.invokestatic 66, 3) := by decide +kernel
theorem dJx4a65c_grow_92f84_40 : decode cJx4a65c_grow_92f84 40 = .ok (.dup_x1, 1) := by decide +kernel
theorem dJx4a65c_grow_92f84_41 : decode cJx4a65c_grow_92f84 41 = .ok (.putfield 9, 3) := by decide +kernel
theorem dJx4a65c_grow_92f84_44 : decode cJx4a65c_grow_92f84 44 = .ok (.areturn, 1) := by decide +kernel
theorem dJx4a65c_grow_92f84_45 : decode cJx4a65c_grow_92f84 45 = .ok (.aload_n 0, 1) := by decide +kernel
theorem dJx4a65c_grow_92f84_46 : decode cJx4a65c_grow_92f84 46 = .ok (.bipush 10, 2) := by decide +kernel
theorem dJx4a65c_grow_92f84_48 : decode cJx4a65c_grow_92f84 48 = .ok (.iload_n 1, 1) := by decide +kernel
theorem dJx4a65c_grow_92f84_49 : decode cJx4a65c_grow_92f84 49 = .ok (.invokestatic 79, 3) := by decide +kernel
theorem dJx4a65c_grow_92f84_52 : decode cJx4a65c_grow_92f84 52 = .ok (.anewarray 7, 3) := by decide +kernel
theorem dJx4a65c_grow_92f84_55 : decode cJx4a65c_grow_92f84 55 = .ok (.dup_x1, 1) := by decide +kernel
theorem dJx4a65c_grow_92f84_56 : decode cJx4a65c_grow_92f84 56 = .ok (.putfield 9, 3) := by decide +kernel
theorem dJx4a65c_grow_92f84_59 : decode cJx4a65c_grow_92f84 59 = .ok (.areturn, 1) := by decide +kernel
theorem dJx4a65c_grow_d5877_0 : decode cJx4a65c_grow_d5877 0 = .ok (.aload_n 0, 1) := by decide +kernel
theorem dJx4a65c_grow_d5877_1 : decode cJx4a65c_grow_d5877 1 = .ok (.aload_n 0, 1) := by decide +kernel
theorem dJx4a65c_grow_d5877_2 : decode cJx4a65c_grow_d5877 2 = .ok (.getfield 48, 3) := by decide +kernel
theorem dJx4a65c_grow_d5877_5 : decode cJx4a65c_grow_d5877 5 = .ok (.iconst 1, 1) := by decide +kernel
theorem dJx4a65c_grow_d5877_6 : decode cJx4a65c_grow_d5877 6 = .ok (.iadd, 1) := by decide +kernel
theorem dJx4a65c_grow_d5877_7 : decode cJx4a65c_grow_d5877 7 = .ok (.invokevirtual 69, 3) := by decide +kernel
theorem dJx4a65c_grow_d5877_10 : decode cJx4a65c_grow_d5877 10 = .ok (.areturn, 1) := by decide +kernel
theorem dJx4a65c_size_8abf5_0 : decode cJx4a65c_size_8abf5 0 = .ok (.aload_n 0, 1) := by decide +kernel
theorem dJx4a65c_size_8abf5_1 : decode cJx4a65c_size_8abf5 1 = .ok (.getfield 48, 3) := by decide +kernel
theorem dJx4a65c_size_8abf5_4 : decode cJx4a65c_size_8abf5 4 = .ok (.ireturn, 1) := by decide +kernel
theorem dJx4a65c_elementData_915e3_0 : decode cJx4a65c_elementData_915e3 0 = .ok (.aload_n 0, 1) := by decide +kernel
theorem dJx4a65c_elementData_915e3_1 : decode cJx4a65c_elementData_915e3 1 = .ok (.getfield 9, 3) := by decide +kernel
theorem dJx4a65c_elementData_915e3_4 : decode cJx4a65c_elementData_915e3 4 = .ok (.iload_n 1, 1) := by decide +kernel
theorem dJx4a65c_elementData_915e3_5 : decode cJx4a65c_elementData_915e3 5 = .ok (.aaload, 1) := by decide +kernel
theorem dJx4a65c_elementData_915e3_6 : decode cJx4a65c_elementData_915e3 6 = .ok (.areturn, 1) := by decide +kernel
theorem dJx4a65c_get_915e3_0 : decode cJx4a65c_get_915e3 0 = .ok (.iload_n 1, 1) := by decide +kernel
theorem dJx4a65c_get_915e3_1 : decode cJx4a65c_get_915e3 1 = .ok (.aload_n 0, 1) := by decide +kernel
theorem dJx4a65c_get_915e3_2 : decode cJx4a65c_get_915e3 2 = .ok (.getfield 48, 3) := by decide +kernel
theorem dJx4a65c_get_915e3_5 : decode cJx4a65c_get_915e3 5 = .ok (.invokestatic 118, 3) := by decide +kernel
theorem dJx4a65c_get_915e3_8 : decode cJx4a65c_get_915e3 8 = .ok (.pop, 1) := by decide +kernel
theorem dJx4a65c_get_915e3_9 : decode cJx4a65c_get_915e3 9 = .ok (.aload_n 0, 1) := by decide +kernel
theorem dJx4a65c_get_915e3_10 : decode cJx4a65c_get_915e3 10 = .ok (.iload_n 1, 1) := by decide +kernel
theorem dJx4a65c_get_915e3_11 : decode cJx4a65c_get_915e3 11 = .ok (.invokevirtual 123, 3) := by decide +kernel
theorem dJx4a65c_get_915e3_14 : decode cJx4a65c_get_915e3 14 = .ok (.areturn, 1) := by decide +kernel
theorem dJx4a65c_add_72be8_0 : decode cJx4a65c_add_72be8 0 = .ok (.iload_n 3, 1) := by decide +kernel
theorem dJx4a65c_add_72be8_1 : decode cJx4a65c_add_72be8 1 = .ok (.aload_n 2, 1) := by decide +kernel
theorem dJx4a65c_add_72be8_2 : decode cJx4a65c_add_72be8 2 = .ok (.arraylength, 1) := by decide +kernel
theorem dJx4a65c_add_72be8_3 : decode cJx4a65c_add_72be8 3 = .ok (.if_icmp .ne 8, 3) := by decide +kernel
theorem dJx4a65c_add_72be8_6 : decode cJx4a65c_add_72be8 6 = .ok (.aload_n 0, 1) := by decide +kernel
theorem dJx4a65c_add_72be8_7 : decode cJx4a65c_add_72be8 7 = .ok (.invokevirtual 129, 3) := by decide +kernel
theorem dJx4a65c_add_72be8_10 : decode cJx4a65c_add_72be8 10 = .ok (.astore_n 2, 1) := by decide +kernel
theorem dJx4a65c_add_72be8_11 : decode cJx4a65c_add_72be8 11 = .ok (.aload_n 2, 1) := by decide +kernel
theorem dJx4a65c_add_72be8_12 : decode cJx4a65c_add_72be8 12 = .ok (.iload_n 3, 1) := by decide +kernel
theorem dJx4a65c_add_72be8_13 : decode cJx4a65c_add_72be8 13 = .ok (.aload_n 1, 1) := by decide +kernel
theorem dJx4a65c_add_72be8_14 : decode cJx4a65c_add_72be8 14 = .ok (.aastore, 1) := by decide +kernel
theorem dJx4a65c_add_72be8_15 : decode cJx4a65c_add_72be8 15 = .ok (.aload_n 0, 1) := by decide +kernel
theorem dJx4a65c_add_72be8_16 : decode cJx4a65c_add_72be8 16 = .ok (.iload_n 3, 1) := by decide +kernel
theorem dJx4a65c_add_72be8_17 : decode cJx4a65c_add_72be8 17 = .ok (.iconst 1, 1) := by decide +kernel
theorem dJx4a65c_add_72be8_18 : decode cJx4a65c_add_72be8 18 = .ok (.iadd, 1) := by decide +kernel
theorem dJx4a65c_add_72be8_19 : decode cJx4a65c_add_72be8 19 = .ok (.putfield 48, 3) := by decide +kernel
theorem dJx4a65c_add_72be8_22 : decode cJx4a65c_add_72be8 22 = .ok (.return_, 1) := by decide +kernel
theorem dJx4a65c_add_9ea2d_0 : decode cJx4a65c_add_9ea2d 0 = .ok (.aload_n 0, 1) := by decide +kernel
theorem dJx4a65c_add_9ea2d_1 : decode cJx4a65c_add_9ea2d 1 = .ok (.dup, 1) := by decide +kernel
theorem dJx4a65c_add_9ea2d_2 : decode cJx4a65c_add_9ea2d 2 = .ok (.getfield 63, 3) := by decide +kernel
theorem dJx4a65c_add_9ea2d_5 : decode cJx4a65c_add_9ea2d 5 = .ok (.iconst 1, 1) := by decide +kernel
theorem dJx4a65c_add_9ea2d_6 : decode cJx4a65c_add_9ea2d 6 = .ok (.iadd, 1) := by decide +kernel
theorem dJx4a65c_add_9ea2d_7 : decode cJx4a65c_add_9ea2d 7 = .ok (.putfield 63, 3) := by decide +kernel
theorem dJx4a65c_add_9ea2d_10 : decode cJx4a65c_add_9ea2d 10 = .ok (.aload_n 0, 1) := by decide +kernel
theorem dJx4a65c_add_9ea2d_11 : decode cJx4a65c_add_9ea2d 11 = .ok (.aload_n 1, 1) := by decide +kernel
theorem dJx4a65c_add_9ea2d_12 : decode cJx4a65c_add_9ea2d 12 = .ok (.aload_n 0, 1) := by decide +kernel
theorem dJx4a65c_add_9ea2d_13 : decode cJx4a65c_add_9ea2d 13 = .ok (.getfield 9, 3) := by decide +kernel
theorem dJx4a65c_add_9ea2d_16 : decode cJx4a65c_add_9ea2d 16 = .ok (.aload_n 0, 1) := by decide +kernel
theorem dJx4a65c_add_9ea2d_17 : decode cJx4a65c_add_9ea2d 17 = .ok (.getfield 48, 3) := by decide +kernel
theorem dJx4a65c_add_9ea2d_20 : decode cJx4a65c_add_9ea2d 20 = .ok (.invokevirtual 131, 3) := by decide +kernel
theorem dJx4a65c_add_9ea2d_23 : decode cJx4a65c_add_9ea2d 23 = .ok (.iconst 1, 1) := by decide +kernel
theorem dJx4a65c_add_9ea2d_24 : decode cJx4a65c_add_9ea2d 24 = .ok (.ireturn, 1) := by decide +kernel
theorem dJ7_copyOf_1904c_0 : decode cJ7_copyOf_1904c 0 = .ok (.aload_n 0, 1) := by decide +kernel
theorem dJ7_copyOf_1904c_1 : decode cJ7_copyOf_1904c 1 = .ok (.iload_n 1, 1) := by decide +kernel
theorem dJ7_copyOf_1904c_2 : decode cJ7_copyOf_1904c 2 = .ok (.aload_n 0, 1) := by decide +kernel
theorem dJ7_copyOf_1904c_3 : decode cJ7_copyOf_1904c 3 = .ok (.invokevirtual 86, 3) := by decide +kernel
theorem dJ7_copyOf_1904c_6 : decode cJ7_copyOf_1904c 6 = .ok (.invokestatic 300, 3) := by decide +kernel
theorem dJ7_copyOf_1904c_9 : decode cJ7_copyOf_1904c 9 = .ok (.areturn, 1) := by decide +kernel
theorem dJ7_copyOf_6403c_0 : decode cJ7_copyOf_6403c 0 = .ok (.aload_n 2, 1) := by decide +kernel
theorem dJ7_copyOf_6403c_1 : decode cJ7_copyOf_6403c 1 = .ok (.ldc 110, 2) := by decide +kernel
theorem dJ7_copyOf_6403c_3 : decode cJ7_copyOf_6403c 3 = .ok (.if_acmp .ne 10, 3) := by decide +kernel
theorem dJ7_copyOf_6403c_6 : decode cJ7_copyOf_6403c 6 = .ok (.iload_n 1, 1) := by decide +kernel
theorem dJ7_copyOf_6403c_7 : decode cJ7_copyOf_6403c 7 = .ok (.anewarray 2, 3) := by decide +kernel
theorem dJ7_copyOf_6403c_10 : decode cJ7_copyOf_6403c 10 = .ok (.goto 14, 3) := by decide +kernel
theorem dJ7_copyOf_6403c_13 : decode cJ7_copyOf_6403c 13 = .ok (.aload_n 2, 1) := by decide +kernel
theorem dJ7_copyOf_6403c_14 : decode cJ7_copyOf_6403c 14 = .ok (.invokevirtual 90, 3) := by decide +kernel
theorem dJ7_copyOf_6403c_17 : decode cJ7_copyOf_6403c 17 = .ok (.iload_n 1, 1) := by decide +kernel
theorem dJ7_copyOf_6403c_18 : decode cJ7_copyOf_6403c 18 = .ok (.invokestatic 95, 3) := by decide +kernel
theorem dJ7_copyOf_6403c_21 : decode cJ7_copyOf_6403c 21 = .ok (.checkcast 110, 3) := by decide +kernel
theorem dJ7_copyOf_6403c_24 : decode cJ7_copyOf_6403c 24 = .ok (.astore_n 3, 1) := by decide +kernel
theorem dJ7_copyOf_6403c_25 : decode cJ7_copyOf_6403c 25 = .ok (.aload_n 0, 1) := by decide +kernel
theorem dJ7_copyOf_6403c_26 : decode cJ7_copyOf_6403c 26 = .ok (.iconst 0, 1) := by decide +kernel
theorem dJ7_copyOf_6403c_27 : decode cJ7_copyOf_6403c 27 = .ok (.aload_n 3, 1) := by decide +kernel
theorem dJ7_copyOf_6403c_28 : decode cJ7_copyOf_6403c 28 = .ok (.iconst 0, 1) := by decide +kernel
theorem dJ7_copyOf_6403c_29 : decode cJ7_copyOf_6403c 29 = .ok (.aload_n 0, 1) := by decide +kernel
theorem dJ7_copyOf_6403c_30 : decode cJ7_copyOf_6403c 30 = .ok (.arraylength, 1) := by decide +kernel
theorem dJ7_copyOf_6403c_31 : decode cJ7_copyOf_6403c 31 = .ok (.iload_n 1, 1) := by decide +kernel
theorem dJ7_copyOf_6403c_32 : decode cJ7_copyOf_6403c 32 = .ok (.invokestatic 304, 3) := by decide +kernel
theorem dJ7_copyOf_6403c_35 : decode cJ7_copyOf_6403c 35 = .ok (.invokestatic 150, 3) := by decide +kernel
theorem dJ7_copyOf_6403c_38 : decode cJ7_copyOf_6403c 38 = .ok (.aload_n 3, 1) := by decide +kernel
theorem dJ7_copyOf_6403c_39 : decode cJ7_copyOf_6403c 39 = .ok (.areturn, 1) := by decide +kernel
theorem dJ15_checkIndex_7cf53_0 : decode cJ15_checkIndex_7cf53 0 = .ok (.iload_n 0, 1) := by decide +kernel
theorem dJ15_checkIndex_7cf53_1 : decode cJ15_checkIndex_7cf53 1 = .ok (.iload_n 1, 1) := by decide +kernel
theorem dJ15_checkIndex_7cf53_2 : decode cJ15_checkIndex_7cf53 2 = .ok (.aconst_null, 1) := by decide +kernel
theorem dJ15_checkIndex_7cf53_3 : decode cJ15_checkIndex_7cf53 3 = .ok (.invokestatic 105, 3) := by decide +kernel
theorem dJ15_checkIndex_7cf53_6 : decode cJ15_checkIndex_7cf53 6 = .ok (.ireturn, 1) := by decide +kernel
theorem dJ8_newLength_cabcc_0 : decode cJ8_newLength_cabcc 0 = .ok (.iload_n 0, 1) := by decide +kernel
theorem dJ8_newLength_cabcc_1 : decode cJ8_newLength_cabcc 1 = .ok (.iload_n 1, 1) := by decide +kernel
theorem dJ8_newLength_cabcc_2 : decode cJ8_newLength_cabcc 2 = .ok (.iload_n 2, 1) := by decide +kernel
theorem dJ8_newLength_cabcc_3 : decode cJ8_newLength_cabcc 3 = .ok (.invokestatic 194, 3) := by decide +kernel
theorem dJ8_newLength_cabcc_6 : decode cJ8_newLength_cabcc 6 = .ok (.iadd, 1) := by decide +kernel
theorem dJ8_newLength_cabcc_7 : decode cJ8_newLength_cabcc 7 = .ok (.istore_n 3, 1) := by decide +kernel
theorem dJ8_newLength_cabcc_8 : decode cJ8_newLength_cabcc 8 = .ok (.iconst 0, 1) := by decide +kernel
theorem dJ8_newLength_cabcc_9 : decode cJ8_newLength_cabcc 9 = .ok (.iload_n 3, 1) := by decide +kernel
theorem dJ8_newLength_cabcc_10 : decode cJ8_newLength_cabcc 10 = .ok (.if_icmp .ge 11, 3) := by decide +kernel
theorem dJ8_newLength_cabcc_13 : decode cJ8_newLength_cabcc 13 = .ok (.iload_n 3, 1) := by decide +kernel
theorem dJ8_newLength_cabcc_14 : decode cJ8_newLength_cabcc 14 = .ok (.ldc 200, 2) := by decide +kernel
theorem dJ8_newLength_cabcc_16 : decode cJ8_newLength_cabcc 16 = .ok (.if_icmp .gt 5, 3) := by decide +kernel
theorem dJ8_newLength_cabcc_19 : decode cJ8_newLength_cabcc 19 = .ok (.iload_n 3, 1) := by decide +kernel
theorem dJ8_newLength_cabcc_20 : decode cJ8_newLength_cabcc 20 = .ok (.ireturn, 1) := by decide +kernel
theorem dJ8_newLength_cabcc_21 : decode cJ8_newLength_cabcc 21 = .ok (.iload_n 0, 1) := by decide +kernel
theorem dJ8_newLength_cabcc_22 : decode cJ8_newLength_cabcc 22 = .ok (.iload_n 1, 1) := by decide +kernel
theorem dJ8_newLength_cabcc_23 : decode cJ8_newLength_cabcc 23 = .ok (.invokestatic 201, 3) := by decide +kernel
theorem dJ8_newLength_cabcc_26 : decode cJ8_newLength_cabcc 26 = .ok (.ireturn, 1) := by decide +kernel
theorem dJ8_hugeLength_7cf53_0 : decode cJ8_hugeLength_7cf53 0 = .ok (.iload_n 0, 1) := by decide +kernel
theorem dJ8_hugeLength_7cf53_1 : decode cJ8_hugeLength_7cf53 1 = .ok (.iload_n 1, 1) := by decide +kernel
theorem dJ8_hugeLength_7cf53_2 : decode cJ8_hugeLength_7cf53 2 = .ok (.iadd, 1) := by decide +kernel
theorem dJ8_hugeLength_7cf53_3 : decode cJ8_hugeLength_7cf53 3 = .ok (.istore_n 2, 1) := by decide +kernel
theorem dJ8_hugeLength_7cf53_4 : decode cJ8_hugeLength_7cf53 4 = .ok (.iload_n 2, 1) := by decide +kernel
theorem dJ8_hugeLength_7cf53_5 : decode cJ8_hugeLength_7cf53 5 = .ok (.ifCond .ge 44, 3) := by decide +kernel
theorem dJ8_hugeLength_7cf53_8 : decode cJ8_hugeLength_7cf53 8 = .ok (.new 204, 3) := by decide +kernel
theorem dJ8_hugeLength_7cf53_11 : decode cJ8_hugeLength_7cf53 11 = .ok (.dup, 1) := by decide +kernel
theorem dJ8_hugeLength_7cf53_12 : decode cJ8_hugeLength_7cf53 12 = .ok (.new 89, 3) := by decide +kernel
theorem dJ8_hugeLength_7cf53_15 : decode cJ8_hugeLength_7cf53 15 = .ok (.dup, 1) := by decide +kernel
theorem dJ8_hugeLength_7cf53_16 : decode cJ8_hugeLength_7cf53 16 = .ok (.invokespecial 91, 3) := by decide +kernel
theorem dJ8_hugeLength_7cf53_19 : decode cJ8_hugeLength_7cf53 19 = .ok (.ldc 206, 2) := by decide +kernel
theorem dJ8_hugeLength_7cf53_21 : decode cJ8_hugeLength_7cf53 21 = .ok (.invokevirtual 94, 3) := by decide +kernel
theorem dJ8_hugeLength_7cf53_24 : decode cJ8_hugeLength_7cf53 24 = .ok (.iload_n 0, 1) := by decide +kernel
theorem dJ8_hugeLength_7cf53_25 : decode cJ8_hugeLength_7cf53 25 = .ok (.invokevirtual 98, 3) := by decide +kernel
theorem dJ8_hugeLength_7cf53_28 : decode cJ8_hugeLength_7cf53 28 = .ok (.ldc 208, 2) := by decide +kernel
theorem dJ8_hugeLength_7cf53_30 : decode cJ8_hugeLength_7cf53 30 = .ok (.invokevirtual 94, 3) := by decide +kernel
theorem dJ8_hugeLength_7cf53_33 : decode cJ8_hugeLength_7cf53 33 = .ok (.iload_n 1, 1) := by decide +kernel
theorem dJ8_hugeLength_7cf53_34 : decode cJ8_hugeLength_7cf53 34 = .ok (.invokevirtual 98, 3) := by decide +kernel
theorem dJ8_hugeLength_7cf53_37 : decode cJ8_hugeLength_7cf53 37 = .ok (.ldc 210, 2) := by decide +kernel
theorem dJ8_hugeLength_7cf53_39 : decode cJ8_hugeLength_7cf53 39 = .ok (.invokevirtual 94, 3) := by decide +kernel
theorem dJ8_hugeLength_7cf53_42 : decode cJ8_hugeLength_7cf53 42 = .ok (.invokevirtual 101, 3) := by decide +kernel
theorem dJ8_hugeLength_7cf53_45 : decode cJ8_hugeLength_7cf53 45 = .ok (.invokespecial 212, 3) := by decide +kernel
theorem dJ8_hugeLength_7cf53_48 : decode cJ8_hugeLength_7cf53 48 = .ok (.athrow, 1) := by decide +kernel
theorem dJ8_hugeLength_7cf53_49 : decode cJ8_hugeLength_7cf53 49 = .ok (.iload_n 2, 1) := by decide +kernel
theorem dJ8_hugeLength_7cf53_50 : decode cJ8_hugeLength_7cf53 50 = .ok (.ldc 200, 2) := by decide +kernel
theorem dJ8_hugeLength_7cf53_52 : decode cJ8_hugeLength_7cf53 52 = .ok (.if_icmp .gt 6, 3) := by decide +kernel
theorem dJ8_hugeLength_7cf53_55 : decode cJ8_hugeLength_7cf53 55 = .ok (.ldc 200, 2) := by decide +kernel
theorem dJ8_hugeLength_7cf53_57 : decode cJ8_hugeLength_7cf53 57 = .ok (.ireturn, 1) := by decide +kernel
theorem dJ8_hugeLength_7cf53_58 : decode cJ8_hugeLength_7cf53 58 = .ok (.iload_n 2, 1) := by decide +kernel
theorem dJ8_hugeLength_7cf53_59 : decode cJ8_hugeLength_7cf53 59 = .ok (.ireturn, 1) := by decide +kernel
theorem dJ3_checkIndex_8e157_0 : decode cJ3_checkIndex_8e157 0 = .ok (.iload_n 0, 1) := by decide +kernel
theorem dJ3_checkIndex_8e157_1 : decode cJ3_checkIndex_8e157 1 = .ok (.ifCond .lt 8, 3) := by decide +kernel
theorem dJ3_checkIndex_8e157_4 : decode cJ3_checkIndex_8e157 4 = .ok (.iload_n 0, 1) := by decide +kernel
theorem dJ3_checkIndex_8e157_5 : decode cJ3_checkIndex_8e157 5 = .ok (.iload_n 1, 1) := by decide +kernel
theorem dJ3_checkIndex_8e157_6 : decode cJ3_checkIndex_8e157 6 = .ok (.if_icmp .lt 10, 3) := by decide +kernel
theorem dJ3_checkIndex_8e157_9 : decode cJ3_checkIndex_8e157 9 = .ok (.aload_n 2, 1) := by decide +kernel
theorem dJ3_checkIndex_8e157_10 : decode cJ3_checkIndex_8e157 10 = .ok (.iload_n 0, 1) := by decide +kernel
theorem dJ3_checkIndex_8e157_11 : decode cJ3_checkIndex_8e157 11 = .ok (.iload_n 1, 1) := by decide +kernel
theorem dJ3_checkIndex_8e157_12 : decode cJ3_checkIndex_8e157 12 = .ok (.invokestatic 95, 3) := by decide +kernel
theorem dJ3_checkIndex_8e157_15 : decode cJ3_checkIndex_8e157 15 = .ok (.athrow, 1) := by decide +kernel
theorem dJ3_checkIndex_8e157_16 : decode cJ3_checkIndex_8e157 16 = .ok (.iload_n 0, 1) := by decide +kernel
theorem dJ3_checkIndex_8e157_17 : decode cJ3_checkIndex_8e157 17 = .ok (.ireturn, 1) := by decide +kernel
theorem dL_boat_0 : decode cL_boat 0 = .ok (.aload 6, 2) := by decide +kernel
theorem dL_boat_2 : decode cL_boat 2 = .ok (.iconst 0, 1) := by decide +kernel
theorem dL_boat_3 : decode cL_boat 3 = .ok (.aload_n 0, 1) := by decide +kernel
theorem dL_boat_4 : decode cL_boat 4 = .ok (.iload_n 1, 1) := by decide +kernel
theorem dL_boat_5 : decode cL_boat 5 = .ok (.iload_n 2, 1) := by decide +kernel
theorem dL_boat_6 : decode cL_boat 6 = .ok (.iload_n 3, 1) := by decide +kernel
theorem dL_boat_7 : decode cL_boat 7 = .ok (.iload 4, 2) := by decide +kernel
theorem dL_boat_9 : decode cL_boat 9 = .ok (.iload 5, 2) := by decide +kernel
theorem dL_boat_11 : decode cL_boat 11 = .ok (.invokevirtual 7, 3) := by decide +kernel
theorem dL_boat_14 : decode cL_boat 14 = .ok (.i2l, 1) := by decide +kernel
theorem dL_boat_15 : decode cL_boat 15 = .ok (.lastore, 1) := by decide +kernel
theorem dL_boat_16 : decode cL_boat 16 = .ok (.goto 15, 3) := by decide +kernel
theorem dL_boat_19 : decode cL_boat 19 = .ok (.astore 7, 2) := by decide +kernel
theorem dL_boat_21 : decode cL_boat 21 = .ok (.iconst 1, 1) := by decide +kernel
theorem dL_boat_22 : decode cL_boat 22 = .ok (.ireturn, 1) := by decide +kernel
theorem dL_boat_23 : decode cL_boat 23 = .ok (.astore 7, 2) := by decide +kernel
theorem dL_boat_25 : decode cL_boat 25 = .ok (.iconst 2, 1) := by decide +kernel
theorem dL_boat_26 : decode cL_boat 26 = .ok (.ireturn, 1) := by decide +kernel
theorem dL_boat_27 : decode cL_boat 27 = .ok (.astore 7, 2) := by decide +kernel
theorem dL_boat_29 : decode cL_boat 29 = .ok (.iconst 3, 1) := by decide +kernel
theorem dL_boat_30 : decode cL_boat 30 = .ok (.ireturn, 1) := by decide +kernel
theorem dL_boat_31 : decode cL_boat 31 = .ok (.iconst 0, 1) := by decide +kernel
theorem dL_boat_32 : decode cL_boat 32 = .ok (.ireturn, 1) := by decide +kernel
theorem dL_lend_0 : decode cL_lend 0 = .ok (.aload_n 3, 1) := by decide +kernel
theorem dL_lend_1 : decode cL_lend 1 = .ok (.iconst 0, 1) := by decide +kernel
theorem dL_lend_2 : decode cL_lend 2 = .ok (.aload_n 0, 1) := by decide +kernel
theorem dL_lend_3 : decode cL_lend 3 = .ok (.iload_n 1, 1) := by decide +kernel
theorem dL_lend_4 : decode cL_lend 4 = .ok (.iload_n 2, 1) := by decide +kernel
theorem dL_lend_5 : decode cL_lend 5 = .ok (.invokevirtual 19, 3) := by decide +kernel
theorem dL_lend_8 : decode cL_lend 8 = .ok (.i2l, 1) := by decide +kernel
theorem dL_lend_9 : decode cL_lend 9 = .ok (.lastore, 1) := by decide +kernel
theorem dL_lend_10 : decode cL_lend 10 = .ok (.goto 7, 3) := by decide +kernel
theorem dL_lend_13 : decode cL_lend 13 = .ok (.astore 4, 2) := by decide +kernel
theorem dL_lend_15 : decode cL_lend 15 = .ok (.iconst 1, 1) := by decide +kernel
theorem dL_lend_16 : decode cL_lend 16 = .ok (.ireturn, 1) := by decide +kernel
theorem dL_lend_17 : decode cL_lend 17 = .ok (.iconst 0, 1) := by decide +kernel
theorem dL_lend_18 : decode cL_lend 18 = .ok (.ireturn, 1) := by decide +kernel
theorem dL_foretell_0 : decode cL_foretell 0 = .ok (.aload 6, 2) := by decide +kernel
theorem dL_foretell_2 : decode cL_foretell 2 = .ok (.iconst 0, 1) := by decide +kernel
theorem dL_foretell_3 : decode cL_foretell 3 = .ok (.aload_n 0, 1) := by decide +kernel
theorem dL_foretell_4 : decode cL_foretell 4 = .ok (.iload_n 1, 1) := by decide +kernel
theorem dL_foretell_5 : decode cL_foretell 5 = .ok (.iload_n 2, 1) := by decide +kernel
theorem dL_foretell_6 : decode cL_foretell 6 = .ok (.iload_n 3, 1) := by decide +kernel
theorem dL_foretell_7 : decode cL_foretell 7 = .ok (.iload 4, 2) := by decide +kernel
theorem dL_foretell_9 : decode cL_foretell 9 = .ok (.iload 5, 2) := by decide +kernel
theorem dL_foretell_11 : decode cL_foretell 11 = .ok (.invokevirtual 23, 3) := by decide +kernel
theorem dL_foretell_14 : decode cL_foretell 14 = .ok (.i2l, 1) := by decide +kernel
theorem dL_foretell_15 : decode cL_foretell 15 = .ok (.lastore, 1) := by decide +kernel
theorem dL_foretell_16 : decode cL_foretell 16 = .ok (.goto 11, 3) := by decide +kernel
theorem dL_foretell_19 : decode cL_foretell 19 = .ok (.astore 7, 2) := by decide +kernel
theorem dL_foretell_21 : decode cL_foretell 21 = .ok (.iconst 1, 1) := by decide +kernel
theorem dL_foretell_22 : decode cL_foretell 22 = .ok (.ireturn, 1) := by decide +kernel
theorem dL_foretell_23 : decode cL_foretell 23 = .ok (.astore 7, 2) := by decide +kernel
theorem dL_foretell_25 : decode cL_foretell 25 = .ok (.iconst 2, 1) := by decide +kernel
theorem dL_foretell_26 : decode cL_foretell 26 = .ok (.ireturn, 1) := by decide +kernel
theorem dL_foretell_27 : decode cL_foretell 27 = .ok (.iconst 0, 1) := by decide +kernel
theorem dL_foretell_28 : decode cL_foretell 28 = .ok (.ireturn, 1) := by decide +kernel
theorem dL_call_0 : decode cL_call 0 = .ok (.aload 4, 2) := by decide +kernel
theorem dL_call_2 : decode cL_call 2 = .ok (.iconst 0, 1) := by decide +kernel
theorem dL_call_3 : decode cL_call 3 = .ok (.aload_n 0, 1) := by decide +kernel
theorem dL_call_4 : decode cL_call 4 = .ok (.iload_n 1, 1) := by decide +kernel
theorem dL_call_5 : decode cL_call 5 = .ok (.iload_n 2, 1) := by decide +kernel
theorem dL_call_6 : decode cL_call 6 = .ok (.iload_n 3, 1) := by decide +kernel
theorem dL_call_7 : decode cL_call 7 = .ok (.invokevirtual 26, 3) := by decide +kernel
theorem dL_call_10 : decode cL_call 10 = .ok (.i2l, 1) := by decide +kernel
theorem dL_call_11 : decode cL_call 11 = .ok (.lastore, 1) := by decide +kernel
theorem dL_call_12 : decode cL_call 12 = .ok (.goto 15, 3) := by decide +kernel
theorem dL_call_15 : decode cL_call 15 = .ok (.astore 5, 2) := by decide +kernel
theorem dL_call_17 : decode cL_call 17 = .ok (.iconst 1, 1) := by decide +kernel
theorem dL_call_18 : decode cL_call 18 = .ok (.ireturn, 1) := by decide +kernel
theorem dL_call_19 : decode cL_call 19 = .ok (.astore 5, 2) := by decide +kernel
theorem dL_call_21 : decode cL_call 21 = .ok (.iconst 2, 1) := by decide +kernel
theorem dL_call_22 : decode cL_call 22 = .ok (.ireturn, 1) := by decide +kernel
theorem dL_call_23 : decode cL_call 23 = .ok (.astore 5, 2) := by decide +kernel
theorem dL_call_25 : decode cL_call 25 = .ok (.iconst 3, 1) := by decide +kernel
theorem dL_call_26 : decode cL_call 26 = .ok (.ireturn, 1) := by decide +kernel
theorem dL_call_27 : decode cL_call 27 = .ok (.iconst 0, 1) := by decide +kernel
theorem dL_call_28 : decode cL_call 28 = .ok (.ireturn, 1) := by decide +kernel
theorem dL_cap_0 : decode cL_cap 0 = .ok (.aload_n 2, 1) := by decide +kernel
theorem dL_cap_1 : decode cL_cap 1 = .ok (.iconst 0, 1) := by decide +kernel
theorem dL_cap_2 : decode cL_cap 2 = .ok (.aload_n 0, 1) := by decide +kernel
theorem dL_cap_3 : decode cL_cap 3 = .ok (.iload_n 1, 1) := by decide +kernel
theorem dL_cap_4 : decode cL_cap 4 = .ok (.invokevirtual 30, 3) := by decide +kernel
theorem dL_cap_7 : decode cL_cap 7 = .ok (.i2l, 1) := by decide +kernel
theorem dL_cap_8 : decode cL_cap 8 = .ok (.lastore, 1) := by decide +kernel
theorem dL_cap_9 : decode cL_cap 9 = .ok (.goto 6, 3) := by decide +kernel
theorem dL_cap_12 : decode cL_cap 12 = .ok (.astore_n 3, 1) := by decide +kernel
theorem dL_cap_13 : decode cL_cap 13 = .ok (.iconst 1, 1) := by decide +kernel
theorem dL_cap_14 : decode cL_cap 14 = .ok (.ireturn, 1) := by decide +kernel
theorem dL_cap_15 : decode cL_cap 15 = .ok (.iconst 0, 1) := by decide +kernel
theorem dL_cap_16 : decode cL_cap 16 = .ok (.ireturn, 1) := by decide +kernel
theorem dL_pass_0 : decode cL_pass 0 = .ok (.aload_n 2, 1) := by decide +kernel
theorem dL_pass_1 : decode cL_pass 1 = .ok (.iconst 0, 1) := by decide +kernel
theorem dL_pass_2 : decode cL_pass 2 = .ok (.aload_n 0, 1) := by decide +kernel
theorem dL_pass_3 : decode cL_pass 3 = .ok (.iload_n 1, 1) := by decide +kernel
theorem dL_pass_4 : decode cL_pass 4 = .ok (.invokevirtual 34, 3) := by decide +kernel
theorem dL_pass_7 : decode cL_pass 7 = .ok (.i2l, 1) := by decide +kernel
theorem dL_pass_8 : decode cL_pass 8 = .ok (.lastore, 1) := by decide +kernel
theorem dL_pass_9 : decode cL_pass 9 = .ok (.goto 9, 3) := by decide +kernel
theorem dL_pass_12 : decode cL_pass 12 = .ok (.astore_n 3, 1) := by decide +kernel
theorem dL_pass_13 : decode cL_pass 13 = .ok (.iconst 1, 1) := by decide +kernel
theorem dL_pass_14 : decode cL_pass 14 = .ok (.ireturn, 1) := by decide +kernel
theorem dL_pass_15 : decode cL_pass 15 = .ok (.astore_n 3, 1) := by decide +kernel
theorem dL_pass_16 : decode cL_pass 16 = .ok (.iconst 2, 1) := by decide +kernel
theorem dL_pass_17 : decode cL_pass 17 = .ok (.ireturn, 1) := by decide +kernel
theorem dL_pass_18 : decode cL_pass 18 = .ok (.iconst 0, 1) := by decide +kernel
theorem dL_pass_19 : decode cL_pass 19 = .ok (.ireturn, 1) := by decide +kernel
theorem dL_storm_0 : decode cL_storm 0 = .ok (.aload_n 3, 1) := by decide +kernel
theorem dL_storm_1 : decode cL_storm 1 = .ok (.iconst 0, 1) := by decide +kernel
theorem dL_storm_2 : decode cL_storm 2 = .ok (.aload_n 0, 1) := by decide +kernel
theorem dL_storm_3 : decode cL_storm 3 = .ok (.iload_n 1, 1) := by decide +kernel
theorem dL_storm_4 : decode cL_storm 4 = .ok (.iload_n 2, 1) := by decide +kernel
theorem dL_storm_5 : decode cL_storm 5 = .ok (.invokevirtual 37, 3) := by decide +kernel
theorem dL_storm_8 : decode cL_storm 8 = .ok (.i2l, 1) := by decide +kernel
theorem dL_storm_9 : decode cL_storm 9 = .ok (.lastore, 1) := by decide +kernel
theorem dL_storm_10 : decode cL_storm 10 = .ok (.goto 11, 3) := by decide +kernel
theorem dL_storm_13 : decode cL_storm 13 = .ok (.astore 4, 2) := by decide +kernel
theorem dL_storm_15 : decode cL_storm 15 = .ok (.iconst 1, 1) := by decide +kernel
theorem dL_storm_16 : decode cL_storm 16 = .ok (.ireturn, 1) := by decide +kernel
theorem dL_storm_17 : decode cL_storm 17 = .ok (.astore 4, 2) := by decide +kernel
theorem dL_storm_19 : decode cL_storm 19 = .ok (.iconst 2, 1) := by decide +kernel
theorem dL_storm_20 : decode cL_storm 20 = .ok (.ireturn, 1) := by decide +kernel
theorem dL_storm_21 : decode cL_storm 21 = .ok (.iconst 0, 1) := by decide +kernel
theorem dL_storm_22 : decode cL_storm 22 = .ok (.ireturn, 1) := by decide +kernel
theorem dL_ofBoat_0 : decode cL_ofBoat 0 = .ok (.aload_n 3, 1) := by decide +kernel
theorem dL_ofBoat_1 : decode cL_ofBoat 1 = .ok (.iconst 0, 1) := by decide +kernel
theorem dL_ofBoat_2 : decode cL_ofBoat 2 = .ok (.aload_n 0, 1) := by decide +kernel
theorem dL_ofBoat_3 : decode cL_ofBoat 3 = .ok (.iload_n 1, 1) := by decide +kernel
theorem dL_ofBoat_4 : decode cL_ofBoat 4 = .ok (.iload_n 2, 1) := by decide +kernel
theorem dL_ofBoat_5 : decode cL_ofBoat 5 = .ok (.invokevirtual 40, 3) := by decide +kernel
theorem dL_ofBoat_8 : decode cL_ofBoat 8 = .ok (.i2l, 1) := by decide +kernel
theorem dL_ofBoat_9 : decode cL_ofBoat 9 = .ok (.lastore, 1) := by decide +kernel
theorem dL_ofBoat_10 : decode cL_ofBoat 10 = .ok (.goto 11, 3) := by decide +kernel
theorem dL_ofBoat_13 : decode cL_ofBoat 13 = .ok (.astore 4, 2) := by decide +kernel
theorem dL_ofBoat_15 : decode cL_ofBoat 15 = .ok (.iconst 1, 1) := by decide +kernel
theorem dL_ofBoat_16 : decode cL_ofBoat 16 = .ok (.ireturn, 1) := by decide +kernel
theorem dL_ofBoat_17 : decode cL_ofBoat 17 = .ok (.astore 4, 2) := by decide +kernel
theorem dL_ofBoat_19 : decode cL_ofBoat 19 = .ok (.iconst 2, 1) := by decide +kernel
theorem dL_ofBoat_20 : decode cL_ofBoat 20 = .ok (.ireturn, 1) := by decide +kernel
theorem dL_ofBoat_21 : decode cL_ofBoat 21 = .ok (.iconst 0, 1) := by decide +kernel
theorem dL_ofBoat_22 : decode cL_ofBoat 22 = .ok (.ireturn, 1) := by decide +kernel
theorem dL_ofCall_0 : decode cL_ofCall 0 = .ok (.aload_n 3, 1) := by decide +kernel
theorem dL_ofCall_1 : decode cL_ofCall 1 = .ok (.iconst 0, 1) := by decide +kernel
theorem dL_ofCall_2 : decode cL_ofCall 2 = .ok (.aload_n 0, 1) := by decide +kernel
theorem dL_ofCall_3 : decode cL_ofCall 3 = .ok (.iload_n 1, 1) := by decide +kernel
theorem dL_ofCall_4 : decode cL_ofCall 4 = .ok (.iload_n 2, 1) := by decide +kernel
theorem dL_ofCall_5 : decode cL_ofCall 5 = .ok (.invokevirtual 43, 3) := by decide +kernel
theorem dL_ofCall_8 : decode cL_ofCall 8 = .ok (.i2l, 1) := by decide +kernel
theorem dL_ofCall_9 : decode cL_ofCall 9 = .ok (.lastore, 1) := by decide +kernel
theorem dL_ofCall_10 : decode cL_ofCall 10 = .ok (.goto 11, 3) := by decide +kernel
theorem dL_ofCall_13 : decode cL_ofCall 13 = .ok (.astore 4, 2) := by decide +kernel
theorem dL_ofCall_15 : decode cL_ofCall 15 = .ok (.iconst 1, 1) := by decide +kernel
theorem dL_ofCall_16 : decode cL_ofCall 16 = .ok (.ireturn, 1) := by decide +kernel
theorem dL_ofCall_17 : decode cL_ofCall 17 = .ok (.astore 4, 2) := by decide +kernel
theorem dL_ofCall_19 : decode cL_ofCall 19 = .ok (.iconst 2, 1) := by decide +kernel
theorem dL_ofCall_20 : decode cL_ofCall 20 = .ok (.ireturn, 1) := by decide +kernel
theorem dL_ofCall_21 : decode cL_ofCall 21 = .ok (.iconst 0, 1) := by decide +kernel
theorem dL_ofCall_22 : decode cL_ofCall 22 = .ok (.ireturn, 1) := by decide +kernel
theorem dL_rewards_0 : decode cL_rewards 0 = .ok (.aload_n 2, 1) := by decide +kernel
theorem dL_rewards_1 : decode cL_rewards 1 = .ok (.iconst 0, 1) := by decide +kernel
theorem dL_rewards_2 : decode cL_rewards 2 = .ok (.aload_n 0, 1) := by decide +kernel
theorem dL_rewards_3 : decode cL_rewards 3 = .ok (.iload_n 1, 1) := by decide +kernel
theorem dL_rewards_4 : decode cL_rewards 4 = .ok (.invokevirtual 46, 3) := by decide +kernel
theorem dL_rewards_7 : decode cL_rewards 7 = .ok (.i2l, 1) := by decide +kernel
theorem dL_rewards_8 : decode cL_rewards 8 = .ok (.lastore, 1) := by decide +kernel
theorem dL_rewards_9 : decode cL_rewards 9 = .ok (.goto 6, 3) := by decide +kernel
theorem dL_rewards_12 : decode cL_rewards 12 = .ok (.astore_n 3, 1) := by decide +kernel
theorem dL_rewards_13 : decode cL_rewards 13 = .ok (.iconst 1, 1) := by decide +kernel
theorem dL_rewards_14 : decode cL_rewards 14 = .ok (.ireturn, 1) := by decide +kernel
theorem dL_rewards_15 : decode cL_rewards 15 = .ok (.iconst 0, 1) := by decide +kernel
theorem dL_rewards_16 : decode cL_rewards 16 = .ok (.ireturn, 1) := by decide +kernel
theorem dL_rewardsAnew_0 : decode cL_rewardsAnew 0 = .ok (.aload_n 2, 1) := by decide +kernel
theorem dL_rewardsAnew_1 : decode cL_rewardsAnew 1 = .ok (.iconst 0, 1) := by decide +kernel
theorem dL_rewardsAnew_2 : decode cL_rewardsAnew 2 = .ok (.aload_n 0, 1) := by decide +kernel
theorem dL_rewardsAnew_3 : decode cL_rewardsAnew 3 = .ok (.iload_n 1, 1) := by decide +kernel
theorem dL_rewardsAnew_4 : decode cL_rewardsAnew 4 = .ok (.invokevirtual 49, 3) := by decide +kernel
theorem dL_rewardsAnew_7 : decode cL_rewardsAnew 7 = .ok (.i2l, 1) := by decide +kernel
theorem dL_rewardsAnew_8 : decode cL_rewardsAnew 8 = .ok (.lastore, 1) := by decide +kernel
theorem dL_rewardsAnew_9 : decode cL_rewardsAnew 9 = .ok (.goto 6, 3) := by decide +kernel
theorem dL_rewardsAnew_12 : decode cL_rewardsAnew 12 = .ok (.astore_n 3, 1) := by decide +kernel
theorem dL_rewardsAnew_13 : decode cL_rewardsAnew 13 = .ok (.iconst 1, 1) := by decide +kernel
theorem dL_rewardsAnew_14 : decode cL_rewardsAnew 14 = .ok (.ireturn, 1) := by decide +kernel
theorem dL_rewardsAnew_15 : decode cL_rewardsAnew 15 = .ok (.iconst 0, 1) := by decide +kernel
theorem dL_rewardsAnew_16 : decode cL_rewardsAnew 16 = .ok (.ireturn, 1) := by decide +kernel
theorem dL_premium_0 : decode cL_premium 0 = .ok (.aload_n 2, 1) := by decide +kernel
theorem dL_premium_1 : decode cL_premium 1 = .ok (.iconst 0, 1) := by decide +kernel
theorem dL_premium_2 : decode cL_premium 2 = .ok (.aload_n 0, 1) := by decide +kernel
theorem dL_premium_3 : decode cL_premium 3 = .ok (.iload_n 1, 1) := by decide +kernel
theorem dL_premium_4 : decode cL_premium 4 = .ok (.invokevirtual 52, 3) := by decide +kernel
theorem dL_premium_7 : decode cL_premium 7 = .ok (.f2d, 1) := by decide +kernel
theorem dL_premium_8 : decode cL_premium 8 = .ok (.dastore, 1) := by decide +kernel
theorem dL_premium_9 : decode cL_premium 9 = .ok (.goto 6, 3) := by decide +kernel
theorem dL_premium_12 : decode cL_premium 12 = .ok (.astore_n 3, 1) := by decide +kernel
theorem dL_premium_13 : decode cL_premium 13 = .ok (.iconst 1, 1) := by decide +kernel
theorem dL_premium_14 : decode cL_premium 14 = .ok (.ireturn, 1) := by decide +kernel
theorem dL_premium_15 : decode cL_premium 15 = .ok (.iconst 0, 1) := by decide +kernel
theorem dL_premium_16 : decode cL_premium 16 = .ok (.ireturn, 1) := by decide +kernel
theorem dL_law_0 : decode cL_law 0 = .ok (.new 8, 3) := by decide +kernel
theorem dL_law_3 : decode cL_law 3 = .ok (.dup, 1) := by decide +kernel
theorem dL_law_4 : decode cL_law 4 = .ok (.invokespecial 56, 3) := by decide +kernel
theorem dL_law_7 : decode cL_law 7 = .ok (.astore_n 1, 1) := by decide +kernel
theorem dL_law_8 : decode cL_law 8 = .ok (.new 57, 3) := by decide +kernel
theorem dL_law_11 : decode cL_law 11 = .ok (.dup, 1) := by decide +kernel
