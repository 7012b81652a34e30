theorem dX6_turnsBack_87 : decode cX6_turnsBack 87 = .ok (.aload_n 0, 1) := by decide +kernel
theorem dX6_turnsBack_88 : decode cX6_turnsBack 88 = .ok (.getfield 30, 3) := by decide +kernel
theorem dX6_turnsBack_91 : decode cX6_turnsBack 91 = .ok (.iload_n 1, 1) := by decide +kernel
theorem dX6_turnsBack_92 : decode cX6_turnsBack 92 = .ok (.iaload, 1) := by decide +kernel
theorem dX6_turnsBack_93 : decode cX6_turnsBack 93 = .ok (.iconst 2, 1) := by decide +kernel
theorem dX6_turnsBack_94 : decode cX6_turnsBack 94 = .ok (.aload_n 0, 1) := by decide +kernel
theorem dX6_turnsBack_95 : decode cX6_turnsBack 95 = .ok (.getfield 24, 3) := by decide +kernel
theorem dX6_turnsBack_98 : decode cX6_turnsBack 98 = .ok (.iload_n 1, 1) := by decide +kernel
theorem dX6_turnsBack_99 : decode cX6_turnsBack 99 = .ok (.iaload, 1) := by decide +kernel
theorem dX6_turnsBack_100 : decode cX6_turnsBack 100 = .ok (.imul, 1) := by decide +kernel
theorem dX6_turnsBack_101 : decode cX6_turnsBack 101 = .ok (.iload_n 3, 1) := by decide +kernel
theorem dX6_turnsBack_102 : decode cX6_turnsBack 102 = .ok (.imul, 1) := by decide +kernel
theorem dX6_turnsBack_103 : decode cX6_turnsBack 103 = .ok (.if_icmp .ge 12, 3) := by decide +kernel
theorem dX6_turnsBack_106 : decode cX6_turnsBack 106 = .ok (.aload_n 0, 1) := by decide +kernel
theorem dX6_turnsBack_107 : decode cX6_turnsBack 107 = .ok (.getfield 30, 3) := by decide +kernel
theorem dX6_turnsBack_110 : decode cX6_turnsBack 110 = .ok (.iload_n 1, 1) := by decide +kernel
theorem dX6_turnsBack_111 : decode cX6_turnsBack 111 = .ok (.iaload, 1) := by decide +kernel
theorem dX6_turnsBack_112 : decode cX6_turnsBack 112 = .ok (.goto 13, 3) := by decide +kernel
theorem dX6_turnsBack_115 : decode cX6_turnsBack 115 = .ok (.iconst 2, 1) := by decide +kernel
theorem dX6_turnsBack_116 : decode cX6_turnsBack 116 = .ok (.aload_n 0, 1) := by decide +kernel
theorem dX6_turnsBack_117 : decode cX6_turnsBack 117 = .ok (.getfield 24, 3) := by decide +kernel
theorem dX6_turnsBack_120 : decode cX6_turnsBack 120 = .ok (.iload_n 1, 1) := by decide +kernel
theorem dX6_turnsBack_121 : decode cX6_turnsBack 121 = .ok (.iaload, 1) := by decide +kernel
theorem dX6_turnsBack_122 : decode cX6_turnsBack 122 = .ok (.imul, 1) := by decide +kernel
theorem dX6_turnsBack_123 : decode cX6_turnsBack 123 = .ok (.iload_n 3, 1) := by decide +kernel
theorem dX6_turnsBack_124 : decode cX6_turnsBack 124 = .ok (.imul, 1) := by decide +kernel
theorem dX6_turnsBack_125 : decode cX6_turnsBack 125 = .ok (.isub, 1) := by decide +kernel
theorem dX6_turnsBack_126 : decode cX6_turnsBack 126 = .ok (.iastore, 1) := by decide +kernel
theorem dX6_turnsBack_127 : decode cX6_turnsBack 127 = .ok (.return_, 1) := by decide +kernel
theorem dX6_pays_0 : decode cX6_pays 0 = .ok (.bipush 10, 2) := by decide +kernel
theorem dX6_pays_2 : decode cX6_pays 2 = .ok (.aload_n 0, 1) := by decide +kernel
theorem dX6_pays_3 : decode cX6_pays 3 = .ok (.aload_n 0, 1) := by decide +kernel
theorem dX6_pays_4 : decode cX6_pays 4 = .ok (.getfield 21, 3) := by decide +kernel
theorem dX6_pays_7 : decode cX6_pays 7 = .ok (.iload_n 1, 1) := by decide +kernel
theorem dX6_pays_8 : decode cX6_pays 8 = .ok (.iaload, 1) := by decide +kernel
theorem dX6_pays_9 : decode cX6_pays 9 = .ok (.aload_n 0, 1) := by decide +kernel
theorem dX6_pays_10 : decode cX6_pays 10 = .ok (.getfield 51, 3) := by decide +kernel
theorem dX6_pays_13 : decode cX6_pays 13 = .ok (.iload_n 2, 1) := by decide +kernel
theorem dX6_pays_14 : decode cX6_pays 14 = .ok (.iaload, 1) := by decide +kernel
theorem dX6_pays_15 : decode cX6_pays 15 = .ok (.invokevirtual 106, 3) := by decide +kernel
theorem dX6_pays_18 : decode cX6_pays 18 = .ok (.imul, 1) := by decide +kernel
theorem dX6_pays_19 : decode cX6_pays 19 = .ok (.iconst 5, 1) := by decide +kernel
theorem dX6_pays_20 : decode cX6_pays 20 = .ok (.aload_n 0, 1) := by decide +kernel
theorem dX6_pays_21 : decode cX6_pays 21 = .ok (.getfield 54, 3) := by decide +kernel
theorem dX6_pays_24 : decode cX6_pays 24 = .ok (.iload_n 2, 1) := by decide +kernel
theorem dX6_pays_25 : decode cX6_pays 25 = .ok (.iaload, 1) := by decide +kernel
theorem dX6_pays_26 : decode cX6_pays 26 = .ok (.imul, 1) := by decide +kernel
theorem dX6_pays_27 : decode cX6_pays 27 = .ok (.iadd, 1) := by decide +kernel
theorem dX6_pays_28 : decode cX6_pays 28 = .ok (.istore_n 3, 1) := by decide +kernel
theorem dX6_pays_29 : decode cX6_pays 29 = .ok (.aload_n 0, 1) := by decide +kernel
theorem dX6_pays_30 : decode cX6_pays 30 = .ok (.getfield 69, 3) := by decide +kernel
theorem dX6_pays_33 : decode cX6_pays 33 = .ok (.iload_n 2, 1) := by decide +kernel
theorem dX6_pays_34 : decode cX6_pays 34 = .ok (.iload_n 3, 1) := by decide +kernel
theorem dX6_pays_35 : decode cX6_pays 35 = .ok (.aload_n 0, 1) := by decide +kernel
theorem dX6_pays_36 : decode cX6_pays 36 = .ok (.getfield 75, 3) := by decide +kernel
theorem dX6_pays_39 : decode cX6_pays 39 = .ok (.if_icmp .ge 7, 3) := by decide +kernel
theorem dX6_pays_42 : decode cX6_pays 42 = .ok (.iload_n 3, 1) := by decide +kernel
theorem dX6_pays_43 : decode cX6_pays 43 = .ok (.goto 7, 3) := by decide +kernel
theorem dX6_pays_46 : decode cX6_pays 46 = .ok (.aload_n 0, 1) := by decide +kernel
theorem dX6_pays_47 : decode cX6_pays 47 = .ok (.getfield 75, 3) := by decide +kernel
theorem dX6_pays_50 : decode cX6_pays 50 = .ok (.iastore, 1) := by decide +kernel
theorem dX6_pays_51 : decode cX6_pays 51 = .ok (.aload_n 0, 1) := by decide +kernel
theorem dX6_pays_52 : decode cX6_pays 52 = .ok (.getfield 48, 3) := by decide +kernel
theorem dX6_pays_55 : decode cX6_pays 55 = .ok (.iload_n 1, 1) := by decide +kernel
theorem dX6_pays_56 : decode cX6_pays 56 = .ok (.iaload, 1) := by decide +kernel
theorem dX6_pays_57 : decode cX6_pays 57 = .ok (.aload_n 0, 1) := by decide +kernel
theorem dX6_pays_58 : decode cX6_pays 58 = .ok (.getfield 14, 3) := by decide +kernel
theorem dX6_pays_61 : decode cX6_pays 61 = .ok (.iload_n 1, 1) := by decide +kernel
theorem dX6_pays_62 : decode cX6_pays 62 = .ok (.iaload, 1) := by decide +kernel
theorem dX6_pays_63 : decode cX6_pays 63 = .ok (.if_icmp .ne 12, 3) := by decide +kernel
theorem dX6_pays_66 : decode cX6_pays 66 = .ok (.aload_n 0, 1) := by decide +kernel
theorem dX6_pays_67 : decode cX6_pays 67 = .ok (.getfield 69, 3) := by decide +kernel
theorem dX6_pays_70 : decode cX6_pays 70 = .ok (.iload_n 2, 1) := by decide +kernel
theorem dX6_pays_71 : decode cX6_pays 71 = .ok (.iaload, 1) := by decide +kernel
theorem dX6_pays_72 : decode cX6_pays 72 = .ok (.goto 11, 3) := by decide +kernel
theorem dX6_pays_75 : decode cX6_pays 75 = .ok (.aload_n 0, 1) := by decide +kernel
theorem dX6_pays_76 : decode cX6_pays 76 = .ok (.getfield 69, 3) := by decide +kernel
theorem dX6_pays_79 : decode cX6_pays 79 = .ok (.iload_n 2, 1) := by decide +kernel
theorem dX6_pays_80 : decode cX6_pays 80 = .ok (.iaload, 1) := by decide +kernel
theorem dX6_pays_81 : decode cX6_pays 81 = .ok (.iconst 2, 1) := by decide +kernel
theorem dX6_pays_82 : decode cX6_pays 82 = .ok (.idiv, 1) := by decide +kernel
theorem dX6_pays_83 : decode cX6_pays 83 = .ok (.istore 4, 2) := by decide +kernel
theorem dX6_pays_85 : decode cX6_pays 85 = .ok (.aload_n 0, 1) := by decide +kernel
theorem dX6_pays_86 : decode cX6_pays 86 = .ok (.getfield 72, 3) := by decide +kernel
theorem dX6_pays_89 : decode cX6_pays 89 = .ok (.aload_n 0, 1) := by decide +kernel
theorem dX6_pays_90 : decode cX6_pays 90 = .ok (.getfield 14, 3) := by decide +kernel
theorem dX6_pays_93 : decode cX6_pays 93 = .ok (.iload_n 1, 1) := by decide +kernel
theorem dX6_pays_94 : decode cX6_pays 94 = .ok (.iaload, 1) := by decide +kernel
theorem dX6_pays_95 : decode cX6_pays 95 = .ok (.dup2, 1) := by decide +kernel
theorem dX6_pays_96 : decode cX6_pays 96 = .ok (.iaload, 1) := by decide +kernel
theorem dX6_pays_97 : decode cX6_pays 97 = .ok (.iload 4, 2) := by decide +kernel
theorem dX6_pays_99 : decode cX6_pays 99 = .ok (.iadd, 1) := by decide +kernel
theorem dX6_pays_100 : decode cX6_pays 100 = .ok (.iastore, 1) := by decide +kernel
theorem dX6_pays_101 : decode cX6_pays 101 = .ok (.aload_n 0, 1) := by decide +kernel
theorem dX6_pays_102 : decode cX6_pays 102 = .ok (.getfield 72, 3) := by decide +kernel
theorem dX6_pays_105 : decode cX6_pays 105 = .ok (.aload_n 0, 1) := by decide +kernel
theorem dX6_pays_106 : decode cX6_pays 106 = .ok (.getfield 48, 3) := by decide +kernel
theorem dX6_pays_109 : decode cX6_pays 109 = .ok (.iload_n 1, 1) := by decide +kernel
theorem dX6_pays_110 : decode cX6_pays 110 = .ok (.iaload, 1) := by decide +kernel
theorem dX6_pays_111 : decode cX6_pays 111 = .ok (.dup2, 1) := by decide +kernel
theorem dX6_pays_112 : decode cX6_pays 112 = .ok (.iaload, 1) := by decide +kernel
theorem dX6_pays_113 : decode cX6_pays 113 = .ok (.aload_n 0, 1) := by decide +kernel
theorem dX6_pays_114 : decode cX6_pays 114 = .ok (.getfield 69, 3) := by decide +kernel
theorem dX6_pays_117 : decode cX6_pays 117 = .ok (.iload_n 2, 1) := by decide +kernel
theorem dX6_pays_118 : decode cX6_pays 118 = .ok (.iaload, 1) := by decide +kernel
theorem dX6_pays_119 : decode cX6_pays 119 = .ok (.iload 4, 2) := by decide +kernel
theorem dX6_pays_121 : decode cX6_pays 121 = .ok (.isub, 1) := by decide +kernel
theorem dX6_pays_122 : decode cX6_pays 122 = .ok (.iadd, 1) := by decide +kernel
theorem dX6_pays_123 : decode cX6_pays 123 = .ok (.iastore, 1) := by decide +kernel
theorem dX6_pays_124 : decode cX6_pays 124 = .ok (.return_, 1) := by decide +kernel
theorem dX6_arrives_0 : decode cX6_arrives 0 = .ok (.aload_n 0, 1) := by decide +kernel
theorem dX6_arrives_1 : decode cX6_arrives 1 = .ok (.getfield 36, 3) := by decide +kernel
theorem dX6_arrives_4 : decode cX6_arrives 4 = .ok (.iload_n 1, 1) := by decide +kernel
theorem dX6_arrives_5 : decode cX6_arrives 5 = .ok (.iaload, 1) := by decide +kernel
theorem dX6_arrives_6 : decode cX6_arrives 6 = .ok (.iconst 1, 1) := by decide +kernel
theorem dX6_arrives_7 : decode cX6_arrives 7 = .ok (.if_icmp .ne 16, 3) := by decide +kernel
theorem dX6_arrives_10 : decode cX6_arrives 10 = .ok (.aload_n 0, 1) := by decide +kernel
theorem dX6_arrives_11 : decode cX6_arrives 11 = .ok (.getfield 45, 3) := by decide +kernel
theorem dX6_arrives_14 : decode cX6_arrives 14 = .ok (.iload_n 1, 1) := by decide +kernel
theorem dX6_arrives_15 : decode cX6_arrives 15 = .ok (.iaload, 1) := by decide +kernel
theorem dX6_arrives_16 : decode cX6_arrives 16 = .ok (.aload_n 0, 1) := by decide +kernel
theorem dX6_arrives_17 : decode cX6_arrives 17 = .ok (.getfield 100, 3) := by decide +kernel
theorem dX6_arrives_20 : decode cX6_arrives 20 = .ok (.if_icmp .eq 4, 3) := by decide +kernel
theorem dX6_arrives_23 : decode cX6_arrives 23 = .ok (.return_, 1) := by decide +kernel
theorem dX6_arrives_24 : decode cX6_arrives 24 = .ok (.aload_n 0, 1) := by decide +kernel
theorem dX6_arrives_25 : decode cX6_arrives 25 = .ok (.getfield 100, 3) := by decide +kernel
theorem dX6_arrives_28 : decode cX6_arrives 28 = .ok (.aload_n 0, 1) := by decide +kernel
theorem dX6_arrives_29 : decode cX6_arrives 29 = .ok (.getfield 42, 3) := by decide +kernel
theorem dX6_arrives_32 : decode cX6_arrives 32 = .ok (.iload_n 1, 1) := by decide +kernel
theorem dX6_arrives_33 : decode cX6_arrives 33 = .ok (.iaload, 1) := by decide +kernel
theorem dX6_arrives_34 : decode cX6_arrives 34 = .ok (.isub, 1) := by decide +kernel
theorem dX6_arrives_35 : decode cX6_arrives 35 = .ok (.istore_n 2, 1) := by decide +kernel
theorem dX6_arrives_36 : decode cX6_arrives 36 = .ok (.aload_n 0, 1) := by decide +kernel
theorem dX6_arrives_37 : decode cX6_arrives 37 = .ok (.getfield 39, 3) := by decide +kernel
theorem dX6_arrives_40 : decode cX6_arrives 40 = .ok (.iload_n 1, 1) := by decide +kernel
theorem dX6_arrives_41 : decode cX6_arrives 41 = .ok (.iaload, 1) := by decide +kernel
theorem dX6_arrives_42 : decode cX6_arrives 42 = .ok (.istore_n 3, 1) := by decide +kernel
theorem dX6_arrives_43 : decode cX6_arrives 43 = .ok (.iload_n 3, 1) := by decide +kernel
theorem dX6_arrives_44 : decode cX6_arrives 44 = .ok (.ifCond .lt 65, 3) := by decide +kernel
theorem dX6_arrives_47 : decode cX6_arrives 47 = .ok (.aload_n 0, 1) := by decide +kernel
theorem dX6_arrives_48 : decode cX6_arrives 48 = .ok (.getfield 60, 3) := by decide +kernel
theorem dX6_arrives_51 : decode cX6_arrives 51 = .ok (.iload_n 3, 1) := by decide +kernel
theorem dX6_arrives_52 : decode cX6_arrives 52 = .ok (.iconst 2, 1) := by decide +kernel
theorem dX6_arrives_53 : decode cX6_arrives 53 = .ok (.iastore, 1) := by decide +kernel
theorem dX6_arrives_54 : decode cX6_arrives 54 = .ok (.aload_n 0, 1) := by decide +kernel
theorem dX6_arrives_55 : decode cX6_arrives 55 = .ok (.iload_n 1, 1) := by decide +kernel
theorem dX6_arrives_56 : decode cX6_arrives 56 = .ok (.iload_n 3, 1) := by decide +kernel
theorem dX6_arrives_57 : decode cX6_arrives 57 = .ok (.invokevirtual 110, 3) := by decide +kernel
theorem dX6_arrives_60 : decode cX6_arrives 60 = .ok (.aload_n 0, 1) := by decide +kernel
theorem dX6_arrives_61 : decode cX6_arrives 61 = .ok (.getfield 30, 3) := by decide +kernel
theorem dX6_arrives_64 : decode cX6_arrives 64 = .ok (.iload_n 1, 1) := by decide +kernel
theorem dX6_arrives_65 : decode cX6_arrives 65 = .ok (.dup2, 1) := by decide +kernel
theorem dX6_arrives_66 : decode cX6_arrives 66 = .ok (.iaload, 1) := by decide +kernel
theorem dX6_arrives_67 : decode cX6_arrives 67 = .ok (.iconst 2, 1) := by decide +kernel
theorem dX6_arrives_68 : decode cX6_arrives 68 = .ok (.aload_n 0, 1) := by decide +kernel
theorem dX6_arrives_69 : decode cX6_arrives 69 = .ok (.aload_n 0, 1) := by decide +kernel
theorem dX6_arrives_70 : decode cX6_arrives 70 = .ok (.getfield 21, 3) := by decide +kernel
theorem dX6_arrives_73 : decode cX6_arrives 73 = .ok (.iload_n 1, 1) := by decide +kernel
theorem dX6_arrives_74 : decode cX6_arrives 74 = .ok (.iaload, 1) := by decide +kernel
theorem dX6_arrives_75 : decode cX6_arrives 75 = .ok (.aload_n 0, 1) := by decide +kernel
theorem dX6_arrives_76 : decode cX6_arrives 76 = .ok (.getfield 51, 3) := by decide +kernel
theorem dX6_arrives_79 : decode cX6_arrives 79 = .ok (.iload_n 3, 1) := by decide +kernel
theorem dX6_arrives_80 : decode cX6_arrives 80 = .ok (.iaload, 1) := by decide +kernel
theorem dX6_arrives_81 : decode cX6_arrives 81 = .ok (.invokevirtual 106, 3) := by decide +kernel
theorem dX6_arrives_84 : decode cX6_arrives 84 = .ok (.imul, 1) := by decide +kernel
theorem dX6_arrives_85 : decode cX6_arrives 85 = .ok (.isub, 1) := by decide +kernel
theorem dX6_arrives_86 : decode cX6_arrives 86 = .ok (.iastore, 1) := by decide +kernel
theorem dX6_arrives_87 : decode cX6_arrives 87 = .ok (.aload_n 0, 1) := by decide +kernel
theorem dX6_arrives_88 : decode cX6_arrives 88 = .ok (.getfield 39, 3) := by decide +kernel
theorem dX6_arrives_91 : decode cX6_arrives 91 = .ok (.iload_n 1, 1) := by decide +kernel
theorem dX6_arrives_92 : decode cX6_arrives 92 = .ok (.iconst (-1), 1) := by decide +kernel
theorem dX6_arrives_93 : decode cX6_arrives 93 = .ok (.iastore, 1) := by decide +kernel
theorem dX6_arrives_94 : decode cX6_arrives 94 = .ok (.aload_n 0, 1) := by decide +kernel
theorem dX6_arrives_95 : decode cX6_arrives 95 = .ok (.getfield 45, 3) := by decide +kernel
theorem dX6_arrives_98 : decode cX6_arrives 98 = .ok (.iload_n 1, 1) := by decide +kernel
theorem dX6_arrives_99 : decode cX6_arrives 99 = .ok (.aload_n 0, 1) := by decide +kernel
theorem dX6_arrives_100 : decode cX6_arrives 100 = .ok (.getfield 100, 3) := by decide +kernel
theorem dX6_arrives_103 : decode cX6_arrives 103 = .ok (.iload_n 2, 1) := by decide +kernel
theorem dX6_arrives_104 : decode cX6_arrives 104 = .ok (.iadd, 1) := by decide +kernel
theorem dX6_arrives_105 : decode cX6_arrives 105 = .ok (.iastore, 1) := by decide +kernel
theorem dX6_arrives_106 : decode cX6_arrives 106 = .ok (.goto 34, 3) := by decide +kernel
theorem dX6_arrives_109 : decode cX6_arrives 109 = .ok (.aload_n 0, 1) := by decide +kernel
theorem dX6_arrives_110 : decode cX6_arrives 110 = .ok (.getfield 36, 3) := by decide +kernel
theorem dX6_arrives_113 : decode cX6_arrives 113 = .ok (.iload_n 1, 1) := by decide +kernel
theorem dX6_arrives_114 : decode cX6_arrives 114 = .ok (.iconst 2, 1) := by decide +kernel
theorem dX6_arrives_115 : decode cX6_arrives 115 = .ok (.iastore, 1) := by decide +kernel
theorem dX6_arrives_116 : decode cX6_arrives 116 = .ok (.aload_n 0, 1) := by decide +kernel
theorem dX6_arrives_117 : decode cX6_arrives 117 = .ok (.getfield 30, 3) := by decide +kernel
theorem dX6_arrives_120 : decode cX6_arrives 120 = .ok (.iload_n 1, 1) := by decide +kernel
theorem dX6_arrives_121 : decode cX6_arrives 121 = .ok (.aload_n 0, 1) := by decide +kernel
theorem dX6_arrives_122 : decode cX6_arrives 122 = .ok (.getfield 27, 3) := by decide +kernel
theorem dX6_arrives_125 : decode cX6_arrives 125 = .ok (.iload_n 1, 1) := by decide +kernel
theorem dX6_arrives_126 : decode cX6_arrives 126 = .ok (.iaload, 1) := by decide +kernel
theorem dX6_arrives_127 : decode cX6_arrives 127 = .ok (.iastore, 1) := by decide +kernel
theorem dX6_arrives_128 : decode cX6_arrives 128 = .ok (.aload_n 0, 1) := by decide +kernel
theorem dX6_arrives_129 : decode cX6_arrives 129 = .ok (.getfield 45, 3) := by decide +kernel
theorem dX6_arrives_132 : decode cX6_arrives 132 = .ok (.iload_n 1, 1) := by decide +kernel
theorem dX6_arrives_133 : decode cX6_arrives 133 = .ok (.aload_n 0, 1) := by decide +kernel
theorem dX6_arrives_134 : decode cX6_arrives 134 = .ok (.getfield 100, 3) := by decide +kernel
theorem dX6_arrives_137 : decode cX6_arrives 137 = .ok (.iload_n 2, 1) := by decide +kernel
theorem dX6_arrives_138 : decode cX6_arrives 138 = .ok (.iadd, 1) := by decide +kernel
theorem dX6_arrives_139 : decode cX6_arrives 139 = .ok (.iastore, 1) := by decide +kernel
theorem dX6_arrives_140 : decode cX6_arrives 140 = .ok (.return_, 1) := by decide +kernel
theorem dX6_hours_0 : decode cX6_hours 0 = .ok (.aload_n 0, 1) := by decide +kernel
theorem dX6_hours_1 : decode cX6_hours 1 = .ok (.aload_n 0, 1) := by decide +kernel
theorem dX6_hours_2 : decode cX6_hours 2 = .ok (.getfield 21, 3) := by decide +kernel
theorem dX6_hours_5 : decode cX6_hours 5 = .ok (.iload_n 1, 1) := by decide +kernel
theorem dX6_hours_6 : decode cX6_hours 6 = .ok (.iaload, 1) := by decide +kernel
theorem dX6_hours_7 : decode cX6_hours 7 = .ok (.aload_n 0, 1) := by decide +kernel
theorem dX6_hours_8 : decode cX6_hours 8 = .ok (.getfield 51, 3) := by decide +kernel
theorem dX6_hours_11 : decode cX6_hours 11 = .ok (.iload_n 2, 1) := by decide +kernel
theorem dX6_hours_12 : decode cX6_hours 12 = .ok (.iaload, 1) := by decide +kernel
theorem dX6_hours_13 : decode cX6_hours 13 = .ok (.invokevirtual 106, 3) := by decide +kernel
theorem dX6_hours_16 : decode cX6_hours 16 = .ok (.aload_n 0, 1) := by decide +kernel
theorem dX6_hours_17 : decode cX6_hours 17 = .ok (.getfield 24, 3) := by decide +kernel
theorem dX6_hours_20 : decode cX6_hours 20 = .ok (.iload_n 1, 1) := by decide +kernel
theorem dX6_hours_21 : decode cX6_hours 21 = .ok (.iaload, 1) := by decide +kernel
theorem dX6_hours_22 : decode cX6_hours 22 = .ok (.iadd, 1) := by decide +kernel
theorem dX6_hours_23 : decode cX6_hours 23 = .ok (.iconst 1, 1) := by decide +kernel
theorem dX6_hours_24 : decode cX6_hours 24 = .ok (.isub, 1) := by decide +kernel
theorem dX6_hours_25 : decode cX6_hours 25 = .ok (.aload_n 0, 1) := by decide +kernel
theorem dX6_hours_26 : decode cX6_hours 26 = .ok (.getfield 24, 3) := by decide +kernel
theorem dX6_hours_29 : decode cX6_hours 29 = .ok (.iload_n 1, 1) := by decide +kernel
theorem dX6_hours_30 : decode cX6_hours 30 = .ok (.iaload, 1) := by decide +kernel
theorem dX6_hours_31 : decode cX6_hours 31 = .ok (.idiv, 1) := by decide +kernel
theorem dX6_hours_32 : decode cX6_hours 32 = .ok (.istore_n 3, 1) := by decide +kernel
theorem dX6_hours_33 : decode cX6_hours 33 = .ok (.iload_n 3, 1) := by decide +kernel
theorem dX6_hours_34 : decode cX6_hours 34 = .ok (.iconst 1, 1) := by decide +kernel
theorem dX6_hours_35 : decode cX6_hours 35 = .ok (.if_icmp .ge 7, 3) := by decide +kernel
theorem dX6_hours_38 : decode cX6_hours 38 = .ok (.iconst 1, 1) := by decide +kernel
theorem dX6_hours_39 : decode cX6_hours 39 = .ok (.goto 4, 3) := by decide +kernel
theorem dX6_hours_42 : decode cX6_hours 42 = .ok (.iload_n 3, 1) := by decide +kernel
theorem dX6_hours_43 : decode cX6_hours 43 = .ok (.ireturn, 1) := by decide +kernel
theorem dX6_can_0 : decode cX6_can 0 = .ok (.aload_n 0, 1) := by decide +kernel
theorem dX6_can_1 : decode cX6_can 1 = .ok (.iload_n 1, 1) := by decide +kernel
theorem dX6_can_2 : decode cX6_can 2 = .ok (.iload_n 2, 1) := by decide +kernel
theorem dX6_can_3 : decode cX6_can 3 = .ok (.invokevirtual 114, 3) := by decide +kernel
theorem dX6_can_6 : decode cX6_can 6 = .ok (.istore_n 3, 1) := by decide +kernel
theorem dX6_can_7 : decode cX6_can 7 = .ok (.aload_n 0, 1) := by decide +kernel
theorem dX6_can_8 : decode cX6_can 8 = .ok (.getfield 36, 3) := by decide +kernel
theorem dX6_can_11 : decode cX6_can 11 = .ok (.iload_n 1, 1) := by decide +kernel
theorem dX6_can_12 : decode cX6_can 12 = .ok (.iaload, 1) := by decide +kernel
theorem dX6_can_13 : decode cX6_can 13 = .ok (.ifCond .ne 54, 3) := by decide +kernel
theorem dX6_can_16 : decode cX6_can 16 = .ok (.iload_n 3, 1) := by decide +kernel
theorem dX6_can_17 : decode cX6_can 17 = .ok (.iconst 5, 1) := by decide +kernel
theorem dX6_can_18 : decode cX6_can 18 = .ok (.if_icmp .gt 49, 3) := by decide +kernel
theorem dX6_can_21 : decode cX6_can 21 = .ok (.aload_n 0, 1) := by decide +kernel
theorem dX6_can_22 : decode cX6_can 22 = .ok (.getfield 100, 3) := by decide +kernel
theorem dX6_can_25 : decode cX6_can 25 = .ok (.iload_n 3, 1) := by decide +kernel
theorem dX6_can_26 : decode cX6_can 26 = .ok (.iadd, 1) := by decide +kernel
theorem dX6_can_27 : decode cX6_can 27 = .ok (.aload_n 0, 1) := by decide +kernel
theorem dX6_can_28 : decode cX6_can 28 = .ok (.getfield 57, 3) := by decide +kernel
theorem dX6_can_31 : decode cX6_can 31 = .ok (.iload_n 2, 1) := by decide +kernel
theorem dX6_can_32 : decode cX6_can 32 = .ok (.iaload, 1) := by decide +kernel
theorem dX6_can_33 : decode cX6_can 33 = .ok (.if_icmp .gt 34, 3) := by decide +kernel
theorem dX6_can_36 : decode cX6_can 36 = .ok (.aload_n 0, 1) := by decide +kernel
theorem dX6_can_37 : decode cX6_can 37 = .ok (.getfield 30, 3) := by decide +kernel
theorem dX6_can_40 : decode cX6_can 40 = .ok (.iload_n 1, 1) := by decide +kernel
theorem dX6_can_41 : decode cX6_can 41 = .ok (.iaload, 1) := by decide +kernel
theorem dX6_can_42 : decode cX6_can 42 = .ok (.iconst 2, 1) := by decide +kernel
theorem dX6_can_43 : decode cX6_can 43 = .ok (.aload_n 0, 1) := by decide +kernel
theorem dX6_can_44 : decode cX6_can 44 = .ok (.aload_n 0, 1) := by decide +kernel
theorem dX6_can_45 : decode cX6_can 45 = .ok (.getfield 21, 3) := by decide +kernel
theorem dX6_can_48 : decode cX6_can 48 = .ok (.iload_n 1, 1) := by decide +kernel
theorem dX6_can_49 : decode cX6_can 49 = .ok (.iaload, 1) := by decide +kernel
theorem dX6_can_50 : decode cX6_can 50 = .ok (.aload_n 0, 1) := by decide +kernel
theorem dX6_can_51 : decode cX6_can 51 = .ok (.getfield 51, 3) := by decide +kernel
theorem dX6_can_54 : decode cX6_can 54 = .ok (.iload_n 2, 1) := by decide +kernel
theorem dX6_can_55 : decode cX6_can 55 = .ok (.iaload, 1) := by decide +kernel
theorem dX6_can_56 : decode cX6_can 56 = .ok (.invokevirtual 106, 3) := by decide +kernel
theorem dX6_can_59 : decode cX6_can 59 = .ok (.imul, 1) := by decide +kernel
theorem dX6_can_60 : decode cX6_can 60 = .ok (.if_icmp .lt 7, 3) := by decide +kernel
theorem dX6_can_63 : decode cX6_can 63 = .ok (.iconst 1, 1) := by decide +kernel
theorem dX6_can_64 : decode cX6_can 64 = .ok (.goto 4, 3) := by decide +kernel
theorem dX6_can_67 : decode cX6_can 67 = .ok (.iconst 0, 1) := by decide +kernel
theorem dX6_can_68 : decode cX6_can 68 = .ok (.istore 4, 2) := by decide +kernel
theorem dX6_can_70 : decode cX6_can 70 = .ok (.iload 4, 2) := by decide +kernel
theorem dX6_can_72 : decode cX6_can 72 = .ok (.ifCond .eq 38, 3) := by decide +kernel
theorem dX6_can_75 : decode cX6_can 75 = .ok (.aload_n 0, 1) := by decide +kernel
theorem dX6_can_76 : decode cX6_can 76 = .ok (.getfield 8, 3) := by decide +kernel
theorem dX6_can_79 : decode cX6_can 79 = .ok (.sipush 1000, 3) := by decide +kernel
theorem dX6_can_82 : decode cX6_can 82 = .ok (.aload_n 0, 1) := by decide +kernel
theorem dX6_can_83 : decode cX6_can 83 = .ok (.getfield 51, 3) := by decide +kernel
theorem dX6_can_86 : decode cX6_can 86 = .ok (.iload_n 2, 1) := by decide +kernel
theorem dX6_can_87 : decode cX6_can 87 = .ok (.iaload, 1) := by decide +kernel
theorem dX6_can_88 : decode cX6_can 88 = .ok (.imul, 1) := by decide +kernel
theorem dX6_can_89 : decode cX6_can 89 = .ok (.aload_n 0, 1) := by decide +kernel
theorem dX6_can_90 : decode cX6_can 90 = .ok (.getfield 100, 3) := by decide +kernel
theorem dX6_can_93 : decode cX6_can 93 = .ok (.iadd, 1) := by decide +kernel
theorem dX6_can_94 : decode cX6_can 94 = .ok (.iload_n 3, 1) := by decide +kernel
theorem dX6_can_95 : decode cX6_can 95 = .ok (.iadd, 1) := by decide +kernel
theorem dX6_can_96 : decode cX6_can 96 = .ok (.baload, 1) := by decide +kernel
theorem dX6_can_97 : decode cX6_can 97 = .ok (.aload_n 0, 1) := by decide +kernel
theorem dX6_can_98 : decode cX6_can 98 = .ok (.getfield 33, 3) := by decide +kernel
theorem dX6_can_101 : decode cX6_can 101 = .ok (.iload_n 1, 1) := by decide +kernel
theorem dX6_can_102 : decode cX6_can 102 = .ok (.iaload, 1) := by decide +kernel
theorem dX6_can_103 : decode cX6_can 103 = .ok (.if_icmp .gt 7, 3) := by decide +kernel
theorem dX6_can_106 : decode cX6_can 106 = .ok (.iconst 1, 1) := by decide +kernel
theorem dX6_can_107 : decode cX6_can 107 = .ok (.goto 4, 3) := by decide +kernel
theorem dX6_can_110 : decode cX6_can 110 = .ok (.iconst 0, 1) := by decide +kernel
theorem dX6_can_111 : decode cX6_can 111 = .ok (.ireturn, 1) := by decide +kernel
theorem dX6_tasks_0 : decode cX6_tasks 0 = .ok (.iconst (-1), 1) := by decide +kernel
theorem dX6_tasks_1 : decode cX6_tasks 1 = .ok (.istore_n 2, 1) := by decide +kernel
theorem dX6_tasks_2 : decode cX6_tasks 2 = .ok (.iconst 0, 1) := by decide +kernel
theorem dX6_tasks_3 : decode cX6_tasks 3 = .ok (.istore_n 3, 1) := by decide +kernel
theorem dX6_tasks_4 : decode cX6_tasks 4 = .ok (.iload_n 3, 1) := by decide +kernel
theorem dX6_tasks_5 : decode cX6_tasks 5 = .ok (.aload_n 0, 1) := by decide +kernel
theorem dX6_tasks_6 : decode cX6_tasks 6 = .ok (.getfield 90, 3) := by decide +kernel
theorem dX6_tasks_9 : decode cX6_tasks 9 = .ok (.if_icmp .ge 43, 3) := by decide +kernel
theorem dX6_tasks_12 : decode cX6_tasks 12 = .ok (.aload_n 0, 1) := by decide +kernel
theorem dX6_tasks_13 : decode cX6_tasks 13 = .ok (.iload_n 3, 1) := by decide +kernel
theorem dX6_tasks_14 : decode cX6_tasks 14 = .ok (.iload_n 1, 1) := by decide +kernel
theorem dX6_tasks_15 : decode cX6_tasks 15 = .ok (.invokevirtual 117, 3) := by decide +kernel
theorem dX6_tasks_18 : decode cX6_tasks 18 = .ok (.ifCond .eq 26, 3) := by decide +kernel
theorem dX6_tasks_21 : decode cX6_tasks 21 = .ok (.iload_n 2, 1) := by decide +kernel
theorem dX6_tasks_22 : decode cX6_tasks 22 = .ok (.ifCond .lt 18, 3) := by decide +kernel
theorem dX6_tasks_25 : decode cX6_tasks 25 = .ok (.aload_n 0, 1) := by decide +kernel
theorem dX6_tasks_26 : decode cX6_tasks 26 = .ok (.iload_n 3, 1) := by decide +kernel
theorem dX6_tasks_27 : decode cX6_tasks 27 = .ok (.iload_n 1, 1) := by decide +kernel
theorem dX6_tasks_28 : decode cX6_tasks 28 = .ok (.invokevirtual 114, 3) := by decide +kernel
theorem dX6_tasks_31 : decode cX6_tasks 31 = .ok (.aload_n 0, 1) := by decide +kernel
theorem dX6_tasks_32 : decode cX6_tasks 32 = .ok (.iload_n 2, 1) := by decide +kernel
theorem dX6_tasks_33 : decode cX6_tasks 33 = .ok (.iload_n 1, 1) := by decide +kernel
theorem dX6_tasks_34 : decode cX6_tasks 34 = .ok (.invokevirtual 114, 3) := by decide +kernel
theorem dX6_tasks_37 : decode cX6_tasks 37 = .ok (.if_icmp .ge 7, 3) := by decide +kernel
theorem dX6_tasks_40 : decode cX6_tasks 40 = .ok (.iload_n 3, 1) := by decide +kernel
theorem dX6_tasks_41 : decode cX6_tasks 41 = .ok (.goto 4, 3) := by decide +kernel
theorem dX6_tasks_44 : decode cX6_tasks 44 = .ok (.iload_n 2, 1) := by decide +kernel
theorem dX6_tasks_45 : decode cX6_tasks 45 = .ok (.istore_n 2, 1) := by decide +kernel
theorem dX6_tasks_46 : decode cX6_tasks 46 = .ok (.iinc 3 1, 3) := by decide +kernel
theorem dX6_tasks_49 : decode cX6_tasks 49 = .ok (.goto (-45), 3) := by decide +kernel
theorem dX6_tasks_52 : decode cX6_tasks 52 = .ok (.iload_n 2, 1) := by decide +kernel
theorem dX6_tasks_53 : decode cX6_tasks 53 = .ok (.ifCond .lt 80, 3) := by decide +kernel
theorem dX6_tasks_56 : decode cX6_tasks 56 = .ok (.aload_n 0, 1) := by decide +kernel
theorem dX6_tasks_57 : decode cX6_tasks 57 = .ok (.getfield 36, 3) := by decide +kernel
theorem dX6_tasks_60 : decode cX6_tasks 60 = .ok (.iload_n 2, 1) := by decide +kernel
theorem dX6_tasks_61 : decode cX6_tasks 61 = .ok (.iconst 1, 1) := by decide +kernel
theorem dX6_tasks_62 : decode cX6_tasks 62 = .ok (.iastore, 1) := by decide +kernel
theorem dX6_tasks_63 : decode cX6_tasks 63 = .ok (.aload_n 0, 1) := by decide +kernel
theorem dX6_tasks_64 : decode cX6_tasks 64 = .ok (.getfield 39, 3) := by decide +kernel
theorem dX6_tasks_67 : decode cX6_tasks 67 = .ok (.iload_n 2, 1) := by decide +kernel
theorem dX6_tasks_68 : decode cX6_tasks 68 = .ok (.iload_n 1, 1) := by decide +kernel
theorem dX6_tasks_69 : decode cX6_tasks 69 = .ok (.iastore, 1) := by decide +kernel
theorem dX6_tasks_70 : decode cX6_tasks 70 = .ok (.aload_n 0, 1) := by decide +kernel
theorem dX6_tasks_71 : decode cX6_tasks 71 = .ok (.getfield 42, 3) := by decide +kernel
theorem dX6_tasks_74 : decode cX6_tasks 74 = .ok (.iload_n 2, 1) := by decide +kernel
theorem dX6_tasks_75 : decode cX6_tasks 75 = .ok (.aload_n 0, 1) := by decide +kernel
theorem dX6_tasks_76 : decode cX6_tasks 76 = .ok (.getfield 100, 3) := by decide +kernel
theorem dX6_tasks_79 : decode cX6_tasks 79 = .ok (.iastore, 1) := by decide +kernel
theorem dX6_tasks_80 : decode cX6_tasks 80 = .ok (.aload_n 0, 1) := by decide +kernel
theorem dX6_tasks_81 : decode cX6_tasks 81 = .ok (.getfield 45, 3) := by decide +kernel
theorem dX6_tasks_84 : decode cX6_tasks 84 = .ok (.iload_n 2, 1) := by decide +kernel
theorem dX6_tasks_85 : decode cX6_tasks 85 = .ok (.aload_n 0, 1) := by decide +kernel
theorem dX6_tasks_86 : decode cX6_tasks 86 = .ok (.getfield 100, 3) := by decide +kernel
theorem dX6_tasks_89 : decode cX6_tasks 89 = .ok (.aload_n 0, 1) := by decide +kernel
theorem dX6_tasks_90 : decode cX6_tasks 90 = .ok (.iload_n 2, 1) := by decide +kernel
theorem dX6_tasks_91 : decode cX6_tasks 91 = .ok (.iload_n 1, 1) := by decide +kernel
theorem dX6_tasks_92 : decode cX6_tasks 92 = .ok (.invokevirtual 114, 3) := by decide +kernel
theorem dX6_tasks_95 : decode cX6_tasks 95 = .ok (.iadd, 1) := by decide +kernel
theorem dX6_tasks_96 : decode cX6_tasks 96 = .ok (.iastore, 1) := by decide +kernel
theorem dX6_tasks_97 : decode cX6_tasks 97 = .ok (.aload_n 0, 1) := by decide +kernel
theorem dX6_tasks_98 : decode cX6_tasks 98 = .ok (.getfield 48, 3) := by decide +kernel
theorem dX6_tasks_101 : decode cX6_tasks 101 = .ok (.iload_n 2, 1) := by decide +kernel
theorem dX6_tasks_102 : decode cX6_tasks 102 = .ok (.aload_n 0, 1) := by decide +kernel
theorem dX6_tasks_103 : decode cX6_tasks 103 = .ok (.getfield 18, 3) := by decide +kernel
theorem dX6_tasks_106 : decode cX6_tasks 106 = .ok (.iload_n 2, 1) := by decide +kernel
theorem dX6_tasks_107 : decode cX6_tasks 107 = .ok (.iaload, 1) := by decide +kernel
theorem dX6_tasks_108 : decode cX6_tasks 108 = .ok (.iastore, 1) := by decide +kernel
theorem dX6_tasks_109 : decode cX6_tasks 109 = .ok (.aload_n 0, 1) := by decide +kernel
theorem dX6_tasks_110 : decode cX6_tasks 110 = .ok (.getfield 60, 3) := by decide +kernel
theorem dX6_tasks_113 : decode cX6_tasks 113 = .ok (.iload_n 1, 1) := by decide +kernel
theorem dX6_tasks_114 : decode cX6_tasks 114 = .ok (.iconst 1, 1) := by decide +kernel
theorem dX6_tasks_115 : decode cX6_tasks 115 = .ok (.iastore, 1) := by decide +kernel
theorem dX6_tasks_116 : decode cX6_tasks 116 = .ok (.aload_n 0, 1) := by decide +kernel
theorem dX6_tasks_117 : decode cX6_tasks 117 = .ok (.getfield 63, 3) := by decide +kernel
theorem dX6_tasks_120 : decode cX6_tasks 120 = .ok (.iload_n 1, 1) := by decide +kernel
theorem dX6_tasks_121 : decode cX6_tasks 121 = .ok (.iload_n 2, 1) := by decide +kernel
theorem dX6_tasks_122 : decode cX6_tasks 122 = .ok (.iastore, 1) := by decide +kernel
theorem dX6_tasks_123 : decode cX6_tasks 123 = .ok (.aload_n 0, 1) := by decide +kernel
theorem dX6_tasks_124 : decode cX6_tasks 124 = .ok (.getfield 66, 3) := by decide +kernel
theorem dX6_tasks_127 : decode cX6_tasks 127 = .ok (.iload_n 1, 1) := by decide +kernel
theorem dX6_tasks_128 : decode cX6_tasks 128 = .ok (.dup2, 1) := by decide +kernel
theorem dX6_tasks_129 : decode cX6_tasks 129 = .ok (.iaload, 1) := by decide +kernel
theorem dX6_tasks_130 : decode cX6_tasks 130 = .ok (.iconst 1, 1) := by decide +kernel
theorem dX6_tasks_131 : decode cX6_tasks 131 = .ok (.iadd, 1) := by decide +kernel
theorem dX6_tasks_132 : decode cX6_tasks 132 = .ok (.iastore, 1) := by decide +kernel
theorem dX6_tasks_133 : decode cX6_tasks 133 = .ok (.return_, 1) := by decide +kernel
theorem dX6_goes_0 : decode cX6_goes 0 = .ok (.aload_n 0, 1) := by decide +kernel
theorem dX6_goes_1 : decode cX6_goes 1 = .ok (.dup, 1) := by decide +kernel
theorem dX6_goes_2 : decode cX6_goes 2 = .ok (.getfield 100, 3) := by decide +kernel
theorem dX6_goes_5 : decode cX6_goes 5 = .ok (.iconst 1, 1) := by decide +kernel
theorem dX6_goes_6 : decode cX6_goes 6 = .ok (.iadd, 1) := by decide +kernel
theorem dX6_goes_7 : decode cX6_goes 7 = .ok (.putfield 100, 3) := by decide +kernel
theorem dX6_goes_10 : decode cX6_goes 10 = .ok (.iconst 0, 1) := by decide +kernel
theorem dX6_goes_11 : decode cX6_goes 11 = .ok (.istore_n 1, 1) := by decide +kernel
theorem dX6_goes_12 : decode cX6_goes 12 = .ok (.iload_n 1, 1) := by decide +kernel
theorem dX6_goes_13 : decode cX6_goes 13 = .ok (.aload_n 0, 1) := by decide +kernel
theorem dX6_goes_14 : decode cX6_goes 14 = .ok (.getfield 90, 3) := by decide +kernel
theorem dX6_goes_17 : decode cX6_goes 17 = .ok (.if_icmp .ge 14, 3) := by decide +kernel
theorem dX6_goes_20 : decode cX6_goes 20 = .ok (.aload_n 0, 1) := by decide +kernel
theorem dX6_goes_21 : decode cX6_goes 21 = .ok (.iload_n 1, 1) := by decide +kernel
theorem dX6_goes_22 : decode cX6_goes 22 = .ok (.invokevirtual 121, 3) := by decide +kernel
theorem dX6_goes_25 : decode cX6_goes 25 = .ok (.iinc 1 1, 3) := by decide +kernel
theorem dX6_goes_28 : decode cX6_goes 28 = .ok (.goto (-16), 3) := by decide +kernel
theorem dX6_goes_31 : decode cX6_goes 31 = .ok (.iconst 0, 1) := by decide +kernel
theorem dX6_goes_32 : decode cX6_goes 32 = .ok (.istore_n 1, 1) := by decide +kernel
theorem dX6_goes_33 : decode cX6_goes 33 = .ok (.iload_n 1, 1) := by decide +kernel
theorem dX6_goes_34 : decode cX6_goes 34 = .ok (.aload_n 0, 1) := by decide +kernel
theorem dX6_goes_35 : decode cX6_goes 35 = .ok (.getfield 90, 3) := by decide +kernel
theorem dX6_goes_38 : decode cX6_goes 38 = .ok (.if_icmp .ge 14, 3) := by decide +kernel
theorem dX6_goes_41 : decode cX6_goes 41 = .ok (.aload_n 0, 1) := by decide +kernel
theorem dX6_goes_42 : decode cX6_goes 42 = .ok (.iload_n 1, 1) := by decide +kernel
theorem dX6_goes_43 : decode cX6_goes 43 = .ok (.invokevirtual 125, 3) := by decide +kernel
theorem dX6_goes_46 : decode cX6_goes 46 = .ok (.iinc 1 1, 3) := by decide +kernel
theorem dX6_goes_49 : decode cX6_goes 49 = .ok (.goto (-16), 3) := by decide +kernel
theorem dX6_goes_52 : decode cX6_goes 52 = .ok (.iconst 0, 1) := by decide +kernel
theorem dX6_goes_53 : decode cX6_goes 53 = .ok (.istore_n 1, 1) := by decide +kernel
theorem dX6_goes_54 : decode cX6_goes 54 = .ok (.iload_n 1, 1) := by decide +kernel
theorem dX6_goes_55 : decode cX6_goes 55 = .ok (.aload_n 0, 1) := by decide +kernel
theorem dX6_goes_56 : decode cX6_goes 56 = .ok (.getfield 90, 3) := by decide +kernel
theorem dX6_goes_59 : decode cX6_goes 59 = .ok (.if_icmp .ge 48, 3) := by decide +kernel
theorem dX6_goes_62 : decode cX6_goes 62 = .ok (.aload_n 0, 1) := by decide +kernel
theorem dX6_goes_63 : decode cX6_goes 63 = .ok (.getfield 36, 3) := by decide +kernel
theorem dX6_goes_66 : decode cX6_goes 66 = .ok (.iload_n 1, 1) := by decide +kernel
theorem dX6_goes_67 : decode cX6_goes 67 = .ok (.aload_n 0, 1) := by decide +kernel
theorem dX6_goes_68 : decode cX6_goes 68 = .ok (.getfield 36, 3) := by decide +kernel
theorem dX6_goes_71 : decode cX6_goes 71 = .ok (.iload_n 1, 1) := by decide +kernel
theorem dX6_goes_72 : decode cX6_goes 72 = .ok (.iaload, 1) := by decide +kernel
theorem dX6_goes_73 : decode cX6_goes 73 = .ok (.iconst 2, 1) := by decide +kernel
theorem dX6_goes_74 : decode cX6_goes 74 = .ok (.if_icmp .ne 20, 3) := by decide +kernel
theorem dX6_goes_77 : decode cX6_goes 77 = .ok (.aload_n 0, 1) := by decide +kernel
theorem dX6_goes_78 : decode cX6_goes 78 = .ok (.getfield 45, 3) := by decide +kernel
theorem dX6_goes_81 : decode cX6_goes 81 = .ok (.iload_n 1, 1) := by decide +kernel
theorem dX6_goes_82 : decode cX6_goes 82 = .ok (.iaload, 1) := by decide +kernel
theorem dX6_goes_83 : decode cX6_goes 83 = .ok (.aload_n 0, 1) := by decide +kernel
theorem dX6_goes_84 : decode cX6_goes 84 = .ok (.getfield 100, 3) := by decide +kernel
theorem dX6_goes_87 : decode cX6_goes 87 = .ok (.if_icmp .ne 7, 3) := by decide +kernel
theorem dX6_goes_90 : decode cX6_goes 90 = .ok (.iconst 0, 1) := by decide +kernel
theorem dX6_goes_91 : decode cX6_goes 91 = .ok (.goto 9, 3) := by decide +kernel
theorem dX6_goes_94 : decode cX6_goes 94 = .ok (.aload_n 0, 1) := by decide +kernel
theorem dX6_goes_95 : decode cX6_goes 95 = .ok (.getfield 36, 3) := by decide +kernel
theorem dX6_goes_98 : decode cX6_goes 98 = .ok (.iload_n 1, 1) := by decide +kernel
theorem dX6_goes_99 : decode cX6_goes 99 = .ok (.iaload, 1) := by decide +kernel
theorem dX6_goes_100 : decode cX6_goes 100 = .ok (.iastore, 1) := by decide +kernel
theorem dX6_goes_101 : decode cX6_goes 101 = .ok (.iinc 1 1, 3) := by decide +kernel
theorem dX6_goes_104 : decode cX6_goes 104 = .ok (.goto (-50), 3) := by decide +kernel
theorem dX6_goes_107 : decode cX6_goes 107 = .ok (.iconst 0, 1) := by decide +kernel
theorem dX6_goes_108 : decode cX6_goes 108 = .ok (.istore_n 1, 1) := by decide +kernel
theorem dX6_goes_109 : decode cX6_goes 109 = .ok (.iload_n 1, 1) := by decide +kernel
theorem dX6_goes_110 : decode cX6_goes 110 = .ok (.aload_n 0, 1) := by decide +kernel
theorem dX6_goes_111 : decode cX6_goes 111 = .ok (.getfield 103, 3) := by decide +kernel
theorem dX6_goes_114 : decode cX6_goes 114 = .ok (.if_icmp .ge 52, 3) := by decide +kernel
theorem dX6_goes_117 : decode cX6_goes 117 = .ok (.aload_n 0, 1) := by decide +kernel
theorem dX6_goes_118 : decode cX6_goes 118 = .ok (.getfield 60, 3) := by decide +kernel
theorem dX6_goes_121 : decode cX6_goes 121 = .ok (.iload_n 1, 1) := by decide +kernel
theorem dX6_goes_122 : decode cX6_goes 122 = .ok (.iaload, 1) := by decide +kernel
theorem dX6_goes_123 : decode cX6_goes 123 = .ok (.ifCond .ne 23, 3) := by decide +kernel
theorem dX6_goes_126 : decode cX6_goes 126 = .ok (.aload_n 0, 1) := by decide +kernel
theorem dX6_goes_127 : decode cX6_goes 127 = .ok (.getfield 100, 3) := by decide +kernel
theorem dX6_goes_130 : decode cX6_goes 130 = .ok (.aload_n 0, 1) := by decide +kernel
theorem dX6_goes_131 : decode cX6_goes 131 = .ok (.getfield 57, 3) := by decide +kernel
theorem dX6_goes_134 : decode cX6_goes 134 = .ok (.iload_n 1, 1) := by decide +kernel
theorem dX6_goes_135 : decode cX6_goes 135 = .ok (.iaload, 1) := by decide +kernel
theorem dX6_goes_136 : decode cX6_goes 136 = .ok (.if_icmp .le 10, 3) := by decide +kernel
theorem dX6_goes_139 : decode cX6_goes 139 = .ok (.aload_n 0, 1) := by decide +kernel
theorem dX6_goes_140 : decode cX6_goes 140 = .ok (.getfield 60, 3) := by decide +kernel
theorem dX6_goes_143 : decode cX6_goes 143 = .ok (.iload_n 1, 1) := by decide +kernel
theorem dX6_goes_144 : decode cX6_goes 144 = .ok (.iconst 3, 1) := by decide +kernel
theorem dX6_goes_145 : decode cX6_goes 145 = .ok (.iastore, 1) := by decide +kernel
theorem dX6_goes_146 : decode cX6_goes 146 = .ok (.aload_n 0, 1) := by decide +kernel
theorem dX6_goes_147 : decode cX6_goes 147 = .ok (.getfield 60, 3) := by decide +kernel
theorem dX6_goes_150 : decode cX6_goes 150 = .ok (.iload_n 1, 1) := by decide +kernel
theorem dX6_goes_151 : decode cX6_goes 151 = .ok (.iaload, 1) := by decide +kernel
theorem dX6_goes_152 : decode cX6_goes 152 = .ok (.ifCond .ne 8, 3) := by decide +kernel
theorem dX6_goes_155 : decode cX6_goes 155 = .ok (.aload_n 0, 1) := by decide +kernel
theorem dX6_goes_156 : decode cX6_goes 156 = .ok (.iload_n 1, 1) := by decide +kernel
theorem dX6_goes_157 : decode cX6_goes 157 = .ok (.invokevirtual 128, 3) := by decide +kernel
theorem dX6_goes_160 : decode cX6_goes 160 = .ok (.iinc 1 1, 3) := by decide +kernel
theorem dX6_goes_163 : decode cX6_goes 163 = .ok (.goto (-54), 3) := by decide +kernel
theorem dX6_goes_166 : decode cX6_goes 166 = .ok (.return_, 1) := by decide +kernel
theorem dX6_pass_0 : decode cX6_pass 0 = .ok (.aload_n 0, 1) := by decide +kernel
theorem dX6_pass_1 : decode cX6_pass 1 = .ok (.aload_n 0, 1) := by decide +kernel
theorem dX6_pass_2 : decode cX6_pass 2 = .ok (.iload_n 1, 1) := by decide +kernel
theorem dX6_pass_3 : decode cX6_pass 3 = .ok (.iconst 1, 1) := by decide +kernel
theorem dX6_pass_4 : decode cX6_pass 4 = .ok (.bipush 48, 2) := by decide +kernel
theorem dX6_pass_6 : decode cX6_pass 6 = .ok (.invokevirtual 86, 3) := by decide +kernel
theorem dX6_pass_9 : decode cX6_pass 9 = .ok (.ifCond .ne 7, 3) := by decide +kernel
theorem dX6_pass_12 : decode cX6_pass 12 = .ok (.iconst 1, 1) := by decide +kernel
theorem dX6_pass_13 : decode cX6_pass 13 = .ok (.goto 20, 3) := by decide +kernel
theorem dX6_pass_16 : decode cX6_pass 16 = .ok (.aload_n 0, 1) := by decide +kernel
theorem dX6_pass_17 : decode cX6_pass 17 = .ok (.getfield 100, 3) := by decide +kernel
theorem dX6_pass_20 : decode cX6_pass 20 = .ok (.iload_n 1, 1) := by decide +kernel
theorem dX6_pass_21 : decode cX6_pass 21 = .ok (.iadd, 1) := by decide +kernel
theorem dX6_pass_22 : decode cX6_pass 22 = .ok (.sipush 999, 3) := by decide +kernel
theorem dX6_pass_25 : decode cX6_pass 25 = .ok (.if_icmp .le 7, 3) := by decide +kernel
theorem dX6_pass_28 : decode cX6_pass 28 = .ok (.iconst 2, 1) := by decide +kernel
theorem dX6_pass_29 : decode cX6_pass 29 = .ok (.goto 4, 3) := by decide +kernel
theorem dX6_pass_32 : decode cX6_pass 32 = .ok (.iconst 0, 1) := by decide +kernel
theorem dX6_pass_33 : decode cX6_pass 33 = .ok (.invokevirtual 93, 3) := by decide +kernel
theorem dX6_pass_36 : decode cX6_pass 36 = .ok (.ifCond .eq 5, 3) := by decide +kernel
theorem dX6_pass_39 : decode cX6_pass 39 = .ok (.iconst (-1), 1) := by decide +kernel
theorem dX6_pass_40 : decode cX6_pass 40 = .ok (.ireturn, 1) := by decide +kernel
theorem dX6_pass_41 : decode cX6_pass 41 = .ok (.iconst 0, 1) := by decide +kernel
theorem dX6_pass_42 : decode cX6_pass 42 = .ok (.istore_n 2, 1) := by decide +kernel
theorem dX6_pass_43 : decode cX6_pass 43 = .ok (.iload_n 2, 1) := by decide +kernel
theorem dX6_pass_44 : decode cX6_pass 44 = .ok (.iload_n 1, 1) := by decide +kernel
theorem dX6_pass_45 : decode cX6_pass 45 = .ok (.if_icmp .ge 13, 3) := by decide +kernel
theorem dX6_pass_48 : decode cX6_pass 48 = .ok (.aload_n 0, 1) := by decide +kernel
theorem dX6_pass_49 : decode cX6_pass 49 = .ok (.invokevirtual 131, 3) := by decide +kernel
theorem dX6_pass_52 : decode cX6_pass 52 = .ok (.iinc 2 1, 3) := by decide +kernel
theorem dX6_pass_55 : decode cX6_pass 55 = .ok (.goto (-12), 3) := by decide +kernel
theorem dX6_pass_58 : decode cX6_pass 58 = .ok (.aload_n 0, 1) := by decide +kernel
theorem dX6_pass_59 : decode cX6_pass 59 = .ok (.getfield 100, 3) := by decide +kernel
theorem dX6_pass_62 : decode cX6_pass 62 = .ok (.ireturn, 1) := by decide +kernel
theorem dX6_storm_0 : decode cX6_storm 0 = .ok (.aload_n 0, 1) := by decide +kernel
theorem dX6_storm_1 : decode cX6_storm 1 = .ok (.aload_n 0, 1) := by decide +kernel
theorem dX6_storm_2 : decode cX6_storm 2 = .ok (.iload_n 1, 1) := by decide +kernel
theorem dX6_storm_3 : decode cX6_storm 3 = .ok (.iconst 0, 1) := by decide +kernel
theorem dX6_storm_4 : decode cX6_storm 4 = .ok (.bipush 47, 2) := by decide +kernel
theorem dX6_storm_6 : decode cX6_storm 6 = .ok (.invokevirtual 86, 3) := by decide +kernel
theorem dX6_storm_9 : decode cX6_storm 9 = .ok (.ifCond .ne 7, 3) := by decide +kernel
theorem dX6_storm_12 : decode cX6_storm 12 = .ok (.iconst 1, 1) := by decide +kernel
theorem dX6_storm_13 : decode cX6_storm 13 = .ok (.goto 23, 3) := by decide +kernel
theorem dX6_storm_16 : decode cX6_storm 16 = .ok (.aload_n 0, 1) := by decide +kernel
theorem dX6_storm_17 : decode cX6_storm 17 = .ok (.iload_n 2, 1) := by decide +kernel
theorem dX6_storm_18 : decode cX6_storm 18 = .ok (.aload_n 0, 1) := by decide +kernel
theorem dX6_storm_19 : decode cX6_storm 19 = .ok (.getfield 100, 3) := by decide +kernel
theorem dX6_storm_22 : decode cX6_storm 22 = .ok (.sipush 999, 3) := by decide +kernel
theorem dX6_storm_25 : decode cX6_storm 25 = .ok (.invokevirtual 86, 3) := by decide +kernel
theorem dX6_storm_28 : decode cX6_storm 28 = .ok (.ifCond .eq 7, 3) := by decide +kernel
theorem dX6_storm_31 : decode cX6_storm 31 = .ok (.iconst 0, 1) := by decide +kernel
theorem dX6_storm_32 : decode cX6_storm 32 = .ok (.goto 4, 3) := by decide +kernel
theorem dX6_storm_35 : decode cX6_storm 35 = .ok (.iconst 2, 1) := by decide +kernel
theorem dX6_storm_36 : decode cX6_storm 36 = .ok (.invokevirtual 93, 3) := by decide +kernel
theorem dX6_storm_39 : decode cX6_storm 39 = .ok (.ifCond .eq 5, 3) := by decide +kernel
theorem dX6_storm_42 : decode cX6_storm 42 = .ok (.iconst (-1), 1) := by decide +kernel
theorem dX6_storm_43 : decode cX6_storm 43 = .ok (.ireturn, 1) := by decide +kernel
theorem dX6_storm_44 : decode cX6_storm 44 = .ok (.aload_n 0, 1) := by decide +kernel
theorem dX6_storm_45 : decode cX6_storm 45 = .ok (.getfield 8, 3) := by decide +kernel
theorem dX6_storm_48 : decode cX6_storm 48 = .ok (.sipush 1000, 3) := by decide +kernel
theorem dX6_storm_51 : decode cX6_storm 51 = .ok (.iload_n 1, 1) := by decide +kernel
theorem dX6_storm_52 : decode cX6_storm 52 = .ok (.imul, 1) := by decide +kernel
theorem dX6_storm_53 : decode cX6_storm 53 = .ok (.iload_n 2, 1) := by decide +kernel
theorem dX6_storm_54 : decode cX6_storm 54 = .ok (.iadd, 1) := by decide +kernel
theorem dX6_storm_55 : decode cX6_storm 55 = .ok (.baload, 1) := by decide +kernel
theorem dX6_storm_56 : decode cX6_storm 56 = .ok (.ireturn, 1) := by decide +kernel
theorem dX6_ofBoat_0 : decode cX6_ofBoat 0 = .ok (.aload_n 0, 1) := by decide +kernel
theorem dX6_ofBoat_1 : decode cX6_ofBoat 1 = .ok (.aload_n 0, 1) := by decide +kernel
theorem dX6_ofBoat_2 : decode cX6_ofBoat 2 = .ok (.iload_n 1, 1) := by decide +kernel
theorem dX6_ofBoat_3 : decode cX6_ofBoat 3 = .ok (.invokevirtual 97, 3) := by decide +kernel
theorem dX6_ofBoat_6 : decode cX6_ofBoat 6 = .ok (.ifCond .ne 7, 3) := by decide +kernel
theorem dX6_ofBoat_9 : decode cX6_ofBoat 9 = .ok (.iconst 1, 1) := by decide +kernel
theorem dX6_ofBoat_10 : decode cX6_ofBoat 10 = .ok (.goto 18, 3) := by decide +kernel
theorem dX6_ofBoat_13 : decode cX6_ofBoat 13 = .ok (.aload_n 0, 1) := by decide +kernel
theorem dX6_ofBoat_14 : decode cX6_ofBoat 14 = .ok (.iload_n 2, 1) := by decide +kernel
theorem dX6_ofBoat_15 : decode cX6_ofBoat 15 = .ok (.iconst 0, 1) := by decide +kernel
theorem dX6_ofBoat_16 : decode cX6_ofBoat 16 = .ok (.iconst 3, 1) := by decide +kernel
theorem dX6_ofBoat_17 : decode cX6_ofBoat 17 = .ok (.invokevirtual 86, 3) := by decide +kernel
theorem dX6_ofBoat_20 : decode cX6_ofBoat 20 = .ok (.ifCond .eq 7, 3) := by decide +kernel
theorem dX6_ofBoat_23 : decode cX6_ofBoat 23 = .ok (.iconst 0, 1) := by decide +kernel
theorem dX6_ofBoat_24 : decode cX6_ofBoat 24 = .ok (.goto 4, 3) := by decide +kernel
theorem dX6_ofBoat_27 : decode cX6_ofBoat 27 = .ok (.iconst 2, 1) := by decide +kernel
theorem dX6_ofBoat_28 : decode cX6_ofBoat 28 = .ok (.invokevirtual 93, 3) := by decide +kernel
theorem dX6_ofBoat_31 : decode cX6_ofBoat 31 = .ok (.ifCond .eq 5, 3) := by decide +kernel
theorem dX6_ofBoat_34 : decode cX6_ofBoat 34 = .ok (.iconst (-1), 1) := by decide +kernel
theorem dX6_ofBoat_35 : decode cX6_ofBoat 35 = .ok (.ireturn, 1) := by decide +kernel
theorem dX6_ofBoat_36 : decode cX6_ofBoat 36 = .ok (.iload_n 2, 1) := by decide +kernel
theorem dX6_ofBoat_37 : decode cX6_ofBoat 37 = .ok (.ifCond .ne 12, 3) := by decide +kernel
theorem dX6_ofBoat_40 : decode cX6_ofBoat 40 = .ok (.aload_n 0, 1) := by decide +kernel
theorem dX6_ofBoat_41 : decode cX6_ofBoat 41 = .ok (.getfield 36, 3) := by decide +kernel
theorem dX6_ofBoat_44 : decode cX6_ofBoat 44 = .ok (.iload_n 1, 1) := by decide +kernel
theorem dX6_ofBoat_45 : decode cX6_ofBoat 45 = .ok (.iaload, 1) := by decide +kernel
theorem dX6_ofBoat_46 : decode cX6_ofBoat 46 = .ok (.goto 50, 3) := by decide +kernel
theorem dX6_ofBoat_49 : decode cX6_ofBoat 49 = .ok (.iload_n 2, 1) := by decide +kernel
theorem dX6_ofBoat_50 : decode cX6_ofBoat 50 = .ok (.iconst 1, 1) := by decide +kernel
theorem dX6_ofBoat_51 : decode cX6_ofBoat 51 = .ok (.if_icmp .ne 12, 3) := by decide +kernel
theorem dX6_ofBoat_54 : decode cX6_ofBoat 54 = .ok (.aload_n 0, 1) := by decide +kernel
theorem dX6_ofBoat_55 : decode cX6_ofBoat 55 = .ok (.getfield 39, 3) := by decide +kernel
theorem dX6_ofBoat_58 : decode cX6_ofBoat 58 = .ok (.iload_n 1, 1) := by decide +kernel
theorem dX6_ofBoat_59 : decode cX6_ofBoat 59 = .ok (.iaload, 1) := by decide +kernel
theorem dX6_ofBoat_60 : decode cX6_ofBoat 60 = .ok (.goto 36, 3) := by decide +kernel
theorem dX6_ofBoat_63 : decode cX6_ofBoat 63 = .ok (.iload_n 2, 1) := by decide +kernel
theorem dX6_ofBoat_64 : decode cX6_ofBoat 64 = .ok (.iconst 2, 1) := by decide +kernel
theorem dX6_ofBoat_65 : decode cX6_ofBoat 65 = .ok (.if_icmp .ne 25, 3) := by decide +kernel
theorem dX6_ofBoat_68 : decode cX6_ofBoat 68 = .ok (.aload_n 0, 1) := by decide +kernel
theorem dX6_ofBoat_69 : decode cX6_ofBoat 69 = .ok (.getfield 36, 3) := by decide +kernel
theorem dX6_ofBoat_72 : decode cX6_ofBoat 72 = .ok (.iload_n 1, 1) := by decide +kernel
theorem dX6_ofBoat_73 : decode cX6_ofBoat 73 = .ok (.iaload, 1) := by decide +kernel
theorem dX6_ofBoat_74 : decode cX6_ofBoat 74 = .ok (.ifCond .ne 7, 3) := by decide +kernel
theorem dX6_ofBoat_77 : decode cX6_ofBoat 77 = .ok (.iconst (-1), 1) := by decide +kernel
theorem dX6_ofBoat_78 : decode cX6_ofBoat 78 = .ok (.goto 18, 3) := by decide +kernel
theorem dX6_ofBoat_81 : decode cX6_ofBoat 81 = .ok (.aload_n 0, 1) := by decide +kernel
theorem dX6_ofBoat_82 : decode cX6_ofBoat 82 = .ok (.getfield 45, 3) := by decide +kernel
theorem dX6_ofBoat_85 : decode cX6_ofBoat 85 = .ok (.iload_n 1, 1) := by decide +kernel
theorem dX6_ofBoat_86 : decode cX6_ofBoat 86 = .ok (.iaload, 1) := by decide +kernel
theorem dX6_ofBoat_87 : decode cX6_ofBoat 87 = .ok (.goto 9, 3) := by decide +kernel
theorem dX6_ofBoat_90 : decode cX6_ofBoat 90 = .ok (.aload_n 0, 1) := by decide +kernel
theorem dX6_ofBoat_91 : decode cX6_ofBoat 91 = .ok (.getfield 30, 3) := by decide +kernel
theorem dX6_ofBoat_94 : decode cX6_ofBoat 94 = .ok (.iload_n 1, 1) := by decide +kernel
theorem dX6_ofBoat_95 : decode cX6_ofBoat 95 = .ok (.iaload, 1) := by decide +kernel
