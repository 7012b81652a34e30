theorem dX5_columnOf_1 : decode cX5_columnOf 1 = .ok (.bipush 8, 2) := by decide +kernel
theorem dX5_columnOf_3 : decode cX5_columnOf 3 = .ok (.irem, 1) := by decide +kernel
theorem dX5_columnOf_4 : decode cX5_columnOf 4 = .ok (.ireturn, 1) := by decide +kernel
theorem dX5_rowOf_0 : decode cX5_rowOf 0 = .ok (.iload_n 0, 1) := by decide +kernel
theorem dX5_rowOf_1 : decode cX5_rowOf 1 = .ok (.bipush 8, 2) := by decide +kernel
theorem dX5_rowOf_3 : decode cX5_rowOf 3 = .ok (.idiv, 1) := by decide +kernel
theorem dX5_rowOf_4 : decode cX5_rowOf 4 = .ok (.ireturn, 1) := by decide +kernel
theorem dX6_init_0 : decode cX6_init 0 = .ok (.aload_n 0, 1) := by decide +kernel
theorem dX6_init_1 : decode cX6_init 1 = .ok (.invokespecial 1, 3) := by decide +kernel
theorem dX6_init_4 : decode cX6_init 4 = .ok (.aload_n 0, 1) := by decide +kernel
theorem dX6_init_5 : decode cX6_init 5 = .ok (.ldc 7, 2) := by decide +kernel
theorem dX6_init_7 : decode cX6_init 7 = .ok (.newarray .byte, 2) := by decide +kernel
theorem dX6_init_9 : decode cX6_init 9 = .ok (.putfield 8, 3) := by decide +kernel
theorem dX6_init_12 : decode cX6_init 12 = .ok (.aload_n 0, 1) := by decide +kernel
theorem dX6_init_13 : decode cX6_init 13 = .ok (.bipush 6, 2) := by decide +kernel
theorem dX6_init_15 : decode cX6_init 15 = .ok (.newarray .int, 2) := by decide +kernel
theorem dX6_init_17 : decode cX6_init 17 = .ok (.putfield 14, 3) := by decide +kernel
theorem dX6_init_20 : decode cX6_init 20 = .ok (.aload_n 0, 1) := by decide +kernel
theorem dX6_init_21 : decode cX6_init 21 = .ok (.bipush 6, 2) := by decide +kernel
theorem dX6_init_23 : decode cX6_init 23 = .ok (.newarray .int, 2) := by decide +kernel
theorem dX6_init_25 : decode cX6_init 25 = .ok (.putfield 18, 3) := by decide +kernel
theorem dX6_init_28 : decode cX6_init 28 = .ok (.aload_n 0, 1) := by decide +kernel
theorem dX6_init_29 : decode cX6_init 29 = .ok (.bipush 6, 2) := by decide +kernel
theorem dX6_init_31 : decode cX6_init 31 = .ok (.newarray .int, 2) := by decide +kernel
theorem dX6_init_33 : decode cX6_init 33 = .ok (.putfield 21, 3) := by decide +kernel
theorem dX6_init_36 : decode cX6_init 36 = .ok (.aload_n 0, 1) := by decide +kernel
theorem dX6_init_37 : decode cX6_init 37 = .ok (.bipush 6, 2) := by decide +kernel
theorem dX6_init_39 : decode cX6_init 39 = .ok (.newarray .int, 2) := by decide +kernel
theorem dX6_init_41 : decode cX6_init 41 = .ok (.putfield 24, 3) := by decide +kernel
theorem dX6_init_44 : decode cX6_init 44 = .ok (.aload_n 0, 1) := by decide +kernel
theorem dX6_init_45 : decode cX6_init 45 = .ok (.bipush 6, 2) := by decide +kernel
theorem dX6_init_47 : decode cX6_init 47 = .ok (.newarray .int, 2) := by decide +kernel
theorem dX6_init_49 : decode cX6_init 49 = .ok (.putfield 27, 3) := by decide +kernel
theorem dX6_init_52 : decode cX6_init 52 = .ok (.aload_n 0, 1) := by decide +kernel
theorem dX6_init_53 : decode cX6_init 53 = .ok (.bipush 6, 2) := by decide +kernel
theorem dX6_init_55 : decode cX6_init 55 = .ok (.newarray .int, 2) := by decide +kernel
theorem dX6_init_57 : decode cX6_init 57 = .ok (.putfield 30, 3) := by decide +kernel
theorem dX6_init_60 : decode cX6_init 60 = .ok (.aload_n 0, 1) := by decide +kernel
theorem dX6_init_61 : decode cX6_init 61 = .ok (.bipush 6, 2) := by decide +kernel
theorem dX6_init_63 : decode cX6_init 63 = .ok (.newarray .int, 2) := by decide +kernel
theorem dX6_init_65 : decode cX6_init 65 = .ok (.putfield 33, 3) := by decide +kernel
theorem dX6_init_68 : decode cX6_init 68 = .ok (.aload_n 0, 1) := by decide +kernel
theorem dX6_init_69 : decode cX6_init 69 = .ok (.bipush 6, 2) := by decide +kernel
theorem dX6_init_71 : decode cX6_init 71 = .ok (.newarray .int, 2) := by decide +kernel
theorem dX6_init_73 : decode cX6_init 73 = .ok (.putfield 36, 3) := by decide +kernel
theorem dX6_init_76 : decode cX6_init 76 = .ok (.aload_n 0, 1) := by decide +kernel
theorem dX6_init_77 : decode cX6_init 77 = .ok (.bipush 6, 2) := by decide +kernel
theorem dX6_init_79 : decode cX6_init 79 = .ok (.newarray .int, 2) := by decide +kernel
theorem dX6_init_81 : decode cX6_init 81 = .ok (.putfield 39, 3) := by decide +kernel
theorem dX6_init_84 : decode cX6_init 84 = .ok (.aload_n 0, 1) := by decide +kernel
theorem dX6_init_85 : decode cX6_init 85 = .ok (.bipush 6, 2) := by decide +kernel
theorem dX6_init_87 : decode cX6_init 87 = .ok (.newarray .int, 2) := by decide +kernel
theorem dX6_init_89 : decode cX6_init 89 = .ok (.putfield 42, 3) := by decide +kernel
theorem dX6_init_92 : decode cX6_init 92 = .ok (.aload_n 0, 1) := by decide +kernel
theorem dX6_init_93 : decode cX6_init 93 = .ok (.bipush 6, 2) := by decide +kernel
theorem dX6_init_95 : decode cX6_init 95 = .ok (.newarray .int, 2) := by decide +kernel
theorem dX6_init_97 : decode cX6_init 97 = .ok (.putfield 45, 3) := by decide +kernel
theorem dX6_init_100 : decode cX6_init 100 = .ok (.aload_n 0, 1) := by decide +kernel
theorem dX6_init_101 : decode cX6_init 101 = .ok (.bipush 6, 2) := by decide +kernel
theorem dX6_init_103 : decode cX6_init 103 = .ok (.newarray .int, 2) := by decide +kernel
theorem dX6_init_105 : decode cX6_init 105 = .ok (.putfield 48, 3) := by decide +kernel
theorem dX6_init_108 : decode cX6_init 108 = .ok (.aload_n 0, 1) := by decide +kernel
theorem dX6_init_109 : decode cX6_init 109 = .ok (.bipush 30, 2) := by decide +kernel
theorem dX6_init_111 : decode cX6_init 111 = .ok (.newarray .int, 2) := by decide +kernel
theorem dX6_init_113 : decode cX6_init 113 = .ok (.putfield 51, 3) := by decide +kernel
theorem dX6_init_116 : decode cX6_init 116 = .ok (.aload_n 0, 1) := by decide +kernel
theorem dX6_init_117 : decode cX6_init 117 = .ok (.bipush 30, 2) := by decide +kernel
theorem dX6_init_119 : decode cX6_init 119 = .ok (.newarray .int, 2) := by decide +kernel
theorem dX6_init_121 : decode cX6_init 121 = .ok (.putfield 54, 3) := by decide +kernel
theorem dX6_init_124 : decode cX6_init 124 = .ok (.aload_n 0, 1) := by decide +kernel
theorem dX6_init_125 : decode cX6_init 125 = .ok (.bipush 30, 2) := by decide +kernel
theorem dX6_init_127 : decode cX6_init 127 = .ok (.newarray .int, 2) := by decide +kernel
theorem dX6_init_129 : decode cX6_init 129 = .ok (.putfield 57, 3) := by decide +kernel
theorem dX6_init_132 : decode cX6_init 132 = .ok (.aload_n 0, 1) := by decide +kernel
theorem dX6_init_133 : decode cX6_init 133 = .ok (.bipush 30, 2) := by decide +kernel
theorem dX6_init_135 : decode cX6_init 135 = .ok (.newarray .int, 2) := by decide +kernel
theorem dX6_init_137 : decode cX6_init 137 = .ok (.putfield 60, 3) := by decide +kernel
theorem dX6_init_140 : decode cX6_init 140 = .ok (.aload_n 0, 1) := by decide +kernel
theorem dX6_init_141 : decode cX6_init 141 = .ok (.bipush 30, 2) := by decide +kernel
theorem dX6_init_143 : decode cX6_init 143 = .ok (.newarray .int, 2) := by decide +kernel
theorem dX6_init_145 : decode cX6_init 145 = .ok (.putfield 63, 3) := by decide +kernel
theorem dX6_init_148 : decode cX6_init 148 = .ok (.aload_n 0, 1) := by decide +kernel
theorem dX6_init_149 : decode cX6_init 149 = .ok (.bipush 30, 2) := by decide +kernel
theorem dX6_init_151 : decode cX6_init 151 = .ok (.newarray .int, 2) := by decide +kernel
theorem dX6_init_153 : decode cX6_init 153 = .ok (.putfield 66, 3) := by decide +kernel
theorem dX6_init_156 : decode cX6_init 156 = .ok (.aload_n 0, 1) := by decide +kernel
theorem dX6_init_157 : decode cX6_init 157 = .ok (.bipush 30, 2) := by decide +kernel
theorem dX6_init_159 : decode cX6_init 159 = .ok (.newarray .int, 2) := by decide +kernel
theorem dX6_init_161 : decode cX6_init 161 = .ok (.putfield 69, 3) := by decide +kernel
theorem dX6_init_164 : decode cX6_init 164 = .ok (.aload_n 0, 1) := by decide +kernel
theorem dX6_init_165 : decode cX6_init 165 = .ok (.iconst 3, 1) := by decide +kernel
theorem dX6_init_166 : decode cX6_init 166 = .ok (.newarray .int, 2) := by decide +kernel
theorem dX6_init_168 : decode cX6_init 168 = .ok (.putfield 72, 3) := by decide +kernel
theorem dX6_init_171 : decode cX6_init 171 = .ok (.aload_n 0, 1) := by decide +kernel
theorem dX6_init_172 : decode cX6_init 172 = .ok (.sipush 200, 3) := by decide +kernel
theorem dX6_init_175 : decode cX6_init 175 = .ok (.putfield 75, 3) := by decide +kernel
theorem dX6_init_178 : decode cX6_init 178 = .ok (.return_, 1) := by decide +kernel
theorem dX6_thrown_0 : decode cX6_thrown 0 = .ok (.aload_n 0, 1) := by decide +kernel
theorem dX6_thrown_1 : decode cX6_thrown 1 = .ok (.getfield 79, 3) := by decide +kernel
theorem dX6_thrown_4 : decode cX6_thrown 4 = .ok (.ireturn, 1) := by decide +kernel
theorem dX6_fails_0 : decode cX6_fails 0 = .ok (.aload_n 0, 1) := by decide +kernel
theorem dX6_fails_1 : decode cX6_fails 1 = .ok (.iload_n 1, 1) := by decide +kernel
theorem dX6_fails_2 : decode cX6_fails 2 = .ok (.putfield 79, 3) := by decide +kernel
theorem dX6_fails_5 : decode cX6_fails 5 = .ok (.iload_n 1, 1) := by decide +kernel
theorem dX6_fails_6 : decode cX6_fails 6 = .ok (.ifCond .le 7, 3) := by decide +kernel
theorem dX6_fails_9 : decode cX6_fails 9 = .ok (.iconst 1, 1) := by decide +kernel
theorem dX6_fails_10 : decode cX6_fails 10 = .ok (.goto 4, 3) := by decide +kernel
theorem dX6_fails_13 : decode cX6_fails 13 = .ok (.iconst 0, 1) := by decide +kernel
theorem dX6_fails_14 : decode cX6_fails 14 = .ok (.ireturn, 1) := by decide +kernel
theorem dX6_in_0 : decode cX6_in 0 = .ok (.iload_n 1, 1) := by decide +kernel
theorem dX6_in_1 : decode cX6_in 1 = .ok (.iload_n 2, 1) := by decide +kernel
theorem dX6_in_2 : decode cX6_in 2 = .ok (.if_icmp .lt 12, 3) := by decide +kernel
theorem dX6_in_5 : decode cX6_in 5 = .ok (.iload_n 1, 1) := by decide +kernel
theorem dX6_in_6 : decode cX6_in 6 = .ok (.iload_n 3, 1) := by decide +kernel
theorem dX6_in_7 : decode cX6_in 7 = .ok (.if_icmp .gt 7, 3) := by decide +kernel
theorem dX6_in_10 : decode cX6_in 10 = .ok (.iconst 1, 1) := by decide +kernel
theorem dX6_in_11 : decode cX6_in 11 = .ok (.goto 4, 3) := by decide +kernel
theorem dX6_in_14 : decode cX6_in 14 = .ok (.iconst 0, 1) := by decide +kernel
theorem dX6_in_15 : decode cX6_in 15 = .ok (.ireturn, 1) := by decide +kernel
theorem dX6_flat_0 : decode cX6_flat 0 = .ok (.iload_n 1, 1) := by decide +kernel
theorem dX6_flat_1 : decode cX6_flat 1 = .ok (.ifCond .ge 8, 3) := by decide +kernel
theorem dX6_flat_4 : decode cX6_flat 4 = .ok (.iload_n 1, 1) := by decide +kernel
theorem dX6_flat_5 : decode cX6_flat 5 = .ok (.ineg, 1) := by decide +kernel
theorem dX6_flat_6 : decode cX6_flat 6 = .ok (.goto 4, 3) := by decide +kernel
theorem dX6_flat_9 : decode cX6_flat 9 = .ok (.iload_n 1, 1) := by decide +kernel
theorem dX6_flat_10 : decode cX6_flat 10 = .ok (.ireturn, 1) := by decide +kernel
theorem dX6_way_0 : decode cX6_way 0 = .ok (.aload_n 0, 1) := by decide +kernel
theorem dX6_way_1 : decode cX6_way 1 = .ok (.iload_n 1, 1) := by decide +kernel
theorem dX6_way_2 : decode cX6_way 2 = .ok (.bipush 8, 2) := by decide +kernel
theorem dX6_way_4 : decode cX6_way 4 = .ok (.irem, 1) := by decide +kernel
theorem dX6_way_5 : decode cX6_way 5 = .ok (.iload_n 2, 1) := by decide +kernel
theorem dX6_way_6 : decode cX6_way 6 = .ok (.bipush 8, 2) := by decide +kernel
theorem dX6_way_8 : decode cX6_way 8 = .ok (.irem, 1) := by decide +kernel
theorem dX6_way_9 : decode cX6_way 9 = .ok (.isub, 1) := by decide +kernel
theorem dX6_way_10 : decode cX6_way 10 = .ok (.invokevirtual 82, 3) := by decide +kernel
theorem dX6_way_13 : decode cX6_way 13 = .ok (.aload_n 0, 1) := by decide +kernel
theorem dX6_way_14 : decode cX6_way 14 = .ok (.iload_n 1, 1) := by decide +kernel
theorem dX6_way_15 : decode cX6_way 15 = .ok (.bipush 8, 2) := by decide +kernel
theorem dX6_way_17 : decode cX6_way 17 = .ok (.idiv, 1) := by decide +kernel
theorem dX6_way_18 : decode cX6_way 18 = .ok (.iload_n 2, 1) := by decide +kernel
theorem dX6_way_19 : decode cX6_way 19 = .ok (.bipush 8, 2) := by decide +kernel
theorem dX6_way_21 : decode cX6_way 21 = .ok (.idiv, 1) := by decide +kernel
theorem dX6_way_22 : decode cX6_way 22 = .ok (.isub, 1) := by decide +kernel
theorem dX6_way_23 : decode cX6_way 23 = .ok (.invokevirtual 82, 3) := by decide +kernel
theorem dX6_way_26 : decode cX6_way 26 = .ok (.iadd, 1) := by decide +kernel
theorem dX6_way_27 : decode cX6_way 27 = .ok (.ireturn, 1) := by decide +kernel
theorem dX6_boat_0 : decode cX6_boat 0 = .ok (.aload_n 0, 1) := by decide +kernel
theorem dX6_boat_1 : decode cX6_boat 1 = .ok (.iload_n 1, 1) := by decide +kernel
theorem dX6_boat_2 : decode cX6_boat 2 = .ok (.iconst 0, 1) := by decide +kernel
theorem dX6_boat_3 : decode cX6_boat 3 = .ok (.iconst 2, 1) := by decide +kernel
theorem dX6_boat_4 : decode cX6_boat 4 = .ok (.invokevirtual 86, 3) := by decide +kernel
theorem dX6_boat_7 : decode cX6_boat 7 = .ok (.ifCond .eq 18, 3) := by decide +kernel
theorem dX6_boat_10 : decode cX6_boat 10 = .ok (.aload_n 0, 1) := by decide +kernel
theorem dX6_boat_11 : decode cX6_boat 11 = .ok (.iload_n 2, 1) := by decide +kernel
theorem dX6_boat_12 : decode cX6_boat 12 = .ok (.iconst 0, 1) := by decide +kernel
theorem dX6_boat_13 : decode cX6_boat 13 = .ok (.bipush 47, 2) := by decide +kernel
theorem dX6_boat_15 : decode cX6_boat 15 = .ok (.invokevirtual 86, 3) := by decide +kernel
theorem dX6_boat_18 : decode cX6_boat 18 = .ok (.ifCond .eq 7, 3) := by decide +kernel
theorem dX6_boat_21 : decode cX6_boat 21 = .ok (.iconst 1, 1) := by decide +kernel
theorem dX6_boat_22 : decode cX6_boat 22 = .ok (.goto 4, 3) := by decide +kernel
theorem dX6_boat_25 : decode cX6_boat 25 = .ok (.iconst 0, 1) := by decide +kernel
theorem dX6_boat_26 : decode cX6_boat 26 = .ok (.istore 6, 2) := by decide +kernel
theorem dX6_boat_28 : decode cX6_boat 28 = .ok (.aload_n 0, 1) := by decide +kernel
theorem dX6_boat_29 : decode cX6_boat 29 = .ok (.iload_n 3, 1) := by decide +kernel
theorem dX6_boat_30 : decode cX6_boat 30 = .ok (.iconst 1, 1) := by decide +kernel
theorem dX6_boat_31 : decode cX6_boat 31 = .ok (.iconst 3, 1) := by decide +kernel
theorem dX6_boat_32 : decode cX6_boat 32 = .ok (.invokevirtual 86, 3) := by decide +kernel
theorem dX6_boat_35 : decode cX6_boat 35 = .ok (.ifCond .eq 31, 3) := by decide +kernel
theorem dX6_boat_38 : decode cX6_boat 38 = .ok (.aload_n 0, 1) := by decide +kernel
theorem dX6_boat_39 : decode cX6_boat 39 = .ok (.iload 4, 2) := by decide +kernel
theorem dX6_boat_41 : decode cX6_boat 41 = .ok (.iconst 1, 1) := by decide +kernel
theorem dX6_boat_42 : decode cX6_boat 42 = .ok (.bipush 100, 2) := by decide +kernel
theorem dX6_boat_44 : decode cX6_boat 44 = .ok (.invokevirtual 86, 3) := by decide +kernel
theorem dX6_boat_47 : decode cX6_boat 47 = .ok (.ifCond .eq 19, 3) := by decide +kernel
theorem dX6_boat_50 : decode cX6_boat 50 = .ok (.aload_n 0, 1) := by decide +kernel
theorem dX6_boat_51 : decode cX6_boat 51 = .ok (.iload 5, 2) := by decide +kernel
theorem dX6_boat_53 : decode cX6_boat 53 = .ok (.iconst 0, 1) := by decide +kernel
theorem dX6_boat_54 : decode cX6_boat 54 = .ok (.bipush 9, 2) := by decide +kernel
theorem dX6_boat_56 : decode cX6_boat 56 = .ok (.invokevirtual 86, 3) := by decide +kernel
theorem dX6_boat_59 : decode cX6_boat 59 = .ok (.ifCond .eq 7, 3) := by decide +kernel
theorem dX6_boat_62 : decode cX6_boat 62 = .ok (.iconst 1, 1) := by decide +kernel
theorem dX6_boat_63 : decode cX6_boat 63 = .ok (.goto 4, 3) := by decide +kernel
theorem dX6_boat_66 : decode cX6_boat 66 = .ok (.iconst 0, 1) := by decide +kernel
theorem dX6_boat_67 : decode cX6_boat 67 = .ok (.istore 7, 2) := by decide +kernel
theorem dX6_boat_69 : decode cX6_boat 69 = .ok (.aload_n 0, 1) := by decide +kernel
theorem dX6_boat_70 : decode cX6_boat 70 = .ok (.iload 6, 2) := by decide +kernel
theorem dX6_boat_72 : decode cX6_boat 72 = .ok (.ifCond .ne 7, 3) := by decide +kernel
theorem dX6_boat_75 : decode cX6_boat 75 = .ok (.iconst 1, 1) := by decide +kernel
theorem dX6_boat_76 : decode cX6_boat 76 = .ok (.goto 26, 3) := by decide +kernel
theorem dX6_boat_79 : decode cX6_boat 79 = .ok (.iload 7, 2) := by decide +kernel
theorem dX6_boat_81 : decode cX6_boat 81 = .ok (.ifCond .ne 7, 3) := by decide +kernel
theorem dX6_boat_84 : decode cX6_boat 84 = .ok (.iconst 2, 1) := by decide +kernel
theorem dX6_boat_85 : decode cX6_boat 85 = .ok (.goto 17, 3) := by decide +kernel
theorem dX6_boat_88 : decode cX6_boat 88 = .ok (.aload_n 0, 1) := by decide +kernel
theorem dX6_boat_89 : decode cX6_boat 89 = .ok (.getfield 90, 3) := by decide +kernel
theorem dX6_boat_92 : decode cX6_boat 92 = .ok (.bipush 6, 2) := by decide +kernel
theorem dX6_boat_94 : decode cX6_boat 94 = .ok (.if_icmp .ne 7, 3) := by decide +kernel
theorem dX6_boat_97 : decode cX6_boat 97 = .ok (.iconst 3, 1) := by decide +kernel
theorem dX6_boat_98 : decode cX6_boat 98 = .ok (.goto 4, 3) := by decide +kernel
theorem dX6_boat_101 : decode cX6_boat 101 = .ok (.iconst 0, 1) := by decide +kernel
theorem dX6_boat_102 : decode cX6_boat 102 = .ok (.invokevirtual 93, 3) := by decide +kernel
theorem dX6_boat_105 : decode cX6_boat 105 = .ok (.ifCond .eq 5, 3) := by decide +kernel
theorem dX6_boat_108 : decode cX6_boat 108 = .ok (.iconst (-1), 1) := by decide +kernel
theorem dX6_boat_109 : decode cX6_boat 109 = .ok (.ireturn, 1) := by decide +kernel
theorem dX6_boat_110 : decode cX6_boat 110 = .ok (.aload_n 0, 1) := by decide +kernel
theorem dX6_boat_111 : decode cX6_boat 111 = .ok (.getfield 14, 3) := by decide +kernel
theorem dX6_boat_114 : decode cX6_boat 114 = .ok (.aload_n 0, 1) := by decide +kernel
theorem dX6_boat_115 : decode cX6_boat 115 = .ok (.getfield 90, 3) := by decide +kernel
theorem dX6_boat_118 : decode cX6_boat 118 = .ok (.iload_n 1, 1) := by decide +kernel
theorem dX6_boat_119 : decode cX6_boat 119 = .ok (.iastore, 1) := by decide +kernel
theorem dX6_boat_120 : decode cX6_boat 120 = .ok (.aload_n 0, 1) := by decide +kernel
theorem dX6_boat_121 : decode cX6_boat 121 = .ok (.getfield 18, 3) := by decide +kernel
theorem dX6_boat_124 : decode cX6_boat 124 = .ok (.aload_n 0, 1) := by decide +kernel
theorem dX6_boat_125 : decode cX6_boat 125 = .ok (.getfield 90, 3) := by decide +kernel
theorem dX6_boat_128 : decode cX6_boat 128 = .ok (.iload_n 1, 1) := by decide +kernel
theorem dX6_boat_129 : decode cX6_boat 129 = .ok (.iastore, 1) := by decide +kernel
theorem dX6_boat_130 : decode cX6_boat 130 = .ok (.aload_n 0, 1) := by decide +kernel
theorem dX6_boat_131 : decode cX6_boat 131 = .ok (.getfield 21, 3) := by decide +kernel
theorem dX6_boat_134 : decode cX6_boat 134 = .ok (.aload_n 0, 1) := by decide +kernel
theorem dX6_boat_135 : decode cX6_boat 135 = .ok (.getfield 90, 3) := by decide +kernel
theorem dX6_boat_138 : decode cX6_boat 138 = .ok (.iload_n 2, 1) := by decide +kernel
theorem dX6_boat_139 : decode cX6_boat 139 = .ok (.iastore, 1) := by decide +kernel
theorem dX6_boat_140 : decode cX6_boat 140 = .ok (.aload_n 0, 1) := by decide +kernel
theorem dX6_boat_141 : decode cX6_boat 141 = .ok (.getfield 24, 3) := by decide +kernel
theorem dX6_boat_144 : decode cX6_boat 144 = .ok (.aload_n 0, 1) := by decide +kernel
theorem dX6_boat_145 : decode cX6_boat 145 = .ok (.getfield 90, 3) := by decide +kernel
theorem dX6_boat_148 : decode cX6_boat 148 = .ok (.iload_n 3, 1) := by decide +kernel
theorem dX6_boat_149 : decode cX6_boat 149 = .ok (.iastore, 1) := by decide +kernel
theorem dX6_boat_150 : decode cX6_boat 150 = .ok (.aload_n 0, 1) := by decide +kernel
theorem dX6_boat_151 : decode cX6_boat 151 = .ok (.getfield 27, 3) := by decide +kernel
theorem dX6_boat_154 : decode cX6_boat 154 = .ok (.aload_n 0, 1) := by decide +kernel
theorem dX6_boat_155 : decode cX6_boat 155 = .ok (.getfield 90, 3) := by decide +kernel
theorem dX6_boat_158 : decode cX6_boat 158 = .ok (.iload 4, 2) := by decide +kernel
theorem dX6_boat_160 : decode cX6_boat 160 = .ok (.iastore, 1) := by decide +kernel
theorem dX6_boat_161 : decode cX6_boat 161 = .ok (.aload_n 0, 1) := by decide +kernel
theorem dX6_boat_162 : decode cX6_boat 162 = .ok (.getfield 30, 3) := by decide +kernel
theorem dX6_boat_165 : decode cX6_boat 165 = .ok (.aload_n 0, 1) := by decide +kernel
theorem dX6_boat_166 : decode cX6_boat 166 = .ok (.getfield 90, 3) := by decide +kernel
theorem dX6_boat_169 : decode cX6_boat 169 = .ok (.iload 4, 2) := by decide +kernel
theorem dX6_boat_171 : decode cX6_boat 171 = .ok (.iastore, 1) := by decide +kernel
theorem dX6_boat_172 : decode cX6_boat 172 = .ok (.aload_n 0, 1) := by decide +kernel
theorem dX6_boat_173 : decode cX6_boat 173 = .ok (.getfield 33, 3) := by decide +kernel
theorem dX6_boat_176 : decode cX6_boat 176 = .ok (.aload_n 0, 1) := by decide +kernel
theorem dX6_boat_177 : decode cX6_boat 177 = .ok (.getfield 90, 3) := by decide +kernel
theorem dX6_boat_180 : decode cX6_boat 180 = .ok (.iload 5, 2) := by decide +kernel
theorem dX6_boat_182 : decode cX6_boat 182 = .ok (.iastore, 1) := by decide +kernel
theorem dX6_boat_183 : decode cX6_boat 183 = .ok (.aload_n 0, 1) := by decide +kernel
theorem dX6_boat_184 : decode cX6_boat 184 = .ok (.getfield 39, 3) := by decide +kernel
theorem dX6_boat_187 : decode cX6_boat 187 = .ok (.aload_n 0, 1) := by decide +kernel
theorem dX6_boat_188 : decode cX6_boat 188 = .ok (.getfield 90, 3) := by decide +kernel
theorem dX6_boat_191 : decode cX6_boat 191 = .ok (.iconst (-1), 1) := by decide +kernel
theorem dX6_boat_192 : decode cX6_boat 192 = .ok (.iastore, 1) := by decide +kernel
theorem dX6_boat_193 : decode cX6_boat 193 = .ok (.aload_n 0, 1) := by decide +kernel
theorem dX6_boat_194 : decode cX6_boat 194 = .ok (.dup, 1) := by decide +kernel
theorem dX6_boat_195 : decode cX6_boat 195 = .ok (.getfield 90, 3) := by decide +kernel
theorem dX6_boat_198 : decode cX6_boat 198 = .ok (.iconst 1, 1) := by decide +kernel
theorem dX6_boat_199 : decode cX6_boat 199 = .ok (.iadd, 1) := by decide +kernel
theorem dX6_boat_200 : decode cX6_boat 200 = .ok (.putfield 90, 3) := by decide +kernel
theorem dX6_boat_203 : decode cX6_boat 203 = .ok (.aload_n 0, 1) := by decide +kernel
theorem dX6_boat_204 : decode cX6_boat 204 = .ok (.getfield 90, 3) := by decide +kernel
theorem dX6_boat_207 : decode cX6_boat 207 = .ok (.iconst 1, 1) := by decide +kernel
theorem dX6_boat_208 : decode cX6_boat 208 = .ok (.isub, 1) := by decide +kernel
theorem dX6_boat_209 : decode cX6_boat 209 = .ok (.ireturn, 1) := by decide +kernel
theorem dX6_isBoat_0 : decode cX6_isBoat 0 = .ok (.aload_n 0, 1) := by decide +kernel
theorem dX6_isBoat_1 : decode cX6_isBoat 1 = .ok (.iload_n 1, 1) := by decide +kernel
theorem dX6_isBoat_2 : decode cX6_isBoat 2 = .ok (.iconst 0, 1) := by decide +kernel
theorem dX6_isBoat_3 : decode cX6_isBoat 3 = .ok (.aload_n 0, 1) := by decide +kernel
theorem dX6_isBoat_4 : decode cX6_isBoat 4 = .ok (.getfield 90, 3) := by decide +kernel
theorem dX6_isBoat_7 : decode cX6_isBoat 7 = .ok (.iconst 1, 1) := by decide +kernel
theorem dX6_isBoat_8 : decode cX6_isBoat 8 = .ok (.isub, 1) := by decide +kernel
theorem dX6_isBoat_9 : decode cX6_isBoat 9 = .ok (.invokevirtual 86, 3) := by decide +kernel
theorem dX6_isBoat_12 : decode cX6_isBoat 12 = .ok (.ireturn, 1) := by decide +kernel
theorem dX6_lend_0 : decode cX6_lend 0 = .ok (.aload_n 0, 1) := by decide +kernel
theorem dX6_lend_1 : decode cX6_lend 1 = .ok (.aload_n 0, 1) := by decide +kernel
theorem dX6_lend_2 : decode cX6_lend 2 = .ok (.iload_n 1, 1) := by decide +kernel
theorem dX6_lend_3 : decode cX6_lend 3 = .ok (.invokevirtual 97, 3) := by decide +kernel
theorem dX6_lend_6 : decode cX6_lend 6 = .ok (.ifCond .eq 17, 3) := by decide +kernel
theorem dX6_lend_9 : decode cX6_lend 9 = .ok (.aload_n 0, 1) := by decide +kernel
theorem dX6_lend_10 : decode cX6_lend 10 = .ok (.iload_n 2, 1) := by decide +kernel
theorem dX6_lend_11 : decode cX6_lend 11 = .ok (.iconst 0, 1) := by decide +kernel
theorem dX6_lend_12 : decode cX6_lend 12 = .ok (.iconst 2, 1) := by decide +kernel
theorem dX6_lend_13 : decode cX6_lend 13 = .ok (.invokevirtual 86, 3) := by decide +kernel
theorem dX6_lend_16 : decode cX6_lend 16 = .ok (.ifCond .eq 7, 3) := by decide +kernel
theorem dX6_lend_19 : decode cX6_lend 19 = .ok (.iconst 0, 1) := by decide +kernel
theorem dX6_lend_20 : decode cX6_lend 20 = .ok (.goto 4, 3) := by decide +kernel
theorem dX6_lend_23 : decode cX6_lend 23 = .ok (.iconst 1, 1) := by decide +kernel
theorem dX6_lend_24 : decode cX6_lend 24 = .ok (.invokevirtual 93, 3) := by decide +kernel
theorem dX6_lend_27 : decode cX6_lend 27 = .ok (.ifCond .eq 5, 3) := by decide +kernel
theorem dX6_lend_30 : decode cX6_lend 30 = .ok (.iconst (-1), 1) := by decide +kernel
theorem dX6_lend_31 : decode cX6_lend 31 = .ok (.ireturn, 1) := by decide +kernel
theorem dX6_lend_32 : decode cX6_lend 32 = .ok (.aload_n 0, 1) := by decide +kernel
theorem dX6_lend_33 : decode cX6_lend 33 = .ok (.getfield 18, 3) := by decide +kernel
theorem dX6_lend_36 : decode cX6_lend 36 = .ok (.iload_n 1, 1) := by decide +kernel
theorem dX6_lend_37 : decode cX6_lend 37 = .ok (.iaload, 1) := by decide +kernel
theorem dX6_lend_38 : decode cX6_lend 38 = .ok (.istore_n 3, 1) := by decide +kernel
theorem dX6_lend_39 : decode cX6_lend 39 = .ok (.aload_n 0, 1) := by decide +kernel
theorem dX6_lend_40 : decode cX6_lend 40 = .ok (.getfield 18, 3) := by decide +kernel
theorem dX6_lend_43 : decode cX6_lend 43 = .ok (.iload_n 1, 1) := by decide +kernel
theorem dX6_lend_44 : decode cX6_lend 44 = .ok (.iload_n 2, 1) := by decide +kernel
theorem dX6_lend_45 : decode cX6_lend 45 = .ok (.iastore, 1) := by decide +kernel
theorem dX6_lend_46 : decode cX6_lend 46 = .ok (.iload_n 3, 1) := by decide +kernel
theorem dX6_lend_47 : decode cX6_lend 47 = .ok (.ireturn, 1) := by decide +kernel
theorem dX6_foretell_0 : decode cX6_foretell 0 = .ok (.aload_n 0, 1) := by decide +kernel
theorem dX6_foretell_1 : decode cX6_foretell 1 = .ok (.iload_n 1, 1) := by decide +kernel
theorem dX6_foretell_2 : decode cX6_foretell 2 = .ok (.iconst 0, 1) := by decide +kernel
theorem dX6_foretell_3 : decode cX6_foretell 3 = .ok (.bipush 47, 2) := by decide +kernel
theorem dX6_foretell_5 : decode cX6_foretell 5 = .ok (.invokevirtual 86, 3) := by decide +kernel
theorem dX6_foretell_8 : decode cX6_foretell 8 = .ok (.ifCond .eq 18, 3) := by decide +kernel
theorem dX6_foretell_11 : decode cX6_foretell 11 = .ok (.aload_n 0, 1) := by decide +kernel
theorem dX6_foretell_12 : decode cX6_foretell 12 = .ok (.iload_n 2, 1) := by decide +kernel
theorem dX6_foretell_13 : decode cX6_foretell 13 = .ok (.iconst 0, 1) := by decide +kernel
theorem dX6_foretell_14 : decode cX6_foretell 14 = .ok (.bipush 47, 2) := by decide +kernel
theorem dX6_foretell_16 : decode cX6_foretell 16 = .ok (.invokevirtual 86, 3) := by decide +kernel
theorem dX6_foretell_19 : decode cX6_foretell 19 = .ok (.ifCond .eq 7, 3) := by decide +kernel
theorem dX6_foretell_22 : decode cX6_foretell 22 = .ok (.iconst 1, 1) := by decide +kernel
theorem dX6_foretell_23 : decode cX6_foretell 23 = .ok (.goto 4, 3) := by decide +kernel
theorem dX6_foretell_26 : decode cX6_foretell 26 = .ok (.iconst 0, 1) := by decide +kernel
theorem dX6_foretell_27 : decode cX6_foretell 27 = .ok (.istore 6, 2) := by decide +kernel
theorem dX6_foretell_29 : decode cX6_foretell 29 = .ok (.iload_n 2, 1) := by decide +kernel
theorem dX6_foretell_30 : decode cX6_foretell 30 = .ok (.bipush 8, 2) := by decide +kernel
theorem dX6_foretell_32 : decode cX6_foretell 32 = .ok (.irem, 1) := by decide +kernel
theorem dX6_foretell_33 : decode cX6_foretell 33 = .ok (.iload_n 1, 1) := by decide +kernel
theorem dX6_foretell_34 : decode cX6_foretell 34 = .ok (.bipush 8, 2) := by decide +kernel
theorem dX6_foretell_36 : decode cX6_foretell 36 = .ok (.irem, 1) := by decide +kernel
theorem dX6_foretell_37 : decode cX6_foretell 37 = .ok (.if_icmp .lt 58, 3) := by decide +kernel
theorem dX6_foretell_40 : decode cX6_foretell 40 = .ok (.iload_n 2, 1) := by decide +kernel
theorem dX6_foretell_41 : decode cX6_foretell 41 = .ok (.bipush 8, 2) := by decide +kernel
theorem dX6_foretell_43 : decode cX6_foretell 43 = .ok (.idiv, 1) := by decide +kernel
theorem dX6_foretell_44 : decode cX6_foretell 44 = .ok (.iload_n 1, 1) := by decide +kernel
theorem dX6_foretell_45 : decode cX6_foretell 45 = .ok (.bipush 8, 2) := by decide +kernel
theorem dX6_foretell_47 : decode cX6_foretell 47 = .ok (.idiv, 1) := by decide +kernel
theorem dX6_foretell_48 : decode cX6_foretell 48 = .ok (.if_icmp .lt 47, 3) := by decide +kernel
theorem dX6_foretell_51 : decode cX6_foretell 51 = .ok (.aload_n 0, 1) := by decide +kernel
theorem dX6_foretell_52 : decode cX6_foretell 52 = .ok (.iload_n 3, 1) := by decide +kernel
theorem dX6_foretell_53 : decode cX6_foretell 53 = .ok (.aload_n 0, 1) := by decide +kernel
theorem dX6_foretell_54 : decode cX6_foretell 54 = .ok (.getfield 100, 3) := by decide +kernel
theorem dX6_foretell_57 : decode cX6_foretell 57 = .ok (.sipush 999, 3) := by decide +kernel
theorem dX6_foretell_60 : decode cX6_foretell 60 = .ok (.invokevirtual 86, 3) := by decide +kernel
theorem dX6_foretell_63 : decode cX6_foretell 63 = .ok (.ifCond .eq 32, 3) := by decide +kernel
theorem dX6_foretell_66 : decode cX6_foretell 66 = .ok (.aload_n 0, 1) := by decide +kernel
theorem dX6_foretell_67 : decode cX6_foretell 67 = .ok (.iload 4, 2) := by decide +kernel
theorem dX6_foretell_69 : decode cX6_foretell 69 = .ok (.iload_n 3, 1) := by decide +kernel
theorem dX6_foretell_70 : decode cX6_foretell 70 = .ok (.sipush 999, 3) := by decide +kernel
theorem dX6_foretell_73 : decode cX6_foretell 73 = .ok (.invokevirtual 86, 3) := by decide +kernel
theorem dX6_foretell_76 : decode cX6_foretell 76 = .ok (.ifCond .eq 19, 3) := by decide +kernel
theorem dX6_foretell_79 : decode cX6_foretell 79 = .ok (.aload_n 0, 1) := by decide +kernel
theorem dX6_foretell_80 : decode cX6_foretell 80 = .ok (.iload 5, 2) := by decide +kernel
theorem dX6_foretell_82 : decode cX6_foretell 82 = .ok (.iconst 0, 1) := by decide +kernel
theorem dX6_foretell_83 : decode cX6_foretell 83 = .ok (.bipush 9, 2) := by decide +kernel
theorem dX6_foretell_85 : decode cX6_foretell 85 = .ok (.invokevirtual 86, 3) := by decide +kernel
theorem dX6_foretell_88 : decode cX6_foretell 88 = .ok (.ifCond .eq 7, 3) := by decide +kernel
theorem dX6_foretell_91 : decode cX6_foretell 91 = .ok (.iconst 1, 1) := by decide +kernel
theorem dX6_foretell_92 : decode cX6_foretell 92 = .ok (.goto 4, 3) := by decide +kernel
theorem dX6_foretell_95 : decode cX6_foretell 95 = .ok (.iconst 0, 1) := by decide +kernel
theorem dX6_foretell_96 : decode cX6_foretell 96 = .ok (.istore 7, 2) := by decide +kernel
theorem dX6_foretell_98 : decode cX6_foretell 98 = .ok (.aload_n 0, 1) := by decide +kernel
theorem dX6_foretell_99 : decode cX6_foretell 99 = .ok (.iload 6, 2) := by decide +kernel
theorem dX6_foretell_101 : decode cX6_foretell 101 = .ok (.ifCond .ne 7, 3) := by decide +kernel
theorem dX6_foretell_104 : decode cX6_foretell 104 = .ok (.iconst 1, 1) := by decide +kernel
theorem dX6_foretell_105 : decode cX6_foretell 105 = .ok (.goto 13, 3) := by decide +kernel
theorem dX6_foretell_108 : decode cX6_foretell 108 = .ok (.iload 7, 2) := by decide +kernel
theorem dX6_foretell_110 : decode cX6_foretell 110 = .ok (.ifCond .eq 7, 3) := by decide +kernel
theorem dX6_foretell_113 : decode cX6_foretell 113 = .ok (.iconst 0, 1) := by decide +kernel
theorem dX6_foretell_114 : decode cX6_foretell 114 = .ok (.goto 4, 3) := by decide +kernel
theorem dX6_foretell_117 : decode cX6_foretell 117 = .ok (.iconst 2, 1) := by decide +kernel
theorem dX6_foretell_118 : decode cX6_foretell 118 = .ok (.invokevirtual 93, 3) := by decide +kernel
theorem dX6_foretell_121 : decode cX6_foretell 121 = .ok (.ifCond .eq 5, 3) := by decide +kernel
theorem dX6_foretell_124 : decode cX6_foretell 124 = .ok (.iconst (-1), 1) := by decide +kernel
theorem dX6_foretell_125 : decode cX6_foretell 125 = .ok (.ireturn, 1) := by decide +kernel
theorem dX6_foretell_126 : decode cX6_foretell 126 = .ok (.iconst 0, 1) := by decide +kernel
theorem dX6_foretell_127 : decode cX6_foretell 127 = .ok (.istore 8, 2) := by decide +kernel
theorem dX6_foretell_129 : decode cX6_foretell 129 = .ok (.iload 8, 2) := by decide +kernel
theorem dX6_foretell_131 : decode cX6_foretell 131 = .ok (.bipush 48, 2) := by decide +kernel
theorem dX6_foretell_133 : decode cX6_foretell 133 = .ok (.if_icmp .ge 94, 3) := by decide +kernel
theorem dX6_foretell_136 : decode cX6_foretell 136 = .ok (.aload_n 0, 1) := by decide +kernel
theorem dX6_foretell_137 : decode cX6_foretell 137 = .ok (.iload 8, 2) := by decide +kernel
theorem dX6_foretell_139 : decode cX6_foretell 139 = .ok (.bipush 8, 2) := by decide +kernel
theorem dX6_foretell_141 : decode cX6_foretell 141 = .ok (.irem, 1) := by decide +kernel
theorem dX6_foretell_142 : decode cX6_foretell 142 = .ok (.iload_n 1, 1) := by decide +kernel
theorem dX6_foretell_143 : decode cX6_foretell 143 = .ok (.bipush 8, 2) := by decide +kernel
theorem dX6_foretell_145 : decode cX6_foretell 145 = .ok (.irem, 1) := by decide +kernel
theorem dX6_foretell_146 : decode cX6_foretell 146 = .ok (.iload_n 2, 1) := by decide +kernel
theorem dX6_foretell_147 : decode cX6_foretell 147 = .ok (.bipush 8, 2) := by decide +kernel
theorem dX6_foretell_149 : decode cX6_foretell 149 = .ok (.irem, 1) := by decide +kernel
theorem dX6_foretell_150 : decode cX6_foretell 150 = .ok (.invokevirtual 86, 3) := by decide +kernel
theorem dX6_foretell_153 : decode cX6_foretell 153 = .ok (.ifCond .eq 27, 3) := by decide +kernel
theorem dX6_foretell_156 : decode cX6_foretell 156 = .ok (.aload_n 0, 1) := by decide +kernel
theorem dX6_foretell_157 : decode cX6_foretell 157 = .ok (.iload 8, 2) := by decide +kernel
theorem dX6_foretell_159 : decode cX6_foretell 159 = .ok (.bipush 8, 2) := by decide +kernel
theorem dX6_foretell_161 : decode cX6_foretell 161 = .ok (.idiv, 1) := by decide +kernel
theorem dX6_foretell_162 : decode cX6_foretell 162 = .ok (.iload_n 1, 1) := by decide +kernel
theorem dX6_foretell_163 : decode cX6_foretell 163 = .ok (.bipush 8, 2) := by decide +kernel
theorem dX6_foretell_165 : decode cX6_foretell 165 = .ok (.idiv, 1) := by decide +kernel
theorem dX6_foretell_166 : decode cX6_foretell 166 = .ok (.iload_n 2, 1) := by decide +kernel
theorem dX6_foretell_167 : decode cX6_foretell 167 = .ok (.bipush 8, 2) := by decide +kernel
theorem dX6_foretell_169 : decode cX6_foretell 169 = .ok (.idiv, 1) := by decide +kernel
theorem dX6_foretell_170 : decode cX6_foretell 170 = .ok (.invokevirtual 86, 3) := by decide +kernel
theorem dX6_foretell_173 : decode cX6_foretell 173 = .ok (.ifCond .eq 7, 3) := by decide +kernel
theorem dX6_foretell_176 : decode cX6_foretell 176 = .ok (.iconst 1, 1) := by decide +kernel
theorem dX6_foretell_177 : decode cX6_foretell 177 = .ok (.goto 4, 3) := by decide +kernel
theorem dX6_foretell_180 : decode cX6_foretell 180 = .ok (.iconst 0, 1) := by decide +kernel
theorem dX6_foretell_181 : decode cX6_foretell 181 = .ok (.istore 9, 2) := by decide +kernel
theorem dX6_foretell_183 : decode cX6_foretell 183 = .ok (.iload_n 3, 1) := by decide +kernel
theorem dX6_foretell_184 : decode cX6_foretell 184 = .ok (.istore 10, 2) := by decide +kernel
theorem dX6_foretell_186 : decode cX6_foretell 186 = .ok (.iload 10, 2) := by decide +kernel
theorem dX6_foretell_188 : decode cX6_foretell 188 = .ok (.iload 4, 2) := by decide +kernel
theorem dX6_foretell_190 : decode cX6_foretell 190 = .ok (.if_icmp .gt 31, 3) := by decide +kernel
theorem dX6_foretell_193 : decode cX6_foretell 193 = .ok (.iload 9, 2) := by decide +kernel
theorem dX6_foretell_195 : decode cX6_foretell 195 = .ok (.ifCond .eq 26, 3) := by decide +kernel
theorem dX6_foretell_198 : decode cX6_foretell 198 = .ok (.aload_n 0, 1) := by decide +kernel
theorem dX6_foretell_199 : decode cX6_foretell 199 = .ok (.getfield 8, 3) := by decide +kernel
theorem dX6_foretell_202 : decode cX6_foretell 202 = .ok (.sipush 1000, 3) := by decide +kernel
theorem dX6_foretell_205 : decode cX6_foretell 205 = .ok (.iload 8, 2) := by decide +kernel
theorem dX6_foretell_207 : decode cX6_foretell 207 = .ok (.imul, 1) := by decide +kernel
theorem dX6_foretell_208 : decode cX6_foretell 208 = .ok (.iload 10, 2) := by decide +kernel
theorem dX6_foretell_210 : decode cX6_foretell 210 = .ok (.iadd, 1) := by decide +kernel
theorem dX6_foretell_211 : decode cX6_foretell 211 = .ok (.iload 5, 2) := by decide +kernel
theorem dX6_foretell_213 : decode cX6_foretell 213 = .ok (.i2b, 1) := by decide +kernel
theorem dX6_foretell_214 : decode cX6_foretell 214 = .ok (.bastore, 1) := by decide +kernel
theorem dX6_foretell_215 : decode cX6_foretell 215 = .ok (.iinc 10 1, 3) := by decide +kernel
theorem dX6_foretell_218 : decode cX6_foretell 218 = .ok (.goto (-32), 3) := by decide +kernel
theorem dX6_foretell_221 : decode cX6_foretell 221 = .ok (.iinc 8 1, 3) := by decide +kernel
theorem dX6_foretell_224 : decode cX6_foretell 224 = .ok (.goto (-95), 3) := by decide +kernel
theorem dX6_foretell_227 : decode cX6_foretell 227 = .ok (.iload_n 2, 1) := by decide +kernel
theorem dX6_foretell_228 : decode cX6_foretell 228 = .ok (.bipush 8, 2) := by decide +kernel
theorem dX6_foretell_230 : decode cX6_foretell 230 = .ok (.irem, 1) := by decide +kernel
theorem dX6_foretell_231 : decode cX6_foretell 231 = .ok (.iload_n 1, 1) := by decide +kernel
theorem dX6_foretell_232 : decode cX6_foretell 232 = .ok (.bipush 8, 2) := by decide +kernel
theorem dX6_foretell_234 : decode cX6_foretell 234 = .ok (.irem, 1) := by decide +kernel
theorem dX6_foretell_235 : decode cX6_foretell 235 = .ok (.isub, 1) := by decide +kernel
theorem dX6_foretell_236 : decode cX6_foretell 236 = .ok (.iconst 1, 1) := by decide +kernel
theorem dX6_foretell_237 : decode cX6_foretell 237 = .ok (.iadd, 1) := by decide +kernel
theorem dX6_foretell_238 : decode cX6_foretell 238 = .ok (.iload_n 2, 1) := by decide +kernel
theorem dX6_foretell_239 : decode cX6_foretell 239 = .ok (.bipush 8, 2) := by decide +kernel
theorem dX6_foretell_241 : decode cX6_foretell 241 = .ok (.idiv, 1) := by decide +kernel
theorem dX6_foretell_242 : decode cX6_foretell 242 = .ok (.iload_n 1, 1) := by decide +kernel
theorem dX6_foretell_243 : decode cX6_foretell 243 = .ok (.bipush 8, 2) := by decide +kernel
theorem dX6_foretell_245 : decode cX6_foretell 245 = .ok (.idiv, 1) := by decide +kernel
theorem dX6_foretell_246 : decode cX6_foretell 246 = .ok (.isub, 1) := by decide +kernel
theorem dX6_foretell_247 : decode cX6_foretell 247 = .ok (.iconst 1, 1) := by decide +kernel
theorem dX6_foretell_248 : decode cX6_foretell 248 = .ok (.iadd, 1) := by decide +kernel
theorem dX6_foretell_249 : decode cX6_foretell 249 = .ok (.imul, 1) := by decide +kernel
theorem dX6_foretell_250 : decode cX6_foretell 250 = .ok (.ireturn, 1) := by decide +kernel
theorem dX6_call_0 : decode cX6_call 0 = .ok (.aload_n 0, 1) := by decide +kernel
theorem dX6_call_1 : decode cX6_call 1 = .ok (.iload_n 2, 1) := by decide +kernel
theorem dX6_call_2 : decode cX6_call 2 = .ok (.iconst 1, 1) := by decide +kernel
theorem dX6_call_3 : decode cX6_call 3 = .ok (.bipush 50, 2) := by decide +kernel
theorem dX6_call_5 : decode cX6_call 5 = .ok (.invokevirtual 86, 3) := by decide +kernel
theorem dX6_call_8 : decode cX6_call 8 = .ok (.ifCond .eq 24, 3) := by decide +kernel
theorem dX6_call_11 : decode cX6_call 11 = .ok (.aload_n 0, 1) := by decide +kernel
theorem dX6_call_12 : decode cX6_call 12 = .ok (.iload_n 3, 1) := by decide +kernel
theorem dX6_call_13 : decode cX6_call 13 = .ok (.aload_n 0, 1) := by decide +kernel
theorem dX6_call_14 : decode cX6_call 14 = .ok (.getfield 100, 3) := by decide +kernel
theorem dX6_call_17 : decode cX6_call 17 = .ok (.iconst 1, 1) := by decide +kernel
theorem dX6_call_18 : decode cX6_call 18 = .ok (.iadd, 1) := by decide +kernel
theorem dX6_call_19 : decode cX6_call 19 = .ok (.sipush 999, 3) := by decide +kernel
theorem dX6_call_22 : decode cX6_call 22 = .ok (.invokevirtual 86, 3) := by decide +kernel
theorem dX6_call_25 : decode cX6_call 25 = .ok (.ifCond .eq 7, 3) := by decide +kernel
theorem dX6_call_28 : decode cX6_call 28 = .ok (.iconst 1, 1) := by decide +kernel
theorem dX6_call_29 : decode cX6_call 29 = .ok (.goto 4, 3) := by decide +kernel
theorem dX6_call_32 : decode cX6_call 32 = .ok (.iconst 0, 1) := by decide +kernel
theorem dX6_call_33 : decode cX6_call 33 = .ok (.istore 4, 2) := by decide +kernel
theorem dX6_call_35 : decode cX6_call 35 = .ok (.aload_n 0, 1) := by decide +kernel
theorem dX6_call_36 : decode cX6_call 36 = .ok (.aload_n 0, 1) := by decide +kernel
theorem dX6_call_37 : decode cX6_call 37 = .ok (.iload_n 1, 1) := by decide +kernel
theorem dX6_call_38 : decode cX6_call 38 = .ok (.iconst 0, 1) := by decide +kernel
theorem dX6_call_39 : decode cX6_call 39 = .ok (.bipush 47, 2) := by decide +kernel
theorem dX6_call_41 : decode cX6_call 41 = .ok (.invokevirtual 86, 3) := by decide +kernel
theorem dX6_call_44 : decode cX6_call 44 = .ok (.ifCond .ne 7, 3) := by decide +kernel
theorem dX6_call_47 : decode cX6_call 47 = .ok (.iconst 1, 1) := by decide +kernel
theorem dX6_call_48 : decode cX6_call 48 = .ok (.goto 26, 3) := by decide +kernel
theorem dX6_call_51 : decode cX6_call 51 = .ok (.iload 4, 2) := by decide +kernel
theorem dX6_call_53 : decode cX6_call 53 = .ok (.ifCond .ne 7, 3) := by decide +kernel
theorem dX6_call_56 : decode cX6_call 56 = .ok (.iconst 2, 1) := by decide +kernel
theorem dX6_call_57 : decode cX6_call 57 = .ok (.goto 17, 3) := by decide +kernel
theorem dX6_call_60 : decode cX6_call 60 = .ok (.aload_n 0, 1) := by decide +kernel
theorem dX6_call_61 : decode cX6_call 61 = .ok (.getfield 103, 3) := by decide +kernel
theorem dX6_call_64 : decode cX6_call 64 = .ok (.bipush 30, 2) := by decide +kernel
theorem dX6_call_66 : decode cX6_call 66 = .ok (.if_icmp .ne 7, 3) := by decide +kernel
theorem dX6_call_69 : decode cX6_call 69 = .ok (.iconst 3, 1) := by decide +kernel
theorem dX6_call_70 : decode cX6_call 70 = .ok (.goto 4, 3) := by decide +kernel
theorem dX6_call_73 : decode cX6_call 73 = .ok (.iconst 0, 1) := by decide +kernel
theorem dX6_call_74 : decode cX6_call 74 = .ok (.invokevirtual 93, 3) := by decide +kernel
theorem dX6_call_77 : decode cX6_call 77 = .ok (.ifCond .eq 5, 3) := by decide +kernel
theorem dX6_call_80 : decode cX6_call 80 = .ok (.iconst (-1), 1) := by decide +kernel
theorem dX6_call_81 : decode cX6_call 81 = .ok (.ireturn, 1) := by decide +kernel
theorem dX6_call_82 : decode cX6_call 82 = .ok (.aload_n 0, 1) := by decide +kernel
theorem dX6_call_83 : decode cX6_call 83 = .ok (.getfield 51, 3) := by decide +kernel
theorem dX6_call_86 : decode cX6_call 86 = .ok (.aload_n 0, 1) := by decide +kernel
theorem dX6_call_87 : decode cX6_call 87 = .ok (.getfield 103, 3) := by decide +kernel
theorem dX6_call_90 : decode cX6_call 90 = .ok (.iload_n 1, 1) := by decide +kernel
theorem dX6_call_91 : decode cX6_call 91 = .ok (.iastore, 1) := by decide +kernel
theorem dX6_call_92 : decode cX6_call 92 = .ok (.aload_n 0, 1) := by decide +kernel
theorem dX6_call_93 : decode cX6_call 93 = .ok (.getfield 54, 3) := by decide +kernel
theorem dX6_call_96 : decode cX6_call 96 = .ok (.aload_n 0, 1) := by decide +kernel
theorem dX6_call_97 : decode cX6_call 97 = .ok (.getfield 103, 3) := by decide +kernel
theorem dX6_call_100 : decode cX6_call 100 = .ok (.iload_n 2, 1) := by decide +kernel
theorem dX6_call_101 : decode cX6_call 101 = .ok (.iastore, 1) := by decide +kernel
theorem dX6_call_102 : decode cX6_call 102 = .ok (.aload_n 0, 1) := by decide +kernel
theorem dX6_call_103 : decode cX6_call 103 = .ok (.getfield 57, 3) := by decide +kernel
theorem dX6_call_106 : decode cX6_call 106 = .ok (.aload_n 0, 1) := by decide +kernel
theorem dX6_call_107 : decode cX6_call 107 = .ok (.getfield 103, 3) := by decide +kernel
theorem dX6_call_110 : decode cX6_call 110 = .ok (.iload_n 3, 1) := by decide +kernel
theorem dX6_call_111 : decode cX6_call 111 = .ok (.iastore, 1) := by decide +kernel
theorem dX6_call_112 : decode cX6_call 112 = .ok (.aload_n 0, 1) := by decide +kernel
theorem dX6_call_113 : decode cX6_call 113 = .ok (.getfield 63, 3) := by decide +kernel
theorem dX6_call_116 : decode cX6_call 116 = .ok (.aload_n 0, 1) := by decide +kernel
theorem dX6_call_117 : decode cX6_call 117 = .ok (.getfield 103, 3) := by decide +kernel
theorem dX6_call_120 : decode cX6_call 120 = .ok (.iconst (-1), 1) := by decide +kernel
theorem dX6_call_121 : decode cX6_call 121 = .ok (.iastore, 1) := by decide +kernel
theorem dX6_call_122 : decode cX6_call 122 = .ok (.aload_n 0, 1) := by decide +kernel
theorem dX6_call_123 : decode cX6_call 123 = .ok (.dup, 1) := by decide +kernel
theorem dX6_call_124 : decode cX6_call 124 = .ok (.getfield 103, 3) := by decide +kernel
theorem dX6_call_127 : decode cX6_call 127 = .ok (.iconst 1, 1) := by decide +kernel
theorem dX6_call_128 : decode cX6_call 128 = .ok (.iadd, 1) := by decide +kernel
theorem dX6_call_129 : decode cX6_call 129 = .ok (.putfield 103, 3) := by decide +kernel
theorem dX6_call_132 : decode cX6_call 132 = .ok (.aload_n 0, 1) := by decide +kernel
theorem dX6_call_133 : decode cX6_call 133 = .ok (.getfield 103, 3) := by decide +kernel
theorem dX6_call_136 : decode cX6_call 136 = .ok (.iconst 1, 1) := by decide +kernel
theorem dX6_call_137 : decode cX6_call 137 = .ok (.isub, 1) := by decide +kernel
theorem dX6_call_138 : decode cX6_call 138 = .ok (.ireturn, 1) := by decide +kernel
theorem dX6_cap_0 : decode cX6_cap 0 = .ok (.aload_n 0, 1) := by decide +kernel
theorem dX6_cap_1 : decode cX6_cap 1 = .ok (.aload_n 0, 1) := by decide +kernel
theorem dX6_cap_2 : decode cX6_cap 2 = .ok (.iload_n 1, 1) := by decide +kernel
theorem dX6_cap_3 : decode cX6_cap 3 = .ok (.iconst 0, 1) := by decide +kernel
theorem dX6_cap_4 : decode cX6_cap 4 = .ok (.sipush 1000, 3) := by decide +kernel
theorem dX6_cap_7 : decode cX6_cap 7 = .ok (.invokevirtual 86, 3) := by decide +kernel
theorem dX6_cap_10 : decode cX6_cap 10 = .ok (.ifCond .eq 7, 3) := by decide +kernel
theorem dX6_cap_13 : decode cX6_cap 13 = .ok (.iconst 0, 1) := by decide +kernel
theorem dX6_cap_14 : decode cX6_cap 14 = .ok (.goto 4, 3) := by decide +kernel
theorem dX6_cap_17 : decode cX6_cap 17 = .ok (.iconst 1, 1) := by decide +kernel
theorem dX6_cap_18 : decode cX6_cap 18 = .ok (.invokevirtual 93, 3) := by decide +kernel
theorem dX6_cap_21 : decode cX6_cap 21 = .ok (.ifCond .eq 5, 3) := by decide +kernel
theorem dX6_cap_24 : decode cX6_cap 24 = .ok (.iconst (-1), 1) := by decide +kernel
theorem dX6_cap_25 : decode cX6_cap 25 = .ok (.ireturn, 1) := by decide +kernel
theorem dX6_cap_26 : decode cX6_cap 26 = .ok (.aload_n 0, 1) := by decide +kernel
theorem dX6_cap_27 : decode cX6_cap 27 = .ok (.getfield 75, 3) := by decide +kernel
theorem dX6_cap_30 : decode cX6_cap 30 = .ok (.istore_n 2, 1) := by decide +kernel
theorem dX6_cap_31 : decode cX6_cap 31 = .ok (.aload_n 0, 1) := by decide +kernel
theorem dX6_cap_32 : decode cX6_cap 32 = .ok (.iload_n 1, 1) := by decide +kernel
theorem dX6_cap_33 : decode cX6_cap 33 = .ok (.putfield 75, 3) := by decide +kernel
theorem dX6_cap_36 : decode cX6_cap 36 = .ok (.iload_n 2, 1) := by decide +kernel
theorem dX6_cap_37 : decode cX6_cap 37 = .ok (.ireturn, 1) := by decide +kernel
theorem dX6_turnsBack_0 : decode cX6_turnsBack 0 = .ok (.aload_n 0, 1) := by decide +kernel
theorem dX6_turnsBack_1 : decode cX6_turnsBack 1 = .ok (.getfield 39, 3) := by decide +kernel
theorem dX6_turnsBack_4 : decode cX6_turnsBack 4 = .ok (.iload_n 1, 1) := by decide +kernel
theorem dX6_turnsBack_5 : decode cX6_turnsBack 5 = .ok (.iaload, 1) := by decide +kernel
theorem dX6_turnsBack_6 : decode cX6_turnsBack 6 = .ok (.istore_n 2, 1) := by decide +kernel
theorem dX6_turnsBack_7 : decode cX6_turnsBack 7 = .ok (.iload_n 2, 1) := by decide +kernel
theorem dX6_turnsBack_8 : decode cX6_turnsBack 8 = .ok (.ifCond .lt 119, 3) := by decide +kernel
theorem dX6_turnsBack_11 : decode cX6_turnsBack 11 = .ok (.aload_n 0, 1) := by decide +kernel
theorem dX6_turnsBack_12 : decode cX6_turnsBack 12 = .ok (.getfield 8, 3) := by decide +kernel
theorem dX6_turnsBack_15 : decode cX6_turnsBack 15 = .ok (.sipush 1000, 3) := by decide +kernel
theorem dX6_turnsBack_18 : decode cX6_turnsBack 18 = .ok (.aload_n 0, 1) := by decide +kernel
theorem dX6_turnsBack_19 : decode cX6_turnsBack 19 = .ok (.getfield 51, 3) := by decide +kernel
theorem dX6_turnsBack_22 : decode cX6_turnsBack 22 = .ok (.iload_n 2, 1) := by decide +kernel
theorem dX6_turnsBack_23 : decode cX6_turnsBack 23 = .ok (.iaload, 1) := by decide +kernel
theorem dX6_turnsBack_24 : decode cX6_turnsBack 24 = .ok (.imul, 1) := by decide +kernel
theorem dX6_turnsBack_25 : decode cX6_turnsBack 25 = .ok (.aload_n 0, 1) := by decide +kernel
theorem dX6_turnsBack_26 : decode cX6_turnsBack 26 = .ok (.getfield 45, 3) := by decide +kernel
theorem dX6_turnsBack_29 : decode cX6_turnsBack 29 = .ok (.iload_n 1, 1) := by decide +kernel
theorem dX6_turnsBack_30 : decode cX6_turnsBack 30 = .ok (.iaload, 1) := by decide +kernel
theorem dX6_turnsBack_31 : decode cX6_turnsBack 31 = .ok (.iadd, 1) := by decide +kernel
theorem dX6_turnsBack_32 : decode cX6_turnsBack 32 = .ok (.baload, 1) := by decide +kernel
theorem dX6_turnsBack_33 : decode cX6_turnsBack 33 = .ok (.aload_n 0, 1) := by decide +kernel
theorem dX6_turnsBack_34 : decode cX6_turnsBack 34 = .ok (.getfield 33, 3) := by decide +kernel
theorem dX6_turnsBack_37 : decode cX6_turnsBack 37 = .ok (.iload_n 1, 1) := by decide +kernel
theorem dX6_turnsBack_38 : decode cX6_turnsBack 38 = .ok (.iaload, 1) := by decide +kernel
theorem dX6_turnsBack_39 : decode cX6_turnsBack 39 = .ok (.if_icmp .le 88, 3) := by decide +kernel
theorem dX6_turnsBack_42 : decode cX6_turnsBack 42 = .ok (.aload_n 0, 1) := by decide +kernel
theorem dX6_turnsBack_43 : decode cX6_turnsBack 43 = .ok (.getfield 100, 3) := by decide +kernel
theorem dX6_turnsBack_46 : decode cX6_turnsBack 46 = .ok (.aload_n 0, 1) := by decide +kernel
theorem dX6_turnsBack_47 : decode cX6_turnsBack 47 = .ok (.getfield 42, 3) := by decide +kernel
theorem dX6_turnsBack_50 : decode cX6_turnsBack 50 = .ok (.iload_n 1, 1) := by decide +kernel
theorem dX6_turnsBack_51 : decode cX6_turnsBack 51 = .ok (.iaload, 1) := by decide +kernel
theorem dX6_turnsBack_52 : decode cX6_turnsBack 52 = .ok (.isub, 1) := by decide +kernel
theorem dX6_turnsBack_53 : decode cX6_turnsBack 53 = .ok (.istore_n 3, 1) := by decide +kernel
theorem dX6_turnsBack_54 : decode cX6_turnsBack 54 = .ok (.aload_n 0, 1) := by decide +kernel
theorem dX6_turnsBack_55 : decode cX6_turnsBack 55 = .ok (.getfield 60, 3) := by decide +kernel
theorem dX6_turnsBack_58 : decode cX6_turnsBack 58 = .ok (.iload_n 2, 1) := by decide +kernel
theorem dX6_turnsBack_59 : decode cX6_turnsBack 59 = .ok (.iconst 0, 1) := by decide +kernel
theorem dX6_turnsBack_60 : decode cX6_turnsBack 60 = .ok (.iastore, 1) := by decide +kernel
theorem dX6_turnsBack_61 : decode cX6_turnsBack 61 = .ok (.aload_n 0, 1) := by decide +kernel
theorem dX6_turnsBack_62 : decode cX6_turnsBack 62 = .ok (.getfield 39, 3) := by decide +kernel
theorem dX6_turnsBack_65 : decode cX6_turnsBack 65 = .ok (.iload_n 1, 1) := by decide +kernel
theorem dX6_turnsBack_66 : decode cX6_turnsBack 66 = .ok (.iconst (-1), 1) := by decide +kernel
theorem dX6_turnsBack_67 : decode cX6_turnsBack 67 = .ok (.iastore, 1) := by decide +kernel
theorem dX6_turnsBack_68 : decode cX6_turnsBack 68 = .ok (.aload_n 0, 1) := by decide +kernel
theorem dX6_turnsBack_69 : decode cX6_turnsBack 69 = .ok (.getfield 45, 3) := by decide +kernel
theorem dX6_turnsBack_72 : decode cX6_turnsBack 72 = .ok (.iload_n 1, 1) := by decide +kernel
theorem dX6_turnsBack_73 : decode cX6_turnsBack 73 = .ok (.aload_n 0, 1) := by decide +kernel
theorem dX6_turnsBack_74 : decode cX6_turnsBack 74 = .ok (.getfield 100, 3) := by decide +kernel
theorem dX6_turnsBack_77 : decode cX6_turnsBack 77 = .ok (.iload_n 3, 1) := by decide +kernel
theorem dX6_turnsBack_78 : decode cX6_turnsBack 78 = .ok (.iadd, 1) := by decide +kernel
theorem dX6_turnsBack_79 : decode cX6_turnsBack 79 = .ok (.iastore, 1) := by decide +kernel
theorem dX6_turnsBack_80 : decode cX6_turnsBack 80 = .ok (.aload_n 0, 1) := by decide +kernel
theorem dX6_turnsBack_81 : decode cX6_turnsBack 81 = .ok (.getfield 30, 3) := by decide +kernel
theorem dX6_turnsBack_84 : decode cX6_turnsBack 84 = .ok (.iload_n 1, 1) := by decide +kernel
theorem dX6_turnsBack_85 : decode cX6_turnsBack 85 = .ok (.dup2, 1) := by decide +kernel
theorem dX6_turnsBack_86 : decode cX6_turnsBack 86 = .ok (.iaload, 1) := by decide +kernel
