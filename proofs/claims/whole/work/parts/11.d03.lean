theorem dX6_addPier_85 : decode cX6_addPier 85 = .ok (.invokevirtual 93, 3) := by decide +kernel
theorem dX6_addPier_88 : decode cX6_addPier 88 = .ok (.ifCond .ne 5, 3) := by decide +kernel
theorem dX6_addPier_91 : decode cX6_addPier 91 = .ok (.iconst 0, 1) := by decide +kernel
theorem dX6_addPier_92 : decode cX6_addPier 92 = .ok (.ireturn, 1) := by decide +kernel
theorem dX6_addPier_93 : decode cX6_addPier 93 = .ok (.aload_n 0, 1) := by decide +kernel
theorem dX6_addPier_94 : decode cX6_addPier 94 = .ok (.getfield 86, 3) := by decide +kernel
theorem dX6_addPier_97 : decode cX6_addPier 97 = .ok (.bipush 6, 2) := by decide +kernel
theorem dX6_addPier_99 : decode cX6_addPier 99 = .ok (.if_icmp .ne 9, 3) := by decide +kernel
theorem dX6_addPier_102 : decode cX6_addPier 102 = .ok (.aload_n 0, 1) := by decide +kernel
theorem dX6_addPier_103 : decode cX6_addPier 103 = .ok (.iconst 2, 1) := by decide +kernel
theorem dX6_addPier_104 : decode cX6_addPier 104 = .ok (.invokevirtual 98, 3) := by decide +kernel
theorem dX6_addPier_107 : decode cX6_addPier 107 = .ok (.ireturn, 1) := by decide +kernel
theorem dX6_addPier_108 : decode cX6_addPier 108 = .ok (.aload_n 0, 1) := by decide +kernel
theorem dX6_addPier_109 : decode cX6_addPier 109 = .ok (.getfield 7, 3) := by decide +kernel
theorem dX6_addPier_112 : decode cX6_addPier 112 = .ok (.aload_n 0, 1) := by decide +kernel
theorem dX6_addPier_113 : decode cX6_addPier 113 = .ok (.getfield 86, 3) := by decide +kernel
theorem dX6_addPier_116 : decode cX6_addPier 116 = .ok (.iload_n 1, 1) := by decide +kernel
theorem dX6_addPier_117 : decode cX6_addPier 117 = .ok (.iastore, 1) := by decide +kernel
theorem dX6_addPier_118 : decode cX6_addPier 118 = .ok (.aload_n 0, 1) := by decide +kernel
theorem dX6_addPier_119 : decode cX6_addPier 119 = .ok (.getfield 13, 3) := by decide +kernel
theorem dX6_addPier_122 : decode cX6_addPier 122 = .ok (.aload_n 0, 1) := by decide +kernel
theorem dX6_addPier_123 : decode cX6_addPier 123 = .ok (.getfield 86, 3) := by decide +kernel
theorem dX6_addPier_126 : decode cX6_addPier 126 = .ok (.iload_n 2, 1) := by decide +kernel
theorem dX6_addPier_127 : decode cX6_addPier 127 = .ok (.iastore, 1) := by decide +kernel
theorem dX6_addPier_128 : decode cX6_addPier 128 = .ok (.aload_n 0, 1) := by decide +kernel
theorem dX6_addPier_129 : decode cX6_addPier 129 = .ok (.getfield 16, 3) := by decide +kernel
theorem dX6_addPier_132 : decode cX6_addPier 132 = .ok (.aload_n 0, 1) := by decide +kernel
theorem dX6_addPier_133 : decode cX6_addPier 133 = .ok (.getfield 86, 3) := by decide +kernel
theorem dX6_addPier_136 : decode cX6_addPier 136 = .ok (.iload_n 3, 1) := by decide +kernel
theorem dX6_addPier_137 : decode cX6_addPier 137 = .ok (.iastore, 1) := by decide +kernel
theorem dX6_addPier_138 : decode cX6_addPier 138 = .ok (.aload_n 0, 1) := by decide +kernel
theorem dX6_addPier_139 : decode cX6_addPier 139 = .ok (.getfield 19, 3) := by decide +kernel
theorem dX6_addPier_142 : decode cX6_addPier 142 = .ok (.aload_n 0, 1) := by decide +kernel
theorem dX6_addPier_143 : decode cX6_addPier 143 = .ok (.getfield 86, 3) := by decide +kernel
theorem dX6_addPier_146 : decode cX6_addPier 146 = .ok (.iload 4, 2) := by decide +kernel
theorem dX6_addPier_148 : decode cX6_addPier 148 = .ok (.iastore, 1) := by decide +kernel
theorem dX6_addPier_149 : decode cX6_addPier 149 = .ok (.aload_n 0, 1) := by decide +kernel
theorem dX6_addPier_150 : decode cX6_addPier 150 = .ok (.getfield 22, 3) := by decide +kernel
theorem dX6_addPier_153 : decode cX6_addPier 153 = .ok (.aload_n 0, 1) := by decide +kernel
theorem dX6_addPier_154 : decode cX6_addPier 154 = .ok (.getfield 86, 3) := by decide +kernel
theorem dX6_addPier_157 : decode cX6_addPier 157 = .ok (.iload 5, 2) := by decide +kernel
theorem dX6_addPier_159 : decode cX6_addPier 159 = .ok (.iastore, 1) := by decide +kernel
theorem dX6_addPier_160 : decode cX6_addPier 160 = .ok (.aload_n 0, 1) := by decide +kernel
theorem dX6_addPier_161 : decode cX6_addPier 161 = .ok (.dup, 1) := by decide +kernel
theorem dX6_addPier_162 : decode cX6_addPier 162 = .ok (.getfield 86, 3) := by decide +kernel
theorem dX6_addPier_165 : decode cX6_addPier 165 = .ok (.iconst 1, 1) := by decide +kernel
theorem dX6_addPier_166 : decode cX6_addPier 166 = .ok (.iadd, 1) := by decide +kernel
theorem dX6_addPier_167 : decode cX6_addPier 167 = .ok (.putfield 86, 3) := by decide +kernel
theorem dX6_addPier_170 : decode cX6_addPier 170 = .ok (.aload_n 0, 1) := by decide +kernel
theorem dX6_addPier_171 : decode cX6_addPier 171 = .ok (.getfield 86, 3) := by decide +kernel
theorem dX6_addPier_174 : decode cX6_addPier 174 = .ok (.iconst 1, 1) := by decide +kernel
theorem dX6_addPier_175 : decode cX6_addPier 175 = .ok (.isub, 1) := by decide +kernel
theorem dX6_addPier_176 : decode cX6_addPier 176 = .ok (.ireturn, 1) := by decide +kernel
theorem dX6_pierCount_0 : decode cX6_pierCount 0 = .ok (.aload_n 0, 1) := by decide +kernel
theorem dX6_pierCount_1 : decode cX6_pierCount 1 = .ok (.iconst 0, 1) := by decide +kernel
theorem dX6_pierCount_2 : decode cX6_pierCount 2 = .ok (.putfield 83, 3) := by decide +kernel
theorem dX6_pierCount_5 : decode cX6_pierCount 5 = .ok (.aload_n 0, 1) := by decide +kernel
theorem dX6_pierCount_6 : decode cX6_pierCount 6 = .ok (.getfield 86, 3) := by decide +kernel
theorem dX6_pierCount_9 : decode cX6_pierCount 9 = .ok (.ireturn, 1) := by decide +kernel
theorem dX6_today_0 : decode cX6_today 0 = .ok (.aload_n 0, 1) := by decide +kernel
theorem dX6_today_1 : decode cX6_today 1 = .ok (.iconst 0, 1) := by decide +kernel
theorem dX6_today_2 : decode cX6_today 2 = .ok (.putfield 83, 3) := by decide +kernel
theorem dX6_today_5 : decode cX6_today 5 = .ok (.aload_n 0, 1) := by decide +kernel
theorem dX6_today_6 : decode cX6_today 6 = .ok (.getfield 102, 3) := by decide +kernel
theorem dX6_today_9 : decode cX6_today 9 = .ok (.ireturn, 1) := by decide +kernel
theorem dX6_passDay_0 : decode cX6_passDay 0 = .ok (.aload_n 0, 1) := by decide +kernel
theorem dX6_passDay_1 : decode cX6_passDay 1 = .ok (.dup, 1) := by decide +kernel
theorem dX6_passDay_2 : decode cX6_passDay 2 = .ok (.getfield 102, 3) := by decide +kernel
theorem dX6_passDay_5 : decode cX6_passDay 5 = .ok (.iconst 1, 1) := by decide +kernel
theorem dX6_passDay_6 : decode cX6_passDay 6 = .ok (.iadd, 1) := by decide +kernel
theorem dX6_passDay_7 : decode cX6_passDay 7 = .ok (.putfield 102, 3) := by decide +kernel
theorem dX6_passDay_10 : decode cX6_passDay 10 = .ok (.iconst 0, 1) := by decide +kernel
theorem dX6_passDay_11 : decode cX6_passDay 11 = .ok (.istore_n 1, 1) := by decide +kernel
theorem dX6_passDay_12 : decode cX6_passDay 12 = .ok (.iload_n 1, 1) := by decide +kernel
theorem dX6_passDay_13 : decode cX6_passDay 13 = .ok (.aload_n 0, 1) := by decide +kernel
theorem dX6_passDay_14 : decode cX6_passDay 14 = .ok (.getfield 86, 3) := by decide +kernel
theorem dX6_passDay_17 : decode cX6_passDay 17 = .ok (.if_icmp .ge 122, 3) := by decide +kernel
theorem dX6_passDay_20 : decode cX6_passDay 20 = .ok (.aload_n 0, 1) := by decide +kernel
theorem dX6_passDay_21 : decode cX6_passDay 21 = .ok (.getfield 28, 3) := by decide +kernel
theorem dX6_passDay_24 : decode cX6_passDay 24 = .ok (.iload_n 1, 1) := by decide +kernel
theorem dX6_passDay_25 : decode cX6_passDay 25 = .ok (.iaload, 1) := by decide +kernel
theorem dX6_passDay_26 : decode cX6_passDay 26 = .ok (.iconst 1, 1) := by decide +kernel
theorem dX6_passDay_27 : decode cX6_passDay 27 = .ok (.isub, 1) := by decide +kernel
theorem dX6_passDay_28 : decode cX6_passDay 28 = .ok (.istore_n 2, 1) := by decide +kernel
theorem dX6_passDay_29 : decode cX6_passDay 29 = .ok (.iload_n 2, 1) := by decide +kernel
theorem dX6_passDay_30 : decode cX6_passDay 30 = .ok (.ifCond .lt 46, 3) := by decide +kernel
theorem dX6_passDay_33 : decode cX6_passDay 33 = .ok (.aload_n 0, 1) := by decide +kernel
theorem dX6_passDay_34 : decode cX6_passDay 34 = .ok (.getfield 37, 3) := by decide +kernel
theorem dX6_passDay_37 : decode cX6_passDay 37 = .ok (.bipush 6, 2) := by decide +kernel
theorem dX6_passDay_39 : decode cX6_passDay 39 = .ok (.iload_n 1, 1) := by decide +kernel
theorem dX6_passDay_40 : decode cX6_passDay 40 = .ok (.imul, 1) := by decide +kernel
theorem dX6_passDay_41 : decode cX6_passDay 41 = .ok (.iload_n 2, 1) := by decide +kernel
theorem dX6_passDay_42 : decode cX6_passDay 42 = .ok (.iadd, 1) := by decide +kernel
theorem dX6_passDay_43 : decode cX6_passDay 43 = .ok (.dup2, 1) := by decide +kernel
theorem dX6_passDay_44 : decode cX6_passDay 44 = .ok (.iaload, 1) := by decide +kernel
theorem dX6_passDay_45 : decode cX6_passDay 45 = .ok (.iconst 1, 1) := by decide +kernel
theorem dX6_passDay_46 : decode cX6_passDay 46 = .ok (.iadd, 1) := by decide +kernel
theorem dX6_passDay_47 : decode cX6_passDay 47 = .ok (.iastore, 1) := by decide +kernel
theorem dX6_passDay_48 : decode cX6_passDay 48 = .ok (.aload_n 0, 1) := by decide +kernel
theorem dX6_passDay_49 : decode cX6_passDay 49 = .ok (.getfield 37, 3) := by decide +kernel
theorem dX6_passDay_52 : decode cX6_passDay 52 = .ok (.bipush 6, 2) := by decide +kernel
theorem dX6_passDay_54 : decode cX6_passDay 54 = .ok (.iload_n 1, 1) := by decide +kernel
theorem dX6_passDay_55 : decode cX6_passDay 55 = .ok (.imul, 1) := by decide +kernel
theorem dX6_passDay_56 : decode cX6_passDay 56 = .ok (.iload_n 2, 1) := by decide +kernel
theorem dX6_passDay_57 : decode cX6_passDay 57 = .ok (.iadd, 1) := by decide +kernel
theorem dX6_passDay_58 : decode cX6_passDay 58 = .ok (.iaload, 1) := by decide +kernel
theorem dX6_passDay_59 : decode cX6_passDay 59 = .ok (.bipush 10, 2) := by decide +kernel
theorem dX6_passDay_61 : decode cX6_passDay 61 = .ok (.if_icmp .ne 9, 3) := by decide +kernel
theorem dX6_passDay_64 : decode cX6_passDay 64 = .ok (.aload_n 0, 1) := by decide +kernel
theorem dX6_passDay_65 : decode cX6_passDay 65 = .ok (.iload_n 1, 1) := by decide +kernel
theorem dX6_passDay_66 : decode cX6_passDay 66 = .ok (.iload_n 2, 1) := by decide +kernel
theorem dX6_passDay_67 : decode cX6_passDay 67 = .ok (.invokevirtual 105, 3) := by decide +kernel
theorem dX6_passDay_70 : decode cX6_passDay 70 = .ok (.iinc 2 (-1), 3) := by decide +kernel
theorem dX6_passDay_73 : decode cX6_passDay 73 = .ok (.goto (-44), 3) := by decide +kernel
theorem dX6_passDay_76 : decode cX6_passDay 76 = .ok (.iconst 4, 1) := by decide +kernel
theorem dX6_passDay_77 : decode cX6_passDay 77 = .ok (.iload_n 1, 1) := by decide +kernel
theorem dX6_passDay_78 : decode cX6_passDay 78 = .ok (.imul, 1) := by decide +kernel
theorem dX6_passDay_79 : decode cX6_passDay 79 = .ok (.istore_n 2, 1) := by decide +kernel
theorem dX6_passDay_80 : decode cX6_passDay 80 = .ok (.iload_n 2, 1) := by decide +kernel
theorem dX6_passDay_81 : decode cX6_passDay 81 = .ok (.iconst 4, 1) := by decide +kernel
theorem dX6_passDay_82 : decode cX6_passDay 82 = .ok (.iload_n 1, 1) := by decide +kernel
theorem dX6_passDay_83 : decode cX6_passDay 83 = .ok (.imul, 1) := by decide +kernel
theorem dX6_passDay_84 : decode cX6_passDay 84 = .ok (.aload_n 0, 1) := by decide +kernel
theorem dX6_passDay_85 : decode cX6_passDay 85 = .ok (.getfield 56, 3) := by decide +kernel
theorem dX6_passDay_88 : decode cX6_passDay 88 = .ok (.iload_n 1, 1) := by decide +kernel
theorem dX6_passDay_89 : decode cX6_passDay 89 = .ok (.iaload, 1) := by decide +kernel
theorem dX6_passDay_90 : decode cX6_passDay 90 = .ok (.iadd, 1) := by decide +kernel
theorem dX6_passDay_91 : decode cX6_passDay 91 = .ok (.if_icmp .ge 42, 3) := by decide +kernel
theorem dX6_passDay_94 : decode cX6_passDay 94 = .ok (.aload_n 0, 1) := by decide +kernel
theorem dX6_passDay_95 : decode cX6_passDay 95 = .ok (.getfield 71, 3) := by decide +kernel
theorem dX6_passDay_98 : decode cX6_passDay 98 = .ok (.iload_n 2, 1) := by decide +kernel
theorem dX6_passDay_99 : decode cX6_passDay 99 = .ok (.iaload, 1) := by decide +kernel
theorem dX6_passDay_100 : decode cX6_passDay 100 = .ok (.iconst 1, 1) := by decide +kernel
theorem dX6_passDay_101 : decode cX6_passDay 101 = .ok (.if_icmp .ne 26, 3) := by decide +kernel
theorem dX6_passDay_104 : decode cX6_passDay 104 = .ok (.aload_n 0, 1) := by decide +kernel
theorem dX6_passDay_105 : decode cX6_passDay 105 = .ok (.getfield 74, 3) := by decide +kernel
theorem dX6_passDay_108 : decode cX6_passDay 108 = .ok (.iload_n 2, 1) := by decide +kernel
theorem dX6_passDay_109 : decode cX6_passDay 109 = .ok (.iaload, 1) := by decide +kernel
theorem dX6_passDay_110 : decode cX6_passDay 110 = .ok (.bipush 7, 2) := by decide +kernel
theorem dX6_passDay_112 : decode cX6_passDay 112 = .ok (.iadd, 1) := by decide +kernel
theorem dX6_passDay_113 : decode cX6_passDay 113 = .ok (.aload_n 0, 1) := by decide +kernel
theorem dX6_passDay_114 : decode cX6_passDay 114 = .ok (.getfield 102, 3) := by decide +kernel
theorem dX6_passDay_117 : decode cX6_passDay 117 = .ok (.if_icmp .ne 10, 3) := by decide +kernel
theorem dX6_passDay_120 : decode cX6_passDay 120 = .ok (.aload_n 0, 1) := by decide +kernel
theorem dX6_passDay_121 : decode cX6_passDay 121 = .ok (.getfield 71, 3) := by decide +kernel
theorem dX6_passDay_124 : decode cX6_passDay 124 = .ok (.iload_n 2, 1) := by decide +kernel
theorem dX6_passDay_125 : decode cX6_passDay 125 = .ok (.iconst 3, 1) := by decide +kernel
theorem dX6_passDay_126 : decode cX6_passDay 126 = .ok (.iastore, 1) := by decide +kernel
theorem dX6_passDay_127 : decode cX6_passDay 127 = .ok (.iinc 2 1, 3) := by decide +kernel
theorem dX6_passDay_130 : decode cX6_passDay 130 = .ok (.goto (-50), 3) := by decide +kernel
theorem dX6_passDay_133 : decode cX6_passDay 133 = .ok (.iinc 1 1, 3) := by decide +kernel
theorem dX6_passDay_136 : decode cX6_passDay 136 = .ok (.goto (-124), 3) := by decide +kernel
theorem dX6_passDay_139 : decode cX6_passDay 139 = .ok (.return_, 1) := by decide +kernel
theorem dX6_passDays_0 : decode cX6_passDays 0 = .ok (.aload_n 0, 1) := by decide +kernel
theorem dX6_passDays_1 : decode cX6_passDays 1 = .ok (.iload_n 1, 1) := by decide +kernel
theorem dX6_passDays_2 : decode cX6_passDays 2 = .ok (.iconst 1, 1) := by decide +kernel
theorem dX6_passDays_3 : decode cX6_passDays 3 = .ok (.bipush 60, 2) := by decide +kernel
theorem dX6_passDays_5 : decode cX6_passDays 5 = .ok (.invokestatic 89, 3) := by decide +kernel
theorem dX6_passDays_8 : decode cX6_passDays 8 = .ok (.iconst 1, 1) := by decide +kernel
theorem dX6_passDays_9 : decode cX6_passDays 9 = .ok (.invokevirtual 93, 3) := by decide +kernel
theorem dX6_passDays_12 : decode cX6_passDays 12 = .ok (.ifCond .ne 5, 3) := by decide +kernel
theorem dX6_passDays_15 : decode cX6_passDays 15 = .ok (.iconst 0, 1) := by decide +kernel
theorem dX6_passDays_16 : decode cX6_passDays 16 = .ok (.ireturn, 1) := by decide +kernel
theorem dX6_passDays_17 : decode cX6_passDays 17 = .ok (.iconst 0, 1) := by decide +kernel
theorem dX6_passDays_18 : decode cX6_passDays 18 = .ok (.istore_n 2, 1) := by decide +kernel
theorem dX6_passDays_19 : decode cX6_passDays 19 = .ok (.iload_n 2, 1) := by decide +kernel
theorem dX6_passDays_20 : decode cX6_passDays 20 = .ok (.iload_n 1, 1) := by decide +kernel
theorem dX6_passDays_21 : decode cX6_passDays 21 = .ok (.if_icmp .ge 13, 3) := by decide +kernel
theorem dX6_passDays_24 : decode cX6_passDays 24 = .ok (.aload_n 0, 1) := by decide +kernel
theorem dX6_passDays_25 : decode cX6_passDays 25 = .ok (.invokevirtual 109, 3) := by decide +kernel
theorem dX6_passDays_28 : decode cX6_passDays 28 = .ok (.iinc 2 1, 3) := by decide +kernel
theorem dX6_passDays_31 : decode cX6_passDays 31 = .ok (.goto (-12), 3) := by decide +kernel
theorem dX6_passDays_34 : decode cX6_passDays 34 = .ok (.aload_n 0, 1) := by decide +kernel
theorem dX6_passDays_35 : decode cX6_passDays 35 = .ok (.getfield 102, 3) := by decide +kernel
theorem dX6_passDays_38 : decode cX6_passDays 38 = .ok (.ireturn, 1) := by decide +kernel
theorem dX6_moon_0 : decode cX6_moon 0 = .ok (.iconst 4, 1) := by decide +kernel
theorem dX6_moon_1 : decode cX6_moon 1 = .ok (.iload_n 0, 1) := by decide +kernel
theorem dX6_moon_2 : decode cX6_moon 2 = .ok (.imul, 1) := by decide +kernel
theorem dX6_moon_3 : decode cX6_moon 3 = .ok (.bipush 118, 2) := by decide +kernel
theorem dX6_moon_5 : decode cX6_moon 5 = .ok (.irem, 1) := by decide +kernel
theorem dX6_moon_6 : decode cX6_moon 6 = .ok (.ireturn, 1) := by decide +kernel
theorem dX6_range_0 : decode cX6_range 0 = .ok (.iload_n 2, 1) := by decide +kernel
theorem dX6_range_1 : decode cX6_range 1 = .ok (.invokestatic 112, 3) := by decide +kernel
theorem dX6_range_4 : decode cX6_range 4 = .ok (.bipush 59, 2) := by decide +kernel
theorem dX6_range_6 : decode cX6_range 6 = .ok (.irem, 1) := by decide +kernel
theorem dX6_range_7 : decode cX6_range 7 = .ok (.istore_n 3, 1) := by decide +kernel
theorem dX6_range_8 : decode cX6_range 8 = .ok (.iload_n 3, 1) := by decide +kernel
theorem dX6_range_9 : decode cX6_range 9 = .ok (.ifCond .ne 7, 3) := by decide +kernel
theorem dX6_range_12 : decode cX6_range 12 = .ok (.iconst 0, 1) := by decide +kernel
theorem dX6_range_13 : decode cX6_range 13 = .ok (.goto 11, 3) := by decide +kernel
theorem dX6_range_16 : decode cX6_range 16 = .ok (.iload_n 3, 1) := by decide +kernel
theorem dX6_range_17 : decode cX6_range 17 = .ok (.bipush 59, 2) := by decide +kernel
theorem dX6_range_19 : decode cX6_range 19 = .ok (.iload_n 3, 1) := by decide +kernel
theorem dX6_range_20 : decode cX6_range 20 = .ok (.isub, 1) := by decide +kernel
theorem dX6_range_21 : decode cX6_range 21 = .ok (.invokestatic 115, 3) := by decide +kernel
theorem dX6_range_24 : decode cX6_range 24 = .ok (.istore 4, 2) := by decide +kernel
theorem dX6_range_26 : decode cX6_range 26 = .ok (.aload_n 0, 1) := by decide +kernel
theorem dX6_range_27 : decode cX6_range 27 = .ok (.getfield 16, 3) := by decide +kernel
theorem dX6_range_30 : decode cX6_range 30 = .ok (.iload_n 1, 1) := by decide +kernel
theorem dX6_range_31 : decode cX6_range 31 = .ok (.iaload, 1) := by decide +kernel
theorem dX6_range_32 : decode cX6_range 32 = .ok (.aload_n 0, 1) := by decide +kernel
theorem dX6_range_33 : decode cX6_range 33 = .ok (.getfield 16, 3) := by decide +kernel
theorem dX6_range_36 : decode cX6_range 36 = .ok (.iload_n 1, 1) := by decide +kernel
theorem dX6_range_37 : decode cX6_range 37 = .ok (.iaload, 1) := by decide +kernel
theorem dX6_range_38 : decode cX6_range 38 = .ok (.aload_n 0, 1) := by decide +kernel
theorem dX6_range_39 : decode cX6_range 39 = .ok (.getfield 19, 3) := by decide +kernel
theorem dX6_range_42 : decode cX6_range 42 = .ok (.iload_n 1, 1) := by decide +kernel
theorem dX6_range_43 : decode cX6_range 43 = .ok (.iaload, 1) := by decide +kernel
theorem dX6_range_44 : decode cX6_range 44 = .ok (.isub, 1) := by decide +kernel
theorem dX6_range_45 : decode cX6_range 45 = .ok (.iload 4, 2) := by decide +kernel
theorem dX6_range_47 : decode cX6_range 47 = .ok (.imul, 1) := by decide +kernel
theorem dX6_range_48 : decode cX6_range 48 = .ok (.bipush 29, 2) := by decide +kernel
theorem dX6_range_50 : decode cX6_range 50 = .ok (.idiv, 1) := by decide +kernel
theorem dX6_range_51 : decode cX6_range 51 = .ok (.isub, 1) := by decide +kernel
theorem dX6_range_52 : decode cX6_range 52 = .ok (.ireturn, 1) := by decide +kernel
theorem dX6_moonAge_0 : decode cX6_moonAge 0 = .ok (.aload_n 0, 1) := by decide +kernel
theorem dX6_moonAge_1 : decode cX6_moonAge 1 = .ok (.iload_n 1, 1) := by decide +kernel
theorem dX6_moonAge_2 : decode cX6_moonAge 2 = .ok (.invokestatic 121, 3) := by decide +kernel
theorem dX6_moonAge_5 : decode cX6_moonAge 5 = .ok (.iconst 1, 1) := by decide +kernel
theorem dX6_moonAge_6 : decode cX6_moonAge 6 = .ok (.invokevirtual 93, 3) := by decide +kernel
theorem dX6_moonAge_9 : decode cX6_moonAge 9 = .ok (.ifCond .eq 10, 3) := by decide +kernel
theorem dX6_moonAge_12 : decode cX6_moonAge 12 = .ok (.iload_n 1, 1) := by decide +kernel
theorem dX6_moonAge_13 : decode cX6_moonAge 13 = .ok (.invokestatic 112, 3) := by decide +kernel
theorem dX6_moonAge_16 : decode cX6_moonAge 16 = .ok (.goto 4, 3) := by decide +kernel
theorem dX6_moonAge_19 : decode cX6_moonAge 19 = .ok (.iconst 0, 1) := by decide +kernel
theorem dX6_moonAge_20 : decode cX6_moonAge 20 = .ok (.ireturn, 1) := by decide +kernel
theorem dX6_rangeOf_0 : decode cX6_rangeOf 0 = .ok (.aload_n 0, 1) := by decide +kernel
theorem dX6_rangeOf_1 : decode cX6_rangeOf 1 = .ok (.iload_n 1, 1) := by decide +kernel
theorem dX6_rangeOf_2 : decode cX6_rangeOf 2 = .ok (.invokevirtual 125, 3) := by decide +kernel
theorem dX6_rangeOf_5 : decode cX6_rangeOf 5 = .ok (.ifCond .ne 5, 3) := by decide +kernel
theorem dX6_rangeOf_8 : decode cX6_rangeOf 8 = .ok (.iconst 0, 1) := by decide +kernel
theorem dX6_rangeOf_9 : decode cX6_rangeOf 9 = .ok (.ireturn, 1) := by decide +kernel
theorem dX6_rangeOf_10 : decode cX6_rangeOf 10 = .ok (.iload_n 2, 1) := by decide +kernel
theorem dX6_rangeOf_11 : decode cX6_rangeOf 11 = .ok (.invokestatic 121, 3) := by decide +kernel
theorem dX6_rangeOf_14 : decode cX6_rangeOf 14 = .ok (.ifCond .eq 12, 3) := by decide +kernel
theorem dX6_rangeOf_17 : decode cX6_rangeOf 17 = .ok (.aload_n 0, 1) := by decide +kernel
theorem dX6_rangeOf_18 : decode cX6_rangeOf 18 = .ok (.iload_n 1, 1) := by decide +kernel
theorem dX6_rangeOf_19 : decode cX6_rangeOf 19 = .ok (.iload_n 2, 1) := by decide +kernel
theorem dX6_rangeOf_20 : decode cX6_rangeOf 20 = .ok (.invokevirtual 128, 3) := by decide +kernel
theorem dX6_rangeOf_23 : decode cX6_rangeOf 23 = .ok (.goto 8, 3) := by decide +kernel
theorem dX6_rangeOf_26 : decode cX6_rangeOf 26 = .ok (.aload_n 0, 1) := by decide +kernel
theorem dX6_rangeOf_27 : decode cX6_rangeOf 27 = .ok (.iconst 2, 1) := by decide +kernel
theorem dX6_rangeOf_28 : decode cX6_rangeOf 28 = .ok (.invokevirtual 98, 3) := by decide +kernel
theorem dX6_rangeOf_31 : decode cX6_rangeOf 31 = .ok (.ireturn, 1) := by decide +kernel
theorem dX6_behind_0 : decode cX6_behind 0 = .ok (.iload_n 2, 1) := by decide +kernel
theorem dX6_behind_1 : decode cX6_behind 1 = .ok (.aload_n 0, 1) := by decide +kernel
theorem dX6_behind_2 : decode cX6_behind 2 = .ok (.getfield 7, 3) := by decide +kernel
theorem dX6_behind_5 : decode cX6_behind 5 = .ok (.iload_n 1, 1) := by decide +kernel
theorem dX6_behind_6 : decode cX6_behind 6 = .ok (.iaload, 1) := by decide +kernel
theorem dX6_behind_7 : decode cX6_behind 7 = .ok (.isub, 1) := by decide +kernel
theorem dX6_behind_8 : decode cX6_behind 8 = .ok (.aload_n 0, 1) := by decide +kernel
theorem dX6_behind_9 : decode cX6_behind 9 = .ok (.iload_n 1, 1) := by decide +kernel
theorem dX6_behind_10 : decode cX6_behind 10 = .ok (.invokevirtual 131, 3) := by decide +kernel
theorem dX6_behind_13 : decode cX6_behind 13 = .ok (.isub, 1) := by decide +kernel
theorem dX6_behind_14 : decode cX6_behind 14 = .ok (.sipush 745, 3) := by decide +kernel
theorem dX6_behind_17 : decode cX6_behind 17 = .ok (.irem, 1) := by decide +kernel
theorem dX6_behind_18 : decode cX6_behind 18 = .ok (.istore_n 3, 1) := by decide +kernel
theorem dX6_behind_19 : decode cX6_behind 19 = .ok (.iload_n 3, 1) := by decide +kernel
theorem dX6_behind_20 : decode cX6_behind 20 = .ok (.ifCond .ge 11, 3) := by decide +kernel
theorem dX6_behind_23 : decode cX6_behind 23 = .ok (.iload_n 3, 1) := by decide +kernel
theorem dX6_behind_24 : decode cX6_behind 24 = .ok (.sipush 745, 3) := by decide +kernel
theorem dX6_behind_27 : decode cX6_behind 27 = .ok (.iadd, 1) := by decide +kernel
theorem dX6_behind_28 : decode cX6_behind 28 = .ok (.goto 4, 3) := by decide +kernel
theorem dX6_behind_31 : decode cX6_behind 31 = .ok (.iload_n 3, 1) := by decide +kernel
theorem dX6_behind_32 : decode cX6_behind 32 = .ok (.ireturn, 1) := by decide +kernel
theorem dX6_findTable_0 : decode cX6_findTable 0 = .ok (.aload_n 0, 1) := by decide +kernel
theorem dX6_findTable_1 : decode cX6_findTable 1 = .ok (.iconst 0, 1) := by decide +kernel
theorem dX6_findTable_2 : decode cX6_findTable 2 = .ok (.putfield 134, 3) := by decide +kernel
theorem dX6_findTable_5 : decode cX6_findTable 5 = .ok (.aload_n 0, 1) := by decide +kernel
theorem dX6_findTable_6 : decode cX6_findTable 6 = .ok (.iload_n 1, 1) := by decide +kernel
theorem dX6_findTable_7 : decode cX6_findTable 7 = .ok (.sipush 1440, 3) := by decide +kernel
theorem dX6_findTable_10 : decode cX6_findTable 10 = .ok (.iload_n 2, 1) := by decide +kernel
theorem dX6_findTable_11 : decode cX6_findTable 11 = .ok (.imul, 1) := by decide +kernel
theorem dX6_findTable_12 : decode cX6_findTable 12 = .ok (.invokevirtual 137, 3) := by decide +kernel
theorem dX6_findTable_15 : decode cX6_findTable 15 = .ok (.istore_n 3, 1) := by decide +kernel
theorem dX6_findTable_16 : decode cX6_findTable 16 = .ok (.iconst 0, 1) := by decide +kernel
theorem dX6_findTable_17 : decode cX6_findTable 17 = .ok (.istore 4, 2) := by decide +kernel
theorem dX6_findTable_19 : decode cX6_findTable 19 = .ok (.iload 4, 2) := by decide +kernel
theorem dX6_findTable_21 : decode cX6_findTable 21 = .ok (.sipush 1440, 3) := by decide +kernel
theorem dX6_findTable_24 : decode cX6_findTable 24 = .ok (.if_icmp .ge 74, 3) := by decide +kernel
theorem dX6_findTable_27 : decode cX6_findTable 27 = .ok (.iload_n 3, 1) := by decide +kernel
theorem dX6_findTable_28 : decode cX6_findTable 28 = .ok (.ifCond .eq 10, 3) := by decide +kernel
theorem dX6_findTable_31 : decode cX6_findTable 31 = .ok (.iload_n 3, 1) := by decide +kernel
theorem dX6_findTable_32 : decode cX6_findTable 32 = .ok (.sipush 372, 3) := by decide +kernel
theorem dX6_findTable_35 : decode cX6_findTable 35 = .ok (.if_icmp .ne 42, 3) := by decide +kernel
theorem dX6_findTable_38 : decode cX6_findTable 38 = .ok (.aload_n 0, 1) := by decide +kernel
theorem dX6_findTable_39 : decode cX6_findTable 39 = .ok (.getfield 77, 3) := by decide +kernel
theorem dX6_findTable_42 : decode cX6_findTable 42 = .ok (.aload_n 0, 1) := by decide +kernel
theorem dX6_findTable_43 : decode cX6_findTable 43 = .ok (.getfield 134, 3) := by decide +kernel
theorem dX6_findTable_46 : decode cX6_findTable 46 = .ok (.iload 4, 2) := by decide +kernel
theorem dX6_findTable_48 : decode cX6_findTable 48 = .ok (.iastore, 1) := by decide +kernel
theorem dX6_findTable_49 : decode cX6_findTable 49 = .ok (.aload_n 0, 1) := by decide +kernel
theorem dX6_findTable_50 : decode cX6_findTable 50 = .ok (.getfield 80, 3) := by decide +kernel
theorem dX6_findTable_53 : decode cX6_findTable 53 = .ok (.aload_n 0, 1) := by decide +kernel
theorem dX6_findTable_54 : decode cX6_findTable 54 = .ok (.getfield 134, 3) := by decide +kernel
theorem dX6_findTable_57 : decode cX6_findTable 57 = .ok (.iload_n 3, 1) := by decide +kernel
theorem dX6_findTable_58 : decode cX6_findTable 58 = .ok (.ifCond .ne 7, 3) := by decide +kernel
theorem dX6_findTable_61 : decode cX6_findTable 61 = .ok (.iconst 0, 1) := by decide +kernel
theorem dX6_findTable_62 : decode cX6_findTable 62 = .ok (.goto 4, 3) := by decide +kernel
theorem dX6_findTable_65 : decode cX6_findTable 65 = .ok (.iconst 1, 1) := by decide +kernel
theorem dX6_findTable_66 : decode cX6_findTable 66 = .ok (.iastore, 1) := by decide +kernel
theorem dX6_findTable_67 : decode cX6_findTable 67 = .ok (.aload_n 0, 1) := by decide +kernel
theorem dX6_findTable_68 : decode cX6_findTable 68 = .ok (.dup, 1) := by decide +kernel
theorem dX6_findTable_69 : decode cX6_findTable 69 = .ok (.getfield 134, 3) := by decide +kernel
theorem dX6_findTable_72 : decode cX6_findTable 72 = .ok (.iconst 1, 1) := by decide +kernel
theorem dX6_findTable_73 : decode cX6_findTable 73 = .ok (.iadd, 1) := by decide +kernel
theorem dX6_findTable_74 : decode cX6_findTable 74 = .ok (.putfield 134, 3) := by decide +kernel
theorem dX6_findTable_77 : decode cX6_findTable 77 = .ok (.iload_n 3, 1) := by decide +kernel
theorem dX6_findTable_78 : decode cX6_findTable 78 = .ok (.sipush 744, 3) := by decide +kernel
theorem dX6_findTable_81 : decode cX6_findTable 81 = .ok (.if_icmp .ne 7, 3) := by decide +kernel
theorem dX6_findTable_84 : decode cX6_findTable 84 = .ok (.iconst 0, 1) := by decide +kernel
theorem dX6_findTable_85 : decode cX6_findTable 85 = .ok (.goto 6, 3) := by decide +kernel
theorem dX6_findTable_88 : decode cX6_findTable 88 = .ok (.iload_n 3, 1) := by decide +kernel
theorem dX6_findTable_89 : decode cX6_findTable 89 = .ok (.iconst 1, 1) := by decide +kernel
theorem dX6_findTable_90 : decode cX6_findTable 90 = .ok (.iadd, 1) := by decide +kernel
theorem dX6_findTable_91 : decode cX6_findTable 91 = .ok (.istore_n 3, 1) := by decide +kernel
theorem dX6_findTable_92 : decode cX6_findTable 92 = .ok (.iinc 4 1, 3) := by decide +kernel
theorem dX6_findTable_95 : decode cX6_findTable 95 = .ok (.goto (-76), 3) := by decide +kernel
theorem dX6_findTable_98 : decode cX6_findTable 98 = .ok (.return_, 1) := by decide +kernel
theorem dX6_level_0 : decode cX6_level 0 = .ok (.aload_n 0, 1) := by decide +kernel
theorem dX6_level_1 : decode cX6_level 1 = .ok (.iload_n 1, 1) := by decide +kernel
theorem dX6_level_2 : decode cX6_level 2 = .ok (.iload_n 2, 1) := by decide +kernel
theorem dX6_level_3 : decode cX6_level 3 = .ok (.invokevirtual 128, 3) := by decide +kernel
theorem dX6_level_6 : decode cX6_level 6 = .ok (.iconst 2, 1) := by decide +kernel
theorem dX6_level_7 : decode cX6_level 7 = .ok (.idiv, 1) := by decide +kernel
theorem dX6_level_8 : decode cX6_level 8 = .ok (.istore 4, 2) := by decide +kernel
theorem dX6_level_10 : decode cX6_level 10 = .ok (.iload_n 3, 1) := by decide +kernel
theorem dX6_level_11 : decode cX6_level 11 = .ok (.ifCond .ne 15, 3) := by decide +kernel
theorem dX6_level_14 : decode cX6_level 14 = .ok (.aload_n 0, 1) := by decide +kernel
theorem dX6_level_15 : decode cX6_level 15 = .ok (.getfield 13, 3) := by decide +kernel
theorem dX6_level_18 : decode cX6_level 18 = .ok (.iload_n 1, 1) := by decide +kernel
theorem dX6_level_19 : decode cX6_level 19 = .ok (.iaload, 1) := by decide +kernel
theorem dX6_level_20 : decode cX6_level 20 = .ok (.iload 4, 2) := by decide +kernel
theorem dX6_level_22 : decode cX6_level 22 = .ok (.iadd, 1) := by decide +kernel
theorem dX6_level_23 : decode cX6_level 23 = .ok (.goto 12, 3) := by decide +kernel
theorem dX6_level_26 : decode cX6_level 26 = .ok (.aload_n 0, 1) := by decide +kernel
theorem dX6_level_27 : decode cX6_level 27 = .ok (.getfield 13, 3) := by decide +kernel
theorem dX6_level_30 : decode cX6_level 30 = .ok (.iload_n 1, 1) := by decide +kernel
theorem dX6_level_31 : decode cX6_level 31 = .ok (.iaload, 1) := by decide +kernel
theorem dX6_level_32 : decode cX6_level 32 = .ok (.iload 4, 2) := by decide +kernel
theorem dX6_level_34 : decode cX6_level 34 = .ok (.isub, 1) := by decide +kernel
theorem dX6_level_35 : decode cX6_level 35 = .ok (.ireturn, 1) := by decide +kernel
theorem dX6_waterCount_0 : decode cX6_waterCount 0 = .ok (.aload_n 0, 1) := by decide +kernel
theorem dX6_waterCount_1 : decode cX6_waterCount 1 = .ok (.iload_n 1, 1) := by decide +kernel
theorem dX6_waterCount_2 : decode cX6_waterCount 2 = .ok (.invokevirtual 125, 3) := by decide +kernel
theorem dX6_waterCount_5 : decode cX6_waterCount 5 = .ok (.ifCond .ne 5, 3) := by decide +kernel
theorem dX6_waterCount_8 : decode cX6_waterCount 8 = .ok (.iconst 0, 1) := by decide +kernel
theorem dX6_waterCount_9 : decode cX6_waterCount 9 = .ok (.ireturn, 1) := by decide +kernel
theorem dX6_waterCount_10 : decode cX6_waterCount 10 = .ok (.iload_n 2, 1) := by decide +kernel
theorem dX6_waterCount_11 : decode cX6_waterCount 11 = .ok (.invokestatic 121, 3) := by decide +kernel
theorem dX6_waterCount_14 : decode cX6_waterCount 14 = .ok (.ifCond .ne 9, 3) := by decide +kernel
theorem dX6_waterCount_17 : decode cX6_waterCount 17 = .ok (.aload_n 0, 1) := by decide +kernel
theorem dX6_waterCount_18 : decode cX6_waterCount 18 = .ok (.iconst 2, 1) := by decide +kernel
theorem dX6_waterCount_19 : decode cX6_waterCount 19 = .ok (.invokevirtual 98, 3) := by decide +kernel
theorem dX6_waterCount_22 : decode cX6_waterCount 22 = .ok (.ireturn, 1) := by decide +kernel
theorem dX6_waterCount_23 : decode cX6_waterCount 23 = .ok (.aload_n 0, 1) := by decide +kernel
theorem dX6_waterCount_24 : decode cX6_waterCount 24 = .ok (.iload_n 1, 1) := by decide +kernel
theorem dX6_waterCount_25 : decode cX6_waterCount 25 = .ok (.iload_n 2, 1) := by decide +kernel
theorem dX6_waterCount_26 : decode cX6_waterCount 26 = .ok (.invokevirtual 140, 3) := by decide +kernel
theorem dX6_waterCount_29 : decode cX6_waterCount 29 = .ok (.aload_n 0, 1) := by decide +kernel
theorem dX6_waterCount_30 : decode cX6_waterCount 30 = .ok (.getfield 134, 3) := by decide +kernel
theorem dX6_waterCount_33 : decode cX6_waterCount 33 = .ok (.ireturn, 1) := by decide +kernel
theorem dX6_isWater_0 : decode cX6_isWater 0 = .ok (.aload_n 0, 1) := by decide +kernel
theorem dX6_isWater_1 : decode cX6_isWater 1 = .ok (.iload_n 2, 1) := by decide +kernel
theorem dX6_isWater_2 : decode cX6_isWater 2 = .ok (.invokestatic 121, 3) := by decide +kernel
theorem dX6_isWater_5 : decode cX6_isWater 5 = .ok (.iconst 1, 1) := by decide +kernel
theorem dX6_isWater_6 : decode cX6_isWater 6 = .ok (.invokevirtual 93, 3) := by decide +kernel
theorem dX6_isWater_9 : decode cX6_isWater 9 = .ok (.ifCond .eq 22, 3) := by decide +kernel
theorem dX6_isWater_12 : decode cX6_isWater 12 = .ok (.aload_n 0, 1) := by decide +kernel
theorem dX6_isWater_13 : decode cX6_isWater 13 = .ok (.iload_n 1, 1) := by decide +kernel
theorem dX6_isWater_14 : decode cX6_isWater 14 = .ok (.iconst 0, 1) := by decide +kernel
theorem dX6_isWater_15 : decode cX6_isWater 15 = .ok (.aload_n 0, 1) := by decide +kernel
theorem dX6_isWater_16 : decode cX6_isWater 16 = .ok (.getfield 86, 3) := by decide +kernel
theorem dX6_isWater_19 : decode cX6_isWater 19 = .ok (.iconst 1, 1) := by decide +kernel
theorem dX6_isWater_20 : decode cX6_isWater 20 = .ok (.isub, 1) := by decide +kernel
theorem dX6_isWater_21 : decode cX6_isWater 21 = .ok (.invokestatic 89, 3) := by decide +kernel
theorem dX6_isWater_24 : decode cX6_isWater 24 = .ok (.iconst 2, 1) := by decide +kernel
theorem dX6_isWater_25 : decode cX6_isWater 25 = .ok (.invokevirtual 93, 3) := by decide +kernel
theorem dX6_isWater_28 : decode cX6_isWater 28 = .ok (.ifCond .ne 5, 3) := by decide +kernel
theorem dX6_isWater_31 : decode cX6_isWater 31 = .ok (.iconst 0, 1) := by decide +kernel
theorem dX6_isWater_32 : decode cX6_isWater 32 = .ok (.ireturn, 1) := by decide +kernel
theorem dX6_isWater_33 : decode cX6_isWater 33 = .ok (.aload_n 0, 1) := by decide +kernel
theorem dX6_isWater_34 : decode cX6_isWater 34 = .ok (.iload_n 1, 1) := by decide +kernel
theorem dX6_isWater_35 : decode cX6_isWater 35 = .ok (.iload_n 2, 1) := by decide +kernel
theorem dX6_isWater_36 : decode cX6_isWater 36 = .ok (.invokevirtual 140, 3) := by decide +kernel
theorem dX6_isWater_39 : decode cX6_isWater 39 = .ok (.aload_n 0, 1) := by decide +kernel
theorem dX6_isWater_40 : decode cX6_isWater 40 = .ok (.iload_n 3, 1) := by decide +kernel
theorem dX6_isWater_41 : decode cX6_isWater 41 = .ok (.iconst 0, 1) := by decide +kernel
theorem dX6_isWater_42 : decode cX6_isWater 42 = .ok (.aload_n 0, 1) := by decide +kernel
theorem dX6_isWater_43 : decode cX6_isWater 43 = .ok (.getfield 134, 3) := by decide +kernel
theorem dX6_isWater_46 : decode cX6_isWater 46 = .ok (.iconst 1, 1) := by decide +kernel
theorem dX6_isWater_47 : decode cX6_isWater 47 = .ok (.isub, 1) := by decide +kernel
theorem dX6_isWater_48 : decode cX6_isWater 48 = .ok (.invokestatic 89, 3) := by decide +kernel
theorem dX6_isWater_51 : decode cX6_isWater 51 = .ok (.iconst 2, 1) := by decide +kernel
theorem dX6_isWater_52 : decode cX6_isWater 52 = .ok (.invokevirtual 93, 3) := by decide +kernel
theorem dX6_isWater_55 : decode cX6_isWater 55 = .ok (.ireturn, 1) := by decide +kernel
theorem dX6_waterMinute_0 : decode cX6_waterMinute 0 = .ok (.aload_n 0, 1) := by decide +kernel
theorem dX6_waterMinute_1 : decode cX6_waterMinute 1 = .ok (.iload_n 1, 1) := by decide +kernel
theorem dX6_waterMinute_2 : decode cX6_waterMinute 2 = .ok (.iload_n 2, 1) := by decide +kernel
theorem dX6_waterMinute_3 : decode cX6_waterMinute 3 = .ok (.iload_n 3, 1) := by decide +kernel
theorem dX6_waterMinute_4 : decode cX6_waterMinute 4 = .ok (.invokevirtual 143, 3) := by decide +kernel
theorem dX6_waterMinute_7 : decode cX6_waterMinute 7 = .ok (.ifCond .eq 12, 3) := by decide +kernel
theorem dX6_waterMinute_10 : decode cX6_waterMinute 10 = .ok (.aload_n 0, 1) := by decide +kernel
theorem dX6_waterMinute_11 : decode cX6_waterMinute 11 = .ok (.getfield 77, 3) := by decide +kernel
theorem dX6_waterMinute_14 : decode cX6_waterMinute 14 = .ok (.iload_n 3, 1) := by decide +kernel
theorem dX6_waterMinute_15 : decode cX6_waterMinute 15 = .ok (.iaload, 1) := by decide +kernel
theorem dX6_waterMinute_16 : decode cX6_waterMinute 16 = .ok (.goto 4, 3) := by decide +kernel
theorem dX6_waterMinute_19 : decode cX6_waterMinute 19 = .ok (.iconst 0, 1) := by decide +kernel
theorem dX6_waterMinute_20 : decode cX6_waterMinute 20 = .ok (.ireturn, 1) := by decide +kernel
theorem dX6_waterHeight_0 : decode cX6_waterHeight 0 = .ok (.aload_n 0, 1) := by decide +kernel
theorem dX6_waterHeight_1 : decode cX6_waterHeight 1 = .ok (.iload_n 1, 1) := by decide +kernel
theorem dX6_waterHeight_2 : decode cX6_waterHeight 2 = .ok (.iload_n 2, 1) := by decide +kernel
theorem dX6_waterHeight_3 : decode cX6_waterHeight 3 = .ok (.iload_n 3, 1) := by decide +kernel
theorem dX6_waterHeight_4 : decode cX6_waterHeight 4 = .ok (.invokevirtual 143, 3) := by decide +kernel
theorem dX6_waterHeight_7 : decode cX6_waterHeight 7 = .ok (.ifCond .eq 18, 3) := by decide +kernel
theorem dX6_waterHeight_10 : decode cX6_waterHeight 10 = .ok (.aload_n 0, 1) := by decide +kernel
theorem dX6_waterHeight_11 : decode cX6_waterHeight 11 = .ok (.iload_n 1, 1) := by decide +kernel
theorem dX6_waterHeight_12 : decode cX6_waterHeight 12 = .ok (.iload_n 2, 1) := by decide +kernel
theorem dX6_waterHeight_13 : decode cX6_waterHeight 13 = .ok (.aload_n 0, 1) := by decide +kernel
theorem dX6_waterHeight_14 : decode cX6_waterHeight 14 = .ok (.getfield 80, 3) := by decide +kernel
theorem dX6_waterHeight_17 : decode cX6_waterHeight 17 = .ok (.iload_n 3, 1) := by decide +kernel
theorem dX6_waterHeight_18 : decode cX6_waterHeight 18 = .ok (.iaload, 1) := by decide +kernel
theorem dX6_waterHeight_19 : decode cX6_waterHeight 19 = .ok (.invokevirtual 146, 3) := by decide +kernel
theorem dX6_waterHeight_22 : decode cX6_waterHeight 22 = .ok (.goto 4, 3) := by decide +kernel
theorem dX6_waterHeight_25 : decode cX6_waterHeight 25 = .ok (.iconst 0, 1) := by decide +kernel
theorem dX6_waterHeight_26 : decode cX6_waterHeight 26 = .ok (.ireturn, 1) := by decide +kernel
theorem dX6_isHighWater_0 : decode cX6_isHighWater 0 = .ok (.aload_n 0, 1) := by decide +kernel
theorem dX6_isHighWater_1 : decode cX6_isHighWater 1 = .ok (.iload_n 1, 1) := by decide +kernel
theorem dX6_isHighWater_2 : decode cX6_isHighWater 2 = .ok (.iload_n 2, 1) := by decide +kernel
theorem dX6_isHighWater_3 : decode cX6_isHighWater 3 = .ok (.iload_n 3, 1) := by decide +kernel
theorem dX6_isHighWater_4 : decode cX6_isHighWater 4 = .ok (.invokevirtual 143, 3) := by decide +kernel
theorem dX6_isHighWater_7 : decode cX6_isHighWater 7 = .ok (.ifCond .eq 16, 3) := by decide +kernel
theorem dX6_isHighWater_10 : decode cX6_isHighWater 10 = .ok (.aload_n 0, 1) := by decide +kernel
theorem dX6_isHighWater_11 : decode cX6_isHighWater 11 = .ok (.getfield 80, 3) := by decide +kernel
theorem dX6_isHighWater_14 : decode cX6_isHighWater 14 = .ok (.iload_n 3, 1) := by decide +kernel
theorem dX6_isHighWater_15 : decode cX6_isHighWater 15 = .ok (.iaload, 1) := by decide +kernel
theorem dX6_isHighWater_16 : decode cX6_isHighWater 16 = .ok (.ifCond .ne 7, 3) := by decide +kernel
theorem dX6_isHighWater_19 : decode cX6_isHighWater 19 = .ok (.iconst 1, 1) := by decide +kernel
theorem dX6_isHighWater_20 : decode cX6_isHighWater 20 = .ok (.goto 4, 3) := by decide +kernel
theorem dX6_isHighWater_23 : decode cX6_isHighWater 23 = .ok (.iconst 0, 1) := by decide +kernel
theorem dX6_isHighWater_24 : decode cX6_isHighWater 24 = .ok (.ireturn, 1) := by decide +kernel
theorem dX6_minutesToHighWater_0 : decode cX6_minutesToHighWater 0 = .ok (.aload_n 0, 1) := by decide +kernel
theorem dX6_minutesToHighWater_1 : decode cX6_minutesToHighWater 1 = .ok (.iload_n 1, 1) := by decide +kernel
theorem dX6_minutesToHighWater_2 : decode cX6_minutesToHighWater 2 = .ok (.invokevirtual 125, 3) := by decide +kernel
theorem dX6_minutesToHighWater_5 : decode cX6_minutesToHighWater 5 = .ok (.ifCond .ne 5, 3) := by decide +kernel
theorem dX6_minutesToHighWater_8 : decode cX6_minutesToHighWater 8 = .ok (.iconst 0, 1) := by decide +kernel
theorem dX6_minutesToHighWater_9 : decode cX6_minutesToHighWater 9 = .ok (.ireturn, 1) := by decide +kernel
theorem dX6_minutesToHighWater_10 : decode cX6_minutesToHighWater 10 = .ok (.iload_n 2, 1) := by decide +kernel
theorem dX6_minutesToHighWater_11 : decode cX6_minutesToHighWater 11 = .ok (.invokestatic 121, 3) := by decide +kernel
theorem dX6_minutesToHighWater_14 : decode cX6_minutesToHighWater 14 = .ok (.ifCond .eq 14, 3) := by decide +kernel
theorem dX6_minutesToHighWater_17 : decode cX6_minutesToHighWater 17 = .ok (.iload_n 3, 1) := by decide +kernel
theorem dX6_minutesToHighWater_18 : decode cX6_minutesToHighWater 18 = .ok (.iconst 0, 1) := by decide +kernel
theorem dX6_minutesToHighWater_19 : decode cX6_minutesToHighWater 19 = .ok (.sipush 1439, 3) := by decide +kernel
theorem dX6_minutesToHighWater_22 : decode cX6_minutesToHighWater 22 = .ok (.invokestatic 89, 3) := by decide +kernel
theorem dX6_minutesToHighWater_25 : decode cX6_minutesToHighWater 25 = .ok (.ifCond .ne 9, 3) := by decide +kernel
theorem dX6_minutesToHighWater_28 : decode cX6_minutesToHighWater 28 = .ok (.aload_n 0, 1) := by decide +kernel
theorem dX6_minutesToHighWater_29 : decode cX6_minutesToHighWater 29 = .ok (.iconst 2, 1) := by decide +kernel
theorem dX6_minutesToHighWater_30 : decode cX6_minutesToHighWater 30 = .ok (.invokevirtual 98, 3) := by decide +kernel
theorem dX6_minutesToHighWater_33 : decode cX6_minutesToHighWater 33 = .ok (.ireturn, 1) := by decide +kernel
theorem dX6_minutesToHighWater_34 : decode cX6_minutesToHighWater 34 = .ok (.iconst 0, 1) := by decide +kernel
theorem dX6_minutesToHighWater_35 : decode cX6_minutesToHighWater 35 = .ok (.istore 4, 2) := by decide +kernel
theorem dX6_minutesToHighWater_37 : decode cX6_minutesToHighWater 37 = .ok (.aload_n 0, 1) := by decide +kernel
theorem dX6_minutesToHighWater_38 : decode cX6_minutesToHighWater 38 = .ok (.iload_n 1, 1) := by decide +kernel
theorem dX6_minutesToHighWater_39 : decode cX6_minutesToHighWater 39 = .ok (.sipush 1440, 3) := by decide +kernel
theorem dX6_minutesToHighWater_42 : decode cX6_minutesToHighWater 42 = .ok (.iload_n 2, 1) := by decide +kernel
theorem dX6_minutesToHighWater_43 : decode cX6_minutesToHighWater 43 = .ok (.imul, 1) := by decide +kernel
theorem dX6_minutesToHighWater_44 : decode cX6_minutesToHighWater 44 = .ok (.iload_n 3, 1) := by decide +kernel
theorem dX6_minutesToHighWater_45 : decode cX6_minutesToHighWater 45 = .ok (.iadd, 1) := by decide +kernel
theorem dX6_minutesToHighWater_46 : decode cX6_minutesToHighWater 46 = .ok (.iload 4, 2) := by decide +kernel
theorem dX6_minutesToHighWater_48 : decode cX6_minutesToHighWater 48 = .ok (.iadd, 1) := by decide +kernel
theorem dX6_minutesToHighWater_49 : decode cX6_minutesToHighWater 49 = .ok (.invokevirtual 137, 3) := by decide +kernel
theorem dX6_minutesToHighWater_52 : decode cX6_minutesToHighWater 52 = .ok (.ifCond .eq 9, 3) := by decide +kernel
theorem dX6_minutesToHighWater_55 : decode cX6_minutesToHighWater 55 = .ok (.iinc 4 1, 3) := by decide +kernel
theorem dX6_minutesToHighWater_58 : decode cX6_minutesToHighWater 58 = .ok (.goto (-21), 3) := by decide +kernel
theorem dX6_minutesToHighWater_61 : decode cX6_minutesToHighWater 61 = .ok (.iload 4, 2) := by decide +kernel
theorem dX6_minutesToHighWater_63 : decode cX6_minutesToHighWater 63 = .ok (.ireturn, 1) := by decide +kernel
theorem dX6_correction_0 : decode cX6_correction 0 = .ok (.iconst 0, 1) := by decide +kernel
theorem dX6_correction_1 : decode cX6_correction 1 = .ok (.istore_n 2, 1) := by decide +kernel
theorem dX6_correction_2 : decode cX6_correction 2 = .ok (.iconst 0, 1) := by decide +kernel
theorem dX6_correction_3 : decode cX6_correction 3 = .ok (.istore_n 3, 1) := by decide +kernel
theorem dX6_correction_4 : decode cX6_correction 4 = .ok (.bipush 6, 2) := by decide +kernel
theorem dX6_correction_6 : decode cX6_correction 6 = .ok (.iload_n 1, 1) := by decide +kernel
theorem dX6_correction_7 : decode cX6_correction 7 = .ok (.imul, 1) := by decide +kernel
theorem dX6_correction_8 : decode cX6_correction 8 = .ok (.istore 4, 2) := by decide +kernel
theorem dX6_correction_10 : decode cX6_correction 10 = .ok (.iload 4, 2) := by decide +kernel
theorem dX6_correction_12 : decode cX6_correction 12 = .ok (.bipush 6, 2) := by decide +kernel
theorem dX6_correction_14 : decode cX6_correction 14 = .ok (.iload_n 1, 1) := by decide +kernel
theorem dX6_correction_15 : decode cX6_correction 15 = .ok (.imul, 1) := by decide +kernel
theorem dX6_correction_16 : decode cX6_correction 16 = .ok (.aload_n 0, 1) := by decide +kernel
theorem dX6_correction_17 : decode cX6_correction 17 = .ok (.getfield 28, 3) := by decide +kernel
theorem dX6_correction_20 : decode cX6_correction 20 = .ok (.iload_n 1, 1) := by decide +kernel
theorem dX6_correction_21 : decode cX6_correction 21 = .ok (.iaload, 1) := by decide +kernel
theorem dX6_correction_22 : decode cX6_correction 22 = .ok (.iadd, 1) := by decide +kernel
theorem dX6_correction_23 : decode cX6_correction 23 = .ok (.if_icmp .ge 47, 3) := by decide +kernel
theorem dX6_correction_26 : decode cX6_correction 26 = .ok (.iload_n 2, 1) := by decide +kernel
theorem dX6_correction_27 : decode cX6_correction 27 = .ok (.aload_n 0, 1) := by decide +kernel
theorem dX6_correction_28 : decode cX6_correction 28 = .ok (.getfield 34, 3) := by decide +kernel
theorem dX6_correction_31 : decode cX6_correction 31 = .ok (.iload 4, 2) := by decide +kernel
theorem dX6_correction_33 : decode cX6_correction 33 = .ok (.iaload, 1) := by decide +kernel
theorem dX6_correction_34 : decode cX6_correction 34 = .ok (.aload_n 0, 1) := by decide +kernel
theorem dX6_correction_35 : decode cX6_correction 35 = .ok (.getfield 25, 3) := by decide +kernel
theorem dX6_correction_38 : decode cX6_correction 38 = .ok (.aload_n 0, 1) := by decide +kernel
theorem dX6_correction_39 : decode cX6_correction 39 = .ok (.getfield 31, 3) := by decide +kernel
theorem dX6_correction_42 : decode cX6_correction 42 = .ok (.iload 4, 2) := by decide +kernel
theorem dX6_correction_44 : decode cX6_correction 44 = .ok (.iaload, 1) := by decide +kernel
theorem dX6_correction_45 : decode cX6_correction 45 = .ok (.iaload, 1) := by decide +kernel
theorem dX6_correction_46 : decode cX6_correction 46 = .ok (.imul, 1) := by decide +kernel
theorem dX6_correction_47 : decode cX6_correction 47 = .ok (.iadd, 1) := by decide +kernel
theorem dX6_correction_48 : decode cX6_correction 48 = .ok (.istore_n 2, 1) := by decide +kernel
theorem dX6_correction_49 : decode cX6_correction 49 = .ok (.iload_n 3, 1) := by decide +kernel
theorem dX6_correction_50 : decode cX6_correction 50 = .ok (.aload_n 0, 1) := by decide +kernel
theorem dX6_correction_51 : decode cX6_correction 51 = .ok (.getfield 25, 3) := by decide +kernel
theorem dX6_correction_54 : decode cX6_correction 54 = .ok (.aload_n 0, 1) := by decide +kernel
theorem dX6_correction_55 : decode cX6_correction 55 = .ok (.getfield 31, 3) := by decide +kernel
theorem dX6_correction_58 : decode cX6_correction 58 = .ok (.iload 4, 2) := by decide +kernel
theorem dX6_correction_60 : decode cX6_correction 60 = .ok (.iaload, 1) := by decide +kernel
theorem dX6_correction_61 : decode cX6_correction 61 = .ok (.iaload, 1) := by decide +kernel
theorem dX6_correction_62 : decode cX6_correction 62 = .ok (.iadd, 1) := by decide +kernel
theorem dX6_correction_63 : decode cX6_correction 63 = .ok (.istore_n 3, 1) := by decide +kernel
theorem dX6_correction_64 : decode cX6_correction 64 = .ok (.iinc 4 1, 3) := by decide +kernel
theorem dX6_correction_67 : decode cX6_correction 67 = .ok (.goto (-57), 3) := by decide +kernel
theorem dX6_correction_70 : decode cX6_correction 70 = .ok (.iload_n 3, 1) := by decide +kernel
theorem dX6_correction_71 : decode cX6_correction 71 = .ok (.ifCond .ne 7, 3) := by decide +kernel
theorem dX6_correction_74 : decode cX6_correction 74 = .ok (.iconst 0, 1) := by decide +kernel
theorem dX6_correction_75 : decode cX6_correction 75 = .ok (.goto 6, 3) := by decide +kernel
theorem dX6_correction_78 : decode cX6_correction 78 = .ok (.iload_n 2, 1) := by decide +kernel
theorem dX6_correction_79 : decode cX6_correction 79 = .ok (.iload_n 3, 1) := by decide +kernel
theorem dX6_correction_80 : decode cX6_correction 80 = .ok (.idiv, 1) := by decide +kernel
theorem dX6_correction_81 : decode cX6_correction 81 = .ok (.ireturn, 1) := by decide +kernel
theorem dX6_placeOf_0 : decode cX6_placeOf 0 = .ok (.iconst 0, 1) := by decide +kernel
theorem dX6_placeOf_1 : decode cX6_placeOf 1 = .ok (.istore_n 3, 1) := by decide +kernel
theorem dX6_placeOf_2 : decode cX6_placeOf 2 = .ok (.iload_n 3, 1) := by decide +kernel
theorem dX6_placeOf_3 : decode cX6_placeOf 3 = .ok (.aload_n 0, 1) := by decide +kernel
theorem dX6_placeOf_4 : decode cX6_placeOf 4 = .ok (.getfield 28, 3) := by decide +kernel
theorem dX6_placeOf_7 : decode cX6_placeOf 7 = .ok (.iload_n 2, 1) := by decide +kernel
theorem dX6_placeOf_8 : decode cX6_placeOf 8 = .ok (.iaload, 1) := by decide +kernel
theorem dX6_placeOf_9 : decode cX6_placeOf 9 = .ok (.if_icmp .ge 26, 3) := by decide +kernel
theorem dX6_placeOf_12 : decode cX6_placeOf 12 = .ok (.aload_n 0, 1) := by decide +kernel
theorem dX6_placeOf_13 : decode cX6_placeOf 13 = .ok (.getfield 31, 3) := by decide +kernel
theorem dX6_placeOf_16 : decode cX6_placeOf 16 = .ok (.bipush 6, 2) := by decide +kernel
theorem dX6_placeOf_18 : decode cX6_placeOf 18 = .ok (.iload_n 2, 1) := by decide +kernel
theorem dX6_placeOf_19 : decode cX6_placeOf 19 = .ok (.imul, 1) := by decide +kernel
theorem dX6_placeOf_20 : decode cX6_placeOf 20 = .ok (.iload_n 3, 1) := by decide +kernel
theorem dX6_placeOf_21 : decode cX6_placeOf 21 = .ok (.iadd, 1) := by decide +kernel
theorem dX6_placeOf_22 : decode cX6_placeOf 22 = .ok (.iaload, 1) := by decide +kernel
theorem dX6_placeOf_23 : decode cX6_placeOf 23 = .ok (.iload_n 1, 1) := by decide +kernel
theorem dX6_placeOf_24 : decode cX6_placeOf 24 = .ok (.if_icmp .ne 5, 3) := by decide +kernel
theorem dX6_placeOf_27 : decode cX6_placeOf 27 = .ok (.iload_n 3, 1) := by decide +kernel
theorem dX6_placeOf_28 : decode cX6_placeOf 28 = .ok (.ireturn, 1) := by decide +kernel
theorem dX6_placeOf_29 : decode cX6_placeOf 29 = .ok (.iinc 3 1, 3) := by decide +kernel
theorem dX6_placeOf_32 : decode cX6_placeOf 32 = .ok (.goto (-30), 3) := by decide +kernel
theorem dX6_placeOf_35 : decode cX6_placeOf 35 = .ok (.iconst (-1), 1) := by decide +kernel
theorem dX6_placeOf_36 : decode cX6_placeOf 36 = .ok (.ireturn, 1) := by decide +kernel
theorem dX6_dropReport_0 : decode cX6_dropReport 0 = .ok (.aload_n 0, 1) := by decide +kernel
theorem dX6_dropReport_1 : decode cX6_dropReport 1 = .ok (.getfield 28, 3) := by decide +kernel
theorem dX6_dropReport_4 : decode cX6_dropReport 4 = .ok (.iload_n 1, 1) := by decide +kernel
theorem dX6_dropReport_5 : decode cX6_dropReport 5 = .ok (.dup2, 1) := by decide +kernel
theorem dX6_dropReport_6 : decode cX6_dropReport 6 = .ok (.iaload, 1) := by decide +kernel
theorem dX6_dropReport_7 : decode cX6_dropReport 7 = .ok (.iconst 1, 1) := by decide +kernel
theorem dX6_dropReport_8 : decode cX6_dropReport 8 = .ok (.isub, 1) := by decide +kernel
theorem dX6_dropReport_9 : decode cX6_dropReport 9 = .ok (.iastore, 1) := by decide +kernel
theorem dX6_dropReport_10 : decode cX6_dropReport 10 = .ok (.bipush 6, 2) := by decide +kernel
theorem dX6_dropReport_12 : decode cX6_dropReport 12 = .ok (.iload_n 1, 1) := by decide +kernel
theorem dX6_dropReport_13 : decode cX6_dropReport 13 = .ok (.imul, 1) := by decide +kernel
theorem dX6_dropReport_14 : decode cX6_dropReport 14 = .ok (.iload_n 2, 1) := by decide +kernel
theorem dX6_dropReport_15 : decode cX6_dropReport 15 = .ok (.iadd, 1) := by decide +kernel
theorem dX6_dropReport_16 : decode cX6_dropReport 16 = .ok (.istore_n 3, 1) := by decide +kernel
theorem dX6_dropReport_17 : decode cX6_dropReport 17 = .ok (.iload_n 3, 1) := by decide +kernel
theorem dX6_dropReport_18 : decode cX6_dropReport 18 = .ok (.bipush 6, 2) := by decide +kernel
theorem dX6_dropReport_20 : decode cX6_dropReport 20 = .ok (.iload_n 1, 1) := by decide +kernel
theorem dX6_dropReport_21 : decode cX6_dropReport 21 = .ok (.imul, 1) := by decide +kernel
theorem dX6_dropReport_22 : decode cX6_dropReport 22 = .ok (.aload_n 0, 1) := by decide +kernel
theorem dX6_dropReport_23 : decode cX6_dropReport 23 = .ok (.getfield 28, 3) := by decide +kernel
theorem dX6_dropReport_26 : decode cX6_dropReport 26 = .ok (.iload_n 1, 1) := by decide +kernel
theorem dX6_dropReport_27 : decode cX6_dropReport 27 = .ok (.iaload, 1) := by decide +kernel
theorem dX6_dropReport_28 : decode cX6_dropReport 28 = .ok (.iadd, 1) := by decide +kernel
theorem dX6_dropReport_29 : decode cX6_dropReport 29 = .ok (.if_icmp .ge 51, 3) := by decide +kernel
theorem dX6_dropReport_32 : decode cX6_dropReport 32 = .ok (.aload_n 0, 1) := by decide +kernel
theorem dX6_dropReport_33 : decode cX6_dropReport 33 = .ok (.getfield 31, 3) := by decide +kernel
theorem dX6_dropReport_36 : decode cX6_dropReport 36 = .ok (.iload_n 3, 1) := by decide +kernel
theorem dX6_dropReport_37 : decode cX6_dropReport 37 = .ok (.aload_n 0, 1) := by decide +kernel
theorem dX6_dropReport_38 : decode cX6_dropReport 38 = .ok (.getfield 31, 3) := by decide +kernel
theorem dX6_dropReport_41 : decode cX6_dropReport 41 = .ok (.iload_n 3, 1) := by decide +kernel
theorem dX6_dropReport_42 : decode cX6_dropReport 42 = .ok (.iconst 1, 1) := by decide +kernel
theorem dX6_dropReport_43 : decode cX6_dropReport 43 = .ok (.iadd, 1) := by decide +kernel
theorem dX6_dropReport_44 : decode cX6_dropReport 44 = .ok (.iaload, 1) := by decide +kernel
theorem dX6_dropReport_45 : decode cX6_dropReport 45 = .ok (.iastore, 1) := by decide +kernel
theorem dX6_dropReport_46 : decode cX6_dropReport 46 = .ok (.aload_n 0, 1) := by decide +kernel
theorem dX6_dropReport_47 : decode cX6_dropReport 47 = .ok (.getfield 34, 3) := by decide +kernel
theorem dX6_dropReport_50 : decode cX6_dropReport 50 = .ok (.iload_n 3, 1) := by decide +kernel
theorem dX6_dropReport_51 : decode cX6_dropReport 51 = .ok (.aload_n 0, 1) := by decide +kernel
theorem dX6_dropReport_52 : decode cX6_dropReport 52 = .ok (.getfield 34, 3) := by decide +kernel
theorem dX6_dropReport_55 : decode cX6_dropReport 55 = .ok (.iload_n 3, 1) := by decide +kernel
theorem dX6_dropReport_56 : decode cX6_dropReport 56 = .ok (.iconst 1, 1) := by decide +kernel
theorem dX6_dropReport_57 : decode cX6_dropReport 57 = .ok (.iadd, 1) := by decide +kernel
theorem dX6_dropReport_58 : decode cX6_dropReport 58 = .ok (.iaload, 1) := by decide +kernel
theorem dX6_dropReport_59 : decode cX6_dropReport 59 = .ok (.iastore, 1) := by decide +kernel
theorem dX6_dropReport_60 : decode cX6_dropReport 60 = .ok (.aload_n 0, 1) := by decide +kernel
theorem dX6_dropReport_61 : decode cX6_dropReport 61 = .ok (.getfield 37, 3) := by decide +kernel
theorem dX6_dropReport_64 : decode cX6_dropReport 64 = .ok (.iload_n 3, 1) := by decide +kernel
theorem dX6_dropReport_65 : decode cX6_dropReport 65 = .ok (.aload_n 0, 1) := by decide +kernel
theorem dX6_dropReport_66 : decode cX6_dropReport 66 = .ok (.getfield 37, 3) := by decide +kernel
theorem dX6_dropReport_69 : decode cX6_dropReport 69 = .ok (.iload_n 3, 1) := by decide +kernel
theorem dX6_dropReport_70 : decode cX6_dropReport 70 = .ok (.iconst 1, 1) := by decide +kernel
theorem dX6_dropReport_71 : decode cX6_dropReport 71 = .ok (.iadd, 1) := by decide +kernel
theorem dX6_dropReport_72 : decode cX6_dropReport 72 = .ok (.iaload, 1) := by decide +kernel
theorem dX6_dropReport_73 : decode cX6_dropReport 73 = .ok (.iastore, 1) := by decide +kernel
theorem dX6_dropReport_74 : decode cX6_dropReport 74 = .ok (.iinc 3 1, 3) := by decide +kernel
theorem dX6_dropReport_77 : decode cX6_dropReport 77 = .ok (.goto (-60), 3) := by decide +kernel
theorem dX6_dropReport_80 : decode cX6_dropReport 80 = .ok (.return_, 1) := by decide +kernel
theorem dX6_isPair_0 : decode cX6_isPair 0 = .ok (.aload_n 0, 1) := by decide +kernel
theorem dX6_isPair_1 : decode cX6_isPair 1 = .ok (.iload_n 1, 1) := by decide +kernel
theorem dX6_isPair_2 : decode cX6_isPair 2 = .ok (.iconst 0, 1) := by decide +kernel
theorem dX6_isPair_3 : decode cX6_isPair 3 = .ok (.iconst 5, 1) := by decide +kernel
theorem dX6_isPair_4 : decode cX6_isPair 4 = .ok (.invokestatic 89, 3) := by decide +kernel
theorem dX6_isPair_7 : decode cX6_isPair 7 = .ok (.ifCond .eq 21, 3) := by decide +kernel
theorem dX6_isPair_10 : decode cX6_isPair 10 = .ok (.iload_n 2, 1) := by decide +kernel
theorem dX6_isPair_11 : decode cX6_isPair 11 = .ok (.iconst 0, 1) := by decide +kernel
theorem dX6_isPair_12 : decode cX6_isPair 12 = .ok (.aload_n 0, 1) := by decide +kernel
theorem dX6_isPair_13 : decode cX6_isPair 13 = .ok (.getfield 86, 3) := by decide +kernel
theorem dX6_isPair_16 : decode cX6_isPair 16 = .ok (.iconst 1, 1) := by decide +kernel
theorem dX6_isPair_17 : decode cX6_isPair 17 = .ok (.isub, 1) := by decide +kernel
theorem dX6_isPair_18 : decode cX6_isPair 18 = .ok (.invokestatic 89, 3) := by decide +kernel
theorem dX6_isPair_21 : decode cX6_isPair 21 = .ok (.ifCond .eq 7, 3) := by decide +kernel
theorem dX6_isPair_24 : decode cX6_isPair 24 = .ok (.iconst 1, 1) := by decide +kernel
theorem dX6_isPair_25 : decode cX6_isPair 25 = .ok (.goto 4, 3) := by decide +kernel
theorem dX6_isPair_28 : decode cX6_isPair 28 = .ok (.iconst 0, 1) := by decide +kernel
theorem dX6_isPair_29 : decode cX6_isPair 29 = .ok (.iconst 1, 1) := by decide +kernel
theorem dX6_isPair_30 : decode cX6_isPair 30 = .ok (.invokevirtual 93, 3) := by decide +kernel
theorem dX6_isPair_33 : decode cX6_isPair 33 = .ok (.ireturn, 1) := by decide +kernel
theorem dX6_report_0 : decode cX6_report 0 = .ok (.aload_n 0, 1) := by decide +kernel
theorem dX6_report_1 : decode cX6_report 1 = .ok (.iload_n 1, 1) := by decide +kernel
theorem dX6_report_2 : decode cX6_report 2 = .ok (.iload_n 2, 1) := by decide +kernel
theorem dX6_report_3 : decode cX6_report 3 = .ok (.invokevirtual 150, 3) := by decide +kernel
theorem dX6_report_6 : decode cX6_report 6 = .ok (.ifCond .ne 5, 3) := by decide +kernel
theorem dX6_report_9 : decode cX6_report 9 = .ok (.iconst 0, 1) := by decide +kernel
theorem dX6_report_10 : decode cX6_report 10 = .ok (.ireturn, 1) := by decide +kernel
theorem dX6_report_11 : decode cX6_report 11 = .ok (.iload_n 3, 1) := by decide +kernel
theorem dX6_report_12 : decode cX6_report 12 = .ok (.bipush (-60), 2) := by decide +kernel
theorem dX6_report_14 : decode cX6_report 14 = .ok (.bipush 60, 2) := by decide +kernel
theorem dX6_report_16 : decode cX6_report 16 = .ok (.invokestatic 89, 3) := by decide +kernel
theorem dX6_report_19 : decode cX6_report 19 = .ok (.ifCond .ne 9, 3) := by decide +kernel
theorem dX6_report_22 : decode cX6_report 22 = .ok (.aload_n 0, 1) := by decide +kernel
theorem dX6_report_23 : decode cX6_report 23 = .ok (.iconst 2, 1) := by decide +kernel
theorem dX6_report_24 : decode cX6_report 24 = .ok (.invokevirtual 98, 3) := by decide +kernel
theorem dX6_report_27 : decode cX6_report 27 = .ok (.ireturn, 1) := by decide +kernel
theorem dX6_report_28 : decode cX6_report 28 = .ok (.aload_n 0, 1) := by decide +kernel
theorem dX6_report_29 : decode cX6_report 29 = .ok (.iload_n 1, 1) := by decide +kernel
theorem dX6_report_30 : decode cX6_report 30 = .ok (.iload_n 2, 1) := by decide +kernel
theorem dX6_report_31 : decode cX6_report 31 = .ok (.invokevirtual 154, 3) := by decide +kernel
theorem dX6_report_34 : decode cX6_report 34 = .ok (.istore 4, 2) := by decide +kernel
theorem dX6_report_36 : decode cX6_report 36 = .ok (.iload 4, 2) := by decide +kernel
theorem dX6_report_38 : decode cX6_report 38 = .ok (.iconst (-1), 1) := by decide +kernel
theorem dX6_report_39 : decode cX6_report 39 = .ok (.if_icmp .ne 21, 3) := by decide +kernel
theorem dX6_report_42 : decode cX6_report 42 = .ok (.aload_n 0, 1) := by decide +kernel
theorem dX6_report_43 : decode cX6_report 43 = .ok (.getfield 28, 3) := by decide +kernel
theorem dX6_report_46 : decode cX6_report 46 = .ok (.iload_n 2, 1) := by decide +kernel
theorem dX6_report_47 : decode cX6_report 47 = .ok (.iaload, 1) := by decide +kernel
theorem dX6_report_48 : decode cX6_report 48 = .ok (.istore 4, 2) := by decide +kernel
theorem dX6_report_50 : decode cX6_report 50 = .ok (.aload_n 0, 1) := by decide +kernel
theorem dX6_report_51 : decode cX6_report 51 = .ok (.getfield 28, 3) := by decide +kernel
theorem dX6_report_54 : decode cX6_report 54 = .ok (.iload_n 2, 1) := by decide +kernel
theorem dX6_report_55 : decode cX6_report 55 = .ok (.dup2, 1) := by decide +kernel
theorem dX6_report_56 : decode cX6_report 56 = .ok (.iaload, 1) := by decide +kernel
theorem dX6_report_57 : decode cX6_report 57 = .ok (.iconst 1, 1) := by decide +kernel
theorem dX6_report_58 : decode cX6_report 58 = .ok (.iadd, 1) := by decide +kernel
theorem dX6_report_59 : decode cX6_report 59 = .ok (.iastore, 1) := by decide +kernel
theorem dX6_report_60 : decode cX6_report 60 = .ok (.aload_n 0, 1) := by decide +kernel
theorem dX6_report_61 : decode cX6_report 61 = .ok (.getfield 31, 3) := by decide +kernel
theorem dX6_report_64 : decode cX6_report 64 = .ok (.bipush 6, 2) := by decide +kernel
theorem dX6_report_66 : decode cX6_report 66 = .ok (.iload_n 2, 1) := by decide +kernel
theorem dX6_report_67 : decode cX6_report 67 = .ok (.imul, 1) := by decide +kernel
theorem dX6_report_68 : decode cX6_report 68 = .ok (.iload 4, 2) := by decide +kernel
theorem dX6_report_70 : decode cX6_report 70 = .ok (.iadd, 1) := by decide +kernel
theorem dX6_report_71 : decode cX6_report 71 = .ok (.iload_n 1, 1) := by decide +kernel
theorem dX6_report_72 : decode cX6_report 72 = .ok (.iastore, 1) := by decide +kernel
theorem dX6_report_73 : decode cX6_report 73 = .ok (.aload_n 0, 1) := by decide +kernel
theorem dX6_report_74 : decode cX6_report 74 = .ok (.getfield 34, 3) := by decide +kernel
theorem dX6_report_77 : decode cX6_report 77 = .ok (.bipush 6, 2) := by decide +kernel
theorem dX6_report_79 : decode cX6_report 79 = .ok (.iload_n 2, 1) := by decide +kernel
theorem dX6_report_80 : decode cX6_report 80 = .ok (.imul, 1) := by decide +kernel
theorem dX6_report_81 : decode cX6_report 81 = .ok (.iload 4, 2) := by decide +kernel
theorem dX6_report_83 : decode cX6_report 83 = .ok (.iadd, 1) := by decide +kernel
theorem dX6_report_84 : decode cX6_report 84 = .ok (.iload_n 3, 1) := by decide +kernel
theorem dX6_report_85 : decode cX6_report 85 = .ok (.iastore, 1) := by decide +kernel
theorem dX6_report_86 : decode cX6_report 86 = .ok (.aload_n 0, 1) := by decide +kernel
theorem dX6_report_87 : decode cX6_report 87 = .ok (.getfield 37, 3) := by decide +kernel
theorem dX6_report_90 : decode cX6_report 90 = .ok (.bipush 6, 2) := by decide +kernel
theorem dX6_report_92 : decode cX6_report 92 = .ok (.iload_n 2, 1) := by decide +kernel
theorem dX6_report_93 : decode cX6_report 93 = .ok (.imul, 1) := by decide +kernel
theorem dX6_report_94 : decode cX6_report 94 = .ok (.iload 4, 2) := by decide +kernel
theorem dX6_report_96 : decode cX6_report 96 = .ok (.iadd, 1) := by decide +kernel
theorem dX6_report_97 : decode cX6_report 97 = .ok (.iconst 0, 1) := by decide +kernel
theorem dX6_report_98 : decode cX6_report 98 = .ok (.iastore, 1) := by decide +kernel
theorem dX6_report_99 : decode cX6_report 99 = .ok (.aload_n 0, 1) := by decide +kernel
theorem dX6_report_100 : decode cX6_report 100 = .ok (.iload_n 2, 1) := by decide +kernel
theorem dX6_report_101 : decode cX6_report 101 = .ok (.invokevirtual 131, 3) := by decide +kernel
theorem dX6_report_104 : decode cX6_report 104 = .ok (.ireturn, 1) := by decide +kernel
theorem dX6_observe_0 : decode cX6_observe 0 = .ok (.aload_n 0, 1) := by decide +kernel
theorem dX6_observe_1 : decode cX6_observe 1 = .ok (.iload_n 1, 1) := by decide +kernel
