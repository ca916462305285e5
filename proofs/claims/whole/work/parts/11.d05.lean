theorem dX6_begin_44 : decode cX6_begin 44 = .ok (.iload_n 1, 1) := by decide +kernel
theorem dX6_begin_45 : decode cX6_begin 45 = .ok (.iconst 0, 1) := by decide +kernel
theorem dX6_begin_46 : decode cX6_begin 46 = .ok (.iastore, 1) := by decide +kernel
theorem dX6_begin_47 : decode cX6_begin 47 = .ok (.iconst 0, 1) := by decide +kernel
theorem dX6_begin_48 : decode cX6_begin 48 = .ok (.istore_n 2, 1) := by decide +kernel
theorem dX6_begin_49 : decode cX6_begin 49 = .ok (.iload_n 2, 1) := by decide +kernel
theorem dX6_begin_50 : decode cX6_begin 50 = .ok (.aload_n 0, 1) := by decide +kernel
theorem dX6_begin_51 : decode cX6_begin 51 = .ok (.getfield 134, 3) := by decide +kernel
theorem dX6_begin_54 : decode cX6_begin 54 = .ok (.if_icmp .ge 79, 3) := by decide +kernel
theorem dX6_begin_57 : decode cX6_begin 57 = .ok (.aload_n 0, 1) := by decide +kernel
theorem dX6_begin_58 : decode cX6_begin 58 = .ok (.getfield 62, 3) := by decide +kernel
theorem dX6_begin_61 : decode cX6_begin 61 = .ok (.iconst 4, 1) := by decide +kernel
theorem dX6_begin_62 : decode cX6_begin 62 = .ok (.iload_n 1, 1) := by decide +kernel
theorem dX6_begin_63 : decode cX6_begin 63 = .ok (.imul, 1) := by decide +kernel
theorem dX6_begin_64 : decode cX6_begin 64 = .ok (.iload_n 2, 1) := by decide +kernel
theorem dX6_begin_65 : decode cX6_begin 65 = .ok (.iadd, 1) := by decide +kernel
theorem dX6_begin_66 : decode cX6_begin 66 = .ok (.aload_n 0, 1) := by decide +kernel
theorem dX6_begin_67 : decode cX6_begin 67 = .ok (.getfield 80, 3) := by decide +kernel
theorem dX6_begin_70 : decode cX6_begin 70 = .ok (.iload_n 2, 1) := by decide +kernel
theorem dX6_begin_71 : decode cX6_begin 71 = .ok (.iaload, 1) := by decide +kernel
theorem dX6_begin_72 : decode cX6_begin 72 = .ok (.iastore, 1) := by decide +kernel
theorem dX6_begin_73 : decode cX6_begin 73 = .ok (.aload_n 0, 1) := by decide +kernel
theorem dX6_begin_74 : decode cX6_begin 74 = .ok (.getfield 65, 3) := by decide +kernel
theorem dX6_begin_77 : decode cX6_begin 77 = .ok (.iconst 4, 1) := by decide +kernel
theorem dX6_begin_78 : decode cX6_begin 78 = .ok (.iload_n 1, 1) := by decide +kernel
theorem dX6_begin_79 : decode cX6_begin 79 = .ok (.imul, 1) := by decide +kernel
theorem dX6_begin_80 : decode cX6_begin 80 = .ok (.iload_n 2, 1) := by decide +kernel
theorem dX6_begin_81 : decode cX6_begin 81 = .ok (.iadd, 1) := by decide +kernel
theorem dX6_begin_82 : decode cX6_begin 82 = .ok (.aload_n 0, 1) := by decide +kernel
theorem dX6_begin_83 : decode cX6_begin 83 = .ok (.getfield 77, 3) := by decide +kernel
theorem dX6_begin_86 : decode cX6_begin 86 = .ok (.iload_n 2, 1) := by decide +kernel
theorem dX6_begin_87 : decode cX6_begin 87 = .ok (.iaload, 1) := by decide +kernel
theorem dX6_begin_88 : decode cX6_begin 88 = .ok (.iastore, 1) := by decide +kernel
theorem dX6_begin_89 : decode cX6_begin 89 = .ok (.aload_n 0, 1) := by decide +kernel
theorem dX6_begin_90 : decode cX6_begin 90 = .ok (.getfield 68, 3) := by decide +kernel
theorem dX6_begin_93 : decode cX6_begin 93 = .ok (.iconst 4, 1) := by decide +kernel
theorem dX6_begin_94 : decode cX6_begin 94 = .ok (.iload_n 1, 1) := by decide +kernel
theorem dX6_begin_95 : decode cX6_begin 95 = .ok (.imul, 1) := by decide +kernel
theorem dX6_begin_96 : decode cX6_begin 96 = .ok (.iload_n 2, 1) := by decide +kernel
theorem dX6_begin_97 : decode cX6_begin 97 = .ok (.iadd, 1) := by decide +kernel
theorem dX6_begin_98 : decode cX6_begin 98 = .ok (.aload_n 0, 1) := by decide +kernel
theorem dX6_begin_99 : decode cX6_begin 99 = .ok (.iload_n 1, 1) := by decide +kernel
theorem dX6_begin_100 : decode cX6_begin 100 = .ok (.aload_n 0, 1) := by decide +kernel
theorem dX6_begin_101 : decode cX6_begin 101 = .ok (.getfield 53, 3) := by decide +kernel
theorem dX6_begin_104 : decode cX6_begin 104 = .ok (.iload_n 1, 1) := by decide +kernel
theorem dX6_begin_105 : decode cX6_begin 105 = .ok (.iaload, 1) := by decide +kernel
theorem dX6_begin_106 : decode cX6_begin 106 = .ok (.aload_n 0, 1) := by decide +kernel
theorem dX6_begin_107 : decode cX6_begin 107 = .ok (.getfield 80, 3) := by decide +kernel
theorem dX6_begin_110 : decode cX6_begin 110 = .ok (.iload_n 2, 1) := by decide +kernel
theorem dX6_begin_111 : decode cX6_begin 111 = .ok (.iaload, 1) := by decide +kernel
theorem dX6_begin_112 : decode cX6_begin 112 = .ok (.invokevirtual 146, 3) := by decide +kernel
theorem dX6_begin_115 : decode cX6_begin 115 = .ok (.iastore, 1) := by decide +kernel
theorem dX6_begin_116 : decode cX6_begin 116 = .ok (.aload_n 0, 1) := by decide +kernel
theorem dX6_begin_117 : decode cX6_begin 117 = .ok (.getfield 71, 3) := by decide +kernel
theorem dX6_begin_120 : decode cX6_begin 120 = .ok (.iconst 4, 1) := by decide +kernel
theorem dX6_begin_121 : decode cX6_begin 121 = .ok (.iload_n 1, 1) := by decide +kernel
theorem dX6_begin_122 : decode cX6_begin 122 = .ok (.imul, 1) := by decide +kernel
theorem dX6_begin_123 : decode cX6_begin 123 = .ok (.iload_n 2, 1) := by decide +kernel
theorem dX6_begin_124 : decode cX6_begin 124 = .ok (.iadd, 1) := by decide +kernel
theorem dX6_begin_125 : decode cX6_begin 125 = .ok (.iconst 0, 1) := by decide +kernel
theorem dX6_begin_126 : decode cX6_begin 126 = .ok (.iastore, 1) := by decide +kernel
theorem dX6_begin_127 : decode cX6_begin 127 = .ok (.iinc 2 1, 3) := by decide +kernel
theorem dX6_begin_130 : decode cX6_begin 130 = .ok (.goto (-81), 3) := by decide +kernel
theorem dX6_begin_133 : decode cX6_begin 133 = .ok (.aload_n 0, 1) := by decide +kernel
theorem dX6_begin_134 : decode cX6_begin 134 = .ok (.iload_n 1, 1) := by decide +kernel
theorem dX6_begin_135 : decode cX6_begin 135 = .ok (.putfield 49, 3) := by decide +kernel
theorem dX6_begin_138 : decode cX6_begin 138 = .ok (.aload_n 0, 1) := by decide +kernel
theorem dX6_begin_139 : decode cX6_begin 139 = .ok (.aload_n 0, 1) := by decide +kernel
theorem dX6_begin_140 : decode cX6_begin 140 = .ok (.getfield 134, 3) := by decide +kernel
theorem dX6_begin_143 : decode cX6_begin 143 = .ok (.iconst 1, 1) := by decide +kernel
theorem dX6_begin_144 : decode cX6_begin 144 = .ok (.isub, 1) := by decide +kernel
theorem dX6_begin_145 : decode cX6_begin 145 = .ok (.putfield 192, 3) := by decide +kernel
theorem dX6_begin_148 : decode cX6_begin 148 = .ok (.return_, 1) := by decide +kernel
theorem dX6_drip_0 : decode cX6_drip 0 = .ok (.aload_n 0, 1) := by decide +kernel
theorem dX6_drip_1 : decode cX6_drip 1 = .ok (.dup, 1) := by decide +kernel
theorem dX6_drip_2 : decode cX6_drip 2 = .ok (.getfield 180, 3) := by decide +kernel
theorem dX6_drip_5 : decode cX6_drip 5 = .ok (.aload_n 0, 1) := by decide +kernel
theorem dX6_drip_6 : decode cX6_drip 6 = .ok (.getfield 22, 3) := by decide +kernel
theorem dX6_drip_9 : decode cX6_drip 9 = .ok (.iload_n 1, 1) := by decide +kernel
theorem dX6_drip_10 : decode cX6_drip 10 = .ok (.iaload, 1) := by decide +kernel
theorem dX6_drip_11 : decode cX6_drip 11 = .ok (.iadd, 1) := by decide +kernel
theorem dX6_drip_12 : decode cX6_drip 12 = .ok (.putfield 180, 3) := by decide +kernel
theorem dX6_drip_15 : decode cX6_drip 15 = .ok (.aload_n 0, 1) := by decide +kernel
theorem dX6_drip_16 : decode cX6_drip 16 = .ok (.getfield 59, 3) := by decide +kernel
theorem dX6_drip_19 : decode cX6_drip 19 = .ok (.iload_n 1, 1) := by decide +kernel
theorem dX6_drip_20 : decode cX6_drip 20 = .ok (.dup2, 1) := by decide +kernel
theorem dX6_drip_21 : decode cX6_drip 21 = .ok (.iaload, 1) := by decide +kernel
theorem dX6_drip_22 : decode cX6_drip 22 = .ok (.aload_n 0, 1) := by decide +kernel
theorem dX6_drip_23 : decode cX6_drip 23 = .ok (.getfield 22, 3) := by decide +kernel
theorem dX6_drip_26 : decode cX6_drip 26 = .ok (.iload_n 1, 1) := by decide +kernel
theorem dX6_drip_27 : decode cX6_drip 27 = .ok (.iaload, 1) := by decide +kernel
theorem dX6_drip_28 : decode cX6_drip 28 = .ok (.iadd, 1) := by decide +kernel
theorem dX6_drip_29 : decode cX6_drip 29 = .ok (.iastore, 1) := by decide +kernel
theorem dX6_drip_30 : decode cX6_drip 30 = .ok (.aload_n 0, 1) := by decide +kernel
theorem dX6_drip_31 : decode cX6_drip 31 = .ok (.getfield 59, 3) := by decide +kernel
theorem dX6_drip_34 : decode cX6_drip 34 = .ok (.iload_n 1, 1) := by decide +kernel
theorem dX6_drip_35 : decode cX6_drip 35 = .ok (.iaload, 1) := by decide +kernel
theorem dX6_drip_36 : decode cX6_drip 36 = .ok (.bipush 12, 2) := by decide +kernel
theorem dX6_drip_38 : decode cX6_drip 38 = .ok (.if_icmp .ge 4, 3) := by decide +kernel
theorem dX6_drip_41 : decode cX6_drip 41 = .ok (.return_, 1) := by decide +kernel
theorem dX6_drip_42 : decode cX6_drip 42 = .ok (.aload_n 0, 1) := by decide +kernel
theorem dX6_drip_43 : decode cX6_drip 43 = .ok (.getfield 59, 3) := by decide +kernel
theorem dX6_drip_46 : decode cX6_drip 46 = .ok (.iload_n 1, 1) := by decide +kernel
theorem dX6_drip_47 : decode cX6_drip 47 = .ok (.dup2, 1) := by decide +kernel
theorem dX6_drip_48 : decode cX6_drip 48 = .ok (.iaload, 1) := by decide +kernel
theorem dX6_drip_49 : decode cX6_drip 49 = .ok (.bipush 12, 2) := by decide +kernel
theorem dX6_drip_51 : decode cX6_drip 51 = .ok (.isub, 1) := by decide +kernel
theorem dX6_drip_52 : decode cX6_drip 52 = .ok (.iastore, 1) := by decide +kernel
theorem dX6_drip_53 : decode cX6_drip 53 = .ok (.iconst 4, 1) := by decide +kernel
theorem dX6_drip_54 : decode cX6_drip 54 = .ok (.iload_n 1, 1) := by decide +kernel
theorem dX6_drip_55 : decode cX6_drip 55 = .ok (.imul, 1) := by decide +kernel
theorem dX6_drip_56 : decode cX6_drip 56 = .ok (.aload_n 0, 1) := by decide +kernel
theorem dX6_drip_57 : decode cX6_drip 57 = .ok (.getfield 56, 3) := by decide +kernel
theorem dX6_drip_60 : decode cX6_drip 60 = .ok (.iload_n 1, 1) := by decide +kernel
theorem dX6_drip_61 : decode cX6_drip 61 = .ok (.iaload, 1) := by decide +kernel
theorem dX6_drip_62 : decode cX6_drip 62 = .ok (.iadd, 1) := by decide +kernel
theorem dX6_drip_63 : decode cX6_drip 63 = .ok (.iconst 1, 1) := by decide +kernel
theorem dX6_drip_64 : decode cX6_drip 64 = .ok (.isub, 1) := by decide +kernel
theorem dX6_drip_65 : decode cX6_drip 65 = .ok (.istore_n 2, 1) := by decide +kernel
theorem dX6_drip_66 : decode cX6_drip 66 = .ok (.aload_n 0, 1) := by decide +kernel
theorem dX6_drip_67 : decode cX6_drip 67 = .ok (.getfield 71, 3) := by decide +kernel
theorem dX6_drip_70 : decode cX6_drip 70 = .ok (.iload_n 2, 1) := by decide +kernel
theorem dX6_drip_71 : decode cX6_drip 71 = .ok (.iaload, 1) := by decide +kernel
theorem dX6_drip_72 : decode cX6_drip 72 = .ok (.iconst 1, 1) := by decide +kernel
theorem dX6_drip_73 : decode cX6_drip 73 = .ok (.if_icmp .eq 9, 3) := by decide +kernel
theorem dX6_drip_76 : decode cX6_drip 76 = .ok (.iinc 2 (-1), 3) := by decide +kernel
theorem dX6_drip_79 : decode cX6_drip 79 = .ok (.goto (-13), 3) := by decide +kernel
theorem dX6_drip_82 : decode cX6_drip 82 = .ok (.aload_n 0, 1) := by decide +kernel
theorem dX6_drip_83 : decode cX6_drip 83 = .ok (.getfield 71, 3) := by decide +kernel
theorem dX6_drip_86 : decode cX6_drip 86 = .ok (.iload_n 2, 1) := by decide +kernel
theorem dX6_drip_87 : decode cX6_drip 87 = .ok (.iconst 2, 1) := by decide +kernel
theorem dX6_drip_88 : decode cX6_drip 88 = .ok (.iastore, 1) := by decide +kernel
theorem dX6_drip_89 : decode cX6_drip 89 = .ok (.return_, 1) := by decide +kernel
theorem dX6_makeReadable_0 : decode cX6_makeReadable 0 = .ok (.aload_n 0, 1) := by decide +kernel
theorem dX6_makeReadable_1 : decode cX6_makeReadable 1 = .ok (.dup, 1) := by decide +kernel
theorem dX6_makeReadable_2 : decode cX6_makeReadable 2 = .ok (.getfield 177, 3) := by decide +kernel
theorem dX6_makeReadable_5 : decode cX6_makeReadable 5 = .ok (.iconst 5, 1) := by decide +kernel
theorem dX6_makeReadable_6 : decode cX6_makeReadable 6 = .ok (.iadd, 1) := by decide +kernel
theorem dX6_makeReadable_7 : decode cX6_makeReadable 7 = .ok (.putfield 177, 3) := by decide +kernel
theorem dX6_makeReadable_10 : decode cX6_makeReadable 10 = .ok (.aload_n 0, 1) := by decide +kernel
theorem dX6_makeReadable_11 : decode cX6_makeReadable 11 = .ok (.getfield 71, 3) := by decide +kernel
theorem dX6_makeReadable_14 : decode cX6_makeReadable 14 = .ok (.iload_n 1, 1) := by decide +kernel
theorem dX6_makeReadable_15 : decode cX6_makeReadable 15 = .ok (.iconst 1, 1) := by decide +kernel
theorem dX6_makeReadable_16 : decode cX6_makeReadable 16 = .ok (.iastore, 1) := by decide +kernel
theorem dX6_makeReadable_17 : decode cX6_makeReadable 17 = .ok (.aload_n 0, 1) := by decide +kernel
theorem dX6_makeReadable_18 : decode cX6_makeReadable 18 = .ok (.getfield 74, 3) := by decide +kernel
theorem dX6_makeReadable_21 : decode cX6_makeReadable 21 = .ok (.iload_n 1, 1) := by decide +kernel
theorem dX6_makeReadable_22 : decode cX6_makeReadable 22 = .ok (.aload_n 0, 1) := by decide +kernel
theorem dX6_makeReadable_23 : decode cX6_makeReadable 23 = .ok (.getfield 102, 3) := by decide +kernel
theorem dX6_makeReadable_26 : decode cX6_makeReadable 26 = .ok (.iastore, 1) := by decide +kernel
theorem dX6_makeReadable_27 : decode cX6_makeReadable 27 = .ok (.return_, 1) := by decide +kernel
theorem dX6_paintLine_0 : decode cX6_paintLine 0 = .ok (.aload_n 0, 1) := by decide +kernel
theorem dX6_paintLine_1 : decode cX6_paintLine 1 = .ok (.getfield 49, 3) := by decide +kernel
theorem dX6_paintLine_4 : decode cX6_paintLine 4 = .ok (.iconst (-1), 1) := by decide +kernel
theorem dX6_paintLine_5 : decode cX6_paintLine 5 = .ok (.if_icmp .ne 21, 3) := by decide +kernel
theorem dX6_paintLine_8 : decode cX6_paintLine 8 = .ok (.aload_n 0, 1) := by decide +kernel
theorem dX6_paintLine_9 : decode cX6_paintLine 9 = .ok (.iconst 0, 1) := by decide +kernel
theorem dX6_paintLine_10 : decode cX6_paintLine 10 = .ok (.invokevirtual 189, 3) := by decide +kernel
theorem dX6_paintLine_13 : decode cX6_paintLine 13 = .ok (.istore_n 1, 1) := by decide +kernel
theorem dX6_paintLine_14 : decode cX6_paintLine 14 = .ok (.iload_n 1, 1) := by decide +kernel
theorem dX6_paintLine_15 : decode cX6_paintLine 15 = .ok (.iconst (-1), 1) := by decide +kernel
theorem dX6_paintLine_16 : decode cX6_paintLine 16 = .ok (.if_icmp .ne 5, 3) := by decide +kernel
theorem dX6_paintLine_19 : decode cX6_paintLine 19 = .ok (.iconst 0, 1) := by decide +kernel
theorem dX6_paintLine_20 : decode cX6_paintLine 20 = .ok (.ireturn, 1) := by decide +kernel
theorem dX6_paintLine_21 : decode cX6_paintLine 21 = .ok (.aload_n 0, 1) := by decide +kernel
theorem dX6_paintLine_22 : decode cX6_paintLine 22 = .ok (.iload_n 1, 1) := by decide +kernel
theorem dX6_paintLine_23 : decode cX6_paintLine 23 = .ok (.invokevirtual 195, 3) := by decide +kernel
theorem dX6_paintLine_26 : decode cX6_paintLine 26 = .ok (.aload_n 0, 1) := by decide +kernel
theorem dX6_paintLine_27 : decode cX6_paintLine 27 = .ok (.getfield 49, 3) := by decide +kernel
theorem dX6_paintLine_30 : decode cX6_paintLine 30 = .ok (.istore_n 1, 1) := by decide +kernel
theorem dX6_paintLine_31 : decode cX6_paintLine 31 = .ok (.iconst 4, 1) := by decide +kernel
theorem dX6_paintLine_32 : decode cX6_paintLine 32 = .ok (.iload_n 1, 1) := by decide +kernel
theorem dX6_paintLine_33 : decode cX6_paintLine 33 = .ok (.imul, 1) := by decide +kernel
theorem dX6_paintLine_34 : decode cX6_paintLine 34 = .ok (.aload_n 0, 1) := by decide +kernel
theorem dX6_paintLine_35 : decode cX6_paintLine 35 = .ok (.getfield 192, 3) := by decide +kernel
theorem dX6_paintLine_38 : decode cX6_paintLine 38 = .ok (.iadd, 1) := by decide +kernel
theorem dX6_paintLine_39 : decode cX6_paintLine 39 = .ok (.istore_n 2, 1) := by decide +kernel
theorem dX6_paintLine_40 : decode cX6_paintLine 40 = .ok (.aload_n 0, 1) := by decide +kernel
theorem dX6_paintLine_41 : decode cX6_paintLine 41 = .ok (.aload_n 0, 1) := by decide +kernel
theorem dX6_paintLine_42 : decode cX6_paintLine 42 = .ok (.getfield 62, 3) := by decide +kernel
theorem dX6_paintLine_45 : decode cX6_paintLine 45 = .ok (.iload_n 2, 1) := by decide +kernel
theorem dX6_paintLine_46 : decode cX6_paintLine 46 = .ok (.iaload, 1) := by decide +kernel
theorem dX6_paintLine_47 : decode cX6_paintLine 47 = .ok (.iconst 5, 1) := by decide +kernel
theorem dX6_paintLine_48 : decode cX6_paintLine 48 = .ok (.aload_n 0, 1) := by decide +kernel
theorem dX6_paintLine_49 : decode cX6_paintLine 49 = .ok (.getfield 22, 3) := by decide +kernel
theorem dX6_paintLine_52 : decode cX6_paintLine 52 = .ok (.iload_n 1, 1) := by decide +kernel
theorem dX6_paintLine_53 : decode cX6_paintLine 53 = .ok (.iaload, 1) := by decide +kernel
theorem dX6_paintLine_54 : decode cX6_paintLine 54 = .ok (.iadd, 1) := by decide +kernel
theorem dX6_paintLine_55 : decode cX6_paintLine 55 = .ok (.invokevirtual 198, 3) := by decide +kernel
theorem dX6_paintLine_58 : decode cX6_paintLine 58 = .ok (.ifCond .ne 5, 3) := by decide +kernel
theorem dX6_paintLine_61 : decode cX6_paintLine 61 = .ok (.iconst 0, 1) := by decide +kernel
theorem dX6_paintLine_62 : decode cX6_paintLine 62 = .ok (.ireturn, 1) := by decide +kernel
theorem dX6_paintLine_63 : decode cX6_paintLine 63 = .ok (.aload_n 0, 1) := by decide +kernel
theorem dX6_paintLine_64 : decode cX6_paintLine 64 = .ok (.iload_n 2, 1) := by decide +kernel
theorem dX6_paintLine_65 : decode cX6_paintLine 65 = .ok (.invokevirtual 201, 3) := by decide +kernel
theorem dX6_paintLine_68 : decode cX6_paintLine 68 = .ok (.aload_n 0, 1) := by decide +kernel
theorem dX6_paintLine_69 : decode cX6_paintLine 69 = .ok (.iload_n 1, 1) := by decide +kernel
theorem dX6_paintLine_70 : decode cX6_paintLine 70 = .ok (.invokevirtual 204, 3) := by decide +kernel
theorem dX6_paintLine_73 : decode cX6_paintLine 73 = .ok (.aload_n 0, 1) := by decide +kernel
theorem dX6_paintLine_74 : decode cX6_paintLine 74 = .ok (.aload_n 0, 1) := by decide +kernel
theorem dX6_paintLine_75 : decode cX6_paintLine 75 = .ok (.getfield 192, 3) := by decide +kernel
theorem dX6_paintLine_78 : decode cX6_paintLine 78 = .ok (.ifCond .ne 7, 3) := by decide +kernel
theorem dX6_paintLine_81 : decode cX6_paintLine 81 = .ok (.iconst (-1), 1) := by decide +kernel
theorem dX6_paintLine_82 : decode cX6_paintLine 82 = .ok (.goto 4, 3) := by decide +kernel
theorem dX6_paintLine_85 : decode cX6_paintLine 85 = .ok (.iload_n 1, 1) := by decide +kernel
theorem dX6_paintLine_86 : decode cX6_paintLine 86 = .ok (.putfield 49, 3) := by decide +kernel
theorem dX6_paintLine_89 : decode cX6_paintLine 89 = .ok (.aload_n 0, 1) := by decide +kernel
theorem dX6_paintLine_90 : decode cX6_paintLine 90 = .ok (.dup, 1) := by decide +kernel
theorem dX6_paintLine_91 : decode cX6_paintLine 91 = .ok (.getfield 192, 3) := by decide +kernel
theorem dX6_paintLine_94 : decode cX6_paintLine 94 = .ok (.iconst 1, 1) := by decide +kernel
theorem dX6_paintLine_95 : decode cX6_paintLine 95 = .ok (.isub, 1) := by decide +kernel
theorem dX6_paintLine_96 : decode cX6_paintLine 96 = .ok (.putfield 192, 3) := by decide +kernel
theorem dX6_paintLine_99 : decode cX6_paintLine 99 = .ok (.iconst 1, 1) := by decide +kernel
theorem dX6_paintLine_100 : decode cX6_paintLine 100 = .ok (.ireturn, 1) := by decide +kernel
theorem dX6_paint_0 : decode cX6_paint 0 = .ok (.aload_n 0, 1) := by decide +kernel
theorem dX6_paint_1 : decode cX6_paint 1 = .ok (.iload_n 1, 1) := by decide +kernel
theorem dX6_paint_2 : decode cX6_paint 2 = .ok (.iconst 1, 1) := by decide +kernel
theorem dX6_paint_3 : decode cX6_paint 3 = .ok (.bipush 50, 2) := by decide +kernel
theorem dX6_paint_5 : decode cX6_paint 5 = .ok (.invokestatic 89, 3) := by decide +kernel
theorem dX6_paint_8 : decode cX6_paint 8 = .ok (.iconst 1, 1) := by decide +kernel
theorem dX6_paint_9 : decode cX6_paint 9 = .ok (.invokevirtual 93, 3) := by decide +kernel
theorem dX6_paint_12 : decode cX6_paint 12 = .ok (.ifCond .ne 5, 3) := by decide +kernel
theorem dX6_paint_15 : decode cX6_paint 15 = .ok (.iconst 0, 1) := by decide +kernel
theorem dX6_paint_16 : decode cX6_paint 16 = .ok (.ireturn, 1) := by decide +kernel
theorem dX6_paint_17 : decode cX6_paint 17 = .ok (.iconst 0, 1) := by decide +kernel
theorem dX6_paint_18 : decode cX6_paint 18 = .ok (.istore_n 2, 1) := by decide +kernel
theorem dX6_paint_19 : decode cX6_paint 19 = .ok (.iload_n 2, 1) := by decide +kernel
theorem dX6_paint_20 : decode cX6_paint 20 = .ok (.iload_n 1, 1) := by decide +kernel
theorem dX6_paint_21 : decode cX6_paint 21 = .ok (.if_icmp .ge 16, 3) := by decide +kernel
theorem dX6_paint_24 : decode cX6_paint 24 = .ok (.aload_n 0, 1) := by decide +kernel
theorem dX6_paint_25 : decode cX6_paint 25 = .ok (.invokevirtual 207, 3) := by decide +kernel
theorem dX6_paint_28 : decode cX6_paint 28 = .ok (.ifCond .eq 9, 3) := by decide +kernel
theorem dX6_paint_31 : decode cX6_paint 31 = .ok (.iinc 2 1, 3) := by decide +kernel
theorem dX6_paint_34 : decode cX6_paint 34 = .ok (.goto (-15), 3) := by decide +kernel
theorem dX6_paint_37 : decode cX6_paint 37 = .ok (.iload_n 2, 1) := by decide +kernel
theorem dX6_paint_38 : decode cX6_paint 38 = .ok (.ireturn, 1) := by decide +kernel
theorem dX6_giveUpJob_0 : decode cX6_giveUpJob 0 = .ok (.aload_n 0, 1) := by decide +kernel
theorem dX6_giveUpJob_1 : decode cX6_giveUpJob 1 = .ok (.aload_n 0, 1) := by decide +kernel
theorem dX6_giveUpJob_2 : decode cX6_giveUpJob 2 = .ok (.getfield 49, 3) := by decide +kernel
theorem dX6_giveUpJob_5 : decode cX6_giveUpJob 5 = .ok (.iconst (-1), 1) := by decide +kernel
theorem dX6_giveUpJob_6 : decode cX6_giveUpJob 6 = .ok (.if_icmp .eq 7, 3) := by decide +kernel
theorem dX6_giveUpJob_9 : decode cX6_giveUpJob 9 = .ok (.iconst 1, 1) := by decide +kernel
theorem dX6_giveUpJob_10 : decode cX6_giveUpJob 10 = .ok (.goto 4, 3) := by decide +kernel
theorem dX6_giveUpJob_13 : decode cX6_giveUpJob 13 = .ok (.iconst 0, 1) := by decide +kernel
theorem dX6_giveUpJob_14 : decode cX6_giveUpJob 14 = .ok (.iconst 1, 1) := by decide +kernel
theorem dX6_giveUpJob_15 : decode cX6_giveUpJob 15 = .ok (.invokevirtual 93, 3) := by decide +kernel
theorem dX6_giveUpJob_18 : decode cX6_giveUpJob 18 = .ok (.ifCond .ne 5, 3) := by decide +kernel
theorem dX6_giveUpJob_21 : decode cX6_giveUpJob 21 = .ok (.iconst 0, 1) := by decide +kernel
theorem dX6_giveUpJob_22 : decode cX6_giveUpJob 22 = .ok (.ireturn, 1) := by decide +kernel
theorem dX6_giveUpJob_23 : decode cX6_giveUpJob 23 = .ok (.aload_n 0, 1) := by decide +kernel
theorem dX6_giveUpJob_24 : decode cX6_giveUpJob 24 = .ok (.iconst (-1), 1) := by decide +kernel
theorem dX6_giveUpJob_25 : decode cX6_giveUpJob 25 = .ok (.putfield 49, 3) := by decide +kernel
theorem dX6_giveUpJob_28 : decode cX6_giveUpJob 28 = .ok (.aload_n 0, 1) := by decide +kernel
theorem dX6_giveUpJob_29 : decode cX6_giveUpJob 29 = .ok (.getfield 192, 3) := by decide +kernel
theorem dX6_giveUpJob_32 : decode cX6_giveUpJob 32 = .ok (.iconst 1, 1) := by decide +kernel
theorem dX6_giveUpJob_33 : decode cX6_giveUpJob 33 = .ok (.iadd, 1) := by decide +kernel
theorem dX6_giveUpJob_34 : decode cX6_giveUpJob 34 = .ok (.ireturn, 1) := by decide +kernel
theorem dX6_touchUp_0 : decode cX6_touchUp 0 = .ok (.aload_n 0, 1) := by decide +kernel
theorem dX6_touchUp_1 : decode cX6_touchUp 1 = .ok (.iload_n 1, 1) := by decide +kernel
theorem dX6_touchUp_2 : decode cX6_touchUp 2 = .ok (.invokevirtual 125, 3) := by decide +kernel
theorem dX6_touchUp_5 : decode cX6_touchUp 5 = .ok (.ifCond .ne 5, 3) := by decide +kernel
theorem dX6_touchUp_8 : decode cX6_touchUp 8 = .ok (.iconst 0, 1) := by decide +kernel
theorem dX6_touchUp_9 : decode cX6_touchUp 9 = .ok (.ireturn, 1) := by decide +kernel
theorem dX6_touchUp_10 : decode cX6_touchUp 10 = .ok (.iconst 0, 1) := by decide +kernel
theorem dX6_touchUp_11 : decode cX6_touchUp 11 = .ok (.istore_n 2, 1) := by decide +kernel
theorem dX6_touchUp_12 : decode cX6_touchUp 12 = .ok (.iload_n 2, 1) := by decide +kernel
theorem dX6_touchUp_13 : decode cX6_touchUp 13 = .ok (.aload_n 0, 1) := by decide +kernel
theorem dX6_touchUp_14 : decode cX6_touchUp 14 = .ok (.getfield 56, 3) := by decide +kernel
theorem dX6_touchUp_17 : decode cX6_touchUp 17 = .ok (.iload_n 1, 1) := by decide +kernel
theorem dX6_touchUp_18 : decode cX6_touchUp 18 = .ok (.iaload, 1) := by decide +kernel
theorem dX6_touchUp_19 : decode cX6_touchUp 19 = .ok (.if_icmp .ge 37, 3) := by decide +kernel
theorem dX6_touchUp_22 : decode cX6_touchUp 22 = .ok (.aload_n 0, 1) := by decide +kernel
theorem dX6_touchUp_23 : decode cX6_touchUp 23 = .ok (.getfield 71, 3) := by decide +kernel
theorem dX6_touchUp_26 : decode cX6_touchUp 26 = .ok (.iconst 4, 1) := by decide +kernel
theorem dX6_touchUp_27 : decode cX6_touchUp 27 = .ok (.iload_n 1, 1) := by decide +kernel
theorem dX6_touchUp_28 : decode cX6_touchUp 28 = .ok (.imul, 1) := by decide +kernel
theorem dX6_touchUp_29 : decode cX6_touchUp 29 = .ok (.iload_n 2, 1) := by decide +kernel
theorem dX6_touchUp_30 : decode cX6_touchUp 30 = .ok (.iadd, 1) := by decide +kernel
theorem dX6_touchUp_31 : decode cX6_touchUp 31 = .ok (.iaload, 1) := by decide +kernel
theorem dX6_touchUp_32 : decode cX6_touchUp 32 = .ok (.iconst 2, 1) := by decide +kernel
theorem dX6_touchUp_33 : decode cX6_touchUp 33 = .ok (.if_icmp .eq 23, 3) := by decide +kernel
theorem dX6_touchUp_36 : decode cX6_touchUp 36 = .ok (.aload_n 0, 1) := by decide +kernel
theorem dX6_touchUp_37 : decode cX6_touchUp 37 = .ok (.getfield 71, 3) := by decide +kernel
theorem dX6_touchUp_40 : decode cX6_touchUp 40 = .ok (.iconst 4, 1) := by decide +kernel
theorem dX6_touchUp_41 : decode cX6_touchUp 41 = .ok (.iload_n 1, 1) := by decide +kernel
theorem dX6_touchUp_42 : decode cX6_touchUp 42 = .ok (.imul, 1) := by decide +kernel
theorem dX6_touchUp_43 : decode cX6_touchUp 43 = .ok (.iload_n 2, 1) := by decide +kernel
theorem dX6_touchUp_44 : decode cX6_touchUp 44 = .ok (.iadd, 1) := by decide +kernel
theorem dX6_touchUp_45 : decode cX6_touchUp 45 = .ok (.iaload, 1) := by decide +kernel
theorem dX6_touchUp_46 : decode cX6_touchUp 46 = .ok (.iconst 3, 1) := by decide +kernel
theorem dX6_touchUp_47 : decode cX6_touchUp 47 = .ok (.if_icmp .eq 9, 3) := by decide +kernel
theorem dX6_touchUp_50 : decode cX6_touchUp 50 = .ok (.iinc 2 1, 3) := by decide +kernel
theorem dX6_touchUp_53 : decode cX6_touchUp 53 = .ok (.goto (-41), 3) := by decide +kernel
theorem dX6_touchUp_56 : decode cX6_touchUp 56 = .ok (.iload_n 2, 1) := by decide +kernel
theorem dX6_touchUp_57 : decode cX6_touchUp 57 = .ok (.aload_n 0, 1) := by decide +kernel
theorem dX6_touchUp_58 : decode cX6_touchUp 58 = .ok (.getfield 56, 3) := by decide +kernel
theorem dX6_touchUp_61 : decode cX6_touchUp 61 = .ok (.iload_n 1, 1) := by decide +kernel
theorem dX6_touchUp_62 : decode cX6_touchUp 62 = .ok (.iaload, 1) := by decide +kernel
theorem dX6_touchUp_63 : decode cX6_touchUp 63 = .ok (.if_icmp .ne 9, 3) := by decide +kernel
theorem dX6_touchUp_66 : decode cX6_touchUp 66 = .ok (.aload_n 0, 1) := by decide +kernel
theorem dX6_touchUp_67 : decode cX6_touchUp 67 = .ok (.iconst 2, 1) := by decide +kernel
theorem dX6_touchUp_68 : decode cX6_touchUp 68 = .ok (.invokevirtual 98, 3) := by decide +kernel
theorem dX6_touchUp_71 : decode cX6_touchUp 71 = .ok (.ireturn, 1) := by decide +kernel
theorem dX6_touchUp_72 : decode cX6_touchUp 72 = .ok (.aload_n 0, 1) := by decide +kernel
theorem dX6_touchUp_73 : decode cX6_touchUp 73 = .ok (.aload_n 0, 1) := by decide +kernel
theorem dX6_touchUp_74 : decode cX6_touchUp 74 = .ok (.getfield 62, 3) := by decide +kernel
theorem dX6_touchUp_77 : decode cX6_touchUp 77 = .ok (.iconst 4, 1) := by decide +kernel
theorem dX6_touchUp_78 : decode cX6_touchUp 78 = .ok (.iload_n 1, 1) := by decide +kernel
theorem dX6_touchUp_79 : decode cX6_touchUp 79 = .ok (.imul, 1) := by decide +kernel
theorem dX6_touchUp_80 : decode cX6_touchUp 80 = .ok (.iload_n 2, 1) := by decide +kernel
theorem dX6_touchUp_81 : decode cX6_touchUp 81 = .ok (.iadd, 1) := by decide +kernel
theorem dX6_touchUp_82 : decode cX6_touchUp 82 = .ok (.iaload, 1) := by decide +kernel
theorem dX6_touchUp_83 : decode cX6_touchUp 83 = .ok (.iconst 5, 1) := by decide +kernel
theorem dX6_touchUp_84 : decode cX6_touchUp 84 = .ok (.invokevirtual 198, 3) := by decide +kernel
theorem dX6_touchUp_87 : decode cX6_touchUp 87 = .ok (.ifCond .ne 9, 3) := by decide +kernel
theorem dX6_touchUp_90 : decode cX6_touchUp 90 = .ok (.aload_n 0, 1) := by decide +kernel
theorem dX6_touchUp_91 : decode cX6_touchUp 91 = .ok (.iconst 3, 1) := by decide +kernel
theorem dX6_touchUp_92 : decode cX6_touchUp 92 = .ok (.invokevirtual 98, 3) := by decide +kernel
theorem dX6_touchUp_95 : decode cX6_touchUp 95 = .ok (.ireturn, 1) := by decide +kernel
theorem dX6_touchUp_96 : decode cX6_touchUp 96 = .ok (.aload_n 0, 1) := by decide +kernel
theorem dX6_touchUp_97 : decode cX6_touchUp 97 = .ok (.iconst 4, 1) := by decide +kernel
theorem dX6_touchUp_98 : decode cX6_touchUp 98 = .ok (.iload_n 1, 1) := by decide +kernel
theorem dX6_touchUp_99 : decode cX6_touchUp 99 = .ok (.imul, 1) := by decide +kernel
theorem dX6_touchUp_100 : decode cX6_touchUp 100 = .ok (.iload_n 2, 1) := by decide +kernel
theorem dX6_touchUp_101 : decode cX6_touchUp 101 = .ok (.iadd, 1) := by decide +kernel
theorem dX6_touchUp_102 : decode cX6_touchUp 102 = .ok (.invokevirtual 201, 3) := by decide +kernel
theorem dX6_touchUp_105 : decode cX6_touchUp 105 = .ok (.iload_n 2, 1) := by decide +kernel
theorem dX6_touchUp_106 : decode cX6_touchUp 106 = .ok (.ireturn, 1) := by decide +kernel
theorem dX6_boardDay_0 : decode cX6_boardDay 0 = .ok (.aload_n 0, 1) := by decide +kernel
theorem dX6_boardDay_1 : decode cX6_boardDay 1 = .ok (.iload_n 1, 1) := by decide +kernel
theorem dX6_boardDay_2 : decode cX6_boardDay 2 = .ok (.invokevirtual 125, 3) := by decide +kernel
theorem dX6_boardDay_5 : decode cX6_boardDay 5 = .ok (.ifCond .eq 12, 3) := by decide +kernel
theorem dX6_boardDay_8 : decode cX6_boardDay 8 = .ok (.aload_n 0, 1) := by decide +kernel
theorem dX6_boardDay_9 : decode cX6_boardDay 9 = .ok (.getfield 53, 3) := by decide +kernel
theorem dX6_boardDay_12 : decode cX6_boardDay 12 = .ok (.iload_n 1, 1) := by decide +kernel
theorem dX6_boardDay_13 : decode cX6_boardDay 13 = .ok (.iaload, 1) := by decide +kernel
theorem dX6_boardDay_14 : decode cX6_boardDay 14 = .ok (.goto 4, 3) := by decide +kernel
theorem dX6_boardDay_17 : decode cX6_boardDay 17 = .ok (.iconst 0, 1) := by decide +kernel
theorem dX6_boardDay_18 : decode cX6_boardDay 18 = .ok (.ireturn, 1) := by decide +kernel
theorem dX6_lineCount_0 : decode cX6_lineCount 0 = .ok (.aload_n 0, 1) := by decide +kernel
theorem dX6_lineCount_1 : decode cX6_lineCount 1 = .ok (.iload_n 1, 1) := by decide +kernel
theorem dX6_lineCount_2 : decode cX6_lineCount 2 = .ok (.invokevirtual 125, 3) := by decide +kernel
theorem dX6_lineCount_5 : decode cX6_lineCount 5 = .ok (.ifCond .eq 12, 3) := by decide +kernel
theorem dX6_lineCount_8 : decode cX6_lineCount 8 = .ok (.aload_n 0, 1) := by decide +kernel
theorem dX6_lineCount_9 : decode cX6_lineCount 9 = .ok (.getfield 56, 3) := by decide +kernel
theorem dX6_lineCount_12 : decode cX6_lineCount 12 = .ok (.iload_n 1, 1) := by decide +kernel
theorem dX6_lineCount_13 : decode cX6_lineCount 13 = .ok (.iaload, 1) := by decide +kernel
theorem dX6_lineCount_14 : decode cX6_lineCount 14 = .ok (.goto 4, 3) := by decide +kernel
theorem dX6_lineCount_17 : decode cX6_lineCount 17 = .ok (.iconst 0, 1) := by decide +kernel
theorem dX6_lineCount_18 : decode cX6_lineCount 18 = .ok (.ireturn, 1) := by decide +kernel
theorem dX6_isLine_0 : decode cX6_isLine 0 = .ok (.aload_n 0, 1) := by decide +kernel
theorem dX6_isLine_1 : decode cX6_isLine 1 = .ok (.iload_n 1, 1) := by decide +kernel
theorem dX6_isLine_2 : decode cX6_isLine 2 = .ok (.invokevirtual 125, 3) := by decide +kernel
theorem dX6_isLine_5 : decode cX6_isLine 5 = .ok (.ifCond .eq 28, 3) := by decide +kernel
theorem dX6_isLine_8 : decode cX6_isLine 8 = .ok (.aload_n 0, 1) := by decide +kernel
theorem dX6_isLine_9 : decode cX6_isLine 9 = .ok (.iload_n 2, 1) := by decide +kernel
theorem dX6_isLine_10 : decode cX6_isLine 10 = .ok (.iconst 0, 1) := by decide +kernel
theorem dX6_isLine_11 : decode cX6_isLine 11 = .ok (.aload_n 0, 1) := by decide +kernel
theorem dX6_isLine_12 : decode cX6_isLine 12 = .ok (.getfield 56, 3) := by decide +kernel
theorem dX6_isLine_15 : decode cX6_isLine 15 = .ok (.iload_n 1, 1) := by decide +kernel
theorem dX6_isLine_16 : decode cX6_isLine 16 = .ok (.iaload, 1) := by decide +kernel
theorem dX6_isLine_17 : decode cX6_isLine 17 = .ok (.iconst 1, 1) := by decide +kernel
theorem dX6_isLine_18 : decode cX6_isLine 18 = .ok (.isub, 1) := by decide +kernel
theorem dX6_isLine_19 : decode cX6_isLine 19 = .ok (.invokestatic 89, 3) := by decide +kernel
theorem dX6_isLine_22 : decode cX6_isLine 22 = .ok (.iconst 1, 1) := by decide +kernel
theorem dX6_isLine_23 : decode cX6_isLine 23 = .ok (.invokevirtual 93, 3) := by decide +kernel
theorem dX6_isLine_26 : decode cX6_isLine 26 = .ok (.ifCond .eq 7, 3) := by decide +kernel
theorem dX6_isLine_29 : decode cX6_isLine 29 = .ok (.iconst 1, 1) := by decide +kernel
theorem dX6_isLine_30 : decode cX6_isLine 30 = .ok (.goto 4, 3) := by decide +kernel
theorem dX6_isLine_33 : decode cX6_isLine 33 = .ok (.iconst 0, 1) := by decide +kernel
theorem dX6_isLine_34 : decode cX6_isLine 34 = .ok (.ireturn, 1) := by decide +kernel
theorem dX6_lineState_0 : decode cX6_lineState 0 = .ok (.aload_n 0, 1) := by decide +kernel
theorem dX6_lineState_1 : decode cX6_lineState 1 = .ok (.iload_n 1, 1) := by decide +kernel
theorem dX6_lineState_2 : decode cX6_lineState 2 = .ok (.iload_n 2, 1) := by decide +kernel
theorem dX6_lineState_3 : decode cX6_lineState 3 = .ok (.invokevirtual 211, 3) := by decide +kernel
theorem dX6_lineState_6 : decode cX6_lineState 6 = .ok (.ifCond .eq 16, 3) := by decide +kernel
theorem dX6_lineState_9 : decode cX6_lineState 9 = .ok (.aload_n 0, 1) := by decide +kernel
theorem dX6_lineState_10 : decode cX6_lineState 10 = .ok (.getfield 71, 3) := by decide +kernel
theorem dX6_lineState_13 : decode cX6_lineState 13 = .ok (.iconst 4, 1) := by decide +kernel
theorem dX6_lineState_14 : decode cX6_lineState 14 = .ok (.iload_n 1, 1) := by decide +kernel
theorem dX6_lineState_15 : decode cX6_lineState 15 = .ok (.imul, 1) := by decide +kernel
theorem dX6_lineState_16 : decode cX6_lineState 16 = .ok (.iload_n 2, 1) := by decide +kernel
theorem dX6_lineState_17 : decode cX6_lineState 17 = .ok (.iadd, 1) := by decide +kernel
theorem dX6_lineState_18 : decode cX6_lineState 18 = .ok (.iaload, 1) := by decide +kernel
theorem dX6_lineState_19 : decode cX6_lineState 19 = .ok (.goto 4, 3) := by decide +kernel
theorem dX6_lineState_22 : decode cX6_lineState 22 = .ok (.iconst 0, 1) := by decide +kernel
theorem dX6_lineState_23 : decode cX6_lineState 23 = .ok (.ireturn, 1) := by decide +kernel
theorem dX6_ofLine_0 : decode cX6_ofLine 0 = .ok (.aload_n 0, 1) := by decide +kernel
theorem dX6_ofLine_1 : decode cX6_ofLine 1 = .ok (.iload_n 2, 1) := by decide +kernel
theorem dX6_ofLine_2 : decode cX6_ofLine 2 = .ok (.iload_n 3, 1) := by decide +kernel
theorem dX6_ofLine_3 : decode cX6_ofLine 3 = .ok (.invokevirtual 211, 3) := by decide +kernel
theorem dX6_ofLine_6 : decode cX6_ofLine 6 = .ok (.ifCond .ne 5, 3) := by decide +kernel
theorem dX6_ofLine_9 : decode cX6_ofLine 9 = .ok (.iconst 0, 1) := by decide +kernel
theorem dX6_ofLine_10 : decode cX6_ofLine 10 = .ok (.ireturn, 1) := by decide +kernel
theorem dX6_ofLine_11 : decode cX6_ofLine 11 = .ok (.aload_n 0, 1) := by decide +kernel
theorem dX6_ofLine_12 : decode cX6_ofLine 12 = .ok (.getfield 71, 3) := by decide +kernel
theorem dX6_ofLine_15 : decode cX6_ofLine 15 = .ok (.iconst 4, 1) := by decide +kernel
theorem dX6_ofLine_16 : decode cX6_ofLine 16 = .ok (.iload_n 2, 1) := by decide +kernel
theorem dX6_ofLine_17 : decode cX6_ofLine 17 = .ok (.imul, 1) := by decide +kernel
theorem dX6_ofLine_18 : decode cX6_ofLine 18 = .ok (.iload_n 3, 1) := by decide +kernel
theorem dX6_ofLine_19 : decode cX6_ofLine 19 = .ok (.iadd, 1) := by decide +kernel
theorem dX6_ofLine_20 : decode cX6_ofLine 20 = .ok (.iaload, 1) := by decide +kernel
theorem dX6_ofLine_21 : decode cX6_ofLine 21 = .ok (.ifCond .ne 11, 3) := by decide +kernel
theorem dX6_ofLine_24 : decode cX6_ofLine 24 = .ok (.aload_n 0, 1) := by decide +kernel
theorem dX6_ofLine_25 : decode cX6_ofLine 25 = .ok (.iconst 2, 1) := by decide +kernel
theorem dX6_ofLine_26 : decode cX6_ofLine 26 = .ok (.invokevirtual 98, 3) := by decide +kernel
theorem dX6_ofLine_29 : decode cX6_ofLine 29 = .ok (.goto 10, 3) := by decide +kernel
theorem dX6_ofLine_32 : decode cX6_ofLine 32 = .ok (.aload_n 1, 1) := by decide +kernel
theorem dX6_ofLine_33 : decode cX6_ofLine 33 = .ok (.iconst 4, 1) := by decide +kernel
theorem dX6_ofLine_34 : decode cX6_ofLine 34 = .ok (.iload_n 2, 1) := by decide +kernel
theorem dX6_ofLine_35 : decode cX6_ofLine 35 = .ok (.imul, 1) := by decide +kernel
theorem dX6_ofLine_36 : decode cX6_ofLine 36 = .ok (.iload_n 3, 1) := by decide +kernel
theorem dX6_ofLine_37 : decode cX6_ofLine 37 = .ok (.iadd, 1) := by decide +kernel
theorem dX6_ofLine_38 : decode cX6_ofLine 38 = .ok (.iaload, 1) := by decide +kernel
theorem dX6_ofLine_39 : decode cX6_ofLine 39 = .ok (.ireturn, 1) := by decide +kernel
theorem dX6_lineMinute_0 : decode cX6_lineMinute 0 = .ok (.aload_n 0, 1) := by decide +kernel
theorem dX6_lineMinute_1 : decode cX6_lineMinute 1 = .ok (.aload_n 0, 1) := by decide +kernel
theorem dX6_lineMinute_2 : decode cX6_lineMinute 2 = .ok (.getfield 65, 3) := by decide +kernel
theorem dX6_lineMinute_5 : decode cX6_lineMinute 5 = .ok (.iload_n 1, 1) := by decide +kernel
theorem dX6_lineMinute_6 : decode cX6_lineMinute 6 = .ok (.iload_n 2, 1) := by decide +kernel
theorem dX6_lineMinute_7 : decode cX6_lineMinute 7 = .ok (.invokevirtual 214, 3) := by decide +kernel
theorem dX6_lineMinute_10 : decode cX6_lineMinute 10 = .ok (.ireturn, 1) := by decide +kernel
theorem dX6_lineHeight_0 : decode cX6_lineHeight 0 = .ok (.aload_n 0, 1) := by decide +kernel
theorem dX6_lineHeight_1 : decode cX6_lineHeight 1 = .ok (.aload_n 0, 1) := by decide +kernel
theorem dX6_lineHeight_2 : decode cX6_lineHeight 2 = .ok (.getfield 68, 3) := by decide +kernel
theorem dX6_lineHeight_5 : decode cX6_lineHeight 5 = .ok (.iload_n 1, 1) := by decide +kernel
theorem dX6_lineHeight_6 : decode cX6_lineHeight 6 = .ok (.iload_n 2, 1) := by decide +kernel
theorem dX6_lineHeight_7 : decode cX6_lineHeight 7 = .ok (.invokevirtual 214, 3) := by decide +kernel
theorem dX6_lineHeight_10 : decode cX6_lineHeight 10 = .ok (.ireturn, 1) := by decide +kernel
theorem dX6_dripsOf_0 : decode cX6_dripsOf 0 = .ok (.aload_n 0, 1) := by decide +kernel
theorem dX6_dripsOf_1 : decode cX6_dripsOf 1 = .ok (.iload_n 1, 1) := by decide +kernel
theorem dX6_dripsOf_2 : decode cX6_dripsOf 2 = .ok (.invokevirtual 125, 3) := by decide +kernel
theorem dX6_dripsOf_5 : decode cX6_dripsOf 5 = .ok (.ifCond .eq 12, 3) := by decide +kernel
theorem dX6_dripsOf_8 : decode cX6_dripsOf 8 = .ok (.aload_n 0, 1) := by decide +kernel
theorem dX6_dripsOf_9 : decode cX6_dripsOf 9 = .ok (.getfield 59, 3) := by decide +kernel
theorem dX6_dripsOf_12 : decode cX6_dripsOf 12 = .ok (.iload_n 1, 1) := by decide +kernel
theorem dX6_dripsOf_13 : decode cX6_dripsOf 13 = .ok (.iaload, 1) := by decide +kernel
theorem dX6_dripsOf_14 : decode cX6_dripsOf 14 = .ok (.goto 4, 3) := by decide +kernel
theorem dX6_dripsOf_17 : decode cX6_dripsOf 17 = .ok (.iconst 0, 1) := by decide +kernel
theorem dX6_dripsOf_18 : decode cX6_dripsOf 18 = .ok (.ireturn, 1) := by decide +kernel
theorem dX6_unreadable_0 : decode cX6_unreadable 0 = .ok (.iconst 0, 1) := by decide +kernel
theorem dX6_unreadable_1 : decode cX6_unreadable 1 = .ok (.istore_n 2, 1) := by decide +kernel
theorem dX6_unreadable_2 : decode cX6_unreadable 2 = .ok (.iconst 0, 1) := by decide +kernel
theorem dX6_unreadable_3 : decode cX6_unreadable 3 = .ok (.istore_n 3, 1) := by decide +kernel
theorem dX6_unreadable_4 : decode cX6_unreadable 4 = .ok (.iload_n 3, 1) := by decide +kernel
theorem dX6_unreadable_5 : decode cX6_unreadable 5 = .ok (.aload_n 0, 1) := by decide +kernel
theorem dX6_unreadable_6 : decode cX6_unreadable 6 = .ok (.getfield 56, 3) := by decide +kernel
theorem dX6_unreadable_9 : decode cX6_unreadable 9 = .ok (.iload_n 1, 1) := by decide +kernel
theorem dX6_unreadable_10 : decode cX6_unreadable 10 = .ok (.iaload, 1) := by decide +kernel
theorem dX6_unreadable_11 : decode cX6_unreadable 11 = .ok (.if_icmp .ge 33, 3) := by decide +kernel
theorem dX6_unreadable_14 : decode cX6_unreadable 14 = .ok (.iload_n 2, 1) := by decide +kernel
theorem dX6_unreadable_15 : decode cX6_unreadable 15 = .ok (.aload_n 0, 1) := by decide +kernel
theorem dX6_unreadable_16 : decode cX6_unreadable 16 = .ok (.getfield 71, 3) := by decide +kernel
theorem dX6_unreadable_19 : decode cX6_unreadable 19 = .ok (.iconst 4, 1) := by decide +kernel
theorem dX6_unreadable_20 : decode cX6_unreadable 20 = .ok (.iload_n 1, 1) := by decide +kernel
theorem dX6_unreadable_21 : decode cX6_unreadable 21 = .ok (.imul, 1) := by decide +kernel
theorem dX6_unreadable_22 : decode cX6_unreadable 22 = .ok (.iload_n 3, 1) := by decide +kernel
theorem dX6_unreadable_23 : decode cX6_unreadable 23 = .ok (.iadd, 1) := by decide +kernel
theorem dX6_unreadable_24 : decode cX6_unreadable 24 = .ok (.iaload, 1) := by decide +kernel
theorem dX6_unreadable_25 : decode cX6_unreadable 25 = .ok (.iconst 1, 1) := by decide +kernel
theorem dX6_unreadable_26 : decode cX6_unreadable 26 = .ok (.if_icmp .ne 7, 3) := by decide +kernel
theorem dX6_unreadable_29 : decode cX6_unreadable 29 = .ok (.iconst 0, 1) := by decide +kernel
theorem dX6_unreadable_30 : decode cX6_unreadable 30 = .ok (.goto 6, 3) := by decide +kernel
theorem dX6_unreadable_33 : decode cX6_unreadable 33 = .ok (.iconst 1, 1) := by decide +kernel
theorem dX6_unreadable_34 : decode cX6_unreadable 34 = .ok (.iload_n 3, 1) := by decide +kernel
theorem dX6_unreadable_35 : decode cX6_unreadable 35 = .ok (.ishl, 1) := by decide +kernel
theorem dX6_unreadable_36 : decode cX6_unreadable 36 = .ok (.ior, 1) := by decide +kernel
theorem dX6_unreadable_37 : decode cX6_unreadable 37 = .ok (.istore_n 2, 1) := by decide +kernel
theorem dX6_unreadable_38 : decode cX6_unreadable 38 = .ok (.iinc 3 1, 3) := by decide +kernel
theorem dX6_unreadable_41 : decode cX6_unreadable 41 = .ok (.goto (-37), 3) := by decide +kernel
theorem dX6_unreadable_44 : decode cX6_unreadable 44 = .ok (.iload_n 2, 1) := by decide +kernel
theorem dX6_unreadable_45 : decode cX6_unreadable 45 = .ok (.ireturn, 1) := by decide +kernel
theorem dX6_unreadableLines_0 : decode cX6_unreadableLines 0 = .ok (.aload_n 0, 1) := by decide +kernel
theorem dX6_unreadableLines_1 : decode cX6_unreadableLines 1 = .ok (.iload_n 1, 1) := by decide +kernel
theorem dX6_unreadableLines_2 : decode cX6_unreadableLines 2 = .ok (.invokevirtual 125, 3) := by decide +kernel
theorem dX6_unreadableLines_5 : decode cX6_unreadableLines 5 = .ok (.ifCond .eq 11, 3) := by decide +kernel
theorem dX6_unreadableLines_8 : decode cX6_unreadableLines 8 = .ok (.aload_n 0, 1) := by decide +kernel
theorem dX6_unreadableLines_9 : decode cX6_unreadableLines 9 = .ok (.iload_n 1, 1) := by decide +kernel
theorem dX6_unreadableLines_10 : decode cX6_unreadableLines 10 = .ok (.invokevirtual 217, 3) := by decide +kernel
theorem dX6_unreadableLines_13 : decode cX6_unreadableLines 13 = .ok (.goto 4, 3) := by decide +kernel
theorem dX6_unreadableLines_16 : decode cX6_unreadableLines 16 = .ok (.iconst 0, 1) := by decide +kernel
theorem dX6_unreadableLines_17 : decode cX6_unreadableLines 17 = .ok (.ireturn, 1) := by decide +kernel
theorem dX6_right_0 : decode cX6_right 0 = .ok (.aload_n 0, 1) := by decide +kernel
theorem dX6_right_1 : decode cX6_right 1 = .ok (.getfield 53, 3) := by decide +kernel
theorem dX6_right_4 : decode cX6_right 4 = .ok (.iload_n 1, 1) := by decide +kernel
theorem dX6_right_5 : decode cX6_right 5 = .ok (.iaload, 1) := by decide +kernel
theorem dX6_right_6 : decode cX6_right 6 = .ok (.aload_n 0, 1) := by decide +kernel
theorem dX6_right_7 : decode cX6_right 7 = .ok (.getfield 102, 3) := by decide +kernel
theorem dX6_right_10 : decode cX6_right 10 = .ok (.if_icmp .ne 11, 3) := by decide +kernel
theorem dX6_right_13 : decode cX6_right 13 = .ok (.aload_n 0, 1) := by decide +kernel
theorem dX6_right_14 : decode cX6_right 14 = .ok (.iload_n 1, 1) := by decide +kernel
theorem dX6_right_15 : decode cX6_right 15 = .ok (.invokevirtual 217, 3) := by decide +kernel
theorem dX6_right_18 : decode cX6_right 18 = .ok (.ifCond .eq 5, 3) := by decide +kernel
theorem dX6_right_21 : decode cX6_right 21 = .ok (.iconst 0, 1) := by decide +kernel
theorem dX6_right_22 : decode cX6_right 22 = .ok (.ireturn, 1) := by decide +kernel
theorem dX6_right_23 : decode cX6_right 23 = .ok (.aload_n 0, 1) := by decide +kernel
theorem dX6_right_24 : decode cX6_right 24 = .ok (.iload_n 1, 1) := by decide +kernel
theorem dX6_right_25 : decode cX6_right 25 = .ok (.aload_n 0, 1) := by decide +kernel
theorem dX6_right_26 : decode cX6_right 26 = .ok (.getfield 102, 3) := by decide +kernel
theorem dX6_right_29 : decode cX6_right 29 = .ok (.invokevirtual 140, 3) := by decide +kernel
theorem dX6_right_32 : decode cX6_right 32 = .ok (.aload_n 0, 1) := by decide +kernel
theorem dX6_right_33 : decode cX6_right 33 = .ok (.getfield 134, 3) := by decide +kernel
theorem dX6_right_36 : decode cX6_right 36 = .ok (.aload_n 0, 1) := by decide +kernel
theorem dX6_right_37 : decode cX6_right 37 = .ok (.getfield 56, 3) := by decide +kernel
theorem dX6_right_40 : decode cX6_right 40 = .ok (.iload_n 1, 1) := by decide +kernel
theorem dX6_right_41 : decode cX6_right 41 = .ok (.iaload, 1) := by decide +kernel
theorem dX6_right_42 : decode cX6_right 42 = .ok (.if_icmp .ne 7, 3) := by decide +kernel
theorem dX6_right_45 : decode cX6_right 45 = .ok (.iconst 1, 1) := by decide +kernel
theorem dX6_right_46 : decode cX6_right 46 = .ok (.goto 4, 3) := by decide +kernel
theorem dX6_right_49 : decode cX6_right 49 = .ok (.iconst 0, 1) := by decide +kernel
theorem dX6_right_50 : decode cX6_right 50 = .ok (.istore_n 2, 1) := by decide +kernel
theorem dX6_right_51 : decode cX6_right 51 = .ok (.iconst 0, 1) := by decide +kernel
theorem dX6_right_52 : decode cX6_right 52 = .ok (.istore_n 3, 1) := by decide +kernel
theorem dX6_right_53 : decode cX6_right 53 = .ok (.iload_n 3, 1) := by decide +kernel
theorem dX6_right_54 : decode cX6_right 54 = .ok (.aload_n 0, 1) := by decide +kernel
theorem dX6_right_55 : decode cX6_right 55 = .ok (.getfield 134, 3) := by decide +kernel
theorem dX6_right_58 : decode cX6_right 58 = .ok (.if_icmp .ge 83, 3) := by decide +kernel
theorem dX6_right_61 : decode cX6_right 61 = .ok (.iload_n 2, 1) := by decide +kernel
theorem dX6_right_62 : decode cX6_right 62 = .ok (.ifCond .eq 79, 3) := by decide +kernel
theorem dX6_right_65 : decode cX6_right 65 = .ok (.iconst 4, 1) := by decide +kernel
theorem dX6_right_66 : decode cX6_right 66 = .ok (.iload_n 1, 1) := by decide +kernel
theorem dX6_right_67 : decode cX6_right 67 = .ok (.imul, 1) := by decide +kernel
theorem dX6_right_68 : decode cX6_right 68 = .ok (.iload_n 3, 1) := by decide +kernel
theorem dX6_right_69 : decode cX6_right 69 = .ok (.iadd, 1) := by decide +kernel
theorem dX6_right_70 : decode cX6_right 70 = .ok (.istore 4, 2) := by decide +kernel
theorem dX6_right_72 : decode cX6_right 72 = .ok (.aload_n 0, 1) := by decide +kernel
theorem dX6_right_73 : decode cX6_right 73 = .ok (.getfield 62, 3) := by decide +kernel
theorem dX6_right_76 : decode cX6_right 76 = .ok (.iload 4, 2) := by decide +kernel
theorem dX6_right_78 : decode cX6_right 78 = .ok (.iaload, 1) := by decide +kernel
theorem dX6_right_79 : decode cX6_right 79 = .ok (.aload_n 0, 1) := by decide +kernel
theorem dX6_right_80 : decode cX6_right 80 = .ok (.getfield 80, 3) := by decide +kernel
theorem dX6_right_83 : decode cX6_right 83 = .ok (.iload_n 3, 1) := by decide +kernel
theorem dX6_right_84 : decode cX6_right 84 = .ok (.iaload, 1) := by decide +kernel
theorem dX6_right_85 : decode cX6_right 85 = .ok (.if_icmp .ne 48, 3) := by decide +kernel
theorem dX6_right_88 : decode cX6_right 88 = .ok (.aload_n 0, 1) := by decide +kernel
theorem dX6_right_89 : decode cX6_right 89 = .ok (.getfield 65, 3) := by decide +kernel
theorem dX6_right_92 : decode cX6_right 92 = .ok (.iload 4, 2) := by decide +kernel
theorem dX6_right_94 : decode cX6_right 94 = .ok (.iaload, 1) := by decide +kernel
theorem dX6_right_95 : decode cX6_right 95 = .ok (.aload_n 0, 1) := by decide +kernel
theorem dX6_right_96 : decode cX6_right 96 = .ok (.getfield 77, 3) := by decide +kernel
theorem dX6_right_99 : decode cX6_right 99 = .ok (.iload_n 3, 1) := by decide +kernel
theorem dX6_right_100 : decode cX6_right 100 = .ok (.iaload, 1) := by decide +kernel
theorem dX6_right_101 : decode cX6_right 101 = .ok (.if_icmp .ne 32, 3) := by decide +kernel
theorem dX6_right_104 : decode cX6_right 104 = .ok (.aload_n 0, 1) := by decide +kernel
theorem dX6_right_105 : decode cX6_right 105 = .ok (.getfield 68, 3) := by decide +kernel
theorem dX6_right_108 : decode cX6_right 108 = .ok (.iload 4, 2) := by decide +kernel
theorem dX6_right_110 : decode cX6_right 110 = .ok (.iaload, 1) := by decide +kernel
theorem dX6_right_111 : decode cX6_right 111 = .ok (.aload_n 0, 1) := by decide +kernel
theorem dX6_right_112 : decode cX6_right 112 = .ok (.iload_n 1, 1) := by decide +kernel
theorem dX6_right_113 : decode cX6_right 113 = .ok (.aload_n 0, 1) := by decide +kernel
theorem dX6_right_114 : decode cX6_right 114 = .ok (.getfield 102, 3) := by decide +kernel
theorem dX6_right_117 : decode cX6_right 117 = .ok (.aload_n 0, 1) := by decide +kernel
theorem dX6_right_118 : decode cX6_right 118 = .ok (.getfield 80, 3) := by decide +kernel
theorem dX6_right_121 : decode cX6_right 121 = .ok (.iload_n 3, 1) := by decide +kernel
theorem dX6_right_122 : decode cX6_right 122 = .ok (.iaload, 1) := by decide +kernel
theorem dX6_right_123 : decode cX6_right 123 = .ok (.invokevirtual 146, 3) := by decide +kernel
theorem dX6_right_126 : decode cX6_right 126 = .ok (.if_icmp .ne 7, 3) := by decide +kernel
theorem dX6_right_129 : decode cX6_right 129 = .ok (.iconst 1, 1) := by decide +kernel
theorem dX6_right_130 : decode cX6_right 130 = .ok (.goto 4, 3) := by decide +kernel
theorem dX6_right_133 : decode cX6_right 133 = .ok (.iconst 0, 1) := by decide +kernel
theorem dX6_right_134 : decode cX6_right 134 = .ok (.istore_n 2, 1) := by decide +kernel
theorem dX6_right_135 : decode cX6_right 135 = .ok (.iinc 3 1, 3) := by decide +kernel
theorem dX6_right_138 : decode cX6_right 138 = .ok (.goto (-85), 3) := by decide +kernel
theorem dX6_right_141 : decode cX6_right 141 = .ok (.iload_n 2, 1) := by decide +kernel
theorem dX6_right_142 : decode cX6_right 142 = .ok (.ireturn, 1) := by decide +kernel
theorem dX6_isRight_0 : decode cX6_isRight 0 = .ok (.aload_n 0, 1) := by decide +kernel
theorem dX6_isRight_1 : decode cX6_isRight 1 = .ok (.iload_n 1, 1) := by decide +kernel
theorem dX6_isRight_2 : decode cX6_isRight 2 = .ok (.invokevirtual 125, 3) := by decide +kernel
theorem dX6_isRight_5 : decode cX6_isRight 5 = .ok (.ifCond .eq 15, 3) := by decide +kernel
theorem dX6_isRight_8 : decode cX6_isRight 8 = .ok (.aload_n 0, 1) := by decide +kernel
theorem dX6_isRight_9 : decode cX6_isRight 9 = .ok (.iload_n 1, 1) := by decide +kernel
theorem dX6_isRight_10 : decode cX6_isRight 10 = .ok (.invokevirtual 220, 3) := by decide +kernel
theorem dX6_isRight_13 : decode cX6_isRight 13 = .ok (.ifCond .eq 7, 3) := by decide +kernel
theorem dX6_isRight_16 : decode cX6_isRight 16 = .ok (.iconst 1, 1) := by decide +kernel
theorem dX6_isRight_17 : decode cX6_isRight 17 = .ok (.goto 4, 3) := by decide +kernel
theorem dX6_isRight_20 : decode cX6_isRight 20 = .ok (.iconst 0, 1) := by decide +kernel
theorem dX6_isRight_21 : decode cX6_isRight 21 = .ok (.ireturn, 1) := by decide +kernel
theorem dX6_rightBoards_0 : decode cX6_rightBoards 0 = .ok (.aload_n 0, 1) := by decide +kernel
theorem dX6_rightBoards_1 : decode cX6_rightBoards 1 = .ok (.iconst 0, 1) := by decide +kernel
theorem dX6_rightBoards_2 : decode cX6_rightBoards 2 = .ok (.putfield 83, 3) := by decide +kernel
theorem dX6_rightBoards_5 : decode cX6_rightBoards 5 = .ok (.iconst 0, 1) := by decide +kernel
theorem dX6_rightBoards_6 : decode cX6_rightBoards 6 = .ok (.istore_n 1, 1) := by decide +kernel
theorem dX6_rightBoards_7 : decode cX6_rightBoards 7 = .ok (.iconst 0, 1) := by decide +kernel
theorem dX6_rightBoards_8 : decode cX6_rightBoards 8 = .ok (.istore_n 2, 1) := by decide +kernel
theorem dX6_rightBoards_9 : decode cX6_rightBoards 9 = .ok (.iload_n 2, 1) := by decide +kernel
theorem dX6_rightBoards_10 : decode cX6_rightBoards 10 = .ok (.aload_n 0, 1) := by decide +kernel
theorem dX6_rightBoards_11 : decode cX6_rightBoards 11 = .ok (.getfield 86, 3) := by decide +kernel
theorem dX6_rightBoards_14 : decode cX6_rightBoards 14 = .ok (.if_icmp .ge 27, 3) := by decide +kernel
theorem dX6_rightBoards_17 : decode cX6_rightBoards 17 = .ok (.iload_n 1, 1) := by decide +kernel
theorem dX6_rightBoards_18 : decode cX6_rightBoards 18 = .ok (.aload_n 0, 1) := by decide +kernel
theorem dX6_rightBoards_19 : decode cX6_rightBoards 19 = .ok (.iload_n 2, 1) := by decide +kernel
theorem dX6_rightBoards_20 : decode cX6_rightBoards 20 = .ok (.invokevirtual 220, 3) := by decide +kernel
theorem dX6_rightBoards_23 : decode cX6_rightBoards 23 = .ok (.ifCond .eq 9, 3) := by decide +kernel
theorem dX6_rightBoards_26 : decode cX6_rightBoards 26 = .ok (.iconst 1, 1) := by decide +kernel
theorem dX6_rightBoards_27 : decode cX6_rightBoards 27 = .ok (.iload_n 2, 1) := by decide +kernel
theorem dX6_rightBoards_28 : decode cX6_rightBoards 28 = .ok (.ishl, 1) := by decide +kernel
theorem dX6_rightBoards_29 : decode cX6_rightBoards 29 = .ok (.goto 4, 3) := by decide +kernel
theorem dX6_rightBoards_32 : decode cX6_rightBoards 32 = .ok (.iconst 0, 1) := by decide +kernel
theorem dX6_rightBoards_33 : decode cX6_rightBoards 33 = .ok (.ior, 1) := by decide +kernel
theorem dX6_rightBoards_34 : decode cX6_rightBoards 34 = .ok (.istore_n 1, 1) := by decide +kernel
theorem dX6_rightBoards_35 : decode cX6_rightBoards 35 = .ok (.iinc 2 1, 3) := by decide +kernel
theorem dX6_rightBoards_38 : decode cX6_rightBoards 38 = .ok (.goto (-29), 3) := by decide +kernel
theorem dX6_rightBoards_41 : decode cX6_rightBoards 41 = .ok (.iload_n 1, 1) := by decide +kernel
theorem dX6_rightBoards_42 : decode cX6_rightBoards 42 = .ok (.ireturn, 1) := by decide +kernel
theorem dJ9_floorMod_7cf53_0 : decode cJ9_floorMod_7cf53 0 = .ok (.iload_n 0, 1) := by decide +kernel
theorem dJ9_floorMod_7cf53_1 : decode cJ9_floorMod_7cf53 1 = .ok (.iload_n 1, 1) := by decide +kernel
theorem dJ9_floorMod_7cf53_2 : decode cJ9_floorMod_7cf53 2 = .ok (.irem, 1) := by decide +kernel
theorem dJ9_floorMod_7cf53_3 : decode cJ9_floorMod_7cf53 3 = .ok (.istore_n 2, 1) := by decide +kernel
theorem dJ9_floorMod_7cf53_4 : decode cJ9_floorMod_7cf53 4 = .ok (.iload_n 0, 1) := by decide +kernel
theorem dJ9_floorMod_7cf53_5 : decode cJ9_floorMod_7cf53 5 = .ok (.iload_n 1, 1) := by decide +kernel
theorem dJ9_floorMod_7cf53_6 : decode cJ9_floorMod_7cf53 6 = .ok (.ixor, 1) := by decide +kernel
theorem dJ9_floorMod_7cf53_7 : decode cJ9_floorMod_7cf53 7 = .ok (.ifCond .ge 11, 3) := by decide +kernel
theorem dJ9_floorMod_7cf53_10 : decode cJ9_floorMod_7cf53 10 = .ok (.iload_n 2, 1) := by decide +kernel
theorem dJ9_floorMod_7cf53_11 : decode cJ9_floorMod_7cf53 11 = .ok (.ifCond .eq 7, 3) := by decide +kernel
theorem dJ9_floorMod_7cf53_14 : decode cJ9_floorMod_7cf53 14 = .ok (.iload_n 2, 1) := by decide +kernel
theorem dJ9_floorMod_7cf53_15 : decode cJ9_floorMod_7cf53 15 = .ok (.iload_n 1, 1) := by decide +kernel
theorem dJ9_floorMod_7cf53_16 : decode cJ9_floorMod_7cf53 16 = .ok (.iadd, 1) := by decide +kernel
theorem dJ9_floorMod_7cf53_17 : decode cJ9_floorMod_7cf53 17 = .ok (.ireturn, 1) := by decide +kernel
theorem dJ9_floorMod_7cf53_18 : decode cJ9_floorMod_7cf53 18 = .ok (.iload_n 2, 1) := by decide +kernel
theorem dJ9_floorMod_7cf53_19 : decode cJ9_floorMod_7cf53 19 = .ok (.ireturn, 1) := by decide +kernel
theorem dJ9_abs_0f7a4_0 : decode cJ9_abs_0f7a4 0 = .ok (.iload_n 0, 1) := by decide +kernel
theorem dJ9_abs_0f7a4_1 : decode cJ9_abs_0f7a4 1 = .ok (.ifCond .ge 8, 3) := by decide +kernel
theorem dJ9_abs_0f7a4_4 : decode cJ9_abs_0f7a4 4 = .ok (.iload_n 0, 1) := by decide +kernel
theorem dJ9_abs_0f7a4_5 : decode cJ9_abs_0f7a4 5 = .ok (.ineg, 1) := by decide +kernel
theorem dJ9_abs_0f7a4_6 : decode cJ9_abs_0f7a4 6 = .ok (.goto 4, 3) := by decide +kernel
theorem dJ9_abs_0f7a4_9 : decode cJ9_abs_0f7a4 9 = .ok (.iload_n 0, 1) := by decide +kernel
theorem dJ9_abs_0f7a4_10 : decode cJ9_abs_0f7a4 10 = .ok (.ireturn, 1) := by decide +kernel
theorem dJ9_max_7cf53_0 : decode cJ9_max_7cf53 0 = .ok (.iload_n 0, 1) := by decide +kernel
theorem dJ9_max_7cf53_1 : decode cJ9_max_7cf53 1 = .ok (.iload_n 1, 1) := by decide +kernel
theorem dJ9_max_7cf53_2 : decode cJ9_max_7cf53 2 = .ok (.if_icmp .lt 7, 3) := by decide +kernel
theorem dJ9_max_7cf53_5 : decode cJ9_max_7cf53 5 = .ok (.iload_n 0, 1) := by decide +kernel
theorem dJ9_max_7cf53_6 : decode cJ9_max_7cf53 6 = .ok (.goto 4, 3) := by decide +kernel
theorem dJ9_max_7cf53_9 : decode cJ9_max_7cf53 9 = .ok (.iload_n 1, 1) := by decide +kernel
theorem dJ9_max_7cf53_10 : decode cJ9_max_7cf53 10 = .ok (.ireturn, 1) := by decide +kernel
theorem dJ9_min_7cf53_0 : decode cJ9_min_7cf53 0 = .ok (.iload_n 0, 1) := by decide +kernel
theorem dJ9_min_7cf53_1 : decode cJ9_min_7cf53 1 = .ok (.iload_n 1, 1) := by decide +kernel
theorem dJ9_min_7cf53_2 : decode cJ9_min_7cf53 2 = .ok (.if_icmp .gt 7, 3) := by decide +kernel
theorem dJ9_min_7cf53_5 : decode cJ9_min_7cf53 5 = .ok (.iload_n 0, 1) := by decide +kernel
theorem dJ9_min_7cf53_6 : decode cJ9_min_7cf53 6 = .ok (.goto 4, 3) := by decide +kernel
theorem dJ9_min_7cf53_9 : decode cJ9_min_7cf53 9 = .ok (.iload_n 1, 1) := by decide +kernel
theorem dJ9_min_7cf53_10 : decode cJ9_min_7cf53 10 = .ok (.ireturn, 1) := by decide +kernel
theorem dL_addPier_0 : decode cL_addPier 0 = .ok (.aload 6, 2) := by decide +kernel
theorem dL_addPier_2 : decode cL_addPier 2 = .ok (.iconst 0, 1) := by decide +kernel
theorem dL_addPier_3 : decode cL_addPier 3 = .ok (.aload_n 0, 1) := by decide +kernel
theorem dL_addPier_4 : decode cL_addPier 4 = .ok (.iload_n 1, 1) := by decide +kernel
theorem dL_addPier_5 : decode cL_addPier 5 = .ok (.iload_n 2, 1) := by decide +kernel
theorem dL_addPier_6 : decode cL_addPier 6 = .ok (.iload_n 3, 1) := by decide +kernel
theorem dL_addPier_7 : decode cL_addPier 7 = .ok (.iload 4, 2) := by decide +kernel
theorem dL_addPier_9 : decode cL_addPier 9 = .ok (.iload 5, 2) := by decide +kernel
theorem dL_addPier_11 : decode cL_addPier 11 = .ok (.invokevirtual 7, 3) := by decide +kernel
theorem dL_addPier_14 : decode cL_addPier 14 = .ok (.i2l, 1) := by decide +kernel
theorem dL_addPier_15 : decode cL_addPier 15 = .ok (.lastore, 1) := by decide +kernel
theorem dL_addPier_16 : decode cL_addPier 16 = .ok (.goto 11, 3) := by decide +kernel
theorem dL_addPier_19 : decode cL_addPier 19 = .ok (.astore 7, 2) := by decide +kernel
theorem dL_addPier_21 : decode cL_addPier 21 = .ok (.iconst 1, 1) := by decide +kernel
theorem dL_addPier_22 : decode cL_addPier 22 = .ok (.ireturn, 1) := by decide +kernel
theorem dL_addPier_23 : decode cL_addPier 23 = .ok (.astore 7, 2) := by decide +kernel
theorem dL_addPier_25 : decode cL_addPier 25 = .ok (.iconst 2, 1) := by decide +kernel
theorem dL_addPier_26 : decode cL_addPier 26 = .ok (.ireturn, 1) := by decide +kernel
theorem dL_addPier_27 : decode cL_addPier 27 = .ok (.iconst 0, 1) := by decide +kernel
theorem dL_addPier_28 : decode cL_addPier 28 = .ok (.ireturn, 1) := by decide +kernel
theorem dL_passDays_0 : decode cL_passDays 0 = .ok (.aload_n 2, 1) := by decide +kernel
theorem dL_passDays_1 : decode cL_passDays 1 = .ok (.iconst 0, 1) := by decide +kernel
theorem dL_passDays_2 : decode cL_passDays 2 = .ok (.aload_n 0, 1) := by decide +kernel
theorem dL_passDays_3 : decode cL_passDays 3 = .ok (.iload_n 1, 1) := by decide +kernel
theorem dL_passDays_4 : decode cL_passDays 4 = .ok (.invokevirtual 17, 3) := by decide +kernel
theorem dL_passDays_7 : decode cL_passDays 7 = .ok (.i2l, 1) := by decide +kernel
theorem dL_passDays_8 : decode cL_passDays 8 = .ok (.lastore, 1) := by decide +kernel
theorem dL_passDays_9 : decode cL_passDays 9 = .ok (.goto 6, 3) := by decide +kernel
theorem dL_passDays_12 : decode cL_passDays 12 = .ok (.astore_n 3, 1) := by decide +kernel
theorem dL_passDays_13 : decode cL_passDays 13 = .ok (.iconst 1, 1) := by decide +kernel
theorem dL_passDays_14 : decode cL_passDays 14 = .ok (.ireturn, 1) := by decide +kernel
theorem dL_passDays_15 : decode cL_passDays 15 = .ok (.iconst 0, 1) := by decide +kernel
theorem dL_passDays_16 : decode cL_passDays 16 = .ok (.ireturn, 1) := by decide +kernel
theorem dL_moonAge_0 : decode cL_moonAge 0 = .ok (.aload_n 2, 1) := by decide +kernel
theorem dL_moonAge_1 : decode cL_moonAge 1 = .ok (.iconst 0, 1) := by decide +kernel
theorem dL_moonAge_2 : decode cL_moonAge 2 = .ok (.aload_n 0, 1) := by decide +kernel
theorem dL_moonAge_3 : decode cL_moonAge 3 = .ok (.iload_n 1, 1) := by decide +kernel
theorem dL_moonAge_4 : decode cL_moonAge 4 = .ok (.invokevirtual 21, 3) := by decide +kernel
theorem dL_moonAge_7 : decode cL_moonAge 7 = .ok (.i2l, 1) := by decide +kernel
theorem dL_moonAge_8 : decode cL_moonAge 8 = .ok (.lastore, 1) := by decide +kernel
theorem dL_moonAge_9 : decode cL_moonAge 9 = .ok (.goto 6, 3) := by decide +kernel
theorem dL_moonAge_12 : decode cL_moonAge 12 = .ok (.astore_n 3, 1) := by decide +kernel
theorem dL_moonAge_13 : decode cL_moonAge 13 = .ok (.iconst 1, 1) := by decide +kernel
theorem dL_moonAge_14 : decode cL_moonAge 14 = .ok (.ireturn, 1) := by decide +kernel
theorem dL_moonAge_15 : decode cL_moonAge 15 = .ok (.iconst 0, 1) := by decide +kernel
theorem dL_moonAge_16 : decode cL_moonAge 16 = .ok (.ireturn, 1) := by decide +kernel
theorem dL_rangeOf_0 : decode cL_rangeOf 0 = .ok (.aload_n 3, 1) := by decide +kernel
theorem dL_rangeOf_1 : decode cL_rangeOf 1 = .ok (.iconst 0, 1) := by decide +kernel
theorem dL_rangeOf_2 : decode cL_rangeOf 2 = .ok (.aload_n 0, 1) := by decide +kernel
theorem dL_rangeOf_3 : decode cL_rangeOf 3 = .ok (.iload_n 1, 1) := by decide +kernel
theorem dL_rangeOf_4 : decode cL_rangeOf 4 = .ok (.iload_n 2, 1) := by decide +kernel
theorem dL_rangeOf_5 : decode cL_rangeOf 5 = .ok (.invokevirtual 24, 3) := by decide +kernel
theorem dL_rangeOf_8 : decode cL_rangeOf 8 = .ok (.i2l, 1) := by decide +kernel
theorem dL_rangeOf_9 : decode cL_rangeOf 9 = .ok (.lastore, 1) := by decide +kernel
theorem dL_rangeOf_10 : decode cL_rangeOf 10 = .ok (.goto 11, 3) := by decide +kernel
theorem dL_rangeOf_13 : decode cL_rangeOf 13 = .ok (.astore 4, 2) := by decide +kernel
theorem dL_rangeOf_15 : decode cL_rangeOf 15 = .ok (.iconst 1, 1) := by decide +kernel
theorem dL_rangeOf_16 : decode cL_rangeOf 16 = .ok (.ireturn, 1) := by decide +kernel
theorem dL_rangeOf_17 : decode cL_rangeOf 17 = .ok (.astore 4, 2) := by decide +kernel
