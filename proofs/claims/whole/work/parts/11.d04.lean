theorem dX6_observe_2 : decode cX6_observe 2 = .ok (.invokevirtual 125, 3) := by decide +kernel
theorem dX6_observe_5 : decode cX6_observe 5 = .ok (.ifCond .ne 5, 3) := by decide +kernel
theorem dX6_observe_8 : decode cX6_observe 8 = .ok (.iconst 0, 1) := by decide +kernel
theorem dX6_observe_9 : decode cX6_observe 9 = .ok (.ireturn, 1) := by decide +kernel
theorem dX6_observe_10 : decode cX6_observe 10 = .ok (.iload_n 2, 1) := by decide +kernel
theorem dX6_observe_11 : decode cX6_observe 11 = .ok (.bipush (-60), 2) := by decide +kernel
theorem dX6_observe_13 : decode cX6_observe 13 = .ok (.bipush 60, 2) := by decide +kernel
theorem dX6_observe_15 : decode cX6_observe 15 = .ok (.invokestatic 89, 3) := by decide +kernel
theorem dX6_observe_18 : decode cX6_observe 18 = .ok (.ifCond .ne 9, 3) := by decide +kernel
theorem dX6_observe_21 : decode cX6_observe 21 = .ok (.aload_n 0, 1) := by decide +kernel
theorem dX6_observe_22 : decode cX6_observe 22 = .ok (.iconst 2, 1) := by decide +kernel
theorem dX6_observe_23 : decode cX6_observe 23 = .ok (.invokevirtual 98, 3) := by decide +kernel
theorem dX6_observe_26 : decode cX6_observe 26 = .ok (.ireturn, 1) := by decide +kernel
theorem dX6_observe_27 : decode cX6_observe 27 = .ok (.iconst 0, 1) := by decide +kernel
theorem dX6_observe_28 : decode cX6_observe 28 = .ok (.istore_n 3, 1) := by decide +kernel
theorem dX6_observe_29 : decode cX6_observe 29 = .ok (.aload_n 0, 1) := by decide +kernel
theorem dX6_observe_30 : decode cX6_observe 30 = .ok (.getfield 28, 3) := by decide +kernel
theorem dX6_observe_33 : decode cX6_observe 33 = .ok (.iload_n 1, 1) := by decide +kernel
theorem dX6_observe_34 : decode cX6_observe 34 = .ok (.iaload, 1) := by decide +kernel
theorem dX6_observe_35 : decode cX6_observe 35 = .ok (.iconst 1, 1) := by decide +kernel
theorem dX6_observe_36 : decode cX6_observe 36 = .ok (.isub, 1) := by decide +kernel
theorem dX6_observe_37 : decode cX6_observe 37 = .ok (.istore 4, 2) := by decide +kernel
theorem dX6_observe_39 : decode cX6_observe 39 = .ok (.iload 4, 2) := by decide +kernel
theorem dX6_observe_41 : decode cX6_observe 41 = .ok (.ifCond .lt 102, 3) := by decide +kernel
theorem dX6_observe_44 : decode cX6_observe 44 = .ok (.aload_n 0, 1) := by decide +kernel
theorem dX6_observe_45 : decode cX6_observe 45 = .ok (.getfield 34, 3) := by decide +kernel
theorem dX6_observe_48 : decode cX6_observe 48 = .ok (.bipush 6, 2) := by decide +kernel
theorem dX6_observe_50 : decode cX6_observe 50 = .ok (.iload_n 1, 1) := by decide +kernel
theorem dX6_observe_51 : decode cX6_observe 51 = .ok (.imul, 1) := by decide +kernel
theorem dX6_observe_52 : decode cX6_observe 52 = .ok (.iload 4, 2) := by decide +kernel
theorem dX6_observe_54 : decode cX6_observe 54 = .ok (.iadd, 1) := by decide +kernel
theorem dX6_observe_55 : decode cX6_observe 55 = .ok (.iaload, 1) := by decide +kernel
theorem dX6_observe_56 : decode cX6_observe 56 = .ok (.iload_n 2, 1) := by decide +kernel
theorem dX6_observe_57 : decode cX6_observe 57 = .ok (.isub, 1) := by decide +kernel
theorem dX6_observe_58 : decode cX6_observe 58 = .ok (.invokestatic 157, 3) := by decide +kernel
theorem dX6_observe_61 : decode cX6_observe 61 = .ok (.istore 5, 2) := by decide +kernel
theorem dX6_observe_63 : decode cX6_observe 63 = .ok (.aload_n 0, 1) := by decide +kernel
theorem dX6_observe_64 : decode cX6_observe 64 = .ok (.getfield 31, 3) := by decide +kernel
theorem dX6_observe_67 : decode cX6_observe 67 = .ok (.bipush 6, 2) := by decide +kernel
theorem dX6_observe_69 : decode cX6_observe 69 = .ok (.iload_n 1, 1) := by decide +kernel
theorem dX6_observe_70 : decode cX6_observe 70 = .ok (.imul, 1) := by decide +kernel
theorem dX6_observe_71 : decode cX6_observe 71 = .ok (.iload 4, 2) := by decide +kernel
theorem dX6_observe_73 : decode cX6_observe 73 = .ok (.iadd, 1) := by decide +kernel
theorem dX6_observe_74 : decode cX6_observe 74 = .ok (.iaload, 1) := by decide +kernel
theorem dX6_observe_75 : decode cX6_observe 75 = .ok (.istore 6, 2) := by decide +kernel
theorem dX6_observe_77 : decode cX6_observe 77 = .ok (.aload_n 0, 1) := by decide +kernel
theorem dX6_observe_78 : decode cX6_observe 78 = .ok (.getfield 25, 3) := by decide +kernel
theorem dX6_observe_81 : decode cX6_observe 81 = .ok (.iload 6, 2) := by decide +kernel
theorem dX6_observe_83 : decode cX6_observe 83 = .ok (.iload 5, 2) := by decide +kernel
theorem dX6_observe_85 : decode cX6_observe 85 = .ok (.iconst 5, 1) := by decide +kernel
theorem dX6_observe_86 : decode cX6_observe 86 = .ok (.if_icmp .gt 20, 3) := by decide +kernel
theorem dX6_observe_89 : decode cX6_observe 89 = .ok (.bipush 9, 2) := by decide +kernel
theorem dX6_observe_91 : decode cX6_observe 91 = .ok (.aload_n 0, 1) := by decide +kernel
theorem dX6_observe_92 : decode cX6_observe 92 = .ok (.getfield 25, 3) := by decide +kernel
theorem dX6_observe_95 : decode cX6_observe 95 = .ok (.iload 6, 2) := by decide +kernel
theorem dX6_observe_97 : decode cX6_observe 97 = .ok (.iaload, 1) := by decide +kernel
theorem dX6_observe_98 : decode cX6_observe 98 = .ok (.iconst 1, 1) := by decide +kernel
theorem dX6_observe_99 : decode cX6_observe 99 = .ok (.iadd, 1) := by decide +kernel
theorem dX6_observe_100 : decode cX6_observe 100 = .ok (.invokestatic 115, 3) := by decide +kernel
theorem dX6_observe_103 : decode cX6_observe 103 = .ok (.goto 16, 3) := by decide +kernel
theorem dX6_observe_106 : decode cX6_observe 106 = .ok (.iconst 1, 1) := by decide +kernel
theorem dX6_observe_107 : decode cX6_observe 107 = .ok (.aload_n 0, 1) := by decide +kernel
theorem dX6_observe_108 : decode cX6_observe 108 = .ok (.getfield 25, 3) := by decide +kernel
theorem dX6_observe_111 : decode cX6_observe 111 = .ok (.iload 6, 2) := by decide +kernel
theorem dX6_observe_113 : decode cX6_observe 113 = .ok (.iaload, 1) := by decide +kernel
theorem dX6_observe_114 : decode cX6_observe 114 = .ok (.iconst 1, 1) := by decide +kernel
theorem dX6_observe_115 : decode cX6_observe 115 = .ok (.isub, 1) := by decide +kernel
theorem dX6_observe_116 : decode cX6_observe 116 = .ok (.invokestatic 160, 3) := by decide +kernel
theorem dX6_observe_119 : decode cX6_observe 119 = .ok (.iastore, 1) := by decide +kernel
theorem dX6_observe_120 : decode cX6_observe 120 = .ok (.iload 5, 2) := by decide +kernel
theorem dX6_observe_122 : decode cX6_observe 122 = .ok (.bipush 30, 2) := by decide +kernel
theorem dX6_observe_124 : decode cX6_observe 124 = .ok (.if_icmp .le 13, 3) := by decide +kernel
theorem dX6_observe_127 : decode cX6_observe 127 = .ok (.aload_n 0, 1) := by decide +kernel
theorem dX6_observe_128 : decode cX6_observe 128 = .ok (.iload_n 1, 1) := by decide +kernel
theorem dX6_observe_129 : decode cX6_observe 129 = .ok (.iload 4, 2) := by decide +kernel
theorem dX6_observe_131 : decode cX6_observe 131 = .ok (.invokevirtual 105, 3) := by decide +kernel
theorem dX6_observe_134 : decode cX6_observe 134 = .ok (.iinc 3 1, 3) := by decide +kernel
theorem dX6_observe_137 : decode cX6_observe 137 = .ok (.iinc 4 (-1), 3) := by decide +kernel
theorem dX6_observe_140 : decode cX6_observe 140 = .ok (.goto (-101), 3) := by decide +kernel
theorem dX6_observe_143 : decode cX6_observe 143 = .ok (.iload_n 3, 1) := by decide +kernel
theorem dX6_observe_144 : decode cX6_observe 144 = .ok (.ireturn, 1) := by decide +kernel
theorem dX6_correctionOf_0 : decode cX6_correctionOf 0 = .ok (.aload_n 0, 1) := by decide +kernel
theorem dX6_correctionOf_1 : decode cX6_correctionOf 1 = .ok (.iload_n 1, 1) := by decide +kernel
theorem dX6_correctionOf_2 : decode cX6_correctionOf 2 = .ok (.invokevirtual 125, 3) := by decide +kernel
theorem dX6_correctionOf_5 : decode cX6_correctionOf 5 = .ok (.ifCond .eq 11, 3) := by decide +kernel
theorem dX6_correctionOf_8 : decode cX6_correctionOf 8 = .ok (.aload_n 0, 1) := by decide +kernel
theorem dX6_correctionOf_9 : decode cX6_correctionOf 9 = .ok (.iload_n 1, 1) := by decide +kernel
theorem dX6_correctionOf_10 : decode cX6_correctionOf 10 = .ok (.invokevirtual 131, 3) := by decide +kernel
theorem dX6_correctionOf_13 : decode cX6_correctionOf 13 = .ok (.goto 4, 3) := by decide +kernel
theorem dX6_correctionOf_16 : decode cX6_correctionOf 16 = .ok (.iconst 0, 1) := by decide +kernel
theorem dX6_correctionOf_17 : decode cX6_correctionOf 17 = .ok (.ireturn, 1) := by decide +kernel
theorem dX6_trustOf_0 : decode cX6_trustOf 0 = .ok (.aload_n 0, 1) := by decide +kernel
theorem dX6_trustOf_1 : decode cX6_trustOf 1 = .ok (.iload_n 1, 1) := by decide +kernel
theorem dX6_trustOf_2 : decode cX6_trustOf 2 = .ok (.iconst 0, 1) := by decide +kernel
theorem dX6_trustOf_3 : decode cX6_trustOf 3 = .ok (.iconst 5, 1) := by decide +kernel
theorem dX6_trustOf_4 : decode cX6_trustOf 4 = .ok (.invokestatic 89, 3) := by decide +kernel
theorem dX6_trustOf_7 : decode cX6_trustOf 7 = .ok (.iconst 1, 1) := by decide +kernel
theorem dX6_trustOf_8 : decode cX6_trustOf 8 = .ok (.invokevirtual 93, 3) := by decide +kernel
theorem dX6_trustOf_11 : decode cX6_trustOf 11 = .ok (.ifCond .eq 12, 3) := by decide +kernel
theorem dX6_trustOf_14 : decode cX6_trustOf 14 = .ok (.aload_n 0, 1) := by decide +kernel
theorem dX6_trustOf_15 : decode cX6_trustOf 15 = .ok (.getfield 25, 3) := by decide +kernel
theorem dX6_trustOf_18 : decode cX6_trustOf 18 = .ok (.iload_n 1, 1) := by decide +kernel
theorem dX6_trustOf_19 : decode cX6_trustOf 19 = .ok (.iaload, 1) := by decide +kernel
theorem dX6_trustOf_20 : decode cX6_trustOf 20 = .ok (.goto 4, 3) := by decide +kernel
theorem dX6_trustOf_23 : decode cX6_trustOf 23 = .ok (.iconst 0, 1) := by decide +kernel
theorem dX6_trustOf_24 : decode cX6_trustOf 24 = .ok (.ireturn, 1) := by decide +kernel
theorem dX6_reportCount_0 : decode cX6_reportCount 0 = .ok (.aload_n 0, 1) := by decide +kernel
theorem dX6_reportCount_1 : decode cX6_reportCount 1 = .ok (.iload_n 1, 1) := by decide +kernel
theorem dX6_reportCount_2 : decode cX6_reportCount 2 = .ok (.invokevirtual 125, 3) := by decide +kernel
theorem dX6_reportCount_5 : decode cX6_reportCount 5 = .ok (.ifCond .eq 12, 3) := by decide +kernel
theorem dX6_reportCount_8 : decode cX6_reportCount 8 = .ok (.aload_n 0, 1) := by decide +kernel
theorem dX6_reportCount_9 : decode cX6_reportCount 9 = .ok (.getfield 28, 3) := by decide +kernel
theorem dX6_reportCount_12 : decode cX6_reportCount 12 = .ok (.iload_n 1, 1) := by decide +kernel
theorem dX6_reportCount_13 : decode cX6_reportCount 13 = .ok (.iaload, 1) := by decide +kernel
theorem dX6_reportCount_14 : decode cX6_reportCount 14 = .ok (.goto 4, 3) := by decide +kernel
theorem dX6_reportCount_17 : decode cX6_reportCount 17 = .ok (.iconst 0, 1) := by decide +kernel
theorem dX6_reportCount_18 : decode cX6_reportCount 18 = .ok (.ireturn, 1) := by decide +kernel
theorem dX6_reporterAt_0 : decode cX6_reporterAt 0 = .ok (.aload_n 0, 1) := by decide +kernel
theorem dX6_reporterAt_1 : decode cX6_reporterAt 1 = .ok (.iload_n 1, 1) := by decide +kernel
theorem dX6_reporterAt_2 : decode cX6_reporterAt 2 = .ok (.invokevirtual 125, 3) := by decide +kernel
theorem dX6_reporterAt_5 : decode cX6_reporterAt 5 = .ok (.ifCond .ne 5, 3) := by decide +kernel
theorem dX6_reporterAt_8 : decode cX6_reporterAt 8 = .ok (.iconst 0, 1) := by decide +kernel
theorem dX6_reporterAt_9 : decode cX6_reporterAt 9 = .ok (.ireturn, 1) := by decide +kernel
theorem dX6_reporterAt_10 : decode cX6_reporterAt 10 = .ok (.iload_n 2, 1) := by decide +kernel
theorem dX6_reporterAt_11 : decode cX6_reporterAt 11 = .ok (.iconst 0, 1) := by decide +kernel
theorem dX6_reporterAt_12 : decode cX6_reporterAt 12 = .ok (.aload_n 0, 1) := by decide +kernel
theorem dX6_reporterAt_13 : decode cX6_reporterAt 13 = .ok (.getfield 28, 3) := by decide +kernel
theorem dX6_reporterAt_16 : decode cX6_reporterAt 16 = .ok (.iload_n 1, 1) := by decide +kernel
theorem dX6_reporterAt_17 : decode cX6_reporterAt 17 = .ok (.iaload, 1) := by decide +kernel
theorem dX6_reporterAt_18 : decode cX6_reporterAt 18 = .ok (.iconst 1, 1) := by decide +kernel
theorem dX6_reporterAt_19 : decode cX6_reporterAt 19 = .ok (.isub, 1) := by decide +kernel
theorem dX6_reporterAt_20 : decode cX6_reporterAt 20 = .ok (.invokestatic 89, 3) := by decide +kernel
theorem dX6_reporterAt_23 : decode cX6_reporterAt 23 = .ok (.ifCond .eq 17, 3) := by decide +kernel
theorem dX6_reporterAt_26 : decode cX6_reporterAt 26 = .ok (.aload_n 0, 1) := by decide +kernel
theorem dX6_reporterAt_27 : decode cX6_reporterAt 27 = .ok (.getfield 31, 3) := by decide +kernel
theorem dX6_reporterAt_30 : decode cX6_reporterAt 30 = .ok (.bipush 6, 2) := by decide +kernel
theorem dX6_reporterAt_32 : decode cX6_reporterAt 32 = .ok (.iload_n 1, 1) := by decide +kernel
theorem dX6_reporterAt_33 : decode cX6_reporterAt 33 = .ok (.imul, 1) := by decide +kernel
theorem dX6_reporterAt_34 : decode cX6_reporterAt 34 = .ok (.iload_n 2, 1) := by decide +kernel
theorem dX6_reporterAt_35 : decode cX6_reporterAt 35 = .ok (.iadd, 1) := by decide +kernel
theorem dX6_reporterAt_36 : decode cX6_reporterAt 36 = .ok (.iaload, 1) := by decide +kernel
theorem dX6_reporterAt_37 : decode cX6_reporterAt 37 = .ok (.goto 8, 3) := by decide +kernel
theorem dX6_reporterAt_40 : decode cX6_reporterAt 40 = .ok (.aload_n 0, 1) := by decide +kernel
theorem dX6_reporterAt_41 : decode cX6_reporterAt 41 = .ok (.iconst 2, 1) := by decide +kernel
theorem dX6_reporterAt_42 : decode cX6_reporterAt 42 = .ok (.invokevirtual 98, 3) := by decide +kernel
theorem dX6_reporterAt_45 : decode cX6_reporterAt 45 = .ok (.ireturn, 1) := by decide +kernel
theorem dX6_ofReport_0 : decode cX6_ofReport 0 = .ok (.aload_n 0, 1) := by decide +kernel
theorem dX6_ofReport_1 : decode cX6_ofReport 1 = .ok (.iload_n 2, 1) := by decide +kernel
theorem dX6_ofReport_2 : decode cX6_ofReport 2 = .ok (.iload_n 3, 1) := by decide +kernel
theorem dX6_ofReport_3 : decode cX6_ofReport 3 = .ok (.invokevirtual 150, 3) := by decide +kernel
theorem dX6_ofReport_6 : decode cX6_ofReport 6 = .ok (.ifCond .ne 5, 3) := by decide +kernel
theorem dX6_ofReport_9 : decode cX6_ofReport 9 = .ok (.iconst 0, 1) := by decide +kernel
theorem dX6_ofReport_10 : decode cX6_ofReport 10 = .ok (.ireturn, 1) := by decide +kernel
theorem dX6_ofReport_11 : decode cX6_ofReport 11 = .ok (.aload_n 0, 1) := by decide +kernel
theorem dX6_ofReport_12 : decode cX6_ofReport 12 = .ok (.iload_n 2, 1) := by decide +kernel
theorem dX6_ofReport_13 : decode cX6_ofReport 13 = .ok (.iload_n 3, 1) := by decide +kernel
theorem dX6_ofReport_14 : decode cX6_ofReport 14 = .ok (.invokevirtual 154, 3) := by decide +kernel
theorem dX6_ofReport_17 : decode cX6_ofReport 17 = .ok (.istore 4, 2) := by decide +kernel
theorem dX6_ofReport_19 : decode cX6_ofReport 19 = .ok (.iload 4, 2) := by decide +kernel
theorem dX6_ofReport_21 : decode cX6_ofReport 21 = .ok (.iconst (-1), 1) := by decide +kernel
theorem dX6_ofReport_22 : decode cX6_ofReport 22 = .ok (.if_icmp .ne 11, 3) := by decide +kernel
theorem dX6_ofReport_25 : decode cX6_ofReport 25 = .ok (.aload_n 0, 1) := by decide +kernel
theorem dX6_ofReport_26 : decode cX6_ofReport 26 = .ok (.iconst 2, 1) := by decide +kernel
theorem dX6_ofReport_27 : decode cX6_ofReport 27 = .ok (.invokevirtual 98, 3) := by decide +kernel
theorem dX6_ofReport_30 : decode cX6_ofReport 30 = .ok (.goto 12, 3) := by decide +kernel
theorem dX6_ofReport_33 : decode cX6_ofReport 33 = .ok (.aload_n 1, 1) := by decide +kernel
theorem dX6_ofReport_34 : decode cX6_ofReport 34 = .ok (.bipush 6, 2) := by decide +kernel
theorem dX6_ofReport_36 : decode cX6_ofReport 36 = .ok (.iload_n 3, 1) := by decide +kernel
theorem dX6_ofReport_37 : decode cX6_ofReport 37 = .ok (.imul, 1) := by decide +kernel
theorem dX6_ofReport_38 : decode cX6_ofReport 38 = .ok (.iload 4, 2) := by decide +kernel
theorem dX6_ofReport_40 : decode cX6_ofReport 40 = .ok (.iadd, 1) := by decide +kernel
theorem dX6_ofReport_41 : decode cX6_ofReport 41 = .ok (.iaload, 1) := by decide +kernel
theorem dX6_ofReport_42 : decode cX6_ofReport 42 = .ok (.ireturn, 1) := by decide +kernel
theorem dX6_reportedMinutes_0 : decode cX6_reportedMinutes 0 = .ok (.aload_n 0, 1) := by decide +kernel
theorem dX6_reportedMinutes_1 : decode cX6_reportedMinutes 1 = .ok (.aload_n 0, 1) := by decide +kernel
theorem dX6_reportedMinutes_2 : decode cX6_reportedMinutes 2 = .ok (.getfield 34, 3) := by decide +kernel
theorem dX6_reportedMinutes_5 : decode cX6_reportedMinutes 5 = .ok (.iload_n 1, 1) := by decide +kernel
theorem dX6_reportedMinutes_6 : decode cX6_reportedMinutes 6 = .ok (.iload_n 2, 1) := by decide +kernel
theorem dX6_reportedMinutes_7 : decode cX6_reportedMinutes 7 = .ok (.invokevirtual 163, 3) := by decide +kernel
theorem dX6_reportedMinutes_10 : decode cX6_reportedMinutes 10 = .ok (.ireturn, 1) := by decide +kernel
theorem dX6_reportAge_0 : decode cX6_reportAge 0 = .ok (.aload_n 0, 1) := by decide +kernel
theorem dX6_reportAge_1 : decode cX6_reportAge 1 = .ok (.aload_n 0, 1) := by decide +kernel
theorem dX6_reportAge_2 : decode cX6_reportAge 2 = .ok (.getfield 37, 3) := by decide +kernel
theorem dX6_reportAge_5 : decode cX6_reportAge 5 = .ok (.iload_n 1, 1) := by decide +kernel
theorem dX6_reportAge_6 : decode cX6_reportAge 6 = .ok (.iload_n 2, 1) := by decide +kernel
theorem dX6_reportAge_7 : decode cX6_reportAge 7 = .ok (.invokevirtual 163, 3) := by decide +kernel
theorem dX6_reportAge_10 : decode cX6_reportAge 10 = .ok (.ireturn, 1) := by decide +kernel
theorem dX6_isColour_0 : decode cX6_isColour 0 = .ok (.aload_n 0, 1) := by decide +kernel
theorem dX6_isColour_1 : decode cX6_isColour 1 = .ok (.iload_n 1, 1) := by decide +kernel
theorem dX6_isColour_2 : decode cX6_isColour 2 = .ok (.ifCond .eq 8, 3) := by decide +kernel
theorem dX6_isColour_5 : decode cX6_isColour 5 = .ok (.iload_n 1, 1) := by decide +kernel
theorem dX6_isColour_6 : decode cX6_isColour 6 = .ok (.iconst 1, 1) := by decide +kernel
theorem dX6_isColour_7 : decode cX6_isColour 7 = .ok (.if_icmp .ne 7, 3) := by decide +kernel
theorem dX6_isColour_10 : decode cX6_isColour 10 = .ok (.iconst 1, 1) := by decide +kernel
theorem dX6_isColour_11 : decode cX6_isColour 11 = .ok (.goto 4, 3) := by decide +kernel
theorem dX6_isColour_14 : decode cX6_isColour 14 = .ok (.iconst 0, 1) := by decide +kernel
theorem dX6_isColour_15 : decode cX6_isColour 15 = .ok (.iconst 1, 1) := by decide +kernel
theorem dX6_isColour_16 : decode cX6_isColour 16 = .ok (.invokevirtual 93, 3) := by decide +kernel
theorem dX6_isColour_19 : decode cX6_isColour 19 = .ok (.ireturn, 1) := by decide +kernel
theorem dX6_deliverTin_0 : decode cX6_deliverTin 0 = .ok (.aload_n 0, 1) := by decide +kernel
theorem dX6_deliverTin_1 : decode cX6_deliverTin 1 = .ok (.iload_n 1, 1) := by decide +kernel
theorem dX6_deliverTin_2 : decode cX6_deliverTin 2 = .ok (.ifCond .eq 8, 3) := by decide +kernel
theorem dX6_deliverTin_5 : decode cX6_deliverTin 5 = .ok (.iload_n 1, 1) := by decide +kernel
theorem dX6_deliverTin_6 : decode cX6_deliverTin 6 = .ok (.iconst 1, 1) := by decide +kernel
theorem dX6_deliverTin_7 : decode cX6_deliverTin 7 = .ok (.if_icmp .ne 18, 3) := by decide +kernel
theorem dX6_deliverTin_10 : decode cX6_deliverTin 10 = .ok (.iload_n 2, 1) := by decide +kernel
theorem dX6_deliverTin_11 : decode cX6_deliverTin 11 = .ok (.iconst 1, 1) := by decide +kernel
theorem dX6_deliverTin_12 : decode cX6_deliverTin 12 = .ok (.sipush 999, 3) := by decide +kernel
theorem dX6_deliverTin_15 : decode cX6_deliverTin 15 = .ok (.invokestatic 89, 3) := by decide +kernel
theorem dX6_deliverTin_18 : decode cX6_deliverTin 18 = .ok (.ifCond .eq 7, 3) := by decide +kernel
theorem dX6_deliverTin_21 : decode cX6_deliverTin 21 = .ok (.iconst 1, 1) := by decide +kernel
theorem dX6_deliverTin_22 : decode cX6_deliverTin 22 = .ok (.goto 4, 3) := by decide +kernel
theorem dX6_deliverTin_25 : decode cX6_deliverTin 25 = .ok (.iconst 0, 1) := by decide +kernel
theorem dX6_deliverTin_26 : decode cX6_deliverTin 26 = .ok (.iconst 1, 1) := by decide +kernel
theorem dX6_deliverTin_27 : decode cX6_deliverTin 27 = .ok (.invokevirtual 93, 3) := by decide +kernel
theorem dX6_deliverTin_30 : decode cX6_deliverTin 30 = .ok (.ifCond .ne 5, 3) := by decide +kernel
theorem dX6_deliverTin_33 : decode cX6_deliverTin 33 = .ok (.iconst 0, 1) := by decide +kernel
theorem dX6_deliverTin_34 : decode cX6_deliverTin 34 = .ok (.ireturn, 1) := by decide +kernel
theorem dX6_deliverTin_35 : decode cX6_deliverTin 35 = .ok (.aload_n 0, 1) := by decide +kernel
theorem dX6_deliverTin_36 : decode cX6_deliverTin 36 = .ok (.getfield 40, 3) := by decide +kernel
theorem dX6_deliverTin_39 : decode cX6_deliverTin 39 = .ok (.iload_n 1, 1) := by decide +kernel
theorem dX6_deliverTin_40 : decode cX6_deliverTin 40 = .ok (.iaload, 1) := by decide +kernel
theorem dX6_deliverTin_41 : decode cX6_deliverTin 41 = .ok (.bipush 12, 2) := by decide +kernel
theorem dX6_deliverTin_43 : decode cX6_deliverTin 43 = .ok (.if_icmp .ne 9, 3) := by decide +kernel
theorem dX6_deliverTin_46 : decode cX6_deliverTin 46 = .ok (.aload_n 0, 1) := by decide +kernel
theorem dX6_deliverTin_47 : decode cX6_deliverTin 47 = .ok (.iconst 2, 1) := by decide +kernel
theorem dX6_deliverTin_48 : decode cX6_deliverTin 48 = .ok (.invokevirtual 98, 3) := by decide +kernel
theorem dX6_deliverTin_51 : decode cX6_deliverTin 51 = .ok (.ireturn, 1) := by decide +kernel
theorem dX6_deliverTin_52 : decode cX6_deliverTin 52 = .ok (.aload_n 0, 1) := by decide +kernel
theorem dX6_deliverTin_53 : decode cX6_deliverTin 53 = .ok (.getfield 43, 3) := by decide +kernel
theorem dX6_deliverTin_56 : decode cX6_deliverTin 56 = .ok (.bipush 12, 2) := by decide +kernel
theorem dX6_deliverTin_58 : decode cX6_deliverTin 58 = .ok (.iload_n 1, 1) := by decide +kernel
theorem dX6_deliverTin_59 : decode cX6_deliverTin 59 = .ok (.imul, 1) := by decide +kernel
theorem dX6_deliverTin_60 : decode cX6_deliverTin 60 = .ok (.aload_n 0, 1) := by decide +kernel
theorem dX6_deliverTin_61 : decode cX6_deliverTin 61 = .ok (.getfield 40, 3) := by decide +kernel
theorem dX6_deliverTin_64 : decode cX6_deliverTin 64 = .ok (.iload_n 1, 1) := by decide +kernel
theorem dX6_deliverTin_65 : decode cX6_deliverTin 65 = .ok (.iaload, 1) := by decide +kernel
theorem dX6_deliverTin_66 : decode cX6_deliverTin 66 = .ok (.iadd, 1) := by decide +kernel
theorem dX6_deliverTin_67 : decode cX6_deliverTin 67 = .ok (.iload_n 2, 1) := by decide +kernel
theorem dX6_deliverTin_68 : decode cX6_deliverTin 68 = .ok (.iastore, 1) := by decide +kernel
theorem dX6_deliverTin_69 : decode cX6_deliverTin 69 = .ok (.aload_n 0, 1) := by decide +kernel
theorem dX6_deliverTin_70 : decode cX6_deliverTin 70 = .ok (.getfield 40, 3) := by decide +kernel
theorem dX6_deliverTin_73 : decode cX6_deliverTin 73 = .ok (.iload_n 1, 1) := by decide +kernel
theorem dX6_deliverTin_74 : decode cX6_deliverTin 74 = .ok (.dup2, 1) := by decide +kernel
theorem dX6_deliverTin_75 : decode cX6_deliverTin 75 = .ok (.iaload, 1) := by decide +kernel
theorem dX6_deliverTin_76 : decode cX6_deliverTin 76 = .ok (.iconst 1, 1) := by decide +kernel
theorem dX6_deliverTin_77 : decode cX6_deliverTin 77 = .ok (.iadd, 1) := by decide +kernel
theorem dX6_deliverTin_78 : decode cX6_deliverTin 78 = .ok (.iastore, 1) := by decide +kernel
theorem dX6_deliverTin_79 : decode cX6_deliverTin 79 = .ok (.aload_n 0, 1) := by decide +kernel
theorem dX6_deliverTin_80 : decode cX6_deliverTin 80 = .ok (.getfield 40, 3) := by decide +kernel
theorem dX6_deliverTin_83 : decode cX6_deliverTin 83 = .ok (.iload_n 1, 1) := by decide +kernel
theorem dX6_deliverTin_84 : decode cX6_deliverTin 84 = .ok (.iaload, 1) := by decide +kernel
theorem dX6_deliverTin_85 : decode cX6_deliverTin 85 = .ok (.ireturn, 1) := by decide +kernel
theorem dX6_tinCount_0 : decode cX6_tinCount 0 = .ok (.aload_n 0, 1) := by decide +kernel
theorem dX6_tinCount_1 : decode cX6_tinCount 1 = .ok (.iload_n 1, 1) := by decide +kernel
theorem dX6_tinCount_2 : decode cX6_tinCount 2 = .ok (.invokevirtual 167, 3) := by decide +kernel
theorem dX6_tinCount_5 : decode cX6_tinCount 5 = .ok (.ifCond .eq 12, 3) := by decide +kernel
theorem dX6_tinCount_8 : decode cX6_tinCount 8 = .ok (.aload_n 0, 1) := by decide +kernel
theorem dX6_tinCount_9 : decode cX6_tinCount 9 = .ok (.getfield 40, 3) := by decide +kernel
theorem dX6_tinCount_12 : decode cX6_tinCount 12 = .ok (.iload_n 1, 1) := by decide +kernel
theorem dX6_tinCount_13 : decode cX6_tinCount 13 = .ok (.iaload, 1) := by decide +kernel
theorem dX6_tinCount_14 : decode cX6_tinCount 14 = .ok (.goto 4, 3) := by decide +kernel
theorem dX6_tinCount_17 : decode cX6_tinCount 17 = .ok (.iconst 0, 1) := by decide +kernel
theorem dX6_tinCount_18 : decode cX6_tinCount 18 = .ok (.ireturn, 1) := by decide +kernel
theorem dX6_paintLeft_0 : decode cX6_paintLeft 0 = .ok (.aload_n 0, 1) := by decide +kernel
theorem dX6_paintLeft_1 : decode cX6_paintLeft 1 = .ok (.iload_n 1, 1) := by decide +kernel
theorem dX6_paintLeft_2 : decode cX6_paintLeft 2 = .ok (.invokevirtual 167, 3) := by decide +kernel
theorem dX6_paintLeft_5 : decode cX6_paintLeft 5 = .ok (.ifCond .ne 5, 3) := by decide +kernel
theorem dX6_paintLeft_8 : decode cX6_paintLeft 8 = .ok (.iconst 0, 1) := by decide +kernel
theorem dX6_paintLeft_9 : decode cX6_paintLeft 9 = .ok (.ireturn, 1) := by decide +kernel
theorem dX6_paintLeft_10 : decode cX6_paintLeft 10 = .ok (.iconst 0, 1) := by decide +kernel
theorem dX6_paintLeft_11 : decode cX6_paintLeft 11 = .ok (.istore_n 2, 1) := by decide +kernel
theorem dX6_paintLeft_12 : decode cX6_paintLeft 12 = .ok (.iconst 0, 1) := by decide +kernel
theorem dX6_paintLeft_13 : decode cX6_paintLeft 13 = .ok (.istore_n 3, 1) := by decide +kernel
theorem dX6_paintLeft_14 : decode cX6_paintLeft 14 = .ok (.iload_n 3, 1) := by decide +kernel
theorem dX6_paintLeft_15 : decode cX6_paintLeft 15 = .ok (.aload_n 0, 1) := by decide +kernel
theorem dX6_paintLeft_16 : decode cX6_paintLeft 16 = .ok (.getfield 40, 3) := by decide +kernel
theorem dX6_paintLeft_19 : decode cX6_paintLeft 19 = .ok (.iload_n 1, 1) := by decide +kernel
theorem dX6_paintLeft_20 : decode cX6_paintLeft 20 = .ok (.iaload, 1) := by decide +kernel
theorem dX6_paintLeft_21 : decode cX6_paintLeft 21 = .ok (.if_icmp .ge 23, 3) := by decide +kernel
theorem dX6_paintLeft_24 : decode cX6_paintLeft 24 = .ok (.iload_n 2, 1) := by decide +kernel
theorem dX6_paintLeft_25 : decode cX6_paintLeft 25 = .ok (.aload_n 0, 1) := by decide +kernel
theorem dX6_paintLeft_26 : decode cX6_paintLeft 26 = .ok (.getfield 43, 3) := by decide +kernel
theorem dX6_paintLeft_29 : decode cX6_paintLeft 29 = .ok (.bipush 12, 2) := by decide +kernel
theorem dX6_paintLeft_31 : decode cX6_paintLeft 31 = .ok (.iload_n 1, 1) := by decide +kernel
theorem dX6_paintLeft_32 : decode cX6_paintLeft 32 = .ok (.imul, 1) := by decide +kernel
theorem dX6_paintLeft_33 : decode cX6_paintLeft 33 = .ok (.iload_n 3, 1) := by decide +kernel
theorem dX6_paintLeft_34 : decode cX6_paintLeft 34 = .ok (.iadd, 1) := by decide +kernel
theorem dX6_paintLeft_35 : decode cX6_paintLeft 35 = .ok (.iaload, 1) := by decide +kernel
theorem dX6_paintLeft_36 : decode cX6_paintLeft 36 = .ok (.iadd, 1) := by decide +kernel
theorem dX6_paintLeft_37 : decode cX6_paintLeft 37 = .ok (.istore_n 2, 1) := by decide +kernel
theorem dX6_paintLeft_38 : decode cX6_paintLeft 38 = .ok (.iinc 3 1, 3) := by decide +kernel
theorem dX6_paintLeft_41 : decode cX6_paintLeft 41 = .ok (.goto (-27), 3) := by decide +kernel
theorem dX6_paintLeft_44 : decode cX6_paintLeft 44 = .ok (.iload_n 2, 1) := by decide +kernel
theorem dX6_paintLeft_45 : decode cX6_paintLeft 45 = .ok (.ireturn, 1) := by decide +kernel
theorem dX6_oldestTin_0 : decode cX6_oldestTin 0 = .ok (.aload_n 0, 1) := by decide +kernel
theorem dX6_oldestTin_1 : decode cX6_oldestTin 1 = .ok (.iload_n 1, 1) := by decide +kernel
theorem dX6_oldestTin_2 : decode cX6_oldestTin 2 = .ok (.invokevirtual 167, 3) := by decide +kernel
theorem dX6_oldestTin_5 : decode cX6_oldestTin 5 = .ok (.ifCond .ne 5, 3) := by decide +kernel
theorem dX6_oldestTin_8 : decode cX6_oldestTin 8 = .ok (.iconst 0, 1) := by decide +kernel
theorem dX6_oldestTin_9 : decode cX6_oldestTin 9 = .ok (.ireturn, 1) := by decide +kernel
theorem dX6_oldestTin_10 : decode cX6_oldestTin 10 = .ok (.aload_n 0, 1) := by decide +kernel
theorem dX6_oldestTin_11 : decode cX6_oldestTin 11 = .ok (.getfield 40, 3) := by decide +kernel
theorem dX6_oldestTin_14 : decode cX6_oldestTin 14 = .ok (.iload_n 1, 1) := by decide +kernel
theorem dX6_oldestTin_15 : decode cX6_oldestTin 15 = .ok (.iaload, 1) := by decide +kernel
theorem dX6_oldestTin_16 : decode cX6_oldestTin 16 = .ok (.ifCond .ne 11, 3) := by decide +kernel
theorem dX6_oldestTin_19 : decode cX6_oldestTin 19 = .ok (.aload_n 0, 1) := by decide +kernel
theorem dX6_oldestTin_20 : decode cX6_oldestTin 20 = .ok (.iconst 2, 1) := by decide +kernel
theorem dX6_oldestTin_21 : decode cX6_oldestTin 21 = .ok (.invokevirtual 98, 3) := by decide +kernel
theorem dX6_oldestTin_24 : decode cX6_oldestTin 24 = .ok (.goto 12, 3) := by decide +kernel
theorem dX6_oldestTin_27 : decode cX6_oldestTin 27 = .ok (.aload_n 0, 1) := by decide +kernel
theorem dX6_oldestTin_28 : decode cX6_oldestTin 28 = .ok (.getfield 43, 3) := by decide +kernel
theorem dX6_oldestTin_31 : decode cX6_oldestTin 31 = .ok (.bipush 12, 2) := by decide +kernel
theorem dX6_oldestTin_33 : decode cX6_oldestTin 33 = .ok (.iload_n 1, 1) := by decide +kernel
theorem dX6_oldestTin_34 : decode cX6_oldestTin 34 = .ok (.imul, 1) := by decide +kernel
theorem dX6_oldestTin_35 : decode cX6_oldestTin 35 = .ok (.iaload, 1) := by decide +kernel
theorem dX6_oldestTin_36 : decode cX6_oldestTin 36 = .ok (.ireturn, 1) := by decide +kernel
theorem dX6_dropOldest_0 : decode cX6_dropOldest 0 = .ok (.aload_n 0, 1) := by decide +kernel
theorem dX6_dropOldest_1 : decode cX6_dropOldest 1 = .ok (.getfield 40, 3) := by decide +kernel
theorem dX6_dropOldest_4 : decode cX6_dropOldest 4 = .ok (.iload_n 1, 1) := by decide +kernel
theorem dX6_dropOldest_5 : decode cX6_dropOldest 5 = .ok (.dup2, 1) := by decide +kernel
theorem dX6_dropOldest_6 : decode cX6_dropOldest 6 = .ok (.iaload, 1) := by decide +kernel
theorem dX6_dropOldest_7 : decode cX6_dropOldest 7 = .ok (.iconst 1, 1) := by decide +kernel
theorem dX6_dropOldest_8 : decode cX6_dropOldest 8 = .ok (.isub, 1) := by decide +kernel
theorem dX6_dropOldest_9 : decode cX6_dropOldest 9 = .ok (.iastore, 1) := by decide +kernel
theorem dX6_dropOldest_10 : decode cX6_dropOldest 10 = .ok (.bipush 12, 2) := by decide +kernel
theorem dX6_dropOldest_12 : decode cX6_dropOldest 12 = .ok (.iload_n 1, 1) := by decide +kernel
theorem dX6_dropOldest_13 : decode cX6_dropOldest 13 = .ok (.imul, 1) := by decide +kernel
theorem dX6_dropOldest_14 : decode cX6_dropOldest 14 = .ok (.istore_n 2, 1) := by decide +kernel
theorem dX6_dropOldest_15 : decode cX6_dropOldest 15 = .ok (.iload_n 2, 1) := by decide +kernel
theorem dX6_dropOldest_16 : decode cX6_dropOldest 16 = .ok (.bipush 12, 2) := by decide +kernel
theorem dX6_dropOldest_18 : decode cX6_dropOldest 18 = .ok (.iload_n 1, 1) := by decide +kernel
theorem dX6_dropOldest_19 : decode cX6_dropOldest 19 = .ok (.imul, 1) := by decide +kernel
theorem dX6_dropOldest_20 : decode cX6_dropOldest 20 = .ok (.aload_n 0, 1) := by decide +kernel
theorem dX6_dropOldest_21 : decode cX6_dropOldest 21 = .ok (.getfield 40, 3) := by decide +kernel
theorem dX6_dropOldest_24 : decode cX6_dropOldest 24 = .ok (.iload_n 1, 1) := by decide +kernel
theorem dX6_dropOldest_25 : decode cX6_dropOldest 25 = .ok (.iaload, 1) := by decide +kernel
theorem dX6_dropOldest_26 : decode cX6_dropOldest 26 = .ok (.iadd, 1) := by decide +kernel
theorem dX6_dropOldest_27 : decode cX6_dropOldest 27 = .ok (.if_icmp .ge 23, 3) := by decide +kernel
theorem dX6_dropOldest_30 : decode cX6_dropOldest 30 = .ok (.aload_n 0, 1) := by decide +kernel
theorem dX6_dropOldest_31 : decode cX6_dropOldest 31 = .ok (.getfield 43, 3) := by decide +kernel
theorem dX6_dropOldest_34 : decode cX6_dropOldest 34 = .ok (.iload_n 2, 1) := by decide +kernel
theorem dX6_dropOldest_35 : decode cX6_dropOldest 35 = .ok (.aload_n 0, 1) := by decide +kernel
theorem dX6_dropOldest_36 : decode cX6_dropOldest 36 = .ok (.getfield 43, 3) := by decide +kernel
theorem dX6_dropOldest_39 : decode cX6_dropOldest 39 = .ok (.iload_n 2, 1) := by decide +kernel
theorem dX6_dropOldest_40 : decode cX6_dropOldest 40 = .ok (.iconst 1, 1) := by decide +kernel
theorem dX6_dropOldest_41 : decode cX6_dropOldest 41 = .ok (.iadd, 1) := by decide +kernel
theorem dX6_dropOldest_42 : decode cX6_dropOldest 42 = .ok (.iaload, 1) := by decide +kernel
theorem dX6_dropOldest_43 : decode cX6_dropOldest 43 = .ok (.iastore, 1) := by decide +kernel
theorem dX6_dropOldest_44 : decode cX6_dropOldest 44 = .ok (.iinc 2 1, 3) := by decide +kernel
theorem dX6_dropOldest_47 : decode cX6_dropOldest 47 = .ok (.goto (-32), 3) := by decide +kernel
theorem dX6_dropOldest_50 : decode cX6_dropOldest 50 = .ok (.return_, 1) := by decide +kernel
theorem dX6_take_0 : decode cX6_take 0 = .ok (.iconst 0, 1) := by decide +kernel
theorem dX6_take_1 : decode cX6_take 1 = .ok (.istore_n 3, 1) := by decide +kernel
theorem dX6_take_2 : decode cX6_take 2 = .ok (.iload_n 3, 1) := by decide +kernel
theorem dX6_take_3 : decode cX6_take 3 = .ok (.aload_n 0, 1) := by decide +kernel
theorem dX6_take_4 : decode cX6_take 4 = .ok (.getfield 40, 3) := by decide +kernel
theorem dX6_take_7 : decode cX6_take 7 = .ok (.iload_n 1, 1) := by decide +kernel
theorem dX6_take_8 : decode cX6_take 8 = .ok (.iaload, 1) := by decide +kernel
theorem dX6_take_9 : decode cX6_take 9 = .ok (.if_icmp .ge 24, 3) := by decide +kernel
theorem dX6_take_12 : decode cX6_take 12 = .ok (.aload_n 0, 1) := by decide +kernel
theorem dX6_take_13 : decode cX6_take 13 = .ok (.getfield 43, 3) := by decide +kernel
theorem dX6_take_16 : decode cX6_take 16 = .ok (.bipush 12, 2) := by decide +kernel
theorem dX6_take_18 : decode cX6_take 18 = .ok (.iload_n 1, 1) := by decide +kernel
theorem dX6_take_19 : decode cX6_take 19 = .ok (.imul, 1) := by decide +kernel
theorem dX6_take_20 : decode cX6_take 20 = .ok (.iload_n 3, 1) := by decide +kernel
theorem dX6_take_21 : decode cX6_take 21 = .ok (.iadd, 1) := by decide +kernel
theorem dX6_take_22 : decode cX6_take 22 = .ok (.iaload, 1) := by decide +kernel
theorem dX6_take_23 : decode cX6_take 23 = .ok (.iload_n 2, 1) := by decide +kernel
theorem dX6_take_24 : decode cX6_take 24 = .ok (.if_icmp .ge 9, 3) := by decide +kernel
theorem dX6_take_27 : decode cX6_take 27 = .ok (.iinc 3 1, 3) := by decide +kernel
theorem dX6_take_30 : decode cX6_take 30 = .ok (.goto (-28), 3) := by decide +kernel
theorem dX6_take_33 : decode cX6_take 33 = .ok (.iload_n 3, 1) := by decide +kernel
theorem dX6_take_34 : decode cX6_take 34 = .ok (.aload_n 0, 1) := by decide +kernel
theorem dX6_take_35 : decode cX6_take 35 = .ok (.getfield 40, 3) := by decide +kernel
theorem dX6_take_38 : decode cX6_take 38 = .ok (.iload_n 1, 1) := by decide +kernel
theorem dX6_take_39 : decode cX6_take 39 = .ok (.iaload, 1) := by decide +kernel
theorem dX6_take_40 : decode cX6_take 40 = .ok (.if_icmp .ne 5, 3) := by decide +kernel
theorem dX6_take_43 : decode cX6_take 43 = .ok (.iconst 0, 1) := by decide +kernel
theorem dX6_take_44 : decode cX6_take 44 = .ok (.ireturn, 1) := by decide +kernel
theorem dX6_take_45 : decode cX6_take 45 = .ok (.iconst 0, 1) := by decide +kernel
theorem dX6_take_46 : decode cX6_take 46 = .ok (.istore 4, 2) := by decide +kernel
theorem dX6_take_48 : decode cX6_take 48 = .ok (.iload 4, 2) := by decide +kernel
theorem dX6_take_50 : decode cX6_take 50 = .ok (.iload_n 3, 1) := by decide +kernel
theorem dX6_take_51 : decode cX6_take 51 = .ok (.if_icmp .ge 32, 3) := by decide +kernel
theorem dX6_take_54 : decode cX6_take 54 = .ok (.aload_n 0, 1) := by decide +kernel
theorem dX6_take_55 : decode cX6_take 55 = .ok (.dup, 1) := by decide +kernel
theorem dX6_take_56 : decode cX6_take 56 = .ok (.getfield 170, 3) := by decide +kernel
theorem dX6_take_59 : decode cX6_take 59 = .ok (.aload_n 0, 1) := by decide +kernel
theorem dX6_take_60 : decode cX6_take 60 = .ok (.getfield 43, 3) := by decide +kernel
theorem dX6_take_63 : decode cX6_take 63 = .ok (.bipush 12, 2) := by decide +kernel
theorem dX6_take_65 : decode cX6_take 65 = .ok (.iload_n 1, 1) := by decide +kernel
theorem dX6_take_66 : decode cX6_take 66 = .ok (.imul, 1) := by decide +kernel
theorem dX6_take_67 : decode cX6_take 67 = .ok (.iaload, 1) := by decide +kernel
theorem dX6_take_68 : decode cX6_take 68 = .ok (.iadd, 1) := by decide +kernel
theorem dX6_take_69 : decode cX6_take 69 = .ok (.putfield 170, 3) := by decide +kernel
theorem dX6_take_72 : decode cX6_take 72 = .ok (.aload_n 0, 1) := by decide +kernel
theorem dX6_take_73 : decode cX6_take 73 = .ok (.iload_n 1, 1) := by decide +kernel
theorem dX6_take_74 : decode cX6_take 74 = .ok (.invokevirtual 173, 3) := by decide +kernel
theorem dX6_take_77 : decode cX6_take 77 = .ok (.iinc 4 1, 3) := by decide +kernel
theorem dX6_take_80 : decode cX6_take 80 = .ok (.goto (-32), 3) := by decide +kernel
theorem dX6_take_83 : decode cX6_take 83 = .ok (.aload_n 0, 1) := by decide +kernel
theorem dX6_take_84 : decode cX6_take 84 = .ok (.getfield 43, 3) := by decide +kernel
theorem dX6_take_87 : decode cX6_take 87 = .ok (.bipush 12, 2) := by decide +kernel
theorem dX6_take_89 : decode cX6_take 89 = .ok (.iload_n 1, 1) := by decide +kernel
theorem dX6_take_90 : decode cX6_take 90 = .ok (.imul, 1) := by decide +kernel
theorem dX6_take_91 : decode cX6_take 91 = .ok (.dup2, 1) := by decide +kernel
theorem dX6_take_92 : decode cX6_take 92 = .ok (.iaload, 1) := by decide +kernel
theorem dX6_take_93 : decode cX6_take 93 = .ok (.iload_n 2, 1) := by decide +kernel
theorem dX6_take_94 : decode cX6_take 94 = .ok (.isub, 1) := by decide +kernel
theorem dX6_take_95 : decode cX6_take 95 = .ok (.iastore, 1) := by decide +kernel
theorem dX6_take_96 : decode cX6_take 96 = .ok (.aload_n 0, 1) := by decide +kernel
theorem dX6_take_97 : decode cX6_take 97 = .ok (.getfield 43, 3) := by decide +kernel
theorem dX6_take_100 : decode cX6_take 100 = .ok (.bipush 12, 2) := by decide +kernel
theorem dX6_take_102 : decode cX6_take 102 = .ok (.iload_n 1, 1) := by decide +kernel
theorem dX6_take_103 : decode cX6_take 103 = .ok (.imul, 1) := by decide +kernel
theorem dX6_take_104 : decode cX6_take 104 = .ok (.iaload, 1) := by decide +kernel
theorem dX6_take_105 : decode cX6_take 105 = .ok (.ifCond .ne 8, 3) := by decide +kernel
theorem dX6_take_108 : decode cX6_take 108 = .ok (.aload_n 0, 1) := by decide +kernel
theorem dX6_take_109 : decode cX6_take 109 = .ok (.iload_n 1, 1) := by decide +kernel
theorem dX6_take_110 : decode cX6_take 110 = .ok (.invokevirtual 173, 3) := by decide +kernel
theorem dX6_take_113 : decode cX6_take 113 = .ok (.iconst 1, 1) := by decide +kernel
theorem dX6_take_114 : decode cX6_take 114 = .ok (.ireturn, 1) := by decide +kernel
theorem dX6_paintUsed_0 : decode cX6_paintUsed 0 = .ok (.aload_n 0, 1) := by decide +kernel
theorem dX6_paintUsed_1 : decode cX6_paintUsed 1 = .ok (.iconst 0, 1) := by decide +kernel
theorem dX6_paintUsed_2 : decode cX6_paintUsed 2 = .ok (.putfield 83, 3) := by decide +kernel
theorem dX6_paintUsed_5 : decode cX6_paintUsed 5 = .ok (.aload_n 0, 1) := by decide +kernel
theorem dX6_paintUsed_6 : decode cX6_paintUsed 6 = .ok (.getfield 177, 3) := by decide +kernel
theorem dX6_paintUsed_9 : decode cX6_paintUsed 9 = .ok (.ireturn, 1) := by decide +kernel
theorem dX6_paintDripped_0 : decode cX6_paintDripped 0 = .ok (.aload_n 0, 1) := by decide +kernel
theorem dX6_paintDripped_1 : decode cX6_paintDripped 1 = .ok (.iconst 0, 1) := by decide +kernel
theorem dX6_paintDripped_2 : decode cX6_paintDripped 2 = .ok (.putfield 83, 3) := by decide +kernel
theorem dX6_paintDripped_5 : decode cX6_paintDripped 5 = .ok (.aload_n 0, 1) := by decide +kernel
theorem dX6_paintDripped_6 : decode cX6_paintDripped 6 = .ok (.getfield 180, 3) := by decide +kernel
theorem dX6_paintDripped_9 : decode cX6_paintDripped 9 = .ok (.ireturn, 1) := by decide +kernel
theorem dX6_paintPoured_0 : decode cX6_paintPoured 0 = .ok (.aload_n 0, 1) := by decide +kernel
theorem dX6_paintPoured_1 : decode cX6_paintPoured 1 = .ok (.iconst 0, 1) := by decide +kernel
theorem dX6_paintPoured_2 : decode cX6_paintPoured 2 = .ok (.putfield 83, 3) := by decide +kernel
theorem dX6_paintPoured_5 : decode cX6_paintPoured 5 = .ok (.aload_n 0, 1) := by decide +kernel
theorem dX6_paintPoured_6 : decode cX6_paintPoured 6 = .ok (.getfield 170, 3) := by decide +kernel
theorem dX6_paintPoured_9 : decode cX6_paintPoured 9 = .ok (.ireturn, 1) := by decide +kernel
theorem dX6_isAhead_0 : decode cX6_isAhead 0 = .ok (.aload_n 0, 1) := by decide +kernel
theorem dX6_isAhead_1 : decode cX6_isAhead 1 = .ok (.getfield 46, 3) := by decide +kernel
theorem dX6_isAhead_4 : decode cX6_isAhead 4 = .ok (.iload_n 1, 1) := by decide +kernel
theorem dX6_isAhead_5 : decode cX6_isAhead 5 = .ok (.iaload, 1) := by decide +kernel
theorem dX6_isAhead_6 : decode cX6_isAhead 6 = .ok (.aload_n 0, 1) := by decide +kernel
theorem dX6_isAhead_7 : decode cX6_isAhead 7 = .ok (.getfield 46, 3) := by decide +kernel
theorem dX6_isAhead_10 : decode cX6_isAhead 10 = .ok (.iload_n 2, 1) := by decide +kernel
theorem dX6_isAhead_11 : decode cX6_isAhead 11 = .ok (.iaload, 1) := by decide +kernel
theorem dX6_isAhead_12 : decode cX6_isAhead 12 = .ok (.if_icmp .eq 24, 3) := by decide +kernel
theorem dX6_isAhead_15 : decode cX6_isAhead 15 = .ok (.aload_n 0, 1) := by decide +kernel
theorem dX6_isAhead_16 : decode cX6_isAhead 16 = .ok (.getfield 46, 3) := by decide +kernel
theorem dX6_isAhead_19 : decode cX6_isAhead 19 = .ok (.iload_n 1, 1) := by decide +kernel
theorem dX6_isAhead_20 : decode cX6_isAhead 20 = .ok (.iaload, 1) := by decide +kernel
theorem dX6_isAhead_21 : decode cX6_isAhead 21 = .ok (.aload_n 0, 1) := by decide +kernel
theorem dX6_isAhead_22 : decode cX6_isAhead 22 = .ok (.getfield 46, 3) := by decide +kernel
theorem dX6_isAhead_25 : decode cX6_isAhead 25 = .ok (.iload_n 2, 1) := by decide +kernel
theorem dX6_isAhead_26 : decode cX6_isAhead 26 = .ok (.iaload, 1) := by decide +kernel
theorem dX6_isAhead_27 : decode cX6_isAhead 27 = .ok (.if_icmp .ge 7, 3) := by decide +kernel
theorem dX6_isAhead_30 : decode cX6_isAhead 30 = .ok (.iconst 1, 1) := by decide +kernel
theorem dX6_isAhead_31 : decode cX6_isAhead 31 = .ok (.goto 4, 3) := by decide +kernel
theorem dX6_isAhead_34 : decode cX6_isAhead 34 = .ok (.iconst 0, 1) := by decide +kernel
theorem dX6_isAhead_35 : decode cX6_isAhead 35 = .ok (.ireturn, 1) := by decide +kernel
theorem dX6_isAhead_36 : decode cX6_isAhead 36 = .ok (.aload_n 0, 1) := by decide +kernel
theorem dX6_isAhead_37 : decode cX6_isAhead 37 = .ok (.getfield 22, 3) := by decide +kernel
theorem dX6_isAhead_40 : decode cX6_isAhead 40 = .ok (.iload_n 1, 1) := by decide +kernel
theorem dX6_isAhead_41 : decode cX6_isAhead 41 = .ok (.iaload, 1) := by decide +kernel
theorem dX6_isAhead_42 : decode cX6_isAhead 42 = .ok (.aload_n 0, 1) := by decide +kernel
theorem dX6_isAhead_43 : decode cX6_isAhead 43 = .ok (.getfield 22, 3) := by decide +kernel
theorem dX6_isAhead_46 : decode cX6_isAhead 46 = .ok (.iload_n 2, 1) := by decide +kernel
theorem dX6_isAhead_47 : decode cX6_isAhead 47 = .ok (.iaload, 1) := by decide +kernel
theorem dX6_isAhead_48 : decode cX6_isAhead 48 = .ok (.if_icmp .eq 26, 3) := by decide +kernel
theorem dX6_isAhead_51 : decode cX6_isAhead 51 = .ok (.aload_n 0, 1) := by decide +kernel
theorem dX6_isAhead_52 : decode cX6_isAhead 52 = .ok (.getfield 22, 3) := by decide +kernel
theorem dX6_isAhead_55 : decode cX6_isAhead 55 = .ok (.iload_n 1, 1) := by decide +kernel
theorem dX6_isAhead_56 : decode cX6_isAhead 56 = .ok (.iaload, 1) := by decide +kernel
theorem dX6_isAhead_57 : decode cX6_isAhead 57 = .ok (.aload_n 0, 1) := by decide +kernel
theorem dX6_isAhead_58 : decode cX6_isAhead 58 = .ok (.getfield 22, 3) := by decide +kernel
theorem dX6_isAhead_61 : decode cX6_isAhead 61 = .ok (.iload_n 2, 1) := by decide +kernel
theorem dX6_isAhead_62 : decode cX6_isAhead 62 = .ok (.iaload, 1) := by decide +kernel
theorem dX6_isAhead_63 : decode cX6_isAhead 63 = .ok (.if_icmp .le 7, 3) := by decide +kernel
theorem dX6_isAhead_66 : decode cX6_isAhead 66 = .ok (.iconst 1, 1) := by decide +kernel
theorem dX6_isAhead_67 : decode cX6_isAhead 67 = .ok (.goto 17, 3) := by decide +kernel
theorem dX6_isAhead_70 : decode cX6_isAhead 70 = .ok (.iconst 0, 1) := by decide +kernel
theorem dX6_isAhead_71 : decode cX6_isAhead 71 = .ok (.goto 13, 3) := by decide +kernel
theorem dX6_isAhead_74 : decode cX6_isAhead 74 = .ok (.iload_n 1, 1) := by decide +kernel
theorem dX6_isAhead_75 : decode cX6_isAhead 75 = .ok (.iload_n 2, 1) := by decide +kernel
theorem dX6_isAhead_76 : decode cX6_isAhead 76 = .ok (.if_icmp .ge 7, 3) := by decide +kernel
theorem dX6_isAhead_79 : decode cX6_isAhead 79 = .ok (.iconst 1, 1) := by decide +kernel
theorem dX6_isAhead_80 : decode cX6_isAhead 80 = .ok (.goto 4, 3) := by decide +kernel
theorem dX6_isAhead_83 : decode cX6_isAhead 83 = .ok (.iconst 0, 1) := by decide +kernel
theorem dX6_isAhead_84 : decode cX6_isAhead 84 = .ok (.ireturn, 1) := by decide +kernel
theorem dX6_ahead_0 : decode cX6_ahead 0 = .ok (.iconst 0, 1) := by decide +kernel
theorem dX6_ahead_1 : decode cX6_ahead 1 = .ok (.istore_n 2, 1) := by decide +kernel
theorem dX6_ahead_2 : decode cX6_ahead 2 = .ok (.iconst 0, 1) := by decide +kernel
theorem dX6_ahead_3 : decode cX6_ahead 3 = .ok (.istore_n 3, 1) := by decide +kernel
theorem dX6_ahead_4 : decode cX6_ahead 4 = .ok (.iload_n 3, 1) := by decide +kernel
theorem dX6_ahead_5 : decode cX6_ahead 5 = .ok (.aload_n 0, 1) := by decide +kernel
theorem dX6_ahead_6 : decode cX6_ahead 6 = .ok (.getfield 86, 3) := by decide +kernel
theorem dX6_ahead_9 : decode cX6_ahead 9 = .ok (.if_icmp .ge 41, 3) := by decide +kernel
theorem dX6_ahead_12 : decode cX6_ahead 12 = .ok (.iload_n 2, 1) := by decide +kernel
theorem dX6_ahead_13 : decode cX6_ahead 13 = .ok (.iload_n 3, 1) := by decide +kernel
theorem dX6_ahead_14 : decode cX6_ahead 14 = .ok (.iload_n 1, 1) := by decide +kernel
theorem dX6_ahead_15 : decode cX6_ahead 15 = .ok (.if_icmp .eq 26, 3) := by decide +kernel
theorem dX6_ahead_18 : decode cX6_ahead 18 = .ok (.aload_n 0, 1) := by decide +kernel
theorem dX6_ahead_19 : decode cX6_ahead 19 = .ok (.getfield 46, 3) := by decide +kernel
theorem dX6_ahead_22 : decode cX6_ahead 22 = .ok (.iload_n 3, 1) := by decide +kernel
theorem dX6_ahead_23 : decode cX6_ahead 23 = .ok (.iaload, 1) := by decide +kernel
theorem dX6_ahead_24 : decode cX6_ahead 24 = .ok (.iconst (-1), 1) := by decide +kernel
theorem dX6_ahead_25 : decode cX6_ahead 25 = .ok (.if_icmp .eq 16, 3) := by decide +kernel
theorem dX6_ahead_28 : decode cX6_ahead 28 = .ok (.aload_n 0, 1) := by decide +kernel
theorem dX6_ahead_29 : decode cX6_ahead 29 = .ok (.iload_n 3, 1) := by decide +kernel
theorem dX6_ahead_30 : decode cX6_ahead 30 = .ok (.iload_n 1, 1) := by decide +kernel
theorem dX6_ahead_31 : decode cX6_ahead 31 = .ok (.invokevirtual 183, 3) := by decide +kernel
theorem dX6_ahead_34 : decode cX6_ahead 34 = .ok (.ifCond .eq 7, 3) := by decide +kernel
theorem dX6_ahead_37 : decode cX6_ahead 37 = .ok (.iconst 1, 1) := by decide +kernel
theorem dX6_ahead_38 : decode cX6_ahead 38 = .ok (.goto 4, 3) := by decide +kernel
theorem dX6_ahead_41 : decode cX6_ahead 41 = .ok (.iconst 0, 1) := by decide +kernel
theorem dX6_ahead_42 : decode cX6_ahead 42 = .ok (.iadd, 1) := by decide +kernel
theorem dX6_ahead_43 : decode cX6_ahead 43 = .ok (.istore_n 2, 1) := by decide +kernel
theorem dX6_ahead_44 : decode cX6_ahead 44 = .ok (.iinc 3 1, 3) := by decide +kernel
theorem dX6_ahead_47 : decode cX6_ahead 47 = .ok (.goto (-43), 3) := by decide +kernel
theorem dX6_ahead_50 : decode cX6_ahead 50 = .ok (.iload_n 2, 1) := by decide +kernel
theorem dX6_ahead_51 : decode cX6_ahead 51 = .ok (.ireturn, 1) := by decide +kernel
theorem dX6_waitingAt_0 : decode cX6_waitingAt 0 = .ok (.iconst 0, 1) := by decide +kernel
theorem dX6_waitingAt_1 : decode cX6_waitingAt 1 = .ok (.istore_n 2, 1) := by decide +kernel
theorem dX6_waitingAt_2 : decode cX6_waitingAt 2 = .ok (.iload_n 2, 1) := by decide +kernel
theorem dX6_waitingAt_3 : decode cX6_waitingAt 3 = .ok (.aload_n 0, 1) := by decide +kernel
theorem dX6_waitingAt_4 : decode cX6_waitingAt 4 = .ok (.getfield 86, 3) := by decide +kernel
theorem dX6_waitingAt_7 : decode cX6_waitingAt 7 = .ok (.if_icmp .ge 30, 3) := by decide +kernel
theorem dX6_waitingAt_10 : decode cX6_waitingAt 10 = .ok (.aload_n 0, 1) := by decide +kernel
theorem dX6_waitingAt_11 : decode cX6_waitingAt 11 = .ok (.getfield 46, 3) := by decide +kernel
theorem dX6_waitingAt_14 : decode cX6_waitingAt 14 = .ok (.iload_n 2, 1) := by decide +kernel
theorem dX6_waitingAt_15 : decode cX6_waitingAt 15 = .ok (.iaload, 1) := by decide +kernel
theorem dX6_waitingAt_16 : decode cX6_waitingAt 16 = .ok (.iconst (-1), 1) := by decide +kernel
theorem dX6_waitingAt_17 : decode cX6_waitingAt 17 = .ok (.if_icmp .eq 14, 3) := by decide +kernel
theorem dX6_waitingAt_20 : decode cX6_waitingAt 20 = .ok (.aload_n 0, 1) := by decide +kernel
theorem dX6_waitingAt_21 : decode cX6_waitingAt 21 = .ok (.iload_n 2, 1) := by decide +kernel
theorem dX6_waitingAt_22 : decode cX6_waitingAt 22 = .ok (.invokevirtual 186, 3) := by decide +kernel
theorem dX6_waitingAt_25 : decode cX6_waitingAt 25 = .ok (.iload_n 1, 1) := by decide +kernel
theorem dX6_waitingAt_26 : decode cX6_waitingAt 26 = .ok (.if_icmp .ne 5, 3) := by decide +kernel
theorem dX6_waitingAt_29 : decode cX6_waitingAt 29 = .ok (.iload_n 2, 1) := by decide +kernel
theorem dX6_waitingAt_30 : decode cX6_waitingAt 30 = .ok (.ireturn, 1) := by decide +kernel
theorem dX6_waitingAt_31 : decode cX6_waitingAt 31 = .ok (.iinc 2 1, 3) := by decide +kernel
theorem dX6_waitingAt_34 : decode cX6_waitingAt 34 = .ok (.goto (-32), 3) := by decide +kernel
theorem dX6_waitingAt_37 : decode cX6_waitingAt 37 = .ok (.iconst (-1), 1) := by decide +kernel
theorem dX6_waitingAt_38 : decode cX6_waitingAt 38 = .ok (.ireturn, 1) := by decide +kernel
theorem dX6_order_0 : decode cX6_order 0 = .ok (.aload_n 0, 1) := by decide +kernel
theorem dX6_order_1 : decode cX6_order 1 = .ok (.iload_n 1, 1) := by decide +kernel
theorem dX6_order_2 : decode cX6_order 2 = .ok (.invokevirtual 125, 3) := by decide +kernel
theorem dX6_order_5 : decode cX6_order 5 = .ok (.ifCond .ne 5, 3) := by decide +kernel
theorem dX6_order_8 : decode cX6_order 8 = .ok (.iconst 0, 1) := by decide +kernel
theorem dX6_order_9 : decode cX6_order 9 = .ok (.ireturn, 1) := by decide +kernel
theorem dX6_order_10 : decode cX6_order 10 = .ok (.iload_n 2, 1) := by decide +kernel
theorem dX6_order_11 : decode cX6_order 11 = .ok (.invokestatic 121, 3) := by decide +kernel
theorem dX6_order_14 : decode cX6_order 14 = .ok (.ifCond .ne 9, 3) := by decide +kernel
theorem dX6_order_17 : decode cX6_order 17 = .ok (.aload_n 0, 1) := by decide +kernel
theorem dX6_order_18 : decode cX6_order 18 = .ok (.iconst 2, 1) := by decide +kernel
theorem dX6_order_19 : decode cX6_order 19 = .ok (.invokevirtual 98, 3) := by decide +kernel
theorem dX6_order_22 : decode cX6_order 22 = .ok (.ireturn, 1) := by decide +kernel
theorem dX6_order_23 : decode cX6_order 23 = .ok (.aload_n 0, 1) := by decide +kernel
theorem dX6_order_24 : decode cX6_order 24 = .ok (.getfield 46, 3) := by decide +kernel
theorem dX6_order_27 : decode cX6_order 27 = .ok (.iload_n 1, 1) := by decide +kernel
theorem dX6_order_28 : decode cX6_order 28 = .ok (.iaload, 1) := by decide +kernel
theorem dX6_order_29 : decode cX6_order 29 = .ok (.iconst (-1), 1) := by decide +kernel
theorem dX6_order_30 : decode cX6_order 30 = .ok (.if_icmp .eq 9, 3) := by decide +kernel
theorem dX6_order_33 : decode cX6_order 33 = .ok (.aload_n 0, 1) := by decide +kernel
theorem dX6_order_34 : decode cX6_order 34 = .ok (.iconst 3, 1) := by decide +kernel
theorem dX6_order_35 : decode cX6_order 35 = .ok (.invokevirtual 98, 3) := by decide +kernel
theorem dX6_order_38 : decode cX6_order 38 = .ok (.ireturn, 1) := by decide +kernel
theorem dX6_order_39 : decode cX6_order 39 = .ok (.aload_n 0, 1) := by decide +kernel
theorem dX6_order_40 : decode cX6_order 40 = .ok (.getfield 46, 3) := by decide +kernel
theorem dX6_order_43 : decode cX6_order 43 = .ok (.iload_n 1, 1) := by decide +kernel
theorem dX6_order_44 : decode cX6_order 44 = .ok (.iload_n 2, 1) := by decide +kernel
theorem dX6_order_45 : decode cX6_order 45 = .ok (.iastore, 1) := by decide +kernel
theorem dX6_order_46 : decode cX6_order 46 = .ok (.aload_n 0, 1) := by decide +kernel
theorem dX6_order_47 : decode cX6_order 47 = .ok (.iload_n 1, 1) := by decide +kernel
theorem dX6_order_48 : decode cX6_order 48 = .ok (.invokevirtual 186, 3) := by decide +kernel
theorem dX6_order_51 : decode cX6_order 51 = .ok (.ireturn, 1) := by decide +kernel
theorem dX6_cancelOrder_0 : decode cX6_cancelOrder 0 = .ok (.aload_n 0, 1) := by decide +kernel
theorem dX6_cancelOrder_1 : decode cX6_cancelOrder 1 = .ok (.iload_n 1, 1) := by decide +kernel
theorem dX6_cancelOrder_2 : decode cX6_cancelOrder 2 = .ok (.invokevirtual 125, 3) := by decide +kernel
theorem dX6_cancelOrder_5 : decode cX6_cancelOrder 5 = .ok (.ifCond .ne 5, 3) := by decide +kernel
theorem dX6_cancelOrder_8 : decode cX6_cancelOrder 8 = .ok (.iconst 0, 1) := by decide +kernel
theorem dX6_cancelOrder_9 : decode cX6_cancelOrder 9 = .ok (.ireturn, 1) := by decide +kernel
theorem dX6_cancelOrder_10 : decode cX6_cancelOrder 10 = .ok (.aload_n 0, 1) := by decide +kernel
theorem dX6_cancelOrder_11 : decode cX6_cancelOrder 11 = .ok (.getfield 46, 3) := by decide +kernel
theorem dX6_cancelOrder_14 : decode cX6_cancelOrder 14 = .ok (.iload_n 1, 1) := by decide +kernel
theorem dX6_cancelOrder_15 : decode cX6_cancelOrder 15 = .ok (.iaload, 1) := by decide +kernel
theorem dX6_cancelOrder_16 : decode cX6_cancelOrder 16 = .ok (.iconst (-1), 1) := by decide +kernel
theorem dX6_cancelOrder_17 : decode cX6_cancelOrder 17 = .ok (.if_icmp .ne 9, 3) := by decide +kernel
theorem dX6_cancelOrder_20 : decode cX6_cancelOrder 20 = .ok (.aload_n 0, 1) := by decide +kernel
theorem dX6_cancelOrder_21 : decode cX6_cancelOrder 21 = .ok (.iconst 2, 1) := by decide +kernel
theorem dX6_cancelOrder_22 : decode cX6_cancelOrder 22 = .ok (.invokevirtual 98, 3) := by decide +kernel
theorem dX6_cancelOrder_25 : decode cX6_cancelOrder 25 = .ok (.ireturn, 1) := by decide +kernel
theorem dX6_cancelOrder_26 : decode cX6_cancelOrder 26 = .ok (.aload_n 0, 1) := by decide +kernel
theorem dX6_cancelOrder_27 : decode cX6_cancelOrder 27 = .ok (.getfield 46, 3) := by decide +kernel
theorem dX6_cancelOrder_30 : decode cX6_cancelOrder 30 = .ok (.iload_n 1, 1) := by decide +kernel
theorem dX6_cancelOrder_31 : decode cX6_cancelOrder 31 = .ok (.iaload, 1) := by decide +kernel
theorem dX6_cancelOrder_32 : decode cX6_cancelOrder 32 = .ok (.istore_n 2, 1) := by decide +kernel
theorem dX6_cancelOrder_33 : decode cX6_cancelOrder 33 = .ok (.aload_n 0, 1) := by decide +kernel
theorem dX6_cancelOrder_34 : decode cX6_cancelOrder 34 = .ok (.getfield 46, 3) := by decide +kernel
theorem dX6_cancelOrder_37 : decode cX6_cancelOrder 37 = .ok (.iload_n 1, 1) := by decide +kernel
theorem dX6_cancelOrder_38 : decode cX6_cancelOrder 38 = .ok (.iconst (-1), 1) := by decide +kernel
theorem dX6_cancelOrder_39 : decode cX6_cancelOrder 39 = .ok (.iastore, 1) := by decide +kernel
theorem dX6_cancelOrder_40 : decode cX6_cancelOrder 40 = .ok (.iload_n 2, 1) := by decide +kernel
theorem dX6_cancelOrder_41 : decode cX6_cancelOrder 41 = .ok (.ireturn, 1) := by decide +kernel
theorem dX6_waitingOrders_0 : decode cX6_waitingOrders 0 = .ok (.aload_n 0, 1) := by decide +kernel
theorem dX6_waitingOrders_1 : decode cX6_waitingOrders 1 = .ok (.iconst 0, 1) := by decide +kernel
theorem dX6_waitingOrders_2 : decode cX6_waitingOrders 2 = .ok (.putfield 83, 3) := by decide +kernel
theorem dX6_waitingOrders_5 : decode cX6_waitingOrders 5 = .ok (.iconst 0, 1) := by decide +kernel
theorem dX6_waitingOrders_6 : decode cX6_waitingOrders 6 = .ok (.istore_n 1, 1) := by decide +kernel
theorem dX6_waitingOrders_7 : decode cX6_waitingOrders 7 = .ok (.iconst 0, 1) := by decide +kernel
theorem dX6_waitingOrders_8 : decode cX6_waitingOrders 8 = .ok (.istore_n 2, 1) := by decide +kernel
theorem dX6_waitingOrders_9 : decode cX6_waitingOrders 9 = .ok (.iload_n 2, 1) := by decide +kernel
theorem dX6_waitingOrders_10 : decode cX6_waitingOrders 10 = .ok (.aload_n 0, 1) := by decide +kernel
theorem dX6_waitingOrders_11 : decode cX6_waitingOrders 11 = .ok (.getfield 86, 3) := by decide +kernel
theorem dX6_waitingOrders_14 : decode cX6_waitingOrders 14 = .ok (.if_icmp .ge 27, 3) := by decide +kernel
theorem dX6_waitingOrders_17 : decode cX6_waitingOrders 17 = .ok (.iload_n 1, 1) := by decide +kernel
theorem dX6_waitingOrders_18 : decode cX6_waitingOrders 18 = .ok (.aload_n 0, 1) := by decide +kernel
theorem dX6_waitingOrders_19 : decode cX6_waitingOrders 19 = .ok (.getfield 46, 3) := by decide +kernel
theorem dX6_waitingOrders_22 : decode cX6_waitingOrders 22 = .ok (.iload_n 2, 1) := by decide +kernel
theorem dX6_waitingOrders_23 : decode cX6_waitingOrders 23 = .ok (.iaload, 1) := by decide +kernel
theorem dX6_waitingOrders_24 : decode cX6_waitingOrders 24 = .ok (.iconst (-1), 1) := by decide +kernel
theorem dX6_waitingOrders_25 : decode cX6_waitingOrders 25 = .ok (.if_icmp .ne 7, 3) := by decide +kernel
theorem dX6_waitingOrders_28 : decode cX6_waitingOrders 28 = .ok (.iconst 0, 1) := by decide +kernel
theorem dX6_waitingOrders_29 : decode cX6_waitingOrders 29 = .ok (.goto 4, 3) := by decide +kernel
theorem dX6_waitingOrders_32 : decode cX6_waitingOrders 32 = .ok (.iconst 1, 1) := by decide +kernel
theorem dX6_waitingOrders_33 : decode cX6_waitingOrders 33 = .ok (.iadd, 1) := by decide +kernel
theorem dX6_waitingOrders_34 : decode cX6_waitingOrders 34 = .ok (.istore_n 1, 1) := by decide +kernel
theorem dX6_waitingOrders_35 : decode cX6_waitingOrders 35 = .ok (.iinc 2 1, 3) := by decide +kernel
theorem dX6_waitingOrders_38 : decode cX6_waitingOrders 38 = .ok (.goto (-29), 3) := by decide +kernel
theorem dX6_waitingOrders_41 : decode cX6_waitingOrders 41 = .ok (.iload_n 1, 1) := by decide +kernel
theorem dX6_waitingOrders_42 : decode cX6_waitingOrders 42 = .ok (.ireturn, 1) := by decide +kernel
theorem dX6_waitingPier_0 : decode cX6_waitingPier 0 = .ok (.aload_n 0, 1) := by decide +kernel
theorem dX6_waitingPier_1 : decode cX6_waitingPier 1 = .ok (.iload_n 1, 1) := by decide +kernel
theorem dX6_waitingPier_2 : decode cX6_waitingPier 2 = .ok (.invokevirtual 189, 3) := by decide +kernel
theorem dX6_waitingPier_5 : decode cX6_waitingPier 5 = .ok (.istore_n 2, 1) := by decide +kernel
theorem dX6_waitingPier_6 : decode cX6_waitingPier 6 = .ok (.aload_n 0, 1) := by decide +kernel
theorem dX6_waitingPier_7 : decode cX6_waitingPier 7 = .ok (.iload_n 2, 1) := by decide +kernel
theorem dX6_waitingPier_8 : decode cX6_waitingPier 8 = .ok (.iconst (-1), 1) := by decide +kernel
theorem dX6_waitingPier_9 : decode cX6_waitingPier 9 = .ok (.if_icmp .eq 7, 3) := by decide +kernel
theorem dX6_waitingPier_12 : decode cX6_waitingPier 12 = .ok (.iconst 1, 1) := by decide +kernel
theorem dX6_waitingPier_13 : decode cX6_waitingPier 13 = .ok (.goto 4, 3) := by decide +kernel
theorem dX6_waitingPier_16 : decode cX6_waitingPier 16 = .ok (.iconst 0, 1) := by decide +kernel
theorem dX6_waitingPier_17 : decode cX6_waitingPier 17 = .ok (.iconst 1, 1) := by decide +kernel
theorem dX6_waitingPier_18 : decode cX6_waitingPier 18 = .ok (.invokevirtual 93, 3) := by decide +kernel
theorem dX6_waitingPier_21 : decode cX6_waitingPier 21 = .ok (.ifCond .eq 7, 3) := by decide +kernel
theorem dX6_waitingPier_24 : decode cX6_waitingPier 24 = .ok (.iload_n 2, 1) := by decide +kernel
theorem dX6_waitingPier_25 : decode cX6_waitingPier 25 = .ok (.goto 4, 3) := by decide +kernel
theorem dX6_waitingPier_28 : decode cX6_waitingPier 28 = .ok (.iconst 0, 1) := by decide +kernel
theorem dX6_waitingPier_29 : decode cX6_waitingPier 29 = .ok (.ireturn, 1) := by decide +kernel
theorem dX6_jobPier_0 : decode cX6_jobPier 0 = .ok (.aload_n 0, 1) := by decide +kernel
theorem dX6_jobPier_1 : decode cX6_jobPier 1 = .ok (.iconst 0, 1) := by decide +kernel
theorem dX6_jobPier_2 : decode cX6_jobPier 2 = .ok (.putfield 83, 3) := by decide +kernel
theorem dX6_jobPier_5 : decode cX6_jobPier 5 = .ok (.aload_n 0, 1) := by decide +kernel
theorem dX6_jobPier_6 : decode cX6_jobPier 6 = .ok (.getfield 49, 3) := by decide +kernel
theorem dX6_jobPier_9 : decode cX6_jobPier 9 = .ok (.ireturn, 1) := by decide +kernel
theorem dX6_linesToPaint_0 : decode cX6_linesToPaint 0 = .ok (.aload_n 0, 1) := by decide +kernel
theorem dX6_linesToPaint_1 : decode cX6_linesToPaint 1 = .ok (.iconst 0, 1) := by decide +kernel
theorem dX6_linesToPaint_2 : decode cX6_linesToPaint 2 = .ok (.putfield 83, 3) := by decide +kernel
theorem dX6_linesToPaint_5 : decode cX6_linesToPaint 5 = .ok (.aload_n 0, 1) := by decide +kernel
theorem dX6_linesToPaint_6 : decode cX6_linesToPaint 6 = .ok (.getfield 49, 3) := by decide +kernel
theorem dX6_linesToPaint_9 : decode cX6_linesToPaint 9 = .ok (.iconst (-1), 1) := by decide +kernel
theorem dX6_linesToPaint_10 : decode cX6_linesToPaint 10 = .ok (.if_icmp .ne 7, 3) := by decide +kernel
theorem dX6_linesToPaint_13 : decode cX6_linesToPaint 13 = .ok (.iconst 0, 1) := by decide +kernel
theorem dX6_linesToPaint_14 : decode cX6_linesToPaint 14 = .ok (.goto 9, 3) := by decide +kernel
theorem dX6_linesToPaint_17 : decode cX6_linesToPaint 17 = .ok (.aload_n 0, 1) := by decide +kernel
theorem dX6_linesToPaint_18 : decode cX6_linesToPaint 18 = .ok (.getfield 192, 3) := by decide +kernel
theorem dX6_linesToPaint_21 : decode cX6_linesToPaint 21 = .ok (.iconst 1, 1) := by decide +kernel
theorem dX6_linesToPaint_22 : decode cX6_linesToPaint 22 = .ok (.iadd, 1) := by decide +kernel
theorem dX6_linesToPaint_23 : decode cX6_linesToPaint 23 = .ok (.ireturn, 1) := by decide +kernel
theorem dX6_begin_0 : decode cX6_begin 0 = .ok (.aload_n 0, 1) := by decide +kernel
theorem dX6_begin_1 : decode cX6_begin 1 = .ok (.iload_n 1, 1) := by decide +kernel
theorem dX6_begin_2 : decode cX6_begin 2 = .ok (.aload_n 0, 1) := by decide +kernel
theorem dX6_begin_3 : decode cX6_begin 3 = .ok (.getfield 46, 3) := by decide +kernel
theorem dX6_begin_6 : decode cX6_begin 6 = .ok (.iload_n 1, 1) := by decide +kernel
theorem dX6_begin_7 : decode cX6_begin 7 = .ok (.iaload, 1) := by decide +kernel
theorem dX6_begin_8 : decode cX6_begin 8 = .ok (.invokevirtual 140, 3) := by decide +kernel
theorem dX6_begin_11 : decode cX6_begin 11 = .ok (.aload_n 0, 1) := by decide +kernel
theorem dX6_begin_12 : decode cX6_begin 12 = .ok (.getfield 53, 3) := by decide +kernel
theorem dX6_begin_15 : decode cX6_begin 15 = .ok (.iload_n 1, 1) := by decide +kernel
theorem dX6_begin_16 : decode cX6_begin 16 = .ok (.aload_n 0, 1) := by decide +kernel
theorem dX6_begin_17 : decode cX6_begin 17 = .ok (.getfield 46, 3) := by decide +kernel
theorem dX6_begin_20 : decode cX6_begin 20 = .ok (.iload_n 1, 1) := by decide +kernel
theorem dX6_begin_21 : decode cX6_begin 21 = .ok (.iaload, 1) := by decide +kernel
theorem dX6_begin_22 : decode cX6_begin 22 = .ok (.iastore, 1) := by decide +kernel
theorem dX6_begin_23 : decode cX6_begin 23 = .ok (.aload_n 0, 1) := by decide +kernel
theorem dX6_begin_24 : decode cX6_begin 24 = .ok (.getfield 46, 3) := by decide +kernel
theorem dX6_begin_27 : decode cX6_begin 27 = .ok (.iload_n 1, 1) := by decide +kernel
theorem dX6_begin_28 : decode cX6_begin 28 = .ok (.iconst (-1), 1) := by decide +kernel
theorem dX6_begin_29 : decode cX6_begin 29 = .ok (.iastore, 1) := by decide +kernel
theorem dX6_begin_30 : decode cX6_begin 30 = .ok (.aload_n 0, 1) := by decide +kernel
theorem dX6_begin_31 : decode cX6_begin 31 = .ok (.getfield 56, 3) := by decide +kernel
theorem dX6_begin_34 : decode cX6_begin 34 = .ok (.iload_n 1, 1) := by decide +kernel
theorem dX6_begin_35 : decode cX6_begin 35 = .ok (.aload_n 0, 1) := by decide +kernel
theorem dX6_begin_36 : decode cX6_begin 36 = .ok (.getfield 134, 3) := by decide +kernel
theorem dX6_begin_39 : decode cX6_begin 39 = .ok (.iastore, 1) := by decide +kernel
theorem dX6_begin_40 : decode cX6_begin 40 = .ok (.aload_n 0, 1) := by decide +kernel
theorem dX6_begin_41 : decode cX6_begin 41 = .ok (.getfield 59, 3) := by decide +kernel
