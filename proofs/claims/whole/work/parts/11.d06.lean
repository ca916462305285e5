theorem dL_rangeOf_19 : decode cL_rangeOf 19 = .ok (.iconst 2, 1) := by decide +kernel
theorem dL_rangeOf_20 : decode cL_rangeOf 20 = .ok (.ireturn, 1) := by decide +kernel
theorem dL_rangeOf_21 : decode cL_rangeOf 21 = .ok (.iconst 0, 1) := by decide +kernel
theorem dL_rangeOf_22 : decode cL_rangeOf 22 = .ok (.ireturn, 1) := by decide +kernel
theorem dL_waterCount_0 : decode cL_waterCount 0 = .ok (.aload_n 3, 1) := by decide +kernel
theorem dL_waterCount_1 : decode cL_waterCount 1 = .ok (.iconst 0, 1) := by decide +kernel
theorem dL_waterCount_2 : decode cL_waterCount 2 = .ok (.aload_n 0, 1) := by decide +kernel
theorem dL_waterCount_3 : decode cL_waterCount 3 = .ok (.iload_n 1, 1) := by decide +kernel
theorem dL_waterCount_4 : decode cL_waterCount 4 = .ok (.iload_n 2, 1) := by decide +kernel
theorem dL_waterCount_5 : decode cL_waterCount 5 = .ok (.invokevirtual 30, 3) := by decide +kernel
theorem dL_waterCount_8 : decode cL_waterCount 8 = .ok (.i2l, 1) := by decide +kernel
theorem dL_waterCount_9 : decode cL_waterCount 9 = .ok (.lastore, 1) := by decide +kernel
theorem dL_waterCount_10 : decode cL_waterCount 10 = .ok (.goto 11, 3) := by decide +kernel
theorem dL_waterCount_13 : decode cL_waterCount 13 = .ok (.astore 4, 2) := by decide +kernel
theorem dL_waterCount_15 : decode cL_waterCount 15 = .ok (.iconst 1, 1) := by decide +kernel
theorem dL_waterCount_16 : decode cL_waterCount 16 = .ok (.ireturn, 1) := by decide +kernel
theorem dL_waterCount_17 : decode cL_waterCount 17 = .ok (.astore 4, 2) := by decide +kernel
theorem dL_waterCount_19 : decode cL_waterCount 19 = .ok (.iconst 2, 1) := by decide +kernel
theorem dL_waterCount_20 : decode cL_waterCount 20 = .ok (.ireturn, 1) := by decide +kernel
theorem dL_waterCount_21 : decode cL_waterCount 21 = .ok (.iconst 0, 1) := by decide +kernel
theorem dL_waterCount_22 : decode cL_waterCount 22 = .ok (.ireturn, 1) := by decide +kernel
theorem dL_waterMinute_0 : decode cL_waterMinute 0 = .ok (.aload 4, 2) := by decide +kernel
theorem dL_waterMinute_2 : decode cL_waterMinute 2 = .ok (.iconst 0, 1) := by decide +kernel
theorem dL_waterMinute_3 : decode cL_waterMinute 3 = .ok (.aload_n 0, 1) := by decide +kernel
theorem dL_waterMinute_4 : decode cL_waterMinute 4 = .ok (.iload_n 1, 1) := by decide +kernel
theorem dL_waterMinute_5 : decode cL_waterMinute 5 = .ok (.iload_n 2, 1) := by decide +kernel
theorem dL_waterMinute_6 : decode cL_waterMinute 6 = .ok (.iload_n 3, 1) := by decide +kernel
theorem dL_waterMinute_7 : decode cL_waterMinute 7 = .ok (.invokevirtual 33, 3) := by decide +kernel
theorem dL_waterMinute_10 : decode cL_waterMinute 10 = .ok (.i2l, 1) := by decide +kernel
theorem dL_waterMinute_11 : decode cL_waterMinute 11 = .ok (.lastore, 1) := by decide +kernel
theorem dL_waterMinute_12 : decode cL_waterMinute 12 = .ok (.goto 11, 3) := by decide +kernel
theorem dL_waterMinute_15 : decode cL_waterMinute 15 = .ok (.astore 5, 2) := by decide +kernel
theorem dL_waterMinute_17 : decode cL_waterMinute 17 = .ok (.iconst 1, 1) := by decide +kernel
theorem dL_waterMinute_18 : decode cL_waterMinute 18 = .ok (.ireturn, 1) := by decide +kernel
theorem dL_waterMinute_19 : decode cL_waterMinute 19 = .ok (.astore 5, 2) := by decide +kernel
theorem dL_waterMinute_21 : decode cL_waterMinute 21 = .ok (.iconst 2, 1) := by decide +kernel
theorem dL_waterMinute_22 : decode cL_waterMinute 22 = .ok (.ireturn, 1) := by decide +kernel
theorem dL_waterMinute_23 : decode cL_waterMinute 23 = .ok (.iconst 0, 1) := by decide +kernel
theorem dL_waterMinute_24 : decode cL_waterMinute 24 = .ok (.ireturn, 1) := by decide +kernel
theorem dL_waterHeight_0 : decode cL_waterHeight 0 = .ok (.aload 4, 2) := by decide +kernel
theorem dL_waterHeight_2 : decode cL_waterHeight 2 = .ok (.iconst 0, 1) := by decide +kernel
theorem dL_waterHeight_3 : decode cL_waterHeight 3 = .ok (.aload_n 0, 1) := by decide +kernel
theorem dL_waterHeight_4 : decode cL_waterHeight 4 = .ok (.iload_n 1, 1) := by decide +kernel
theorem dL_waterHeight_5 : decode cL_waterHeight 5 = .ok (.iload_n 2, 1) := by decide +kernel
theorem dL_waterHeight_6 : decode cL_waterHeight 6 = .ok (.iload_n 3, 1) := by decide +kernel
theorem dL_waterHeight_7 : decode cL_waterHeight 7 = .ok (.invokevirtual 37, 3) := by decide +kernel
theorem dL_waterHeight_10 : decode cL_waterHeight 10 = .ok (.i2l, 1) := by decide +kernel
theorem dL_waterHeight_11 : decode cL_waterHeight 11 = .ok (.lastore, 1) := by decide +kernel
theorem dL_waterHeight_12 : decode cL_waterHeight 12 = .ok (.goto 11, 3) := by decide +kernel
theorem dL_waterHeight_15 : decode cL_waterHeight 15 = .ok (.astore 5, 2) := by decide +kernel
theorem dL_waterHeight_17 : decode cL_waterHeight 17 = .ok (.iconst 1, 1) := by decide +kernel
theorem dL_waterHeight_18 : decode cL_waterHeight 18 = .ok (.ireturn, 1) := by decide +kernel
theorem dL_waterHeight_19 : decode cL_waterHeight 19 = .ok (.astore 5, 2) := by decide +kernel
theorem dL_waterHeight_21 : decode cL_waterHeight 21 = .ok (.iconst 2, 1) := by decide +kernel
theorem dL_waterHeight_22 : decode cL_waterHeight 22 = .ok (.ireturn, 1) := by decide +kernel
theorem dL_waterHeight_23 : decode cL_waterHeight 23 = .ok (.iconst 0, 1) := by decide +kernel
theorem dL_waterHeight_24 : decode cL_waterHeight 24 = .ok (.ireturn, 1) := by decide +kernel
theorem dL_isHighWater_0 : decode cL_isHighWater 0 = .ok (.aload 4, 2) := by decide +kernel
theorem dL_isHighWater_2 : decode cL_isHighWater 2 = .ok (.iconst 0, 1) := by decide +kernel
theorem dL_isHighWater_3 : decode cL_isHighWater 3 = .ok (.aload_n 0, 1) := by decide +kernel
theorem dL_isHighWater_4 : decode cL_isHighWater 4 = .ok (.iload_n 1, 1) := by decide +kernel
theorem dL_isHighWater_5 : decode cL_isHighWater 5 = .ok (.iload_n 2, 1) := by decide +kernel
theorem dL_isHighWater_6 : decode cL_isHighWater 6 = .ok (.iload_n 3, 1) := by decide +kernel
theorem dL_isHighWater_7 : decode cL_isHighWater 7 = .ok (.invokevirtual 40, 3) := by decide +kernel
theorem dL_isHighWater_10 : decode cL_isHighWater 10 = .ok (.ifCond .eq 7, 3) := by decide +kernel
theorem dL_isHighWater_13 : decode cL_isHighWater 13 = .ok (.lconst 1, 1) := by decide +kernel
theorem dL_isHighWater_14 : decode cL_isHighWater 14 = .ok (.goto 4, 3) := by decide +kernel
theorem dL_isHighWater_17 : decode cL_isHighWater 17 = .ok (.lconst 0, 1) := by decide +kernel
theorem dL_isHighWater_18 : decode cL_isHighWater 18 = .ok (.lastore, 1) := by decide +kernel
theorem dL_isHighWater_19 : decode cL_isHighWater 19 = .ok (.goto 11, 3) := by decide +kernel
theorem dL_isHighWater_22 : decode cL_isHighWater 22 = .ok (.astore 5, 2) := by decide +kernel
theorem dL_isHighWater_24 : decode cL_isHighWater 24 = .ok (.iconst 1, 1) := by decide +kernel
theorem dL_isHighWater_25 : decode cL_isHighWater 25 = .ok (.ireturn, 1) := by decide +kernel
theorem dL_isHighWater_26 : decode cL_isHighWater 26 = .ok (.astore 5, 2) := by decide +kernel
theorem dL_isHighWater_28 : decode cL_isHighWater 28 = .ok (.iconst 2, 1) := by decide +kernel
theorem dL_isHighWater_29 : decode cL_isHighWater 29 = .ok (.ireturn, 1) := by decide +kernel
theorem dL_isHighWater_30 : decode cL_isHighWater 30 = .ok (.iconst 0, 1) := by decide +kernel
theorem dL_isHighWater_31 : decode cL_isHighWater 31 = .ok (.ireturn, 1) := by decide +kernel
theorem dL_minutesToHighWater_0 : decode cL_minutesToHighWater 0 = .ok (.aload 4, 2) := by decide +kernel
theorem dL_minutesToHighWater_2 : decode cL_minutesToHighWater 2 = .ok (.iconst 0, 1) := by decide +kernel
theorem dL_minutesToHighWater_3 : decode cL_minutesToHighWater 3 = .ok (.aload_n 0, 1) := by decide +kernel
theorem dL_minutesToHighWater_4 : decode cL_minutesToHighWater 4 = .ok (.iload_n 1, 1) := by decide +kernel
theorem dL_minutesToHighWater_5 : decode cL_minutesToHighWater 5 = .ok (.iload_n 2, 1) := by decide +kernel
theorem dL_minutesToHighWater_6 : decode cL_minutesToHighWater 6 = .ok (.iload_n 3, 1) := by decide +kernel
theorem dL_minutesToHighWater_7 : decode cL_minutesToHighWater 7 = .ok (.invokevirtual 44, 3) := by decide +kernel
theorem dL_minutesToHighWater_10 : decode cL_minutesToHighWater 10 = .ok (.i2l, 1) := by decide +kernel
theorem dL_minutesToHighWater_11 : decode cL_minutesToHighWater 11 = .ok (.lastore, 1) := by decide +kernel
theorem dL_minutesToHighWater_12 : decode cL_minutesToHighWater 12 = .ok (.goto 11, 3) := by decide +kernel
theorem dL_minutesToHighWater_15 : decode cL_minutesToHighWater 15 = .ok (.astore 5, 2) := by decide +kernel
theorem dL_minutesToHighWater_17 : decode cL_minutesToHighWater 17 = .ok (.iconst 1, 1) := by decide +kernel
theorem dL_minutesToHighWater_18 : decode cL_minutesToHighWater 18 = .ok (.ireturn, 1) := by decide +kernel
theorem dL_minutesToHighWater_19 : decode cL_minutesToHighWater 19 = .ok (.astore 5, 2) := by decide +kernel
theorem dL_minutesToHighWater_21 : decode cL_minutesToHighWater 21 = .ok (.iconst 2, 1) := by decide +kernel
theorem dL_minutesToHighWater_22 : decode cL_minutesToHighWater 22 = .ok (.ireturn, 1) := by decide +kernel
theorem dL_minutesToHighWater_23 : decode cL_minutesToHighWater 23 = .ok (.iconst 0, 1) := by decide +kernel
theorem dL_minutesToHighWater_24 : decode cL_minutesToHighWater 24 = .ok (.ireturn, 1) := by decide +kernel
theorem dL_report_0 : decode cL_report 0 = .ok (.aload 4, 2) := by decide +kernel
theorem dL_report_2 : decode cL_report 2 = .ok (.iconst 0, 1) := by decide +kernel
theorem dL_report_3 : decode cL_report 3 = .ok (.aload_n 0, 1) := by decide +kernel
theorem dL_report_4 : decode cL_report 4 = .ok (.iload_n 1, 1) := by decide +kernel
theorem dL_report_5 : decode cL_report 5 = .ok (.iload_n 2, 1) := by decide +kernel
theorem dL_report_6 : decode cL_report 6 = .ok (.iload_n 3, 1) := by decide +kernel
theorem dL_report_7 : decode cL_report 7 = .ok (.invokevirtual 47, 3) := by decide +kernel
theorem dL_report_10 : decode cL_report 10 = .ok (.i2l, 1) := by decide +kernel
theorem dL_report_11 : decode cL_report 11 = .ok (.lastore, 1) := by decide +kernel
theorem dL_report_12 : decode cL_report 12 = .ok (.goto 11, 3) := by decide +kernel
theorem dL_report_15 : decode cL_report 15 = .ok (.astore 5, 2) := by decide +kernel
theorem dL_report_17 : decode cL_report 17 = .ok (.iconst 1, 1) := by decide +kernel
theorem dL_report_18 : decode cL_report 18 = .ok (.ireturn, 1) := by decide +kernel
theorem dL_report_19 : decode cL_report 19 = .ok (.astore 5, 2) := by decide +kernel
theorem dL_report_21 : decode cL_report 21 = .ok (.iconst 2, 1) := by decide +kernel
theorem dL_report_22 : decode cL_report 22 = .ok (.ireturn, 1) := by decide +kernel
theorem dL_report_23 : decode cL_report 23 = .ok (.iconst 0, 1) := by decide +kernel
theorem dL_report_24 : decode cL_report 24 = .ok (.ireturn, 1) := by decide +kernel
theorem dL_observe_0 : decode cL_observe 0 = .ok (.aload_n 3, 1) := by decide +kernel
theorem dL_observe_1 : decode cL_observe 1 = .ok (.iconst 0, 1) := by decide +kernel
theorem dL_observe_2 : decode cL_observe 2 = .ok (.aload_n 0, 1) := by decide +kernel
theorem dL_observe_3 : decode cL_observe 3 = .ok (.iload_n 1, 1) := by decide +kernel
theorem dL_observe_4 : decode cL_observe 4 = .ok (.iload_n 2, 1) := by decide +kernel
theorem dL_observe_5 : decode cL_observe 5 = .ok (.invokevirtual 50, 3) := by decide +kernel
theorem dL_observe_8 : decode cL_observe 8 = .ok (.i2l, 1) := by decide +kernel
theorem dL_observe_9 : decode cL_observe 9 = .ok (.lastore, 1) := by decide +kernel
theorem dL_observe_10 : decode cL_observe 10 = .ok (.goto 11, 3) := by decide +kernel
theorem dL_observe_13 : decode cL_observe 13 = .ok (.astore 4, 2) := by decide +kernel
theorem dL_observe_15 : decode cL_observe 15 = .ok (.iconst 1, 1) := by decide +kernel
theorem dL_observe_16 : decode cL_observe 16 = .ok (.ireturn, 1) := by decide +kernel
theorem dL_observe_17 : decode cL_observe 17 = .ok (.astore 4, 2) := by decide +kernel
theorem dL_observe_19 : decode cL_observe 19 = .ok (.iconst 2, 1) := by decide +kernel
theorem dL_observe_20 : decode cL_observe 20 = .ok (.ireturn, 1) := by decide +kernel
theorem dL_observe_21 : decode cL_observe 21 = .ok (.iconst 0, 1) := by decide +kernel
theorem dL_observe_22 : decode cL_observe 22 = .ok (.ireturn, 1) := by decide +kernel
theorem dL_correctionOf_0 : decode cL_correctionOf 0 = .ok (.aload_n 2, 1) := by decide +kernel
theorem dL_correctionOf_1 : decode cL_correctionOf 1 = .ok (.iconst 0, 1) := by decide +kernel
theorem dL_correctionOf_2 : decode cL_correctionOf 2 = .ok (.aload_n 0, 1) := by decide +kernel
theorem dL_correctionOf_3 : decode cL_correctionOf 3 = .ok (.iload_n 1, 1) := by decide +kernel
theorem dL_correctionOf_4 : decode cL_correctionOf 4 = .ok (.invokevirtual 53, 3) := by decide +kernel
theorem dL_correctionOf_7 : decode cL_correctionOf 7 = .ok (.i2l, 1) := by decide +kernel
theorem dL_correctionOf_8 : decode cL_correctionOf 8 = .ok (.lastore, 1) := by decide +kernel
theorem dL_correctionOf_9 : decode cL_correctionOf 9 = .ok (.goto 6, 3) := by decide +kernel
theorem dL_correctionOf_12 : decode cL_correctionOf 12 = .ok (.astore_n 3, 1) := by decide +kernel
theorem dL_correctionOf_13 : decode cL_correctionOf 13 = .ok (.iconst 1, 1) := by decide +kernel
theorem dL_correctionOf_14 : decode cL_correctionOf 14 = .ok (.ireturn, 1) := by decide +kernel
theorem dL_correctionOf_15 : decode cL_correctionOf 15 = .ok (.iconst 0, 1) := by decide +kernel
theorem dL_correctionOf_16 : decode cL_correctionOf 16 = .ok (.ireturn, 1) := by decide +kernel
theorem dL_trustOf_0 : decode cL_trustOf 0 = .ok (.aload_n 2, 1) := by decide +kernel
theorem dL_trustOf_1 : decode cL_trustOf 1 = .ok (.iconst 0, 1) := by decide +kernel
theorem dL_trustOf_2 : decode cL_trustOf 2 = .ok (.aload_n 0, 1) := by decide +kernel
theorem dL_trustOf_3 : decode cL_trustOf 3 = .ok (.iload_n 1, 1) := by decide +kernel
theorem dL_trustOf_4 : decode cL_trustOf 4 = .ok (.invokevirtual 56, 3) := by decide +kernel
theorem dL_trustOf_7 : decode cL_trustOf 7 = .ok (.i2l, 1) := by decide +kernel
theorem dL_trustOf_8 : decode cL_trustOf 8 = .ok (.lastore, 1) := by decide +kernel
theorem dL_trustOf_9 : decode cL_trustOf 9 = .ok (.goto 6, 3) := by decide +kernel
theorem dL_trustOf_12 : decode cL_trustOf 12 = .ok (.astore_n 3, 1) := by decide +kernel
theorem dL_trustOf_13 : decode cL_trustOf 13 = .ok (.iconst 1, 1) := by decide +kernel
theorem dL_trustOf_14 : decode cL_trustOf 14 = .ok (.ireturn, 1) := by decide +kernel
theorem dL_trustOf_15 : decode cL_trustOf 15 = .ok (.iconst 0, 1) := by decide +kernel
theorem dL_trustOf_16 : decode cL_trustOf 16 = .ok (.ireturn, 1) := by decide +kernel
theorem dL_reportCount_0 : decode cL_reportCount 0 = .ok (.aload_n 2, 1) := by decide +kernel
theorem dL_reportCount_1 : decode cL_reportCount 1 = .ok (.iconst 0, 1) := by decide +kernel
theorem dL_reportCount_2 : decode cL_reportCount 2 = .ok (.aload_n 0, 1) := by decide +kernel
theorem dL_reportCount_3 : decode cL_reportCount 3 = .ok (.iload_n 1, 1) := by decide +kernel
theorem dL_reportCount_4 : decode cL_reportCount 4 = .ok (.invokevirtual 59, 3) := by decide +kernel
theorem dL_reportCount_7 : decode cL_reportCount 7 = .ok (.i2l, 1) := by decide +kernel
theorem dL_reportCount_8 : decode cL_reportCount 8 = .ok (.lastore, 1) := by decide +kernel
theorem dL_reportCount_9 : decode cL_reportCount 9 = .ok (.goto 6, 3) := by decide +kernel
theorem dL_reportCount_12 : decode cL_reportCount 12 = .ok (.astore_n 3, 1) := by decide +kernel
theorem dL_reportCount_13 : decode cL_reportCount 13 = .ok (.iconst 1, 1) := by decide +kernel
theorem dL_reportCount_14 : decode cL_reportCount 14 = .ok (.ireturn, 1) := by decide +kernel
theorem dL_reportCount_15 : decode cL_reportCount 15 = .ok (.iconst 0, 1) := by decide +kernel
theorem dL_reportCount_16 : decode cL_reportCount 16 = .ok (.ireturn, 1) := by decide +kernel
theorem dL_reporterAt_0 : decode cL_reporterAt 0 = .ok (.aload_n 3, 1) := by decide +kernel
theorem dL_reporterAt_1 : decode cL_reporterAt 1 = .ok (.iconst 0, 1) := by decide +kernel
theorem dL_reporterAt_2 : decode cL_reporterAt 2 = .ok (.aload_n 0, 1) := by decide +kernel
theorem dL_reporterAt_3 : decode cL_reporterAt 3 = .ok (.iload_n 1, 1) := by decide +kernel
theorem dL_reporterAt_4 : decode cL_reporterAt 4 = .ok (.iload_n 2, 1) := by decide +kernel
theorem dL_reporterAt_5 : decode cL_reporterAt 5 = .ok (.invokevirtual 62, 3) := by decide +kernel
theorem dL_reporterAt_8 : decode cL_reporterAt 8 = .ok (.i2l, 1) := by decide +kernel
theorem dL_reporterAt_9 : decode cL_reporterAt 9 = .ok (.lastore, 1) := by decide +kernel
theorem dL_reporterAt_10 : decode cL_reporterAt 10 = .ok (.goto 11, 3) := by decide +kernel
theorem dL_reporterAt_13 : decode cL_reporterAt 13 = .ok (.astore 4, 2) := by decide +kernel
theorem dL_reporterAt_15 : decode cL_reporterAt 15 = .ok (.iconst 1, 1) := by decide +kernel
theorem dL_reporterAt_16 : decode cL_reporterAt 16 = .ok (.ireturn, 1) := by decide +kernel
theorem dL_reporterAt_17 : decode cL_reporterAt 17 = .ok (.astore 4, 2) := by decide +kernel
theorem dL_reporterAt_19 : decode cL_reporterAt 19 = .ok (.iconst 2, 1) := by decide +kernel
theorem dL_reporterAt_20 : decode cL_reporterAt 20 = .ok (.ireturn, 1) := by decide +kernel
theorem dL_reporterAt_21 : decode cL_reporterAt 21 = .ok (.iconst 0, 1) := by decide +kernel
theorem dL_reporterAt_22 : decode cL_reporterAt 22 = .ok (.ireturn, 1) := by decide +kernel
theorem dL_reportedMinutes_0 : decode cL_reportedMinutes 0 = .ok (.aload_n 3, 1) := by decide +kernel
theorem dL_reportedMinutes_1 : decode cL_reportedMinutes 1 = .ok (.iconst 0, 1) := by decide +kernel
theorem dL_reportedMinutes_2 : decode cL_reportedMinutes 2 = .ok (.aload_n 0, 1) := by decide +kernel
theorem dL_reportedMinutes_3 : decode cL_reportedMinutes 3 = .ok (.iload_n 1, 1) := by decide +kernel
theorem dL_reportedMinutes_4 : decode cL_reportedMinutes 4 = .ok (.iload_n 2, 1) := by decide +kernel
theorem dL_reportedMinutes_5 : decode cL_reportedMinutes 5 = .ok (.invokevirtual 67, 3) := by decide +kernel
theorem dL_reportedMinutes_8 : decode cL_reportedMinutes 8 = .ok (.i2l, 1) := by decide +kernel
theorem dL_reportedMinutes_9 : decode cL_reportedMinutes 9 = .ok (.lastore, 1) := by decide +kernel
theorem dL_reportedMinutes_10 : decode cL_reportedMinutes 10 = .ok (.goto 11, 3) := by decide +kernel
theorem dL_reportedMinutes_13 : decode cL_reportedMinutes 13 = .ok (.astore 4, 2) := by decide +kernel
theorem dL_reportedMinutes_15 : decode cL_reportedMinutes 15 = .ok (.iconst 1, 1) := by decide +kernel
theorem dL_reportedMinutes_16 : decode cL_reportedMinutes 16 = .ok (.ireturn, 1) := by decide +kernel
theorem dL_reportedMinutes_17 : decode cL_reportedMinutes 17 = .ok (.astore 4, 2) := by decide +kernel
theorem dL_reportedMinutes_19 : decode cL_reportedMinutes 19 = .ok (.iconst 2, 1) := by decide +kernel
theorem dL_reportedMinutes_20 : decode cL_reportedMinutes 20 = .ok (.ireturn, 1) := by decide +kernel
theorem dL_reportedMinutes_21 : decode cL_reportedMinutes 21 = .ok (.iconst 0, 1) := by decide +kernel
theorem dL_reportedMinutes_22 : decode cL_reportedMinutes 22 = .ok (.ireturn, 1) := by decide +kernel
theorem dL_reportAge_0 : decode cL_reportAge 0 = .ok (.aload_n 3, 1) := by decide +kernel
theorem dL_reportAge_1 : decode cL_reportAge 1 = .ok (.iconst 0, 1) := by decide +kernel
theorem dL_reportAge_2 : decode cL_reportAge 2 = .ok (.aload_n 0, 1) := by decide +kernel
theorem dL_reportAge_3 : decode cL_reportAge 3 = .ok (.iload_n 1, 1) := by decide +kernel
theorem dL_reportAge_4 : decode cL_reportAge 4 = .ok (.iload_n 2, 1) := by decide +kernel
theorem dL_reportAge_5 : decode cL_reportAge 5 = .ok (.invokevirtual 70, 3) := by decide +kernel
theorem dL_reportAge_8 : decode cL_reportAge 8 = .ok (.i2l, 1) := by decide +kernel
theorem dL_reportAge_9 : decode cL_reportAge 9 = .ok (.lastore, 1) := by decide +kernel
theorem dL_reportAge_10 : decode cL_reportAge 10 = .ok (.goto 11, 3) := by decide +kernel
theorem dL_reportAge_13 : decode cL_reportAge 13 = .ok (.astore 4, 2) := by decide +kernel
theorem dL_reportAge_15 : decode cL_reportAge 15 = .ok (.iconst 1, 1) := by decide +kernel
theorem dL_reportAge_16 : decode cL_reportAge 16 = .ok (.ireturn, 1) := by decide +kernel
theorem dL_reportAge_17 : decode cL_reportAge 17 = .ok (.astore 4, 2) := by decide +kernel
theorem dL_reportAge_19 : decode cL_reportAge 19 = .ok (.iconst 2, 1) := by decide +kernel
theorem dL_reportAge_20 : decode cL_reportAge 20 = .ok (.ireturn, 1) := by decide +kernel
theorem dL_reportAge_21 : decode cL_reportAge 21 = .ok (.iconst 0, 1) := by decide +kernel
theorem dL_reportAge_22 : decode cL_reportAge 22 = .ok (.ireturn, 1) := by decide +kernel
theorem dL_deliverTin_0 : decode cL_deliverTin 0 = .ok (.aload_n 3, 1) := by decide +kernel
theorem dL_deliverTin_1 : decode cL_deliverTin 1 = .ok (.iconst 0, 1) := by decide +kernel
theorem dL_deliverTin_2 : decode cL_deliverTin 2 = .ok (.aload_n 0, 1) := by decide +kernel
theorem dL_deliverTin_3 : decode cL_deliverTin 3 = .ok (.iload_n 1, 1) := by decide +kernel
theorem dL_deliverTin_4 : decode cL_deliverTin 4 = .ok (.iload_n 2, 1) := by decide +kernel
theorem dL_deliverTin_5 : decode cL_deliverTin 5 = .ok (.invokevirtual 73, 3) := by decide +kernel
theorem dL_deliverTin_8 : decode cL_deliverTin 8 = .ok (.i2l, 1) := by decide +kernel
theorem dL_deliverTin_9 : decode cL_deliverTin 9 = .ok (.lastore, 1) := by decide +kernel
theorem dL_deliverTin_10 : decode cL_deliverTin 10 = .ok (.goto 11, 3) := by decide +kernel
theorem dL_deliverTin_13 : decode cL_deliverTin 13 = .ok (.astore 4, 2) := by decide +kernel
theorem dL_deliverTin_15 : decode cL_deliverTin 15 = .ok (.iconst 1, 1) := by decide +kernel
theorem dL_deliverTin_16 : decode cL_deliverTin 16 = .ok (.ireturn, 1) := by decide +kernel
theorem dL_deliverTin_17 : decode cL_deliverTin 17 = .ok (.astore 4, 2) := by decide +kernel
theorem dL_deliverTin_19 : decode cL_deliverTin 19 = .ok (.iconst 2, 1) := by decide +kernel
theorem dL_deliverTin_20 : decode cL_deliverTin 20 = .ok (.ireturn, 1) := by decide +kernel
theorem dL_deliverTin_21 : decode cL_deliverTin 21 = .ok (.iconst 0, 1) := by decide +kernel
theorem dL_deliverTin_22 : decode cL_deliverTin 22 = .ok (.ireturn, 1) := by decide +kernel
theorem dL_tinCount_0 : decode cL_tinCount 0 = .ok (.aload_n 2, 1) := by decide +kernel
theorem dL_tinCount_1 : decode cL_tinCount 1 = .ok (.iconst 0, 1) := by decide +kernel
theorem dL_tinCount_2 : decode cL_tinCount 2 = .ok (.aload_n 0, 1) := by decide +kernel
theorem dL_tinCount_3 : decode cL_tinCount 3 = .ok (.iload_n 1, 1) := by decide +kernel
theorem dL_tinCount_4 : decode cL_tinCount 4 = .ok (.invokevirtual 76, 3) := by decide +kernel
theorem dL_tinCount_7 : decode cL_tinCount 7 = .ok (.i2l, 1) := by decide +kernel
theorem dL_tinCount_8 : decode cL_tinCount 8 = .ok (.lastore, 1) := by decide +kernel
theorem dL_tinCount_9 : decode cL_tinCount 9 = .ok (.goto 6, 3) := by decide +kernel
theorem dL_tinCount_12 : decode cL_tinCount 12 = .ok (.astore_n 3, 1) := by decide +kernel
theorem dL_tinCount_13 : decode cL_tinCount 13 = .ok (.iconst 1, 1) := by decide +kernel
theorem dL_tinCount_14 : decode cL_tinCount 14 = .ok (.ireturn, 1) := by decide +kernel
theorem dL_tinCount_15 : decode cL_tinCount 15 = .ok (.iconst 0, 1) := by decide +kernel
theorem dL_tinCount_16 : decode cL_tinCount 16 = .ok (.ireturn, 1) := by decide +kernel
theorem dL_paintLeft_0 : decode cL_paintLeft 0 = .ok (.aload_n 2, 1) := by decide +kernel
theorem dL_paintLeft_1 : decode cL_paintLeft 1 = .ok (.iconst 0, 1) := by decide +kernel
theorem dL_paintLeft_2 : decode cL_paintLeft 2 = .ok (.aload_n 0, 1) := by decide +kernel
theorem dL_paintLeft_3 : decode cL_paintLeft 3 = .ok (.iload_n 1, 1) := by decide +kernel
theorem dL_paintLeft_4 : decode cL_paintLeft 4 = .ok (.invokevirtual 79, 3) := by decide +kernel
theorem dL_paintLeft_7 : decode cL_paintLeft 7 = .ok (.i2l, 1) := by decide +kernel
theorem dL_paintLeft_8 : decode cL_paintLeft 8 = .ok (.lastore, 1) := by decide +kernel
theorem dL_paintLeft_9 : decode cL_paintLeft 9 = .ok (.goto 6, 3) := by decide +kernel
theorem dL_paintLeft_12 : decode cL_paintLeft 12 = .ok (.astore_n 3, 1) := by decide +kernel
theorem dL_paintLeft_13 : decode cL_paintLeft 13 = .ok (.iconst 1, 1) := by decide +kernel
theorem dL_paintLeft_14 : decode cL_paintLeft 14 = .ok (.ireturn, 1) := by decide +kernel
theorem dL_paintLeft_15 : decode cL_paintLeft 15 = .ok (.iconst 0, 1) := by decide +kernel
theorem dL_paintLeft_16 : decode cL_paintLeft 16 = .ok (.ireturn, 1) := by decide +kernel
theorem dL_oldestTin_0 : decode cL_oldestTin 0 = .ok (.aload_n 2, 1) := by decide +kernel
theorem dL_oldestTin_1 : decode cL_oldestTin 1 = .ok (.iconst 0, 1) := by decide +kernel
theorem dL_oldestTin_2 : decode cL_oldestTin 2 = .ok (.aload_n 0, 1) := by decide +kernel
theorem dL_oldestTin_3 : decode cL_oldestTin 3 = .ok (.iload_n 1, 1) := by decide +kernel
theorem dL_oldestTin_4 : decode cL_oldestTin 4 = .ok (.invokevirtual 82, 3) := by decide +kernel
theorem dL_oldestTin_7 : decode cL_oldestTin 7 = .ok (.i2l, 1) := by decide +kernel
theorem dL_oldestTin_8 : decode cL_oldestTin 8 = .ok (.lastore, 1) := by decide +kernel
theorem dL_oldestTin_9 : decode cL_oldestTin 9 = .ok (.goto 9, 3) := by decide +kernel
theorem dL_oldestTin_12 : decode cL_oldestTin 12 = .ok (.astore_n 3, 1) := by decide +kernel
theorem dL_oldestTin_13 : decode cL_oldestTin 13 = .ok (.iconst 1, 1) := by decide +kernel
theorem dL_oldestTin_14 : decode cL_oldestTin 14 = .ok (.ireturn, 1) := by decide +kernel
theorem dL_oldestTin_15 : decode cL_oldestTin 15 = .ok (.astore_n 3, 1) := by decide +kernel
theorem dL_oldestTin_16 : decode cL_oldestTin 16 = .ok (.iconst 2, 1) := by decide +kernel
theorem dL_oldestTin_17 : decode cL_oldestTin 17 = .ok (.ireturn, 1) := by decide +kernel
theorem dL_oldestTin_18 : decode cL_oldestTin 18 = .ok (.iconst 0, 1) := by decide +kernel
theorem dL_oldestTin_19 : decode cL_oldestTin 19 = .ok (.ireturn, 1) := by decide +kernel
theorem dL_order_0 : decode cL_order 0 = .ok (.aload_n 3, 1) := by decide +kernel
theorem dL_order_1 : decode cL_order 1 = .ok (.iconst 0, 1) := by decide +kernel
theorem dL_order_2 : decode cL_order 2 = .ok (.aload_n 0, 1) := by decide +kernel
theorem dL_order_3 : decode cL_order 3 = .ok (.iload_n 1, 1) := by decide +kernel
theorem dL_order_4 : decode cL_order 4 = .ok (.iload_n 2, 1) := by decide +kernel
theorem dL_order_5 : decode cL_order 5 = .ok (.invokevirtual 85, 3) := by decide +kernel
theorem dL_order_8 : decode cL_order 8 = .ok (.i2l, 1) := by decide +kernel
theorem dL_order_9 : decode cL_order 9 = .ok (.lastore, 1) := by decide +kernel
theorem dL_order_10 : decode cL_order 10 = .ok (.goto 15, 3) := by decide +kernel
theorem dL_order_13 : decode cL_order 13 = .ok (.astore 4, 2) := by decide +kernel
theorem dL_order_15 : decode cL_order 15 = .ok (.iconst 1, 1) := by decide +kernel
theorem dL_order_16 : decode cL_order 16 = .ok (.ireturn, 1) := by decide +kernel
theorem dL_order_17 : decode cL_order 17 = .ok (.astore 4, 2) := by decide +kernel
theorem dL_order_19 : decode cL_order 19 = .ok (.iconst 2, 1) := by decide +kernel
theorem dL_order_20 : decode cL_order 20 = .ok (.ireturn, 1) := by decide +kernel
theorem dL_order_21 : decode cL_order 21 = .ok (.astore 4, 2) := by decide +kernel
theorem dL_order_23 : decode cL_order 23 = .ok (.iconst 3, 1) := by decide +kernel
theorem dL_order_24 : decode cL_order 24 = .ok (.ireturn, 1) := by decide +kernel
theorem dL_order_25 : decode cL_order 25 = .ok (.iconst 0, 1) := by decide +kernel
theorem dL_order_26 : decode cL_order 26 = .ok (.ireturn, 1) := by decide +kernel
theorem dL_cancelOrder_0 : decode cL_cancelOrder 0 = .ok (.aload_n 2, 1) := by decide +kernel
theorem dL_cancelOrder_1 : decode cL_cancelOrder 1 = .ok (.iconst 0, 1) := by decide +kernel
theorem dL_cancelOrder_2 : decode cL_cancelOrder 2 = .ok (.aload_n 0, 1) := by decide +kernel
theorem dL_cancelOrder_3 : decode cL_cancelOrder 3 = .ok (.iload_n 1, 1) := by decide +kernel
theorem dL_cancelOrder_4 : decode cL_cancelOrder 4 = .ok (.invokevirtual 88, 3) := by decide +kernel
theorem dL_cancelOrder_7 : decode cL_cancelOrder 7 = .ok (.i2l, 1) := by decide +kernel
theorem dL_cancelOrder_8 : decode cL_cancelOrder 8 = .ok (.lastore, 1) := by decide +kernel
theorem dL_cancelOrder_9 : decode cL_cancelOrder 9 = .ok (.goto 9, 3) := by decide +kernel
theorem dL_cancelOrder_12 : decode cL_cancelOrder 12 = .ok (.astore_n 3, 1) := by decide +kernel
theorem dL_cancelOrder_13 : decode cL_cancelOrder 13 = .ok (.iconst 1, 1) := by decide +kernel
theorem dL_cancelOrder_14 : decode cL_cancelOrder 14 = .ok (.ireturn, 1) := by decide +kernel
theorem dL_cancelOrder_15 : decode cL_cancelOrder 15 = .ok (.astore_n 3, 1) := by decide +kernel
theorem dL_cancelOrder_16 : decode cL_cancelOrder 16 = .ok (.iconst 2, 1) := by decide +kernel
theorem dL_cancelOrder_17 : decode cL_cancelOrder 17 = .ok (.ireturn, 1) := by decide +kernel
theorem dL_cancelOrder_18 : decode cL_cancelOrder 18 = .ok (.iconst 0, 1) := by decide +kernel
theorem dL_cancelOrder_19 : decode cL_cancelOrder 19 = .ok (.ireturn, 1) := by decide +kernel
theorem dL_waitingPier_0 : decode cL_waitingPier 0 = .ok (.aload_n 2, 1) := by decide +kernel
theorem dL_waitingPier_1 : decode cL_waitingPier 1 = .ok (.iconst 0, 1) := by decide +kernel
theorem dL_waitingPier_2 : decode cL_waitingPier 2 = .ok (.aload_n 0, 1) := by decide +kernel
theorem dL_waitingPier_3 : decode cL_waitingPier 3 = .ok (.iload_n 1, 1) := by decide +kernel
theorem dL_waitingPier_4 : decode cL_waitingPier 4 = .ok (.invokevirtual 91, 3) := by decide +kernel
theorem dL_waitingPier_7 : decode cL_waitingPier 7 = .ok (.i2l, 1) := by decide +kernel
theorem dL_waitingPier_8 : decode cL_waitingPier 8 = .ok (.lastore, 1) := by decide +kernel
theorem dL_waitingPier_9 : decode cL_waitingPier 9 = .ok (.goto 6, 3) := by decide +kernel
theorem dL_waitingPier_12 : decode cL_waitingPier 12 = .ok (.astore_n 3, 1) := by decide +kernel
theorem dL_waitingPier_13 : decode cL_waitingPier 13 = .ok (.iconst 1, 1) := by decide +kernel
theorem dL_waitingPier_14 : decode cL_waitingPier 14 = .ok (.ireturn, 1) := by decide +kernel
theorem dL_waitingPier_15 : decode cL_waitingPier 15 = .ok (.iconst 0, 1) := by decide +kernel
theorem dL_waitingPier_16 : decode cL_waitingPier 16 = .ok (.ireturn, 1) := by decide +kernel
theorem dL_paint_0 : decode cL_paint 0 = .ok (.aload_n 2, 1) := by decide +kernel
theorem dL_paint_1 : decode cL_paint 1 = .ok (.iconst 0, 1) := by decide +kernel
theorem dL_paint_2 : decode cL_paint 2 = .ok (.aload_n 0, 1) := by decide +kernel
theorem dL_paint_3 : decode cL_paint 3 = .ok (.iload_n 1, 1) := by decide +kernel
theorem dL_paint_4 : decode cL_paint 4 = .ok (.invokevirtual 94, 3) := by decide +kernel
theorem dL_paint_7 : decode cL_paint 7 = .ok (.i2l, 1) := by decide +kernel
theorem dL_paint_8 : decode cL_paint 8 = .ok (.lastore, 1) := by decide +kernel
theorem dL_paint_9 : decode cL_paint 9 = .ok (.goto 6, 3) := by decide +kernel
theorem dL_paint_12 : decode cL_paint 12 = .ok (.astore_n 3, 1) := by decide +kernel
theorem dL_paint_13 : decode cL_paint 13 = .ok (.iconst 1, 1) := by decide +kernel
theorem dL_paint_14 : decode cL_paint 14 = .ok (.ireturn, 1) := by decide +kernel
theorem dL_paint_15 : decode cL_paint 15 = .ok (.iconst 0, 1) := by decide +kernel
theorem dL_paint_16 : decode cL_paint 16 = .ok (.ireturn, 1) := by decide +kernel
theorem dL_giveUpJob_0 : decode cL_giveUpJob 0 = .ok (.aload_n 1, 1) := by decide +kernel
theorem dL_giveUpJob_1 : decode cL_giveUpJob 1 = .ok (.iconst 0, 1) := by decide +kernel
theorem dL_giveUpJob_2 : decode cL_giveUpJob 2 = .ok (.aload_n 0, 1) := by decide +kernel
theorem dL_giveUpJob_3 : decode cL_giveUpJob 3 = .ok (.invokevirtual 97, 3) := by decide +kernel
theorem dL_giveUpJob_6 : decode cL_giveUpJob 6 = .ok (.i2l, 1) := by decide +kernel
theorem dL_giveUpJob_7 : decode cL_giveUpJob 7 = .ok (.lastore, 1) := by decide +kernel
theorem dL_giveUpJob_8 : decode cL_giveUpJob 8 = .ok (.goto 6, 3) := by decide +kernel
theorem dL_giveUpJob_11 : decode cL_giveUpJob 11 = .ok (.astore_n 2, 1) := by decide +kernel
theorem dL_giveUpJob_12 : decode cL_giveUpJob 12 = .ok (.iconst 1, 1) := by decide +kernel
theorem dL_giveUpJob_13 : decode cL_giveUpJob 13 = .ok (.ireturn, 1) := by decide +kernel
theorem dL_giveUpJob_14 : decode cL_giveUpJob 14 = .ok (.iconst 0, 1) := by decide +kernel
theorem dL_giveUpJob_15 : decode cL_giveUpJob 15 = .ok (.ireturn, 1) := by decide +kernel
theorem dL_touchUp_0 : decode cL_touchUp 0 = .ok (.aload_n 2, 1) := by decide +kernel
theorem dL_touchUp_1 : decode cL_touchUp 1 = .ok (.iconst 0, 1) := by decide +kernel
theorem dL_touchUp_2 : decode cL_touchUp 2 = .ok (.aload_n 0, 1) := by decide +kernel
theorem dL_touchUp_3 : decode cL_touchUp 3 = .ok (.iload_n 1, 1) := by decide +kernel
theorem dL_touchUp_4 : decode cL_touchUp 4 = .ok (.invokevirtual 101, 3) := by decide +kernel
theorem dL_touchUp_7 : decode cL_touchUp 7 = .ok (.i2l, 1) := by decide +kernel
theorem dL_touchUp_8 : decode cL_touchUp 8 = .ok (.lastore, 1) := by decide +kernel
theorem dL_touchUp_9 : decode cL_touchUp 9 = .ok (.goto 12, 3) := by decide +kernel
theorem dL_touchUp_12 : decode cL_touchUp 12 = .ok (.astore_n 3, 1) := by decide +kernel
theorem dL_touchUp_13 : decode cL_touchUp 13 = .ok (.iconst 1, 1) := by decide +kernel
theorem dL_touchUp_14 : decode cL_touchUp 14 = .ok (.ireturn, 1) := by decide +kernel
theorem dL_touchUp_15 : decode cL_touchUp 15 = .ok (.astore_n 3, 1) := by decide +kernel
theorem dL_touchUp_16 : decode cL_touchUp 16 = .ok (.iconst 2, 1) := by decide +kernel
theorem dL_touchUp_17 : decode cL_touchUp 17 = .ok (.ireturn, 1) := by decide +kernel
theorem dL_touchUp_18 : decode cL_touchUp 18 = .ok (.astore_n 3, 1) := by decide +kernel
theorem dL_touchUp_19 : decode cL_touchUp 19 = .ok (.iconst 3, 1) := by decide +kernel
theorem dL_touchUp_20 : decode cL_touchUp 20 = .ok (.ireturn, 1) := by decide +kernel
theorem dL_touchUp_21 : decode cL_touchUp 21 = .ok (.iconst 0, 1) := by decide +kernel
theorem dL_touchUp_22 : decode cL_touchUp 22 = .ok (.ireturn, 1) := by decide +kernel
theorem dL_boardDay_0 : decode cL_boardDay 0 = .ok (.aload_n 2, 1) := by decide +kernel
theorem dL_boardDay_1 : decode cL_boardDay 1 = .ok (.iconst 0, 1) := by decide +kernel
theorem dL_boardDay_2 : decode cL_boardDay 2 = .ok (.aload_n 0, 1) := by decide +kernel
theorem dL_boardDay_3 : decode cL_boardDay 3 = .ok (.iload_n 1, 1) := by decide +kernel
theorem dL_boardDay_4 : decode cL_boardDay 4 = .ok (.invokevirtual 104, 3) := by decide +kernel
theorem dL_boardDay_7 : decode cL_boardDay 7 = .ok (.i2l, 1) := by decide +kernel
theorem dL_boardDay_8 : decode cL_boardDay 8 = .ok (.lastore, 1) := by decide +kernel
theorem dL_boardDay_9 : decode cL_boardDay 9 = .ok (.goto 6, 3) := by decide +kernel
theorem dL_boardDay_12 : decode cL_boardDay 12 = .ok (.astore_n 3, 1) := by decide +kernel
theorem dL_boardDay_13 : decode cL_boardDay 13 = .ok (.iconst 1, 1) := by decide +kernel
theorem dL_boardDay_14 : decode cL_boardDay 14 = .ok (.ireturn, 1) := by decide +kernel
theorem dL_boardDay_15 : decode cL_boardDay 15 = .ok (.iconst 0, 1) := by decide +kernel
theorem dL_boardDay_16 : decode cL_boardDay 16 = .ok (.ireturn, 1) := by decide +kernel
theorem dL_lineCount_0 : decode cL_lineCount 0 = .ok (.aload_n 2, 1) := by decide +kernel
theorem dL_lineCount_1 : decode cL_lineCount 1 = .ok (.iconst 0, 1) := by decide +kernel
theorem dL_lineCount_2 : decode cL_lineCount 2 = .ok (.aload_n 0, 1) := by decide +kernel
theorem dL_lineCount_3 : decode cL_lineCount 3 = .ok (.iload_n 1, 1) := by decide +kernel
theorem dL_lineCount_4 : decode cL_lineCount 4 = .ok (.invokevirtual 107, 3) := by decide +kernel
theorem dL_lineCount_7 : decode cL_lineCount 7 = .ok (.i2l, 1) := by decide +kernel
theorem dL_lineCount_8 : decode cL_lineCount 8 = .ok (.lastore, 1) := by decide +kernel
theorem dL_lineCount_9 : decode cL_lineCount 9 = .ok (.goto 6, 3) := by decide +kernel
theorem dL_lineCount_12 : decode cL_lineCount 12 = .ok (.astore_n 3, 1) := by decide +kernel
theorem dL_lineCount_13 : decode cL_lineCount 13 = .ok (.iconst 1, 1) := by decide +kernel
theorem dL_lineCount_14 : decode cL_lineCount 14 = .ok (.ireturn, 1) := by decide +kernel
theorem dL_lineCount_15 : decode cL_lineCount 15 = .ok (.iconst 0, 1) := by decide +kernel
theorem dL_lineCount_16 : decode cL_lineCount 16 = .ok (.ireturn, 1) := by decide +kernel
theorem dL_lineState_0 : decode cL_lineState 0 = .ok (.aload_n 3, 1) := by decide +kernel
theorem dL_lineState_1 : decode cL_lineState 1 = .ok (.iconst 0, 1) := by decide +kernel
theorem dL_lineState_2 : decode cL_lineState 2 = .ok (.aload_n 0, 1) := by decide +kernel
theorem dL_lineState_3 : decode cL_lineState 3 = .ok (.iload_n 1, 1) := by decide +kernel
theorem dL_lineState_4 : decode cL_lineState 4 = .ok (.iload_n 2, 1) := by decide +kernel
theorem dL_lineState_5 : decode cL_lineState 5 = .ok (.invokevirtual 110, 3) := by decide +kernel
theorem dL_lineState_8 : decode cL_lineState 8 = .ok (.i2l, 1) := by decide +kernel
theorem dL_lineState_9 : decode cL_lineState 9 = .ok (.lastore, 1) := by decide +kernel
theorem dL_lineState_10 : decode cL_lineState 10 = .ok (.goto 7, 3) := by decide +kernel
theorem dL_lineState_13 : decode cL_lineState 13 = .ok (.astore 4, 2) := by decide +kernel
theorem dL_lineState_15 : decode cL_lineState 15 = .ok (.iconst 1, 1) := by decide +kernel
theorem dL_lineState_16 : decode cL_lineState 16 = .ok (.ireturn, 1) := by decide +kernel
theorem dL_lineState_17 : decode cL_lineState 17 = .ok (.iconst 0, 1) := by decide +kernel
theorem dL_lineState_18 : decode cL_lineState 18 = .ok (.ireturn, 1) := by decide +kernel
theorem dL_lineMinute_0 : decode cL_lineMinute 0 = .ok (.aload_n 3, 1) := by decide +kernel
theorem dL_lineMinute_1 : decode cL_lineMinute 1 = .ok (.iconst 0, 1) := by decide +kernel
theorem dL_lineMinute_2 : decode cL_lineMinute 2 = .ok (.aload_n 0, 1) := by decide +kernel
theorem dL_lineMinute_3 : decode cL_lineMinute 3 = .ok (.iload_n 1, 1) := by decide +kernel
theorem dL_lineMinute_4 : decode cL_lineMinute 4 = .ok (.iload_n 2, 1) := by decide +kernel
theorem dL_lineMinute_5 : decode cL_lineMinute 5 = .ok (.invokevirtual 113, 3) := by decide +kernel
theorem dL_lineMinute_8 : decode cL_lineMinute 8 = .ok (.i2l, 1) := by decide +kernel
theorem dL_lineMinute_9 : decode cL_lineMinute 9 = .ok (.lastore, 1) := by decide +kernel
theorem dL_lineMinute_10 : decode cL_lineMinute 10 = .ok (.goto 11, 3) := by decide +kernel
theorem dL_lineMinute_13 : decode cL_lineMinute 13 = .ok (.astore 4, 2) := by decide +kernel
theorem dL_lineMinute_15 : decode cL_lineMinute 15 = .ok (.iconst 1, 1) := by decide +kernel
theorem dL_lineMinute_16 : decode cL_lineMinute 16 = .ok (.ireturn, 1) := by decide +kernel
theorem dL_lineMinute_17 : decode cL_lineMinute 17 = .ok (.astore 4, 2) := by decide +kernel
theorem dL_lineMinute_19 : decode cL_lineMinute 19 = .ok (.iconst 2, 1) := by decide +kernel
theorem dL_lineMinute_20 : decode cL_lineMinute 20 = .ok (.ireturn, 1) := by decide +kernel
theorem dL_lineMinute_21 : decode cL_lineMinute 21 = .ok (.iconst 0, 1) := by decide +kernel
theorem dL_lineMinute_22 : decode cL_lineMinute 22 = .ok (.ireturn, 1) := by decide +kernel
theorem dL_lineHeight_0 : decode cL_lineHeight 0 = .ok (.aload_n 3, 1) := by decide +kernel
theorem dL_lineHeight_1 : decode cL_lineHeight 1 = .ok (.iconst 0, 1) := by decide +kernel
theorem dL_lineHeight_2 : decode cL_lineHeight 2 = .ok (.aload_n 0, 1) := by decide +kernel
theorem dL_lineHeight_3 : decode cL_lineHeight 3 = .ok (.iload_n 1, 1) := by decide +kernel
theorem dL_lineHeight_4 : decode cL_lineHeight 4 = .ok (.iload_n 2, 1) := by decide +kernel
theorem dL_lineHeight_5 : decode cL_lineHeight 5 = .ok (.invokevirtual 116, 3) := by decide +kernel
theorem dL_lineHeight_8 : decode cL_lineHeight 8 = .ok (.i2l, 1) := by decide +kernel
theorem dL_lineHeight_9 : decode cL_lineHeight 9 = .ok (.lastore, 1) := by decide +kernel
theorem dL_lineHeight_10 : decode cL_lineHeight 10 = .ok (.goto 11, 3) := by decide +kernel
theorem dL_lineHeight_13 : decode cL_lineHeight 13 = .ok (.astore 4, 2) := by decide +kernel
theorem dL_lineHeight_15 : decode cL_lineHeight 15 = .ok (.iconst 1, 1) := by decide +kernel
theorem dL_lineHeight_16 : decode cL_lineHeight 16 = .ok (.ireturn, 1) := by decide +kernel
theorem dL_lineHeight_17 : decode cL_lineHeight 17 = .ok (.astore 4, 2) := by decide +kernel
theorem dL_lineHeight_19 : decode cL_lineHeight 19 = .ok (.iconst 2, 1) := by decide +kernel
theorem dL_lineHeight_20 : decode cL_lineHeight 20 = .ok (.ireturn, 1) := by decide +kernel
theorem dL_lineHeight_21 : decode cL_lineHeight 21 = .ok (.iconst 0, 1) := by decide +kernel
theorem dL_lineHeight_22 : decode cL_lineHeight 22 = .ok (.ireturn, 1) := by decide +kernel
theorem dL_dripsOf_0 : decode cL_dripsOf 0 = .ok (.aload_n 2, 1) := by decide +kernel
theorem dL_dripsOf_1 : decode cL_dripsOf 1 = .ok (.iconst 0, 1) := by decide +kernel
theorem dL_dripsOf_2 : decode cL_dripsOf 2 = .ok (.aload_n 0, 1) := by decide +kernel
theorem dL_dripsOf_3 : decode cL_dripsOf 3 = .ok (.iload_n 1, 1) := by decide +kernel
theorem dL_dripsOf_4 : decode cL_dripsOf 4 = .ok (.invokevirtual 119, 3) := by decide +kernel
theorem dL_dripsOf_7 : decode cL_dripsOf 7 = .ok (.i2l, 1) := by decide +kernel
theorem dL_dripsOf_8 : decode cL_dripsOf 8 = .ok (.lastore, 1) := by decide +kernel
theorem dL_dripsOf_9 : decode cL_dripsOf 9 = .ok (.goto 6, 3) := by decide +kernel
theorem dL_dripsOf_12 : decode cL_dripsOf 12 = .ok (.astore_n 3, 1) := by decide +kernel
theorem dL_dripsOf_13 : decode cL_dripsOf 13 = .ok (.iconst 1, 1) := by decide +kernel
theorem dL_dripsOf_14 : decode cL_dripsOf 14 = .ok (.ireturn, 1) := by decide +kernel
theorem dL_dripsOf_15 : decode cL_dripsOf 15 = .ok (.iconst 0, 1) := by decide +kernel
theorem dL_dripsOf_16 : decode cL_dripsOf 16 = .ok (.ireturn, 1) := by decide +kernel
theorem dL_unreadableLines_0 : decode cL_unreadableLines 0 = .ok (.aload_n 2, 1) := by decide +kernel
theorem dL_unreadableLines_1 : decode cL_unreadableLines 1 = .ok (.iconst 0, 1) := by decide +kernel
theorem dL_unreadableLines_2 : decode cL_unreadableLines 2 = .ok (.aload_n 0, 1) := by decide +kernel
theorem dL_unreadableLines_3 : decode cL_unreadableLines 3 = .ok (.iload_n 1, 1) := by decide +kernel
theorem dL_unreadableLines_4 : decode cL_unreadableLines 4 = .ok (.invokevirtual 122, 3) := by decide +kernel
theorem dL_unreadableLines_7 : decode cL_unreadableLines 7 = .ok (.i2l, 1) := by decide +kernel
theorem dL_unreadableLines_8 : decode cL_unreadableLines 8 = .ok (.lastore, 1) := by decide +kernel
theorem dL_unreadableLines_9 : decode cL_unreadableLines 9 = .ok (.goto 6, 3) := by decide +kernel
theorem dL_unreadableLines_12 : decode cL_unreadableLines 12 = .ok (.astore_n 3, 1) := by decide +kernel
theorem dL_unreadableLines_13 : decode cL_unreadableLines 13 = .ok (.iconst 1, 1) := by decide +kernel
theorem dL_unreadableLines_14 : decode cL_unreadableLines 14 = .ok (.ireturn, 1) := by decide +kernel
theorem dL_unreadableLines_15 : decode cL_unreadableLines 15 = .ok (.iconst 0, 1) := by decide +kernel
theorem dL_unreadableLines_16 : decode cL_unreadableLines 16 = .ok (.ireturn, 1) := by decide +kernel
theorem dL_isRight_0 : decode cL_isRight 0 = .ok (.aload_n 2, 1) := by decide +kernel
theorem dL_isRight_1 : decode cL_isRight 1 = .ok (.iconst 0, 1) := by decide +kernel
theorem dL_isRight_2 : decode cL_isRight 2 = .ok (.aload_n 0, 1) := by decide +kernel
theorem dL_isRight_3 : decode cL_isRight 3 = .ok (.iload_n 1, 1) := by decide +kernel
theorem dL_isRight_4 : decode cL_isRight 4 = .ok (.invokevirtual 125, 3) := by decide +kernel
theorem dL_isRight_7 : decode cL_isRight 7 = .ok (.ifCond .eq 7, 3) := by decide +kernel
theorem dL_isRight_10 : decode cL_isRight 10 = .ok (.lconst 1, 1) := by decide +kernel
theorem dL_isRight_11 : decode cL_isRight 11 = .ok (.goto 4, 3) := by decide +kernel
theorem dL_isRight_14 : decode cL_isRight 14 = .ok (.lconst 0, 1) := by decide +kernel
theorem dL_isRight_15 : decode cL_isRight 15 = .ok (.lastore, 1) := by decide +kernel
theorem dL_isRight_16 : decode cL_isRight 16 = .ok (.goto 6, 3) := by decide +kernel
theorem dL_isRight_19 : decode cL_isRight 19 = .ok (.astore_n 3, 1) := by decide +kernel
theorem dL_isRight_20 : decode cL_isRight 20 = .ok (.iconst 1, 1) := by decide +kernel
theorem dL_isRight_21 : decode cL_isRight 21 = .ok (.ireturn, 1) := by decide +kernel
theorem dL_isRight_22 : decode cL_isRight 22 = .ok (.iconst 0, 1) := by decide +kernel
theorem dL_isRight_23 : decode cL_isRight 23 = .ok (.ireturn, 1) := by decide +kernel
