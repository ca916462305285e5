theorem dX5_lineMinute_9 : decode cX5_lineMinute 9 = .ok (.getfield 112, 3) := by decide +kernel
theorem dX5_lineMinute_12 : decode cX5_lineMinute 12 = .ok (.iload_n 2, 1) := by decide +kernel
theorem dX5_lineMinute_13 : decode cX5_lineMinute 13 = .ok (.iaload, 1) := by decide +kernel
theorem dX5_lineMinute_14 : decode cX5_lineMinute 14 = .ok (.ireturn, 1) := by decide +kernel
theorem dX5_lineHeight_0 : decode cX5_lineHeight 0 = .ok (.aload_n 0, 1) := by decide +kernel
theorem dX5_lineHeight_1 : decode cX5_lineHeight 1 = .ok (.iload_n 1, 1) := by decide +kernel
theorem dX5_lineHeight_2 : decode cX5_lineHeight 2 = .ok (.iload_n 2, 1) := by decide +kernel
theorem dX5_lineHeight_3 : decode cX5_lineHeight 3 = .ok (.invokevirtual 238, 3) := by decide +kernel
theorem dX5_lineHeight_6 : decode cX5_lineHeight 6 = .ok (.getfield 228, 3) := by decide +kernel
theorem dX5_lineHeight_9 : decode cX5_lineHeight 9 = .ok (.getfield 115, 3) := by decide +kernel
theorem dX5_lineHeight_12 : decode cX5_lineHeight 12 = .ok (.iload_n 2, 1) := by decide +kernel
theorem dX5_lineHeight_13 : decode cX5_lineHeight 13 = .ok (.iaload, 1) := by decide +kernel
theorem dX5_lineHeight_14 : decode cX5_lineHeight 14 = .ok (.ireturn, 1) := by decide +kernel
theorem dX5_dripsOf_0 : decode cX5_dripsOf 0 = .ok (.aload_n 0, 1) := by decide +kernel
theorem dX5_dripsOf_1 : decode cX5_dripsOf 1 = .ok (.iload_n 1, 1) := by decide +kernel
theorem dX5_dripsOf_2 : decode cX5_dripsOf 2 = .ok (.invokevirtual 95, 3) := by decide +kernel
theorem dX5_dripsOf_5 : decode cX5_dripsOf 5 = .ok (.getfield 79, 3) := by decide +kernel
theorem dX5_dripsOf_8 : decode cX5_dripsOf 8 = .ok (.getfield 241, 3) := by decide +kernel
theorem dX5_dripsOf_11 : decode cX5_dripsOf 11 = .ok (.ireturn, 1) := by decide +kernel
theorem dX5_unreadableLines_0 : decode cX5_unreadableLines 0 = .ok (.aload_n 0, 1) := by decide +kernel
theorem dX5_unreadableLines_1 : decode cX5_unreadableLines 1 = .ok (.iload_n 1, 1) := by decide +kernel
theorem dX5_unreadableLines_2 : decode cX5_unreadableLines 2 = .ok (.invokevirtual 95, 3) := by decide +kernel
theorem dX5_unreadableLines_5 : decode cX5_unreadableLines 5 = .ok (.getfield 79, 3) := by decide +kernel
theorem dX5_unreadableLines_8 : decode cX5_unreadableLines 8 = .ok (.invokevirtual 244, 3) := by decide +kernel
theorem dX5_unreadableLines_11 : decode cX5_unreadableLines 11 = .ok (.ireturn, 1) := by decide +kernel
theorem dX5_isRight_0 : decode cX5_isRight 0 = .ok (.aload_n 0, 1) := by decide +kernel
theorem dX5_isRight_1 : decode cX5_isRight 1 = .ok (.aload_n 0, 1) := by decide +kernel
theorem dX5_isRight_2 : decode cX5_isRight 2 = .ok (.iload_n 1, 1) := by decide +kernel
theorem dX5_isRight_3 : decode cX5_isRight 3 = .ok (.invokevirtual 95, 3) := by decide +kernel
theorem dX5_isRight_6 : decode cX5_isRight 6 = .ok (.invokevirtual 247, 3) := by decide +kernel
theorem dX5_isRight_9 : decode cX5_isRight 9 = .ok (.ireturn, 1) := by decide +kernel
theorem dX5_rightBoards_0 : decode cX5_rightBoards 0 = .ok (.iconst 0, 1) := by decide +kernel
theorem dX5_rightBoards_1 : decode cX5_rightBoards 1 = .ok (.istore_n 1, 1) := by decide +kernel
theorem dX5_rightBoards_2 : decode cX5_rightBoards 2 = .ok (.iconst 0, 1) := by decide +kernel
theorem dX5_rightBoards_3 : decode cX5_rightBoards 3 = .ok (.istore_n 2, 1) := by decide +kernel
theorem dX5_rightBoards_4 : decode cX5_rightBoards 4 = .ok (.iload_n 2, 1) := by decide +kernel
theorem dX5_rightBoards_5 : decode cX5_rightBoards 5 = .ok (.aload_n 0, 1) := by decide +kernel
theorem dX5_rightBoards_6 : decode cX5_rightBoards 6 = .ok (.getfield 15, 3) := by decide +kernel
theorem dX5_rightBoards_9 : decode cX5_rightBoards 9 = .ok (.if_icmp .ge 28, 3) := by decide +kernel
theorem dX5_rightBoards_12 : decode cX5_rightBoards 12 = .ok (.aload_n 0, 1) := by decide +kernel
theorem dX5_rightBoards_13 : decode cX5_rightBoards 13 = .ok (.aload_n 0, 1) := by decide +kernel
theorem dX5_rightBoards_14 : decode cX5_rightBoards 14 = .ok (.getfield 11, 3) := by decide +kernel
theorem dX5_rightBoards_17 : decode cX5_rightBoards 17 = .ok (.iload_n 2, 1) := by decide +kernel
theorem dX5_rightBoards_18 : decode cX5_rightBoards 18 = .ok (.aaload, 1) := by decide +kernel
theorem dX5_rightBoards_19 : decode cX5_rightBoards 19 = .ok (.invokevirtual 247, 3) := by decide +kernel
theorem dX5_rightBoards_22 : decode cX5_rightBoards 22 = .ok (.ifCond .eq 9, 3) := by decide +kernel
theorem dX5_rightBoards_25 : decode cX5_rightBoards 25 = .ok (.iload_n 1, 1) := by decide +kernel
theorem dX5_rightBoards_26 : decode cX5_rightBoards 26 = .ok (.iconst 1, 1) := by decide +kernel
theorem dX5_rightBoards_27 : decode cX5_rightBoards 27 = .ok (.iload_n 2, 1) := by decide +kernel
theorem dX5_rightBoards_28 : decode cX5_rightBoards 28 = .ok (.ishl, 1) := by decide +kernel
theorem dX5_rightBoards_29 : decode cX5_rightBoards 29 = .ok (.ior, 1) := by decide +kernel
theorem dX5_rightBoards_30 : decode cX5_rightBoards 30 = .ok (.istore_n 1, 1) := by decide +kernel
theorem dX5_rightBoards_31 : decode cX5_rightBoards 31 = .ok (.iinc 2 1, 3) := by decide +kernel
theorem dX5_rightBoards_34 : decode cX5_rightBoards 34 = .ok (.goto (-30), 3) := by decide +kernel
theorem dX5_rightBoards_37 : decode cX5_rightBoards 37 = .ok (.iload_n 1, 1) := by decide +kernel
theorem dX5_rightBoards_38 : decode cX5_rightBoards 38 = .ok (.ireturn, 1) := by decide +kernel
theorem dX5_demandWithin_0 : decode cX5_demandWithin 0 = .ok (.iload_n 0, 1) := by decide +kernel
theorem dX5_demandWithin_1 : decode cX5_demandWithin 1 = .ok (.iload_n 1, 1) := by decide +kernel
theorem dX5_demandWithin_2 : decode cX5_demandWithin 2 = .ok (.if_icmp .lt 8, 3) := by decide +kernel
theorem dX5_demandWithin_5 : decode cX5_demandWithin 5 = .ok (.iload_n 0, 1) := by decide +kernel
theorem dX5_demandWithin_6 : decode cX5_demandWithin 6 = .ok (.iload_n 2, 1) := by decide +kernel
theorem dX5_demandWithin_7 : decode cX5_demandWithin 7 = .ok (.if_icmp .le 13, 3) := by decide +kernel
theorem dX5_demandWithin_10 : decode cX5_demandWithin 10 = .ok (.new 251, 3) := by decide +kernel
theorem dX5_demandWithin_13 : decode cX5_demandWithin 13 = .ok (.dup, 1) := by decide +kernel
theorem dX5_demandWithin_14 : decode cX5_demandWithin 14 = .ok (.ldc 253, 2) := by decide +kernel
theorem dX5_demandWithin_16 : decode cX5_demandWithin 16 = .ok (.invokespecial 255, 3) := by decide +kernel
theorem dX5_demandWithin_19 : decode cX5_demandWithin 19 = .ok (.athrow, 1) := by decide +kernel
theorem dX5_demandWithin_20 : decode cX5_demandWithin 20 = .ok (.return_, 1) := by decide +kernel
theorem dX5_demandDay_0 : decode cX5_demandDay 0 = .ok (.iload_n 0, 1) := by decide +kernel
theorem dX5_demandDay_1 : decode cX5_demandDay 1 = .ok (.iconst 0, 1) := by decide +kernel
theorem dX5_demandDay_2 : decode cX5_demandDay 2 = .ok (.ldc_w 256, 3) := by decide +kernel
theorem dX5_demandDay_5 : decode cX5_demandDay 5 = .ok (.invokestatic 55, 3) := by decide +kernel
theorem dX5_demandDay_8 : decode cX5_demandDay 8 = .ok (.return_, 1) := by decide +kernel
theorem dX5_demandMinutesLate_0 : decode cX5_demandMinutesLate 0 = .ok (.iload_n 0, 1) := by decide +kernel
theorem dX5_demandMinutesLate_1 : decode cX5_demandMinutesLate 1 = .ok (.bipush (-60), 2) := by decide +kernel
theorem dX5_demandMinutesLate_3 : decode cX5_demandMinutesLate 3 = .ok (.bipush 60, 2) := by decide +kernel
theorem dX5_demandMinutesLate_5 : decode cX5_demandMinutesLate 5 = .ok (.invokestatic 55, 3) := by decide +kernel
theorem dX5_demandMinutesLate_8 : decode cX5_demandMinutesLate 8 = .ok (.return_, 1) := by decide +kernel
theorem dX5_demandFisherman_0 : decode cX5_demandFisherman 0 = .ok (.iload_n 0, 1) := by decide +kernel
theorem dX5_demandFisherman_1 : decode cX5_demandFisherman 1 = .ok (.ifCond .lt 9, 3) := by decide +kernel
theorem dX5_demandFisherman_4 : decode cX5_demandFisherman 4 = .ok (.iload_n 0, 1) := by decide +kernel
theorem dX5_demandFisherman_5 : decode cX5_demandFisherman 5 = .ok (.bipush 6, 2) := by decide +kernel
theorem dX5_demandFisherman_7 : decode cX5_demandFisherman 7 = .ok (.if_icmp .lt 14, 3) := by decide +kernel
theorem dX5_demandFisherman_10 : decode cX5_demandFisherman 10 = .ok (.new 257, 3) := by decide +kernel
theorem dX5_demandFisherman_13 : decode cX5_demandFisherman 13 = .ok (.dup, 1) := by decide +kernel
theorem dX5_demandFisherman_14 : decode cX5_demandFisherman 14 = .ok (.ldc_w 259, 3) := by decide +kernel
theorem dX5_demandFisherman_17 : decode cX5_demandFisherman 17 = .ok (.invokespecial 261, 3) := by decide +kernel
theorem dX5_demandFisherman_20 : decode cX5_demandFisherman 20 = .ok (.athrow, 1) := by decide +kernel
theorem dX5_demandFisherman_21 : decode cX5_demandFisherman 21 = .ok (.return_, 1) := by decide +kernel
theorem dX5_demandPier_0 : decode cX5_demandPier 0 = .ok (.iload_n 1, 1) := by decide +kernel
theorem dX5_demandPier_1 : decode cX5_demandPier 1 = .ok (.ifCond .lt 11, 3) := by decide +kernel
theorem dX5_demandPier_4 : decode cX5_demandPier 4 = .ok (.iload_n 1, 1) := by decide +kernel
theorem dX5_demandPier_5 : decode cX5_demandPier 5 = .ok (.aload_n 0, 1) := by decide +kernel
theorem dX5_demandPier_6 : decode cX5_demandPier 6 = .ok (.getfield 15, 3) := by decide +kernel
theorem dX5_demandPier_9 : decode cX5_demandPier 9 = .ok (.if_icmp .lt 14, 3) := by decide +kernel
theorem dX5_demandPier_12 : decode cX5_demandPier 12 = .ok (.new 257, 3) := by decide +kernel
theorem dX5_demandPier_15 : decode cX5_demandPier 15 = .ok (.dup, 1) := by decide +kernel
theorem dX5_demandPier_16 : decode cX5_demandPier 16 = .ok (.ldc_w 262, 3) := by decide +kernel
theorem dX5_demandPier_19 : decode cX5_demandPier 19 = .ok (.invokespecial 261, 3) := by decide +kernel
theorem dX5_demandPier_22 : decode cX5_demandPier 22 = .ok (.athrow, 1) := by decide +kernel
theorem dX5_demandPier_23 : decode cX5_demandPier 23 = .ok (.return_, 1) := by decide +kernel
theorem dX5_pierNumbered_0 : decode cX5_pierNumbered 0 = .ok (.aload_n 0, 1) := by decide +kernel
theorem dX5_pierNumbered_1 : decode cX5_pierNumbered 1 = .ok (.iload_n 1, 1) := by decide +kernel
theorem dX5_pierNumbered_2 : decode cX5_pierNumbered 2 = .ok (.invokevirtual 185, 3) := by decide +kernel
theorem dX5_pierNumbered_5 : decode cX5_pierNumbered 5 = .ok (.aload_n 0, 1) := by decide +kernel
theorem dX5_pierNumbered_6 : decode cX5_pierNumbered 6 = .ok (.getfield 11, 3) := by decide +kernel
theorem dX5_pierNumbered_9 : decode cX5_pierNumbered 9 = .ok (.iload_n 1, 1) := by decide +kernel
theorem dX5_pierNumbered_10 : decode cX5_pierNumbered 10 = .ok (.aaload, 1) := by decide +kernel
theorem dX5_pierNumbered_11 : decode cX5_pierNumbered 11 = .ok (.areturn, 1) := by decide +kernel
theorem dX5_reportsFor_0 : decode cX5_reportsFor 0 = .ok (.iload_n 1, 1) := by decide +kernel
theorem dX5_reportsFor_1 : decode cX5_reportsFor 1 = .ok (.invokestatic 144, 3) := by decide +kernel
theorem dX5_reportsFor_4 : decode cX5_reportsFor 4 = .ok (.aload_n 0, 1) := by decide +kernel
theorem dX5_reportsFor_5 : decode cX5_reportsFor 5 = .ok (.iload_n 2, 1) := by decide +kernel
theorem dX5_reportsFor_6 : decode cX5_reportsFor 6 = .ok (.invokevirtual 95, 3) := by decide +kernel
theorem dX5_reportsFor_9 : decode cX5_reportsFor 9 = .ok (.getfield 69, 3) := by decide +kernel
theorem dX5_reportsFor_12 : decode cX5_reportsFor 12 = .ok (.areturn, 1) := by decide +kernel
theorem dX5_placeOfReport_0 : decode cX5_placeOfReport 0 = .ok (.aload_n 0, 1) := by decide +kernel
theorem dX5_placeOfReport_1 : decode cX5_placeOfReport 1 = .ok (.iload_n 1, 1) := by decide +kernel
theorem dX5_placeOfReport_2 : decode cX5_placeOfReport 2 = .ok (.invokevirtual 264, 3) := by decide +kernel
theorem dX5_placeOfReport_5 : decode cX5_placeOfReport 5 = .ok (.istore_n 2, 1) := by decide +kernel
theorem dX5_placeOfReport_6 : decode cX5_placeOfReport 6 = .ok (.iload_n 2, 1) := by decide +kernel
theorem dX5_placeOfReport_7 : decode cX5_placeOfReport 7 = .ok (.iconst (-1), 1) := by decide +kernel
theorem dX5_placeOfReport_8 : decode cX5_placeOfReport 8 = .ok (.if_icmp .ne 14, 3) := by decide +kernel
theorem dX5_placeOfReport_11 : decode cX5_placeOfReport 11 = .ok (.new 148, 3) := by decide +kernel
theorem dX5_placeOfReport_14 : decode cX5_placeOfReport 14 = .ok (.dup, 1) := by decide +kernel
theorem dX5_placeOfReport_15 : decode cX5_placeOfReport 15 = .ok (.ldc_w 267, 3) := by decide +kernel
theorem dX5_placeOfReport_18 : decode cX5_placeOfReport 18 = .ok (.invokespecial 152, 3) := by decide +kernel
theorem dX5_placeOfReport_21 : decode cX5_placeOfReport 21 = .ok (.athrow, 1) := by decide +kernel
theorem dX5_placeOfReport_22 : decode cX5_placeOfReport 22 = .ok (.iload_n 2, 1) := by decide +kernel
theorem dX5_placeOfReport_23 : decode cX5_placeOfReport 23 = .ok (.ireturn, 1) := by decide +kernel
theorem dX5_tinsOf_0 : decode cX5_tinsOf 0 = .ok (.iload_n 1, 1) := by decide +kernel
theorem dX5_tinsOf_1 : decode cX5_tinsOf 1 = .ok (.iconst 0, 1) := by decide +kernel
theorem dX5_tinsOf_2 : decode cX5_tinsOf 2 = .ok (.iconst 1, 1) := by decide +kernel
theorem dX5_tinsOf_3 : decode cX5_tinsOf 3 = .ok (.invokestatic 55, 3) := by decide +kernel
theorem dX5_tinsOf_6 : decode cX5_tinsOf 6 = .ok (.iload_n 1, 1) := by decide +kernel
theorem dX5_tinsOf_7 : decode cX5_tinsOf 7 = .ok (.ifCond .ne 10, 3) := by decide +kernel
theorem dX5_tinsOf_10 : decode cX5_tinsOf 10 = .ok (.aload_n 0, 1) := by decide +kernel
theorem dX5_tinsOf_11 : decode cX5_tinsOf 11 = .ok (.getfield 29, 3) := by decide +kernel
theorem dX5_tinsOf_14 : decode cX5_tinsOf 14 = .ok (.goto 7, 3) := by decide +kernel
theorem dX5_tinsOf_17 : decode cX5_tinsOf 17 = .ok (.aload_n 0, 1) := by decide +kernel
theorem dX5_tinsOf_18 : decode cX5_tinsOf 18 = .ok (.getfield 33, 3) := by decide +kernel
theorem dX5_tinsOf_21 : decode cX5_tinsOf 21 = .ok (.areturn, 1) := by decide +kernel
theorem dX5_boardWithLine_0 : decode cX5_boardWithLine 0 = .ok (.aload_n 0, 1) := by decide +kernel
theorem dX5_boardWithLine_1 : decode cX5_boardWithLine 1 = .ok (.iload_n 1, 1) := by decide +kernel
theorem dX5_boardWithLine_2 : decode cX5_boardWithLine 2 = .ok (.invokevirtual 95, 3) := by decide +kernel
theorem dX5_boardWithLine_5 : decode cX5_boardWithLine 5 = .ok (.getfield 79, 3) := by decide +kernel
theorem dX5_boardWithLine_8 : decode cX5_boardWithLine 8 = .ok (.astore_n 3, 1) := by decide +kernel
theorem dX5_boardWithLine_9 : decode cX5_boardWithLine 9 = .ok (.iload_n 2, 1) := by decide +kernel
theorem dX5_boardWithLine_10 : decode cX5_boardWithLine 10 = .ok (.ifCond .lt 14, 3) := by decide +kernel
theorem dX5_boardWithLine_13 : decode cX5_boardWithLine 13 = .ok (.iload_n 2, 1) := by decide +kernel
theorem dX5_boardWithLine_14 : decode cX5_boardWithLine 14 = .ok (.aload_n 3, 1) := by decide +kernel
theorem dX5_boardWithLine_15 : decode cX5_boardWithLine 15 = .ok (.getfield 228, 3) := by decide +kernel
theorem dX5_boardWithLine_18 : decode cX5_boardWithLine 18 = .ok (.getfield 106, 3) := by decide +kernel
theorem dX5_boardWithLine_21 : decode cX5_boardWithLine 21 = .ok (.if_icmp .lt 14, 3) := by decide +kernel
theorem dX5_boardWithLine_24 : decode cX5_boardWithLine 24 = .ok (.new 257, 3) := by decide +kernel
theorem dX5_boardWithLine_27 : decode cX5_boardWithLine 27 = .ok (.dup, 1) := by decide +kernel
theorem dX5_boardWithLine_28 : decode cX5_boardWithLine 28 = .ok (.ldc_w 269, 3) := by decide +kernel
theorem dX5_boardWithLine_31 : decode cX5_boardWithLine 31 = .ok (.invokespecial 261, 3) := by decide +kernel
theorem dX5_boardWithLine_34 : decode cX5_boardWithLine 34 = .ok (.athrow, 1) := by decide +kernel
theorem dX5_boardWithLine_35 : decode cX5_boardWithLine 35 = .ok (.aload_n 3, 1) := by decide +kernel
theorem dX5_boardWithLine_36 : decode cX5_boardWithLine 36 = .ok (.areturn, 1) := by decide +kernel
theorem dX5_boardWithPaintedLine_0 : decode cX5_boardWithPaintedLine 0 = .ok (.aload_n 0, 1) := by decide +kernel
theorem dX5_boardWithPaintedLine_1 : decode cX5_boardWithPaintedLine 1 = .ok (.iload_n 1, 1) := by decide +kernel
theorem dX5_boardWithPaintedLine_2 : decode cX5_boardWithPaintedLine 2 = .ok (.iload_n 2, 1) := by decide +kernel
theorem dX5_boardWithPaintedLine_3 : decode cX5_boardWithPaintedLine 3 = .ok (.invokevirtual 231, 3) := by decide +kernel
theorem dX5_boardWithPaintedLine_6 : decode cX5_boardWithPaintedLine 6 = .ok (.astore_n 3, 1) := by decide +kernel
theorem dX5_boardWithPaintedLine_7 : decode cX5_boardWithPaintedLine 7 = .ok (.aload_n 3, 1) := by decide +kernel
theorem dX5_boardWithPaintedLine_8 : decode cX5_boardWithPaintedLine 8 = .ok (.getfield 235, 3) := by decide +kernel
theorem dX5_boardWithPaintedLine_11 : decode cX5_boardWithPaintedLine 11 = .ok (.iload_n 2, 1) := by decide +kernel
theorem dX5_boardWithPaintedLine_12 : decode cX5_boardWithPaintedLine 12 = .ok (.iaload, 1) := by decide +kernel
theorem dX5_boardWithPaintedLine_13 : decode cX5_boardWithPaintedLine 13 = .ok (.ifCond .ne 14, 3) := by decide +kernel
theorem dX5_boardWithPaintedLine_16 : decode cX5_boardWithPaintedLine 16 = .ok (.new 148, 3) := by decide +kernel
theorem dX5_boardWithPaintedLine_19 : decode cX5_boardWithPaintedLine 19 = .ok (.dup, 1) := by decide +kernel
theorem dX5_boardWithPaintedLine_20 : decode cX5_boardWithPaintedLine 20 = .ok (.ldc_w 271, 3) := by decide +kernel
theorem dX5_boardWithPaintedLine_23 : decode cX5_boardWithPaintedLine 23 = .ok (.invokespecial 152, 3) := by decide +kernel
theorem dX5_boardWithPaintedLine_26 : decode cX5_boardWithPaintedLine 26 = .ok (.athrow, 1) := by decide +kernel
theorem dX5_boardWithPaintedLine_27 : decode cX5_boardWithPaintedLine 27 = .ok (.aload_n 3, 1) := by decide +kernel
theorem dX5_boardWithPaintedLine_28 : decode cX5_boardWithPaintedLine 28 = .ok (.areturn, 1) := by decide +kernel
theorem dX5_moonAgeOn_0 : decode cX5_moonAgeOn 0 = .ok (.iconst 4, 1) := by decide +kernel
theorem dX5_moonAgeOn_1 : decode cX5_moonAgeOn 1 = .ok (.iload_n 0, 1) := by decide +kernel
theorem dX5_moonAgeOn_2 : decode cX5_moonAgeOn 2 = .ok (.imul, 1) := by decide +kernel
theorem dX5_moonAgeOn_3 : decode cX5_moonAgeOn 3 = .ok (.bipush 118, 2) := by decide +kernel
theorem dX5_moonAgeOn_5 : decode cX5_moonAgeOn 5 = .ok (.irem, 1) := by decide +kernel
theorem dX5_moonAgeOn_6 : decode cX5_moonAgeOn 6 = .ok (.ireturn, 1) := by decide +kernel
theorem dX5_fillTableWithWater_0 : decode cX5_fillTableWithWater 0 = .ok (.iload_n 2, 1) := by decide +kernel
theorem dX5_fillTableWithWater_1 : decode cX5_fillTableWithWater 1 = .ok (.invokestatic 88, 3) := by decide +kernel
theorem dX5_fillTableWithWater_4 : decode cX5_fillTableWithWater 4 = .ok (.aload_n 0, 1) := by decide +kernel
theorem dX5_fillTableWithWater_5 : decode cX5_fillTableWithWater 5 = .ok (.getfield 39, 3) := by decide +kernel
theorem dX5_fillTableWithWater_8 : decode cX5_fillTableWithWater 8 = .ok (.aload_n 0, 1) := by decide +kernel
theorem dX5_fillTableWithWater_9 : decode cX5_fillTableWithWater 9 = .ok (.iload_n 1, 1) := by decide +kernel
theorem dX5_fillTableWithWater_10 : decode cX5_fillTableWithWater 10 = .ok (.invokevirtual 95, 3) := by decide +kernel
theorem dX5_fillTableWithWater_13 : decode cX5_fillTableWithWater 13 = .ok (.iload_n 2, 1) := by decide +kernel
theorem dX5_fillTableWithWater_14 : decode cX5_fillTableWithWater 14 = .ok (.invokevirtual 102, 3) := by decide +kernel
theorem dX5_fillTableWithWater_17 : decode cX5_fillTableWithWater 17 = .ok (.iload_n 3, 1) := by decide +kernel
theorem dX5_fillTableWithWater_18 : decode cX5_fillTableWithWater 18 = .ok (.ifCond .lt 14, 3) := by decide +kernel
theorem dX5_fillTableWithWater_21 : decode cX5_fillTableWithWater 21 = .ok (.iload_n 3, 1) := by decide +kernel
theorem dX5_fillTableWithWater_22 : decode cX5_fillTableWithWater 22 = .ok (.aload_n 0, 1) := by decide +kernel
theorem dX5_fillTableWithWater_23 : decode cX5_fillTableWithWater 23 = .ok (.getfield 39, 3) := by decide +kernel
theorem dX5_fillTableWithWater_26 : decode cX5_fillTableWithWater 26 = .ok (.getfield 106, 3) := by decide +kernel
theorem dX5_fillTableWithWater_29 : decode cX5_fillTableWithWater 29 = .ok (.if_icmp .lt 14, 3) := by decide +kernel
theorem dX5_fillTableWithWater_32 : decode cX5_fillTableWithWater 32 = .ok (.new 257, 3) := by decide +kernel
theorem dX5_fillTableWithWater_35 : decode cX5_fillTableWithWater 35 = .ok (.dup, 1) := by decide +kernel
theorem dX5_fillTableWithWater_36 : decode cX5_fillTableWithWater 36 = .ok (.ldc_w 273, 3) := by decide +kernel
theorem dX5_fillTableWithWater_39 : decode cX5_fillTableWithWater 39 = .ok (.invokespecial 261, 3) := by decide +kernel
theorem dX5_fillTableWithWater_42 : decode cX5_fillTableWithWater 42 = .ok (.athrow, 1) := by decide +kernel
theorem dX5_fillTableWithWater_43 : decode cX5_fillTableWithWater 43 = .ok (.return_, 1) := by decide +kernel
theorem dX5_showsThisDay_0 : decode cX5_showsThisDay 0 = .ok (.aload_n 1, 1) := by decide +kernel
theorem dX5_showsThisDay_1 : decode cX5_showsThisDay 1 = .ok (.getfield 79, 3) := by decide +kernel
theorem dX5_showsThisDay_4 : decode cX5_showsThisDay 4 = .ok (.astore_n 2, 1) := by decide +kernel
theorem dX5_showsThisDay_5 : decode cX5_showsThisDay 5 = .ok (.aload_n 2, 1) := by decide +kernel
theorem dX5_showsThisDay_6 : decode cX5_showsThisDay 6 = .ok (.getfield 225, 3) := by decide +kernel
theorem dX5_showsThisDay_9 : decode cX5_showsThisDay 9 = .ok (.aload_n 0, 1) := by decide +kernel
theorem dX5_showsThisDay_10 : decode cX5_showsThisDay 10 = .ok (.getfield 43, 3) := by decide +kernel
theorem dX5_showsThisDay_13 : decode cX5_showsThisDay 13 = .ok (.if_icmp .ne 10, 3) := by decide +kernel
theorem dX5_showsThisDay_16 : decode cX5_showsThisDay 16 = .ok (.aload_n 2, 1) := by decide +kernel
theorem dX5_showsThisDay_17 : decode cX5_showsThisDay 17 = .ok (.invokevirtual 244, 3) := by decide +kernel
theorem dX5_showsThisDay_20 : decode cX5_showsThisDay 20 = .ok (.ifCond .eq 5, 3) := by decide +kernel
theorem dX5_showsThisDay_23 : decode cX5_showsThisDay 23 = .ok (.iconst 0, 1) := by decide +kernel
theorem dX5_showsThisDay_24 : decode cX5_showsThisDay 24 = .ok (.ireturn, 1) := by decide +kernel
theorem dX5_showsThisDay_25 : decode cX5_showsThisDay 25 = .ok (.aload_n 0, 1) := by decide +kernel
theorem dX5_showsThisDay_26 : decode cX5_showsThisDay 26 = .ok (.getfield 39, 3) := by decide +kernel
theorem dX5_showsThisDay_29 : decode cX5_showsThisDay 29 = .ok (.aload_n 1, 1) := by decide +kernel
theorem dX5_showsThisDay_30 : decode cX5_showsThisDay 30 = .ok (.aload_n 0, 1) := by decide +kernel
theorem dX5_showsThisDay_31 : decode cX5_showsThisDay 31 = .ok (.getfield 43, 3) := by decide +kernel
theorem dX5_showsThisDay_34 : decode cX5_showsThisDay 34 = .ok (.invokevirtual 102, 3) := by decide +kernel
theorem dX5_showsThisDay_37 : decode cX5_showsThisDay 37 = .ok (.aload_n 2, 1) := by decide +kernel
theorem dX5_showsThisDay_38 : decode cX5_showsThisDay 38 = .ok (.getfield 228, 3) := by decide +kernel
theorem dX5_showsThisDay_41 : decode cX5_showsThisDay 41 = .ok (.aload_n 0, 1) := by decide +kernel
theorem dX5_showsThisDay_42 : decode cX5_showsThisDay 42 = .ok (.getfield 39, 3) := by decide +kernel
theorem dX5_showsThisDay_45 : decode cX5_showsThisDay 45 = .ok (.invokevirtual 275, 3) := by decide +kernel
theorem dX5_showsThisDay_48 : decode cX5_showsThisDay 48 = .ok (.ireturn, 1) := by decide +kernel
theorem dX5_comesBefore_0 : decode cX5_comesBefore 0 = .ok (.aload_n 0, 1) := by decide +kernel
theorem dX5_comesBefore_1 : decode cX5_comesBefore 1 = .ok (.getfield 23, 3) := by decide +kernel
theorem dX5_comesBefore_4 : decode cX5_comesBefore 4 = .ok (.iload_n 1, 1) := by decide +kernel
theorem dX5_comesBefore_5 : decode cX5_comesBefore 5 = .ok (.iaload, 1) := by decide +kernel
theorem dX5_comesBefore_6 : decode cX5_comesBefore 6 = .ok (.aload_n 0, 1) := by decide +kernel
theorem dX5_comesBefore_7 : decode cX5_comesBefore 7 = .ok (.getfield 23, 3) := by decide +kernel
theorem dX5_comesBefore_10 : decode cX5_comesBefore 10 = .ok (.iload_n 2, 1) := by decide +kernel
theorem dX5_comesBefore_11 : decode cX5_comesBefore 11 = .ok (.iaload, 1) := by decide +kernel
theorem dX5_comesBefore_12 : decode cX5_comesBefore 12 = .ok (.if_icmp .eq 24, 3) := by decide +kernel
theorem dX5_comesBefore_15 : decode cX5_comesBefore 15 = .ok (.aload_n 0, 1) := by decide +kernel
theorem dX5_comesBefore_16 : decode cX5_comesBefore 16 = .ok (.getfield 23, 3) := by decide +kernel
theorem dX5_comesBefore_19 : decode cX5_comesBefore 19 = .ok (.iload_n 1, 1) := by decide +kernel
theorem dX5_comesBefore_20 : decode cX5_comesBefore 20 = .ok (.iaload, 1) := by decide +kernel
theorem dX5_comesBefore_21 : decode cX5_comesBefore 21 = .ok (.aload_n 0, 1) := by decide +kernel
theorem dX5_comesBefore_22 : decode cX5_comesBefore 22 = .ok (.getfield 23, 3) := by decide +kernel
theorem dX5_comesBefore_25 : decode cX5_comesBefore 25 = .ok (.iload_n 2, 1) := by decide +kernel
theorem dX5_comesBefore_26 : decode cX5_comesBefore 26 = .ok (.iaload, 1) := by decide +kernel
theorem dX5_comesBefore_27 : decode cX5_comesBefore 27 = .ok (.if_icmp .ge 7, 3) := by decide +kernel
theorem dX5_comesBefore_30 : decode cX5_comesBefore 30 = .ok (.iconst 1, 1) := by decide +kernel
theorem dX5_comesBefore_31 : decode cX5_comesBefore 31 = .ok (.goto 4, 3) := by decide +kernel
theorem dX5_comesBefore_34 : decode cX5_comesBefore 34 = .ok (.iconst 0, 1) := by decide +kernel
theorem dX5_comesBefore_35 : decode cX5_comesBefore 35 = .ok (.ireturn, 1) := by decide +kernel
theorem dX5_comesBefore_36 : decode cX5_comesBefore 36 = .ok (.aload_n 0, 1) := by decide +kernel
theorem dX5_comesBefore_37 : decode cX5_comesBefore 37 = .ok (.getfield 11, 3) := by decide +kernel
theorem dX5_comesBefore_40 : decode cX5_comesBefore 40 = .ok (.iload_n 1, 1) := by decide +kernel
theorem dX5_comesBefore_41 : decode cX5_comesBefore 41 = .ok (.aaload, 1) := by decide +kernel
theorem dX5_comesBefore_42 : decode cX5_comesBefore 42 = .ok (.getfield 279, 3) := by decide +kernel
theorem dX5_comesBefore_45 : decode cX5_comesBefore 45 = .ok (.aload_n 0, 1) := by decide +kernel
theorem dX5_comesBefore_46 : decode cX5_comesBefore 46 = .ok (.getfield 11, 3) := by decide +kernel
theorem dX5_comesBefore_49 : decode cX5_comesBefore 49 = .ok (.iload_n 2, 1) := by decide +kernel
theorem dX5_comesBefore_50 : decode cX5_comesBefore 50 = .ok (.aaload, 1) := by decide +kernel
theorem dX5_comesBefore_51 : decode cX5_comesBefore 51 = .ok (.getfield 279, 3) := by decide +kernel
theorem dX5_comesBefore_54 : decode cX5_comesBefore 54 = .ok (.if_icmp .eq 30, 3) := by decide +kernel
theorem dX5_comesBefore_57 : decode cX5_comesBefore 57 = .ok (.aload_n 0, 1) := by decide +kernel
theorem dX5_comesBefore_58 : decode cX5_comesBefore 58 = .ok (.getfield 11, 3) := by decide +kernel
theorem dX5_comesBefore_61 : decode cX5_comesBefore 61 = .ok (.iload_n 1, 1) := by decide +kernel
theorem dX5_comesBefore_62 : decode cX5_comesBefore 62 = .ok (.aaload, 1) := by decide +kernel
theorem dX5_comesBefore_63 : decode cX5_comesBefore 63 = .ok (.getfield 279, 3) := by decide +kernel
theorem dX5_comesBefore_66 : decode cX5_comesBefore 66 = .ok (.aload_n 0, 1) := by decide +kernel
theorem dX5_comesBefore_67 : decode cX5_comesBefore 67 = .ok (.getfield 11, 3) := by decide +kernel
theorem dX5_comesBefore_70 : decode cX5_comesBefore 70 = .ok (.iload_n 2, 1) := by decide +kernel
theorem dX5_comesBefore_71 : decode cX5_comesBefore 71 = .ok (.aaload, 1) := by decide +kernel
theorem dX5_comesBefore_72 : decode cX5_comesBefore 72 = .ok (.getfield 279, 3) := by decide +kernel
theorem dX5_comesBefore_75 : decode cX5_comesBefore 75 = .ok (.if_icmp .le 7, 3) := by decide +kernel
theorem dX5_comesBefore_78 : decode cX5_comesBefore 78 = .ok (.iconst 1, 1) := by decide +kernel
theorem dX5_comesBefore_79 : decode cX5_comesBefore 79 = .ok (.goto 4, 3) := by decide +kernel
theorem dX5_comesBefore_82 : decode cX5_comesBefore 82 = .ok (.iconst 0, 1) := by decide +kernel
theorem dX5_comesBefore_83 : decode cX5_comesBefore 83 = .ok (.ireturn, 1) := by decide +kernel
theorem dX5_comesBefore_84 : decode cX5_comesBefore 84 = .ok (.iload_n 1, 1) := by decide +kernel
theorem dX5_comesBefore_85 : decode cX5_comesBefore 85 = .ok (.iload_n 2, 1) := by decide +kernel
theorem dX5_comesBefore_86 : decode cX5_comesBefore 86 = .ok (.if_icmp .ge 7, 3) := by decide +kernel
theorem dX5_comesBefore_89 : decode cX5_comesBefore 89 = .ok (.iconst 1, 1) := by decide +kernel
theorem dX5_comesBefore_90 : decode cX5_comesBefore 90 = .ok (.goto 4, 3) := by decide +kernel
theorem dX5_comesBefore_93 : decode cX5_comesBefore 93 = .ok (.iconst 0, 1) := by decide +kernel
theorem dX5_comesBefore_94 : decode cX5_comesBefore 94 = .ok (.ireturn, 1) := by decide +kernel
theorem dX5_ordersBefore_0 : decode cX5_ordersBefore 0 = .ok (.iconst 0, 1) := by decide +kernel
theorem dX5_ordersBefore_1 : decode cX5_ordersBefore 1 = .ok (.istore_n 2, 1) := by decide +kernel
theorem dX5_ordersBefore_2 : decode cX5_ordersBefore 2 = .ok (.iconst 0, 1) := by decide +kernel
theorem dX5_ordersBefore_3 : decode cX5_ordersBefore 3 = .ok (.istore_n 3, 1) := by decide +kernel
theorem dX5_ordersBefore_4 : decode cX5_ordersBefore 4 = .ok (.iload_n 3, 1) := by decide +kernel
theorem dX5_ordersBefore_5 : decode cX5_ordersBefore 5 = .ok (.aload_n 0, 1) := by decide +kernel
theorem dX5_ordersBefore_6 : decode cX5_ordersBefore 6 = .ok (.getfield 15, 3) := by decide +kernel
theorem dX5_ordersBefore_9 : decode cX5_ordersBefore 9 = .ok (.if_icmp .ge 31, 3) := by decide +kernel
theorem dX5_ordersBefore_12 : decode cX5_ordersBefore 12 = .ok (.aload_n 0, 1) := by decide +kernel
theorem dX5_ordersBefore_13 : decode cX5_ordersBefore 13 = .ok (.getfield 23, 3) := by decide +kernel
theorem dX5_ordersBefore_16 : decode cX5_ordersBefore 16 = .ok (.iload_n 3, 1) := by decide +kernel
theorem dX5_ordersBefore_17 : decode cX5_ordersBefore 17 = .ok (.iaload, 1) := by decide +kernel
theorem dX5_ordersBefore_18 : decode cX5_ordersBefore 18 = .ok (.iconst (-1), 1) := by decide +kernel
theorem dX5_ordersBefore_19 : decode cX5_ordersBefore 19 = .ok (.if_icmp .eq 15, 3) := by decide +kernel
theorem dX5_ordersBefore_22 : decode cX5_ordersBefore 22 = .ok (.aload_n 0, 1) := by decide +kernel
theorem dX5_ordersBefore_23 : decode cX5_ordersBefore 23 = .ok (.iload_n 3, 1) := by decide +kernel
theorem dX5_ordersBefore_24 : decode cX5_ordersBefore 24 = .ok (.iload_n 1, 1) := by decide +kernel
theorem dX5_ordersBefore_25 : decode cX5_ordersBefore 25 = .ok (.invokevirtual 282, 3) := by decide +kernel
theorem dX5_ordersBefore_28 : decode cX5_ordersBefore 28 = .ok (.ifCond .eq 6, 3) := by decide +kernel
theorem dX5_ordersBefore_31 : decode cX5_ordersBefore 31 = .ok (.iinc 2 1, 3) := by decide +kernel
theorem dX5_ordersBefore_34 : decode cX5_ordersBefore 34 = .ok (.iinc 3 1, 3) := by decide +kernel
theorem dX5_ordersBefore_37 : decode cX5_ordersBefore 37 = .ok (.goto (-33), 3) := by decide +kernel
theorem dX5_ordersBefore_40 : decode cX5_ordersBefore 40 = .ok (.iload_n 2, 1) := by decide +kernel
theorem dX5_ordersBefore_41 : decode cX5_ordersBefore 41 = .ok (.ireturn, 1) := by decide +kernel
theorem dX5_pierOfOrder_0 : decode cX5_pierOfOrder 0 = .ok (.iconst 0, 1) := by decide +kernel
theorem dX5_pierOfOrder_1 : decode cX5_pierOfOrder 1 = .ok (.istore_n 2, 1) := by decide +kernel
theorem dX5_pierOfOrder_2 : decode cX5_pierOfOrder 2 = .ok (.iload_n 2, 1) := by decide +kernel
theorem dX5_pierOfOrder_3 : decode cX5_pierOfOrder 3 = .ok (.aload_n 0, 1) := by decide +kernel
theorem dX5_pierOfOrder_4 : decode cX5_pierOfOrder 4 = .ok (.getfield 15, 3) := by decide +kernel
theorem dX5_pierOfOrder_7 : decode cX5_pierOfOrder 7 = .ok (.if_icmp .ge 30, 3) := by decide +kernel
theorem dX5_pierOfOrder_10 : decode cX5_pierOfOrder 10 = .ok (.aload_n 0, 1) := by decide +kernel
theorem dX5_pierOfOrder_11 : decode cX5_pierOfOrder 11 = .ok (.getfield 23, 3) := by decide +kernel
theorem dX5_pierOfOrder_14 : decode cX5_pierOfOrder 14 = .ok (.iload_n 2, 1) := by decide +kernel
theorem dX5_pierOfOrder_15 : decode cX5_pierOfOrder 15 = .ok (.iaload, 1) := by decide +kernel
theorem dX5_pierOfOrder_16 : decode cX5_pierOfOrder 16 = .ok (.iconst (-1), 1) := by decide +kernel
theorem dX5_pierOfOrder_17 : decode cX5_pierOfOrder 17 = .ok (.if_icmp .eq 14, 3) := by decide +kernel
theorem dX5_pierOfOrder_20 : decode cX5_pierOfOrder 20 = .ok (.aload_n 0, 1) := by decide +kernel
theorem dX5_pierOfOrder_21 : decode cX5_pierOfOrder 21 = .ok (.iload_n 2, 1) := by decide +kernel
theorem dX5_pierOfOrder_22 : decode cX5_pierOfOrder 22 = .ok (.invokevirtual 190, 3) := by decide +kernel
theorem dX5_pierOfOrder_25 : decode cX5_pierOfOrder 25 = .ok (.iload_n 1, 1) := by decide +kernel
theorem dX5_pierOfOrder_26 : decode cX5_pierOfOrder 26 = .ok (.if_icmp .ne 5, 3) := by decide +kernel
theorem dX5_pierOfOrder_29 : decode cX5_pierOfOrder 29 = .ok (.iload_n 2, 1) := by decide +kernel
theorem dX5_pierOfOrder_30 : decode cX5_pierOfOrder 30 = .ok (.ireturn, 1) := by decide +kernel
theorem dX5_pierOfOrder_31 : decode cX5_pierOfOrder 31 = .ok (.iinc 2 1, 3) := by decide +kernel
theorem dX5_pierOfOrder_34 : decode cX5_pierOfOrder 34 = .ok (.goto (-32), 3) := by decide +kernel
theorem dX5_pierOfOrder_37 : decode cX5_pierOfOrder 37 = .ok (.iconst (-1), 1) := by decide +kernel
theorem dX5_pierOfOrder_38 : decode cX5_pierOfOrder 38 = .ok (.ireturn, 1) := by decide +kernel
theorem dX5_beginFirstOrder_0 : decode cX5_beginFirstOrder 0 = .ok (.aload_n 0, 1) := by decide +kernel
theorem dX5_beginFirstOrder_1 : decode cX5_beginFirstOrder 1 = .ok (.iconst 0, 1) := by decide +kernel
theorem dX5_beginFirstOrder_2 : decode cX5_beginFirstOrder 2 = .ok (.invokevirtual 195, 3) := by decide +kernel
theorem dX5_beginFirstOrder_5 : decode cX5_beginFirstOrder 5 = .ok (.istore_n 1, 1) := by decide +kernel
theorem dX5_beginFirstOrder_6 : decode cX5_beginFirstOrder 6 = .ok (.iload_n 1, 1) := by decide +kernel
theorem dX5_beginFirstOrder_7 : decode cX5_beginFirstOrder 7 = .ok (.iconst (-1), 1) := by decide +kernel
theorem dX5_beginFirstOrder_8 : decode cX5_beginFirstOrder 8 = .ok (.if_icmp .eq 39, 3) := by decide +kernel
theorem dX5_beginFirstOrder_11 : decode cX5_beginFirstOrder 11 = .ok (.aload_n 0, 1) := by decide +kernel
theorem dX5_beginFirstOrder_12 : decode cX5_beginFirstOrder 12 = .ok (.getfield 11, 3) := by decide +kernel
theorem dX5_beginFirstOrder_15 : decode cX5_beginFirstOrder 15 = .ok (.iload_n 1, 1) := by decide +kernel
theorem dX5_beginFirstOrder_16 : decode cX5_beginFirstOrder 16 = .ok (.aaload, 1) := by decide +kernel
theorem dX5_beginFirstOrder_17 : decode cX5_beginFirstOrder 17 = .ok (.getfield 79, 3) := by decide +kernel
theorem dX5_beginFirstOrder_20 : decode cX5_beginFirstOrder 20 = .ok (.aload_n 0, 1) := by decide +kernel
theorem dX5_beginFirstOrder_21 : decode cX5_beginFirstOrder 21 = .ok (.getfield 11, 3) := by decide +kernel
theorem dX5_beginFirstOrder_24 : decode cX5_beginFirstOrder 24 = .ok (.iload_n 1, 1) := by decide +kernel
theorem dX5_beginFirstOrder_25 : decode cX5_beginFirstOrder 25 = .ok (.aaload, 1) := by decide +kernel
theorem dX5_beginFirstOrder_26 : decode cX5_beginFirstOrder 26 = .ok (.aload_n 0, 1) := by decide +kernel
theorem dX5_beginFirstOrder_27 : decode cX5_beginFirstOrder 27 = .ok (.getfield 23, 3) := by decide +kernel
theorem dX5_beginFirstOrder_30 : decode cX5_beginFirstOrder 30 = .ok (.iload_n 1, 1) := by decide +kernel
theorem dX5_beginFirstOrder_31 : decode cX5_beginFirstOrder 31 = .ok (.iaload, 1) := by decide +kernel
theorem dX5_beginFirstOrder_32 : decode cX5_beginFirstOrder 32 = .ok (.invokevirtual 286, 3) := by decide +kernel
theorem dX5_beginFirstOrder_35 : decode cX5_beginFirstOrder 35 = .ok (.aload_n 0, 1) := by decide +kernel
theorem dX5_beginFirstOrder_36 : decode cX5_beginFirstOrder 36 = .ok (.getfield 23, 3) := by decide +kernel
theorem dX5_beginFirstOrder_39 : decode cX5_beginFirstOrder 39 = .ok (.iload_n 1, 1) := by decide +kernel
theorem dX5_beginFirstOrder_40 : decode cX5_beginFirstOrder 40 = .ok (.iconst (-1), 1) := by decide +kernel
theorem dX5_beginFirstOrder_41 : decode cX5_beginFirstOrder 41 = .ok (.iastore, 1) := by decide +kernel
theorem dX5_beginFirstOrder_42 : decode cX5_beginFirstOrder 42 = .ok (.aload_n 0, 1) := by decide +kernel
theorem dX5_beginFirstOrder_43 : decode cX5_beginFirstOrder 43 = .ok (.iload_n 1, 1) := by decide +kernel
theorem dX5_beginFirstOrder_44 : decode cX5_beginFirstOrder 44 = .ok (.putfield 46, 3) := by decide +kernel
theorem dX5_beginFirstOrder_47 : decode cX5_beginFirstOrder 47 = .ok (.return_, 1) := by decide +kernel
theorem dX5_paintNextLine_0 : decode cX5_paintNextLine 0 = .ok (.aload_n 0, 1) := by decide +kernel
theorem dX5_paintNextLine_1 : decode cX5_paintNextLine 1 = .ok (.getfield 46, 3) := by decide +kernel
theorem dX5_paintNextLine_4 : decode cX5_paintNextLine 4 = .ok (.iconst (-1), 1) := by decide +kernel
theorem dX5_paintNextLine_5 : decode cX5_paintNextLine 5 = .ok (.if_icmp .ne 7, 3) := by decide +kernel
theorem dX5_paintNextLine_8 : decode cX5_paintNextLine 8 = .ok (.aload_n 0, 1) := by decide +kernel
theorem dX5_paintNextLine_9 : decode cX5_paintNextLine 9 = .ok (.invokevirtual 289, 3) := by decide +kernel
theorem dX5_paintNextLine_12 : decode cX5_paintNextLine 12 = .ok (.aload_n 0, 1) := by decide +kernel
theorem dX5_paintNextLine_13 : decode cX5_paintNextLine 13 = .ok (.getfield 46, 3) := by decide +kernel
theorem dX5_paintNextLine_16 : decode cX5_paintNextLine 16 = .ok (.iconst (-1), 1) := by decide +kernel
theorem dX5_paintNextLine_17 : decode cX5_paintNextLine 17 = .ok (.if_icmp .ne 5, 3) := by decide +kernel
theorem dX5_paintNextLine_20 : decode cX5_paintNextLine 20 = .ok (.iconst 0, 1) := by decide +kernel
theorem dX5_paintNextLine_21 : decode cX5_paintNextLine 21 = .ok (.ireturn, 1) := by decide +kernel
theorem dX5_paintNextLine_22 : decode cX5_paintNextLine 22 = .ok (.aload_n 0, 1) := by decide +kernel
theorem dX5_paintNextLine_23 : decode cX5_paintNextLine 23 = .ok (.getfield 11, 3) := by decide +kernel
theorem dX5_paintNextLine_26 : decode cX5_paintNextLine 26 = .ok (.aload_n 0, 1) := by decide +kernel
theorem dX5_paintNextLine_27 : decode cX5_paintNextLine 27 = .ok (.getfield 46, 3) := by decide +kernel
theorem dX5_paintNextLine_30 : decode cX5_paintNextLine 30 = .ok (.aaload, 1) := by decide +kernel
theorem dX5_paintNextLine_31 : decode cX5_paintNextLine 31 = .ok (.astore_n 1, 1) := by decide +kernel
theorem dX5_paintNextLine_32 : decode cX5_paintNextLine 32 = .ok (.aload_n 1, 1) := by decide +kernel
theorem dX5_paintNextLine_33 : decode cX5_paintNextLine 33 = .ok (.getfield 79, 3) := by decide +kernel
theorem dX5_paintNextLine_36 : decode cX5_paintNextLine 36 = .ok (.invokevirtual 198, 3) := by decide +kernel
theorem dX5_paintNextLine_39 : decode cX5_paintNextLine 39 = .ok (.iconst 1, 1) := by decide +kernel
theorem dX5_paintNextLine_40 : decode cX5_paintNextLine 40 = .ok (.isub, 1) := by decide +kernel
theorem dX5_paintNextLine_41 : decode cX5_paintNextLine 41 = .ok (.istore_n 2, 1) := by decide +kernel
theorem dX5_paintNextLine_42 : decode cX5_paintNextLine 42 = .ok (.iload_n 2, 1) := by decide +kernel
theorem dX5_paintNextLine_43 : decode cX5_paintNextLine 43 = .ok (.ifCond .lt 24, 3) := by decide +kernel
theorem dX5_paintNextLine_46 : decode cX5_paintNextLine 46 = .ok (.aload_n 0, 1) := by decide +kernel
theorem dX5_paintNextLine_47 : decode cX5_paintNextLine 47 = .ok (.aload_n 1, 1) := by decide +kernel
theorem dX5_paintNextLine_48 : decode cX5_paintNextLine 48 = .ok (.getfield 79, 3) := by decide +kernel
theorem dX5_paintNextLine_51 : decode cX5_paintNextLine 51 = .ok (.iload_n 2, 1) := by decide +kernel
theorem dX5_paintNextLine_52 : decode cX5_paintNextLine 52 = .ok (.invokevirtual 212, 3) := by decide +kernel
theorem dX5_paintNextLine_55 : decode cX5_paintNextLine 55 = .ok (.iconst 5, 1) := by decide +kernel
theorem dX5_paintNextLine_56 : decode cX5_paintNextLine 56 = .ok (.aload_n 1, 1) := by decide +kernel
theorem dX5_paintNextLine_57 : decode cX5_paintNextLine 57 = .ok (.getfield 279, 3) := by decide +kernel
theorem dX5_paintNextLine_60 : decode cX5_paintNextLine 60 = .ok (.iadd, 1) := by decide +kernel
theorem dX5_paintNextLine_61 : decode cX5_paintNextLine 61 = .ok (.invokevirtual 216, 3) := by decide +kernel
theorem dX5_paintNextLine_64 : decode cX5_paintNextLine 64 = .ok (.ifCond .ne 5, 3) := by decide +kernel
theorem dX5_paintNextLine_67 : decode cX5_paintNextLine 67 = .ok (.iconst 0, 1) := by decide +kernel
theorem dX5_paintNextLine_68 : decode cX5_paintNextLine 68 = .ok (.ireturn, 1) := by decide +kernel
theorem dX5_paintNextLine_69 : decode cX5_paintNextLine 69 = .ok (.aload_n 0, 1) := by decide +kernel
theorem dX5_paintNextLine_70 : decode cX5_paintNextLine 70 = .ok (.dup, 1) := by decide +kernel
theorem dX5_paintNextLine_71 : decode cX5_paintNextLine 71 = .ok (.getfield 49, 3) := by decide +kernel
theorem dX5_paintNextLine_74 : decode cX5_paintNextLine 74 = .ok (.iconst 5, 1) := by decide +kernel
theorem dX5_paintNextLine_75 : decode cX5_paintNextLine 75 = .ok (.iadd, 1) := by decide +kernel
theorem dX5_paintNextLine_76 : decode cX5_paintNextLine 76 = .ok (.putfield 49, 3) := by decide +kernel
theorem dX5_paintNextLine_79 : decode cX5_paintNextLine 79 = .ok (.aload_n 0, 1) := by decide +kernel
theorem dX5_paintNextLine_80 : decode cX5_paintNextLine 80 = .ok (.dup, 1) := by decide +kernel
theorem dX5_paintNextLine_81 : decode cX5_paintNextLine 81 = .ok (.getfield 52, 3) := by decide +kernel
theorem dX5_paintNextLine_84 : decode cX5_paintNextLine 84 = .ok (.aload_n 1, 1) := by decide +kernel
theorem dX5_paintNextLine_85 : decode cX5_paintNextLine 85 = .ok (.getfield 279, 3) := by decide +kernel
theorem dX5_paintNextLine_88 : decode cX5_paintNextLine 88 = .ok (.iadd, 1) := by decide +kernel
theorem dX5_paintNextLine_89 : decode cX5_paintNextLine 89 = .ok (.putfield 52, 3) := by decide +kernel
theorem dX5_paintNextLine_92 : decode cX5_paintNextLine 92 = .ok (.aload_n 1, 1) := by decide +kernel
theorem dX5_paintNextLine_93 : decode cX5_paintNextLine 93 = .ok (.getfield 79, 3) := by decide +kernel
theorem dX5_paintNextLine_96 : decode cX5_paintNextLine 96 = .ok (.iload_n 2, 1) := by decide +kernel
theorem dX5_paintNextLine_97 : decode cX5_paintNextLine 97 = .ok (.aload_n 0, 1) := by decide +kernel
theorem dX5_paintNextLine_98 : decode cX5_paintNextLine 98 = .ok (.getfield 43, 3) := by decide +kernel
theorem dX5_paintNextLine_101 : decode cX5_paintNextLine 101 = .ok (.invokevirtual 222, 3) := by decide +kernel
theorem dX5_paintNextLine_104 : decode cX5_paintNextLine 104 = .ok (.aload_n 1, 1) := by decide +kernel
theorem dX5_paintNextLine_105 : decode cX5_paintNextLine 105 = .ok (.getfield 79, 3) := by decide +kernel
theorem dX5_paintNextLine_108 : decode cX5_paintNextLine 108 = .ok (.aload_n 1, 1) := by decide +kernel
theorem dX5_paintNextLine_109 : decode cX5_paintNextLine 109 = .ok (.getfield 279, 3) := by decide +kernel
theorem dX5_paintNextLine_112 : decode cX5_paintNextLine 112 = .ok (.invokevirtual 292, 3) := by decide +kernel
theorem dX5_paintNextLine_115 : decode cX5_paintNextLine 115 = .ok (.iload_n 2, 1) := by decide +kernel
theorem dX5_paintNextLine_116 : decode cX5_paintNextLine 116 = .ok (.ifCond .ne 8, 3) := by decide +kernel
theorem dX5_paintNextLine_119 : decode cX5_paintNextLine 119 = .ok (.aload_n 0, 1) := by decide +kernel
theorem dX5_paintNextLine_120 : decode cX5_paintNextLine 120 = .ok (.iconst (-1), 1) := by decide +kernel
theorem dX5_paintNextLine_121 : decode cX5_paintNextLine 121 = .ok (.putfield 46, 3) := by decide +kernel
theorem dX5_paintNextLine_124 : decode cX5_paintNextLine 124 = .ok (.iconst 1, 1) := by decide +kernel
theorem dX5_paintNextLine_125 : decode cX5_paintNextLine 125 = .ok (.ireturn, 1) := by decide +kernel
theorem dX5_tinsForLine_0 : decode cX5_tinsForLine 0 = .ok (.aload_n 1, 1) := by decide +kernel
theorem dX5_tinsForLine_1 : decode cX5_tinsForLine 1 = .ok (.getfield 228, 3) := by decide +kernel
theorem dX5_tinsForLine_4 : decode cX5_tinsForLine 4 = .ok (.getfield 118, 3) := by decide +kernel
theorem dX5_tinsForLine_7 : decode cX5_tinsForLine 7 = .ok (.iload_n 2, 1) := by decide +kernel
theorem dX5_tinsForLine_8 : decode cX5_tinsForLine 8 = .ok (.baload, 1) := by decide +kernel
theorem dX5_tinsForLine_9 : decode cX5_tinsForLine 9 = .ok (.ifCond .eq 10, 3) := by decide +kernel
theorem dX5_tinsForLine_12 : decode cX5_tinsForLine 12 = .ok (.aload_n 0, 1) := by decide +kernel
theorem dX5_tinsForLine_13 : decode cX5_tinsForLine 13 = .ok (.getfield 29, 3) := by decide +kernel
theorem dX5_tinsForLine_16 : decode cX5_tinsForLine 16 = .ok (.goto 7, 3) := by decide +kernel
theorem dX5_tinsForLine_19 : decode cX5_tinsForLine 19 = .ok (.aload_n 0, 1) := by decide +kernel
theorem dX5_tinsForLine_20 : decode cX5_tinsForLine 20 = .ok (.getfield 33, 3) := by decide +kernel
theorem dX5_tinsForLine_23 : decode cX5_tinsForLine 23 = .ok (.areturn, 1) := by decide +kernel
theorem dX6_init_0 : decode cX6_init 0 = .ok (.aload_n 0, 1) := by decide +kernel
theorem dX6_init_1 : decode cX6_init 1 = .ok (.invokespecial 1, 3) := by decide +kernel
theorem dX6_init_4 : decode cX6_init 4 = .ok (.aload_n 0, 1) := by decide +kernel
theorem dX6_init_5 : decode cX6_init 5 = .ok (.bipush 6, 2) := by decide +kernel
theorem dX6_init_7 : decode cX6_init 7 = .ok (.newarray .int, 2) := by decide +kernel
theorem dX6_init_9 : decode cX6_init 9 = .ok (.putfield 7, 3) := by decide +kernel
theorem dX6_init_12 : decode cX6_init 12 = .ok (.aload_n 0, 1) := by decide +kernel
theorem dX6_init_13 : decode cX6_init 13 = .ok (.bipush 6, 2) := by decide +kernel
theorem dX6_init_15 : decode cX6_init 15 = .ok (.newarray .int, 2) := by decide +kernel
theorem dX6_init_17 : decode cX6_init 17 = .ok (.putfield 13, 3) := by decide +kernel
theorem dX6_init_20 : decode cX6_init 20 = .ok (.aload_n 0, 1) := by decide +kernel
theorem dX6_init_21 : decode cX6_init 21 = .ok (.bipush 6, 2) := by decide +kernel
theorem dX6_init_23 : decode cX6_init 23 = .ok (.newarray .int, 2) := by decide +kernel
theorem dX6_init_25 : decode cX6_init 25 = .ok (.putfield 16, 3) := by decide +kernel
theorem dX6_init_28 : decode cX6_init 28 = .ok (.aload_n 0, 1) := by decide +kernel
theorem dX6_init_29 : decode cX6_init 29 = .ok (.bipush 6, 2) := by decide +kernel
theorem dX6_init_31 : decode cX6_init 31 = .ok (.newarray .int, 2) := by decide +kernel
theorem dX6_init_33 : decode cX6_init 33 = .ok (.putfield 19, 3) := by decide +kernel
theorem dX6_init_36 : decode cX6_init 36 = .ok (.aload_n 0, 1) := by decide +kernel
theorem dX6_init_37 : decode cX6_init 37 = .ok (.bipush 6, 2) := by decide +kernel
theorem dX6_init_39 : decode cX6_init 39 = .ok (.newarray .int, 2) := by decide +kernel
theorem dX6_init_41 : decode cX6_init 41 = .ok (.putfield 22, 3) := by decide +kernel
theorem dX6_init_44 : decode cX6_init 44 = .ok (.aload_n 0, 1) := by decide +kernel
theorem dX6_init_45 : decode cX6_init 45 = .ok (.bipush 6, 2) := by decide +kernel
theorem dX6_init_47 : decode cX6_init 47 = .ok (.newarray .int, 2) := by decide +kernel
theorem dX6_init_49 : decode cX6_init 49 = .ok (.dup, 1) := by decide +kernel
theorem dX6_init_50 : decode cX6_init 50 = .ok (.iconst 0, 1) := by decide +kernel
theorem dX6_init_51 : decode cX6_init 51 = .ok (.iconst 5, 1) := by decide +kernel
theorem dX6_init_52 : decode cX6_init 52 = .ok (.iastore, 1) := by decide +kernel
theorem dX6_init_53 : decode cX6_init 53 = .ok (.dup, 1) := by decide +kernel
theorem dX6_init_54 : decode cX6_init 54 = .ok (.iconst 1, 1) := by decide +kernel
theorem dX6_init_55 : decode cX6_init 55 = .ok (.iconst 5, 1) := by decide +kernel
theorem dX6_init_56 : decode cX6_init 56 = .ok (.iastore, 1) := by decide +kernel
theorem dX6_init_57 : decode cX6_init 57 = .ok (.dup, 1) := by decide +kernel
theorem dX6_init_58 : decode cX6_init 58 = .ok (.iconst 2, 1) := by decide +kernel
theorem dX6_init_59 : decode cX6_init 59 = .ok (.iconst 5, 1) := by decide +kernel
theorem dX6_init_60 : decode cX6_init 60 = .ok (.iastore, 1) := by decide +kernel
theorem dX6_init_61 : decode cX6_init 61 = .ok (.dup, 1) := by decide +kernel
theorem dX6_init_62 : decode cX6_init 62 = .ok (.iconst 3, 1) := by decide +kernel
theorem dX6_init_63 : decode cX6_init 63 = .ok (.iconst 5, 1) := by decide +kernel
theorem dX6_init_64 : decode cX6_init 64 = .ok (.iastore, 1) := by decide +kernel
theorem dX6_init_65 : decode cX6_init 65 = .ok (.dup, 1) := by decide +kernel
theorem dX6_init_66 : decode cX6_init 66 = .ok (.iconst 4, 1) := by decide +kernel
theorem dX6_init_67 : decode cX6_init 67 = .ok (.iconst 5, 1) := by decide +kernel
theorem dX6_init_68 : decode cX6_init 68 = .ok (.iastore, 1) := by decide +kernel
theorem dX6_init_69 : decode cX6_init 69 = .ok (.dup, 1) := by decide +kernel
theorem dX6_init_70 : decode cX6_init 70 = .ok (.iconst 5, 1) := by decide +kernel
theorem dX6_init_71 : decode cX6_init 71 = .ok (.iconst 5, 1) := by decide +kernel
theorem dX6_init_72 : decode cX6_init 72 = .ok (.iastore, 1) := by decide +kernel
theorem dX6_init_73 : decode cX6_init 73 = .ok (.putfield 25, 3) := by decide +kernel
theorem dX6_init_76 : decode cX6_init 76 = .ok (.aload_n 0, 1) := by decide +kernel
theorem dX6_init_77 : decode cX6_init 77 = .ok (.bipush 6, 2) := by decide +kernel
theorem dX6_init_79 : decode cX6_init 79 = .ok (.newarray .int, 2) := by decide +kernel
theorem dX6_init_81 : decode cX6_init 81 = .ok (.putfield 28, 3) := by decide +kernel
theorem dX6_init_84 : decode cX6_init 84 = .ok (.aload_n 0, 1) := by decide +kernel
theorem dX6_init_85 : decode cX6_init 85 = .ok (.bipush 36, 2) := by decide +kernel
theorem dX6_init_87 : decode cX6_init 87 = .ok (.newarray .int, 2) := by decide +kernel
theorem dX6_init_89 : decode cX6_init 89 = .ok (.putfield 31, 3) := by decide +kernel
theorem dX6_init_92 : decode cX6_init 92 = .ok (.aload_n 0, 1) := by decide +kernel
theorem dX6_init_93 : decode cX6_init 93 = .ok (.bipush 36, 2) := by decide +kernel
theorem dX6_init_95 : decode cX6_init 95 = .ok (.newarray .int, 2) := by decide +kernel
theorem dX6_init_97 : decode cX6_init 97 = .ok (.putfield 34, 3) := by decide +kernel
theorem dX6_init_100 : decode cX6_init 100 = .ok (.aload_n 0, 1) := by decide +kernel
theorem dX6_init_101 : decode cX6_init 101 = .ok (.bipush 36, 2) := by decide +kernel
theorem dX6_init_103 : decode cX6_init 103 = .ok (.newarray .int, 2) := by decide +kernel
theorem dX6_init_105 : decode cX6_init 105 = .ok (.putfield 37, 3) := by decide +kernel
theorem dX6_init_108 : decode cX6_init 108 = .ok (.aload_n 0, 1) := by decide +kernel
theorem dX6_init_109 : decode cX6_init 109 = .ok (.iconst 2, 1) := by decide +kernel
theorem dX6_init_110 : decode cX6_init 110 = .ok (.newarray .int, 2) := by decide +kernel
theorem dX6_init_112 : decode cX6_init 112 = .ok (.putfield 40, 3) := by decide +kernel
theorem dX6_init_115 : decode cX6_init 115 = .ok (.aload_n 0, 1) := by decide +kernel
theorem dX6_init_116 : decode cX6_init 116 = .ok (.bipush 24, 2) := by decide +kernel
theorem dX6_init_118 : decode cX6_init 118 = .ok (.newarray .int, 2) := by decide +kernel
theorem dX6_init_120 : decode cX6_init 120 = .ok (.putfield 43, 3) := by decide +kernel
theorem dX6_init_123 : decode cX6_init 123 = .ok (.aload_n 0, 1) := by decide +kernel
theorem dX6_init_124 : decode cX6_init 124 = .ok (.bipush 6, 2) := by decide +kernel
theorem dX6_init_126 : decode cX6_init 126 = .ok (.newarray .int, 2) := by decide +kernel
theorem dX6_init_128 : decode cX6_init 128 = .ok (.dup, 1) := by decide +kernel
theorem dX6_init_129 : decode cX6_init 129 = .ok (.iconst 0, 1) := by decide +kernel
theorem dX6_init_130 : decode cX6_init 130 = .ok (.iconst (-1), 1) := by decide +kernel
theorem dX6_init_131 : decode cX6_init 131 = .ok (.iastore, 1) := by decide +kernel
theorem dX6_init_132 : decode cX6_init 132 = .ok (.dup, 1) := by decide +kernel
theorem dX6_init_133 : decode cX6_init 133 = .ok (.iconst 1, 1) := by decide +kernel
theorem dX6_init_134 : decode cX6_init 134 = .ok (.iconst (-1), 1) := by decide +kernel
theorem dX6_init_135 : decode cX6_init 135 = .ok (.iastore, 1) := by decide +kernel
theorem dX6_init_136 : decode cX6_init 136 = .ok (.dup, 1) := by decide +kernel
theorem dX6_init_137 : decode cX6_init 137 = .ok (.iconst 2, 1) := by decide +kernel
theorem dX6_init_138 : decode cX6_init 138 = .ok (.iconst (-1), 1) := by decide +kernel
theorem dX6_init_139 : decode cX6_init 139 = .ok (.iastore, 1) := by decide +kernel
theorem dX6_init_140 : decode cX6_init 140 = .ok (.dup, 1) := by decide +kernel
theorem dX6_init_141 : decode cX6_init 141 = .ok (.iconst 3, 1) := by decide +kernel
theorem dX6_init_142 : decode cX6_init 142 = .ok (.iconst (-1), 1) := by decide +kernel
theorem dX6_init_143 : decode cX6_init 143 = .ok (.iastore, 1) := by decide +kernel
theorem dX6_init_144 : decode cX6_init 144 = .ok (.dup, 1) := by decide +kernel
theorem dX6_init_145 : decode cX6_init 145 = .ok (.iconst 4, 1) := by decide +kernel
theorem dX6_init_146 : decode cX6_init 146 = .ok (.iconst (-1), 1) := by decide +kernel
theorem dX6_init_147 : decode cX6_init 147 = .ok (.iastore, 1) := by decide +kernel
theorem dX6_init_148 : decode cX6_init 148 = .ok (.dup, 1) := by decide +kernel
theorem dX6_init_149 : decode cX6_init 149 = .ok (.iconst 5, 1) := by decide +kernel
theorem dX6_init_150 : decode cX6_init 150 = .ok (.iconst (-1), 1) := by decide +kernel
theorem dX6_init_151 : decode cX6_init 151 = .ok (.iastore, 1) := by decide +kernel
theorem dX6_init_152 : decode cX6_init 152 = .ok (.putfield 46, 3) := by decide +kernel
theorem dX6_init_155 : decode cX6_init 155 = .ok (.aload_n 0, 1) := by decide +kernel
theorem dX6_init_156 : decode cX6_init 156 = .ok (.iconst (-1), 1) := by decide +kernel
theorem dX6_init_157 : decode cX6_init 157 = .ok (.putfield 49, 3) := by decide +kernel
theorem dX6_init_160 : decode cX6_init 160 = .ok (.aload_n 0, 1) := by decide +kernel
theorem dX6_init_161 : decode cX6_init 161 = .ok (.bipush 6, 2) := by decide +kernel
theorem dX6_init_163 : decode cX6_init 163 = .ok (.newarray .int, 2) := by decide +kernel
theorem dX6_init_165 : decode cX6_init 165 = .ok (.dup, 1) := by decide +kernel
theorem dX6_init_166 : decode cX6_init 166 = .ok (.iconst 0, 1) := by decide +kernel
theorem dX6_init_167 : decode cX6_init 167 = .ok (.iconst (-1), 1) := by decide +kernel
theorem dX6_init_168 : decode cX6_init 168 = .ok (.iastore, 1) := by decide +kernel
theorem dX6_init_169 : decode cX6_init 169 = .ok (.dup, 1) := by decide +kernel
theorem dX6_init_170 : decode cX6_init 170 = .ok (.iconst 1, 1) := by decide +kernel
theorem dX6_init_171 : decode cX6_init 171 = .ok (.iconst (-1), 1) := by decide +kernel
theorem dX6_init_172 : decode cX6_init 172 = .ok (.iastore, 1) := by decide +kernel
theorem dX6_init_173 : decode cX6_init 173 = .ok (.dup, 1) := by decide +kernel
theorem dX6_init_174 : decode cX6_init 174 = .ok (.iconst 2, 1) := by decide +kernel
theorem dX6_init_175 : decode cX6_init 175 = .ok (.iconst (-1), 1) := by decide +kernel
theorem dX6_init_176 : decode cX6_init 176 = .ok (.iastore, 1) := by decide +kernel
theorem dX6_init_177 : decode cX6_init 177 = .ok (.dup, 1) := by decide +kernel
theorem dX6_init_178 : decode cX6_init 178 = .ok (.iconst 3, 1) := by decide +kernel
theorem dX6_init_179 : decode cX6_init 179 = .ok (.iconst (-1), 1) := by decide +kernel
theorem dX6_init_180 : decode cX6_init 180 = .ok (.iastore, 1) := by decide +kernel
theorem dX6_init_181 : decode cX6_init 181 = .ok (.dup, 1) := by decide +kernel
theorem dX6_init_182 : decode cX6_init 182 = .ok (.iconst 4, 1) := by decide +kernel
theorem dX6_init_183 : decode cX6_init 183 = .ok (.iconst (-1), 1) := by decide +kernel
theorem dX6_init_184 : decode cX6_init 184 = .ok (.iastore, 1) := by decide +kernel
theorem dX6_init_185 : decode cX6_init 185 = .ok (.dup, 1) := by decide +kernel
theorem dX6_init_186 : decode cX6_init 186 = .ok (.iconst 5, 1) := by decide +kernel
theorem dX6_init_187 : decode cX6_init 187 = .ok (.iconst (-1), 1) := by decide +kernel
theorem dX6_init_188 : decode cX6_init 188 = .ok (.iastore, 1) := by decide +kernel
theorem dX6_init_189 : decode cX6_init 189 = .ok (.putfield 53, 3) := by decide +kernel
theorem dX6_init_192 : decode cX6_init 192 = .ok (.aload_n 0, 1) := by decide +kernel
theorem dX6_init_193 : decode cX6_init 193 = .ok (.bipush 6, 2) := by decide +kernel
theorem dX6_init_195 : decode cX6_init 195 = .ok (.newarray .int, 2) := by decide +kernel
theorem dX6_init_197 : decode cX6_init 197 = .ok (.putfield 56, 3) := by decide +kernel
theorem dX6_init_200 : decode cX6_init 200 = .ok (.aload_n 0, 1) := by decide +kernel
theorem dX6_init_201 : decode cX6_init 201 = .ok (.bipush 6, 2) := by decide +kernel
theorem dX6_init_203 : decode cX6_init 203 = .ok (.newarray .int, 2) := by decide +kernel
theorem dX6_init_205 : decode cX6_init 205 = .ok (.putfield 59, 3) := by decide +kernel
theorem dX6_init_208 : decode cX6_init 208 = .ok (.aload_n 0, 1) := by decide +kernel
theorem dX6_init_209 : decode cX6_init 209 = .ok (.bipush 24, 2) := by decide +kernel
theorem dX6_init_211 : decode cX6_init 211 = .ok (.newarray .int, 2) := by decide +kernel
theorem dX6_init_213 : decode cX6_init 213 = .ok (.putfield 62, 3) := by decide +kernel
theorem dX6_init_216 : decode cX6_init 216 = .ok (.aload_n 0, 1) := by decide +kernel
theorem dX6_init_217 : decode cX6_init 217 = .ok (.bipush 24, 2) := by decide +kernel
theorem dX6_init_219 : decode cX6_init 219 = .ok (.newarray .int, 2) := by decide +kernel
theorem dX6_init_221 : decode cX6_init 221 = .ok (.putfield 65, 3) := by decide +kernel
theorem dX6_init_224 : decode cX6_init 224 = .ok (.aload_n 0, 1) := by decide +kernel
theorem dX6_init_225 : decode cX6_init 225 = .ok (.bipush 24, 2) := by decide +kernel
theorem dX6_init_227 : decode cX6_init 227 = .ok (.newarray .int, 2) := by decide +kernel
theorem dX6_init_229 : decode cX6_init 229 = .ok (.putfield 68, 3) := by decide +kernel
theorem dX6_init_232 : decode cX6_init 232 = .ok (.aload_n 0, 1) := by decide +kernel
theorem dX6_init_233 : decode cX6_init 233 = .ok (.bipush 24, 2) := by decide +kernel
theorem dX6_init_235 : decode cX6_init 235 = .ok (.newarray .int, 2) := by decide +kernel
theorem dX6_init_237 : decode cX6_init 237 = .ok (.putfield 71, 3) := by decide +kernel
theorem dX6_init_240 : decode cX6_init 240 = .ok (.aload_n 0, 1) := by decide +kernel
theorem dX6_init_241 : decode cX6_init 241 = .ok (.bipush 24, 2) := by decide +kernel
theorem dX6_init_243 : decode cX6_init 243 = .ok (.newarray .int, 2) := by decide +kernel
theorem dX6_init_245 : decode cX6_init 245 = .ok (.putfield 74, 3) := by decide +kernel
theorem dX6_init_248 : decode cX6_init 248 = .ok (.aload_n 0, 1) := by decide +kernel
theorem dX6_init_249 : decode cX6_init 249 = .ok (.iconst 4, 1) := by decide +kernel
theorem dX6_init_250 : decode cX6_init 250 = .ok (.newarray .int, 2) := by decide +kernel
theorem dX6_init_252 : decode cX6_init 252 = .ok (.putfield 77, 3) := by decide +kernel
theorem dX6_init_255 : decode cX6_init 255 = .ok (.aload_n 0, 1) := by decide +kernel
theorem dX6_init_256 : decode cX6_init 256 = .ok (.iconst 4, 1) := by decide +kernel
theorem dX6_init_257 : decode cX6_init 257 = .ok (.newarray .int, 2) := by decide +kernel
theorem dX6_init_259 : decode cX6_init 259 = .ok (.putfield 80, 3) := by decide +kernel
theorem dX6_init_262 : decode cX6_init 262 = .ok (.return_, 1) := by decide +kernel
theorem dX6_thrown_0 : decode cX6_thrown 0 = .ok (.aload_n 0, 1) := by decide +kernel
theorem dX6_thrown_1 : decode cX6_thrown 1 = .ok (.getfield 83, 3) := by decide +kernel
theorem dX6_thrown_4 : decode cX6_thrown 4 = .ok (.ireturn, 1) := by decide +kernel
theorem dX6_fail_0 : decode cX6_fail 0 = .ok (.aload_n 0, 1) := by decide +kernel
theorem dX6_fail_1 : decode cX6_fail 1 = .ok (.iload_n 1, 1) := by decide +kernel
theorem dX6_fail_2 : decode cX6_fail 2 = .ok (.putfield 83, 3) := by decide +kernel
theorem dX6_fail_5 : decode cX6_fail 5 = .ok (.iconst 0, 1) := by decide +kernel
theorem dX6_fail_6 : decode cX6_fail 6 = .ok (.ireturn, 1) := by decide +kernel
theorem dX6_isWithin_0 : decode cX6_isWithin 0 = .ok (.iload_n 0, 1) := by decide +kernel
theorem dX6_isWithin_1 : decode cX6_isWithin 1 = .ok (.iload_n 1, 1) := by decide +kernel
theorem dX6_isWithin_2 : decode cX6_isWithin 2 = .ok (.if_icmp .lt 12, 3) := by decide +kernel
theorem dX6_isWithin_5 : decode cX6_isWithin 5 = .ok (.iload_n 0, 1) := by decide +kernel
theorem dX6_isWithin_6 : decode cX6_isWithin 6 = .ok (.iload_n 2, 1) := by decide +kernel
theorem dX6_isWithin_7 : decode cX6_isWithin 7 = .ok (.if_icmp .gt 7, 3) := by decide +kernel
theorem dX6_isWithin_10 : decode cX6_isWithin 10 = .ok (.iconst 1, 1) := by decide +kernel
theorem dX6_isWithin_11 : decode cX6_isWithin 11 = .ok (.goto 4, 3) := by decide +kernel
theorem dX6_isWithin_14 : decode cX6_isWithin 14 = .ok (.iconst 0, 1) := by decide +kernel
theorem dX6_isWithin_15 : decode cX6_isWithin 15 = .ok (.ireturn, 1) := by decide +kernel
theorem dX6_isGood_0 : decode cX6_isGood 0 = .ok (.aload_n 0, 1) := by decide +kernel
theorem dX6_isGood_1 : decode cX6_isGood 1 = .ok (.iload_n 1, 1) := by decide +kernel
theorem dX6_isGood_2 : decode cX6_isGood 2 = .ok (.ifCond .eq 7, 3) := by decide +kernel
theorem dX6_isGood_5 : decode cX6_isGood 5 = .ok (.iconst 0, 1) := by decide +kernel
theorem dX6_isGood_6 : decode cX6_isGood 6 = .ok (.goto 4, 3) := by decide +kernel
theorem dX6_isGood_9 : decode cX6_isGood 9 = .ok (.iload_n 2, 1) := by decide +kernel
theorem dX6_isGood_10 : decode cX6_isGood 10 = .ok (.putfield 83, 3) := by decide +kernel
theorem dX6_isGood_13 : decode cX6_isGood 13 = .ok (.iload_n 1, 1) := by decide +kernel
theorem dX6_isGood_14 : decode cX6_isGood 14 = .ok (.ireturn, 1) := by decide +kernel
theorem dX6_isPier_0 : decode cX6_isPier 0 = .ok (.aload_n 0, 1) := by decide +kernel
theorem dX6_isPier_1 : decode cX6_isPier 1 = .ok (.iload_n 1, 1) := by decide +kernel
theorem dX6_isPier_2 : decode cX6_isPier 2 = .ok (.iconst 0, 1) := by decide +kernel
theorem dX6_isPier_3 : decode cX6_isPier 3 = .ok (.aload_n 0, 1) := by decide +kernel
theorem dX6_isPier_4 : decode cX6_isPier 4 = .ok (.getfield 86, 3) := by decide +kernel
theorem dX6_isPier_7 : decode cX6_isPier 7 = .ok (.iconst 1, 1) := by decide +kernel
theorem dX6_isPier_8 : decode cX6_isPier 8 = .ok (.isub, 1) := by decide +kernel
theorem dX6_isPier_9 : decode cX6_isPier 9 = .ok (.invokestatic 89, 3) := by decide +kernel
theorem dX6_isPier_12 : decode cX6_isPier 12 = .ok (.iconst 1, 1) := by decide +kernel
theorem dX6_isPier_13 : decode cX6_isPier 13 = .ok (.invokevirtual 93, 3) := by decide +kernel
theorem dX6_isPier_16 : decode cX6_isPier 16 = .ok (.ireturn, 1) := by decide +kernel
theorem dX6_isDay_0 : decode cX6_isDay 0 = .ok (.iload_n 0, 1) := by decide +kernel
theorem dX6_isDay_1 : decode cX6_isDay 1 = .ok (.iconst 0, 1) := by decide +kernel
theorem dX6_isDay_2 : decode cX6_isDay 2 = .ok (.ldc 97, 2) := by decide +kernel
theorem dX6_isDay_4 : decode cX6_isDay 4 = .ok (.invokestatic 89, 3) := by decide +kernel
theorem dX6_isDay_7 : decode cX6_isDay 7 = .ok (.ireturn, 1) := by decide +kernel
theorem dX6_addPier_0 : decode cX6_addPier 0 = .ok (.iload_n 1, 1) := by decide +kernel
theorem dX6_addPier_1 : decode cX6_addPier 1 = .ok (.iconst 0, 1) := by decide +kernel
theorem dX6_addPier_2 : decode cX6_addPier 2 = .ok (.sipush 744, 3) := by decide +kernel
theorem dX6_addPier_5 : decode cX6_addPier 5 = .ok (.invokestatic 89, 3) := by decide +kernel
theorem dX6_addPier_8 : decode cX6_addPier 8 = .ok (.ifCond .eq 18, 3) := by decide +kernel
theorem dX6_addPier_11 : decode cX6_addPier 11 = .ok (.iload 5, 2) := by decide +kernel
theorem dX6_addPier_13 : decode cX6_addPier 13 = .ok (.iconst 0, 1) := by decide +kernel
theorem dX6_addPier_14 : decode cX6_addPier 14 = .ok (.bipush 9, 2) := by decide +kernel
theorem dX6_addPier_16 : decode cX6_addPier 16 = .ok (.invokestatic 89, 3) := by decide +kernel
theorem dX6_addPier_19 : decode cX6_addPier 19 = .ok (.ifCond .eq 7, 3) := by decide +kernel
theorem dX6_addPier_22 : decode cX6_addPier 22 = .ok (.iconst 1, 1) := by decide +kernel
theorem dX6_addPier_23 : decode cX6_addPier 23 = .ok (.goto 4, 3) := by decide +kernel
theorem dX6_addPier_26 : decode cX6_addPier 26 = .ok (.iconst 0, 1) := by decide +kernel
theorem dX6_addPier_27 : decode cX6_addPier 27 = .ok (.istore 6, 2) := by decide +kernel
theorem dX6_addPier_29 : decode cX6_addPier 29 = .ok (.iload_n 2, 1) := by decide +kernel
theorem dX6_addPier_30 : decode cX6_addPier 30 = .ok (.iconst 0, 1) := by decide +kernel
theorem dX6_addPier_31 : decode cX6_addPier 31 = .ok (.sipush 999, 3) := by decide +kernel
theorem dX6_addPier_34 : decode cX6_addPier 34 = .ok (.invokestatic 89, 3) := by decide +kernel
theorem dX6_addPier_37 : decode cX6_addPier 37 = .ok (.ifCond .eq 28, 3) := by decide +kernel
theorem dX6_addPier_40 : decode cX6_addPier 40 = .ok (.iload_n 3, 1) := by decide +kernel
theorem dX6_addPier_41 : decode cX6_addPier 41 = .ok (.iconst 0, 1) := by decide +kernel
theorem dX6_addPier_42 : decode cX6_addPier 42 = .ok (.sipush 999, 3) := by decide +kernel
theorem dX6_addPier_45 : decode cX6_addPier 45 = .ok (.invokestatic 89, 3) := by decide +kernel
theorem dX6_addPier_48 : decode cX6_addPier 48 = .ok (.ifCond .eq 17, 3) := by decide +kernel
theorem dX6_addPier_51 : decode cX6_addPier 51 = .ok (.iload 4, 2) := by decide +kernel
theorem dX6_addPier_53 : decode cX6_addPier 53 = .ok (.iconst 0, 1) := by decide +kernel
theorem dX6_addPier_54 : decode cX6_addPier 54 = .ok (.iload_n 3, 1) := by decide +kernel
theorem dX6_addPier_55 : decode cX6_addPier 55 = .ok (.invokestatic 89, 3) := by decide +kernel
theorem dX6_addPier_58 : decode cX6_addPier 58 = .ok (.ifCond .eq 7, 3) := by decide +kernel
theorem dX6_addPier_61 : decode cX6_addPier 61 = .ok (.iconst 1, 1) := by decide +kernel
theorem dX6_addPier_62 : decode cX6_addPier 62 = .ok (.goto 4, 3) := by decide +kernel
theorem dX6_addPier_65 : decode cX6_addPier 65 = .ok (.iconst 0, 1) := by decide +kernel
theorem dX6_addPier_66 : decode cX6_addPier 66 = .ok (.istore 7, 2) := by decide +kernel
theorem dX6_addPier_68 : decode cX6_addPier 68 = .ok (.aload_n 0, 1) := by decide +kernel
theorem dX6_addPier_69 : decode cX6_addPier 69 = .ok (.iload 6, 2) := by decide +kernel
theorem dX6_addPier_71 : decode cX6_addPier 71 = .ok (.ifCond .eq 12, 3) := by decide +kernel
theorem dX6_addPier_74 : decode cX6_addPier 74 = .ok (.iload 7, 2) := by decide +kernel
theorem dX6_addPier_76 : decode cX6_addPier 76 = .ok (.ifCond .eq 7, 3) := by decide +kernel
theorem dX6_addPier_79 : decode cX6_addPier 79 = .ok (.iconst 1, 1) := by decide +kernel
theorem dX6_addPier_80 : decode cX6_addPier 80 = .ok (.goto 4, 3) := by decide +kernel
theorem dX6_addPier_83 : decode cX6_addPier 83 = .ok (.iconst 0, 1) := by decide +kernel
theorem dX6_addPier_84 : decode cX6_addPier 84 = .ok (.iconst 1, 1) := by decide +kernel
