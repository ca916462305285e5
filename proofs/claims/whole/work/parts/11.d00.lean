theorem dX0_init_0 : decode cX0_init 0 = .ok (.aload_n 0, 1) := by decide +kernel
theorem dX0_init_1 : decode cX0_init 1 = .ok (.invokespecial 3, 3) := by decide +kernel
theorem dX0_init_4 : decode cX0_init 4 = .ok (.aload_n 0, 1) := by decide +kernel
theorem dX0_init_5 : decode cX0_init 5 = .ok (.new 9, 3) := by decide +kernel
theorem dX0_init_8 : decode cX0_init 8 = .ok (.dup, 1) := by decide +kernel
theorem dX0_init_9 : decode cX0_init 9 = .ok (.invokespecial 11, 3) := by decide +kernel
theorem dX0_init_12 : decode cX0_init 12 = .ok (.putfield 12, 3) := by decide +kernel
theorem dX0_init_15 : decode cX0_init 15 = .ok (.aload_n 0, 1) := by decide +kernel
theorem dX0_init_16 : decode cX0_init 16 = .ok (.iconst 4, 1) := by decide +kernel
theorem dX0_init_17 : decode cX0_init 17 = .ok (.newarray .int, 2) := by decide +kernel
theorem dX0_init_19 : decode cX0_init 19 = .ok (.putfield 18, 3) := by decide +kernel
theorem dX0_init_22 : decode cX0_init 22 = .ok (.aload_n 0, 1) := by decide +kernel
theorem dX0_init_23 : decode cX0_init 23 = .ok (.iconst 4, 1) := by decide +kernel
theorem dX0_init_24 : decode cX0_init 24 = .ok (.newarray .int, 2) := by decide +kernel
theorem dX0_init_26 : decode cX0_init 26 = .ok (.putfield 22, 3) := by decide +kernel
theorem dX0_init_29 : decode cX0_init 29 = .ok (.aload_n 0, 1) := by decide +kernel
theorem dX0_init_30 : decode cX0_init 30 = .ok (.iconst (-1), 1) := by decide +kernel
theorem dX0_init_31 : decode cX0_init 31 = .ok (.putfield 25, 3) := by decide +kernel
theorem dX0_init_34 : decode cX0_init 34 = .ok (.aload_n 0, 1) := by decide +kernel
theorem dX0_init_35 : decode cX0_init 35 = .ok (.iconst 0, 1) := by decide +kernel
theorem dX0_init_36 : decode cX0_init 36 = .ok (.putfield 29, 3) := by decide +kernel
theorem dX0_init_39 : decode cX0_init 39 = .ok (.return_, 1) := by decide +kernel
theorem dX0_begin_0 : decode cX0_begin 0 = .ok (.aload_n 0, 1) := by decide +kernel
theorem dX0_begin_1 : decode cX0_begin 1 = .ok (.getfield 12, 3) := by decide +kernel
theorem dX0_begin_4 : decode cX0_begin 4 = .ok (.aload_n 1, 1) := by decide +kernel
theorem dX0_begin_5 : decode cX0_begin 5 = .ok (.iload_n 2, 1) := by decide +kernel
theorem dX0_begin_6 : decode cX0_begin 6 = .ok (.invokevirtual 32, 3) := by decide +kernel
theorem dX0_begin_9 : decode cX0_begin 9 = .ok (.iconst 0, 1) := by decide +kernel
theorem dX0_begin_10 : decode cX0_begin 10 = .ok (.istore_n 3, 1) := by decide +kernel
theorem dX0_begin_11 : decode cX0_begin 11 = .ok (.iload_n 3, 1) := by decide +kernel
theorem dX0_begin_12 : decode cX0_begin 12 = .ok (.iconst 4, 1) := by decide +kernel
theorem dX0_begin_13 : decode cX0_begin 13 = .ok (.if_icmp .ge 16, 3) := by decide +kernel
theorem dX0_begin_16 : decode cX0_begin 16 = .ok (.aload_n 0, 1) := by decide +kernel
theorem dX0_begin_17 : decode cX0_begin 17 = .ok (.getfield 18, 3) := by decide +kernel
theorem dX0_begin_20 : decode cX0_begin 20 = .ok (.iload_n 3, 1) := by decide +kernel
theorem dX0_begin_21 : decode cX0_begin 21 = .ok (.iconst 0, 1) := by decide +kernel
theorem dX0_begin_22 : decode cX0_begin 22 = .ok (.iastore, 1) := by decide +kernel
theorem dX0_begin_23 : decode cX0_begin 23 = .ok (.iinc 3 1, 3) := by decide +kernel
theorem dX0_begin_26 : decode cX0_begin 26 = .ok (.goto (-15), 3) := by decide +kernel
theorem dX0_begin_29 : decode cX0_begin 29 = .ok (.aload_n 0, 1) := by decide +kernel
theorem dX0_begin_30 : decode cX0_begin 30 = .ok (.iload_n 2, 1) := by decide +kernel
theorem dX0_begin_31 : decode cX0_begin 31 = .ok (.putfield 25, 3) := by decide +kernel
theorem dX0_begin_34 : decode cX0_begin 34 = .ok (.aload_n 0, 1) := by decide +kernel
theorem dX0_begin_35 : decode cX0_begin 35 = .ok (.iconst 0, 1) := by decide +kernel
theorem dX0_begin_36 : decode cX0_begin 36 = .ok (.putfield 29, 3) := by decide +kernel
theorem dX0_begin_39 : decode cX0_begin 39 = .ok (.return_, 1) := by decide +kernel
theorem dX0_makeReadable_0 : decode cX0_makeReadable 0 = .ok (.aload_n 0, 1) := by decide +kernel
theorem dX0_makeReadable_1 : decode cX0_makeReadable 1 = .ok (.getfield 18, 3) := by decide +kernel
theorem dX0_makeReadable_4 : decode cX0_makeReadable 4 = .ok (.iload_n 1, 1) := by decide +kernel
theorem dX0_makeReadable_5 : decode cX0_makeReadable 5 = .ok (.iconst 1, 1) := by decide +kernel
theorem dX0_makeReadable_6 : decode cX0_makeReadable 6 = .ok (.iastore, 1) := by decide +kernel
theorem dX0_makeReadable_7 : decode cX0_makeReadable 7 = .ok (.aload_n 0, 1) := by decide +kernel
theorem dX0_makeReadable_8 : decode cX0_makeReadable 8 = .ok (.getfield 22, 3) := by decide +kernel
theorem dX0_makeReadable_11 : decode cX0_makeReadable 11 = .ok (.iload_n 1, 1) := by decide +kernel
theorem dX0_makeReadable_12 : decode cX0_makeReadable 12 = .ok (.iload_n 2, 1) := by decide +kernel
theorem dX0_makeReadable_13 : decode cX0_makeReadable 13 = .ok (.iastore, 1) := by decide +kernel
theorem dX0_makeReadable_14 : decode cX0_makeReadable 14 = .ok (.return_, 1) := by decide +kernel
theorem dX0_drip_0 : decode cX0_drip 0 = .ok (.aload_n 0, 1) := by decide +kernel
theorem dX0_drip_1 : decode cX0_drip 1 = .ok (.dup, 1) := by decide +kernel
theorem dX0_drip_2 : decode cX0_drip 2 = .ok (.getfield 29, 3) := by decide +kernel
theorem dX0_drip_5 : decode cX0_drip 5 = .ok (.iload_n 1, 1) := by decide +kernel
theorem dX0_drip_6 : decode cX0_drip 6 = .ok (.iadd, 1) := by decide +kernel
theorem dX0_drip_7 : decode cX0_drip 7 = .ok (.putfield 29, 3) := by decide +kernel
theorem dX0_drip_10 : decode cX0_drip 10 = .ok (.aload_n 0, 1) := by decide +kernel
theorem dX0_drip_11 : decode cX0_drip 11 = .ok (.getfield 29, 3) := by decide +kernel
theorem dX0_drip_14 : decode cX0_drip 14 = .ok (.bipush 12, 2) := by decide +kernel
theorem dX0_drip_16 : decode cX0_drip 16 = .ok (.if_icmp .lt 18, 3) := by decide +kernel
theorem dX0_drip_19 : decode cX0_drip 19 = .ok (.aload_n 0, 1) := by decide +kernel
theorem dX0_drip_20 : decode cX0_drip 20 = .ok (.dup, 1) := by decide +kernel
theorem dX0_drip_21 : decode cX0_drip 21 = .ok (.getfield 29, 3) := by decide +kernel
theorem dX0_drip_24 : decode cX0_drip 24 = .ok (.bipush 12, 2) := by decide +kernel
theorem dX0_drip_26 : decode cX0_drip 26 = .ok (.isub, 1) := by decide +kernel
theorem dX0_drip_27 : decode cX0_drip 27 = .ok (.putfield 29, 3) := by decide +kernel
theorem dX0_drip_30 : decode cX0_drip 30 = .ok (.aload_n 0, 1) := by decide +kernel
theorem dX0_drip_31 : decode cX0_drip 31 = .ok (.invokevirtual 36, 3) := by decide +kernel
theorem dX0_drip_34 : decode cX0_drip 34 = .ok (.return_, 1) := by decide +kernel
theorem dX0_blotLastReadable_0 : decode cX0_blotLastReadable 0 = .ok (.aload_n 0, 1) := by decide +kernel
theorem dX0_blotLastReadable_1 : decode cX0_blotLastReadable 1 = .ok (.getfield 12, 3) := by decide +kernel
theorem dX0_blotLastReadable_4 : decode cX0_blotLastReadable 4 = .ok (.getfield 39, 3) := by decide +kernel
theorem dX0_blotLastReadable_7 : decode cX0_blotLastReadable 7 = .ok (.iconst 1, 1) := by decide +kernel
theorem dX0_blotLastReadable_8 : decode cX0_blotLastReadable 8 = .ok (.isub, 1) := by decide +kernel
theorem dX0_blotLastReadable_9 : decode cX0_blotLastReadable 9 = .ok (.istore_n 1, 1) := by decide +kernel
theorem dX0_blotLastReadable_10 : decode cX0_blotLastReadable 10 = .ok (.iload_n 1, 1) := by decide +kernel
theorem dX0_blotLastReadable_11 : decode cX0_blotLastReadable 11 = .ok (.ifCond .lt 27, 3) := by decide +kernel
theorem dX0_blotLastReadable_14 : decode cX0_blotLastReadable 14 = .ok (.aload_n 0, 1) := by decide +kernel
theorem dX0_blotLastReadable_15 : decode cX0_blotLastReadable 15 = .ok (.getfield 18, 3) := by decide +kernel
theorem dX0_blotLastReadable_18 : decode cX0_blotLastReadable 18 = .ok (.iload_n 1, 1) := by decide +kernel
theorem dX0_blotLastReadable_19 : decode cX0_blotLastReadable 19 = .ok (.iaload, 1) := by decide +kernel
theorem dX0_blotLastReadable_20 : decode cX0_blotLastReadable 20 = .ok (.iconst 1, 1) := by decide +kernel
theorem dX0_blotLastReadable_21 : decode cX0_blotLastReadable 21 = .ok (.if_icmp .ne 11, 3) := by decide +kernel
theorem dX0_blotLastReadable_24 : decode cX0_blotLastReadable 24 = .ok (.aload_n 0, 1) := by decide +kernel
theorem dX0_blotLastReadable_25 : decode cX0_blotLastReadable 25 = .ok (.getfield 18, 3) := by decide +kernel
theorem dX0_blotLastReadable_28 : decode cX0_blotLastReadable 28 = .ok (.iload_n 1, 1) := by decide +kernel
theorem dX0_blotLastReadable_29 : decode cX0_blotLastReadable 29 = .ok (.iconst 2, 1) := by decide +kernel
theorem dX0_blotLastReadable_30 : decode cX0_blotLastReadable 30 = .ok (.iastore, 1) := by decide +kernel
theorem dX0_blotLastReadable_31 : decode cX0_blotLastReadable 31 = .ok (.return_, 1) := by decide +kernel
theorem dX0_blotLastReadable_32 : decode cX0_blotLastReadable 32 = .ok (.iinc 1 (-1), 3) := by decide +kernel
theorem dX0_blotLastReadable_35 : decode cX0_blotLastReadable 35 = .ok (.goto (-25), 3) := by decide +kernel
theorem dX0_blotLastReadable_38 : decode cX0_blotLastReadable 38 = .ok (.return_, 1) := by decide +kernel
theorem dX0_fadeOldLines_0 : decode cX0_fadeOldLines 0 = .ok (.iconst 0, 1) := by decide +kernel
theorem dX0_fadeOldLines_1 : decode cX0_fadeOldLines 1 = .ok (.istore_n 2, 1) := by decide +kernel
theorem dX0_fadeOldLines_2 : decode cX0_fadeOldLines 2 = .ok (.iload_n 2, 1) := by decide +kernel
theorem dX0_fadeOldLines_3 : decode cX0_fadeOldLines 3 = .ok (.aload_n 0, 1) := by decide +kernel
theorem dX0_fadeOldLines_4 : decode cX0_fadeOldLines 4 = .ok (.getfield 12, 3) := by decide +kernel
theorem dX0_fadeOldLines_7 : decode cX0_fadeOldLines 7 = .ok (.getfield 39, 3) := by decide +kernel
theorem dX0_fadeOldLines_10 : decode cX0_fadeOldLines 10 = .ok (.if_icmp .ge 39, 3) := by decide +kernel
theorem dX0_fadeOldLines_13 : decode cX0_fadeOldLines 13 = .ok (.aload_n 0, 1) := by decide +kernel
theorem dX0_fadeOldLines_14 : decode cX0_fadeOldLines 14 = .ok (.getfield 18, 3) := by decide +kernel
theorem dX0_fadeOldLines_17 : decode cX0_fadeOldLines 17 = .ok (.iload_n 2, 1) := by decide +kernel
theorem dX0_fadeOldLines_18 : decode cX0_fadeOldLines 18 = .ok (.iaload, 1) := by decide +kernel
theorem dX0_fadeOldLines_19 : decode cX0_fadeOldLines 19 = .ok (.iconst 1, 1) := by decide +kernel
theorem dX0_fadeOldLines_20 : decode cX0_fadeOldLines 20 = .ok (.if_icmp .ne 23, 3) := by decide +kernel
theorem dX0_fadeOldLines_23 : decode cX0_fadeOldLines 23 = .ok (.iload_n 1, 1) := by decide +kernel
theorem dX0_fadeOldLines_24 : decode cX0_fadeOldLines 24 = .ok (.aload_n 0, 1) := by decide +kernel
theorem dX0_fadeOldLines_25 : decode cX0_fadeOldLines 25 = .ok (.getfield 22, 3) := by decide +kernel
theorem dX0_fadeOldLines_28 : decode cX0_fadeOldLines 28 = .ok (.iload_n 2, 1) := by decide +kernel
theorem dX0_fadeOldLines_29 : decode cX0_fadeOldLines 29 = .ok (.iaload, 1) := by decide +kernel
theorem dX0_fadeOldLines_30 : decode cX0_fadeOldLines 30 = .ok (.isub, 1) := by decide +kernel
theorem dX0_fadeOldLines_31 : decode cX0_fadeOldLines 31 = .ok (.bipush 7, 2) := by decide +kernel
theorem dX0_fadeOldLines_33 : decode cX0_fadeOldLines 33 = .ok (.if_icmp .lt 10, 3) := by decide +kernel
theorem dX0_fadeOldLines_36 : decode cX0_fadeOldLines 36 = .ok (.aload_n 0, 1) := by decide +kernel
theorem dX0_fadeOldLines_37 : decode cX0_fadeOldLines 37 = .ok (.getfield 18, 3) := by decide +kernel
theorem dX0_fadeOldLines_40 : decode cX0_fadeOldLines 40 = .ok (.iload_n 2, 1) := by decide +kernel
theorem dX0_fadeOldLines_41 : decode cX0_fadeOldLines 41 = .ok (.iconst 3, 1) := by decide +kernel
theorem dX0_fadeOldLines_42 : decode cX0_fadeOldLines 42 = .ok (.iastore, 1) := by decide +kernel
theorem dX0_fadeOldLines_43 : decode cX0_fadeOldLines 43 = .ok (.iinc 2 1, 3) := by decide +kernel
theorem dX0_fadeOldLines_46 : decode cX0_fadeOldLines 46 = .ok (.goto (-44), 3) := by decide +kernel
theorem dX0_fadeOldLines_49 : decode cX0_fadeOldLines 49 = .ok (.return_, 1) := by decide +kernel
theorem dX0_blankLines_0 : decode cX0_blankLines 0 = .ok (.iconst 0, 1) := by decide +kernel
theorem dX0_blankLines_1 : decode cX0_blankLines 1 = .ok (.istore_n 1, 1) := by decide +kernel
theorem dX0_blankLines_2 : decode cX0_blankLines 2 = .ok (.iconst 0, 1) := by decide +kernel
theorem dX0_blankLines_3 : decode cX0_blankLines 3 = .ok (.istore_n 2, 1) := by decide +kernel
theorem dX0_blankLines_4 : decode cX0_blankLines 4 = .ok (.iload_n 2, 1) := by decide +kernel
theorem dX0_blankLines_5 : decode cX0_blankLines 5 = .ok (.aload_n 0, 1) := by decide +kernel
theorem dX0_blankLines_6 : decode cX0_blankLines 6 = .ok (.getfield 12, 3) := by decide +kernel
theorem dX0_blankLines_9 : decode cX0_blankLines 9 = .ok (.getfield 39, 3) := by decide +kernel
theorem dX0_blankLines_12 : decode cX0_blankLines 12 = .ok (.if_icmp .ge 21, 3) := by decide +kernel
theorem dX0_blankLines_15 : decode cX0_blankLines 15 = .ok (.aload_n 0, 1) := by decide +kernel
theorem dX0_blankLines_16 : decode cX0_blankLines 16 = .ok (.getfield 18, 3) := by decide +kernel
theorem dX0_blankLines_19 : decode cX0_blankLines 19 = .ok (.iload_n 2, 1) := by decide +kernel
theorem dX0_blankLines_20 : decode cX0_blankLines 20 = .ok (.iaload, 1) := by decide +kernel
theorem dX0_blankLines_21 : decode cX0_blankLines 21 = .ok (.ifCond .ne 6, 3) := by decide +kernel
theorem dX0_blankLines_24 : decode cX0_blankLines 24 = .ok (.iinc 1 1, 3) := by decide +kernel
theorem dX0_blankLines_27 : decode cX0_blankLines 27 = .ok (.iinc 2 1, 3) := by decide +kernel
theorem dX0_blankLines_30 : decode cX0_blankLines 30 = .ok (.goto (-26), 3) := by decide +kernel
theorem dX0_blankLines_33 : decode cX0_blankLines 33 = .ok (.iload_n 1, 1) := by decide +kernel
theorem dX0_blankLines_34 : decode cX0_blankLines 34 = .ok (.ireturn, 1) := by decide +kernel
theorem dX0_firstSpoiltLine_0 : decode cX0_firstSpoiltLine 0 = .ok (.iconst 0, 1) := by decide +kernel
theorem dX0_firstSpoiltLine_1 : decode cX0_firstSpoiltLine 1 = .ok (.istore_n 1, 1) := by decide +kernel
theorem dX0_firstSpoiltLine_2 : decode cX0_firstSpoiltLine 2 = .ok (.iload_n 1, 1) := by decide +kernel
theorem dX0_firstSpoiltLine_3 : decode cX0_firstSpoiltLine 3 = .ok (.aload_n 0, 1) := by decide +kernel
theorem dX0_firstSpoiltLine_4 : decode cX0_firstSpoiltLine 4 = .ok (.getfield 12, 3) := by decide +kernel
theorem dX0_firstSpoiltLine_7 : decode cX0_firstSpoiltLine 7 = .ok (.getfield 39, 3) := by decide +kernel
theorem dX0_firstSpoiltLine_10 : decode cX0_firstSpoiltLine 10 = .ok (.if_icmp .ge 31, 3) := by decide +kernel
theorem dX0_firstSpoiltLine_13 : decode cX0_firstSpoiltLine 13 = .ok (.aload_n 0, 1) := by decide +kernel
theorem dX0_firstSpoiltLine_14 : decode cX0_firstSpoiltLine 14 = .ok (.getfield 18, 3) := by decide +kernel
theorem dX0_firstSpoiltLine_17 : decode cX0_firstSpoiltLine 17 = .ok (.iload_n 1, 1) := by decide +kernel
theorem dX0_firstSpoiltLine_18 : decode cX0_firstSpoiltLine 18 = .ok (.iaload, 1) := by decide +kernel
theorem dX0_firstSpoiltLine_19 : decode cX0_firstSpoiltLine 19 = .ok (.iconst 2, 1) := by decide +kernel
theorem dX0_firstSpoiltLine_20 : decode cX0_firstSpoiltLine 20 = .ok (.if_icmp .eq 13, 3) := by decide +kernel
theorem dX0_firstSpoiltLine_23 : decode cX0_firstSpoiltLine 23 = .ok (.aload_n 0, 1) := by decide +kernel
theorem dX0_firstSpoiltLine_24 : decode cX0_firstSpoiltLine 24 = .ok (.getfield 18, 3) := by decide +kernel
theorem dX0_firstSpoiltLine_27 : decode cX0_firstSpoiltLine 27 = .ok (.iload_n 1, 1) := by decide +kernel
theorem dX0_firstSpoiltLine_28 : decode cX0_firstSpoiltLine 28 = .ok (.iaload, 1) := by decide +kernel
theorem dX0_firstSpoiltLine_29 : decode cX0_firstSpoiltLine 29 = .ok (.iconst 3, 1) := by decide +kernel
theorem dX0_firstSpoiltLine_30 : decode cX0_firstSpoiltLine 30 = .ok (.if_icmp .ne 5, 3) := by decide +kernel
theorem dX0_firstSpoiltLine_33 : decode cX0_firstSpoiltLine 33 = .ok (.iload_n 1, 1) := by decide +kernel
theorem dX0_firstSpoiltLine_34 : decode cX0_firstSpoiltLine 34 = .ok (.ireturn, 1) := by decide +kernel
theorem dX0_firstSpoiltLine_35 : decode cX0_firstSpoiltLine 35 = .ok (.iinc 1 1, 3) := by decide +kernel
theorem dX0_firstSpoiltLine_38 : decode cX0_firstSpoiltLine 38 = .ok (.goto (-36), 3) := by decide +kernel
theorem dX0_firstSpoiltLine_41 : decode cX0_firstSpoiltLine 41 = .ok (.iconst (-1), 1) := by decide +kernel
theorem dX0_firstSpoiltLine_42 : decode cX0_firstSpoiltLine 42 = .ok (.ireturn, 1) := by decide +kernel
theorem dX0_unreadableMask_0 : decode cX0_unreadableMask 0 = .ok (.iconst 0, 1) := by decide +kernel
theorem dX0_unreadableMask_1 : decode cX0_unreadableMask 1 = .ok (.istore_n 1, 1) := by decide +kernel
theorem dX0_unreadableMask_2 : decode cX0_unreadableMask 2 = .ok (.iconst 0, 1) := by decide +kernel
theorem dX0_unreadableMask_3 : decode cX0_unreadableMask 3 = .ok (.istore_n 2, 1) := by decide +kernel
theorem dX0_unreadableMask_4 : decode cX0_unreadableMask 4 = .ok (.iload_n 2, 1) := by decide +kernel
theorem dX0_unreadableMask_5 : decode cX0_unreadableMask 5 = .ok (.aload_n 0, 1) := by decide +kernel
theorem dX0_unreadableMask_6 : decode cX0_unreadableMask 6 = .ok (.getfield 12, 3) := by decide +kernel
theorem dX0_unreadableMask_9 : decode cX0_unreadableMask 9 = .ok (.getfield 39, 3) := by decide +kernel
theorem dX0_unreadableMask_12 : decode cX0_unreadableMask 12 = .ok (.if_icmp .ge 25, 3) := by decide +kernel
theorem dX0_unreadableMask_15 : decode cX0_unreadableMask 15 = .ok (.aload_n 0, 1) := by decide +kernel
theorem dX0_unreadableMask_16 : decode cX0_unreadableMask 16 = .ok (.getfield 18, 3) := by decide +kernel
theorem dX0_unreadableMask_19 : decode cX0_unreadableMask 19 = .ok (.iload_n 2, 1) := by decide +kernel
theorem dX0_unreadableMask_20 : decode cX0_unreadableMask 20 = .ok (.iaload, 1) := by decide +kernel
theorem dX0_unreadableMask_21 : decode cX0_unreadableMask 21 = .ok (.iconst 1, 1) := by decide +kernel
theorem dX0_unreadableMask_22 : decode cX0_unreadableMask 22 = .ok (.if_icmp .eq 9, 3) := by decide +kernel
theorem dX0_unreadableMask_25 : decode cX0_unreadableMask 25 = .ok (.iload_n 1, 1) := by decide +kernel
theorem dX0_unreadableMask_26 : decode cX0_unreadableMask 26 = .ok (.iconst 1, 1) := by decide +kernel
theorem dX0_unreadableMask_27 : decode cX0_unreadableMask 27 = .ok (.iload_n 2, 1) := by decide +kernel
theorem dX0_unreadableMask_28 : decode cX0_unreadableMask 28 = .ok (.ishl, 1) := by decide +kernel
theorem dX0_unreadableMask_29 : decode cX0_unreadableMask 29 = .ok (.ior, 1) := by decide +kernel
theorem dX0_unreadableMask_30 : decode cX0_unreadableMask 30 = .ok (.istore_n 1, 1) := by decide +kernel
theorem dX0_unreadableMask_31 : decode cX0_unreadableMask 31 = .ok (.iinc 2 1, 3) := by decide +kernel
theorem dX0_unreadableMask_34 : decode cX0_unreadableMask 34 = .ok (.goto (-30), 3) := by decide +kernel
theorem dX0_unreadableMask_37 : decode cX0_unreadableMask 37 = .ok (.iload_n 1, 1) := by decide +kernel
theorem dX0_unreadableMask_38 : decode cX0_unreadableMask 38 = .ok (.ireturn, 1) := by decide +kernel
theorem dX1_init_0 : decode cX1_init 0 = .ok (.aload_n 0, 1) := by decide +kernel
theorem dX1_init_1 : decode cX1_init 1 = .ok (.invokespecial 3, 3) := by decide +kernel
theorem dX1_init_4 : decode cX1_init 4 = .ok (.aload_n 0, 1) := by decide +kernel
theorem dX1_init_5 : decode cX1_init 5 = .ok (.new 9, 3) := by decide +kernel
theorem dX1_init_8 : decode cX1_init 8 = .ok (.dup, 1) := by decide +kernel
theorem dX1_init_9 : decode cX1_init 9 = .ok (.invokespecial 11, 3) := by decide +kernel
theorem dX1_init_12 : decode cX1_init 12 = .ok (.putfield 12, 3) := by decide +kernel
theorem dX1_init_15 : decode cX1_init 15 = .ok (.aload_n 0, 1) := by decide +kernel
theorem dX1_init_16 : decode cX1_init 16 = .ok (.iload_n 1, 1) := by decide +kernel
theorem dX1_init_17 : decode cX1_init 17 = .ok (.putfield 18, 3) := by decide +kernel
theorem dX1_init_20 : decode cX1_init 20 = .ok (.aload_n 0, 1) := by decide +kernel
theorem dX1_init_21 : decode cX1_init 21 = .ok (.iload_n 2, 1) := by decide +kernel
theorem dX1_init_22 : decode cX1_init 22 = .ok (.putfield 22, 3) := by decide +kernel
theorem dX1_init_25 : decode cX1_init 25 = .ok (.aload_n 0, 1) := by decide +kernel
theorem dX1_init_26 : decode cX1_init 26 = .ok (.iload_n 3, 1) := by decide +kernel
theorem dX1_init_27 : decode cX1_init 27 = .ok (.putfield 25, 3) := by decide +kernel
theorem dX1_init_30 : decode cX1_init 30 = .ok (.aload_n 0, 1) := by decide +kernel
theorem dX1_init_31 : decode cX1_init 31 = .ok (.iload 4, 2) := by decide +kernel
theorem dX1_init_33 : decode cX1_init 33 = .ok (.putfield 28, 3) := by decide +kernel
theorem dX1_init_36 : decode cX1_init 36 = .ok (.aload_n 0, 1) := by decide +kernel
theorem dX1_init_37 : decode cX1_init 37 = .ok (.iload 5, 2) := by decide +kernel
theorem dX1_init_39 : decode cX1_init 39 = .ok (.putfield 31, 3) := by decide +kernel
theorem dX1_init_42 : decode cX1_init 42 = .ok (.aload_n 0, 1) := by decide +kernel
theorem dX1_init_43 : decode cX1_init 43 = .ok (.new 34, 3) := by decide +kernel
theorem dX1_init_46 : decode cX1_init 46 = .ok (.dup, 1) := by decide +kernel
theorem dX1_init_47 : decode cX1_init 47 = .ok (.aload 6, 2) := by decide +kernel
theorem dX1_init_49 : decode cX1_init 49 = .ok (.invokespecial 36, 3) := by decide +kernel
theorem dX1_init_52 : decode cX1_init 52 = .ok (.putfield 39, 3) := by decide +kernel
theorem dX1_init_55 : decode cX1_init 55 = .ok (.return_, 1) := by decide +kernel
theorem dX1_rangeOn_0 : decode cX1_rangeOn 0 = .ok (.iload_n 1, 1) := by decide +kernel
theorem dX1_rangeOn_1 : decode cX1_rangeOn 1 = .ok (.invokestatic 43, 3) := by decide +kernel
theorem dX1_rangeOn_4 : decode cX1_rangeOn 4 = .ok (.bipush 59, 2) := by decide +kernel
theorem dX1_rangeOn_6 : decode cX1_rangeOn 6 = .ok (.irem, 1) := by decide +kernel
theorem dX1_rangeOn_7 : decode cX1_rangeOn 7 = .ok (.istore_n 2, 1) := by decide +kernel
theorem dX1_rangeOn_8 : decode cX1_rangeOn 8 = .ok (.iload_n 2, 1) := by decide +kernel
theorem dX1_rangeOn_9 : decode cX1_rangeOn 9 = .ok (.bipush 59, 2) := by decide +kernel
theorem dX1_rangeOn_11 : decode cX1_rangeOn 11 = .ok (.iload_n 2, 1) := by decide +kernel
theorem dX1_rangeOn_12 : decode cX1_rangeOn 12 = .ok (.isub, 1) := by decide +kernel
theorem dX1_rangeOn_13 : decode cX1_rangeOn 13 = .ok (.invokestatic 47, 3) := by decide +kernel
theorem dX1_rangeOn_16 : decode cX1_rangeOn 16 = .ok (.istore_n 3, 1) := by decide +kernel
theorem dX1_rangeOn_17 : decode cX1_rangeOn 17 = .ok (.aload_n 0, 1) := by decide +kernel
theorem dX1_rangeOn_18 : decode cX1_rangeOn 18 = .ok (.getfield 25, 3) := by decide +kernel
theorem dX1_rangeOn_21 : decode cX1_rangeOn 21 = .ok (.aload_n 0, 1) := by decide +kernel
theorem dX1_rangeOn_22 : decode cX1_rangeOn 22 = .ok (.getfield 25, 3) := by decide +kernel
theorem dX1_rangeOn_25 : decode cX1_rangeOn 25 = .ok (.aload_n 0, 1) := by decide +kernel
theorem dX1_rangeOn_26 : decode cX1_rangeOn 26 = .ok (.getfield 28, 3) := by decide +kernel
theorem dX1_rangeOn_29 : decode cX1_rangeOn 29 = .ok (.isub, 1) := by decide +kernel
theorem dX1_rangeOn_30 : decode cX1_rangeOn 30 = .ok (.iload_n 3, 1) := by decide +kernel
theorem dX1_rangeOn_31 : decode cX1_rangeOn 31 = .ok (.imul, 1) := by decide +kernel
theorem dX1_rangeOn_32 : decode cX1_rangeOn 32 = .ok (.bipush 29, 2) := by decide +kernel
theorem dX1_rangeOn_34 : decode cX1_rangeOn 34 = .ok (.idiv, 1) := by decide +kernel
theorem dX1_rangeOn_35 : decode cX1_rangeOn 35 = .ok (.isub, 1) := by decide +kernel
theorem dX1_rangeOn_36 : decode cX1_rangeOn 36 = .ok (.ireturn, 1) := by decide +kernel
theorem dX1_minutesToHigh_0 : decode cX1_minutesToHigh 0 = .ok (.sipush 1440, 3) := by decide +kernel
theorem dX1_minutesToHigh_3 : decode cX1_minutesToHigh 3 = .ok (.iload_n 1, 1) := by decide +kernel
theorem dX1_minutesToHigh_4 : decode cX1_minutesToHigh 4 = .ok (.imul, 1) := by decide +kernel
theorem dX1_minutesToHigh_5 : decode cX1_minutesToHigh 5 = .ok (.iload_n 2, 1) := by decide +kernel
theorem dX1_minutesToHigh_6 : decode cX1_minutesToHigh 6 = .ok (.iadd, 1) := by decide +kernel
theorem dX1_minutesToHigh_7 : decode cX1_minutesToHigh 7 = .ok (.istore_n 3, 1) := by decide +kernel
theorem dX1_minutesToHigh_8 : decode cX1_minutesToHigh 8 = .ok (.aload_n 0, 1) := by decide +kernel
theorem dX1_minutesToHigh_9 : decode cX1_minutesToHigh 9 = .ok (.getfield 18, 3) := by decide +kernel
theorem dX1_minutesToHigh_12 : decode cX1_minutesToHigh 12 = .ok (.aload_n 0, 1) := by decide +kernel
theorem dX1_minutesToHigh_13 : decode cX1_minutesToHigh 13 = .ok (.getfield 39, 3) := by decide +kernel
theorem dX1_minutesToHigh_16 : decode cX1_minutesToHigh 16 = .ok (.invokevirtual 53, 3) := by decide +kernel
theorem dX1_minutesToHigh_19 : decode cX1_minutesToHigh 19 = .ok (.iadd, 1) := by decide +kernel
theorem dX1_minutesToHigh_20 : decode cX1_minutesToHigh 20 = .ok (.iload_n 3, 1) := by decide +kernel
theorem dX1_minutesToHigh_21 : decode cX1_minutesToHigh 21 = .ok (.isub, 1) := by decide +kernel
theorem dX1_minutesToHigh_22 : decode cX1_minutesToHigh 22 = .ok (.sipush 745, 3) := by decide +kernel
theorem dX1_minutesToHigh_25 : decode cX1_minutesToHigh 25 = .ok (.invokestatic 57, 3) := by decide +kernel
theorem dX1_minutesToHigh_28 : decode cX1_minutesToHigh 28 = .ok (.ireturn, 1) := by decide +kernel
theorem dX2_init_0 : decode cX2_init 0 = .ok (.aload_n 0, 1) := by decide +kernel
theorem dX2_init_1 : decode cX2_init 1 = .ok (.invokespecial 3, 3) := by decide +kernel
theorem dX2_init_4 : decode cX2_init 4 = .ok (.aload_n 0, 1) := by decide +kernel
theorem dX2_init_5 : decode cX2_init 5 = .ok (.bipush 6, 2) := by decide +kernel
theorem dX2_init_7 : decode cX2_init 7 = .ok (.newarray .int, 2) := by decide +kernel
theorem dX2_init_9 : decode cX2_init 9 = .ok (.putfield 9, 3) := by decide +kernel
theorem dX2_init_12 : decode cX2_init 12 = .ok (.aload_n 0, 1) := by decide +kernel
theorem dX2_init_13 : decode cX2_init 13 = .ok (.bipush 6, 2) := by decide +kernel
theorem dX2_init_15 : decode cX2_init 15 = .ok (.newarray .int, 2) := by decide +kernel
theorem dX2_init_17 : decode cX2_init 17 = .ok (.putfield 15, 3) := by decide +kernel
theorem dX2_init_20 : decode cX2_init 20 = .ok (.aload_n 0, 1) := by decide +kernel
theorem dX2_init_21 : decode cX2_init 21 = .ok (.bipush 6, 2) := by decide +kernel
theorem dX2_init_23 : decode cX2_init 23 = .ok (.newarray .int, 2) := by decide +kernel
theorem dX2_init_25 : decode cX2_init 25 = .ok (.putfield 18, 3) := by decide +kernel
theorem dX2_init_28 : decode cX2_init 28 = .ok (.aload_n 0, 1) := by decide +kernel
theorem dX2_init_29 : decode cX2_init 29 = .ok (.iconst 0, 1) := by decide +kernel
theorem dX2_init_30 : decode cX2_init 30 = .ok (.putfield 21, 3) := by decide +kernel
theorem dX2_init_33 : decode cX2_init 33 = .ok (.aload_n 0, 1) := by decide +kernel
theorem dX2_init_34 : decode cX2_init 34 = .ok (.aload_n 1, 1) := by decide +kernel
theorem dX2_init_35 : decode cX2_init 35 = .ok (.putfield 25, 3) := by decide +kernel
theorem dX2_init_38 : decode cX2_init 38 = .ok (.return_, 1) := by decide +kernel
theorem dX2_placeOf_0 : decode cX2_placeOf 0 = .ok (.iconst 0, 1) := by decide +kernel
theorem dX2_placeOf_1 : decode cX2_placeOf 1 = .ok (.istore_n 2, 1) := by decide +kernel
theorem dX2_placeOf_2 : decode cX2_placeOf 2 = .ok (.iload_n 2, 1) := by decide +kernel
theorem dX2_placeOf_3 : decode cX2_placeOf 3 = .ok (.aload_n 0, 1) := by decide +kernel
theorem dX2_placeOf_4 : decode cX2_placeOf 4 = .ok (.getfield 21, 3) := by decide +kernel
theorem dX2_placeOf_7 : decode cX2_placeOf 7 = .ok (.if_icmp .ge 21, 3) := by decide +kernel
theorem dX2_placeOf_10 : decode cX2_placeOf 10 = .ok (.aload_n 0, 1) := by decide +kernel
theorem dX2_placeOf_11 : decode cX2_placeOf 11 = .ok (.getfield 9, 3) := by decide +kernel
theorem dX2_placeOf_14 : decode cX2_placeOf 14 = .ok (.iload_n 2, 1) := by decide +kernel
theorem dX2_placeOf_15 : decode cX2_placeOf 15 = .ok (.iaload, 1) := by decide +kernel
theorem dX2_placeOf_16 : decode cX2_placeOf 16 = .ok (.iload_n 1, 1) := by decide +kernel
theorem dX2_placeOf_17 : decode cX2_placeOf 17 = .ok (.if_icmp .ne 5, 3) := by decide +kernel
theorem dX2_placeOf_20 : decode cX2_placeOf 20 = .ok (.iload_n 2, 1) := by decide +kernel
theorem dX2_placeOf_21 : decode cX2_placeOf 21 = .ok (.ireturn, 1) := by decide +kernel
theorem dX2_placeOf_22 : decode cX2_placeOf 22 = .ok (.iinc 2 1, 3) := by decide +kernel
theorem dX2_placeOf_25 : decode cX2_placeOf 25 = .ok (.goto (-23), 3) := by decide +kernel
theorem dX2_placeOf_28 : decode cX2_placeOf 28 = .ok (.iconst (-1), 1) := by decide +kernel
theorem dX2_placeOf_29 : decode cX2_placeOf 29 = .ok (.ireturn, 1) := by decide +kernel
theorem dX2_put_0 : decode cX2_put 0 = .ok (.aload_n 0, 1) := by decide +kernel
theorem dX2_put_1 : decode cX2_put 1 = .ok (.iload_n 1, 1) := by decide +kernel
theorem dX2_put_2 : decode cX2_put 2 = .ok (.invokevirtual 28, 3) := by decide +kernel
theorem dX2_put_5 : decode cX2_put 5 = .ok (.istore_n 3, 1) := by decide +kernel
theorem dX2_put_6 : decode cX2_put 6 = .ok (.iload_n 3, 1) := by decide +kernel
theorem dX2_put_7 : decode cX2_put 7 = .ok (.iconst (-1), 1) := by decide +kernel
theorem dX2_put_8 : decode cX2_put 8 = .ok (.if_icmp .ne 27, 3) := by decide +kernel
theorem dX2_put_11 : decode cX2_put 11 = .ok (.aload_n 0, 1) := by decide +kernel
theorem dX2_put_12 : decode cX2_put 12 = .ok (.getfield 21, 3) := by decide +kernel
theorem dX2_put_15 : decode cX2_put 15 = .ok (.bipush 6, 2) := by decide +kernel
theorem dX2_put_17 : decode cX2_put 17 = .ok (.if_icmp .ge 18, 3) := by decide +kernel
theorem dX2_put_20 : decode cX2_put 20 = .ok (.aload_n 0, 1) := by decide +kernel
theorem dX2_put_21 : decode cX2_put 21 = .ok (.getfield 21, 3) := by decide +kernel
theorem dX2_put_24 : decode cX2_put 24 = .ok (.istore_n 3, 1) := by decide +kernel
theorem dX2_put_25 : decode cX2_put 25 = .ok (.aload_n 0, 1) := by decide +kernel
theorem dX2_put_26 : decode cX2_put 26 = .ok (.dup, 1) := by decide +kernel
theorem dX2_put_27 : decode cX2_put 27 = .ok (.getfield 21, 3) := by decide +kernel
theorem dX2_put_30 : decode cX2_put 30 = .ok (.iconst 1, 1) := by decide +kernel
theorem dX2_put_31 : decode cX2_put 31 = .ok (.iadd, 1) := by decide +kernel
theorem dX2_put_32 : decode cX2_put 32 = .ok (.putfield 21, 3) := by decide +kernel
theorem dX2_put_35 : decode cX2_put 35 = .ok (.iload_n 3, 1) := by decide +kernel
theorem dX2_put_36 : decode cX2_put 36 = .ok (.iconst (-1), 1) := by decide +kernel
theorem dX2_put_37 : decode cX2_put 37 = .ok (.if_icmp .eq 24, 3) := by decide +kernel
theorem dX2_put_40 : decode cX2_put 40 = .ok (.aload_n 0, 1) := by decide +kernel
theorem dX2_put_41 : decode cX2_put 41 = .ok (.getfield 9, 3) := by decide +kernel
theorem dX2_put_44 : decode cX2_put 44 = .ok (.iload_n 3, 1) := by decide +kernel
theorem dX2_put_45 : decode cX2_put 45 = .ok (.iload_n 1, 1) := by decide +kernel
theorem dX2_put_46 : decode cX2_put 46 = .ok (.iastore, 1) := by decide +kernel
theorem dX2_put_47 : decode cX2_put 47 = .ok (.aload_n 0, 1) := by decide +kernel
theorem dX2_put_48 : decode cX2_put 48 = .ok (.getfield 15, 3) := by decide +kernel
theorem dX2_put_51 : decode cX2_put 51 = .ok (.iload_n 3, 1) := by decide +kernel
theorem dX2_put_52 : decode cX2_put 52 = .ok (.iload_n 2, 1) := by decide +kernel
theorem dX2_put_53 : decode cX2_put 53 = .ok (.iastore, 1) := by decide +kernel
theorem dX2_put_54 : decode cX2_put 54 = .ok (.aload_n 0, 1) := by decide +kernel
theorem dX2_put_55 : decode cX2_put 55 = .ok (.getfield 18, 3) := by decide +kernel
theorem dX2_put_58 : decode cX2_put 58 = .ok (.iload_n 3, 1) := by decide +kernel
theorem dX2_put_59 : decode cX2_put 59 = .ok (.iconst 0, 1) := by decide +kernel
theorem dX2_put_60 : decode cX2_put 60 = .ok (.iastore, 1) := by decide +kernel
theorem dX2_put_61 : decode cX2_put 61 = .ok (.return_, 1) := by decide +kernel
theorem dX2_removeAt_0 : decode cX2_removeAt 0 = .ok (.iload_n 1, 1) := by decide +kernel
theorem dX2_removeAt_1 : decode cX2_removeAt 1 = .ok (.istore_n 2, 1) := by decide +kernel
theorem dX2_removeAt_2 : decode cX2_removeAt 2 = .ok (.iload_n 2, 1) := by decide +kernel
theorem dX2_removeAt_3 : decode cX2_removeAt 3 = .ok (.aload_n 0, 1) := by decide +kernel
theorem dX2_removeAt_4 : decode cX2_removeAt 4 = .ok (.getfield 21, 3) := by decide +kernel
theorem dX2_removeAt_7 : decode cX2_removeAt 7 = .ok (.iconst 1, 1) := by decide +kernel
theorem dX2_removeAt_8 : decode cX2_removeAt 8 = .ok (.isub, 1) := by decide +kernel
theorem dX2_removeAt_9 : decode cX2_removeAt 9 = .ok (.if_icmp .ge 51, 3) := by decide +kernel
theorem dX2_removeAt_12 : decode cX2_removeAt 12 = .ok (.aload_n 0, 1) := by decide +kernel
theorem dX2_removeAt_13 : decode cX2_removeAt 13 = .ok (.getfield 9, 3) := by decide +kernel
theorem dX2_removeAt_16 : decode cX2_removeAt 16 = .ok (.iload_n 2, 1) := by decide +kernel
theorem dX2_removeAt_17 : decode cX2_removeAt 17 = .ok (.aload_n 0, 1) := by decide +kernel
theorem dX2_removeAt_18 : decode cX2_removeAt 18 = .ok (.getfield 9, 3) := by decide +kernel
theorem dX2_removeAt_21 : decode cX2_removeAt 21 = .ok (.iload_n 2, 1) := by decide +kernel
theorem dX2_removeAt_22 : decode cX2_removeAt 22 = .ok (.iconst 1, 1) := by decide +kernel
theorem dX2_removeAt_23 : decode cX2_removeAt 23 = .ok (.iadd, 1) := by decide +kernel
theorem dX2_removeAt_24 : decode cX2_removeAt 24 = .ok (.iaload, 1) := by decide +kernel
theorem dX2_removeAt_25 : decode cX2_removeAt 25 = .ok (.iastore, 1) := by decide +kernel
theorem dX2_removeAt_26 : decode cX2_removeAt 26 = .ok (.aload_n 0, 1) := by decide +kernel
theorem dX2_removeAt_27 : decode cX2_removeAt 27 = .ok (.getfield 15, 3) := by decide +kernel
theorem dX2_removeAt_30 : decode cX2_removeAt 30 = .ok (.iload_n 2, 1) := by decide +kernel
theorem dX2_removeAt_31 : decode cX2_removeAt 31 = .ok (.aload_n 0, 1) := by decide +kernel
theorem dX2_removeAt_32 : decode cX2_removeAt 32 = .ok (.getfield 15, 3) := by decide +kernel
theorem dX2_removeAt_35 : decode cX2_removeAt 35 = .ok (.iload_n 2, 1) := by decide +kernel
theorem dX2_removeAt_36 : decode cX2_removeAt 36 = .ok (.iconst 1, 1) := by decide +kernel
theorem dX2_removeAt_37 : decode cX2_removeAt 37 = .ok (.iadd, 1) := by decide +kernel
theorem dX2_removeAt_38 : decode cX2_removeAt 38 = .ok (.iaload, 1) := by decide +kernel
theorem dX2_removeAt_39 : decode cX2_removeAt 39 = .ok (.iastore, 1) := by decide +kernel
theorem dX2_removeAt_40 : decode cX2_removeAt 40 = .ok (.aload_n 0, 1) := by decide +kernel
theorem dX2_removeAt_41 : decode cX2_removeAt 41 = .ok (.getfield 18, 3) := by decide +kernel
theorem dX2_removeAt_44 : decode cX2_removeAt 44 = .ok (.iload_n 2, 1) := by decide +kernel
theorem dX2_removeAt_45 : decode cX2_removeAt 45 = .ok (.aload_n 0, 1) := by decide +kernel
theorem dX2_removeAt_46 : decode cX2_removeAt 46 = .ok (.getfield 18, 3) := by decide +kernel
theorem dX2_removeAt_49 : decode cX2_removeAt 49 = .ok (.iload_n 2, 1) := by decide +kernel
theorem dX2_removeAt_50 : decode cX2_removeAt 50 = .ok (.iconst 1, 1) := by decide +kernel
theorem dX2_removeAt_51 : decode cX2_removeAt 51 = .ok (.iadd, 1) := by decide +kernel
theorem dX2_removeAt_52 : decode cX2_removeAt 52 = .ok (.iaload, 1) := by decide +kernel
theorem dX2_removeAt_53 : decode cX2_removeAt 53 = .ok (.iastore, 1) := by decide +kernel
theorem dX2_removeAt_54 : decode cX2_removeAt 54 = .ok (.iinc 2 1, 3) := by decide +kernel
theorem dX2_removeAt_57 : decode cX2_removeAt 57 = .ok (.goto (-55), 3) := by decide +kernel
theorem dX2_removeAt_60 : decode cX2_removeAt 60 = .ok (.aload_n 0, 1) := by decide +kernel
theorem dX2_removeAt_61 : decode cX2_removeAt 61 = .ok (.dup, 1) := by decide +kernel
theorem dX2_removeAt_62 : decode cX2_removeAt 62 = .ok (.getfield 21, 3) := by decide +kernel
theorem dX2_removeAt_65 : decode cX2_removeAt 65 = .ok (.iconst 1, 1) := by decide +kernel
theorem dX2_removeAt_66 : decode cX2_removeAt 66 = .ok (.isub, 1) := by decide +kernel
theorem dX2_removeAt_67 : decode cX2_removeAt 67 = .ok (.putfield 21, 3) := by decide +kernel
theorem dX2_removeAt_70 : decode cX2_removeAt 70 = .ok (.return_, 1) := by decide +kernel
theorem dX2_correction_0 : decode cX2_correction 0 = .ok (.iconst 0, 1) := by decide +kernel
theorem dX2_correction_1 : decode cX2_correction 1 = .ok (.istore_n 1, 1) := by decide +kernel
theorem dX2_correction_2 : decode cX2_correction 2 = .ok (.iconst 0, 1) := by decide +kernel
theorem dX2_correction_3 : decode cX2_correction 3 = .ok (.istore_n 2, 1) := by decide +kernel
theorem dX2_correction_4 : decode cX2_correction 4 = .ok (.iconst 0, 1) := by decide +kernel
theorem dX2_correction_5 : decode cX2_correction 5 = .ok (.istore_n 3, 1) := by decide +kernel
theorem dX2_correction_6 : decode cX2_correction 6 = .ok (.iload_n 3, 1) := by decide +kernel
theorem dX2_correction_7 : decode cX2_correction 7 = .ok (.aload_n 0, 1) := by decide +kernel
theorem dX2_correction_8 : decode cX2_correction 8 = .ok (.getfield 21, 3) := by decide +kernel
theorem dX2_correction_11 : decode cX2_correction 11 = .ok (.if_icmp .ge 39, 3) := by decide +kernel
theorem dX2_correction_14 : decode cX2_correction 14 = .ok (.aload_n 0, 1) := by decide +kernel
theorem dX2_correction_15 : decode cX2_correction 15 = .ok (.getfield 25, 3) := by decide +kernel
theorem dX2_correction_18 : decode cX2_correction 18 = .ok (.aload_n 0, 1) := by decide +kernel
theorem dX2_correction_19 : decode cX2_correction 19 = .ok (.getfield 9, 3) := by decide +kernel
theorem dX2_correction_22 : decode cX2_correction 22 = .ok (.iload_n 3, 1) := by decide +kernel
theorem dX2_correction_23 : decode cX2_correction 23 = .ok (.iaload, 1) := by decide +kernel
theorem dX2_correction_24 : decode cX2_correction 24 = .ok (.iaload, 1) := by decide +kernel
theorem dX2_correction_25 : decode cX2_correction 25 = .ok (.istore 4, 2) := by decide +kernel
theorem dX2_correction_27 : decode cX2_correction 27 = .ok (.iload_n 1, 1) := by decide +kernel
theorem dX2_correction_28 : decode cX2_correction 28 = .ok (.aload_n 0, 1) := by decide +kernel
theorem dX2_correction_29 : decode cX2_correction 29 = .ok (.getfield 15, 3) := by decide +kernel
theorem dX2_correction_32 : decode cX2_correction 32 = .ok (.iload_n 3, 1) := by decide +kernel
theorem dX2_correction_33 : decode cX2_correction 33 = .ok (.iaload, 1) := by decide +kernel
theorem dX2_correction_34 : decode cX2_correction 34 = .ok (.iload 4, 2) := by decide +kernel
theorem dX2_correction_36 : decode cX2_correction 36 = .ok (.imul, 1) := by decide +kernel
theorem dX2_correction_37 : decode cX2_correction 37 = .ok (.iadd, 1) := by decide +kernel
theorem dX2_correction_38 : decode cX2_correction 38 = .ok (.istore_n 1, 1) := by decide +kernel
theorem dX2_correction_39 : decode cX2_correction 39 = .ok (.iload_n 2, 1) := by decide +kernel
theorem dX2_correction_40 : decode cX2_correction 40 = .ok (.iload 4, 2) := by decide +kernel
theorem dX2_correction_42 : decode cX2_correction 42 = .ok (.iadd, 1) := by decide +kernel
theorem dX2_correction_43 : decode cX2_correction 43 = .ok (.istore_n 2, 1) := by decide +kernel
theorem dX2_correction_44 : decode cX2_correction 44 = .ok (.iinc 3 1, 3) := by decide +kernel
theorem dX2_correction_47 : decode cX2_correction 47 = .ok (.goto (-41), 3) := by decide +kernel
theorem dX2_correction_50 : decode cX2_correction 50 = .ok (.iload_n 2, 1) := by decide +kernel
theorem dX2_correction_51 : decode cX2_correction 51 = .ok (.ifCond .ne 7, 3) := by decide +kernel
theorem dX2_correction_54 : decode cX2_correction 54 = .ok (.iconst 0, 1) := by decide +kernel
theorem dX2_correction_55 : decode cX2_correction 55 = .ok (.goto 6, 3) := by decide +kernel
theorem dX2_correction_58 : decode cX2_correction 58 = .ok (.iload_n 1, 1) := by decide +kernel
theorem dX2_correction_59 : decode cX2_correction 59 = .ok (.iload_n 2, 1) := by decide +kernel
theorem dX2_correction_60 : decode cX2_correction 60 = .ok (.idiv, 1) := by decide +kernel
theorem dX2_correction_61 : decode cX2_correction 61 = .ok (.ireturn, 1) := by decide +kernel
theorem dX2_compareWith_0 : decode cX2_compareWith 0 = .ok (.iconst 0, 1) := by decide +kernel
theorem dX2_compareWith_1 : decode cX2_compareWith 1 = .ok (.istore_n 2, 1) := by decide +kernel
theorem dX2_compareWith_2 : decode cX2_compareWith 2 = .ok (.aload_n 0, 1) := by decide +kernel
theorem dX2_compareWith_3 : decode cX2_compareWith 3 = .ok (.getfield 21, 3) := by decide +kernel
theorem dX2_compareWith_6 : decode cX2_compareWith 6 = .ok (.iconst 1, 1) := by decide +kernel
theorem dX2_compareWith_7 : decode cX2_compareWith 7 = .ok (.isub, 1) := by decide +kernel
theorem dX2_compareWith_8 : decode cX2_compareWith 8 = .ok (.istore_n 3, 1) := by decide +kernel
theorem dX2_compareWith_9 : decode cX2_compareWith 9 = .ok (.iload_n 3, 1) := by decide +kernel
theorem dX2_compareWith_10 : decode cX2_compareWith 10 = .ok (.ifCond .lt 49, 3) := by decide +kernel
theorem dX2_compareWith_13 : decode cX2_compareWith 13 = .ok (.aload_n 0, 1) := by decide +kernel
theorem dX2_compareWith_14 : decode cX2_compareWith 14 = .ok (.getfield 15, 3) := by decide +kernel
theorem dX2_compareWith_17 : decode cX2_compareWith 17 = .ok (.iload_n 3, 1) := by decide +kernel
theorem dX2_compareWith_18 : decode cX2_compareWith 18 = .ok (.iaload, 1) := by decide +kernel
theorem dX2_compareWith_19 : decode cX2_compareWith 19 = .ok (.iload_n 1, 1) := by decide +kernel
theorem dX2_compareWith_20 : decode cX2_compareWith 20 = .ok (.isub, 1) := by decide +kernel
theorem dX2_compareWith_21 : decode cX2_compareWith 21 = .ok (.invokestatic 32, 3) := by decide +kernel
theorem dX2_compareWith_24 : decode cX2_compareWith 24 = .ok (.istore 4, 2) := by decide +kernel
theorem dX2_compareWith_26 : decode cX2_compareWith 26 = .ok (.aload_n 0, 1) := by decide +kernel
theorem dX2_compareWith_27 : decode cX2_compareWith 27 = .ok (.aload_n 0, 1) := by decide +kernel
theorem dX2_compareWith_28 : decode cX2_compareWith 28 = .ok (.getfield 9, 3) := by decide +kernel
theorem dX2_compareWith_31 : decode cX2_compareWith 31 = .ok (.iload_n 3, 1) := by decide +kernel
theorem dX2_compareWith_32 : decode cX2_compareWith 32 = .ok (.iaload, 1) := by decide +kernel
theorem dX2_compareWith_33 : decode cX2_compareWith 33 = .ok (.iload 4, 2) := by decide +kernel
theorem dX2_compareWith_35 : decode cX2_compareWith 35 = .ok (.invokevirtual 37, 3) := by decide +kernel
theorem dX2_compareWith_38 : decode cX2_compareWith 38 = .ok (.iload 4, 2) := by decide +kernel
theorem dX2_compareWith_40 : decode cX2_compareWith 40 = .ok (.bipush 30, 2) := by decide +kernel
theorem dX2_compareWith_42 : decode cX2_compareWith 42 = .ok (.if_icmp .le 11, 3) := by decide +kernel
theorem dX2_compareWith_45 : decode cX2_compareWith 45 = .ok (.aload_n 0, 1) := by decide +kernel
theorem dX2_compareWith_46 : decode cX2_compareWith 46 = .ok (.iload_n 3, 1) := by decide +kernel
theorem dX2_compareWith_47 : decode cX2_compareWith 47 = .ok (.invokevirtual 41, 3) := by decide +kernel
theorem dX2_compareWith_50 : decode cX2_compareWith 50 = .ok (.iinc 2 1, 3) := by decide +kernel
theorem dX2_compareWith_53 : decode cX2_compareWith 53 = .ok (.iinc 3 (-1), 3) := by decide +kernel
theorem dX2_compareWith_56 : decode cX2_compareWith 56 = .ok (.goto (-47), 3) := by decide +kernel
theorem dX2_compareWith_59 : decode cX2_compareWith 59 = .ok (.iload_n 2, 1) := by decide +kernel
theorem dX2_compareWith_60 : decode cX2_compareWith 60 = .ok (.ireturn, 1) := by decide +kernel
theorem dX2_judge_0 : decode cX2_judge 0 = .ok (.iload_n 2, 1) := by decide +kernel
theorem dX2_judge_1 : decode cX2_judge 1 = .ok (.iconst 5, 1) := by decide +kernel
theorem dX2_judge_2 : decode cX2_judge 2 = .ok (.if_icmp .gt 25, 3) := by decide +kernel
theorem dX2_judge_5 : decode cX2_judge 5 = .ok (.aload_n 0, 1) := by decide +kernel
theorem dX2_judge_6 : decode cX2_judge 6 = .ok (.getfield 25, 3) := by decide +kernel
theorem dX2_judge_9 : decode cX2_judge 9 = .ok (.iload_n 1, 1) := by decide +kernel
theorem dX2_judge_10 : decode cX2_judge 10 = .ok (.aload_n 0, 1) := by decide +kernel
theorem dX2_judge_11 : decode cX2_judge 11 = .ok (.getfield 25, 3) := by decide +kernel
theorem dX2_judge_14 : decode cX2_judge 14 = .ok (.iload_n 1, 1) := by decide +kernel
theorem dX2_judge_15 : decode cX2_judge 15 = .ok (.iaload, 1) := by decide +kernel
theorem dX2_judge_16 : decode cX2_judge 16 = .ok (.iconst 1, 1) := by decide +kernel
theorem dX2_judge_17 : decode cX2_judge 17 = .ok (.iadd, 1) := by decide +kernel
theorem dX2_judge_18 : decode cX2_judge 18 = .ok (.bipush 9, 2) := by decide +kernel
theorem dX2_judge_20 : decode cX2_judge 20 = .ok (.invokestatic 45, 3) := by decide +kernel
theorem dX2_judge_23 : decode cX2_judge 23 = .ok (.iastore, 1) := by decide +kernel
theorem dX2_judge_24 : decode cX2_judge 24 = .ok (.goto 21, 3) := by decide +kernel
theorem dX2_judge_27 : decode cX2_judge 27 = .ok (.aload_n 0, 1) := by decide +kernel
theorem dX2_judge_28 : decode cX2_judge 28 = .ok (.getfield 25, 3) := by decide +kernel
theorem dX2_judge_31 : decode cX2_judge 31 = .ok (.iload_n 1, 1) := by decide +kernel
theorem dX2_judge_32 : decode cX2_judge 32 = .ok (.aload_n 0, 1) := by decide +kernel
theorem dX2_judge_33 : decode cX2_judge 33 = .ok (.getfield 25, 3) := by decide +kernel
theorem dX2_judge_36 : decode cX2_judge 36 = .ok (.iload_n 1, 1) := by decide +kernel
theorem dX2_judge_37 : decode cX2_judge 37 = .ok (.iaload, 1) := by decide +kernel
theorem dX2_judge_38 : decode cX2_judge 38 = .ok (.iconst 1, 1) := by decide +kernel
theorem dX2_judge_39 : decode cX2_judge 39 = .ok (.isub, 1) := by decide +kernel
theorem dX2_judge_40 : decode cX2_judge 40 = .ok (.iconst 1, 1) := by decide +kernel
theorem dX2_judge_41 : decode cX2_judge 41 = .ok (.invokestatic 49, 3) := by decide +kernel
theorem dX2_judge_44 : decode cX2_judge 44 = .ok (.iastore, 1) := by decide +kernel
theorem dX2_judge_45 : decode cX2_judge 45 = .ok (.return_, 1) := by decide +kernel
theorem dX2_growOlder_0 : decode cX2_growOlder 0 = .ok (.aload_n 0, 1) := by decide +kernel
theorem dX2_growOlder_1 : decode cX2_growOlder 1 = .ok (.getfield 21, 3) := by decide +kernel
theorem dX2_growOlder_4 : decode cX2_growOlder 4 = .ok (.iconst 1, 1) := by decide +kernel
theorem dX2_growOlder_5 : decode cX2_growOlder 5 = .ok (.isub, 1) := by decide +kernel
theorem dX2_growOlder_6 : decode cX2_growOlder 6 = .ok (.istore_n 2, 1) := by decide +kernel
theorem dX2_growOlder_7 : decode cX2_growOlder 7 = .ok (.iload_n 2, 1) := by decide +kernel
theorem dX2_growOlder_8 : decode cX2_growOlder 8 = .ok (.ifCond .lt 35, 3) := by decide +kernel
theorem dX2_growOlder_11 : decode cX2_growOlder 11 = .ok (.aload_n 0, 1) := by decide +kernel
theorem dX2_growOlder_12 : decode cX2_growOlder 12 = .ok (.getfield 18, 3) := by decide +kernel
theorem dX2_growOlder_15 : decode cX2_growOlder 15 = .ok (.iload_n 2, 1) := by decide +kernel
theorem dX2_growOlder_16 : decode cX2_growOlder 16 = .ok (.dup2, 1) := by decide +kernel
theorem dX2_growOlder_17 : decode cX2_growOlder 17 = .ok (.iaload, 1) := by decide +kernel
theorem dX2_growOlder_18 : decode cX2_growOlder 18 = .ok (.iload_n 1, 1) := by decide +kernel
theorem dX2_growOlder_19 : decode cX2_growOlder 19 = .ok (.iadd, 1) := by decide +kernel
theorem dX2_growOlder_20 : decode cX2_growOlder 20 = .ok (.iastore, 1) := by decide +kernel
theorem dX2_growOlder_21 : decode cX2_growOlder 21 = .ok (.aload_n 0, 1) := by decide +kernel
theorem dX2_growOlder_22 : decode cX2_growOlder 22 = .ok (.getfield 18, 3) := by decide +kernel
theorem dX2_growOlder_25 : decode cX2_growOlder 25 = .ok (.iload_n 2, 1) := by decide +kernel
theorem dX2_growOlder_26 : decode cX2_growOlder 26 = .ok (.iaload, 1) := by decide +kernel
theorem dX2_growOlder_27 : decode cX2_growOlder 27 = .ok (.bipush 10, 2) := by decide +kernel
theorem dX2_growOlder_29 : decode cX2_growOlder 29 = .ok (.if_icmp .lt 8, 3) := by decide +kernel
theorem dX2_growOlder_32 : decode cX2_growOlder 32 = .ok (.aload_n 0, 1) := by decide +kernel
theorem dX2_growOlder_33 : decode cX2_growOlder 33 = .ok (.iload_n 2, 1) := by decide +kernel
theorem dX2_growOlder_34 : decode cX2_growOlder 34 = .ok (.invokevirtual 41, 3) := by decide +kernel
theorem dX2_growOlder_37 : decode cX2_growOlder 37 = .ok (.iinc 2 (-1), 3) := by decide +kernel
theorem dX2_growOlder_40 : decode cX2_growOlder 40 = .ok (.goto (-33), 3) := by decide +kernel
theorem dX2_growOlder_43 : decode cX2_growOlder 43 = .ok (.return_, 1) := by decide +kernel
theorem dX3_init_0 : decode cX3_init 0 = .ok (.aload_n 0, 1) := by decide +kernel
theorem dX3_init_1 : decode cX3_init 1 = .ok (.invokespecial 3, 3) := by decide +kernel
theorem dX3_init_4 : decode cX3_init 4 = .ok (.aload_n 0, 1) := by decide +kernel
theorem dX3_init_5 : decode cX3_init 5 = .ok (.iconst 4, 1) := by decide +kernel
theorem dX3_init_6 : decode cX3_init 6 = .ok (.newarray .int, 2) := by decide +kernel
theorem dX3_init_8 : decode cX3_init 8 = .ok (.putfield 9, 3) := by decide +kernel
theorem dX3_init_11 : decode cX3_init 11 = .ok (.aload_n 0, 1) := by decide +kernel
theorem dX3_init_12 : decode cX3_init 12 = .ok (.iconst 4, 1) := by decide +kernel
theorem dX3_init_13 : decode cX3_init 13 = .ok (.newarray .int, 2) := by decide +kernel
theorem dX3_init_15 : decode cX3_init 15 = .ok (.putfield 15, 3) := by decide +kernel
theorem dX3_init_18 : decode cX3_init 18 = .ok (.aload_n 0, 1) := by decide +kernel
theorem dX3_init_19 : decode cX3_init 19 = .ok (.iconst 4, 1) := by decide +kernel
theorem dX3_init_20 : decode cX3_init 20 = .ok (.newarray .boolean, 2) := by decide +kernel
theorem dX3_init_22 : decode cX3_init 22 = .ok (.putfield 18, 3) := by decide +kernel
theorem dX3_init_25 : decode cX3_init 25 = .ok (.aload_n 0, 1) := by decide +kernel
theorem dX3_init_26 : decode cX3_init 26 = .ok (.iconst 0, 1) := by decide +kernel
theorem dX3_init_27 : decode cX3_init 27 = .ok (.putfield 22, 3) := by decide +kernel
theorem dX3_init_30 : decode cX3_init 30 = .ok (.return_, 1) := by decide +kernel
theorem dX3_fill_0 : decode cX3_fill 0 = .ok (.aload_n 1, 1) := by decide +kernel
theorem dX3_fill_1 : decode cX3_fill 1 = .ok (.iload_n 2, 1) := by decide +kernel
theorem dX3_fill_2 : decode cX3_fill 2 = .ok (.invokevirtual 26, 3) := by decide +kernel
theorem dX3_fill_5 : decode cX3_fill 5 = .ok (.iconst 2, 1) := by decide +kernel
theorem dX3_fill_6 : decode cX3_fill 6 = .ok (.idiv, 1) := by decide +kernel
theorem dX3_fill_7 : decode cX3_fill 7 = .ok (.istore_n 3, 1) := by decide +kernel
theorem dX3_fill_8 : decode cX3_fill 8 = .ok (.aload_n 1, 1) := by decide +kernel
theorem dX3_fill_9 : decode cX3_fill 9 = .ok (.iload_n 2, 1) := by decide +kernel
theorem dX3_fill_10 : decode cX3_fill 10 = .ok (.iconst 0, 1) := by decide +kernel
theorem dX3_fill_11 : decode cX3_fill 11 = .ok (.invokevirtual 32, 3) := by decide +kernel
theorem dX3_fill_14 : decode cX3_fill 14 = .ok (.istore 4, 2) := by decide +kernel
theorem dX3_fill_16 : decode cX3_fill 16 = .ok (.iconst 1, 1) := by decide +kernel
theorem dX3_fill_17 : decode cX3_fill 17 = .ok (.istore 5, 2) := by decide +kernel
theorem dX3_fill_19 : decode cX3_fill 19 = .ok (.iload 4, 2) := by decide +kernel
theorem dX3_fill_21 : decode cX3_fill 21 = .ok (.sipush 373, 3) := by decide +kernel
theorem dX3_fill_24 : decode cX3_fill 24 = .ok (.if_icmp .lt 12, 3) := by decide +kernel
theorem dX3_fill_27 : decode cX3_fill 27 = .ok (.iinc 4 (-373), 6) := by decide +kernel
theorem dX3_fill_33 : decode cX3_fill 33 = .ok (.iconst 0, 1) := by decide +kernel
theorem dX3_fill_34 : decode cX3_fill 34 = .ok (.istore 5, 2) := by decide +kernel
theorem dX3_fill_36 : decode cX3_fill 36 = .ok (.aload_n 0, 1) := by decide +kernel
theorem dX3_fill_37 : decode cX3_fill 37 = .ok (.iconst 0, 1) := by decide +kernel
theorem dX3_fill_38 : decode cX3_fill 38 = .ok (.putfield 22, 3) := by decide +kernel
theorem dX3_fill_41 : decode cX3_fill 41 = .ok (.aload_n 0, 1) := by decide +kernel
theorem dX3_fill_42 : decode cX3_fill 42 = .ok (.getfield 22, 3) := by decide +kernel
theorem dX3_fill_45 : decode cX3_fill 45 = .ok (.iconst 4, 1) := by decide +kernel
theorem dX3_fill_46 : decode cX3_fill 46 = .ok (.if_icmp .ge 106, 3) := by decide +kernel
theorem dX3_fill_49 : decode cX3_fill 49 = .ok (.iload 4, 2) := by decide +kernel
theorem dX3_fill_51 : decode cX3_fill 51 = .ok (.sipush 1440, 3) := by decide +kernel
theorem dX3_fill_54 : decode cX3_fill 54 = .ok (.if_icmp .ge 98, 3) := by decide +kernel
theorem dX3_fill_57 : decode cX3_fill 57 = .ok (.aload_n 0, 1) := by decide +kernel
theorem dX3_fill_58 : decode cX3_fill 58 = .ok (.getfield 9, 3) := by decide +kernel
theorem dX3_fill_61 : decode cX3_fill 61 = .ok (.aload_n 0, 1) := by decide +kernel
theorem dX3_fill_62 : decode cX3_fill 62 = .ok (.getfield 22, 3) := by decide +kernel
theorem dX3_fill_65 : decode cX3_fill 65 = .ok (.iload 4, 2) := by decide +kernel
theorem dX3_fill_67 : decode cX3_fill 67 = .ok (.iastore, 1) := by decide +kernel
theorem dX3_fill_68 : decode cX3_fill 68 = .ok (.aload_n 0, 1) := by decide +kernel
theorem dX3_fill_69 : decode cX3_fill 69 = .ok (.getfield 15, 3) := by decide +kernel
theorem dX3_fill_72 : decode cX3_fill 72 = .ok (.aload_n 0, 1) := by decide +kernel
theorem dX3_fill_73 : decode cX3_fill 73 = .ok (.getfield 22, 3) := by decide +kernel
theorem dX3_fill_76 : decode cX3_fill 76 = .ok (.iload 5, 2) := by decide +kernel
theorem dX3_fill_78 : decode cX3_fill 78 = .ok (.ifCond .eq 12, 3) := by decide +kernel
theorem dX3_fill_81 : decode cX3_fill 81 = .ok (.aload_n 1, 1) := by decide +kernel
theorem dX3_fill_82 : decode cX3_fill 82 = .ok (.getfield 36, 3) := by decide +kernel
theorem dX3_fill_85 : decode cX3_fill 85 = .ok (.iload_n 3, 1) := by decide +kernel
theorem dX3_fill_86 : decode cX3_fill 86 = .ok (.iadd, 1) := by decide +kernel
theorem dX3_fill_87 : decode cX3_fill 87 = .ok (.goto 9, 3) := by decide +kernel
theorem dX3_fill_90 : decode cX3_fill 90 = .ok (.aload_n 1, 1) := by decide +kernel
theorem dX3_fill_91 : decode cX3_fill 91 = .ok (.getfield 36, 3) := by decide +kernel
theorem dX3_fill_94 : decode cX3_fill 94 = .ok (.iload_n 3, 1) := by decide +kernel
theorem dX3_fill_95 : decode cX3_fill 95 = .ok (.isub, 1) := by decide +kernel
theorem dX3_fill_96 : decode cX3_fill 96 = .ok (.iastore, 1) := by decide +kernel
theorem dX3_fill_97 : decode cX3_fill 97 = .ok (.aload_n 0, 1) := by decide +kernel
theorem dX3_fill_98 : decode cX3_fill 98 = .ok (.getfield 18, 3) := by decide +kernel
theorem dX3_fill_101 : decode cX3_fill 101 = .ok (.aload_n 0, 1) := by decide +kernel
theorem dX3_fill_102 : decode cX3_fill 102 = .ok (.getfield 22, 3) := by decide +kernel
theorem dX3_fill_105 : decode cX3_fill 105 = .ok (.iload 5, 2) := by decide +kernel
theorem dX3_fill_107 : decode cX3_fill 107 = .ok (.bastore, 1) := by decide +kernel
theorem dX3_fill_108 : decode cX3_fill 108 = .ok (.aload_n 0, 1) := by decide +kernel
theorem dX3_fill_109 : decode cX3_fill 109 = .ok (.dup, 1) := by decide +kernel
theorem dX3_fill_110 : decode cX3_fill 110 = .ok (.getfield 22, 3) := by decide +kernel
theorem dX3_fill_113 : decode cX3_fill 113 = .ok (.iconst 1, 1) := by decide +kernel
theorem dX3_fill_114 : decode cX3_fill 114 = .ok (.iadd, 1) := by decide +kernel
theorem dX3_fill_115 : decode cX3_fill 115 = .ok (.putfield 22, 3) := by decide +kernel
theorem dX3_fill_118 : decode cX3_fill 118 = .ok (.iload 4, 2) := by decide +kernel
theorem dX3_fill_120 : decode cX3_fill 120 = .ok (.iload 5, 2) := by decide +kernel
theorem dX3_fill_122 : decode cX3_fill 122 = .ok (.ifCond .eq 9, 3) := by decide +kernel
theorem dX3_fill_125 : decode cX3_fill 125 = .ok (.sipush 372, 3) := by decide +kernel
theorem dX3_fill_128 : decode cX3_fill 128 = .ok (.goto 6, 3) := by decide +kernel
theorem dX3_fill_131 : decode cX3_fill 131 = .ok (.sipush 373, 3) := by decide +kernel
theorem dX3_fill_134 : decode cX3_fill 134 = .ok (.iadd, 1) := by decide +kernel
theorem dX3_fill_135 : decode cX3_fill 135 = .ok (.istore 4, 2) := by decide +kernel
theorem dX3_fill_137 : decode cX3_fill 137 = .ok (.iload 5, 2) := by decide +kernel
theorem dX3_fill_139 : decode cX3_fill 139 = .ok (.ifCond .ne 7, 3) := by decide +kernel
theorem dX3_fill_142 : decode cX3_fill 142 = .ok (.iconst 1, 1) := by decide +kernel
theorem dX3_fill_143 : decode cX3_fill 143 = .ok (.goto 4, 3) := by decide +kernel
theorem dX3_fill_146 : decode cX3_fill 146 = .ok (.iconst 0, 1) := by decide +kernel
theorem dX3_fill_147 : decode cX3_fill 147 = .ok (.istore 5, 2) := by decide +kernel
theorem dX3_fill_149 : decode cX3_fill 149 = .ok (.goto (-108), 3) := by decide +kernel
theorem dX3_fill_152 : decode cX3_fill 152 = .ok (.return_, 1) := by decide +kernel
theorem dX3_matches_0 : decode cX3_matches 0 = .ok (.aload_n 0, 1) := by decide +kernel
theorem dX3_matches_1 : decode cX3_matches 1 = .ok (.getfield 22, 3) := by decide +kernel
theorem dX3_matches_4 : decode cX3_matches 4 = .ok (.aload_n 1, 1) := by decide +kernel
theorem dX3_matches_5 : decode cX3_matches 5 = .ok (.getfield 22, 3) := by decide +kernel
theorem dX3_matches_8 : decode cX3_matches 8 = .ok (.if_icmp .eq 5, 3) := by decide +kernel
theorem dX3_matches_11 : decode cX3_matches 11 = .ok (.iconst 0, 1) := by decide +kernel
theorem dX3_matches_12 : decode cX3_matches 12 = .ok (.ireturn, 1) := by decide +kernel
theorem dX3_matches_13 : decode cX3_matches 13 = .ok (.iconst 0, 1) := by decide +kernel
theorem dX3_matches_14 : decode cX3_matches 14 = .ok (.istore_n 2, 1) := by decide +kernel
theorem dX3_matches_15 : decode cX3_matches 15 = .ok (.iload_n 2, 1) := by decide +kernel
theorem dX3_matches_16 : decode cX3_matches 16 = .ok (.aload_n 0, 1) := by decide +kernel
theorem dX3_matches_17 : decode cX3_matches 17 = .ok (.getfield 22, 3) := by decide +kernel
theorem dX3_matches_20 : decode cX3_matches 20 = .ok (.if_icmp .ge 56, 3) := by decide +kernel
theorem dX3_matches_23 : decode cX3_matches 23 = .ok (.aload_n 0, 1) := by decide +kernel
theorem dX3_matches_24 : decode cX3_matches 24 = .ok (.getfield 9, 3) := by decide +kernel
theorem dX3_matches_27 : decode cX3_matches 27 = .ok (.iload_n 2, 1) := by decide +kernel
theorem dX3_matches_28 : decode cX3_matches 28 = .ok (.iaload, 1) := by decide +kernel
theorem dX3_matches_29 : decode cX3_matches 29 = .ok (.aload_n 1, 1) := by decide +kernel
theorem dX3_matches_30 : decode cX3_matches 30 = .ok (.getfield 9, 3) := by decide +kernel
theorem dX3_matches_33 : decode cX3_matches 33 = .ok (.iload_n 2, 1) := by decide +kernel
theorem dX3_matches_34 : decode cX3_matches 34 = .ok (.iaload, 1) := by decide +kernel
theorem dX3_matches_35 : decode cX3_matches 35 = .ok (.if_icmp .ne 33, 3) := by decide +kernel
theorem dX3_matches_38 : decode cX3_matches 38 = .ok (.aload_n 0, 1) := by decide +kernel
theorem dX3_matches_39 : decode cX3_matches 39 = .ok (.getfield 15, 3) := by decide +kernel
theorem dX3_matches_42 : decode cX3_matches 42 = .ok (.iload_n 2, 1) := by decide +kernel
theorem dX3_matches_43 : decode cX3_matches 43 = .ok (.iaload, 1) := by decide +kernel
theorem dX3_matches_44 : decode cX3_matches 44 = .ok (.aload_n 1, 1) := by decide +kernel
theorem dX3_matches_45 : decode cX3_matches 45 = .ok (.getfield 15, 3) := by decide +kernel
theorem dX3_matches_48 : decode cX3_matches 48 = .ok (.iload_n 2, 1) := by decide +kernel
theorem dX3_matches_49 : decode cX3_matches 49 = .ok (.iaload, 1) := by decide +kernel
theorem dX3_matches_50 : decode cX3_matches 50 = .ok (.if_icmp .ne 18, 3) := by decide +kernel
theorem dX3_matches_53 : decode cX3_matches 53 = .ok (.aload_n 0, 1) := by decide +kernel
theorem dX3_matches_54 : decode cX3_matches 54 = .ok (.getfield 18, 3) := by decide +kernel
theorem dX3_matches_57 : decode cX3_matches 57 = .ok (.iload_n 2, 1) := by decide +kernel
theorem dX3_matches_58 : decode cX3_matches 58 = .ok (.baload, 1) := by decide +kernel
theorem dX3_matches_59 : decode cX3_matches 59 = .ok (.aload_n 1, 1) := by decide +kernel
theorem dX3_matches_60 : decode cX3_matches 60 = .ok (.getfield 18, 3) := by decide +kernel
theorem dX3_matches_63 : decode cX3_matches 63 = .ok (.iload_n 2, 1) := by decide +kernel
theorem dX3_matches_64 : decode cX3_matches 64 = .ok (.baload, 1) := by decide +kernel
theorem dX3_matches_65 : decode cX3_matches 65 = .ok (.if_icmp .eq 5, 3) := by decide +kernel
theorem dX3_matches_68 : decode cX3_matches 68 = .ok (.iconst 0, 1) := by decide +kernel
theorem dX3_matches_69 : decode cX3_matches 69 = .ok (.ireturn, 1) := by decide +kernel
theorem dX3_matches_70 : decode cX3_matches 70 = .ok (.iinc 2 1, 3) := by decide +kernel
theorem dX3_matches_73 : decode cX3_matches 73 = .ok (.goto (-58), 3) := by decide +kernel
theorem dX3_matches_76 : decode cX3_matches 76 = .ok (.iconst 1, 1) := by decide +kernel
theorem dX3_matches_77 : decode cX3_matches 77 = .ok (.ireturn, 1) := by decide +kernel
theorem dX4_init_0 : decode cX4_init 0 = .ok (.aload_n 0, 1) := by decide +kernel
theorem dX4_init_1 : decode cX4_init 1 = .ok (.invokespecial 3, 3) := by decide +kernel
theorem dX4_init_4 : decode cX4_init 4 = .ok (.aload_n 0, 1) := by decide +kernel
theorem dX4_init_5 : decode cX4_init 5 = .ok (.bipush 12, 2) := by decide +kernel
theorem dX4_init_7 : decode cX4_init 7 = .ok (.newarray .int, 2) := by decide +kernel
theorem dX4_init_9 : decode cX4_init 9 = .ok (.putfield 9, 3) := by decide +kernel
theorem dX4_init_12 : decode cX4_init 12 = .ok (.aload_n 0, 1) := by decide +kernel
theorem dX4_init_13 : decode cX4_init 13 = .ok (.iconst 0, 1) := by decide +kernel
theorem dX4_init_14 : decode cX4_init 14 = .ok (.putfield 15, 3) := by decide +kernel
theorem dX4_init_17 : decode cX4_init 17 = .ok (.aload_n 0, 1) := by decide +kernel
theorem dX4_init_18 : decode cX4_init 18 = .ok (.iconst 0, 1) := by decide +kernel
theorem dX4_init_19 : decode cX4_init 19 = .ok (.putfield 19, 3) := by decide +kernel
theorem dX4_init_22 : decode cX4_init 22 = .ok (.return_, 1) := by decide +kernel
theorem dX4_add_0 : decode cX4_add 0 = .ok (.aload_n 0, 1) := by decide +kernel
theorem dX4_add_1 : decode cX4_add 1 = .ok (.getfield 15, 3) := by decide +kernel
theorem dX4_add_4 : decode cX4_add 4 = .ok (.bipush 12, 2) := by decide +kernel
theorem dX4_add_6 : decode cX4_add 6 = .ok (.if_icmp .ge 23, 3) := by decide +kernel
theorem dX4_add_9 : decode cX4_add 9 = .ok (.aload_n 0, 1) := by decide +kernel
theorem dX4_add_10 : decode cX4_add 10 = .ok (.getfield 9, 3) := by decide +kernel
theorem dX4_add_13 : decode cX4_add 13 = .ok (.aload_n 0, 1) := by decide +kernel
theorem dX4_add_14 : decode cX4_add 14 = .ok (.getfield 15, 3) := by decide +kernel
theorem dX4_add_17 : decode cX4_add 17 = .ok (.iload_n 1, 1) := by decide +kernel
theorem dX4_add_18 : decode cX4_add 18 = .ok (.iastore, 1) := by decide +kernel
theorem dX4_add_19 : decode cX4_add 19 = .ok (.aload_n 0, 1) := by decide +kernel
theorem dX4_add_20 : decode cX4_add 20 = .ok (.dup, 1) := by decide +kernel
theorem dX4_add_21 : decode cX4_add 21 = .ok (.getfield 15, 3) := by decide +kernel
theorem dX4_add_24 : decode cX4_add 24 = .ok (.iconst 1, 1) := by decide +kernel
theorem dX4_add_25 : decode cX4_add 25 = .ok (.iadd, 1) := by decide +kernel
theorem dX4_add_26 : decode cX4_add 26 = .ok (.putfield 15, 3) := by decide +kernel
theorem dX4_add_29 : decode cX4_add 29 = .ok (.return_, 1) := by decide +kernel
theorem dX4_inOldest_0 : decode cX4_inOldest 0 = .ok (.iconst 0, 1) := by decide +kernel
theorem dX4_inOldest_1 : decode cX4_inOldest 1 = .ok (.istore_n 2, 1) := by decide +kernel
theorem dX4_inOldest_2 : decode cX4_inOldest 2 = .ok (.iconst 0, 1) := by decide +kernel
