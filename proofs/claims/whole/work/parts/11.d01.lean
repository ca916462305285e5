theorem dX4_inOldest_3 : decode cX4_inOldest 3 = .ok (.istore_n 3, 1) := by decide +kernel
theorem dX4_inOldest_4 : decode cX4_inOldest 4 = .ok (.iload_n 3, 1) := by decide +kernel
theorem dX4_inOldest_5 : decode cX4_inOldest 5 = .ok (.iload_n 1, 1) := by decide +kernel
theorem dX4_inOldest_6 : decode cX4_inOldest 6 = .ok (.if_icmp .ge 18, 3) := by decide +kernel
theorem dX4_inOldest_9 : decode cX4_inOldest 9 = .ok (.iload_n 2, 1) := by decide +kernel
theorem dX4_inOldest_10 : decode cX4_inOldest 10 = .ok (.aload_n 0, 1) := by decide +kernel
theorem dX4_inOldest_11 : decode cX4_inOldest 11 = .ok (.getfield 9, 3) := by decide +kernel
theorem dX4_inOldest_14 : decode cX4_inOldest 14 = .ok (.iload_n 3, 1) := by decide +kernel
theorem dX4_inOldest_15 : decode cX4_inOldest 15 = .ok (.iaload, 1) := by decide +kernel
theorem dX4_inOldest_16 : decode cX4_inOldest 16 = .ok (.iadd, 1) := by decide +kernel
theorem dX4_inOldest_17 : decode cX4_inOldest 17 = .ok (.istore_n 2, 1) := by decide +kernel
theorem dX4_inOldest_18 : decode cX4_inOldest 18 = .ok (.iinc 3 1, 3) := by decide +kernel
theorem dX4_inOldest_21 : decode cX4_inOldest 21 = .ok (.goto (-17), 3) := by decide +kernel
theorem dX4_inOldest_24 : decode cX4_inOldest 24 = .ok (.iload_n 2, 1) := by decide +kernel
theorem dX4_inOldest_25 : decode cX4_inOldest 25 = .ok (.ireturn, 1) := by decide +kernel
theorem dX4_take_0 : decode cX4_take 0 = .ok (.aload_n 0, 1) := by decide +kernel
theorem dX4_take_1 : decode cX4_take 1 = .ok (.iload_n 1, 1) := by decide +kernel
theorem dX4_take_2 : decode cX4_take 2 = .ok (.invokevirtual 22, 3) := by decide +kernel
theorem dX4_take_5 : decode cX4_take 5 = .ok (.istore_n 2, 1) := by decide +kernel
theorem dX4_take_6 : decode cX4_take 6 = .ok (.iload_n 2, 1) := by decide +kernel
theorem dX4_take_7 : decode cX4_take 7 = .ok (.iconst (-1), 1) := by decide +kernel
theorem dX4_take_8 : decode cX4_take 8 = .ok (.if_icmp .ne 5, 3) := by decide +kernel
theorem dX4_take_11 : decode cX4_take 11 = .ok (.iconst 0, 1) := by decide +kernel
theorem dX4_take_12 : decode cX4_take 12 = .ok (.ireturn, 1) := by decide +kernel
theorem dX4_take_13 : decode cX4_take 13 = .ok (.aload_n 0, 1) := by decide +kernel
theorem dX4_take_14 : decode cX4_take 14 = .ok (.dup, 1) := by decide +kernel
theorem dX4_take_15 : decode cX4_take 15 = .ok (.getfield 19, 3) := by decide +kernel
theorem dX4_take_18 : decode cX4_take 18 = .ok (.aload_n 0, 1) := by decide +kernel
theorem dX4_take_19 : decode cX4_take 19 = .ok (.iload_n 2, 1) := by decide +kernel
theorem dX4_take_20 : decode cX4_take 20 = .ok (.invokevirtual 26, 3) := by decide +kernel
theorem dX4_take_23 : decode cX4_take 23 = .ok (.iadd, 1) := by decide +kernel
theorem dX4_take_24 : decode cX4_take 24 = .ok (.putfield 19, 3) := by decide +kernel
theorem dX4_take_27 : decode cX4_take 27 = .ok (.aload_n 0, 1) := by decide +kernel
theorem dX4_take_28 : decode cX4_take 28 = .ok (.getfield 9, 3) := by decide +kernel
theorem dX4_take_31 : decode cX4_take 31 = .ok (.iload_n 2, 1) := by decide +kernel
theorem dX4_take_32 : decode cX4_take 32 = .ok (.dup2, 1) := by decide +kernel
theorem dX4_take_33 : decode cX4_take 33 = .ok (.iaload, 1) := by decide +kernel
theorem dX4_take_34 : decode cX4_take 34 = .ok (.iload_n 1, 1) := by decide +kernel
theorem dX4_take_35 : decode cX4_take 35 = .ok (.isub, 1) := by decide +kernel
theorem dX4_take_36 : decode cX4_take 36 = .ok (.iastore, 1) := by decide +kernel
theorem dX4_take_37 : decode cX4_take 37 = .ok (.aload_n 0, 1) := by decide +kernel
theorem dX4_take_38 : decode cX4_take 38 = .ok (.aload_n 0, 1) := by decide +kernel
theorem dX4_take_39 : decode cX4_take 39 = .ok (.getfield 9, 3) := by decide +kernel
theorem dX4_take_42 : decode cX4_take 42 = .ok (.iload_n 2, 1) := by decide +kernel
theorem dX4_take_43 : decode cX4_take 43 = .ok (.iaload, 1) := by decide +kernel
theorem dX4_take_44 : decode cX4_take 44 = .ok (.ifCond .ne 9, 3) := by decide +kernel
theorem dX4_take_47 : decode cX4_take 47 = .ok (.iload_n 2, 1) := by decide +kernel
theorem dX4_take_48 : decode cX4_take 48 = .ok (.iconst 1, 1) := by decide +kernel
theorem dX4_take_49 : decode cX4_take 49 = .ok (.iadd, 1) := by decide +kernel
theorem dX4_take_50 : decode cX4_take 50 = .ok (.goto 4, 3) := by decide +kernel
theorem dX4_take_53 : decode cX4_take 53 = .ok (.iload_n 2, 1) := by decide +kernel
theorem dX4_take_54 : decode cX4_take 54 = .ok (.invokevirtual 29, 3) := by decide +kernel
theorem dX4_take_57 : decode cX4_take 57 = .ok (.iconst 1, 1) := by decide +kernel
theorem dX4_take_58 : decode cX4_take 58 = .ok (.ireturn, 1) := by decide +kernel
theorem dX4_oldestWith_0 : decode cX4_oldestWith 0 = .ok (.iconst 0, 1) := by decide +kernel
theorem dX4_oldestWith_1 : decode cX4_oldestWith 1 = .ok (.istore_n 2, 1) := by decide +kernel
theorem dX4_oldestWith_2 : decode cX4_oldestWith 2 = .ok (.iload_n 2, 1) := by decide +kernel
theorem dX4_oldestWith_3 : decode cX4_oldestWith 3 = .ok (.aload_n 0, 1) := by decide +kernel
theorem dX4_oldestWith_4 : decode cX4_oldestWith 4 = .ok (.getfield 15, 3) := by decide +kernel
theorem dX4_oldestWith_7 : decode cX4_oldestWith 7 = .ok (.if_icmp .ge 21, 3) := by decide +kernel
theorem dX4_oldestWith_10 : decode cX4_oldestWith 10 = .ok (.aload_n 0, 1) := by decide +kernel
theorem dX4_oldestWith_11 : decode cX4_oldestWith 11 = .ok (.getfield 9, 3) := by decide +kernel
theorem dX4_oldestWith_14 : decode cX4_oldestWith 14 = .ok (.iload_n 2, 1) := by decide +kernel
theorem dX4_oldestWith_15 : decode cX4_oldestWith 15 = .ok (.iaload, 1) := by decide +kernel
theorem dX4_oldestWith_16 : decode cX4_oldestWith 16 = .ok (.iload_n 1, 1) := by decide +kernel
theorem dX4_oldestWith_17 : decode cX4_oldestWith 17 = .ok (.if_icmp .lt 5, 3) := by decide +kernel
theorem dX4_oldestWith_20 : decode cX4_oldestWith 20 = .ok (.iload_n 2, 1) := by decide +kernel
theorem dX4_oldestWith_21 : decode cX4_oldestWith 21 = .ok (.ireturn, 1) := by decide +kernel
theorem dX4_oldestWith_22 : decode cX4_oldestWith 22 = .ok (.iinc 2 1, 3) := by decide +kernel
theorem dX4_oldestWith_25 : decode cX4_oldestWith 25 = .ok (.goto (-23), 3) := by decide +kernel
theorem dX4_oldestWith_28 : decode cX4_oldestWith 28 = .ok (.iconst (-1), 1) := by decide +kernel
theorem dX4_oldestWith_29 : decode cX4_oldestWith 29 = .ok (.ireturn, 1) := by decide +kernel
theorem dX4_removeOldest_0 : decode cX4_removeOldest 0 = .ok (.iload_n 1, 1) := by decide +kernel
theorem dX4_removeOldest_1 : decode cX4_removeOldest 1 = .ok (.istore_n 2, 1) := by decide +kernel
theorem dX4_removeOldest_2 : decode cX4_removeOldest 2 = .ok (.iload_n 2, 1) := by decide +kernel
theorem dX4_removeOldest_3 : decode cX4_removeOldest 3 = .ok (.aload_n 0, 1) := by decide +kernel
theorem dX4_removeOldest_4 : decode cX4_removeOldest 4 = .ok (.getfield 15, 3) := by decide +kernel
theorem dX4_removeOldest_7 : decode cX4_removeOldest 7 = .ok (.if_icmp .ge 23, 3) := by decide +kernel
theorem dX4_removeOldest_10 : decode cX4_removeOldest 10 = .ok (.aload_n 0, 1) := by decide +kernel
theorem dX4_removeOldest_11 : decode cX4_removeOldest 11 = .ok (.getfield 9, 3) := by decide +kernel
theorem dX4_removeOldest_14 : decode cX4_removeOldest 14 = .ok (.iload_n 2, 1) := by decide +kernel
theorem dX4_removeOldest_15 : decode cX4_removeOldest 15 = .ok (.iload_n 1, 1) := by decide +kernel
theorem dX4_removeOldest_16 : decode cX4_removeOldest 16 = .ok (.isub, 1) := by decide +kernel
theorem dX4_removeOldest_17 : decode cX4_removeOldest 17 = .ok (.aload_n 0, 1) := by decide +kernel
theorem dX4_removeOldest_18 : decode cX4_removeOldest 18 = .ok (.getfield 9, 3) := by decide +kernel
theorem dX4_removeOldest_21 : decode cX4_removeOldest 21 = .ok (.iload_n 2, 1) := by decide +kernel
theorem dX4_removeOldest_22 : decode cX4_removeOldest 22 = .ok (.iaload, 1) := by decide +kernel
theorem dX4_removeOldest_23 : decode cX4_removeOldest 23 = .ok (.iastore, 1) := by decide +kernel
theorem dX4_removeOldest_24 : decode cX4_removeOldest 24 = .ok (.iinc 2 1, 3) := by decide +kernel
theorem dX4_removeOldest_27 : decode cX4_removeOldest 27 = .ok (.goto (-25), 3) := by decide +kernel
theorem dX4_removeOldest_30 : decode cX4_removeOldest 30 = .ok (.aload_n 0, 1) := by decide +kernel
theorem dX4_removeOldest_31 : decode cX4_removeOldest 31 = .ok (.dup, 1) := by decide +kernel
theorem dX4_removeOldest_32 : decode cX4_removeOldest 32 = .ok (.getfield 15, 3) := by decide +kernel
theorem dX4_removeOldest_35 : decode cX4_removeOldest 35 = .ok (.iload_n 1, 1) := by decide +kernel
theorem dX4_removeOldest_36 : decode cX4_removeOldest 36 = .ok (.isub, 1) := by decide +kernel
theorem dX4_removeOldest_37 : decode cX4_removeOldest 37 = .ok (.putfield 15, 3) := by decide +kernel
theorem dX4_removeOldest_40 : decode cX4_removeOldest 40 = .ok (.return_, 1) := by decide +kernel
theorem dX5_init_0 : decode cX5_init 0 = .ok (.aload_n 0, 1) := by decide +kernel
theorem dX5_init_1 : decode cX5_init 1 = .ok (.invokespecial 3, 3) := by decide +kernel
theorem dX5_init_4 : decode cX5_init 4 = .ok (.aload_n 0, 1) := by decide +kernel
theorem dX5_init_5 : decode cX5_init 5 = .ok (.bipush 6, 2) := by decide +kernel
theorem dX5_init_7 : decode cX5_init 7 = .ok (.anewarray 9, 3) := by decide +kernel
theorem dX5_init_10 : decode cX5_init 10 = .ok (.putfield 11, 3) := by decide +kernel
theorem dX5_init_13 : decode cX5_init 13 = .ok (.aload_n 0, 1) := by decide +kernel
theorem dX5_init_14 : decode cX5_init 14 = .ok (.iconst 0, 1) := by decide +kernel
theorem dX5_init_15 : decode cX5_init 15 = .ok (.putfield 15, 3) := by decide +kernel
theorem dX5_init_18 : decode cX5_init 18 = .ok (.aload_n 0, 1) := by decide +kernel
theorem dX5_init_19 : decode cX5_init 19 = .ok (.bipush 6, 2) := by decide +kernel
theorem dX5_init_21 : decode cX5_init 21 = .ok (.newarray .int, 2) := by decide +kernel
theorem dX5_init_23 : decode cX5_init 23 = .ok (.putfield 19, 3) := by decide +kernel
theorem dX5_init_26 : decode cX5_init 26 = .ok (.aload_n 0, 1) := by decide +kernel
theorem dX5_init_27 : decode cX5_init 27 = .ok (.bipush 6, 2) := by decide +kernel
theorem dX5_init_29 : decode cX5_init 29 = .ok (.newarray .int, 2) := by decide +kernel
theorem dX5_init_31 : decode cX5_init 31 = .ok (.putfield 23, 3) := by decide +kernel
theorem dX5_init_34 : decode cX5_init 34 = .ok (.aload_n 0, 1) := by decide +kernel
theorem dX5_init_35 : decode cX5_init 35 = .ok (.new 26, 3) := by decide +kernel
theorem dX5_init_38 : decode cX5_init 38 = .ok (.dup, 1) := by decide +kernel
theorem dX5_init_39 : decode cX5_init 39 = .ok (.invokespecial 28, 3) := by decide +kernel
theorem dX5_init_42 : decode cX5_init 42 = .ok (.putfield 29, 3) := by decide +kernel
theorem dX5_init_45 : decode cX5_init 45 = .ok (.aload_n 0, 1) := by decide +kernel
theorem dX5_init_46 : decode cX5_init 46 = .ok (.new 26, 3) := by decide +kernel
theorem dX5_init_49 : decode cX5_init 49 = .ok (.dup, 1) := by decide +kernel
theorem dX5_init_50 : decode cX5_init 50 = .ok (.invokespecial 28, 3) := by decide +kernel
theorem dX5_init_53 : decode cX5_init 53 = .ok (.putfield 33, 3) := by decide +kernel
theorem dX5_init_56 : decode cX5_init 56 = .ok (.aload_n 0, 1) := by decide +kernel
theorem dX5_init_57 : decode cX5_init 57 = .ok (.new 36, 3) := by decide +kernel
theorem dX5_init_60 : decode cX5_init 60 = .ok (.dup, 1) := by decide +kernel
theorem dX5_init_61 : decode cX5_init 61 = .ok (.invokespecial 38, 3) := by decide +kernel
theorem dX5_init_64 : decode cX5_init 64 = .ok (.putfield 39, 3) := by decide +kernel
theorem dX5_init_67 : decode cX5_init 67 = .ok (.aload_n 0, 1) := by decide +kernel
theorem dX5_init_68 : decode cX5_init 68 = .ok (.iconst 0, 1) := by decide +kernel
theorem dX5_init_69 : decode cX5_init 69 = .ok (.putfield 43, 3) := by decide +kernel
theorem dX5_init_72 : decode cX5_init 72 = .ok (.aload_n 0, 1) := by decide +kernel
theorem dX5_init_73 : decode cX5_init 73 = .ok (.iconst (-1), 1) := by decide +kernel
theorem dX5_init_74 : decode cX5_init 74 = .ok (.putfield 46, 3) := by decide +kernel
theorem dX5_init_77 : decode cX5_init 77 = .ok (.aload_n 0, 1) := by decide +kernel
theorem dX5_init_78 : decode cX5_init 78 = .ok (.iconst 0, 1) := by decide +kernel
theorem dX5_init_79 : decode cX5_init 79 = .ok (.putfield 49, 3) := by decide +kernel
theorem dX5_init_82 : decode cX5_init 82 = .ok (.aload_n 0, 1) := by decide +kernel
theorem dX5_init_83 : decode cX5_init 83 = .ok (.iconst 0, 1) := by decide +kernel
theorem dX5_init_84 : decode cX5_init 84 = .ok (.putfield 52, 3) := by decide +kernel
theorem dX5_init_87 : decode cX5_init 87 = .ok (.iconst 0, 1) := by decide +kernel
theorem dX5_init_88 : decode cX5_init 88 = .ok (.istore_n 1, 1) := by decide +kernel
theorem dX5_init_89 : decode cX5_init 89 = .ok (.iload_n 1, 1) := by decide +kernel
theorem dX5_init_90 : decode cX5_init 90 = .ok (.bipush 6, 2) := by decide +kernel
theorem dX5_init_92 : decode cX5_init 92 = .ok (.if_icmp .ge 16, 3) := by decide +kernel
theorem dX5_init_95 : decode cX5_init 95 = .ok (.aload_n 0, 1) := by decide +kernel
theorem dX5_init_96 : decode cX5_init 96 = .ok (.getfield 19, 3) := by decide +kernel
theorem dX5_init_99 : decode cX5_init 99 = .ok (.iload_n 1, 1) := by decide +kernel
theorem dX5_init_100 : decode cX5_init 100 = .ok (.iconst 5, 1) := by decide +kernel
theorem dX5_init_101 : decode cX5_init 101 = .ok (.iastore, 1) := by decide +kernel
theorem dX5_init_102 : decode cX5_init 102 = .ok (.iinc 1 1, 3) := by decide +kernel
theorem dX5_init_105 : decode cX5_init 105 = .ok (.goto (-16), 3) := by decide +kernel
theorem dX5_init_108 : decode cX5_init 108 = .ok (.iconst 0, 1) := by decide +kernel
theorem dX5_init_109 : decode cX5_init 109 = .ok (.istore_n 1, 1) := by decide +kernel
theorem dX5_init_110 : decode cX5_init 110 = .ok (.iload_n 1, 1) := by decide +kernel
theorem dX5_init_111 : decode cX5_init 111 = .ok (.bipush 6, 2) := by decide +kernel
theorem dX5_init_113 : decode cX5_init 113 = .ok (.if_icmp .ge 16, 3) := by decide +kernel
theorem dX5_init_116 : decode cX5_init 116 = .ok (.aload_n 0, 1) := by decide +kernel
theorem dX5_init_117 : decode cX5_init 117 = .ok (.getfield 23, 3) := by decide +kernel
theorem dX5_init_120 : decode cX5_init 120 = .ok (.iload_n 1, 1) := by decide +kernel
theorem dX5_init_121 : decode cX5_init 121 = .ok (.iconst (-1), 1) := by decide +kernel
theorem dX5_init_122 : decode cX5_init 122 = .ok (.iastore, 1) := by decide +kernel
theorem dX5_init_123 : decode cX5_init 123 = .ok (.iinc 1 1, 3) := by decide +kernel
theorem dX5_init_126 : decode cX5_init 126 = .ok (.goto (-16), 3) := by decide +kernel
theorem dX5_init_129 : decode cX5_init 129 = .ok (.return_, 1) := by decide +kernel
theorem dX5_addPier_0 : decode cX5_addPier 0 = .ok (.iload_n 1, 1) := by decide +kernel
theorem dX5_addPier_1 : decode cX5_addPier 1 = .ok (.iconst 0, 1) := by decide +kernel
theorem dX5_addPier_2 : decode cX5_addPier 2 = .ok (.sipush 744, 3) := by decide +kernel
theorem dX5_addPier_5 : decode cX5_addPier 5 = .ok (.invokestatic 55, 3) := by decide +kernel
theorem dX5_addPier_8 : decode cX5_addPier 8 = .ok (.iload_n 2, 1) := by decide +kernel
theorem dX5_addPier_9 : decode cX5_addPier 9 = .ok (.iconst 0, 1) := by decide +kernel
theorem dX5_addPier_10 : decode cX5_addPier 10 = .ok (.sipush 999, 3) := by decide +kernel
theorem dX5_addPier_13 : decode cX5_addPier 13 = .ok (.invokestatic 55, 3) := by decide +kernel
theorem dX5_addPier_16 : decode cX5_addPier 16 = .ok (.iload_n 3, 1) := by decide +kernel
theorem dX5_addPier_17 : decode cX5_addPier 17 = .ok (.iconst 0, 1) := by decide +kernel
theorem dX5_addPier_18 : decode cX5_addPier 18 = .ok (.sipush 999, 3) := by decide +kernel
theorem dX5_addPier_21 : decode cX5_addPier 21 = .ok (.invokestatic 55, 3) := by decide +kernel
theorem dX5_addPier_24 : decode cX5_addPier 24 = .ok (.iload 4, 2) := by decide +kernel
theorem dX5_addPier_26 : decode cX5_addPier 26 = .ok (.iconst 0, 1) := by decide +kernel
theorem dX5_addPier_27 : decode cX5_addPier 27 = .ok (.iload_n 3, 1) := by decide +kernel
theorem dX5_addPier_28 : decode cX5_addPier 28 = .ok (.invokestatic 55, 3) := by decide +kernel
theorem dX5_addPier_31 : decode cX5_addPier 31 = .ok (.iload 5, 2) := by decide +kernel
theorem dX5_addPier_33 : decode cX5_addPier 33 = .ok (.iconst 0, 1) := by decide +kernel
theorem dX5_addPier_34 : decode cX5_addPier 34 = .ok (.bipush 9, 2) := by decide +kernel
theorem dX5_addPier_36 : decode cX5_addPier 36 = .ok (.invokestatic 55, 3) := by decide +kernel
theorem dX5_addPier_39 : decode cX5_addPier 39 = .ok (.aload_n 0, 1) := by decide +kernel
theorem dX5_addPier_40 : decode cX5_addPier 40 = .ok (.getfield 15, 3) := by decide +kernel
theorem dX5_addPier_43 : decode cX5_addPier 43 = .ok (.bipush 6, 2) := by decide +kernel
theorem dX5_addPier_45 : decode cX5_addPier 45 = .ok (.if_icmp .lt 13, 3) := by decide +kernel
theorem dX5_addPier_48 : decode cX5_addPier 48 = .ok (.new 59, 3) := by decide +kernel
theorem dX5_addPier_51 : decode cX5_addPier 51 = .ok (.dup, 1) := by decide +kernel
theorem dX5_addPier_52 : decode cX5_addPier 52 = .ok (.ldc 61, 2) := by decide +kernel
theorem dX5_addPier_54 : decode cX5_addPier 54 = .ok (.invokespecial 63, 3) := by decide +kernel
theorem dX5_addPier_57 : decode cX5_addPier 57 = .ok (.athrow, 1) := by decide +kernel
theorem dX5_addPier_58 : decode cX5_addPier 58 = .ok (.aload_n 0, 1) := by decide +kernel
theorem dX5_addPier_59 : decode cX5_addPier 59 = .ok (.getfield 15, 3) := by decide +kernel
theorem dX5_addPier_62 : decode cX5_addPier 62 = .ok (.istore 6, 2) := by decide +kernel
theorem dX5_addPier_64 : decode cX5_addPier 64 = .ok (.aload_n 0, 1) := by decide +kernel
theorem dX5_addPier_65 : decode cX5_addPier 65 = .ok (.getfield 11, 3) := by decide +kernel
theorem dX5_addPier_68 : decode cX5_addPier 68 = .ok (.iload 6, 2) := by decide +kernel
theorem dX5_addPier_70 : decode cX5_addPier 70 = .ok (.new 9, 3) := by decide +kernel
theorem dX5_addPier_73 : decode cX5_addPier 73 = .ok (.dup, 1) := by decide +kernel
theorem dX5_addPier_74 : decode cX5_addPier 74 = .ok (.iload_n 1, 1) := by decide +kernel
theorem dX5_addPier_75 : decode cX5_addPier 75 = .ok (.iload_n 2, 1) := by decide +kernel
theorem dX5_addPier_76 : decode cX5_addPier 76 = .ok (.iload_n 3, 1) := by decide +kernel
theorem dX5_addPier_77 : decode cX5_addPier 77 = .ok (.iload 4, 2) := by decide +kernel
theorem dX5_addPier_79 : decode cX5_addPier 79 = .ok (.iload 5, 2) := by decide +kernel
theorem dX5_addPier_81 : decode cX5_addPier 81 = .ok (.aload_n 0, 1) := by decide +kernel
theorem dX5_addPier_82 : decode cX5_addPier 82 = .ok (.getfield 19, 3) := by decide +kernel
theorem dX5_addPier_85 : decode cX5_addPier 85 = .ok (.invokespecial 66, 3) := by decide +kernel
theorem dX5_addPier_88 : decode cX5_addPier 88 = .ok (.aastore, 1) := by decide +kernel
theorem dX5_addPier_89 : decode cX5_addPier 89 = .ok (.aload_n 0, 1) := by decide +kernel
theorem dX5_addPier_90 : decode cX5_addPier 90 = .ok (.dup, 1) := by decide +kernel
theorem dX5_addPier_91 : decode cX5_addPier 91 = .ok (.getfield 15, 3) := by decide +kernel
theorem dX5_addPier_94 : decode cX5_addPier 94 = .ok (.iconst 1, 1) := by decide +kernel
theorem dX5_addPier_95 : decode cX5_addPier 95 = .ok (.iadd, 1) := by decide +kernel
theorem dX5_addPier_96 : decode cX5_addPier 96 = .ok (.putfield 15, 3) := by decide +kernel
theorem dX5_addPier_99 : decode cX5_addPier 99 = .ok (.iload 6, 2) := by decide +kernel
theorem dX5_addPier_101 : decode cX5_addPier 101 = .ok (.ireturn, 1) := by decide +kernel
theorem dX5_pierCount_0 : decode cX5_pierCount 0 = .ok (.aload_n 0, 1) := by decide +kernel
theorem dX5_pierCount_1 : decode cX5_pierCount 1 = .ok (.getfield 15, 3) := by decide +kernel
theorem dX5_pierCount_4 : decode cX5_pierCount 4 = .ok (.ireturn, 1) := by decide +kernel
theorem dX5_today_0 : decode cX5_today 0 = .ok (.aload_n 0, 1) := by decide +kernel
theorem dX5_today_1 : decode cX5_today 1 = .ok (.getfield 43, 3) := by decide +kernel
theorem dX5_today_4 : decode cX5_today 4 = .ok (.ireturn, 1) := by decide +kernel
theorem dX5_passDays_0 : decode cX5_passDays 0 = .ok (.iload_n 1, 1) := by decide +kernel
theorem dX5_passDays_1 : decode cX5_passDays 1 = .ok (.iconst 1, 1) := by decide +kernel
theorem dX5_passDays_2 : decode cX5_passDays 2 = .ok (.bipush 60, 2) := by decide +kernel
theorem dX5_passDays_4 : decode cX5_passDays 4 = .ok (.invokestatic 55, 3) := by decide +kernel
theorem dX5_passDays_7 : decode cX5_passDays 7 = .ok (.aload_n 0, 1) := by decide +kernel
theorem dX5_passDays_8 : decode cX5_passDays 8 = .ok (.dup, 1) := by decide +kernel
theorem dX5_passDays_9 : decode cX5_passDays 9 = .ok (.getfield 43, 3) := by decide +kernel
theorem dX5_passDays_12 : decode cX5_passDays 12 = .ok (.iload_n 1, 1) := by decide +kernel
theorem dX5_passDays_13 : decode cX5_passDays 13 = .ok (.iadd, 1) := by decide +kernel
theorem dX5_passDays_14 : decode cX5_passDays 14 = .ok (.putfield 43, 3) := by decide +kernel
theorem dX5_passDays_17 : decode cX5_passDays 17 = .ok (.iconst 0, 1) := by decide +kernel
theorem dX5_passDays_18 : decode cX5_passDays 18 = .ok (.istore_n 2, 1) := by decide +kernel
theorem dX5_passDays_19 : decode cX5_passDays 19 = .ok (.iload_n 2, 1) := by decide +kernel
theorem dX5_passDays_20 : decode cX5_passDays 20 = .ok (.aload_n 0, 1) := by decide +kernel
theorem dX5_passDays_21 : decode cX5_passDays 21 = .ok (.getfield 15, 3) := by decide +kernel
theorem dX5_passDays_24 : decode cX5_passDays 24 = .ok (.if_icmp .ge 38, 3) := by decide +kernel
theorem dX5_passDays_27 : decode cX5_passDays 27 = .ok (.aload_n 0, 1) := by decide +kernel
theorem dX5_passDays_28 : decode cX5_passDays 28 = .ok (.getfield 11, 3) := by decide +kernel
theorem dX5_passDays_31 : decode cX5_passDays 31 = .ok (.iload_n 2, 1) := by decide +kernel
theorem dX5_passDays_32 : decode cX5_passDays 32 = .ok (.aaload, 1) := by decide +kernel
theorem dX5_passDays_33 : decode cX5_passDays 33 = .ok (.getfield 69, 3) := by decide +kernel
theorem dX5_passDays_36 : decode cX5_passDays 36 = .ok (.iload_n 1, 1) := by decide +kernel
theorem dX5_passDays_37 : decode cX5_passDays 37 = .ok (.invokevirtual 73, 3) := by decide +kernel
theorem dX5_passDays_40 : decode cX5_passDays 40 = .ok (.aload_n 0, 1) := by decide +kernel
theorem dX5_passDays_41 : decode cX5_passDays 41 = .ok (.getfield 11, 3) := by decide +kernel
theorem dX5_passDays_44 : decode cX5_passDays 44 = .ok (.iload_n 2, 1) := by decide +kernel
theorem dX5_passDays_45 : decode cX5_passDays 45 = .ok (.aaload, 1) := by decide +kernel
theorem dX5_passDays_46 : decode cX5_passDays 46 = .ok (.getfield 79, 3) := by decide +kernel
theorem dX5_passDays_49 : decode cX5_passDays 49 = .ok (.aload_n 0, 1) := by decide +kernel
theorem dX5_passDays_50 : decode cX5_passDays 50 = .ok (.getfield 43, 3) := by decide +kernel
theorem dX5_passDays_53 : decode cX5_passDays 53 = .ok (.invokevirtual 83, 3) := by decide +kernel
theorem dX5_passDays_56 : decode cX5_passDays 56 = .ok (.iinc 2 1, 3) := by decide +kernel
theorem dX5_passDays_59 : decode cX5_passDays 59 = .ok (.goto (-40), 3) := by decide +kernel
theorem dX5_passDays_62 : decode cX5_passDays 62 = .ok (.aload_n 0, 1) := by decide +kernel
theorem dX5_passDays_63 : decode cX5_passDays 63 = .ok (.getfield 43, 3) := by decide +kernel
theorem dX5_passDays_66 : decode cX5_passDays 66 = .ok (.ireturn, 1) := by decide +kernel
theorem dX5_moonAge_0 : decode cX5_moonAge 0 = .ok (.iload_n 1, 1) := by decide +kernel
theorem dX5_moonAge_1 : decode cX5_moonAge 1 = .ok (.invokestatic 88, 3) := by decide +kernel
theorem dX5_moonAge_4 : decode cX5_moonAge 4 = .ok (.iload_n 1, 1) := by decide +kernel
theorem dX5_moonAge_5 : decode cX5_moonAge 5 = .ok (.invokestatic 91, 3) := by decide +kernel
theorem dX5_moonAge_8 : decode cX5_moonAge 8 = .ok (.ireturn, 1) := by decide +kernel
theorem dX5_rangeOf_0 : decode cX5_rangeOf 0 = .ok (.aload_n 0, 1) := by decide +kernel
theorem dX5_rangeOf_1 : decode cX5_rangeOf 1 = .ok (.iload_n 1, 1) := by decide +kernel
theorem dX5_rangeOf_2 : decode cX5_rangeOf 2 = .ok (.invokevirtual 95, 3) := by decide +kernel
theorem dX5_rangeOf_5 : decode cX5_rangeOf 5 = .ok (.astore_n 3, 1) := by decide +kernel
theorem dX5_rangeOf_6 : decode cX5_rangeOf 6 = .ok (.iload_n 2, 1) := by decide +kernel
theorem dX5_rangeOf_7 : decode cX5_rangeOf 7 = .ok (.invokestatic 88, 3) := by decide +kernel
theorem dX5_rangeOf_10 : decode cX5_rangeOf 10 = .ok (.aload_n 3, 1) := by decide +kernel
theorem dX5_rangeOf_11 : decode cX5_rangeOf 11 = .ok (.iload_n 2, 1) := by decide +kernel
theorem dX5_rangeOf_12 : decode cX5_rangeOf 12 = .ok (.invokevirtual 99, 3) := by decide +kernel
theorem dX5_rangeOf_15 : decode cX5_rangeOf 15 = .ok (.ireturn, 1) := by decide +kernel
theorem dX5_waterCount_0 : decode cX5_waterCount 0 = .ok (.aload_n 0, 1) := by decide +kernel
theorem dX5_waterCount_1 : decode cX5_waterCount 1 = .ok (.iload_n 1, 1) := by decide +kernel
theorem dX5_waterCount_2 : decode cX5_waterCount 2 = .ok (.invokevirtual 95, 3) := by decide +kernel
theorem dX5_waterCount_5 : decode cX5_waterCount 5 = .ok (.astore_n 3, 1) := by decide +kernel
theorem dX5_waterCount_6 : decode cX5_waterCount 6 = .ok (.iload_n 2, 1) := by decide +kernel
theorem dX5_waterCount_7 : decode cX5_waterCount 7 = .ok (.invokestatic 88, 3) := by decide +kernel
theorem dX5_waterCount_10 : decode cX5_waterCount 10 = .ok (.aload_n 0, 1) := by decide +kernel
theorem dX5_waterCount_11 : decode cX5_waterCount 11 = .ok (.getfield 39, 3) := by decide +kernel
theorem dX5_waterCount_14 : decode cX5_waterCount 14 = .ok (.aload_n 3, 1) := by decide +kernel
theorem dX5_waterCount_15 : decode cX5_waterCount 15 = .ok (.iload_n 2, 1) := by decide +kernel
theorem dX5_waterCount_16 : decode cX5_waterCount 16 = .ok (.invokevirtual 102, 3) := by decide +kernel
theorem dX5_waterCount_19 : decode cX5_waterCount 19 = .ok (.aload_n 0, 1) := by decide +kernel
theorem dX5_waterCount_20 : decode cX5_waterCount 20 = .ok (.getfield 39, 3) := by decide +kernel
theorem dX5_waterCount_23 : decode cX5_waterCount 23 = .ok (.getfield 106, 3) := by decide +kernel
theorem dX5_waterCount_26 : decode cX5_waterCount 26 = .ok (.ireturn, 1) := by decide +kernel
theorem dX5_waterMinute_0 : decode cX5_waterMinute 0 = .ok (.aload_n 0, 1) := by decide +kernel
theorem dX5_waterMinute_1 : decode cX5_waterMinute 1 = .ok (.iload_n 1, 1) := by decide +kernel
theorem dX5_waterMinute_2 : decode cX5_waterMinute 2 = .ok (.iload_n 2, 1) := by decide +kernel
theorem dX5_waterMinute_3 : decode cX5_waterMinute 3 = .ok (.iload_n 3, 1) := by decide +kernel
theorem dX5_waterMinute_4 : decode cX5_waterMinute 4 = .ok (.invokevirtual 109, 3) := by decide +kernel
theorem dX5_waterMinute_7 : decode cX5_waterMinute 7 = .ok (.aload_n 0, 1) := by decide +kernel
theorem dX5_waterMinute_8 : decode cX5_waterMinute 8 = .ok (.getfield 39, 3) := by decide +kernel
theorem dX5_waterMinute_11 : decode cX5_waterMinute 11 = .ok (.getfield 112, 3) := by decide +kernel
theorem dX5_waterMinute_14 : decode cX5_waterMinute 14 = .ok (.iload_n 3, 1) := by decide +kernel
theorem dX5_waterMinute_15 : decode cX5_waterMinute 15 = .ok (.iaload, 1) := by decide +kernel
theorem dX5_waterMinute_16 : decode cX5_waterMinute 16 = .ok (.ireturn, 1) := by decide +kernel
theorem dX5_waterHeight_0 : decode cX5_waterHeight 0 = .ok (.aload_n 0, 1) := by decide +kernel
theorem dX5_waterHeight_1 : decode cX5_waterHeight 1 = .ok (.iload_n 1, 1) := by decide +kernel
theorem dX5_waterHeight_2 : decode cX5_waterHeight 2 = .ok (.iload_n 2, 1) := by decide +kernel
theorem dX5_waterHeight_3 : decode cX5_waterHeight 3 = .ok (.iload_n 3, 1) := by decide +kernel
theorem dX5_waterHeight_4 : decode cX5_waterHeight 4 = .ok (.invokevirtual 109, 3) := by decide +kernel
theorem dX5_waterHeight_7 : decode cX5_waterHeight 7 = .ok (.aload_n 0, 1) := by decide +kernel
theorem dX5_waterHeight_8 : decode cX5_waterHeight 8 = .ok (.getfield 39, 3) := by decide +kernel
theorem dX5_waterHeight_11 : decode cX5_waterHeight 11 = .ok (.getfield 115, 3) := by decide +kernel
theorem dX5_waterHeight_14 : decode cX5_waterHeight 14 = .ok (.iload_n 3, 1) := by decide +kernel
theorem dX5_waterHeight_15 : decode cX5_waterHeight 15 = .ok (.iaload, 1) := by decide +kernel
theorem dX5_waterHeight_16 : decode cX5_waterHeight 16 = .ok (.ireturn, 1) := by decide +kernel
theorem dX5_isHighWater_0 : decode cX5_isHighWater 0 = .ok (.aload_n 0, 1) := by decide +kernel
theorem dX5_isHighWater_1 : decode cX5_isHighWater 1 = .ok (.iload_n 1, 1) := by decide +kernel
theorem dX5_isHighWater_2 : decode cX5_isHighWater 2 = .ok (.iload_n 2, 1) := by decide +kernel
theorem dX5_isHighWater_3 : decode cX5_isHighWater 3 = .ok (.iload_n 3, 1) := by decide +kernel
theorem dX5_isHighWater_4 : decode cX5_isHighWater 4 = .ok (.invokevirtual 109, 3) := by decide +kernel
theorem dX5_isHighWater_7 : decode cX5_isHighWater 7 = .ok (.aload_n 0, 1) := by decide +kernel
theorem dX5_isHighWater_8 : decode cX5_isHighWater 8 = .ok (.getfield 39, 3) := by decide +kernel
theorem dX5_isHighWater_11 : decode cX5_isHighWater 11 = .ok (.getfield 118, 3) := by decide +kernel
theorem dX5_isHighWater_14 : decode cX5_isHighWater 14 = .ok (.iload_n 3, 1) := by decide +kernel
theorem dX5_isHighWater_15 : decode cX5_isHighWater 15 = .ok (.baload, 1) := by decide +kernel
theorem dX5_isHighWater_16 : decode cX5_isHighWater 16 = .ok (.ireturn, 1) := by decide +kernel
theorem dX5_minutesToHighWater_0 : decode cX5_minutesToHighWater 0 = .ok (.aload_n 0, 1) := by decide +kernel
theorem dX5_minutesToHighWater_1 : decode cX5_minutesToHighWater 1 = .ok (.iload_n 1, 1) := by decide +kernel
theorem dX5_minutesToHighWater_2 : decode cX5_minutesToHighWater 2 = .ok (.invokevirtual 95, 3) := by decide +kernel
theorem dX5_minutesToHighWater_5 : decode cX5_minutesToHighWater 5 = .ok (.astore 4, 2) := by decide +kernel
theorem dX5_minutesToHighWater_7 : decode cX5_minutesToHighWater 7 = .ok (.iload_n 2, 1) := by decide +kernel
theorem dX5_minutesToHighWater_8 : decode cX5_minutesToHighWater 8 = .ok (.invokestatic 88, 3) := by decide +kernel
theorem dX5_minutesToHighWater_11 : decode cX5_minutesToHighWater 11 = .ok (.iload_n 3, 1) := by decide +kernel
theorem dX5_minutesToHighWater_12 : decode cX5_minutesToHighWater 12 = .ok (.iconst 0, 1) := by decide +kernel
theorem dX5_minutesToHighWater_13 : decode cX5_minutesToHighWater 13 = .ok (.sipush 1439, 3) := by decide +kernel
theorem dX5_minutesToHighWater_16 : decode cX5_minutesToHighWater 16 = .ok (.invokestatic 55, 3) := by decide +kernel
theorem dX5_minutesToHighWater_19 : decode cX5_minutesToHighWater 19 = .ok (.aload 4, 2) := by decide +kernel
theorem dX5_minutesToHighWater_21 : decode cX5_minutesToHighWater 21 = .ok (.iload_n 2, 1) := by decide +kernel
theorem dX5_minutesToHighWater_22 : decode cX5_minutesToHighWater 22 = .ok (.iload_n 3, 1) := by decide +kernel
theorem dX5_minutesToHighWater_23 : decode cX5_minutesToHighWater 23 = .ok (.invokevirtual 122, 3) := by decide +kernel
theorem dX5_minutesToHighWater_26 : decode cX5_minutesToHighWater 26 = .ok (.ireturn, 1) := by decide +kernel
theorem dX5_report_0 : decode cX5_report 0 = .ok (.aload_n 0, 1) := by decide +kernel
theorem dX5_report_1 : decode cX5_report 1 = .ok (.iload_n 1, 1) := by decide +kernel
theorem dX5_report_2 : decode cX5_report 2 = .ok (.iload_n 2, 1) := by decide +kernel
theorem dX5_report_3 : decode cX5_report 3 = .ok (.invokevirtual 126, 3) := by decide +kernel
theorem dX5_report_6 : decode cX5_report 6 = .ok (.astore 4, 2) := by decide +kernel
theorem dX5_report_8 : decode cX5_report 8 = .ok (.iload_n 3, 1) := by decide +kernel
theorem dX5_report_9 : decode cX5_report 9 = .ok (.invokestatic 130, 3) := by decide +kernel
theorem dX5_report_12 : decode cX5_report 12 = .ok (.aload 4, 2) := by decide +kernel
theorem dX5_report_14 : decode cX5_report 14 = .ok (.iload_n 1, 1) := by decide +kernel
theorem dX5_report_15 : decode cX5_report 15 = .ok (.iload_n 3, 1) := by decide +kernel
theorem dX5_report_16 : decode cX5_report 16 = .ok (.invokevirtual 133, 3) := by decide +kernel
theorem dX5_report_19 : decode cX5_report 19 = .ok (.aload 4, 2) := by decide +kernel
theorem dX5_report_21 : decode cX5_report 21 = .ok (.invokevirtual 137, 3) := by decide +kernel
theorem dX5_report_24 : decode cX5_report 24 = .ok (.ireturn, 1) := by decide +kernel
theorem dX5_observe_0 : decode cX5_observe 0 = .ok (.aload_n 0, 1) := by decide +kernel
theorem dX5_observe_1 : decode cX5_observe 1 = .ok (.iload_n 1, 1) := by decide +kernel
theorem dX5_observe_2 : decode cX5_observe 2 = .ok (.invokevirtual 95, 3) := by decide +kernel
theorem dX5_observe_5 : decode cX5_observe 5 = .ok (.astore_n 3, 1) := by decide +kernel
theorem dX5_observe_6 : decode cX5_observe 6 = .ok (.iload_n 2, 1) := by decide +kernel
theorem dX5_observe_7 : decode cX5_observe 7 = .ok (.invokestatic 130, 3) := by decide +kernel
theorem dX5_observe_10 : decode cX5_observe 10 = .ok (.aload_n 3, 1) := by decide +kernel
theorem dX5_observe_11 : decode cX5_observe 11 = .ok (.getfield 69, 3) := by decide +kernel
theorem dX5_observe_14 : decode cX5_observe 14 = .ok (.iload_n 2, 1) := by decide +kernel
theorem dX5_observe_15 : decode cX5_observe 15 = .ok (.invokevirtual 141, 3) := by decide +kernel
theorem dX5_observe_18 : decode cX5_observe 18 = .ok (.ireturn, 1) := by decide +kernel
theorem dX5_correctionOf_0 : decode cX5_correctionOf 0 = .ok (.aload_n 0, 1) := by decide +kernel
theorem dX5_correctionOf_1 : decode cX5_correctionOf 1 = .ok (.iload_n 1, 1) := by decide +kernel
theorem dX5_correctionOf_2 : decode cX5_correctionOf 2 = .ok (.invokevirtual 95, 3) := by decide +kernel
theorem dX5_correctionOf_5 : decode cX5_correctionOf 5 = .ok (.getfield 69, 3) := by decide +kernel
theorem dX5_correctionOf_8 : decode cX5_correctionOf 8 = .ok (.invokevirtual 137, 3) := by decide +kernel
theorem dX5_correctionOf_11 : decode cX5_correctionOf 11 = .ok (.ireturn, 1) := by decide +kernel
theorem dX5_trustOf_0 : decode cX5_trustOf 0 = .ok (.iload_n 1, 1) := by decide +kernel
theorem dX5_trustOf_1 : decode cX5_trustOf 1 = .ok (.invokestatic 144, 3) := by decide +kernel
theorem dX5_trustOf_4 : decode cX5_trustOf 4 = .ok (.aload_n 0, 1) := by decide +kernel
theorem dX5_trustOf_5 : decode cX5_trustOf 5 = .ok (.getfield 19, 3) := by decide +kernel
theorem dX5_trustOf_8 : decode cX5_trustOf 8 = .ok (.iload_n 1, 1) := by decide +kernel
theorem dX5_trustOf_9 : decode cX5_trustOf 9 = .ok (.iaload, 1) := by decide +kernel
theorem dX5_trustOf_10 : decode cX5_trustOf 10 = .ok (.ireturn, 1) := by decide +kernel
theorem dX5_reportCount_0 : decode cX5_reportCount 0 = .ok (.aload_n 0, 1) := by decide +kernel
theorem dX5_reportCount_1 : decode cX5_reportCount 1 = .ok (.iload_n 1, 1) := by decide +kernel
theorem dX5_reportCount_2 : decode cX5_reportCount 2 = .ok (.invokevirtual 95, 3) := by decide +kernel
theorem dX5_reportCount_5 : decode cX5_reportCount 5 = .ok (.getfield 69, 3) := by decide +kernel
theorem dX5_reportCount_8 : decode cX5_reportCount 8 = .ok (.getfield 147, 3) := by decide +kernel
theorem dX5_reportCount_11 : decode cX5_reportCount 11 = .ok (.ireturn, 1) := by decide +kernel
theorem dX5_reporterAt_0 : decode cX5_reporterAt 0 = .ok (.aload_n 0, 1) := by decide +kernel
theorem dX5_reporterAt_1 : decode cX5_reporterAt 1 = .ok (.iload_n 1, 1) := by decide +kernel
theorem dX5_reporterAt_2 : decode cX5_reporterAt 2 = .ok (.invokevirtual 95, 3) := by decide +kernel
theorem dX5_reporterAt_5 : decode cX5_reporterAt 5 = .ok (.getfield 69, 3) := by decide +kernel
theorem dX5_reporterAt_8 : decode cX5_reporterAt 8 = .ok (.astore_n 3, 1) := by decide +kernel
theorem dX5_reporterAt_9 : decode cX5_reporterAt 9 = .ok (.iload_n 2, 1) := by decide +kernel
theorem dX5_reporterAt_10 : decode cX5_reporterAt 10 = .ok (.ifCond .lt 11, 3) := by decide +kernel
theorem dX5_reporterAt_13 : decode cX5_reporterAt 13 = .ok (.iload_n 2, 1) := by decide +kernel
theorem dX5_reporterAt_14 : decode cX5_reporterAt 14 = .ok (.aload_n 3, 1) := by decide +kernel
theorem dX5_reporterAt_15 : decode cX5_reporterAt 15 = .ok (.getfield 147, 3) := by decide +kernel
theorem dX5_reporterAt_18 : decode cX5_reporterAt 18 = .ok (.if_icmp .lt 13, 3) := by decide +kernel
theorem dX5_reporterAt_21 : decode cX5_reporterAt 21 = .ok (.new 148, 3) := by decide +kernel
theorem dX5_reporterAt_24 : decode cX5_reporterAt 24 = .ok (.dup, 1) := by decide +kernel
theorem dX5_reporterAt_25 : decode cX5_reporterAt 25 = .ok (.ldc 150, 2) := by decide +kernel
theorem dX5_reporterAt_27 : decode cX5_reporterAt 27 = .ok (.invokespecial 152, 3) := by decide +kernel
theorem dX5_reporterAt_30 : decode cX5_reporterAt 30 = .ok (.athrow, 1) := by decide +kernel
theorem dX5_reporterAt_31 : decode cX5_reporterAt 31 = .ok (.aload_n 3, 1) := by decide +kernel
theorem dX5_reporterAt_32 : decode cX5_reporterAt 32 = .ok (.getfield 153, 3) := by decide +kernel
theorem dX5_reporterAt_35 : decode cX5_reporterAt 35 = .ok (.iload_n 2, 1) := by decide +kernel
theorem dX5_reporterAt_36 : decode cX5_reporterAt 36 = .ok (.iaload, 1) := by decide +kernel
theorem dX5_reporterAt_37 : decode cX5_reporterAt 37 = .ok (.ireturn, 1) := by decide +kernel
theorem dX5_reportedMinutes_0 : decode cX5_reportedMinutes 0 = .ok (.aload_n 0, 1) := by decide +kernel
theorem dX5_reportedMinutes_1 : decode cX5_reportedMinutes 1 = .ok (.iload_n 1, 1) := by decide +kernel
theorem dX5_reportedMinutes_2 : decode cX5_reportedMinutes 2 = .ok (.iload_n 2, 1) := by decide +kernel
theorem dX5_reportedMinutes_3 : decode cX5_reportedMinutes 3 = .ok (.invokevirtual 126, 3) := by decide +kernel
theorem dX5_reportedMinutes_6 : decode cX5_reportedMinutes 6 = .ok (.astore_n 3, 1) := by decide +kernel
theorem dX5_reportedMinutes_7 : decode cX5_reportedMinutes 7 = .ok (.aload_n 3, 1) := by decide +kernel
theorem dX5_reportedMinutes_8 : decode cX5_reportedMinutes 8 = .ok (.getfield 156, 3) := by decide +kernel
theorem dX5_reportedMinutes_11 : decode cX5_reportedMinutes 11 = .ok (.aload_n 3, 1) := by decide +kernel
theorem dX5_reportedMinutes_12 : decode cX5_reportedMinutes 12 = .ok (.iload_n 1, 1) := by decide +kernel
theorem dX5_reportedMinutes_13 : decode cX5_reportedMinutes 13 = .ok (.invokestatic 157, 3) := by decide +kernel
theorem dX5_reportedMinutes_16 : decode cX5_reportedMinutes 16 = .ok (.iaload, 1) := by decide +kernel
theorem dX5_reportedMinutes_17 : decode cX5_reportedMinutes 17 = .ok (.ireturn, 1) := by decide +kernel
theorem dX5_reportAge_0 : decode cX5_reportAge 0 = .ok (.aload_n 0, 1) := by decide +kernel
theorem dX5_reportAge_1 : decode cX5_reportAge 1 = .ok (.iload_n 1, 1) := by decide +kernel
theorem dX5_reportAge_2 : decode cX5_reportAge 2 = .ok (.iload_n 2, 1) := by decide +kernel
theorem dX5_reportAge_3 : decode cX5_reportAge 3 = .ok (.invokevirtual 126, 3) := by decide +kernel
theorem dX5_reportAge_6 : decode cX5_reportAge 6 = .ok (.astore_n 3, 1) := by decide +kernel
theorem dX5_reportAge_7 : decode cX5_reportAge 7 = .ok (.aload_n 3, 1) := by decide +kernel
theorem dX5_reportAge_8 : decode cX5_reportAge 8 = .ok (.getfield 161, 3) := by decide +kernel
theorem dX5_reportAge_11 : decode cX5_reportAge 11 = .ok (.aload_n 3, 1) := by decide +kernel
theorem dX5_reportAge_12 : decode cX5_reportAge 12 = .ok (.iload_n 1, 1) := by decide +kernel
theorem dX5_reportAge_13 : decode cX5_reportAge 13 = .ok (.invokestatic 157, 3) := by decide +kernel
theorem dX5_reportAge_16 : decode cX5_reportAge 16 = .ok (.iaload, 1) := by decide +kernel
theorem dX5_reportAge_17 : decode cX5_reportAge 17 = .ok (.ireturn, 1) := by decide +kernel
theorem dX5_deliverTin_0 : decode cX5_deliverTin 0 = .ok (.aload_n 0, 1) := by decide +kernel
theorem dX5_deliverTin_1 : decode cX5_deliverTin 1 = .ok (.iload_n 1, 1) := by decide +kernel
theorem dX5_deliverTin_2 : decode cX5_deliverTin 2 = .ok (.invokevirtual 164, 3) := by decide +kernel
theorem dX5_deliverTin_5 : decode cX5_deliverTin 5 = .ok (.astore_n 3, 1) := by decide +kernel
theorem dX5_deliverTin_6 : decode cX5_deliverTin 6 = .ok (.iload_n 2, 1) := by decide +kernel
theorem dX5_deliverTin_7 : decode cX5_deliverTin 7 = .ok (.iconst 1, 1) := by decide +kernel
theorem dX5_deliverTin_8 : decode cX5_deliverTin 8 = .ok (.sipush 999, 3) := by decide +kernel
theorem dX5_deliverTin_11 : decode cX5_deliverTin 11 = .ok (.invokestatic 55, 3) := by decide +kernel
theorem dX5_deliverTin_14 : decode cX5_deliverTin 14 = .ok (.aload_n 3, 1) := by decide +kernel
theorem dX5_deliverTin_15 : decode cX5_deliverTin 15 = .ok (.getfield 168, 3) := by decide +kernel
theorem dX5_deliverTin_18 : decode cX5_deliverTin 18 = .ok (.bipush 12, 2) := by decide +kernel
theorem dX5_deliverTin_20 : decode cX5_deliverTin 20 = .ok (.if_icmp .lt 13, 3) := by decide +kernel
theorem dX5_deliverTin_23 : decode cX5_deliverTin 23 = .ok (.new 59, 3) := by decide +kernel
theorem dX5_deliverTin_26 : decode cX5_deliverTin 26 = .ok (.dup, 1) := by decide +kernel
theorem dX5_deliverTin_27 : decode cX5_deliverTin 27 = .ok (.ldc 169, 2) := by decide +kernel
theorem dX5_deliverTin_29 : decode cX5_deliverTin 29 = .ok (.invokespecial 63, 3) := by decide +kernel
theorem dX5_deliverTin_32 : decode cX5_deliverTin 32 = .ok (.athrow, 1) := by decide +kernel
theorem dX5_deliverTin_33 : decode cX5_deliverTin 33 = .ok (.aload_n 3, 1) := by decide +kernel
theorem dX5_deliverTin_34 : decode cX5_deliverTin 34 = .ok (.iload_n 2, 1) := by decide +kernel
theorem dX5_deliverTin_35 : decode cX5_deliverTin 35 = .ok (.invokevirtual 171, 3) := by decide +kernel
theorem dX5_deliverTin_38 : decode cX5_deliverTin 38 = .ok (.aload_n 3, 1) := by decide +kernel
theorem dX5_deliverTin_39 : decode cX5_deliverTin 39 = .ok (.getfield 168, 3) := by decide +kernel
theorem dX5_deliverTin_42 : decode cX5_deliverTin 42 = .ok (.ireturn, 1) := by decide +kernel
theorem dX5_tinCount_0 : decode cX5_tinCount 0 = .ok (.aload_n 0, 1) := by decide +kernel
theorem dX5_tinCount_1 : decode cX5_tinCount 1 = .ok (.iload_n 1, 1) := by decide +kernel
theorem dX5_tinCount_2 : decode cX5_tinCount 2 = .ok (.invokevirtual 164, 3) := by decide +kernel
theorem dX5_tinCount_5 : decode cX5_tinCount 5 = .ok (.getfield 168, 3) := by decide +kernel
theorem dX5_tinCount_8 : decode cX5_tinCount 8 = .ok (.ireturn, 1) := by decide +kernel
theorem dX5_paintLeft_0 : decode cX5_paintLeft 0 = .ok (.aload_n 0, 1) := by decide +kernel
theorem dX5_paintLeft_1 : decode cX5_paintLeft 1 = .ok (.iload_n 1, 1) := by decide +kernel
theorem dX5_paintLeft_2 : decode cX5_paintLeft 2 = .ok (.invokevirtual 164, 3) := by decide +kernel
theorem dX5_paintLeft_5 : decode cX5_paintLeft 5 = .ok (.astore_n 2, 1) := by decide +kernel
theorem dX5_paintLeft_6 : decode cX5_paintLeft 6 = .ok (.aload_n 2, 1) := by decide +kernel
theorem dX5_paintLeft_7 : decode cX5_paintLeft 7 = .ok (.aload_n 2, 1) := by decide +kernel
theorem dX5_paintLeft_8 : decode cX5_paintLeft 8 = .ok (.getfield 168, 3) := by decide +kernel
theorem dX5_paintLeft_11 : decode cX5_paintLeft 11 = .ok (.invokevirtual 174, 3) := by decide +kernel
theorem dX5_paintLeft_14 : decode cX5_paintLeft 14 = .ok (.ireturn, 1) := by decide +kernel
theorem dX5_oldestTin_0 : decode cX5_oldestTin 0 = .ok (.aload_n 0, 1) := by decide +kernel
theorem dX5_oldestTin_1 : decode cX5_oldestTin 1 = .ok (.iload_n 1, 1) := by decide +kernel
theorem dX5_oldestTin_2 : decode cX5_oldestTin 2 = .ok (.invokevirtual 164, 3) := by decide +kernel
theorem dX5_oldestTin_5 : decode cX5_oldestTin 5 = .ok (.astore_n 2, 1) := by decide +kernel
theorem dX5_oldestTin_6 : decode cX5_oldestTin 6 = .ok (.aload_n 2, 1) := by decide +kernel
theorem dX5_oldestTin_7 : decode cX5_oldestTin 7 = .ok (.getfield 168, 3) := by decide +kernel
theorem dX5_oldestTin_10 : decode cX5_oldestTin 10 = .ok (.ifCond .ne 13, 3) := by decide +kernel
theorem dX5_oldestTin_13 : decode cX5_oldestTin 13 = .ok (.new 148, 3) := by decide +kernel
theorem dX5_oldestTin_16 : decode cX5_oldestTin 16 = .ok (.dup, 1) := by decide +kernel
theorem dX5_oldestTin_17 : decode cX5_oldestTin 17 = .ok (.ldc 177, 2) := by decide +kernel
theorem dX5_oldestTin_19 : decode cX5_oldestTin 19 = .ok (.invokespecial 152, 3) := by decide +kernel
theorem dX5_oldestTin_22 : decode cX5_oldestTin 22 = .ok (.athrow, 1) := by decide +kernel
theorem dX5_oldestTin_23 : decode cX5_oldestTin 23 = .ok (.aload_n 2, 1) := by decide +kernel
theorem dX5_oldestTin_24 : decode cX5_oldestTin 24 = .ok (.getfield 179, 3) := by decide +kernel
theorem dX5_oldestTin_27 : decode cX5_oldestTin 27 = .ok (.iconst 0, 1) := by decide +kernel
theorem dX5_oldestTin_28 : decode cX5_oldestTin 28 = .ok (.iaload, 1) := by decide +kernel
theorem dX5_oldestTin_29 : decode cX5_oldestTin 29 = .ok (.ireturn, 1) := by decide +kernel
theorem dX5_paintUsed_0 : decode cX5_paintUsed 0 = .ok (.aload_n 0, 1) := by decide +kernel
theorem dX5_paintUsed_1 : decode cX5_paintUsed 1 = .ok (.getfield 49, 3) := by decide +kernel
theorem dX5_paintUsed_4 : decode cX5_paintUsed 4 = .ok (.ireturn, 1) := by decide +kernel
theorem dX5_paintDripped_0 : decode cX5_paintDripped 0 = .ok (.aload_n 0, 1) := by decide +kernel
theorem dX5_paintDripped_1 : decode cX5_paintDripped 1 = .ok (.getfield 52, 3) := by decide +kernel
theorem dX5_paintDripped_4 : decode cX5_paintDripped 4 = .ok (.ireturn, 1) := by decide +kernel
theorem dX5_paintPoured_0 : decode cX5_paintPoured 0 = .ok (.aload_n 0, 1) := by decide +kernel
theorem dX5_paintPoured_1 : decode cX5_paintPoured 1 = .ok (.getfield 29, 3) := by decide +kernel
theorem dX5_paintPoured_4 : decode cX5_paintPoured 4 = .ok (.getfield 182, 3) := by decide +kernel
theorem dX5_paintPoured_7 : decode cX5_paintPoured 7 = .ok (.aload_n 0, 1) := by decide +kernel
theorem dX5_paintPoured_8 : decode cX5_paintPoured 8 = .ok (.getfield 33, 3) := by decide +kernel
theorem dX5_paintPoured_11 : decode cX5_paintPoured 11 = .ok (.getfield 182, 3) := by decide +kernel
theorem dX5_paintPoured_14 : decode cX5_paintPoured 14 = .ok (.iadd, 1) := by decide +kernel
theorem dX5_paintPoured_15 : decode cX5_paintPoured 15 = .ok (.ireturn, 1) := by decide +kernel
theorem dX5_order_0 : decode cX5_order 0 = .ok (.aload_n 0, 1) := by decide +kernel
theorem dX5_order_1 : decode cX5_order 1 = .ok (.iload_n 1, 1) := by decide +kernel
theorem dX5_order_2 : decode cX5_order 2 = .ok (.invokevirtual 185, 3) := by decide +kernel
theorem dX5_order_5 : decode cX5_order 5 = .ok (.iload_n 2, 1) := by decide +kernel
theorem dX5_order_6 : decode cX5_order 6 = .ok (.invokestatic 88, 3) := by decide +kernel
theorem dX5_order_9 : decode cX5_order 9 = .ok (.aload_n 0, 1) := by decide +kernel
theorem dX5_order_10 : decode cX5_order 10 = .ok (.getfield 23, 3) := by decide +kernel
theorem dX5_order_13 : decode cX5_order 13 = .ok (.iload_n 1, 1) := by decide +kernel
theorem dX5_order_14 : decode cX5_order 14 = .ok (.iaload, 1) := by decide +kernel
theorem dX5_order_15 : decode cX5_order 15 = .ok (.iconst (-1), 1) := by decide +kernel
theorem dX5_order_16 : decode cX5_order 16 = .ok (.if_icmp .eq 13, 3) := by decide +kernel
theorem dX5_order_19 : decode cX5_order 19 = .ok (.new 59, 3) := by decide +kernel
theorem dX5_order_22 : decode cX5_order 22 = .ok (.dup, 1) := by decide +kernel
theorem dX5_order_23 : decode cX5_order 23 = .ok (.ldc 188, 2) := by decide +kernel
theorem dX5_order_25 : decode cX5_order 25 = .ok (.invokespecial 63, 3) := by decide +kernel
theorem dX5_order_28 : decode cX5_order 28 = .ok (.athrow, 1) := by decide +kernel
theorem dX5_order_29 : decode cX5_order 29 = .ok (.aload_n 0, 1) := by decide +kernel
theorem dX5_order_30 : decode cX5_order 30 = .ok (.getfield 23, 3) := by decide +kernel
theorem dX5_order_33 : decode cX5_order 33 = .ok (.iload_n 1, 1) := by decide +kernel
theorem dX5_order_34 : decode cX5_order 34 = .ok (.iload_n 2, 1) := by decide +kernel
theorem dX5_order_35 : decode cX5_order 35 = .ok (.iastore, 1) := by decide +kernel
theorem dX5_order_36 : decode cX5_order 36 = .ok (.aload_n 0, 1) := by decide +kernel
theorem dX5_order_37 : decode cX5_order 37 = .ok (.iload_n 1, 1) := by decide +kernel
theorem dX5_order_38 : decode cX5_order 38 = .ok (.invokevirtual 190, 3) := by decide +kernel
theorem dX5_order_41 : decode cX5_order 41 = .ok (.ireturn, 1) := by decide +kernel
theorem dX5_cancelOrder_0 : decode cX5_cancelOrder 0 = .ok (.aload_n 0, 1) := by decide +kernel
theorem dX5_cancelOrder_1 : decode cX5_cancelOrder 1 = .ok (.iload_n 1, 1) := by decide +kernel
theorem dX5_cancelOrder_2 : decode cX5_cancelOrder 2 = .ok (.invokevirtual 185, 3) := by decide +kernel
theorem dX5_cancelOrder_5 : decode cX5_cancelOrder 5 = .ok (.aload_n 0, 1) := by decide +kernel
theorem dX5_cancelOrder_6 : decode cX5_cancelOrder 6 = .ok (.getfield 23, 3) := by decide +kernel
theorem dX5_cancelOrder_9 : decode cX5_cancelOrder 9 = .ok (.iload_n 1, 1) := by decide +kernel
theorem dX5_cancelOrder_10 : decode cX5_cancelOrder 10 = .ok (.iaload, 1) := by decide +kernel
theorem dX5_cancelOrder_11 : decode cX5_cancelOrder 11 = .ok (.istore_n 2, 1) := by decide +kernel
theorem dX5_cancelOrder_12 : decode cX5_cancelOrder 12 = .ok (.iload_n 2, 1) := by decide +kernel
theorem dX5_cancelOrder_13 : decode cX5_cancelOrder 13 = .ok (.iconst (-1), 1) := by decide +kernel
theorem dX5_cancelOrder_14 : decode cX5_cancelOrder 14 = .ok (.if_icmp .ne 13, 3) := by decide +kernel
theorem dX5_cancelOrder_17 : decode cX5_cancelOrder 17 = .ok (.new 148, 3) := by decide +kernel
theorem dX5_cancelOrder_20 : decode cX5_cancelOrder 20 = .ok (.dup, 1) := by decide +kernel
theorem dX5_cancelOrder_21 : decode cX5_cancelOrder 21 = .ok (.ldc 193, 2) := by decide +kernel
theorem dX5_cancelOrder_23 : decode cX5_cancelOrder 23 = .ok (.invokespecial 152, 3) := by decide +kernel
theorem dX5_cancelOrder_26 : decode cX5_cancelOrder 26 = .ok (.athrow, 1) := by decide +kernel
theorem dX5_cancelOrder_27 : decode cX5_cancelOrder 27 = .ok (.aload_n 0, 1) := by decide +kernel
theorem dX5_cancelOrder_28 : decode cX5_cancelOrder 28 = .ok (.getfield 23, 3) := by decide +kernel
theorem dX5_cancelOrder_31 : decode cX5_cancelOrder 31 = .ok (.iload_n 1, 1) := by decide +kernel
theorem dX5_cancelOrder_32 : decode cX5_cancelOrder 32 = .ok (.iconst (-1), 1) := by decide +kernel
theorem dX5_cancelOrder_33 : decode cX5_cancelOrder 33 = .ok (.iastore, 1) := by decide +kernel
theorem dX5_cancelOrder_34 : decode cX5_cancelOrder 34 = .ok (.iload_n 2, 1) := by decide +kernel
theorem dX5_cancelOrder_35 : decode cX5_cancelOrder 35 = .ok (.ireturn, 1) := by decide +kernel
theorem dX5_waitingOrders_0 : decode cX5_waitingOrders 0 = .ok (.iconst 0, 1) := by decide +kernel
theorem dX5_waitingOrders_1 : decode cX5_waitingOrders 1 = .ok (.istore_n 1, 1) := by decide +kernel
theorem dX5_waitingOrders_2 : decode cX5_waitingOrders 2 = .ok (.iconst 0, 1) := by decide +kernel
theorem dX5_waitingOrders_3 : decode cX5_waitingOrders 3 = .ok (.istore_n 2, 1) := by decide +kernel
theorem dX5_waitingOrders_4 : decode cX5_waitingOrders 4 = .ok (.iload_n 2, 1) := by decide +kernel
theorem dX5_waitingOrders_5 : decode cX5_waitingOrders 5 = .ok (.aload_n 0, 1) := by decide +kernel
theorem dX5_waitingOrders_6 : decode cX5_waitingOrders 6 = .ok (.getfield 15, 3) := by decide +kernel
theorem dX5_waitingOrders_9 : decode cX5_waitingOrders 9 = .ok (.if_icmp .ge 22, 3) := by decide +kernel
theorem dX5_waitingOrders_12 : decode cX5_waitingOrders 12 = .ok (.aload_n 0, 1) := by decide +kernel
theorem dX5_waitingOrders_13 : decode cX5_waitingOrders 13 = .ok (.getfield 23, 3) := by decide +kernel
theorem dX5_waitingOrders_16 : decode cX5_waitingOrders 16 = .ok (.iload_n 2, 1) := by decide +kernel
theorem dX5_waitingOrders_17 : decode cX5_waitingOrders 17 = .ok (.iaload, 1) := by decide +kernel
theorem dX5_waitingOrders_18 : decode cX5_waitingOrders 18 = .ok (.iconst (-1), 1) := by decide +kernel
theorem dX5_waitingOrders_19 : decode cX5_waitingOrders 19 = .ok (.if_icmp .eq 6, 3) := by decide +kernel
theorem dX5_waitingOrders_22 : decode cX5_waitingOrders 22 = .ok (.iinc 1 1, 3) := by decide +kernel
theorem dX5_waitingOrders_25 : decode cX5_waitingOrders 25 = .ok (.iinc 2 1, 3) := by decide +kernel
theorem dX5_waitingOrders_28 : decode cX5_waitingOrders 28 = .ok (.goto (-24), 3) := by decide +kernel
theorem dX5_waitingOrders_31 : decode cX5_waitingOrders 31 = .ok (.iload_n 1, 1) := by decide +kernel
theorem dX5_waitingOrders_32 : decode cX5_waitingOrders 32 = .ok (.ireturn, 1) := by decide +kernel
theorem dX5_waitingPier_0 : decode cX5_waitingPier 0 = .ok (.aload_n 0, 1) := by decide +kernel
theorem dX5_waitingPier_1 : decode cX5_waitingPier 1 = .ok (.iload_n 1, 1) := by decide +kernel
theorem dX5_waitingPier_2 : decode cX5_waitingPier 2 = .ok (.invokevirtual 195, 3) := by decide +kernel
theorem dX5_waitingPier_5 : decode cX5_waitingPier 5 = .ok (.istore_n 2, 1) := by decide +kernel
theorem dX5_waitingPier_6 : decode cX5_waitingPier 6 = .ok (.iload_n 2, 1) := by decide +kernel
theorem dX5_waitingPier_7 : decode cX5_waitingPier 7 = .ok (.iconst (-1), 1) := by decide +kernel
theorem dX5_waitingPier_8 : decode cX5_waitingPier 8 = .ok (.if_icmp .ne 13, 3) := by decide +kernel
theorem dX5_waitingPier_11 : decode cX5_waitingPier 11 = .ok (.new 148, 3) := by decide +kernel
theorem dX5_waitingPier_14 : decode cX5_waitingPier 14 = .ok (.dup, 1) := by decide +kernel
theorem dX5_waitingPier_15 : decode cX5_waitingPier 15 = .ok (.ldc 150, 2) := by decide +kernel
theorem dX5_waitingPier_17 : decode cX5_waitingPier 17 = .ok (.invokespecial 152, 3) := by decide +kernel
theorem dX5_waitingPier_20 : decode cX5_waitingPier 20 = .ok (.athrow, 1) := by decide +kernel
theorem dX5_waitingPier_21 : decode cX5_waitingPier 21 = .ok (.iload_n 2, 1) := by decide +kernel
theorem dX5_waitingPier_22 : decode cX5_waitingPier 22 = .ok (.ireturn, 1) := by decide +kernel
theorem dX5_jobPier_0 : decode cX5_jobPier 0 = .ok (.aload_n 0, 1) := by decide +kernel
theorem dX5_jobPier_1 : decode cX5_jobPier 1 = .ok (.getfield 46, 3) := by decide +kernel
theorem dX5_jobPier_4 : decode cX5_jobPier 4 = .ok (.ireturn, 1) := by decide +kernel
theorem dX5_linesToPaint_0 : decode cX5_linesToPaint 0 = .ok (.aload_n 0, 1) := by decide +kernel
theorem dX5_linesToPaint_1 : decode cX5_linesToPaint 1 = .ok (.getfield 46, 3) := by decide +kernel
theorem dX5_linesToPaint_4 : decode cX5_linesToPaint 4 = .ok (.iconst (-1), 1) := by decide +kernel
theorem dX5_linesToPaint_5 : decode cX5_linesToPaint 5 = .ok (.if_icmp .ne 7, 3) := by decide +kernel
theorem dX5_linesToPaint_8 : decode cX5_linesToPaint 8 = .ok (.iconst 0, 1) := by decide +kernel
theorem dX5_linesToPaint_9 : decode cX5_linesToPaint 9 = .ok (.goto 18, 3) := by decide +kernel
theorem dX5_linesToPaint_12 : decode cX5_linesToPaint 12 = .ok (.aload_n 0, 1) := by decide +kernel
theorem dX5_linesToPaint_13 : decode cX5_linesToPaint 13 = .ok (.getfield 11, 3) := by decide +kernel
theorem dX5_linesToPaint_16 : decode cX5_linesToPaint 16 = .ok (.aload_n 0, 1) := by decide +kernel
theorem dX5_linesToPaint_17 : decode cX5_linesToPaint 17 = .ok (.getfield 46, 3) := by decide +kernel
theorem dX5_linesToPaint_20 : decode cX5_linesToPaint 20 = .ok (.aaload, 1) := by decide +kernel
theorem dX5_linesToPaint_21 : decode cX5_linesToPaint 21 = .ok (.getfield 79, 3) := by decide +kernel
theorem dX5_linesToPaint_24 : decode cX5_linesToPaint 24 = .ok (.invokevirtual 198, 3) := by decide +kernel
theorem dX5_linesToPaint_27 : decode cX5_linesToPaint 27 = .ok (.ireturn, 1) := by decide +kernel
theorem dX5_paint_0 : decode cX5_paint 0 = .ok (.iload_n 1, 1) := by decide +kernel
theorem dX5_paint_1 : decode cX5_paint 1 = .ok (.iconst 1, 1) := by decide +kernel
theorem dX5_paint_2 : decode cX5_paint 2 = .ok (.bipush 50, 2) := by decide +kernel
theorem dX5_paint_4 : decode cX5_paint 4 = .ok (.invokestatic 55, 3) := by decide +kernel
theorem dX5_paint_7 : decode cX5_paint 7 = .ok (.iconst 0, 1) := by decide +kernel
theorem dX5_paint_8 : decode cX5_paint 8 = .ok (.istore_n 2, 1) := by decide +kernel
theorem dX5_paint_9 : decode cX5_paint 9 = .ok (.iload_n 2, 1) := by decide +kernel
theorem dX5_paint_10 : decode cX5_paint 10 = .ok (.iload_n 1, 1) := by decide +kernel
theorem dX5_paint_11 : decode cX5_paint 11 = .ok (.if_icmp .ge 16, 3) := by decide +kernel
theorem dX5_paint_14 : decode cX5_paint 14 = .ok (.aload_n 0, 1) := by decide +kernel
theorem dX5_paint_15 : decode cX5_paint 15 = .ok (.invokevirtual 201, 3) := by decide +kernel
theorem dX5_paint_18 : decode cX5_paint 18 = .ok (.ifCond .eq 9, 3) := by decide +kernel
theorem dX5_paint_21 : decode cX5_paint 21 = .ok (.iinc 2 1, 3) := by decide +kernel
theorem dX5_paint_24 : decode cX5_paint 24 = .ok (.goto (-15), 3) := by decide +kernel
theorem dX5_paint_27 : decode cX5_paint 27 = .ok (.iload_n 2, 1) := by decide +kernel
theorem dX5_paint_28 : decode cX5_paint 28 = .ok (.ireturn, 1) := by decide +kernel
theorem dX5_giveUpJob_0 : decode cX5_giveUpJob 0 = .ok (.aload_n 0, 1) := by decide +kernel
theorem dX5_giveUpJob_1 : decode cX5_giveUpJob 1 = .ok (.getfield 46, 3) := by decide +kernel
theorem dX5_giveUpJob_4 : decode cX5_giveUpJob 4 = .ok (.iconst (-1), 1) := by decide +kernel
theorem dX5_giveUpJob_5 : decode cX5_giveUpJob 5 = .ok (.if_icmp .ne 13, 3) := by decide +kernel
theorem dX5_giveUpJob_8 : decode cX5_giveUpJob 8 = .ok (.new 59, 3) := by decide +kernel
theorem dX5_giveUpJob_11 : decode cX5_giveUpJob 11 = .ok (.dup, 1) := by decide +kernel
theorem dX5_giveUpJob_12 : decode cX5_giveUpJob 12 = .ok (.ldc 205, 2) := by decide +kernel
theorem dX5_giveUpJob_14 : decode cX5_giveUpJob 14 = .ok (.invokespecial 63, 3) := by decide +kernel
theorem dX5_giveUpJob_17 : decode cX5_giveUpJob 17 = .ok (.athrow, 1) := by decide +kernel
theorem dX5_giveUpJob_18 : decode cX5_giveUpJob 18 = .ok (.aload_n 0, 1) := by decide +kernel
theorem dX5_giveUpJob_19 : decode cX5_giveUpJob 19 = .ok (.getfield 11, 3) := by decide +kernel
theorem dX5_giveUpJob_22 : decode cX5_giveUpJob 22 = .ok (.aload_n 0, 1) := by decide +kernel
theorem dX5_giveUpJob_23 : decode cX5_giveUpJob 23 = .ok (.getfield 46, 3) := by decide +kernel
theorem dX5_giveUpJob_26 : decode cX5_giveUpJob 26 = .ok (.aaload, 1) := by decide +kernel
theorem dX5_giveUpJob_27 : decode cX5_giveUpJob 27 = .ok (.getfield 79, 3) := by decide +kernel
theorem dX5_giveUpJob_30 : decode cX5_giveUpJob 30 = .ok (.invokevirtual 198, 3) := by decide +kernel
theorem dX5_giveUpJob_33 : decode cX5_giveUpJob 33 = .ok (.istore_n 1, 1) := by decide +kernel
theorem dX5_giveUpJob_34 : decode cX5_giveUpJob 34 = .ok (.aload_n 0, 1) := by decide +kernel
theorem dX5_giveUpJob_35 : decode cX5_giveUpJob 35 = .ok (.iconst (-1), 1) := by decide +kernel
theorem dX5_giveUpJob_36 : decode cX5_giveUpJob 36 = .ok (.putfield 46, 3) := by decide +kernel
theorem dX5_giveUpJob_39 : decode cX5_giveUpJob 39 = .ok (.iload_n 1, 1) := by decide +kernel
theorem dX5_giveUpJob_40 : decode cX5_giveUpJob 40 = .ok (.ireturn, 1) := by decide +kernel
theorem dX5_touchUp_0 : decode cX5_touchUp 0 = .ok (.aload_n 0, 1) := by decide +kernel
theorem dX5_touchUp_1 : decode cX5_touchUp 1 = .ok (.iload_n 1, 1) := by decide +kernel
theorem dX5_touchUp_2 : decode cX5_touchUp 2 = .ok (.invokevirtual 95, 3) := by decide +kernel
theorem dX5_touchUp_5 : decode cX5_touchUp 5 = .ok (.getfield 79, 3) := by decide +kernel
theorem dX5_touchUp_8 : decode cX5_touchUp 8 = .ok (.astore_n 2, 1) := by decide +kernel
theorem dX5_touchUp_9 : decode cX5_touchUp 9 = .ok (.aload_n 2, 1) := by decide +kernel
theorem dX5_touchUp_10 : decode cX5_touchUp 10 = .ok (.invokevirtual 207, 3) := by decide +kernel
theorem dX5_touchUp_13 : decode cX5_touchUp 13 = .ok (.istore_n 3, 1) := by decide +kernel
theorem dX5_touchUp_14 : decode cX5_touchUp 14 = .ok (.iload_n 3, 1) := by decide +kernel
theorem dX5_touchUp_15 : decode cX5_touchUp 15 = .ok (.iconst (-1), 1) := by decide +kernel
theorem dX5_touchUp_16 : decode cX5_touchUp 16 = .ok (.if_icmp .ne 13, 3) := by decide +kernel
theorem dX5_touchUp_19 : decode cX5_touchUp 19 = .ok (.new 148, 3) := by decide +kernel
theorem dX5_touchUp_22 : decode cX5_touchUp 22 = .ok (.dup, 1) := by decide +kernel
theorem dX5_touchUp_23 : decode cX5_touchUp 23 = .ok (.ldc 210, 2) := by decide +kernel
theorem dX5_touchUp_25 : decode cX5_touchUp 25 = .ok (.invokespecial 152, 3) := by decide +kernel
theorem dX5_touchUp_28 : decode cX5_touchUp 28 = .ok (.athrow, 1) := by decide +kernel
theorem dX5_touchUp_29 : decode cX5_touchUp 29 = .ok (.aload_n 0, 1) := by decide +kernel
theorem dX5_touchUp_30 : decode cX5_touchUp 30 = .ok (.aload_n 2, 1) := by decide +kernel
theorem dX5_touchUp_31 : decode cX5_touchUp 31 = .ok (.iload_n 3, 1) := by decide +kernel
theorem dX5_touchUp_32 : decode cX5_touchUp 32 = .ok (.invokevirtual 212, 3) := by decide +kernel
theorem dX5_touchUp_35 : decode cX5_touchUp 35 = .ok (.iconst 5, 1) := by decide +kernel
theorem dX5_touchUp_36 : decode cX5_touchUp 36 = .ok (.invokevirtual 216, 3) := by decide +kernel
theorem dX5_touchUp_39 : decode cX5_touchUp 39 = .ok (.ifCond .ne 13, 3) := by decide +kernel
theorem dX5_touchUp_42 : decode cX5_touchUp 42 = .ok (.new 59, 3) := by decide +kernel
theorem dX5_touchUp_45 : decode cX5_touchUp 45 = .ok (.dup, 1) := by decide +kernel
theorem dX5_touchUp_46 : decode cX5_touchUp 46 = .ok (.ldc 220, 2) := by decide +kernel
theorem dX5_touchUp_48 : decode cX5_touchUp 48 = .ok (.invokespecial 63, 3) := by decide +kernel
theorem dX5_touchUp_51 : decode cX5_touchUp 51 = .ok (.athrow, 1) := by decide +kernel
theorem dX5_touchUp_52 : decode cX5_touchUp 52 = .ok (.aload_n 0, 1) := by decide +kernel
theorem dX5_touchUp_53 : decode cX5_touchUp 53 = .ok (.dup, 1) := by decide +kernel
theorem dX5_touchUp_54 : decode cX5_touchUp 54 = .ok (.getfield 49, 3) := by decide +kernel
theorem dX5_touchUp_57 : decode cX5_touchUp 57 = .ok (.iconst 5, 1) := by decide +kernel
theorem dX5_touchUp_58 : decode cX5_touchUp 58 = .ok (.iadd, 1) := by decide +kernel
theorem dX5_touchUp_59 : decode cX5_touchUp 59 = .ok (.putfield 49, 3) := by decide +kernel
theorem dX5_touchUp_62 : decode cX5_touchUp 62 = .ok (.aload_n 2, 1) := by decide +kernel
theorem dX5_touchUp_63 : decode cX5_touchUp 63 = .ok (.iload_n 3, 1) := by decide +kernel
theorem dX5_touchUp_64 : decode cX5_touchUp 64 = .ok (.aload_n 0, 1) := by decide +kernel
theorem dX5_touchUp_65 : decode cX5_touchUp 65 = .ok (.getfield 43, 3) := by decide +kernel
theorem dX5_touchUp_68 : decode cX5_touchUp 68 = .ok (.invokevirtual 222, 3) := by decide +kernel
theorem dX5_touchUp_71 : decode cX5_touchUp 71 = .ok (.iload_n 3, 1) := by decide +kernel
theorem dX5_touchUp_72 : decode cX5_touchUp 72 = .ok (.ireturn, 1) := by decide +kernel
theorem dX5_boardDay_0 : decode cX5_boardDay 0 = .ok (.aload_n 0, 1) := by decide +kernel
theorem dX5_boardDay_1 : decode cX5_boardDay 1 = .ok (.iload_n 1, 1) := by decide +kernel
theorem dX5_boardDay_2 : decode cX5_boardDay 2 = .ok (.invokevirtual 95, 3) := by decide +kernel
theorem dX5_boardDay_5 : decode cX5_boardDay 5 = .ok (.getfield 79, 3) := by decide +kernel
theorem dX5_boardDay_8 : decode cX5_boardDay 8 = .ok (.getfield 225, 3) := by decide +kernel
theorem dX5_boardDay_11 : decode cX5_boardDay 11 = .ok (.ireturn, 1) := by decide +kernel
theorem dX5_lineCount_0 : decode cX5_lineCount 0 = .ok (.aload_n 0, 1) := by decide +kernel
theorem dX5_lineCount_1 : decode cX5_lineCount 1 = .ok (.iload_n 1, 1) := by decide +kernel
theorem dX5_lineCount_2 : decode cX5_lineCount 2 = .ok (.invokevirtual 95, 3) := by decide +kernel
theorem dX5_lineCount_5 : decode cX5_lineCount 5 = .ok (.getfield 79, 3) := by decide +kernel
theorem dX5_lineCount_8 : decode cX5_lineCount 8 = .ok (.getfield 228, 3) := by decide +kernel
theorem dX5_lineCount_11 : decode cX5_lineCount 11 = .ok (.getfield 106, 3) := by decide +kernel
theorem dX5_lineCount_14 : decode cX5_lineCount 14 = .ok (.ireturn, 1) := by decide +kernel
theorem dX5_lineState_0 : decode cX5_lineState 0 = .ok (.aload_n 0, 1) := by decide +kernel
theorem dX5_lineState_1 : decode cX5_lineState 1 = .ok (.iload_n 1, 1) := by decide +kernel
theorem dX5_lineState_2 : decode cX5_lineState 2 = .ok (.iload_n 2, 1) := by decide +kernel
theorem dX5_lineState_3 : decode cX5_lineState 3 = .ok (.invokevirtual 231, 3) := by decide +kernel
theorem dX5_lineState_6 : decode cX5_lineState 6 = .ok (.getfield 235, 3) := by decide +kernel
theorem dX5_lineState_9 : decode cX5_lineState 9 = .ok (.iload_n 2, 1) := by decide +kernel
theorem dX5_lineState_10 : decode cX5_lineState 10 = .ok (.iaload, 1) := by decide +kernel
theorem dX5_lineState_11 : decode cX5_lineState 11 = .ok (.ireturn, 1) := by decide +kernel
theorem dX5_lineMinute_0 : decode cX5_lineMinute 0 = .ok (.aload_n 0, 1) := by decide +kernel
theorem dX5_lineMinute_1 : decode cX5_lineMinute 1 = .ok (.iload_n 1, 1) := by decide +kernel
theorem dX5_lineMinute_2 : decode cX5_lineMinute 2 = .ok (.iload_n 2, 1) := by decide +kernel
theorem dX5_lineMinute_3 : decode cX5_lineMinute 3 = .ok (.invokevirtual 238, 3) := by decide +kernel
theorem dX5_lineMinute_6 : decode cX5_lineMinute 6 = .ok (.getfield 228, 3) := by decide +kernel
