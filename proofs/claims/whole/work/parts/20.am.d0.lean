theorem d_Am_digit_0 : decode b_Am_digit 0 = .ok (.iload_n 1, 1) := by decide +kernel
theorem d_Am_digit_1 : decode b_Am_digit 1 = .ok (.bipush (-18), 2) := by decide +kernel
theorem d_Am_digit_3 : decode b_Am_digit 3 = .ok (.if_icmp .lt 21, 3) := by decide +kernel
theorem d_Am_digit_6 : decode b_Am_digit 6 = .ok (.iload_n 1, 1) := by decide +kernel
theorem d_Am_digit_7 : decode b_Am_digit 7 = .ok (.bipush 21, 2) := by decide +kernel
theorem d_Am_digit_9 : decode b_Am_digit 9 = .ok (.if_icmp .gt 15, 3) := by decide +kernel
theorem d_Am_digit_12 : decode b_Am_digit 12 = .ok (.aload_n 0, 1) := by decide +kernel
theorem d_Am_digit_13 : decode b_Am_digit 13 = .ok (.getfield 11, 3) := by decide +kernel
theorem d_Am_digit_16 : decode b_Am_digit 16 = .ok (.iload_n 1, 1) := by decide +kernel
theorem d_Am_digit_17 : decode b_Am_digit 17 = .ok (.bipush (-18), 2) := by decide +kernel
theorem d_Am_digit_19 : decode b_Am_digit 19 = .ok (.isub, 1) := by decide +kernel
theorem d_Am_digit_20 : decode b_Am_digit 20 = .ok (.iaload, 1) := by decide +kernel
theorem d_Am_digit_21 : decode b_Am_digit 21 = .ok (.goto 4, 3) := by decide +kernel
theorem d_Am_digit_24 : decode b_Am_digit 24 = .ok (.iconst 0, 1) := by decide +kernel
theorem d_Am_digit_25 : decode b_Am_digit 25 = .ok (.ireturn, 1) := by decide +kernel
theorem d_Am_put_0 : decode b_Am_put 0 = .ok (.iload_n 1, 1) := by decide +kernel
theorem d_Am_put_1 : decode b_Am_put 1 = .ok (.bipush (-18), 2) := by decide +kernel
theorem d_Am_put_3 : decode b_Am_put 3 = .ok (.if_icmp .lt 19, 3) := by decide +kernel
theorem d_Am_put_6 : decode b_Am_put 6 = .ok (.iload_n 1, 1) := by decide +kernel
theorem d_Am_put_7 : decode b_Am_put 7 = .ok (.bipush 21, 2) := by decide +kernel
theorem d_Am_put_9 : decode b_Am_put 9 = .ok (.if_icmp .gt 13, 3) := by decide +kernel
theorem d_Am_put_12 : decode b_Am_put 12 = .ok (.aload_n 0, 1) := by decide +kernel
theorem d_Am_put_13 : decode b_Am_put 13 = .ok (.getfield 11, 3) := by decide +kernel
theorem d_Am_put_16 : decode b_Am_put 16 = .ok (.iload_n 1, 1) := by decide +kernel
theorem d_Am_put_17 : decode b_Am_put 17 = .ok (.bipush (-18), 2) := by decide +kernel
theorem d_Am_put_19 : decode b_Am_put 19 = .ok (.isub, 1) := by decide +kernel
theorem d_Am_put_20 : decode b_Am_put 20 = .ok (.iload_n 2, 1) := by decide +kernel
theorem d_Am_put_21 : decode b_Am_put 21 = .ok (.iastore, 1) := by decide +kernel
theorem d_Am_put_22 : decode b_Am_put 22 = .ok (.return_, 1) := by decide +kernel
theorem d_Am_clearBelow_0 : decode b_Am_clearBelow 0 = .ok (.bipush (-18), 2) := by decide +kernel
theorem d_Am_clearBelow_2 : decode b_Am_clearBelow 2 = .ok (.istore_n 2, 1) := by decide +kernel
theorem d_Am_clearBelow_3 : decode b_Am_clearBelow 3 = .ok (.iload_n 2, 1) := by decide +kernel
theorem d_Am_clearBelow_4 : decode b_Am_clearBelow 4 = .ok (.iload_n 1, 1) := by decide +kernel
theorem d_Am_clearBelow_5 : decode b_Am_clearBelow 5 = .ok (.if_icmp .ge 25, 3) := by decide +kernel
theorem d_Am_clearBelow_8 : decode b_Am_clearBelow 8 = .ok (.iload_n 2, 1) := by decide +kernel
theorem d_Am_clearBelow_9 : decode b_Am_clearBelow 9 = .ok (.bipush 21, 2) := by decide +kernel
theorem d_Am_clearBelow_11 : decode b_Am_clearBelow 11 = .ok (.if_icmp .gt 19, 3) := by decide +kernel
theorem d_Am_clearBelow_14 : decode b_Am_clearBelow 14 = .ok (.aload_n 0, 1) := by decide +kernel
theorem d_Am_clearBelow_15 : decode b_Am_clearBelow 15 = .ok (.getfield 11, 3) := by decide +kernel
theorem d_Am_clearBelow_18 : decode b_Am_clearBelow 18 = .ok (.iload_n 2, 1) := by decide +kernel
theorem d_Am_clearBelow_19 : decode b_Am_clearBelow 19 = .ok (.bipush (-18), 2) := by decide +kernel
theorem d_Am_clearBelow_21 : decode b_Am_clearBelow 21 = .ok (.isub, 1) := by decide +kernel
theorem d_Am_clearBelow_22 : decode b_Am_clearBelow 22 = .ok (.iconst 0, 1) := by decide +kernel
theorem d_Am_clearBelow_23 : decode b_Am_clearBelow 23 = .ok (.iastore, 1) := by decide +kernel
theorem d_Am_clearBelow_24 : decode b_Am_clearBelow 24 = .ok (.iinc 2 1, 3) := by decide +kernel
theorem d_Am_clearBelow_27 : decode b_Am_clearBelow 27 = .ok (.goto (-24), 3) := by decide +kernel
theorem d_Am_clearBelow_30 : decode b_Am_clearBelow 30 = .ok (.return_, 1) := by decide +kernel
theorem d_Am_anyBelow_0 : decode b_Am_anyBelow 0 = .ok (.bipush (-18), 2) := by decide +kernel
theorem d_Am_anyBelow_2 : decode b_Am_anyBelow 2 = .ok (.istore_n 2, 1) := by decide +kernel
theorem d_Am_anyBelow_3 : decode b_Am_anyBelow 3 = .ok (.iload_n 2, 1) := by decide +kernel
theorem d_Am_anyBelow_4 : decode b_Am_anyBelow 4 = .ok (.iload_n 1, 1) := by decide +kernel
theorem d_Am_anyBelow_5 : decode b_Am_anyBelow 5 = .ok (.if_icmp .ge 29, 3) := by decide +kernel
theorem d_Am_anyBelow_8 : decode b_Am_anyBelow 8 = .ok (.iload_n 2, 1) := by decide +kernel
theorem d_Am_anyBelow_9 : decode b_Am_anyBelow 9 = .ok (.bipush 21, 2) := by decide +kernel
theorem d_Am_anyBelow_11 : decode b_Am_anyBelow 11 = .ok (.if_icmp .gt 23, 3) := by decide +kernel
theorem d_Am_anyBelow_14 : decode b_Am_anyBelow 14 = .ok (.aload_n 0, 1) := by decide +kernel
theorem d_Am_anyBelow_15 : decode b_Am_anyBelow 15 = .ok (.getfield 11, 3) := by decide +kernel
theorem d_Am_anyBelow_18 : decode b_Am_anyBelow 18 = .ok (.iload_n 2, 1) := by decide +kernel
theorem d_Am_anyBelow_19 : decode b_Am_anyBelow 19 = .ok (.bipush (-18), 2) := by decide +kernel
theorem d_Am_anyBelow_21 : decode b_Am_anyBelow 21 = .ok (.isub, 1) := by decide +kernel
theorem d_Am_anyBelow_22 : decode b_Am_anyBelow 22 = .ok (.iaload, 1) := by decide +kernel
theorem d_Am_anyBelow_23 : decode b_Am_anyBelow 23 = .ok (.ifCond .eq 5, 3) := by decide +kernel
theorem d_Am_anyBelow_26 : decode b_Am_anyBelow 26 = .ok (.iconst 1, 1) := by decide +kernel
theorem d_Am_anyBelow_27 : decode b_Am_anyBelow 27 = .ok (.ireturn, 1) := by decide +kernel
theorem d_Am_anyBelow_28 : decode b_Am_anyBelow 28 = .ok (.iinc 2 1, 3) := by decide +kernel
theorem d_Am_anyBelow_31 : decode b_Am_anyBelow 31 = .ok (.goto (-28), 3) := by decide +kernel
theorem d_Am_anyBelow_34 : decode b_Am_anyBelow 34 = .ok (.iconst 0, 1) := by decide +kernel
theorem d_Am_anyBelow_35 : decode b_Am_anyBelow 35 = .ok (.ireturn, 1) := by decide +kernel
theorem d_Am_fill_0 : decode b_Am_fill 0 = .ok (.aload_n 0, 1) := by decide +kernel
theorem d_Am_fill_1 : decode b_Am_fill 1 = .ok (.bipush 22, 2) := by decide +kernel
theorem d_Am_fill_3 : decode b_Am_fill 3 = .ok (.invokevirtual 15, 3) := by decide +kernel
theorem d_Am_fill_6 : decode b_Am_fill 6 = .ok (.iload 4, 2) := by decide +kernel
theorem d_Am_fill_8 : decode b_Am_fill 8 = .ok (.ifCond .eq 9, 3) := by decide +kernel
theorem d_Am_fill_11 : decode b_Am_fill 11 = .ok (.iconst 2, 1) := by decide +kernel
theorem d_Am_fill_12 : decode b_Am_fill 12 = .ok (.iload_n 3, 1) := by decide +kernel
theorem d_Am_fill_13 : decode b_Am_fill 13 = .ok (.isub, 1) := by decide +kernel
theorem d_Am_fill_14 : decode b_Am_fill 14 = .ok (.goto 5, 3) := by decide +kernel
theorem d_Am_fill_17 : decode b_Am_fill 17 = .ok (.iload_n 3, 1) := by decide +kernel
theorem d_Am_fill_18 : decode b_Am_fill 18 = .ok (.ineg, 1) := by decide +kernel
theorem d_Am_fill_19 : decode b_Am_fill 19 = .ok (.istore 5, 2) := by decide +kernel
theorem d_Am_fill_21 : decode b_Am_fill 21 = .ok (.lload_n 1, 1) := by decide +kernel
theorem d_Am_fill_22 : decode b_Am_fill 22 = .ok (.lstore 6, 2) := by decide +kernel
theorem d_Am_fill_24 : decode b_Am_fill 24 = .ok (.iconst 0, 1) := by decide +kernel
theorem d_Am_fill_25 : decode b_Am_fill 25 = .ok (.istore 8, 2) := by decide +kernel
theorem d_Am_fill_27 : decode b_Am_fill 27 = .ok (.iload 8, 2) := by decide +kernel
theorem d_Am_fill_29 : decode b_Am_fill 29 = .ok (.bipush 19, 2) := by decide +kernel
theorem d_Am_fill_31 : decode b_Am_fill 31 = .ok (.if_icmp .ge 34, 3) := by decide +kernel
theorem d_Am_fill_34 : decode b_Am_fill 34 = .ok (.aload_n 0, 1) := by decide +kernel
theorem d_Am_fill_35 : decode b_Am_fill 35 = .ok (.iload 5, 2) := by decide +kernel
theorem d_Am_fill_37 : decode b_Am_fill 37 = .ok (.iload 8, 2) := by decide +kernel
theorem d_Am_fill_39 : decode b_Am_fill 39 = .ok (.iadd, 1) := by decide +kernel
theorem d_Am_fill_40 : decode b_Am_fill 40 = .ok (.lload 6, 2) := by decide +kernel
theorem d_Am_fill_42 : decode b_Am_fill 42 = .ok (.ldc2_w 19, 3) := by decide +kernel
theorem d_Am_fill_45 : decode b_Am_fill 45 = .ok (.lrem, 1) := by decide +kernel
theorem d_Am_fill_46 : decode b_Am_fill 46 = .ok (.lneg, 1) := by decide +kernel
theorem d_Am_fill_47 : decode b_Am_fill 47 = .ok (.l2i, 1) := by decide +kernel
theorem d_Am_fill_48 : decode b_Am_fill 48 = .ok (.invokevirtual 21, 3) := by decide +kernel
theorem d_Am_fill_51 : decode b_Am_fill 51 = .ok (.lload 6, 2) := by decide +kernel
theorem d_Am_fill_53 : decode b_Am_fill 53 = .ok (.ldc2_w 19, 3) := by decide +kernel
theorem d_Am_fill_56 : decode b_Am_fill 56 = .ok (.ldiv, 1) := by decide +kernel
theorem d_Am_fill_57 : decode b_Am_fill 57 = .ok (.lstore 6, 2) := by decide +kernel
theorem d_Am_fill_59 : decode b_Am_fill 59 = .ok (.iinc 8 1, 3) := by decide +kernel
theorem d_Am_fill_62 : decode b_Am_fill 62 = .ok (.goto (-35), 3) := by decide +kernel
theorem d_Am_fill_65 : decode b_Am_fill 65 = .ok (.return_, 1) := by decide +kernel
theorem d_Am_isZero_0 : decode b_Am_isZero 0 = .ok (.aload_n 0, 1) := by decide +kernel
theorem d_Am_isZero_1 : decode b_Am_isZero 1 = .ok (.bipush 22, 2) := by decide +kernel
theorem d_Am_isZero_3 : decode b_Am_isZero 3 = .ok (.invokevirtual 25, 3) := by decide +kernel
theorem d_Am_isZero_6 : decode b_Am_isZero 6 = .ok (.ifCond .ne 7, 3) := by decide +kernel
theorem d_Am_isZero_9 : decode b_Am_isZero 9 = .ok (.iconst 1, 1) := by decide +kernel
theorem d_Am_isZero_10 : decode b_Am_isZero 10 = .ok (.goto 4, 3) := by decide +kernel
theorem d_Am_isZero_13 : decode b_Am_isZero 13 = .ok (.iconst 0, 1) := by decide +kernel
theorem d_Am_isZero_14 : decode b_Am_isZero 14 = .ok (.ireturn, 1) := by decide +kernel
theorem d_Am_firstPower_0 : decode b_Am_firstPower 0 = .ok (.bipush 21, 2) := by decide +kernel
theorem d_Am_firstPower_2 : decode b_Am_firstPower 2 = .ok (.istore_n 1, 1) := by decide +kernel
theorem d_Am_firstPower_3 : decode b_Am_firstPower 3 = .ok (.iload_n 1, 1) := by decide +kernel
theorem d_Am_firstPower_4 : decode b_Am_firstPower 4 = .ok (.bipush (-18), 2) := by decide +kernel
theorem d_Am_firstPower_6 : decode b_Am_firstPower 6 = .ok (.if_icmp .le 19, 3) := by decide +kernel
theorem d_Am_firstPower_9 : decode b_Am_firstPower 9 = .ok (.aload_n 0, 1) := by decide +kernel
theorem d_Am_firstPower_10 : decode b_Am_firstPower 10 = .ok (.iload_n 1, 1) := by decide +kernel
theorem d_Am_firstPower_11 : decode b_Am_firstPower 11 = .ok (.invokevirtual 29, 3) := by decide +kernel
theorem d_Am_firstPower_14 : decode b_Am_firstPower 14 = .ok (.ifCond .eq 5, 3) := by decide +kernel
theorem d_Am_firstPower_17 : decode b_Am_firstPower 17 = .ok (.iload_n 1, 1) := by decide +kernel
theorem d_Am_firstPower_18 : decode b_Am_firstPower 18 = .ok (.ireturn, 1) := by decide +kernel
theorem d_Am_firstPower_19 : decode b_Am_firstPower 19 = .ok (.iinc 1 (-1), 3) := by decide +kernel
theorem d_Am_firstPower_22 : decode b_Am_firstPower 22 = .ok (.goto (-19), 3) := by decide +kernel
theorem d_Am_firstPower_25 : decode b_Am_firstPower 25 = .ok (.bipush (-18), 2) := by decide +kernel
theorem d_Am_firstPower_27 : decode b_Am_firstPower 27 = .ok (.ireturn, 1) := by decide +kernel
theorem d_Am_lastPower_0 : decode b_Am_lastPower 0 = .ok (.bipush (-18), 2) := by decide +kernel
theorem d_Am_lastPower_2 : decode b_Am_lastPower 2 = .ok (.istore_n 1, 1) := by decide +kernel
theorem d_Am_lastPower_3 : decode b_Am_lastPower 3 = .ok (.iload_n 1, 1) := by decide +kernel
theorem d_Am_lastPower_4 : decode b_Am_lastPower 4 = .ok (.bipush 21, 2) := by decide +kernel
theorem d_Am_lastPower_6 : decode b_Am_lastPower 6 = .ok (.if_icmp .ge 19, 3) := by decide +kernel
theorem d_Am_lastPower_9 : decode b_Am_lastPower 9 = .ok (.aload_n 0, 1) := by decide +kernel
theorem d_Am_lastPower_10 : decode b_Am_lastPower 10 = .ok (.iload_n 1, 1) := by decide +kernel
theorem d_Am_lastPower_11 : decode b_Am_lastPower 11 = .ok (.invokevirtual 29, 3) := by decide +kernel
theorem d_Am_lastPower_14 : decode b_Am_lastPower 14 = .ok (.ifCond .eq 5, 3) := by decide +kernel
theorem d_Am_lastPower_17 : decode b_Am_lastPower 17 = .ok (.iload_n 1, 1) := by decide +kernel
theorem d_Am_lastPower_18 : decode b_Am_lastPower 18 = .ok (.ireturn, 1) := by decide +kernel
theorem d_Am_lastPower_19 : decode b_Am_lastPower 19 = .ok (.iinc 1 1, 3) := by decide +kernel
theorem d_Am_lastPower_22 : decode b_Am_lastPower 22 = .ok (.goto (-19), 3) := by decide +kernel
theorem d_Am_lastPower_25 : decode b_Am_lastPower 25 = .ok (.bipush 21, 2) := by decide +kernel
theorem d_Am_lastPower_27 : decode b_Am_lastPower 27 = .ok (.ireturn, 1) := by decide +kernel
theorem d_Am_againstHalf_0 : decode b_Am_againstHalf 0 = .ok (.aload_n 0, 1) := by decide +kernel
theorem d_Am_againstHalf_1 : decode b_Am_againstHalf 1 = .ok (.iload_n 1, 1) := by decide +kernel
theorem d_Am_againstHalf_2 : decode b_Am_againstHalf 2 = .ok (.iconst 1, 1) := by decide +kernel
theorem d_Am_againstHalf_3 : decode b_Am_againstHalf 3 = .ok (.isub, 1) := by decide +kernel
theorem d_Am_againstHalf_4 : decode b_Am_againstHalf 4 = .ok (.invokevirtual 29, 3) := by decide +kernel
theorem d_Am_againstHalf_7 : decode b_Am_againstHalf 7 = .ok (.istore_n 2, 1) := by decide +kernel
theorem d_Am_againstHalf_8 : decode b_Am_againstHalf 8 = .ok (.iload_n 2, 1) := by decide +kernel
theorem d_Am_againstHalf_9 : decode b_Am_againstHalf 9 = .ok (.iconst 5, 1) := by decide +kernel
theorem d_Am_againstHalf_10 : decode b_Am_againstHalf 10 = .ok (.if_icmp .eq 14, 3) := by decide +kernel
theorem d_Am_againstHalf_13 : decode b_Am_againstHalf 13 = .ok (.iload_n 2, 1) := by decide +kernel
theorem d_Am_againstHalf_14 : decode b_Am_againstHalf 14 = .ok (.iconst 5, 1) := by decide +kernel
theorem d_Am_againstHalf_15 : decode b_Am_againstHalf 15 = .ok (.if_icmp .ge 7, 3) := by decide +kernel
theorem d_Am_againstHalf_18 : decode b_Am_againstHalf 18 = .ok (.iconst (-1), 1) := by decide +kernel
theorem d_Am_againstHalf_19 : decode b_Am_againstHalf 19 = .ok (.goto 4, 3) := by decide +kernel
theorem d_Am_againstHalf_22 : decode b_Am_againstHalf 22 = .ok (.iconst 1, 1) := by decide +kernel
theorem d_Am_againstHalf_23 : decode b_Am_againstHalf 23 = .ok (.ireturn, 1) := by decide +kernel
theorem d_Am_againstHalf_24 : decode b_Am_againstHalf 24 = .ok (.aload_n 0, 1) := by decide +kernel
theorem d_Am_againstHalf_25 : decode b_Am_againstHalf 25 = .ok (.iload_n 1, 1) := by decide +kernel
theorem d_Am_againstHalf_26 : decode b_Am_againstHalf 26 = .ok (.iconst 1, 1) := by decide +kernel
theorem d_Am_againstHalf_27 : decode b_Am_againstHalf 27 = .ok (.isub, 1) := by decide +kernel
theorem d_Am_againstHalf_28 : decode b_Am_againstHalf 28 = .ok (.invokevirtual 25, 3) := by decide +kernel
theorem d_Am_againstHalf_31 : decode b_Am_againstHalf 31 = .ok (.ifCond .eq 7, 3) := by decide +kernel
theorem d_Am_againstHalf_34 : decode b_Am_againstHalf 34 = .ok (.iconst 1, 1) := by decide +kernel
theorem d_Am_againstHalf_35 : decode b_Am_againstHalf 35 = .ok (.goto 4, 3) := by decide +kernel
theorem d_Am_againstHalf_38 : decode b_Am_againstHalf 38 = .ok (.iconst 0, 1) := by decide +kernel
theorem d_Am_againstHalf_39 : decode b_Am_againstHalf 39 = .ok (.ireturn, 1) := by decide +kernel
theorem d_Am_goesUp_0 : decode b_Am_goesUp 0 = .ok (.iload_n 2, 1) := by decide +kernel
theorem d_Am_goesUp_1 : decode b_Am_goesUp 1 = .ok (.tableswitch 117 0 6 #[43, 117, 45, 55, 57, 71, 85], 43) := by decide +kernel
theorem d_Am_goesUp_44 : decode b_Am_goesUp 44 = .ok (.iconst 1, 1) := by decide +kernel
theorem d_Am_goesUp_45 : decode b_Am_goesUp 45 = .ok (.ireturn, 1) := by decide +kernel
theorem d_Am_goesUp_46 : decode b_Am_goesUp 46 = .ok (.iload_n 3, 1) := by decide +kernel
theorem d_Am_goesUp_47 : decode b_Am_goesUp 47 = .ok (.ifCond .ne 7, 3) := by decide +kernel
theorem d_Am_goesUp_50 : decode b_Am_goesUp 50 = .ok (.iconst 1, 1) := by decide +kernel
theorem d_Am_goesUp_51 : decode b_Am_goesUp 51 = .ok (.goto 4, 3) := by decide +kernel
theorem d_Am_goesUp_54 : decode b_Am_goesUp 54 = .ok (.iconst 0, 1) := by decide +kernel
theorem d_Am_goesUp_55 : decode b_Am_goesUp 55 = .ok (.ireturn, 1) := by decide +kernel
theorem d_Am_goesUp_56 : decode b_Am_goesUp 56 = .ok (.iload_n 3, 1) := by decide +kernel
theorem d_Am_goesUp_57 : decode b_Am_goesUp 57 = .ok (.ireturn, 1) := by decide +kernel
theorem d_Am_goesUp_58 : decode b_Am_goesUp 58 = .ok (.aload_n 0, 1) := by decide +kernel
theorem d_Am_goesUp_59 : decode b_Am_goesUp 59 = .ok (.iload_n 1, 1) := by decide +kernel
theorem d_Am_goesUp_60 : decode b_Am_goesUp 60 = .ok (.invokevirtual 40, 3) := by decide +kernel
theorem d_Am_goesUp_63 : decode b_Am_goesUp 63 = .ok (.ifCond .lt 7, 3) := by decide +kernel
theorem d_Am_goesUp_66 : decode b_Am_goesUp 66 = .ok (.iconst 1, 1) := by decide +kernel
theorem d_Am_goesUp_67 : decode b_Am_goesUp 67 = .ok (.goto 4, 3) := by decide +kernel
theorem d_Am_goesUp_70 : decode b_Am_goesUp 70 = .ok (.iconst 0, 1) := by decide +kernel
theorem d_Am_goesUp_71 : decode b_Am_goesUp 71 = .ok (.ireturn, 1) := by decide +kernel
theorem d_Am_goesUp_72 : decode b_Am_goesUp 72 = .ok (.aload_n 0, 1) := by decide +kernel
theorem d_Am_goesUp_73 : decode b_Am_goesUp 73 = .ok (.iload_n 1, 1) := by decide +kernel
theorem d_Am_goesUp_74 : decode b_Am_goesUp 74 = .ok (.invokevirtual 40, 3) := by decide +kernel
theorem d_Am_goesUp_77 : decode b_Am_goesUp 77 = .ok (.ifCond .le 7, 3) := by decide +kernel
theorem d_Am_goesUp_80 : decode b_Am_goesUp 80 = .ok (.iconst 1, 1) := by decide +kernel
theorem d_Am_goesUp_81 : decode b_Am_goesUp 81 = .ok (.goto 4, 3) := by decide +kernel
theorem d_Am_goesUp_84 : decode b_Am_goesUp 84 = .ok (.iconst 0, 1) := by decide +kernel
theorem d_Am_goesUp_85 : decode b_Am_goesUp 85 = .ok (.ireturn, 1) := by decide +kernel
theorem d_Am_goesUp_86 : decode b_Am_goesUp 86 = .ok (.aload_n 0, 1) := by decide +kernel
theorem d_Am_goesUp_87 : decode b_Am_goesUp 87 = .ok (.iload_n 1, 1) := by decide +kernel
theorem d_Am_goesUp_88 : decode b_Am_goesUp 88 = .ok (.invokevirtual 40, 3) := by decide +kernel
theorem d_Am_goesUp_91 : decode b_Am_goesUp 91 = .ok (.ifCond .gt 21, 3) := by decide +kernel
theorem d_Am_goesUp_94 : decode b_Am_goesUp 94 = .ok (.aload_n 0, 1) := by decide +kernel
theorem d_Am_goesUp_95 : decode b_Am_goesUp 95 = .ok (.iload_n 1, 1) := by decide +kernel
theorem d_Am_goesUp_96 : decode b_Am_goesUp 96 = .ok (.invokevirtual 40, 3) := by decide +kernel
theorem d_Am_goesUp_99 : decode b_Am_goesUp 99 = .ok (.ifCond .ne 17, 3) := by decide +kernel
theorem d_Am_goesUp_102 : decode b_Am_goesUp 102 = .ok (.aload_n 0, 1) := by decide +kernel
theorem d_Am_goesUp_103 : decode b_Am_goesUp 103 = .ok (.iload_n 1, 1) := by decide +kernel
theorem d_Am_goesUp_104 : decode b_Am_goesUp 104 = .ok (.invokevirtual 29, 3) := by decide +kernel
theorem d_Am_goesUp_107 : decode b_Am_goesUp 107 = .ok (.iconst 2, 1) := by decide +kernel
theorem d_Am_goesUp_108 : decode b_Am_goesUp 108 = .ok (.irem, 1) := by decide +kernel
theorem d_Am_goesUp_109 : decode b_Am_goesUp 109 = .ok (.ifCond .eq 7, 3) := by decide +kernel
theorem d_Am_goesUp_112 : decode b_Am_goesUp 112 = .ok (.iconst 1, 1) := by decide +kernel
theorem d_Am_goesUp_113 : decode b_Am_goesUp 113 = .ok (.goto 4, 3) := by decide +kernel
theorem d_Am_goesUp_116 : decode b_Am_goesUp 116 = .ok (.iconst 0, 1) := by decide +kernel
theorem d_Am_goesUp_117 : decode b_Am_goesUp 117 = .ok (.ireturn, 1) := by decide +kernel
theorem d_Am_goesUp_118 : decode b_Am_goesUp 118 = .ok (.iconst 0, 1) := by decide +kernel
theorem d_Am_goesUp_119 : decode b_Am_goesUp 119 = .ok (.ireturn, 1) := by decide +kernel
theorem d_Am_addOneAt_0 : decode b_Am_addOneAt 0 = .ok (.iload_n 1, 1) := by decide +kernel
theorem d_Am_addOneAt_1 : decode b_Am_addOneAt 1 = .ok (.istore_n 2, 1) := by decide +kernel
theorem d_Am_addOneAt_2 : decode b_Am_addOneAt 2 = .ok (.iload_n 2, 1) := by decide +kernel
theorem d_Am_addOneAt_3 : decode b_Am_addOneAt 3 = .ok (.bipush 21, 2) := by decide +kernel
theorem d_Am_addOneAt_5 : decode b_Am_addOneAt 5 = .ok (.if_icmp .gt 38, 3) := by decide +kernel
theorem d_Am_addOneAt_8 : decode b_Am_addOneAt 8 = .ok (.aload_n 0, 1) := by decide +kernel
theorem d_Am_addOneAt_9 : decode b_Am_addOneAt 9 = .ok (.iload_n 2, 1) := by decide +kernel
theorem d_Am_addOneAt_10 : decode b_Am_addOneAt 10 = .ok (.invokevirtual 29, 3) := by decide +kernel
theorem d_Am_addOneAt_13 : decode b_Am_addOneAt 13 = .ok (.bipush 9, 2) := by decide +kernel
theorem d_Am_addOneAt_15 : decode b_Am_addOneAt 15 = .ok (.if_icmp .ge 16, 3) := by decide +kernel
theorem d_Am_addOneAt_18 : decode b_Am_addOneAt 18 = .ok (.aload_n 0, 1) := by decide +kernel
theorem d_Am_addOneAt_19 : decode b_Am_addOneAt 19 = .ok (.iload_n 2, 1) := by decide +kernel
theorem d_Am_addOneAt_20 : decode b_Am_addOneAt 20 = .ok (.aload_n 0, 1) := by decide +kernel
theorem d_Am_addOneAt_21 : decode b_Am_addOneAt 21 = .ok (.iload_n 2, 1) := by decide +kernel
theorem d_Am_addOneAt_22 : decode b_Am_addOneAt 22 = .ok (.invokevirtual 29, 3) := by decide +kernel
theorem d_Am_addOneAt_25 : decode b_Am_addOneAt 25 = .ok (.iconst 1, 1) := by decide +kernel
theorem d_Am_addOneAt_26 : decode b_Am_addOneAt 26 = .ok (.iadd, 1) := by decide +kernel
theorem d_Am_addOneAt_27 : decode b_Am_addOneAt 27 = .ok (.invokevirtual 21, 3) := by decide +kernel
theorem d_Am_addOneAt_30 : decode b_Am_addOneAt 30 = .ok (.return_, 1) := by decide +kernel
theorem d_Am_addOneAt_31 : decode b_Am_addOneAt 31 = .ok (.aload_n 0, 1) := by decide +kernel
theorem d_Am_addOneAt_32 : decode b_Am_addOneAt 32 = .ok (.iload_n 2, 1) := by decide +kernel
theorem d_Am_addOneAt_33 : decode b_Am_addOneAt 33 = .ok (.iconst 0, 1) := by decide +kernel
theorem d_Am_addOneAt_34 : decode b_Am_addOneAt 34 = .ok (.invokevirtual 21, 3) := by decide +kernel
theorem d_Am_addOneAt_37 : decode b_Am_addOneAt 37 = .ok (.iinc 2 1, 3) := by decide +kernel
theorem d_Am_addOneAt_40 : decode b_Am_addOneAt 40 = .ok (.goto (-38), 3) := by decide +kernel
theorem d_Am_addOneAt_43 : decode b_Am_addOneAt 43 = .ok (.return_, 1) := by decide +kernel
theorem d_Am_roundTo_0 : decode b_Am_roundTo 0 = .ok (.aload_n 0, 1) := by decide +kernel
theorem d_Am_roundTo_1 : decode b_Am_roundTo 1 = .ok (.iload_n 1, 1) := by decide +kernel
theorem d_Am_roundTo_2 : decode b_Am_roundTo 2 = .ok (.invokevirtual 25, 3) := by decide +kernel
theorem d_Am_roundTo_5 : decode b_Am_roundTo 5 = .ok (.ifCond .ne 5, 3) := by decide +kernel
theorem d_Am_roundTo_8 : decode b_Am_roundTo 8 = .ok (.iconst 1, 1) := by decide +kernel
theorem d_Am_roundTo_9 : decode b_Am_roundTo 9 = .ok (.ireturn, 1) := by decide +kernel
theorem d_Am_roundTo_10 : decode b_Am_roundTo 10 = .ok (.iload_n 2, 1) := by decide +kernel
theorem d_Am_roundTo_11 : decode b_Am_roundTo 11 = .ok (.bipush 7, 2) := by decide +kernel
theorem d_Am_roundTo_13 : decode b_Am_roundTo 13 = .ok (.if_icmp .ne 5, 3) := by decide +kernel
theorem d_Am_roundTo_16 : decode b_Am_roundTo 16 = .ok (.iconst 0, 1) := by decide +kernel
theorem d_Am_roundTo_17 : decode b_Am_roundTo 17 = .ok (.ireturn, 1) := by decide +kernel
theorem d_Am_roundTo_18 : decode b_Am_roundTo 18 = .ok (.aload_n 0, 1) := by decide +kernel
theorem d_Am_roundTo_19 : decode b_Am_roundTo 19 = .ok (.iload_n 1, 1) := by decide +kernel
theorem d_Am_roundTo_20 : decode b_Am_roundTo 20 = .ok (.iload_n 2, 1) := by decide +kernel
theorem d_Am_roundTo_21 : decode b_Am_roundTo 21 = .ok (.iload_n 3, 1) := by decide +kernel
theorem d_Am_roundTo_22 : decode b_Am_roundTo 22 = .ok (.invokevirtual 33, 3) := by decide +kernel
theorem d_Am_roundTo_25 : decode b_Am_roundTo 25 = .ok (.istore 4, 2) := by decide +kernel
theorem d_Am_roundTo_27 : decode b_Am_roundTo 27 = .ok (.aload_n 0, 1) := by decide +kernel
theorem d_Am_roundTo_28 : decode b_Am_roundTo 28 = .ok (.iload_n 1, 1) := by decide +kernel
theorem d_Am_roundTo_29 : decode b_Am_roundTo 29 = .ok (.invokevirtual 15, 3) := by decide +kernel
theorem d_Am_roundTo_32 : decode b_Am_roundTo 32 = .ok (.iload 4, 2) := by decide +kernel
theorem d_Am_roundTo_34 : decode b_Am_roundTo 34 = .ok (.ifCond .eq 8, 3) := by decide +kernel
theorem d_Am_roundTo_37 : decode b_Am_roundTo 37 = .ok (.aload_n 0, 1) := by decide +kernel
theorem d_Am_roundTo_38 : decode b_Am_roundTo 38 = .ok (.iload_n 1, 1) := by decide +kernel
theorem d_Am_roundTo_39 : decode b_Am_roundTo 39 = .ok (.invokevirtual 37, 3) := by decide +kernel
theorem d_Am_roundTo_42 : decode b_Am_roundTo 42 = .ok (.iconst 1, 1) := by decide +kernel
theorem d_Am_roundTo_43 : decode b_Am_roundTo 43 = .ok (.ireturn, 1) := by decide +kernel
