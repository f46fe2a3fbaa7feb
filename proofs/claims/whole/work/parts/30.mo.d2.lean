theorem d_M_round_0 : decode b_M_round 0 = .ok (.aload_n 0, 1) := by decide +kernel
theorem d_M_round_1 : decode b_M_round 1 = .ok (.iload_n 3, 1) := by decide +kernel
theorem d_M_round_2 : decode b_M_round 2 = .ok (.invokevirtual 120, 3) := by decide +kernel
theorem d_M_round_5 : decode b_M_round 5 = .ok (.ifCond .ne 5, 3) := by decide +kernel
theorem d_M_round_8 : decode b_M_round 8 = .ok (.iconst 1, 1) := by decide +kernel
theorem d_M_round_9 : decode b_M_round 9 = .ok (.ireturn, 1) := by decide +kernel
theorem d_M_round_10 : decode b_M_round 10 = .ok (.iload_n 1, 1) := by decide +kernel
theorem d_M_round_11 : decode b_M_round 11 = .ok (.bipush 7, 2) := by decide +kernel
theorem d_M_round_13 : decode b_M_round 13 = .ok (.if_icmp .ne 5, 3) := by decide +kernel
theorem d_M_round_16 : decode b_M_round 16 = .ok (.iconst 0, 1) := by decide +kernel
theorem d_M_round_17 : decode b_M_round 17 = .ok (.ireturn, 1) := by decide +kernel
theorem d_M_round_18 : decode b_M_round 18 = .ok (.aload_n 0, 1) := by decide +kernel
theorem d_M_round_19 : decode b_M_round 19 = .ok (.iload_n 1, 1) := by decide +kernel
theorem d_M_round_20 : decode b_M_round 20 = .ok (.iload_n 2, 1) := by decide +kernel
theorem d_M_round_21 : decode b_M_round 21 = .ok (.iload_n 3, 1) := by decide +kernel
theorem d_M_round_22 : decode b_M_round 22 = .ok (.invokevirtual 123, 3) := by decide +kernel
theorem d_M_round_25 : decode b_M_round 25 = .ok (.istore 4, 2) := by decide +kernel
theorem d_M_round_27 : decode b_M_round 27 = .ok (.bipush (-64), 2) := by decide +kernel
theorem d_M_round_29 : decode b_M_round 29 = .ok (.istore 5, 2) := by decide +kernel
theorem d_M_round_31 : decode b_M_round 31 = .ok (.iload 5, 2) := by decide +kernel
theorem d_M_round_33 : decode b_M_round 33 = .ok (.iload_n 3, 1) := by decide +kernel
theorem d_M_round_34 : decode b_M_round 34 = .ok (.if_icmp .ge 20, 3) := by decide +kernel
theorem d_M_round_37 : decode b_M_round 37 = .ok (.aload_n 0, 1) := by decide +kernel
theorem d_M_round_38 : decode b_M_round 38 = .ok (.getfield 41, 3) := by decide +kernel
theorem d_M_round_41 : decode b_M_round 41 = .ok (.bipush 64, 2) := by decide +kernel
theorem d_M_round_43 : decode b_M_round 43 = .ok (.iload 5, 2) := by decide +kernel
theorem d_M_round_45 : decode b_M_round 45 = .ok (.iadd, 1) := by decide +kernel
theorem d_M_round_46 : decode b_M_round 46 = .ok (.iconst 0, 1) := by decide +kernel
theorem d_M_round_47 : decode b_M_round 47 = .ok (.iastore, 1) := by decide +kernel
theorem d_M_round_48 : decode b_M_round 48 = .ok (.iinc 5 1, 3) := by decide +kernel
theorem d_M_round_51 : decode b_M_round 51 = .ok (.goto (-20), 3) := by decide +kernel
theorem d_M_round_54 : decode b_M_round 54 = .ok (.iload_n 3, 1) := by decide +kernel
theorem d_M_round_55 : decode b_M_round 55 = .ok (.istore 5, 2) := by decide +kernel
theorem d_M_round_57 : decode b_M_round 57 = .ok (.iload 4, 2) := by decide +kernel
theorem d_M_round_59 : decode b_M_round 59 = .ok (.ifCond .eq 69, 3) := by decide +kernel
theorem d_M_round_62 : decode b_M_round 62 = .ok (.iload 5, 2) := by decide +kernel
theorem d_M_round_64 : decode b_M_round 64 = .ok (.bipush 60, 2) := by decide +kernel
theorem d_M_round_66 : decode b_M_round 66 = .ok (.if_icmp .ge 62, 3) := by decide +kernel
theorem d_M_round_69 : decode b_M_round 69 = .ok (.aload_n 0, 1) := by decide +kernel
theorem d_M_round_70 : decode b_M_round 70 = .ok (.getfield 41, 3) := by decide +kernel
theorem d_M_round_73 : decode b_M_round 73 = .ok (.bipush 64, 2) := by decide +kernel
theorem d_M_round_75 : decode b_M_round 75 = .ok (.iload 5, 2) := by decide +kernel
theorem d_M_round_77 : decode b_M_round 77 = .ok (.iadd, 1) := by decide +kernel
theorem d_M_round_78 : decode b_M_round 78 = .ok (.iaload, 1) := by decide +kernel
theorem d_M_round_79 : decode b_M_round 79 = .ok (.bipush 9, 2) := by decide +kernel
theorem d_M_round_81 : decode b_M_round 81 = .ok (.if_icmp .ne 7, 3) := by decide +kernel
theorem d_M_round_84 : decode b_M_round 84 = .ok (.iconst 1, 1) := by decide +kernel
theorem d_M_round_85 : decode b_M_round 85 = .ok (.goto 4, 3) := by decide +kernel
theorem d_M_round_88 : decode b_M_round 88 = .ok (.iconst 0, 1) := by decide +kernel
theorem d_M_round_89 : decode b_M_round 89 = .ok (.istore 4, 2) := by decide +kernel
theorem d_M_round_91 : decode b_M_round 91 = .ok (.aload_n 0, 1) := by decide +kernel
theorem d_M_round_92 : decode b_M_round 92 = .ok (.getfield 41, 3) := by decide +kernel
theorem d_M_round_95 : decode b_M_round 95 = .ok (.bipush 64, 2) := by decide +kernel
theorem d_M_round_97 : decode b_M_round 97 = .ok (.iload 5, 2) := by decide +kernel
theorem d_M_round_99 : decode b_M_round 99 = .ok (.iadd, 1) := by decide +kernel
theorem d_M_round_100 : decode b_M_round 100 = .ok (.iload 4, 2) := by decide +kernel
theorem d_M_round_102 : decode b_M_round 102 = .ok (.ifCond .eq 7, 3) := by decide +kernel
theorem d_M_round_105 : decode b_M_round 105 = .ok (.iconst 0, 1) := by decide +kernel
theorem d_M_round_106 : decode b_M_round 106 = .ok (.goto 15, 3) := by decide +kernel
theorem d_M_round_109 : decode b_M_round 109 = .ok (.aload_n 0, 1) := by decide +kernel
theorem d_M_round_110 : decode b_M_round 110 = .ok (.getfield 41, 3) := by decide +kernel
theorem d_M_round_113 : decode b_M_round 113 = .ok (.bipush 64, 2) := by decide +kernel
theorem d_M_round_115 : decode b_M_round 115 = .ok (.iload 5, 2) := by decide +kernel
theorem d_M_round_117 : decode b_M_round 117 = .ok (.iadd, 1) := by decide +kernel
theorem d_M_round_118 : decode b_M_round 118 = .ok (.iaload, 1) := by decide +kernel
theorem d_M_round_119 : decode b_M_round 119 = .ok (.iconst 1, 1) := by decide +kernel
theorem d_M_round_120 : decode b_M_round 120 = .ok (.iadd, 1) := by decide +kernel
theorem d_M_round_121 : decode b_M_round 121 = .ok (.iastore, 1) := by decide +kernel
theorem d_M_round_122 : decode b_M_round 122 = .ok (.iinc 5 1, 3) := by decide +kernel
theorem d_M_round_125 : decode b_M_round 125 = .ok (.goto (-68), 3) := by decide +kernel
theorem d_M_round_128 : decode b_M_round 128 = .ok (.iconst 1, 1) := by decide +kernel
theorem d_M_round_129 : decode b_M_round 129 = .ok (.ireturn, 1) := by decide +kernel
theorem d_M_put_0 : decode b_M_put 0 = .ok (.aload_n 0, 1) := by decide +kernel
theorem d_M_put_1 : decode b_M_put 1 = .ok (.getfield 44, 3) := by decide +kernel
theorem d_M_put_4 : decode b_M_put 4 = .ok (.aload_n 0, 1) := by decide +kernel
theorem d_M_put_5 : decode b_M_put 5 = .ok (.getfield 127, 3) := by decide +kernel
theorem d_M_put_8 : decode b_M_put 8 = .ok (.iload_n 1, 1) := by decide +kernel
theorem d_M_put_9 : decode b_M_put 9 = .ok (.iastore, 1) := by decide +kernel
theorem d_M_put_10 : decode b_M_put 10 = .ok (.aload_n 0, 1) := by decide +kernel
theorem d_M_put_11 : decode b_M_put 11 = .ok (.dup, 1) := by decide +kernel
theorem d_M_put_12 : decode b_M_put 12 = .ok (.getfield 127, 3) := by decide +kernel
theorem d_M_put_15 : decode b_M_put 15 = .ok (.iconst 1, 1) := by decide +kernel
theorem d_M_put_16 : decode b_M_put 16 = .ok (.iadd, 1) := by decide +kernel
theorem d_M_put_17 : decode b_M_put 17 = .ok (.putfield 127, 3) := by decide +kernel
theorem d_M_put_20 : decode b_M_put 20 = .ok (.return_, 1) := by decide +kernel
theorem d_M_putAffix_0 : decode b_M_putAffix 0 = .ok (.iconst 0, 1) := by decide +kernel
theorem d_M_putAffix_1 : decode b_M_putAffix 1 = .ok (.istore_n 2, 1) := by decide +kernel
theorem d_M_putAffix_2 : decode b_M_putAffix 2 = .ok (.iload_n 2, 1) := by decide +kernel
theorem d_M_putAffix_3 : decode b_M_putAffix 3 = .ok (.aload_n 0, 1) := by decide +kernel
theorem d_M_putAffix_4 : decode b_M_putAffix 4 = .ok (.getfield 31, 3) := by decide +kernel
theorem d_M_putAffix_7 : decode b_M_putAffix 7 = .ok (.iload_n 1, 1) := by decide +kernel
theorem d_M_putAffix_8 : decode b_M_putAffix 8 = .ok (.iaload, 1) := by decide +kernel
theorem d_M_putAffix_9 : decode b_M_putAffix 9 = .ok (.if_icmp .ge 58, 3) := by decide +kernel
theorem d_M_putAffix_12 : decode b_M_putAffix 12 = .ok (.aload_n 0, 1) := by decide +kernel
theorem d_M_putAffix_13 : decode b_M_putAffix 13 = .ok (.getfield 28, 3) := by decide +kernel
theorem d_M_putAffix_16 : decode b_M_putAffix 16 = .ok (.bipush 40, 2) := by decide +kernel
theorem d_M_putAffix_18 : decode b_M_putAffix 18 = .ok (.iload_n 1, 1) := by decide +kernel
theorem d_M_putAffix_19 : decode b_M_putAffix 19 = .ok (.imul, 1) := by decide +kernel
theorem d_M_putAffix_20 : decode b_M_putAffix 20 = .ok (.iload_n 2, 1) := by decide +kernel
theorem d_M_putAffix_21 : decode b_M_putAffix 21 = .ok (.iadd, 1) := by decide +kernel
theorem d_M_putAffix_22 : decode b_M_putAffix 22 = .ok (.iaload, 1) := by decide +kernel
theorem d_M_putAffix_23 : decode b_M_putAffix 23 = .ok (.istore_n 3, 1) := by decide +kernel
theorem d_M_putAffix_24 : decode b_M_putAffix 24 = .ok (.aload_n 0, 1) := by decide +kernel
theorem d_M_putAffix_25 : decode b_M_putAffix 25 = .ok (.iload_n 3, 1) := by decide +kernel
theorem d_M_putAffix_26 : decode b_M_putAffix 26 = .ok (.sipush 200, 3) := by decide +kernel
theorem d_M_putAffix_29 : decode b_M_putAffix 29 = .ok (.if_icmp .ne 12, 3) := by decide +kernel
theorem d_M_putAffix_32 : decode b_M_putAffix 32 = .ok (.aload_n 0, 1) := by decide +kernel
theorem d_M_putAffix_33 : decode b_M_putAffix 33 = .ok (.getfield 34, 3) := by decide +kernel
theorem d_M_putAffix_36 : decode b_M_putAffix 36 = .ok (.iconst 2, 1) := by decide +kernel
theorem d_M_putAffix_37 : decode b_M_putAffix 37 = .ok (.iaload, 1) := by decide +kernel
theorem d_M_putAffix_38 : decode b_M_putAffix 38 = .ok (.goto 20, 3) := by decide +kernel
theorem d_M_putAffix_41 : decode b_M_putAffix 41 = .ok (.iload_n 3, 1) := by decide +kernel
theorem d_M_putAffix_42 : decode b_M_putAffix 42 = .ok (.sipush 201, 3) := by decide +kernel
theorem d_M_putAffix_45 : decode b_M_putAffix 45 = .ok (.if_icmp .ne 12, 3) := by decide +kernel
theorem d_M_putAffix_48 : decode b_M_putAffix 48 = .ok (.aload_n 0, 1) := by decide +kernel
theorem d_M_putAffix_49 : decode b_M_putAffix 49 = .ok (.getfield 34, 3) := by decide +kernel
theorem d_M_putAffix_52 : decode b_M_putAffix 52 = .ok (.iconst 3, 1) := by decide +kernel
theorem d_M_putAffix_53 : decode b_M_putAffix 53 = .ok (.iaload, 1) := by decide +kernel
theorem d_M_putAffix_54 : decode b_M_putAffix 54 = .ok (.goto 4, 3) := by decide +kernel
theorem d_M_putAffix_57 : decode b_M_putAffix 57 = .ok (.iload_n 3, 1) := by decide +kernel
theorem d_M_putAffix_58 : decode b_M_putAffix 58 = .ok (.invokevirtual 130, 3) := by decide +kernel
theorem d_M_putAffix_61 : decode b_M_putAffix 61 = .ok (.iinc 2 1, 3) := by decide +kernel
theorem d_M_putAffix_64 : decode b_M_putAffix 64 = .ok (.goto (-62), 3) := by decide +kernel
theorem d_M_putAffix_67 : decode b_M_putAffix 67 = .ok (.return_, 1) := by decide +kernel
theorem d_M_floorOf_0 : decode b_M_floorOf 0 = .ok (.iload_n 0, 1) := by decide +kernel
theorem d_M_floorOf_1 : decode b_M_floorOf 1 = .ok (.iload_n 1, 1) := by decide +kernel
theorem d_M_floorOf_2 : decode b_M_floorOf 2 = .ok (.irem, 1) := by decide +kernel
theorem d_M_floorOf_3 : decode b_M_floorOf 3 = .ok (.ifCond .ge 11, 3) := by decide +kernel
theorem d_M_floorOf_6 : decode b_M_floorOf 6 = .ok (.iload_n 0, 1) := by decide +kernel
theorem d_M_floorOf_7 : decode b_M_floorOf 7 = .ok (.iload_n 1, 1) := by decide +kernel
theorem d_M_floorOf_8 : decode b_M_floorOf 8 = .ok (.idiv, 1) := by decide +kernel
theorem d_M_floorOf_9 : decode b_M_floorOf 9 = .ok (.iconst 1, 1) := by decide +kernel
theorem d_M_floorOf_10 : decode b_M_floorOf 10 = .ok (.isub, 1) := by decide +kernel
theorem d_M_floorOf_11 : decode b_M_floorOf 11 = .ok (.goto 6, 3) := by decide +kernel
theorem d_M_floorOf_14 : decode b_M_floorOf 14 = .ok (.iload_n 0, 1) := by decide +kernel
theorem d_M_floorOf_15 : decode b_M_floorOf 15 = .ok (.iload_n 1, 1) := by decide +kernel
theorem d_M_floorOf_16 : decode b_M_floorOf 16 = .ok (.idiv, 1) := by decide +kernel
theorem d_M_floorOf_17 : decode b_M_floorOf 17 = .ok (.ireturn, 1) := by decide +kernel
theorem d_M_border_0 : decode b_M_border 0 = .ok (.iload_n 1, 1) := by decide +kernel
theorem d_M_border_1 : decode b_M_border 1 = .ok (.aload_n 0, 1) := by decide +kernel
theorem d_M_border_2 : decode b_M_border 2 = .ok (.getfield 19, 3) := by decide +kernel
theorem d_M_border_5 : decode b_M_border 5 = .ok (.bipush 7, 2) := by decide +kernel
theorem d_M_border_7 : decode b_M_border 7 = .ok (.iaload, 1) := by decide +kernel
theorem d_M_border_8 : decode b_M_border 8 = .ok (.if_icmp .eq 34, 3) := by decide +kernel
theorem d_M_border_11 : decode b_M_border 11 = .ok (.iload_n 1, 1) := by decide +kernel
theorem d_M_border_12 : decode b_M_border 12 = .ok (.aload_n 0, 1) := by decide +kernel
theorem d_M_border_13 : decode b_M_border 13 = .ok (.getfield 19, 3) := by decide +kernel
theorem d_M_border_16 : decode b_M_border 16 = .ok (.bipush 7, 2) := by decide +kernel
theorem d_M_border_18 : decode b_M_border 18 = .ok (.iaload, 1) := by decide +kernel
theorem d_M_border_19 : decode b_M_border 19 = .ok (.if_icmp .le 27, 3) := by decide +kernel
theorem d_M_border_22 : decode b_M_border 22 = .ok (.iload_n 1, 1) := by decide +kernel
theorem d_M_border_23 : decode b_M_border 23 = .ok (.aload_n 0, 1) := by decide +kernel
theorem d_M_border_24 : decode b_M_border 24 = .ok (.getfield 19, 3) := by decide +kernel
theorem d_M_border_27 : decode b_M_border 27 = .ok (.bipush 7, 2) := by decide +kernel
theorem d_M_border_29 : decode b_M_border 29 = .ok (.iaload, 1) := by decide +kernel
theorem d_M_border_30 : decode b_M_border 30 = .ok (.isub, 1) := by decide +kernel
theorem d_M_border_31 : decode b_M_border 31 = .ok (.aload_n 0, 1) := by decide +kernel
theorem d_M_border_32 : decode b_M_border 32 = .ok (.getfield 19, 3) := by decide +kernel
theorem d_M_border_35 : decode b_M_border 35 = .ok (.bipush 8, 2) := by decide +kernel
theorem d_M_border_37 : decode b_M_border 37 = .ok (.iaload, 1) := by decide +kernel
theorem d_M_border_38 : decode b_M_border 38 = .ok (.irem, 1) := by decide +kernel
theorem d_M_border_39 : decode b_M_border 39 = .ok (.ifCond .ne 7, 3) := by decide +kernel
theorem d_M_border_42 : decode b_M_border 42 = .ok (.iconst 1, 1) := by decide +kernel
theorem d_M_border_43 : decode b_M_border 43 = .ok (.goto 4, 3) := by decide +kernel
theorem d_M_border_46 : decode b_M_border 46 = .ok (.iconst 0, 1) := by decide +kernel
theorem d_M_border_47 : decode b_M_border 47 = .ok (.ireturn, 1) := by decide +kernel
theorem d_M_putDigits_0 : decode b_M_putDigits 0 = .ok (.aload_n 0, 1) := by decide +kernel
theorem d_M_putDigits_1 : decode b_M_putDigits 1 = .ok (.invokevirtual 133, 3) := by decide +kernel
theorem d_M_putDigits_4 : decode b_M_putDigits 4 = .ok (.istore_n 2, 1) := by decide +kernel
theorem d_M_putDigits_5 : decode b_M_putDigits 5 = .ok (.iload_n 2, 1) := by decide +kernel
theorem d_M_putDigits_6 : decode b_M_putDigits 6 = .ok (.iload_n 1, 1) := by decide +kernel
theorem d_M_putDigits_7 : decode b_M_putDigits 7 = .ok (.if_icmp .lt 11, 3) := by decide +kernel
theorem d_M_putDigits_10 : decode b_M_putDigits 10 = .ok (.iload_n 2, 1) := by decide +kernel
theorem d_M_putDigits_11 : decode b_M_putDigits 11 = .ok (.iload_n 1, 1) := by decide +kernel
theorem d_M_putDigits_12 : decode b_M_putDigits 12 = .ok (.isub, 1) := by decide +kernel
theorem d_M_putDigits_13 : decode b_M_putDigits 13 = .ok (.iconst 1, 1) := by decide +kernel
theorem d_M_putDigits_14 : decode b_M_putDigits 14 = .ok (.iadd, 1) := by decide +kernel
theorem d_M_putDigits_15 : decode b_M_putDigits 15 = .ok (.goto 4, 3) := by decide +kernel
theorem d_M_putDigits_18 : decode b_M_putDigits 18 = .ok (.iconst 0, 1) := by decide +kernel
theorem d_M_putDigits_19 : decode b_M_putDigits 19 = .ok (.istore_n 3, 1) := by decide +kernel
theorem d_M_putDigits_20 : decode b_M_putDigits 20 = .ok (.aload_n 0, 1) := by decide +kernel
theorem d_M_putDigits_21 : decode b_M_putDigits 21 = .ok (.getfield 19, 3) := by decide +kernel
theorem d_M_putDigits_24 : decode b_M_putDigits 24 = .ok (.iconst 4, 1) := by decide +kernel
theorem d_M_putDigits_25 : decode b_M_putDigits 25 = .ok (.iaload, 1) := by decide +kernel
theorem d_M_putDigits_26 : decode b_M_putDigits 26 = .ok (.ifCond .le 16, 3) := by decide +kernel
theorem d_M_putDigits_29 : decode b_M_putDigits 29 = .ok (.aload_n 0, 1) := by decide +kernel
theorem d_M_putDigits_30 : decode b_M_putDigits 30 = .ok (.getfield 19, 3) := by decide +kernel
theorem d_M_putDigits_33 : decode b_M_putDigits 33 = .ok (.iconst 0, 1) := by decide +kernel
theorem d_M_putDigits_34 : decode b_M_putDigits 34 = .ok (.iaload, 1) := by decide +kernel
theorem d_M_putDigits_35 : decode b_M_putDigits 35 = .ok (.ifCond .le 7, 3) := by decide +kernel
theorem d_M_putDigits_38 : decode b_M_putDigits 38 = .ok (.iconst 1, 1) := by decide +kernel
theorem d_M_putDigits_39 : decode b_M_putDigits 39 = .ok (.goto 9, 3) := by decide +kernel
theorem d_M_putDigits_42 : decode b_M_putDigits 42 = .ok (.aload_n 0, 1) := by decide +kernel
theorem d_M_putDigits_43 : decode b_M_putDigits 43 = .ok (.getfield 19, 3) := by decide +kernel
theorem d_M_putDigits_46 : decode b_M_putDigits 46 = .ok (.iconst 1, 1) := by decide +kernel
theorem d_M_putDigits_47 : decode b_M_putDigits 47 = .ok (.iaload, 1) := by decide +kernel
theorem d_M_putDigits_48 : decode b_M_putDigits 48 = .ok (.istore 4, 2) := by decide +kernel
theorem d_M_putDigits_50 : decode b_M_putDigits 50 = .ok (.iload_n 3, 1) := by decide +kernel
theorem d_M_putDigits_51 : decode b_M_putDigits 51 = .ok (.iload 4, 2) := by decide +kernel
theorem d_M_putDigits_53 : decode b_M_putDigits 53 = .ok (.if_icmp .ge 8, 3) := by decide +kernel
theorem d_M_putDigits_56 : decode b_M_putDigits 56 = .ok (.iload 4, 2) := by decide +kernel
theorem d_M_putDigits_58 : decode b_M_putDigits 58 = .ok (.goto 4, 3) := by decide +kernel
theorem d_M_putDigits_61 : decode b_M_putDigits 61 = .ok (.iload_n 3, 1) := by decide +kernel
theorem d_M_putDigits_62 : decode b_M_putDigits 62 = .ok (.istore_n 3, 1) := by decide +kernel
theorem d_M_putDigits_63 : decode b_M_putDigits 63 = .ok (.iload_n 1, 1) := by decide +kernel
theorem d_M_putDigits_64 : decode b_M_putDigits 64 = .ok (.istore 5, 2) := by decide +kernel
theorem d_M_putDigits_66 : decode b_M_putDigits 66 = .ok (.aload_n 0, 1) := by decide +kernel
theorem d_M_putDigits_67 : decode b_M_putDigits 67 = .ok (.iload 5, 2) := by decide +kernel
theorem d_M_putDigits_69 : decode b_M_putDigits 69 = .ok (.invokevirtual 120, 3) := by decide +kernel
theorem d_M_putDigits_72 : decode b_M_putDigits 72 = .ok (.ifCond .eq 9, 3) := by decide +kernel
theorem d_M_putDigits_75 : decode b_M_putDigits 75 = .ok (.iinc 5 (-1), 3) := by decide +kernel
theorem d_M_putDigits_78 : decode b_M_putDigits 78 = .ok (.goto (-12), 3) := by decide +kernel
theorem d_M_putDigits_81 : decode b_M_putDigits 81 = .ok (.iload_n 1, 1) := by decide +kernel
theorem d_M_putDigits_82 : decode b_M_putDigits 82 = .ok (.iload 5, 2) := by decide +kernel
theorem d_M_putDigits_84 : decode b_M_putDigits 84 = .ok (.isub, 1) := by decide +kernel
theorem d_M_putDigits_85 : decode b_M_putDigits 85 = .ok (.aload_n 0, 1) := by decide +kernel
theorem d_M_putDigits_86 : decode b_M_putDigits 86 = .ok (.getfield 19, 3) := by decide +kernel
theorem d_M_putDigits_89 : decode b_M_putDigits 89 = .ok (.iconst 3, 1) := by decide +kernel
theorem d_M_putDigits_90 : decode b_M_putDigits 90 = .ok (.iaload, 1) := by decide +kernel
theorem d_M_putDigits_91 : decode b_M_putDigits 91 = .ok (.if_icmp .ge 12, 3) := by decide +kernel
theorem d_M_putDigits_94 : decode b_M_putDigits 94 = .ok (.aload_n 0, 1) := by decide +kernel
theorem d_M_putDigits_95 : decode b_M_putDigits 95 = .ok (.getfield 19, 3) := by decide +kernel
theorem d_M_putDigits_98 : decode b_M_putDigits 98 = .ok (.iconst 3, 1) := by decide +kernel
theorem d_M_putDigits_99 : decode b_M_putDigits 99 = .ok (.iaload, 1) := by decide +kernel
theorem d_M_putDigits_100 : decode b_M_putDigits 100 = .ok (.goto 7, 3) := by decide +kernel
theorem d_M_putDigits_103 : decode b_M_putDigits 103 = .ok (.iload_n 1, 1) := by decide +kernel
theorem d_M_putDigits_104 : decode b_M_putDigits 104 = .ok (.iload 5, 2) := by decide +kernel
theorem d_M_putDigits_106 : decode b_M_putDigits 106 = .ok (.isub, 1) := by decide +kernel
theorem d_M_putDigits_107 : decode b_M_putDigits 107 = .ok (.istore 6, 2) := by decide +kernel
theorem d_M_putDigits_109 : decode b_M_putDigits 109 = .ok (.iload_n 3, 1) := by decide +kernel
theorem d_M_putDigits_110 : decode b_M_putDigits 110 = .ok (.ifCond .ne 12, 3) := by decide +kernel
theorem d_M_putDigits_113 : decode b_M_putDigits 113 = .ok (.iload 6, 2) := by decide +kernel
theorem d_M_putDigits_115 : decode b_M_putDigits 115 = .ok (.ifCond .ne 7, 3) := by decide +kernel
theorem d_M_putDigits_118 : decode b_M_putDigits 118 = .ok (.iconst 1, 1) := by decide +kernel
theorem d_M_putDigits_119 : decode b_M_putDigits 119 = .ok (.goto 4, 3) := by decide +kernel
theorem d_M_putDigits_122 : decode b_M_putDigits 122 = .ok (.iload_n 3, 1) := by decide +kernel
theorem d_M_putDigits_123 : decode b_M_putDigits 123 = .ok (.istore_n 3, 1) := by decide +kernel
theorem d_M_putDigits_124 : decode b_M_putDigits 124 = .ok (.aload_n 0, 1) := by decide +kernel
theorem d_M_putDigits_125 : decode b_M_putDigits 125 = .ok (.getfield 19, 3) := by decide +kernel
theorem d_M_putDigits_128 : decode b_M_putDigits 128 = .ok (.iconst 4, 1) := by decide +kernel
theorem d_M_putDigits_129 : decode b_M_putDigits 129 = .ok (.iaload, 1) := by decide +kernel
theorem d_M_putDigits_130 : decode b_M_putDigits 130 = .ok (.ifCond .ne 33, 3) := by decide +kernel
theorem d_M_putDigits_133 : decode b_M_putDigits 133 = .ok (.aload_n 0, 1) := by decide +kernel
theorem d_M_putDigits_134 : decode b_M_putDigits 134 = .ok (.getfield 19, 3) := by decide +kernel
theorem d_M_putDigits_137 : decode b_M_putDigits 137 = .ok (.bipush 6, 2) := by decide +kernel
theorem d_M_putDigits_139 : decode b_M_putDigits 139 = .ok (.iaload, 1) := by decide +kernel
theorem d_M_putDigits_140 : decode b_M_putDigits 140 = .ok (.ifCond .le 23, 3) := by decide +kernel
theorem d_M_putDigits_143 : decode b_M_putDigits 143 = .ok (.iload_n 3, 1) := by decide +kernel
theorem d_M_putDigits_144 : decode b_M_putDigits 144 = .ok (.aload_n 0, 1) := by decide +kernel
theorem d_M_putDigits_145 : decode b_M_putDigits 145 = .ok (.getfield 19, 3) := by decide +kernel
theorem d_M_putDigits_148 : decode b_M_putDigits 148 = .ok (.bipush 7, 2) := by decide +kernel
theorem d_M_putDigits_150 : decode b_M_putDigits 150 = .ok (.iaload, 1) := by decide +kernel
theorem d_M_putDigits_151 : decode b_M_putDigits 151 = .ok (.aload_n 0, 1) := by decide +kernel
theorem d_M_putDigits_152 : decode b_M_putDigits 152 = .ok (.getfield 37, 3) := by decide +kernel
theorem d_M_putDigits_155 : decode b_M_putDigits 155 = .ok (.iadd, 1) := by decide +kernel
theorem d_M_putDigits_156 : decode b_M_putDigits 156 = .ok (.if_icmp .lt 7, 3) := by decide +kernel
theorem d_M_putDigits_159 : decode b_M_putDigits 159 = .ok (.iconst 1, 1) := by decide +kernel
theorem d_M_putDigits_160 : decode b_M_putDigits 160 = .ok (.goto 4, 3) := by decide +kernel
theorem d_M_putDigits_163 : decode b_M_putDigits 163 = .ok (.iconst 0, 1) := by decide +kernel
theorem d_M_putDigits_164 : decode b_M_putDigits 164 = .ok (.istore 7, 2) := by decide +kernel
theorem d_M_putDigits_166 : decode b_M_putDigits 166 = .ok (.iload_n 3, 1) := by decide +kernel
theorem d_M_putDigits_167 : decode b_M_putDigits 167 = .ok (.iconst 1, 1) := by decide +kernel
theorem d_M_putDigits_168 : decode b_M_putDigits 168 = .ok (.isub, 1) := by decide +kernel
theorem d_M_putDigits_169 : decode b_M_putDigits 169 = .ok (.istore 8, 2) := by decide +kernel
theorem d_M_putDigits_171 : decode b_M_putDigits 171 = .ok (.iload 8, 2) := by decide +kernel
theorem d_M_putDigits_173 : decode b_M_putDigits 173 = .ok (.ifCond .lt 57, 3) := by decide +kernel
theorem d_M_putDigits_176 : decode b_M_putDigits 176 = .ok (.aload_n 0, 1) := by decide +kernel
theorem d_M_putDigits_177 : decode b_M_putDigits 177 = .ok (.aload_n 0, 1) := by decide +kernel
theorem d_M_putDigits_178 : decode b_M_putDigits 178 = .ok (.getfield 34, 3) := by decide +kernel
theorem d_M_putDigits_181 : decode b_M_putDigits 181 = .ok (.iconst 5, 1) := by decide +kernel
theorem d_M_putDigits_182 : decode b_M_putDigits 182 = .ok (.iaload, 1) := by decide +kernel
theorem d_M_putDigits_183 : decode b_M_putDigits 183 = .ok (.aload_n 0, 1) := by decide +kernel
theorem d_M_putDigits_184 : decode b_M_putDigits 184 = .ok (.iload_n 1, 1) := by decide +kernel
theorem d_M_putDigits_185 : decode b_M_putDigits 185 = .ok (.iload 8, 2) := by decide +kernel
theorem d_M_putDigits_187 : decode b_M_putDigits 187 = .ok (.iadd, 1) := by decide +kernel
theorem d_M_putDigits_188 : decode b_M_putDigits 188 = .ok (.invokevirtual 117, 3) := by decide +kernel
theorem d_M_putDigits_191 : decode b_M_putDigits 191 = .ok (.iadd, 1) := by decide +kernel
theorem d_M_putDigits_192 : decode b_M_putDigits 192 = .ok (.invokevirtual 130, 3) := by decide +kernel
theorem d_M_putDigits_195 : decode b_M_putDigits 195 = .ok (.iload 7, 2) := by decide +kernel
theorem d_M_putDigits_197 : decode b_M_putDigits 197 = .ok (.ifCond .eq 27, 3) := by decide +kernel
theorem d_M_putDigits_200 : decode b_M_putDigits 200 = .ok (.iload 8, 2) := by decide +kernel
theorem d_M_putDigits_202 : decode b_M_putDigits 202 = .ok (.ifCond .le 22, 3) := by decide +kernel
theorem d_M_putDigits_205 : decode b_M_putDigits 205 = .ok (.aload_n 0, 1) := by decide +kernel
theorem d_M_putDigits_206 : decode b_M_putDigits 206 = .ok (.iload 8, 2) := by decide +kernel
theorem d_M_putDigits_208 : decode b_M_putDigits 208 = .ok (.invokevirtual 137, 3) := by decide +kernel
theorem d_M_putDigits_211 : decode b_M_putDigits 211 = .ok (.ifCond .eq 13, 3) := by decide +kernel
theorem d_M_putDigits_214 : decode b_M_putDigits 214 = .ok (.aload_n 0, 1) := by decide +kernel
theorem d_M_putDigits_215 : decode b_M_putDigits 215 = .ok (.aload_n 0, 1) := by decide +kernel
theorem d_M_putDigits_216 : decode b_M_putDigits 216 = .ok (.getfield 34, 3) := by decide +kernel
theorem d_M_putDigits_219 : decode b_M_putDigits 219 = .ok (.iconst 1, 1) := by decide +kernel
theorem d_M_putDigits_220 : decode b_M_putDigits 220 = .ok (.iaload, 1) := by decide +kernel
theorem d_M_putDigits_221 : decode b_M_putDigits 221 = .ok (.invokevirtual 130, 3) := by decide +kernel
theorem d_M_putDigits_224 : decode b_M_putDigits 224 = .ok (.iinc 8 (-1), 3) := by decide +kernel
theorem d_M_putDigits_227 : decode b_M_putDigits 227 = .ok (.goto (-56), 3) := by decide +kernel
theorem d_M_putDigits_230 : decode b_M_putDigits 230 = .ok (.iload 6, 2) := by decide +kernel
theorem d_M_putDigits_232 : decode b_M_putDigits 232 = .ok (.ifCond .le 13, 3) := by decide +kernel
theorem d_M_putDigits_235 : decode b_M_putDigits 235 = .ok (.aload_n 0, 1) := by decide +kernel
theorem d_M_putDigits_236 : decode b_M_putDigits 236 = .ok (.aload_n 0, 1) := by decide +kernel
theorem d_M_putDigits_237 : decode b_M_putDigits 237 = .ok (.getfield 34, 3) := by decide +kernel
theorem d_M_putDigits_240 : decode b_M_putDigits 240 = .ok (.iconst 0, 1) := by decide +kernel
theorem d_M_putDigits_241 : decode b_M_putDigits 241 = .ok (.iaload, 1) := by decide +kernel
theorem d_M_putDigits_242 : decode b_M_putDigits 242 = .ok (.invokevirtual 130, 3) := by decide +kernel
theorem d_M_putDigits_245 : decode b_M_putDigits 245 = .ok (.iconst 1, 1) := by decide +kernel
theorem d_M_putDigits_246 : decode b_M_putDigits 246 = .ok (.istore 8, 2) := by decide +kernel
theorem d_M_putDigits_248 : decode b_M_putDigits 248 = .ok (.iload 8, 2) := by decide +kernel
theorem d_M_putDigits_250 : decode b_M_putDigits 250 = .ok (.iload 6, 2) := by decide +kernel
theorem d_M_putDigits_252 : decode b_M_putDigits 252 = .ok (.if_icmp .gt 28, 3) := by decide +kernel
theorem d_M_putDigits_255 : decode b_M_putDigits 255 = .ok (.aload_n 0, 1) := by decide +kernel
theorem d_M_putDigits_256 : decode b_M_putDigits 256 = .ok (.aload_n 0, 1) := by decide +kernel
theorem d_M_putDigits_257 : decode b_M_putDigits 257 = .ok (.getfield 34, 3) := by decide +kernel
theorem d_M_putDigits_260 : decode b_M_putDigits 260 = .ok (.iconst 5, 1) := by decide +kernel
theorem d_M_putDigits_261 : decode b_M_putDigits 261 = .ok (.iaload, 1) := by decide +kernel
theorem d_M_putDigits_262 : decode b_M_putDigits 262 = .ok (.aload_n 0, 1) := by decide +kernel
theorem d_M_putDigits_263 : decode b_M_putDigits 263 = .ok (.iload_n 1, 1) := by decide +kernel
theorem d_M_putDigits_264 : decode b_M_putDigits 264 = .ok (.iload 8, 2) := by decide +kernel
theorem d_M_putDigits_266 : decode b_M_putDigits 266 = .ok (.isub, 1) := by decide +kernel
theorem d_M_putDigits_267 : decode b_M_putDigits 267 = .ok (.invokevirtual 117, 3) := by decide +kernel
theorem d_M_putDigits_270 : decode b_M_putDigits 270 = .ok (.iadd, 1) := by decide +kernel
theorem d_M_putDigits_271 : decode b_M_putDigits 271 = .ok (.invokevirtual 130, 3) := by decide +kernel
theorem d_M_putDigits_274 : decode b_M_putDigits 274 = .ok (.iinc 8 1, 3) := by decide +kernel
theorem d_M_putDigits_277 : decode b_M_putDigits 277 = .ok (.goto (-29), 3) := by decide +kernel
theorem d_M_putDigits_280 : decode b_M_putDigits 280 = .ok (.return_, 1) := by decide +kernel
theorem d_M_putExponent_0 : decode b_M_putExponent 0 = .ok (.aload_n 0, 1) := by decide +kernel
theorem d_M_putExponent_1 : decode b_M_putExponent 1 = .ok (.aload_n 0, 1) := by decide +kernel
theorem d_M_putExponent_2 : decode b_M_putExponent 2 = .ok (.getfield 34, 3) := by decide +kernel
theorem d_M_putExponent_5 : decode b_M_putExponent 5 = .ok (.iconst 4, 1) := by decide +kernel
theorem d_M_putExponent_6 : decode b_M_putExponent 6 = .ok (.iaload, 1) := by decide +kernel
theorem d_M_putExponent_7 : decode b_M_putExponent 7 = .ok (.invokevirtual 130, 3) := by decide +kernel
theorem d_M_putExponent_10 : decode b_M_putExponent 10 = .ok (.iload_n 1, 1) := by decide +kernel
theorem d_M_putExponent_11 : decode b_M_putExponent 11 = .ok (.ifCond .ge 16, 3) := by decide +kernel
theorem d_M_putExponent_14 : decode b_M_putExponent 14 = .ok (.aload_n 0, 1) := by decide +kernel
theorem d_M_putExponent_15 : decode b_M_putExponent 15 = .ok (.aload_n 0, 1) := by decide +kernel
theorem d_M_putExponent_16 : decode b_M_putExponent 16 = .ok (.getfield 34, 3) := by decide +kernel
theorem d_M_putExponent_19 : decode b_M_putExponent 19 = .ok (.iconst 2, 1) := by decide +kernel
theorem d_M_putExponent_20 : decode b_M_putExponent 20 = .ok (.iaload, 1) := by decide +kernel
theorem d_M_putExponent_21 : decode b_M_putExponent 21 = .ok (.invokevirtual 130, 3) := by decide +kernel
theorem d_M_putExponent_24 : decode b_M_putExponent 24 = .ok (.goto 19, 3) := by decide +kernel
theorem d_M_putExponent_27 : decode b_M_putExponent 27 = .ok (.aload_n 0, 1) := by decide +kernel
theorem d_M_putExponent_28 : decode b_M_putExponent 28 = .ok (.getfield 19, 3) := by decide +kernel
theorem d_M_putExponent_31 : decode b_M_putExponent 31 = .ok (.iconst 5, 1) := by decide +kernel
theorem d_M_putExponent_32 : decode b_M_putExponent 32 = .ok (.iaload, 1) := by decide +kernel
theorem d_M_putExponent_33 : decode b_M_putExponent 33 = .ok (.iconst 1, 1) := by decide +kernel
theorem d_M_putExponent_34 : decode b_M_putExponent 34 = .ok (.if_icmp .ne 9, 3) := by decide +kernel
theorem d_M_putExponent_37 : decode b_M_putExponent 37 = .ok (.aload_n 0, 1) := by decide +kernel
theorem d_M_putExponent_38 : decode b_M_putExponent 38 = .ok (.bipush 43, 2) := by decide +kernel
theorem d_M_putExponent_40 : decode b_M_putExponent 40 = .ok (.invokevirtual 130, 3) := by decide +kernel
theorem d_M_putExponent_43 : decode b_M_putExponent 43 = .ok (.iload_n 1, 1) := by decide +kernel
theorem d_M_putExponent_44 : decode b_M_putExponent 44 = .ok (.ifCond .ge 8, 3) := by decide +kernel
theorem d_M_putExponent_47 : decode b_M_putExponent 47 = .ok (.iload_n 1, 1) := by decide +kernel
theorem d_M_putExponent_48 : decode b_M_putExponent 48 = .ok (.ineg, 1) := by decide +kernel
theorem d_M_putExponent_49 : decode b_M_putExponent 49 = .ok (.goto 4, 3) := by decide +kernel
theorem d_M_putExponent_52 : decode b_M_putExponent 52 = .ok (.iload_n 1, 1) := by decide +kernel
theorem d_M_putExponent_53 : decode b_M_putExponent 53 = .ok (.istore_n 2, 1) := by decide +kernel
theorem d_M_putExponent_54 : decode b_M_putExponent 54 = .ok (.iload_n 2, 1) := by decide +kernel
theorem d_M_putExponent_55 : decode b_M_putExponent 55 = .ok (.bipush 99, 2) := by decide +kernel
theorem d_M_putExponent_57 : decode b_M_putExponent 57 = .ok (.if_icmp .le 7, 3) := by decide +kernel
theorem d_M_putExponent_60 : decode b_M_putExponent 60 = .ok (.iconst 3, 1) := by decide +kernel
theorem d_M_putExponent_61 : decode b_M_putExponent 61 = .ok (.goto 14, 3) := by decide +kernel
theorem d_M_putExponent_64 : decode b_M_putExponent 64 = .ok (.iload_n 2, 1) := by decide +kernel
theorem d_M_putExponent_65 : decode b_M_putExponent 65 = .ok (.bipush 9, 2) := by decide +kernel
theorem d_M_putExponent_67 : decode b_M_putExponent 67 = .ok (.if_icmp .le 7, 3) := by decide +kernel
theorem d_M_putExponent_70 : decode b_M_putExponent 70 = .ok (.iconst 2, 1) := by decide +kernel
theorem d_M_putExponent_71 : decode b_M_putExponent 71 = .ok (.goto 4, 3) := by decide +kernel
theorem d_M_putExponent_74 : decode b_M_putExponent 74 = .ok (.iconst 1, 1) := by decide +kernel
theorem d_M_putExponent_75 : decode b_M_putExponent 75 = .ok (.istore_n 3, 1) := by decide +kernel
theorem d_M_putExponent_76 : decode b_M_putExponent 76 = .ok (.iload_n 3, 1) := by decide +kernel
theorem d_M_putExponent_77 : decode b_M_putExponent 77 = .ok (.istore 4, 2) := by decide +kernel
theorem d_M_putExponent_79 : decode b_M_putExponent 79 = .ok (.iload 4, 2) := by decide +kernel
theorem d_M_putExponent_81 : decode b_M_putExponent 81 = .ok (.aload_n 0, 1) := by decide +kernel
theorem d_M_putExponent_82 : decode b_M_putExponent 82 = .ok (.getfield 19, 3) := by decide +kernel
theorem d_M_putExponent_85 : decode b_M_putExponent 85 = .ok (.iconst 4, 1) := by decide +kernel
theorem d_M_putExponent_86 : decode b_M_putExponent 86 = .ok (.iaload, 1) := by decide +kernel
theorem d_M_putExponent_87 : decode b_M_putExponent 87 = .ok (.if_icmp .ge 19, 3) := by decide +kernel
theorem d_M_putExponent_90 : decode b_M_putExponent 90 = .ok (.aload_n 0, 1) := by decide +kernel
theorem d_M_putExponent_91 : decode b_M_putExponent 91 = .ok (.aload_n 0, 1) := by decide +kernel
theorem d_M_putExponent_92 : decode b_M_putExponent 92 = .ok (.getfield 34, 3) := by decide +kernel
theorem d_M_putExponent_95 : decode b_M_putExponent 95 = .ok (.iconst 5, 1) := by decide +kernel
theorem d_M_putExponent_96 : decode b_M_putExponent 96 = .ok (.iaload, 1) := by decide +kernel
theorem d_M_putExponent_97 : decode b_M_putExponent 97 = .ok (.invokevirtual 130, 3) := by decide +kernel
theorem d_M_putExponent_100 : decode b_M_putExponent 100 = .ok (.iinc 4 1, 3) := by decide +kernel
theorem d_M_putExponent_103 : decode b_M_putExponent 103 = .ok (.goto (-24), 3) := by decide +kernel
theorem d_M_putExponent_106 : decode b_M_putExponent 106 = .ok (.iload_n 3, 1) := by decide +kernel
theorem d_M_putExponent_107 : decode b_M_putExponent 107 = .ok (.iconst 3, 1) := by decide +kernel
theorem d_M_putExponent_108 : decode b_M_putExponent 108 = .ok (.if_icmp .ne 8, 3) := by decide +kernel
theorem d_M_putExponent_111 : decode b_M_putExponent 111 = .ok (.bipush 100, 2) := by decide +kernel
theorem d_M_putExponent_113 : decode b_M_putExponent 113 = .ok (.goto 14, 3) := by decide +kernel
theorem d_M_putExponent_116 : decode b_M_putExponent 116 = .ok (.iload_n 3, 1) := by decide +kernel
theorem d_M_putExponent_117 : decode b_M_putExponent 117 = .ok (.iconst 2, 1) := by decide +kernel
theorem d_M_putExponent_118 : decode b_M_putExponent 118 = .ok (.if_icmp .ne 8, 3) := by decide +kernel
theorem d_M_putExponent_121 : decode b_M_putExponent 121 = .ok (.bipush 10, 2) := by decide +kernel
theorem d_M_putExponent_123 : decode b_M_putExponent 123 = .ok (.goto 4, 3) := by decide +kernel
theorem d_M_putExponent_126 : decode b_M_putExponent 126 = .ok (.iconst 1, 1) := by decide +kernel
theorem d_M_putExponent_127 : decode b_M_putExponent 127 = .ok (.istore 4, 2) := by decide +kernel
theorem d_M_putExponent_129 : decode b_M_putExponent 129 = .ok (.iconst 0, 1) := by decide +kernel
theorem d_M_putExponent_130 : decode b_M_putExponent 130 = .ok (.istore 5, 2) := by decide +kernel
theorem d_M_putExponent_132 : decode b_M_putExponent 132 = .ok (.iload 5, 2) := by decide +kernel
theorem d_M_putExponent_134 : decode b_M_putExponent 134 = .ok (.iload_n 3, 1) := by decide +kernel
theorem d_M_putExponent_135 : decode b_M_putExponent 135 = .ok (.if_icmp .ge 34, 3) := by decide +kernel
theorem d_M_putExponent_138 : decode b_M_putExponent 138 = .ok (.aload_n 0, 1) := by decide +kernel
theorem d_M_putExponent_139 : decode b_M_putExponent 139 = .ok (.aload_n 0, 1) := by decide +kernel
theorem d_M_putExponent_140 : decode b_M_putExponent 140 = .ok (.getfield 34, 3) := by decide +kernel
theorem d_M_putExponent_143 : decode b_M_putExponent 143 = .ok (.iconst 5, 1) := by decide +kernel
theorem d_M_putExponent_144 : decode b_M_putExponent 144 = .ok (.iaload, 1) := by decide +kernel
theorem d_M_putExponent_145 : decode b_M_putExponent 145 = .ok (.iload_n 2, 1) := by decide +kernel
theorem d_M_putExponent_146 : decode b_M_putExponent 146 = .ok (.iload 4, 2) := by decide +kernel
theorem d_M_putExponent_148 : decode b_M_putExponent 148 = .ok (.idiv, 1) := by decide +kernel
theorem d_M_putExponent_149 : decode b_M_putExponent 149 = .ok (.bipush 10, 2) := by decide +kernel
theorem d_M_putExponent_151 : decode b_M_putExponent 151 = .ok (.irem, 1) := by decide +kernel
theorem d_M_putExponent_152 : decode b_M_putExponent 152 = .ok (.iadd, 1) := by decide +kernel
theorem d_M_putExponent_153 : decode b_M_putExponent 153 = .ok (.invokevirtual 130, 3) := by decide +kernel
theorem d_M_putExponent_156 : decode b_M_putExponent 156 = .ok (.iload 4, 2) := by decide +kernel
theorem d_M_putExponent_158 : decode b_M_putExponent 158 = .ok (.bipush 10, 2) := by decide +kernel
theorem d_M_putExponent_160 : decode b_M_putExponent 160 = .ok (.idiv, 1) := by decide +kernel
theorem d_M_putExponent_161 : decode b_M_putExponent 161 = .ok (.istore 4, 2) := by decide +kernel
theorem d_M_putExponent_163 : decode b_M_putExponent 163 = .ok (.iinc 5 1, 3) := by decide +kernel
theorem d_M_putExponent_166 : decode b_M_putExponent 166 = .ok (.goto (-34), 3) := by decide +kernel
theorem d_M_putExponent_169 : decode b_M_putExponent 169 = .ok (.return_, 1) := by decide +kernel
theorem d_M_render_0 : decode b_M_render 0 = .ok (.aload_n 0, 1) := by decide +kernel
theorem d_M_render_1 : decode b_M_render 1 = .ok (.lload_n 2, 1) := by decide +kernel
theorem d_M_render_2 : decode b_M_render 2 = .ok (.iload 4, 2) := by decide +kernel
theorem d_M_render_4 : decode b_M_render 4 = .ok (.invokevirtual 140, 3) := by decide +kernel
theorem d_M_render_7 : decode b_M_render 7 = .ok (.iconst 0, 1) := by decide +kernel
theorem d_M_render_8 : decode b_M_render 8 = .ok (.istore 6, 2) := by decide +kernel
theorem d_M_render_10 : decode b_M_render 10 = .ok (.aload_n 0, 1) := by decide +kernel
theorem d_M_render_11 : decode b_M_render 11 = .ok (.getfield 19, 3) := by decide +kernel
theorem d_M_render_14 : decode b_M_render 14 = .ok (.iconst 4, 1) := by decide +kernel
theorem d_M_render_15 : decode b_M_render 15 = .ok (.iaload, 1) := by decide +kernel
theorem d_M_render_16 : decode b_M_render 16 = .ok (.ifCond .ne 22, 3) := by decide +kernel
theorem d_M_render_19 : decode b_M_render 19 = .ok (.aload_n 0, 1) := by decide +kernel
theorem d_M_render_20 : decode b_M_render 20 = .ok (.iload 5, 2) := by decide +kernel
theorem d_M_render_22 : decode b_M_render 22 = .ok (.iload_n 1, 1) := by decide +kernel
theorem d_M_render_23 : decode b_M_render 23 = .ok (.aload_n 0, 1) := by decide +kernel
theorem d_M_render_24 : decode b_M_render 24 = .ok (.getfield 19, 3) := by decide +kernel
theorem d_M_render_27 : decode b_M_render 27 = .ok (.iconst 2, 1) := by decide +kernel
theorem d_M_render_28 : decode b_M_render 28 = .ok (.iaload, 1) := by decide +kernel
theorem d_M_render_29 : decode b_M_render 29 = .ok (.ineg, 1) := by decide +kernel
theorem d_M_render_30 : decode b_M_render 30 = .ok (.invokevirtual 144, 3) := by decide +kernel
theorem d_M_render_33 : decode b_M_render 33 = .ok (.istore 7, 2) := by decide +kernel
theorem d_M_render_35 : decode b_M_render 35 = .ok (.goto 103, 3) := by decide +kernel
theorem d_M_render_38 : decode b_M_render 38 = .ok (.aload_n 0, 1) := by decide +kernel
theorem d_M_render_39 : decode b_M_render 39 = .ok (.invokevirtual 133, 3) := by decide +kernel
theorem d_M_render_42 : decode b_M_render 42 = .ok (.bipush (-100), 2) := by decide +kernel
theorem d_M_render_44 : decode b_M_render 44 = .ok (.if_icmp .ne 9, 3) := by decide +kernel
theorem d_M_render_47 : decode b_M_render 47 = .ok (.iconst 1, 1) := by decide +kernel
theorem d_M_render_48 : decode b_M_render 48 = .ok (.istore 7, 2) := by decide +kernel
theorem d_M_render_50 : decode b_M_render 50 = .ok (.goto 88, 3) := by decide +kernel
theorem d_M_render_53 : decode b_M_render 53 = .ok (.aload_n 0, 1) := by decide +kernel
theorem d_M_render_54 : decode b_M_render 54 = .ok (.iload 5, 2) := by decide +kernel
theorem d_M_render_56 : decode b_M_render 56 = .ok (.iload_n 1, 1) := by decide +kernel
theorem d_M_render_57 : decode b_M_render 57 = .ok (.aload_n 0, 1) := by decide +kernel
theorem d_M_render_58 : decode b_M_render 58 = .ok (.invokevirtual 133, 3) := by decide +kernel
theorem d_M_render_61 : decode b_M_render 61 = .ok (.aload_n 0, 1) := by decide +kernel
theorem d_M_render_62 : decode b_M_render 62 = .ok (.getfield 19, 3) := by decide +kernel
theorem d_M_render_65 : decode b_M_render 65 = .ok (.iconst 1, 1) := by decide +kernel
theorem d_M_render_66 : decode b_M_render 66 = .ok (.iaload, 1) := by decide +kernel
theorem d_M_render_67 : decode b_M_render 67 = .ok (.isub, 1) := by decide +kernel
theorem d_M_render_68 : decode b_M_render 68 = .ok (.aload_n 0, 1) := by decide +kernel
theorem d_M_render_69 : decode b_M_render 69 = .ok (.getfield 19, 3) := by decide +kernel
theorem d_M_render_72 : decode b_M_render 72 = .ok (.iconst 2, 1) := by decide +kernel
theorem d_M_render_73 : decode b_M_render 73 = .ok (.iaload, 1) := by decide +kernel
theorem d_M_render_74 : decode b_M_render 74 = .ok (.isub, 1) := by decide +kernel
theorem d_M_render_75 : decode b_M_render 75 = .ok (.iconst 1, 1) := by decide +kernel
theorem d_M_render_76 : decode b_M_render 76 = .ok (.iadd, 1) := by decide +kernel
theorem d_M_render_77 : decode b_M_render 77 = .ok (.invokevirtual 144, 3) := by decide +kernel
theorem d_M_render_80 : decode b_M_render 80 = .ok (.istore 7, 2) := by decide +kernel
theorem d_M_render_82 : decode b_M_render 82 = .ok (.aload_n 0, 1) := by decide +kernel
theorem d_M_render_83 : decode b_M_render 83 = .ok (.invokevirtual 133, 3) := by decide +kernel
theorem d_M_render_86 : decode b_M_render 86 = .ok (.istore 8, 2) := by decide +kernel
theorem d_M_render_88 : decode b_M_render 88 = .ok (.aload_n 0, 1) := by decide +kernel
theorem d_M_render_89 : decode b_M_render 89 = .ok (.getfield 19, 3) := by decide +kernel
theorem d_M_render_92 : decode b_M_render 92 = .ok (.iconst 0, 1) := by decide +kernel
theorem d_M_render_93 : decode b_M_render 93 = .ok (.iaload, 1) := by decide +kernel
theorem d_M_render_94 : decode b_M_render 94 = .ok (.aload_n 0, 1) := by decide +kernel
theorem d_M_render_95 : decode b_M_render 95 = .ok (.getfield 19, 3) := by decide +kernel
theorem d_M_render_98 : decode b_M_render 98 = .ok (.iconst 1, 1) := by decide +kernel
theorem d_M_render_99 : decode b_M_render 99 = .ok (.iaload, 1) := by decide +kernel
theorem d_M_render_100 : decode b_M_render 100 = .ok (.iadd, 1) := by decide +kernel
theorem d_M_render_101 : decode b_M_render 101 = .ok (.istore 9, 2) := by decide +kernel
theorem d_M_render_103 : decode b_M_render 103 = .ok (.aload_n 0, 1) := by decide +kernel
theorem d_M_render_104 : decode b_M_render 104 = .ok (.getfield 19, 3) := by decide +kernel
theorem d_M_render_107 : decode b_M_render 107 = .ok (.iconst 0, 1) := by decide +kernel
theorem d_M_render_108 : decode b_M_render 108 = .ok (.iaload, 1) := by decide +kernel
theorem d_M_render_109 : decode b_M_render 109 = .ok (.ifCond .ne 17, 3) := by decide +kernel
theorem d_M_render_112 : decode b_M_render 112 = .ok (.iload 8, 2) := by decide +kernel
theorem d_M_render_114 : decode b_M_render 114 = .ok (.aload_n 0, 1) := by decide +kernel
theorem d_M_render_115 : decode b_M_render 115 = .ok (.getfield 19, 3) := by decide +kernel
theorem d_M_render_118 : decode b_M_render 118 = .ok (.iconst 1, 1) := by decide +kernel
theorem d_M_render_119 : decode b_M_render 119 = .ok (.iaload, 1) := by decide +kernel
theorem d_M_render_120 : decode b_M_render 120 = .ok (.isub, 1) := by decide +kernel
theorem d_M_render_121 : decode b_M_render 121 = .ok (.iconst 1, 1) := by decide +kernel
theorem d_M_render_122 : decode b_M_render 122 = .ok (.iadd, 1) := by decide +kernel
theorem d_M_render_123 : decode b_M_render 123 = .ok (.goto 13, 3) := by decide +kernel
theorem d_M_render_126 : decode b_M_render 126 = .ok (.iload 8, 2) := by decide +kernel
theorem d_M_render_128 : decode b_M_render 128 = .ok (.iload 9, 2) := by decide +kernel
theorem d_M_render_130 : decode b_M_render 130 = .ok (.invokestatic 147, 3) := by decide +kernel
theorem d_M_render_133 : decode b_M_render 133 = .ok (.iload 9, 2) := by decide +kernel
theorem d_M_render_135 : decode b_M_render 135 = .ok (.imul, 1) := by decide +kernel
theorem d_M_render_136 : decode b_M_render 136 = .ok (.istore 6, 2) := by decide +kernel
theorem d_M_render_138 : decode b_M_render 138 = .ok (.iload 7, 2) := by decide +kernel
theorem d_M_render_140 : decode b_M_render 140 = .ok (.ifCond .ne 5, 3) := by decide +kernel
