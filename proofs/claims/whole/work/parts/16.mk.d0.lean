theorem d_Mk_beginSub_0 : decode b_Mk_beginSub 0 = .ok (.aload_n 0, 1) := by decide +kernel
theorem d_Mk_beginSub_1 : decode b_Mk_beginSub 1 = .ok (.aload_n 1, 1) := by decide +kernel
theorem d_Mk_beginSub_2 : decode b_Mk_beginSub 2 = .ok (.putfield 21, 3) := by decide +kernel
theorem d_Mk_beginSub_5 : decode b_Mk_beginSub 5 = .ok (.aload_n 0, 1) := by decide +kernel
theorem d_Mk_beginSub_6 : decode b_Mk_beginSub 6 = .ok (.iconst 0, 1) := by decide +kernel
theorem d_Mk_beginSub_7 : decode b_Mk_beginSub 7 = .ok (.putfield 53, 3) := by decide +kernel
theorem d_Mk_beginSub_10 : decode b_Mk_beginSub 10 = .ok (.aload_n 0, 1) := by decide +kernel
theorem d_Mk_beginSub_11 : decode b_Mk_beginSub 11 = .ok (.iconst 0, 1) := by decide +kernel
theorem d_Mk_beginSub_12 : decode b_Mk_beginSub 12 = .ok (.putfield 49, 3) := by decide +kernel
theorem d_Mk_beginSub_15 : decode b_Mk_beginSub 15 = .ok (.aload_n 0, 1) := by decide +kernel
theorem d_Mk_beginSub_16 : decode b_Mk_beginSub 16 = .ok (.iconst 0, 1) := by decide +kernel
theorem d_Mk_beginSub_17 : decode b_Mk_beginSub 17 = .ok (.putfield 56, 3) := by decide +kernel
theorem d_Mk_beginSub_20 : decode b_Mk_beginSub 20 = .ok (.return_, 1) := by decide +kernel
theorem d_Mk_numberEnded_0 : decode b_Mk_numberEnded 0 = .ok (.aload_n 0, 1) := by decide +kernel
theorem d_Mk_numberEnded_1 : decode b_Mk_numberEnded 1 = .ok (.getfield 53, 3) := by decide +kernel
theorem d_Mk_numberEnded_4 : decode b_Mk_numberEnded 4 = .ok (.iconst 1, 1) := by decide +kernel
theorem d_Mk_numberEnded_5 : decode b_Mk_numberEnded 5 = .ok (.if_icmp .eq 29, 3) := by decide +kernel
theorem d_Mk_numberEnded_8 : decode b_Mk_numberEnded 8 = .ok (.aload_n 0, 1) := by decide +kernel
theorem d_Mk_numberEnded_9 : decode b_Mk_numberEnded 9 = .ok (.getfield 53, 3) := by decide +kernel
theorem d_Mk_numberEnded_12 : decode b_Mk_numberEnded 12 = .ok (.iconst 4, 1) := by decide +kernel
theorem d_Mk_numberEnded_13 : decode b_Mk_numberEnded 13 = .ok (.if_icmp .eq 21, 3) := by decide +kernel
theorem d_Mk_numberEnded_16 : decode b_Mk_numberEnded 16 = .ok (.aload_n 0, 1) := by decide +kernel
theorem d_Mk_numberEnded_17 : decode b_Mk_numberEnded 17 = .ok (.getfield 53, 3) := by decide +kernel
theorem d_Mk_numberEnded_20 : decode b_Mk_numberEnded 20 = .ok (.bipush 7, 2) := by decide +kernel
theorem d_Mk_numberEnded_22 : decode b_Mk_numberEnded 22 = .ok (.if_icmp .eq 12, 3) := by decide +kernel
theorem d_Mk_numberEnded_25 : decode b_Mk_numberEnded 25 = .ok (.aload_n 0, 1) := by decide +kernel
theorem d_Mk_numberEnded_26 : decode b_Mk_numberEnded 26 = .ok (.getfield 53, 3) := by decide +kernel
theorem d_Mk_numberEnded_29 : decode b_Mk_numberEnded 29 = .ok (.bipush 8, 2) := by decide +kernel
theorem d_Mk_numberEnded_31 : decode b_Mk_numberEnded 31 = .ok (.if_icmp .ne 7, 3) := by decide +kernel
theorem d_Mk_numberEnded_34 : decode b_Mk_numberEnded 34 = .ok (.iconst 1, 1) := by decide +kernel
theorem d_Mk_numberEnded_35 : decode b_Mk_numberEnded 35 = .ok (.goto 4, 3) := by decide +kernel
theorem d_Mk_numberEnded_38 : decode b_Mk_numberEnded 38 = .ok (.iconst 0, 1) := by decide +kernel
theorem d_Mk_numberEnded_39 : decode b_Mk_numberEnded 39 = .ok (.ireturn, 1) := by decide +kernel
theorem d_Mk_inInteger_0 : decode b_Mk_inInteger 0 = .ok (.aload_n 0, 1) := by decide +kernel
theorem d_Mk_inInteger_1 : decode b_Mk_inInteger 1 = .ok (.getfield 53, 3) := by decide +kernel
theorem d_Mk_inInteger_4 : decode b_Mk_inInteger 4 = .ok (.ifCond .eq 19, 3) := by decide +kernel
theorem d_Mk_inInteger_7 : decode b_Mk_inInteger 7 = .ok (.aload_n 0, 1) := by decide +kernel
theorem d_Mk_inInteger_8 : decode b_Mk_inInteger 8 = .ok (.getfield 53, 3) := by decide +kernel
theorem d_Mk_inInteger_11 : decode b_Mk_inInteger 11 = .ok (.iconst 1, 1) := by decide +kernel
theorem d_Mk_inInteger_12 : decode b_Mk_inInteger 12 = .ok (.if_icmp .eq 11, 3) := by decide +kernel
theorem d_Mk_inInteger_15 : decode b_Mk_inInteger 15 = .ok (.aload_n 0, 1) := by decide +kernel
theorem d_Mk_inInteger_16 : decode b_Mk_inInteger 16 = .ok (.getfield 53, 3) := by decide +kernel
theorem d_Mk_inInteger_19 : decode b_Mk_inInteger 19 = .ok (.iconst 2, 1) := by decide +kernel
theorem d_Mk_inInteger_20 : decode b_Mk_inInteger 20 = .ok (.if_icmp .ne 7, 3) := by decide +kernel
theorem d_Mk_inInteger_23 : decode b_Mk_inInteger 23 = .ok (.iconst 1, 1) := by decide +kernel
theorem d_Mk_inInteger_24 : decode b_Mk_inInteger 24 = .ok (.goto 4, 3) := by decide +kernel
theorem d_Mk_inInteger_27 : decode b_Mk_inInteger 27 = .ok (.iconst 0, 1) := by decide +kernel
theorem d_Mk_inInteger_28 : decode b_Mk_inInteger 28 = .ok (.ireturn, 1) := by decide +kernel
theorem d_Mk_takeHash_0 : decode b_Mk_takeHash 0 = .ok (.aload_n 0, 1) := by decide +kernel
theorem d_Mk_takeHash_1 : decode b_Mk_takeHash 1 = .ok (.getfield 53, 3) := by decide +kernel
theorem d_Mk_takeHash_4 : decode b_Mk_takeHash 4 = .ok (.iconst 3, 1) := by decide +kernel
theorem d_Mk_takeHash_5 : decode b_Mk_takeHash 5 = .ok (.if_icmp .eq 11, 3) := by decide +kernel
theorem d_Mk_takeHash_8 : decode b_Mk_takeHash 8 = .ok (.aload_n 0, 1) := by decide +kernel
theorem d_Mk_takeHash_9 : decode b_Mk_takeHash 9 = .ok (.getfield 53, 3) := by decide +kernel
theorem d_Mk_takeHash_12 : decode b_Mk_takeHash 12 = .ok (.iconst 4, 1) := by decide +kernel
theorem d_Mk_takeHash_13 : decode b_Mk_takeHash 13 = .ok (.if_icmp .ne 23, 3) := by decide +kernel
theorem d_Mk_takeHash_16 : decode b_Mk_takeHash 16 = .ok (.aload_n 0, 1) := by decide +kernel
theorem d_Mk_takeHash_17 : decode b_Mk_takeHash 17 = .ok (.getfield 21, 3) := by decide +kernel
theorem d_Mk_takeHash_20 : decode b_Mk_takeHash 20 = .ok (.dup, 1) := by decide +kernel
theorem d_Mk_takeHash_21 : decode b_Mk_takeHash 21 = .ok (.getfield 87, 3) := by decide +kernel
theorem d_Mk_takeHash_24 : decode b_Mk_takeHash 24 = .ok (.iconst 1, 1) := by decide +kernel
theorem d_Mk_takeHash_25 : decode b_Mk_takeHash 25 = .ok (.iadd, 1) := by decide +kernel
theorem d_Mk_takeHash_26 : decode b_Mk_takeHash 26 = .ok (.putfield 87, 3) := by decide +kernel
theorem d_Mk_takeHash_29 : decode b_Mk_takeHash 29 = .ok (.aload_n 0, 1) := by decide +kernel
theorem d_Mk_takeHash_30 : decode b_Mk_takeHash 30 = .ok (.iconst 4, 1) := by decide +kernel
theorem d_Mk_takeHash_31 : decode b_Mk_takeHash 31 = .ok (.putfield 53, 3) := by decide +kernel
theorem d_Mk_takeHash_34 : decode b_Mk_takeHash 34 = .ok (.iconst 1, 1) := by decide +kernel
theorem d_Mk_takeHash_35 : decode b_Mk_takeHash 35 = .ok (.ireturn, 1) := by decide +kernel
theorem d_Mk_takeHash_36 : decode b_Mk_takeHash 36 = .ok (.aload_n 0, 1) := by decide +kernel
theorem d_Mk_takeHash_37 : decode b_Mk_takeHash 37 = .ok (.invokevirtual 92, 3) := by decide +kernel
theorem d_Mk_takeHash_40 : decode b_Mk_takeHash 40 = .ok (.ifCond .eq 13, 3) := by decide +kernel
theorem d_Mk_takeHash_43 : decode b_Mk_takeHash 43 = .ok (.aload_n 0, 1) := by decide +kernel
theorem d_Mk_takeHash_44 : decode b_Mk_takeHash 44 = .ok (.getfield 21, 3) := by decide +kernel
theorem d_Mk_takeHash_47 : decode b_Mk_takeHash 47 = .ok (.getfield 95, 3) := by decide +kernel
theorem d_Mk_takeHash_50 : decode b_Mk_takeHash 50 = .ok (.ifCond .le 5, 3) := by decide +kernel
theorem d_Mk_takeHash_53 : decode b_Mk_takeHash 53 = .ok (.iconst 0, 1) := by decide +kernel
theorem d_Mk_takeHash_54 : decode b_Mk_takeHash 54 = .ok (.ireturn, 1) := by decide +kernel
theorem d_Mk_takeHash_55 : decode b_Mk_takeHash 55 = .ok (.aload_n 0, 1) := by decide +kernel
theorem d_Mk_takeHash_56 : decode b_Mk_takeHash 56 = .ok (.getfield 21, 3) := by decide +kernel
theorem d_Mk_takeHash_59 : decode b_Mk_takeHash 59 = .ok (.dup, 1) := by decide +kernel
theorem d_Mk_takeHash_60 : decode b_Mk_takeHash 60 = .ok (.getfield 98, 3) := by decide +kernel
theorem d_Mk_takeHash_63 : decode b_Mk_takeHash 63 = .ok (.iconst 1, 1) := by decide +kernel
theorem d_Mk_takeHash_64 : decode b_Mk_takeHash 64 = .ok (.iadd, 1) := by decide +kernel
theorem d_Mk_takeHash_65 : decode b_Mk_takeHash 65 = .ok (.putfield 98, 3) := by decide +kernel
theorem d_Mk_takeHash_68 : decode b_Mk_takeHash 68 = .ok (.aload_n 0, 1) := by decide +kernel
theorem d_Mk_takeHash_69 : decode b_Mk_takeHash 69 = .ok (.getfield 21, 3) := by decide +kernel
theorem d_Mk_takeHash_72 : decode b_Mk_takeHash 72 = .ok (.dup, 1) := by decide +kernel
theorem d_Mk_takeHash_73 : decode b_Mk_takeHash 73 = .ok (.getfield 101, 3) := by decide +kernel
theorem d_Mk_takeHash_76 : decode b_Mk_takeHash 76 = .ok (.iconst 1, 1) := by decide +kernel
theorem d_Mk_takeHash_77 : decode b_Mk_takeHash 77 = .ok (.iadd, 1) := by decide +kernel
theorem d_Mk_takeHash_78 : decode b_Mk_takeHash 78 = .ok (.putfield 101, 3) := by decide +kernel
theorem d_Mk_takeHash_81 : decode b_Mk_takeHash 81 = .ok (.aload_n 0, 1) := by decide +kernel
theorem d_Mk_takeHash_82 : decode b_Mk_takeHash 82 = .ok (.iconst 1, 1) := by decide +kernel
theorem d_Mk_takeHash_83 : decode b_Mk_takeHash 83 = .ok (.putfield 53, 3) := by decide +kernel
theorem d_Mk_takeHash_86 : decode b_Mk_takeHash 86 = .ok (.iconst 1, 1) := by decide +kernel
theorem d_Mk_takeHash_87 : decode b_Mk_takeHash 87 = .ok (.ireturn, 1) := by decide +kernel
theorem d_Mk_takeFractionZero_0 : decode b_Mk_takeFractionZero 0 = .ok (.aload_n 0, 1) := by decide +kernel
theorem d_Mk_takeFractionZero_1 : decode b_Mk_takeFractionZero 1 = .ok (.getfield 21, 3) := by decide +kernel
theorem d_Mk_takeFractionZero_4 : decode b_Mk_takeFractionZero 4 = .ok (.getfield 87, 3) := by decide +kernel
theorem d_Mk_takeFractionZero_7 : decode b_Mk_takeFractionZero 7 = .ok (.aload_n 0, 1) := by decide +kernel
theorem d_Mk_takeFractionZero_8 : decode b_Mk_takeFractionZero 8 = .ok (.getfield 21, 3) := by decide +kernel
theorem d_Mk_takeFractionZero_11 : decode b_Mk_takeFractionZero 11 = .ok (.getfield 110, 3) := by decide +kernel
theorem d_Mk_takeFractionZero_14 : decode b_Mk_takeFractionZero 14 = .ok (.if_icmp .le 5, 3) := by decide +kernel
theorem d_Mk_takeFractionZero_17 : decode b_Mk_takeFractionZero 17 = .ok (.iconst 0, 1) := by decide +kernel
theorem d_Mk_takeFractionZero_18 : decode b_Mk_takeFractionZero 18 = .ok (.ireturn, 1) := by decide +kernel
theorem d_Mk_takeFractionZero_19 : decode b_Mk_takeFractionZero 19 = .ok (.aload_n 0, 1) := by decide +kernel
theorem d_Mk_takeFractionZero_20 : decode b_Mk_takeFractionZero 20 = .ok (.getfield 21, 3) := by decide +kernel
theorem d_Mk_takeFractionZero_23 : decode b_Mk_takeFractionZero 23 = .ok (.dup, 1) := by decide +kernel
theorem d_Mk_takeFractionZero_24 : decode b_Mk_takeFractionZero 24 = .ok (.getfield 87, 3) := by decide +kernel
theorem d_Mk_takeFractionZero_27 : decode b_Mk_takeFractionZero 27 = .ok (.iconst 1, 1) := by decide +kernel
theorem d_Mk_takeFractionZero_28 : decode b_Mk_takeFractionZero 28 = .ok (.iadd, 1) := by decide +kernel
theorem d_Mk_takeFractionZero_29 : decode b_Mk_takeFractionZero 29 = .ok (.putfield 87, 3) := by decide +kernel
theorem d_Mk_takeFractionZero_32 : decode b_Mk_takeFractionZero 32 = .ok (.aload_n 0, 1) := by decide +kernel
theorem d_Mk_takeFractionZero_33 : decode b_Mk_takeFractionZero 33 = .ok (.getfield 21, 3) := by decide +kernel
theorem d_Mk_takeFractionZero_36 : decode b_Mk_takeFractionZero 36 = .ok (.dup, 1) := by decide +kernel
theorem d_Mk_takeFractionZero_37 : decode b_Mk_takeFractionZero 37 = .ok (.getfield 110, 3) := by decide +kernel
theorem d_Mk_takeFractionZero_40 : decode b_Mk_takeFractionZero 40 = .ok (.iconst 1, 1) := by decide +kernel
theorem d_Mk_takeFractionZero_41 : decode b_Mk_takeFractionZero 41 = .ok (.iadd, 1) := by decide +kernel
theorem d_Mk_takeFractionZero_42 : decode b_Mk_takeFractionZero 42 = .ok (.putfield 110, 3) := by decide +kernel
theorem d_Mk_takeFractionZero_45 : decode b_Mk_takeFractionZero 45 = .ok (.aload_n 0, 1) := by decide +kernel
theorem d_Mk_takeFractionZero_46 : decode b_Mk_takeFractionZero 46 = .ok (.iconst 4, 1) := by decide +kernel
theorem d_Mk_takeFractionZero_47 : decode b_Mk_takeFractionZero 47 = .ok (.putfield 53, 3) := by decide +kernel
theorem d_Mk_takeFractionZero_50 : decode b_Mk_takeFractionZero 50 = .ok (.iconst 1, 1) := by decide +kernel
theorem d_Mk_takeFractionZero_51 : decode b_Mk_takeFractionZero 51 = .ok (.ireturn, 1) := by decide +kernel
theorem d_Mk_takeZero_0 : decode b_Mk_takeZero 0 = .ok (.aload_n 0, 1) := by decide +kernel
theorem d_Mk_takeZero_1 : decode b_Mk_takeZero 1 = .ok (.invokevirtual 92, 3) := by decide +kernel
theorem d_Mk_takeZero_4 : decode b_Mk_takeZero 4 = .ok (.ifCond .eq 36, 3) := by decide +kernel
theorem d_Mk_takeZero_7 : decode b_Mk_takeZero 7 = .ok (.aload_n 0, 1) := by decide +kernel
theorem d_Mk_takeZero_8 : decode b_Mk_takeZero 8 = .ok (.getfield 21, 3) := by decide +kernel
theorem d_Mk_takeZero_11 : decode b_Mk_takeZero 11 = .ok (.dup, 1) := by decide +kernel
theorem d_Mk_takeZero_12 : decode b_Mk_takeZero 12 = .ok (.getfield 95, 3) := by decide +kernel
theorem d_Mk_takeZero_15 : decode b_Mk_takeZero 15 = .ok (.iconst 1, 1) := by decide +kernel
theorem d_Mk_takeZero_16 : decode b_Mk_takeZero 16 = .ok (.iadd, 1) := by decide +kernel
theorem d_Mk_takeZero_17 : decode b_Mk_takeZero 17 = .ok (.putfield 95, 3) := by decide +kernel
theorem d_Mk_takeZero_20 : decode b_Mk_takeZero 20 = .ok (.aload_n 0, 1) := by decide +kernel
theorem d_Mk_takeZero_21 : decode b_Mk_takeZero 21 = .ok (.getfield 21, 3) := by decide +kernel
theorem d_Mk_takeZero_24 : decode b_Mk_takeZero 24 = .ok (.dup, 1) := by decide +kernel
theorem d_Mk_takeZero_25 : decode b_Mk_takeZero 25 = .ok (.getfield 101, 3) := by decide +kernel
theorem d_Mk_takeZero_28 : decode b_Mk_takeZero 28 = .ok (.iconst 1, 1) := by decide +kernel
theorem d_Mk_takeZero_29 : decode b_Mk_takeZero 29 = .ok (.iadd, 1) := by decide +kernel
theorem d_Mk_takeZero_30 : decode b_Mk_takeZero 30 = .ok (.putfield 101, 3) := by decide +kernel
theorem d_Mk_takeZero_33 : decode b_Mk_takeZero 33 = .ok (.aload_n 0, 1) := by decide +kernel
theorem d_Mk_takeZero_34 : decode b_Mk_takeZero 34 = .ok (.iconst 1, 1) := by decide +kernel
theorem d_Mk_takeZero_35 : decode b_Mk_takeZero 35 = .ok (.putfield 53, 3) := by decide +kernel
theorem d_Mk_takeZero_38 : decode b_Mk_takeZero 38 = .ok (.iconst 1, 1) := by decide +kernel
theorem d_Mk_takeZero_39 : decode b_Mk_takeZero 39 = .ok (.ireturn, 1) := by decide +kernel
theorem d_Mk_takeZero_40 : decode b_Mk_takeZero 40 = .ok (.aload_n 0, 1) := by decide +kernel
theorem d_Mk_takeZero_41 : decode b_Mk_takeZero 41 = .ok (.getfield 53, 3) := by decide +kernel
theorem d_Mk_takeZero_44 : decode b_Mk_takeZero 44 = .ok (.iconst 3, 1) := by decide +kernel
theorem d_Mk_takeZero_45 : decode b_Mk_takeZero 45 = .ok (.if_icmp .eq 11, 3) := by decide +kernel
theorem d_Mk_takeZero_48 : decode b_Mk_takeZero 48 = .ok (.aload_n 0, 1) := by decide +kernel
theorem d_Mk_takeZero_49 : decode b_Mk_takeZero 49 = .ok (.getfield 53, 3) := by decide +kernel
theorem d_Mk_takeZero_52 : decode b_Mk_takeZero 52 = .ok (.iconst 4, 1) := by decide +kernel
theorem d_Mk_takeZero_53 : decode b_Mk_takeZero 53 = .ok (.if_icmp .ne 8, 3) := by decide +kernel
theorem d_Mk_takeZero_56 : decode b_Mk_takeZero 56 = .ok (.aload_n 0, 1) := by decide +kernel
theorem d_Mk_takeZero_57 : decode b_Mk_takeZero 57 = .ok (.invokevirtual 104, 3) := by decide +kernel
theorem d_Mk_takeZero_60 : decode b_Mk_takeZero 60 = .ok (.ireturn, 1) := by decide +kernel
theorem d_Mk_takeZero_61 : decode b_Mk_takeZero 61 = .ok (.aload_n 0, 1) := by decide +kernel
theorem d_Mk_takeZero_62 : decode b_Mk_takeZero 62 = .ok (.getfield 53, 3) := by decide +kernel
theorem d_Mk_takeZero_65 : decode b_Mk_takeZero 65 = .ok (.iconst 5, 1) := by decide +kernel
theorem d_Mk_takeZero_66 : decode b_Mk_takeZero 66 = .ok (.if_icmp .eq 21, 3) := by decide +kernel
theorem d_Mk_takeZero_69 : decode b_Mk_takeZero 69 = .ok (.aload_n 0, 1) := by decide +kernel
theorem d_Mk_takeZero_70 : decode b_Mk_takeZero 70 = .ok (.getfield 53, 3) := by decide +kernel
theorem d_Mk_takeZero_73 : decode b_Mk_takeZero 73 = .ok (.bipush 6, 2) := by decide +kernel
theorem d_Mk_takeZero_75 : decode b_Mk_takeZero 75 = .ok (.if_icmp .eq 12, 3) := by decide +kernel
theorem d_Mk_takeZero_78 : decode b_Mk_takeZero 78 = .ok (.aload_n 0, 1) := by decide +kernel
theorem d_Mk_takeZero_79 : decode b_Mk_takeZero 79 = .ok (.getfield 53, 3) := by decide +kernel
theorem d_Mk_takeZero_82 : decode b_Mk_takeZero 82 = .ok (.bipush 7, 2) := by decide +kernel
theorem d_Mk_takeZero_84 : decode b_Mk_takeZero 84 = .ok (.if_icmp .ne 24, 3) := by decide +kernel
theorem d_Mk_takeZero_87 : decode b_Mk_takeZero 87 = .ok (.aload_n 0, 1) := by decide +kernel
theorem d_Mk_takeZero_88 : decode b_Mk_takeZero 88 = .ok (.getfield 21, 3) := by decide +kernel
theorem d_Mk_takeZero_91 : decode b_Mk_takeZero 91 = .ok (.dup, 1) := by decide +kernel
theorem d_Mk_takeZero_92 : decode b_Mk_takeZero 92 = .ok (.getfield 107, 3) := by decide +kernel
theorem d_Mk_takeZero_95 : decode b_Mk_takeZero 95 = .ok (.iconst 1, 1) := by decide +kernel
theorem d_Mk_takeZero_96 : decode b_Mk_takeZero 96 = .ok (.iadd, 1) := by decide +kernel
theorem d_Mk_takeZero_97 : decode b_Mk_takeZero 97 = .ok (.putfield 107, 3) := by decide +kernel
theorem d_Mk_takeZero_100 : decode b_Mk_takeZero 100 = .ok (.aload_n 0, 1) := by decide +kernel
theorem d_Mk_takeZero_101 : decode b_Mk_takeZero 101 = .ok (.bipush 7, 2) := by decide +kernel
theorem d_Mk_takeZero_103 : decode b_Mk_takeZero 103 = .ok (.putfield 53, 3) := by decide +kernel
theorem d_Mk_takeZero_106 : decode b_Mk_takeZero 106 = .ok (.iconst 1, 1) := by decide +kernel
theorem d_Mk_takeZero_107 : decode b_Mk_takeZero 107 = .ok (.ireturn, 1) := by decide +kernel
theorem d_Mk_takeZero_108 : decode b_Mk_takeZero 108 = .ok (.iconst 0, 1) := by decide +kernel
theorem d_Mk_takeZero_109 : decode b_Mk_takeZero 109 = .ok (.ireturn, 1) := by decide +kernel
theorem d_Mk_takeComma_0 : decode b_Mk_takeComma 0 = .ok (.aload_n 0, 1) := by decide +kernel
theorem d_Mk_takeComma_1 : decode b_Mk_takeComma 1 = .ok (.getfield 53, 3) := by decide +kernel
theorem d_Mk_takeComma_4 : decode b_Mk_takeComma 4 = .ok (.iconst 1, 1) := by decide +kernel
theorem d_Mk_takeComma_5 : decode b_Mk_takeComma 5 = .ok (.if_icmp .eq 5, 3) := by decide +kernel
theorem d_Mk_takeComma_8 : decode b_Mk_takeComma 8 = .ok (.iconst 0, 1) := by decide +kernel
theorem d_Mk_takeComma_9 : decode b_Mk_takeComma 9 = .ok (.ireturn, 1) := by decide +kernel
theorem d_Mk_takeComma_10 : decode b_Mk_takeComma 10 = .ok (.aload_n 0, 1) := by decide +kernel
theorem d_Mk_takeComma_11 : decode b_Mk_takeComma 11 = .ok (.getfield 21, 3) := by decide +kernel
theorem d_Mk_takeComma_14 : decode b_Mk_takeComma 14 = .ok (.dup, 1) := by decide +kernel
theorem d_Mk_takeComma_15 : decode b_Mk_takeComma 15 = .ok (.getfield 113, 3) := by decide +kernel
theorem d_Mk_takeComma_18 : decode b_Mk_takeComma 18 = .ok (.iconst 1, 1) := by decide +kernel
theorem d_Mk_takeComma_19 : decode b_Mk_takeComma 19 = .ok (.iadd, 1) := by decide +kernel
theorem d_Mk_takeComma_20 : decode b_Mk_takeComma 20 = .ok (.putfield 113, 3) := by decide +kernel
theorem d_Mk_takeComma_23 : decode b_Mk_takeComma 23 = .ok (.aload_n 0, 1) := by decide +kernel
theorem d_Mk_takeComma_24 : decode b_Mk_takeComma 24 = .ok (.getfield 21, 3) := by decide +kernel
theorem d_Mk_takeComma_27 : decode b_Mk_takeComma 27 = .ok (.aload_n 0, 1) := by decide +kernel
theorem d_Mk_takeComma_28 : decode b_Mk_takeComma 28 = .ok (.getfield 21, 3) := by decide +kernel
theorem d_Mk_takeComma_31 : decode b_Mk_takeComma 31 = .ok (.getfield 101, 3) := by decide +kernel
theorem d_Mk_takeComma_34 : decode b_Mk_takeComma 34 = .ok (.putfield 116, 3) := by decide +kernel
theorem d_Mk_takeComma_37 : decode b_Mk_takeComma 37 = .ok (.aload_n 0, 1) := by decide +kernel
theorem d_Mk_takeComma_38 : decode b_Mk_takeComma 38 = .ok (.getfield 21, 3) := by decide +kernel
theorem d_Mk_takeComma_41 : decode b_Mk_takeComma 41 = .ok (.iconst 0, 1) := by decide +kernel
theorem d_Mk_takeComma_42 : decode b_Mk_takeComma 42 = .ok (.putfield 101, 3) := by decide +kernel
theorem d_Mk_takeComma_45 : decode b_Mk_takeComma 45 = .ok (.aload_n 0, 1) := by decide +kernel
theorem d_Mk_takeComma_46 : decode b_Mk_takeComma 46 = .ok (.iconst 2, 1) := by decide +kernel
theorem d_Mk_takeComma_47 : decode b_Mk_takeComma 47 = .ok (.putfield 53, 3) := by decide +kernel
theorem d_Mk_takeComma_50 : decode b_Mk_takeComma 50 = .ok (.iconst 1, 1) := by decide +kernel
theorem d_Mk_takeComma_51 : decode b_Mk_takeComma 51 = .ok (.ireturn, 1) := by decide +kernel
theorem d_Mk_takePoint_0 : decode b_Mk_takePoint 0 = .ok (.aload_n 0, 1) := by decide +kernel
theorem d_Mk_takePoint_1 : decode b_Mk_takePoint 1 = .ok (.getfield 53, 3) := by decide +kernel
theorem d_Mk_takePoint_4 : decode b_Mk_takePoint 4 = .ok (.ifCond .eq 13, 3) := by decide +kernel
theorem d_Mk_takePoint_7 : decode b_Mk_takePoint 7 = .ok (.aload_n 0, 1) := by decide +kernel
theorem d_Mk_takePoint_8 : decode b_Mk_takePoint 8 = .ok (.getfield 53, 3) := by decide +kernel
theorem d_Mk_takePoint_11 : decode b_Mk_takePoint 11 = .ok (.iconst 1, 1) := by decide +kernel
theorem d_Mk_takePoint_12 : decode b_Mk_takePoint 12 = .ok (.if_icmp .eq 5, 3) := by decide +kernel
theorem d_Mk_takePoint_15 : decode b_Mk_takePoint 15 = .ok (.iconst 0, 1) := by decide +kernel
theorem d_Mk_takePoint_16 : decode b_Mk_takePoint 16 = .ok (.ireturn, 1) := by decide +kernel
theorem d_Mk_takePoint_17 : decode b_Mk_takePoint 17 = .ok (.aload_n 0, 1) := by decide +kernel
theorem d_Mk_takePoint_18 : decode b_Mk_takePoint 18 = .ok (.iconst 3, 1) := by decide +kernel
theorem d_Mk_takePoint_19 : decode b_Mk_takePoint 19 = .ok (.putfield 53, 3) := by decide +kernel
theorem d_Mk_takePoint_22 : decode b_Mk_takePoint 22 = .ok (.iconst 1, 1) := by decide +kernel
theorem d_Mk_takePoint_23 : decode b_Mk_takePoint 23 = .ok (.ireturn, 1) := by decide +kernel
theorem d_Mk_takeE_0 : decode b_Mk_takeE 0 = .ok (.aload_n 0, 1) := by decide +kernel
theorem d_Mk_takeE_1 : decode b_Mk_takeE 1 = .ok (.getfield 53, 3) := by decide +kernel
theorem d_Mk_takeE_4 : decode b_Mk_takeE 4 = .ok (.iconst 1, 1) := by decide +kernel
theorem d_Mk_takeE_5 : decode b_Mk_takeE 5 = .ok (.if_icmp .eq 11, 3) := by decide +kernel
theorem d_Mk_takeE_8 : decode b_Mk_takeE 8 = .ok (.aload_n 0, 1) := by decide +kernel
theorem d_Mk_takeE_9 : decode b_Mk_takeE 9 = .ok (.getfield 53, 3) := by decide +kernel
theorem d_Mk_takeE_12 : decode b_Mk_takeE 12 = .ok (.iconst 4, 1) := by decide +kernel
theorem d_Mk_takeE_13 : decode b_Mk_takeE 13 = .ok (.if_icmp .ne 7, 3) := by decide +kernel
theorem d_Mk_takeE_16 : decode b_Mk_takeE 16 = .ok (.iconst 1, 1) := by decide +kernel
theorem d_Mk_takeE_17 : decode b_Mk_takeE 17 = .ok (.goto 4, 3) := by decide +kernel
theorem d_Mk_takeE_20 : decode b_Mk_takeE 20 = .ok (.iconst 0, 1) := by decide +kernel
theorem d_Mk_takeE_21 : decode b_Mk_takeE 21 = .ok (.istore_n 1, 1) := by decide +kernel
theorem d_Mk_takeE_22 : decode b_Mk_takeE 22 = .ok (.iload_n 1, 1) := by decide +kernel
theorem d_Mk_takeE_23 : decode b_Mk_takeE 23 = .ok (.ifCond .eq 23, 3) := by decide +kernel
theorem d_Mk_takeE_26 : decode b_Mk_takeE 26 = .ok (.aload_n 0, 1) := by decide +kernel
theorem d_Mk_takeE_27 : decode b_Mk_takeE 27 = .ok (.getfield 21, 3) := by decide +kernel
theorem d_Mk_takeE_30 : decode b_Mk_takeE 30 = .ok (.getfield 95, 3) := by decide +kernel
theorem d_Mk_takeE_33 : decode b_Mk_takeE 33 = .ok (.ifCond .eq 13, 3) := by decide +kernel
theorem d_Mk_takeE_36 : decode b_Mk_takeE 36 = .ok (.aload_n 0, 1) := by decide +kernel
theorem d_Mk_takeE_37 : decode b_Mk_takeE 37 = .ok (.getfield 21, 3) := by decide +kernel
theorem d_Mk_takeE_40 : decode b_Mk_takeE 40 = .ok (.getfield 113, 3) := by decide +kernel
theorem d_Mk_takeE_43 : decode b_Mk_takeE 43 = .ok (.ifCond .le 5, 3) := by decide +kernel
theorem d_Mk_takeE_46 : decode b_Mk_takeE 46 = .ok (.iconst 0, 1) := by decide +kernel
theorem d_Mk_takeE_47 : decode b_Mk_takeE 47 = .ok (.ireturn, 1) := by decide +kernel
theorem d_Mk_takeE_48 : decode b_Mk_takeE 48 = .ok (.aload_n 0, 1) := by decide +kernel
theorem d_Mk_takeE_49 : decode b_Mk_takeE 49 = .ok (.iconst 5, 1) := by decide +kernel
theorem d_Mk_takeE_50 : decode b_Mk_takeE 50 = .ok (.putfield 53, 3) := by decide +kernel
theorem d_Mk_takeE_53 : decode b_Mk_takeE 53 = .ok (.iconst 1, 1) := by decide +kernel
theorem d_Mk_takeE_54 : decode b_Mk_takeE 54 = .ok (.ireturn, 1) := by decide +kernel
theorem d_Mk_takeSemicolon_0 : decode b_Mk_takeSemicolon 0 = .ok (.aload_n 0, 1) := by decide +kernel
theorem d_Mk_takeSemicolon_1 : decode b_Mk_takeSemicolon 1 = .ok (.invokevirtual 45, 3) := by decide +kernel
theorem d_Mk_takeSemicolon_4 : decode b_Mk_takeSemicolon 4 = .ok (.ifCond .eq 13, 3) := by decide +kernel
theorem d_Mk_takeSemicolon_7 : decode b_Mk_takeSemicolon 7 = .ok (.aload_n 0, 1) := by decide +kernel
theorem d_Mk_takeSemicolon_8 : decode b_Mk_takeSemicolon 8 = .ok (.getfield 9, 3) := by decide +kernel
theorem d_Mk_takeSemicolon_11 : decode b_Mk_takeSemicolon 11 = .ok (.getfield 119, 3) := by decide +kernel
theorem d_Mk_takeSemicolon_14 : decode b_Mk_takeSemicolon 14 = .ok (.ifCond .eq 5, 3) := by decide +kernel
theorem d_Mk_takeSemicolon_17 : decode b_Mk_takeSemicolon 17 = .ok (.iconst 0, 1) := by decide +kernel
theorem d_Mk_takeSemicolon_18 : decode b_Mk_takeSemicolon 18 = .ok (.ireturn, 1) := by decide +kernel
theorem d_Mk_takeSemicolon_19 : decode b_Mk_takeSemicolon 19 = .ok (.aload_n 0, 1) := by decide +kernel
theorem d_Mk_takeSemicolon_20 : decode b_Mk_takeSemicolon 20 = .ok (.getfield 9, 3) := by decide +kernel
theorem d_Mk_takeSemicolon_23 : decode b_Mk_takeSemicolon 23 = .ok (.iconst 1, 1) := by decide +kernel
theorem d_Mk_takeSemicolon_24 : decode b_Mk_takeSemicolon 24 = .ok (.putfield 119, 3) := by decide +kernel
theorem d_Mk_takeSemicolon_27 : decode b_Mk_takeSemicolon 27 = .ok (.aload_n 0, 1) := by decide +kernel
theorem d_Mk_takeSemicolon_28 : decode b_Mk_takeSemicolon 28 = .ok (.aload_n 0, 1) := by decide +kernel
theorem d_Mk_takeSemicolon_29 : decode b_Mk_takeSemicolon 29 = .ok (.getfield 9, 3) := by decide +kernel
theorem d_Mk_takeSemicolon_32 : decode b_Mk_takeSemicolon 32 = .ok (.getfield 122, 3) := by decide +kernel
theorem d_Mk_takeSemicolon_35 : decode b_Mk_takeSemicolon 35 = .ok (.invokevirtual 27, 3) := by decide +kernel
theorem d_Mk_takeSemicolon_38 : decode b_Mk_takeSemicolon 38 = .ok (.iconst 1, 1) := by decide +kernel
theorem d_Mk_takeSemicolon_39 : decode b_Mk_takeSemicolon 39 = .ok (.ireturn, 1) := by decide +kernel
theorem d_Mk_enterAffix_0 : decode b_Mk_enterAffix 0 = .ok (.aload_n 0, 1) := by decide +kernel
theorem d_Mk_enterAffix_1 : decode b_Mk_enterAffix 1 = .ok (.getfield 53, 3) := by decide +kernel
theorem d_Mk_enterAffix_4 : decode b_Mk_enterAffix 4 = .ok (.ifCond .ne 5, 3) := by decide +kernel
theorem d_Mk_enterAffix_7 : decode b_Mk_enterAffix 7 = .ok (.iconst 1, 1) := by decide +kernel
theorem d_Mk_enterAffix_8 : decode b_Mk_enterAffix 8 = .ok (.ireturn, 1) := by decide +kernel
theorem d_Mk_enterAffix_9 : decode b_Mk_enterAffix 9 = .ok (.aload_n 0, 1) := by decide +kernel
theorem d_Mk_enterAffix_10 : decode b_Mk_enterAffix 10 = .ok (.invokevirtual 45, 3) := by decide +kernel
theorem d_Mk_enterAffix_13 : decode b_Mk_enterAffix 13 = .ok (.ifCond .ne 5, 3) := by decide +kernel
theorem d_Mk_enterAffix_16 : decode b_Mk_enterAffix 16 = .ok (.iconst 0, 1) := by decide +kernel
theorem d_Mk_enterAffix_17 : decode b_Mk_enterAffix 17 = .ok (.ireturn, 1) := by decide +kernel
theorem d_Mk_enterAffix_18 : decode b_Mk_enterAffix 18 = .ok (.aload_n 0, 1) := by decide +kernel
theorem d_Mk_enterAffix_19 : decode b_Mk_enterAffix 19 = .ok (.bipush 8, 2) := by decide +kernel
theorem d_Mk_enterAffix_21 : decode b_Mk_enterAffix 21 = .ok (.putfield 53, 3) := by decide +kernel
theorem d_Mk_enterAffix_24 : decode b_Mk_enterAffix 24 = .ok (.iconst 1, 1) := by decide +kernel
theorem d_Mk_enterAffix_25 : decode b_Mk_enterAffix 25 = .ok (.ireturn, 1) := by decide +kernel
theorem d_Mk_openAffix_0 : decode b_Mk_openAffix 0 = .ok (.aload_n 0, 1) := by decide +kernel
theorem d_Mk_openAffix_1 : decode b_Mk_openAffix 1 = .ok (.getfield 53, 3) := by decide +kernel
theorem d_Mk_openAffix_4 : decode b_Mk_openAffix 4 = .ok (.ifCond .ne 13, 3) := by decide +kernel
theorem d_Mk_openAffix_7 : decode b_Mk_openAffix 7 = .ok (.aload_n 0, 1) := by decide +kernel
theorem d_Mk_openAffix_8 : decode b_Mk_openAffix 8 = .ok (.getfield 21, 3) := by decide +kernel
theorem d_Mk_openAffix_11 : decode b_Mk_openAffix 11 = .ok (.getfield 141, 3) := by decide +kernel
theorem d_Mk_openAffix_14 : decode b_Mk_openAffix 14 = .ok (.goto 10, 3) := by decide +kernel
theorem d_Mk_openAffix_17 : decode b_Mk_openAffix 17 = .ok (.aload_n 0, 1) := by decide +kernel
theorem d_Mk_openAffix_18 : decode b_Mk_openAffix 18 = .ok (.getfield 21, 3) := by decide +kernel
theorem d_Mk_openAffix_21 : decode b_Mk_openAffix 21 = .ok (.getfield 145, 3) := by decide +kernel
theorem d_Mk_openAffix_24 : decode b_Mk_openAffix 24 = .ok (.areturn, 1) := by decide +kernel
theorem d_Mk_takeAffix_0 : decode b_Mk_takeAffix 0 = .ok (.iload_n 1, 1) := by decide +kernel
theorem d_Mk_takeAffix_1 : decode b_Mk_takeAffix 1 = .ok (.bipush 49, 2) := by decide +kernel
theorem d_Mk_takeAffix_3 : decode b_Mk_takeAffix 3 = .ok (.if_icmp .lt 9, 3) := by decide +kernel
theorem d_Mk_takeAffix_6 : decode b_Mk_takeAffix 6 = .ok (.iload_n 1, 1) := by decide +kernel
theorem d_Mk_takeAffix_7 : decode b_Mk_takeAffix 7 = .ok (.bipush 57, 2) := by decide +kernel
theorem d_Mk_takeAffix_9 : decode b_Mk_takeAffix 9 = .ok (.if_icmp .le 10, 3) := by decide +kernel
theorem d_Mk_takeAffix_12 : decode b_Mk_takeAffix 12 = .ok (.aload_n 0, 1) := by decide +kernel
theorem d_Mk_takeAffix_13 : decode b_Mk_takeAffix 13 = .ok (.invokevirtual 128, 3) := by decide +kernel
theorem d_Mk_takeAffix_16 : decode b_Mk_takeAffix 16 = .ok (.ifCond .ne 5, 3) := by decide +kernel
theorem d_Mk_takeAffix_19 : decode b_Mk_takeAffix 19 = .ok (.iconst 0, 1) := by decide +kernel
theorem d_Mk_takeAffix_20 : decode b_Mk_takeAffix 20 = .ok (.ireturn, 1) := by decide +kernel
theorem d_Mk_takeAffix_21 : decode b_Mk_takeAffix 21 = .ok (.iload_n 1, 1) := by decide +kernel
theorem d_Mk_takeAffix_22 : decode b_Mk_takeAffix 22 = .ok (.bipush 39, 2) := by decide +kernel
theorem d_Mk_takeAffix_24 : decode b_Mk_takeAffix 24 = .ok (.if_icmp .ne 16, 3) := by decide +kernel
theorem d_Mk_takeAffix_27 : decode b_Mk_takeAffix 27 = .ok (.aload_n 0, 1) := by decide +kernel
theorem d_Mk_takeAffix_28 : decode b_Mk_takeAffix 28 = .ok (.iconst 1, 1) := by decide +kernel
theorem d_Mk_takeAffix_29 : decode b_Mk_takeAffix 29 = .ok (.putfield 49, 3) := by decide +kernel
theorem d_Mk_takeAffix_32 : decode b_Mk_takeAffix 32 = .ok (.aload_n 0, 1) := by decide +kernel
theorem d_Mk_takeAffix_33 : decode b_Mk_takeAffix 33 = .ok (.iconst 1, 1) := by decide +kernel
theorem d_Mk_takeAffix_34 : decode b_Mk_takeAffix 34 = .ok (.putfield 56, 3) := by decide +kernel
theorem d_Mk_takeAffix_37 : decode b_Mk_takeAffix 37 = .ok (.goto 60, 3) := by decide +kernel
theorem d_Mk_takeAffix_40 : decode b_Mk_takeAffix 40 = .ok (.iload_n 1, 1) := by decide +kernel
theorem d_Mk_takeAffix_41 : decode b_Mk_takeAffix 41 = .ok (.bipush 45, 2) := by decide +kernel
theorem d_Mk_takeAffix_43 : decode b_Mk_takeAffix 43 = .ok (.if_icmp .ne 17, 3) := by decide +kernel
theorem d_Mk_takeAffix_46 : decode b_Mk_takeAffix 46 = .ok (.aload_n 0, 1) := by decide +kernel
theorem d_Mk_takeAffix_47 : decode b_Mk_takeAffix 47 = .ok (.invokevirtual 131, 3) := by decide +kernel
theorem d_Mk_takeAffix_50 : decode b_Mk_takeAffix 50 = .ok (.sipush 258, 3) := by decide +kernel
theorem d_Mk_takeAffix_53 : decode b_Mk_takeAffix 53 = .ok (.invokevirtual 135, 3) := by decide +kernel
theorem d_Mk_takeAffix_56 : decode b_Mk_takeAffix 56 = .ok (.pop, 1) := by decide +kernel
theorem d_Mk_takeAffix_57 : decode b_Mk_takeAffix 57 = .ok (.goto 40, 3) := by decide +kernel
theorem d_Mk_takeAffix_60 : decode b_Mk_takeAffix 60 = .ok (.iload_n 1, 1) := by decide +kernel
theorem d_Mk_takeAffix_61 : decode b_Mk_takeAffix 61 = .ok (.bipush 37, 2) := by decide +kernel
theorem d_Mk_takeAffix_63 : decode b_Mk_takeAffix 63 = .ok (.if_icmp .ne 25, 3) := by decide +kernel
theorem d_Mk_takeAffix_66 : decode b_Mk_takeAffix 66 = .ok (.aload_n 0, 1) := by decide +kernel
theorem d_Mk_takeAffix_67 : decode b_Mk_takeAffix 67 = .ok (.invokevirtual 131, 3) := by decide +kernel
theorem d_Mk_takeAffix_70 : decode b_Mk_takeAffix 70 = .ok (.sipush 259, 3) := by decide +kernel
theorem d_Mk_takeAffix_73 : decode b_Mk_takeAffix 73 = .ok (.invokevirtual 135, 3) := by decide +kernel
theorem d_Mk_takeAffix_76 : decode b_Mk_takeAffix 76 = .ok (.pop, 1) := by decide +kernel
theorem d_Mk_takeAffix_77 : decode b_Mk_takeAffix 77 = .ok (.aload_n 0, 1) := by decide +kernel
theorem d_Mk_takeAffix_78 : decode b_Mk_takeAffix 78 = .ok (.getfield 21, 3) := by decide +kernel
theorem d_Mk_takeAffix_81 : decode b_Mk_takeAffix 81 = .ok (.iconst 1, 1) := by decide +kernel
theorem d_Mk_takeAffix_82 : decode b_Mk_takeAffix 82 = .ok (.putfield 138, 3) := by decide +kernel
theorem d_Mk_takeAffix_85 : decode b_Mk_takeAffix 85 = .ok (.goto 12, 3) := by decide +kernel
theorem d_Mk_takeAffix_88 : decode b_Mk_takeAffix 88 = .ok (.aload_n 0, 1) := by decide +kernel
theorem d_Mk_takeAffix_89 : decode b_Mk_takeAffix 89 = .ok (.invokevirtual 131, 3) := by decide +kernel
theorem d_Mk_takeAffix_92 : decode b_Mk_takeAffix 92 = .ok (.iload_n 1, 1) := by decide +kernel
theorem d_Mk_takeAffix_93 : decode b_Mk_takeAffix 93 = .ok (.invokevirtual 135, 3) := by decide +kernel
theorem d_Mk_takeAffix_96 : decode b_Mk_takeAffix 96 = .ok (.pop, 1) := by decide +kernel
theorem d_Mk_takeAffix_97 : decode b_Mk_takeAffix 97 = .ok (.iconst 1, 1) := by decide +kernel
theorem d_Mk_takeAffix_98 : decode b_Mk_takeAffix 98 = .ok (.ireturn, 1) := by decide +kernel
theorem d_Mk_takePlus_0 : decode b_Mk_takePlus 0 = .ok (.aload_n 0, 1) := by decide +kernel
theorem d_Mk_takePlus_1 : decode b_Mk_takePlus 1 = .ok (.getfield 53, 3) := by decide +kernel
theorem d_Mk_takePlus_4 : decode b_Mk_takePlus 4 = .ok (.iconst 5, 1) := by decide +kernel
theorem d_Mk_takePlus_5 : decode b_Mk_takePlus 5 = .ok (.if_icmp .eq 10, 3) := by decide +kernel
theorem d_Mk_takePlus_8 : decode b_Mk_takePlus 8 = .ok (.aload_n 0, 1) := by decide +kernel
theorem d_Mk_takePlus_9 : decode b_Mk_takePlus 9 = .ok (.bipush 43, 2) := by decide +kernel
theorem d_Mk_takePlus_11 : decode b_Mk_takePlus 11 = .ok (.invokevirtual 84, 3) := by decide +kernel
theorem d_Mk_takePlus_14 : decode b_Mk_takePlus 14 = .ok (.ireturn, 1) := by decide +kernel
theorem d_Mk_takePlus_15 : decode b_Mk_takePlus 15 = .ok (.aload_n 0, 1) := by decide +kernel
theorem d_Mk_takePlus_16 : decode b_Mk_takePlus 16 = .ok (.getfield 21, 3) := by decide +kernel
theorem d_Mk_takePlus_19 : decode b_Mk_takePlus 19 = .ok (.iconst 1, 1) := by decide +kernel
theorem d_Mk_takePlus_20 : decode b_Mk_takePlus 20 = .ok (.putfield 125, 3) := by decide +kernel
theorem d_Mk_takePlus_23 : decode b_Mk_takePlus 23 = .ok (.aload_n 0, 1) := by decide +kernel
theorem d_Mk_takePlus_24 : decode b_Mk_takePlus 24 = .ok (.bipush 6, 2) := by decide +kernel
theorem d_Mk_takePlus_26 : decode b_Mk_takePlus 26 = .ok (.putfield 53, 3) := by decide +kernel
theorem d_Mk_takePlus_29 : decode b_Mk_takePlus 29 = .ok (.iconst 1, 1) := by decide +kernel
theorem d_Mk_takePlus_30 : decode b_Mk_takePlus 30 = .ok (.ireturn, 1) := by decide +kernel
theorem d_Mk_takeQuoted_0 : decode b_Mk_takeQuoted 0 = .ok (.iload_n 1, 1) := by decide +kernel
theorem d_Mk_takeQuoted_1 : decode b_Mk_takeQuoted 1 = .ok (.bipush 39, 2) := by decide +kernel
theorem d_Mk_takeQuoted_3 : decode b_Mk_takeQuoted 3 = .ok (.if_icmp .eq 18, 3) := by decide +kernel
theorem d_Mk_takeQuoted_6 : decode b_Mk_takeQuoted 6 = .ok (.aload_n 0, 1) := by decide +kernel
theorem d_Mk_takeQuoted_7 : decode b_Mk_takeQuoted 7 = .ok (.invokevirtual 131, 3) := by decide +kernel
theorem d_Mk_takeQuoted_10 : decode b_Mk_takeQuoted 10 = .ok (.iload_n 1, 1) := by decide +kernel
theorem d_Mk_takeQuoted_11 : decode b_Mk_takeQuoted 11 = .ok (.invokevirtual 135, 3) := by decide +kernel
theorem d_Mk_takeQuoted_14 : decode b_Mk_takeQuoted 14 = .ok (.pop, 1) := by decide +kernel
theorem d_Mk_takeQuoted_15 : decode b_Mk_takeQuoted 15 = .ok (.aload_n 0, 1) := by decide +kernel
theorem d_Mk_takeQuoted_16 : decode b_Mk_takeQuoted 16 = .ok (.iconst 0, 1) := by decide +kernel
theorem d_Mk_takeQuoted_17 : decode b_Mk_takeQuoted 17 = .ok (.putfield 56, 3) := by decide +kernel
theorem d_Mk_takeQuoted_20 : decode b_Mk_takeQuoted 20 = .ok (.return_, 1) := by decide +kernel
theorem d_Mk_takeQuoted_21 : decode b_Mk_takeQuoted 21 = .ok (.aload_n 0, 1) := by decide +kernel
theorem d_Mk_takeQuoted_22 : decode b_Mk_takeQuoted 22 = .ok (.getfield 56, 3) := by decide +kernel
theorem d_Mk_takeQuoted_25 : decode b_Mk_takeQuoted 25 = .ok (.ifCond .eq 12, 3) := by decide +kernel
theorem d_Mk_takeQuoted_28 : decode b_Mk_takeQuoted 28 = .ok (.aload_n 0, 1) := by decide +kernel
theorem d_Mk_takeQuoted_29 : decode b_Mk_takeQuoted 29 = .ok (.invokevirtual 131, 3) := by decide +kernel
theorem d_Mk_takeQuoted_32 : decode b_Mk_takeQuoted 32 = .ok (.iload_n 1, 1) := by decide +kernel
theorem d_Mk_takeQuoted_33 : decode b_Mk_takeQuoted 33 = .ok (.invokevirtual 135, 3) := by decide +kernel
theorem d_Mk_takeQuoted_36 : decode b_Mk_takeQuoted 36 = .ok (.pop, 1) := by decide +kernel
theorem d_Mk_takeQuoted_37 : decode b_Mk_takeQuoted 37 = .ok (.aload_n 0, 1) := by decide +kernel
theorem d_Mk_takeQuoted_38 : decode b_Mk_takeQuoted 38 = .ok (.iconst 0, 1) := by decide +kernel
theorem d_Mk_takeQuoted_39 : decode b_Mk_takeQuoted 39 = .ok (.putfield 49, 3) := by decide +kernel
theorem d_Mk_takeQuoted_42 : decode b_Mk_takeQuoted 42 = .ok (.return_, 1) := by decide +kernel
theorem d_Mk_take_0 : decode b_Mk_take 0 = .ok (.aload_n 0, 1) := by decide +kernel
theorem d_Mk_take_1 : decode b_Mk_take 1 = .ok (.getfield 49, 3) := by decide +kernel
theorem d_Mk_take_4 : decode b_Mk_take 4 = .ok (.ifCond .eq 10, 3) := by decide +kernel
theorem d_Mk_take_7 : decode b_Mk_take 7 = .ok (.aload_n 0, 1) := by decide +kernel
theorem d_Mk_take_8 : decode b_Mk_take 8 = .ok (.iload_n 1, 1) := by decide +kernel
theorem d_Mk_take_9 : decode b_Mk_take 9 = .ok (.invokevirtual 59, 3) := by decide +kernel
theorem d_Mk_take_12 : decode b_Mk_take 12 = .ok (.iconst 1, 1) := by decide +kernel
theorem d_Mk_take_13 : decode b_Mk_take 13 = .ok (.ireturn, 1) := by decide +kernel
theorem d_Mk_take_14 : decode b_Mk_take 14 = .ok (.iload_n 1, 1) := by decide +kernel
theorem d_Mk_take_15 : decode b_Mk_take 15 = .ok (.lookupswitch 100 #[(35, 65), (43, 95), (44, 75), (46, 80), (48, 70), (59, 90), (69, 85)], 65) := by decide +kernel
theorem d_Mk_take_80 : decode b_Mk_take 80 = .ok (.aload_n 0, 1) := by decide +kernel
theorem d_Mk_take_81 : decode b_Mk_take 81 = .ok (.invokevirtual 63, 3) := by decide +kernel
theorem d_Mk_take_84 : decode b_Mk_take 84 = .ok (.ireturn, 1) := by decide +kernel
theorem d_Mk_take_85 : decode b_Mk_take 85 = .ok (.aload_n 0, 1) := by decide +kernel
theorem d_Mk_take_86 : decode b_Mk_take 86 = .ok (.invokevirtual 66, 3) := by decide +kernel
theorem d_Mk_take_89 : decode b_Mk_take 89 = .ok (.ireturn, 1) := by decide +kernel
theorem d_Mk_take_90 : decode b_Mk_take 90 = .ok (.aload_n 0, 1) := by decide +kernel
theorem d_Mk_take_91 : decode b_Mk_take 91 = .ok (.invokevirtual 69, 3) := by decide +kernel
theorem d_Mk_take_94 : decode b_Mk_take 94 = .ok (.ireturn, 1) := by decide +kernel
theorem d_Mk_take_95 : decode b_Mk_take 95 = .ok (.aload_n 0, 1) := by decide +kernel
theorem d_Mk_take_96 : decode b_Mk_take 96 = .ok (.invokevirtual 72, 3) := by decide +kernel
theorem d_Mk_take_99 : decode b_Mk_take 99 = .ok (.ireturn, 1) := by decide +kernel
theorem d_Mk_take_100 : decode b_Mk_take 100 = .ok (.aload_n 0, 1) := by decide +kernel
theorem d_Mk_take_101 : decode b_Mk_take 101 = .ok (.invokevirtual 75, 3) := by decide +kernel
theorem d_Mk_take_104 : decode b_Mk_take 104 = .ok (.ireturn, 1) := by decide +kernel
theorem d_Mk_take_105 : decode b_Mk_take 105 = .ok (.aload_n 0, 1) := by decide +kernel
theorem d_Mk_take_106 : decode b_Mk_take 106 = .ok (.invokevirtual 78, 3) := by decide +kernel
theorem d_Mk_take_109 : decode b_Mk_take 109 = .ok (.ireturn, 1) := by decide +kernel
theorem d_Mk_take_110 : decode b_Mk_take 110 = .ok (.aload_n 0, 1) := by decide +kernel
theorem d_Mk_take_111 : decode b_Mk_take 111 = .ok (.invokevirtual 81, 3) := by decide +kernel
theorem d_Mk_take_114 : decode b_Mk_take 114 = .ok (.ireturn, 1) := by decide +kernel
theorem d_Mk_take_115 : decode b_Mk_take 115 = .ok (.aload_n 0, 1) := by decide +kernel
theorem d_Mk_take_116 : decode b_Mk_take 116 = .ok (.iload_n 1, 1) := by decide +kernel
theorem d_Mk_take_117 : decode b_Mk_take 117 = .ok (.invokevirtual 84, 3) := by decide +kernel
theorem d_Mk_take_120 : decode b_Mk_take 120 = .ok (.ireturn, 1) := by decide +kernel
theorem d_Mk_make_0 : decode b_Mk_make 0 = .ok (.aload_n 2, 1) := by decide +kernel
theorem d_Mk_make_1 : decode b_Mk_make 1 = .ok (.invokevirtual 24, 3) := by decide +kernel
theorem d_Mk_make_4 : decode b_Mk_make 4 = .ok (.aload_n 0, 1) := by decide +kernel
theorem d_Mk_make_5 : decode b_Mk_make 5 = .ok (.aload_n 2, 1) := by decide +kernel
theorem d_Mk_make_6 : decode b_Mk_make 6 = .ok (.putfield 9, 3) := by decide +kernel
theorem d_Mk_make_9 : decode b_Mk_make 9 = .ok (.aload_n 0, 1) := by decide +kernel
theorem d_Mk_make_10 : decode b_Mk_make 10 = .ok (.aload_n 2, 1) := by decide +kernel
theorem d_Mk_make_11 : decode b_Mk_make 11 = .ok (.getfield 15, 3) := by decide +kernel
theorem d_Mk_make_14 : decode b_Mk_make 14 = .ok (.invokevirtual 27, 3) := by decide +kernel
theorem d_Mk_make_17 : decode b_Mk_make 17 = .ok (.iconst 0, 1) := by decide +kernel
theorem d_Mk_make_18 : decode b_Mk_make 18 = .ok (.istore_n 3, 1) := by decide +kernel
theorem d_Mk_make_19 : decode b_Mk_make 19 = .ok (.iload_n 3, 1) := by decide +kernel
theorem d_Mk_make_20 : decode b_Mk_make 20 = .ok (.aload_n 1, 1) := by decide +kernel
theorem d_Mk_make_21 : decode b_Mk_make 21 = .ok (.getfield 31, 3) := by decide +kernel
theorem d_Mk_make_24 : decode b_Mk_make 24 = .ok (.if_icmp .ge 25, 3) := by decide +kernel
theorem d_Mk_make_27 : decode b_Mk_make 27 = .ok (.aload_n 0, 1) := by decide +kernel
theorem d_Mk_make_28 : decode b_Mk_make 28 = .ok (.aload_n 1, 1) := by decide +kernel
theorem d_Mk_make_29 : decode b_Mk_make 29 = .ok (.iload_n 3, 1) := by decide +kernel
theorem d_Mk_make_30 : decode b_Mk_make 30 = .ok (.invokevirtual 37, 3) := by decide +kernel
theorem d_Mk_make_33 : decode b_Mk_make 33 = .ok (.invokevirtual 41, 3) := by decide +kernel
theorem d_Mk_make_36 : decode b_Mk_make 36 = .ok (.ifCond .ne 7, 3) := by decide +kernel
theorem d_Mk_make_39 : decode b_Mk_make 39 = .ok (.iload_n 3, 1) := by decide +kernel
theorem d_Mk_make_40 : decode b_Mk_make 40 = .ok (.iconst 1, 1) := by decide +kernel
theorem d_Mk_make_41 : decode b_Mk_make 41 = .ok (.iadd, 1) := by decide +kernel
theorem d_Mk_make_42 : decode b_Mk_make 42 = .ok (.ireturn, 1) := by decide +kernel
theorem d_Mk_make_43 : decode b_Mk_make 43 = .ok (.iinc 3 1, 3) := by decide +kernel
theorem d_Mk_make_46 : decode b_Mk_make 46 = .ok (.goto (-27), 3) := by decide +kernel
theorem d_Mk_make_49 : decode b_Mk_make 49 = .ok (.aload_n 0, 1) := by decide +kernel
theorem d_Mk_make_50 : decode b_Mk_make 50 = .ok (.invokevirtual 45, 3) := by decide +kernel
theorem d_Mk_make_53 : decode b_Mk_make 53 = .ok (.ifCond .eq 14, 3) := by decide +kernel
theorem d_Mk_make_56 : decode b_Mk_make 56 = .ok (.aload_n 0, 1) := by decide +kernel
theorem d_Mk_make_57 : decode b_Mk_make 57 = .ok (.getfield 49, 3) := by decide +kernel
theorem d_Mk_make_60 : decode b_Mk_make 60 = .ok (.ifCond .ne 7, 3) := by decide +kernel
theorem d_Mk_make_63 : decode b_Mk_make 63 = .ok (.iconst 0, 1) := by decide +kernel
theorem d_Mk_make_64 : decode b_Mk_make 64 = .ok (.goto 9, 3) := by decide +kernel
theorem d_Mk_make_67 : decode b_Mk_make 67 = .ok (.aload_n 1, 1) := by decide +kernel
theorem d_Mk_make_68 : decode b_Mk_make 68 = .ok (.getfield 31, 3) := by decide +kernel
theorem d_Mk_make_71 : decode b_Mk_make 71 = .ok (.iconst 1, 1) := by decide +kernel
theorem d_Mk_make_72 : decode b_Mk_make 72 = .ok (.iadd, 1) := by decide +kernel
theorem d_Mk_make_73 : decode b_Mk_make 73 = .ok (.ireturn, 1) := by decide +kernel
