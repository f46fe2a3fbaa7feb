theorem d_Sym_code_0 : decode b_Sym_code 0 = .ok (.iload_n 1, 1) := by decide +kernel
theorem d_Sym_code_1 : decode b_Sym_code 1 = .ok (.ifCond .lt 18, 3) := by decide +kernel
theorem d_Sym_code_4 : decode b_Sym_code 4 = .ok (.iload_n 1, 1) := by decide +kernel
theorem d_Sym_code_5 : decode b_Sym_code 5 = .ok (.bipush 6, 2) := by decide +kernel
theorem d_Sym_code_7 : decode b_Sym_code 7 = .ok (.if_icmp .ge 12, 3) := by decide +kernel
theorem d_Sym_code_10 : decode b_Sym_code 10 = .ok (.aload_n 0, 1) := by decide +kernel
theorem d_Sym_code_11 : decode b_Sym_code 11 = .ok (.getfield 9, 3) := by decide +kernel
theorem d_Sym_code_14 : decode b_Sym_code 14 = .ok (.iload_n 1, 1) := by decide +kernel
theorem d_Sym_code_15 : decode b_Sym_code 15 = .ok (.iaload, 1) := by decide +kernel
theorem d_Sym_code_16 : decode b_Sym_code 16 = .ok (.goto 4, 3) := by decide +kernel
theorem d_Sym_code_19 : decode b_Sym_code 19 = .ok (.iconst (-1), 1) := by decide +kernel
theorem d_Sym_code_20 : decode b_Sym_code 20 = .ok (.ireturn, 1) := by decide +kernel
theorem d_Sym_digitCode_0 : decode b_Sym_digitCode 0 = .ok (.aload_n 0, 1) := by decide +kernel
theorem d_Sym_digitCode_1 : decode b_Sym_digitCode 1 = .ok (.getfield 9, 3) := by decide +kernel
theorem d_Sym_digitCode_4 : decode b_Sym_digitCode 4 = .ok (.iconst 5, 1) := by decide +kernel
theorem d_Sym_digitCode_5 : decode b_Sym_digitCode 5 = .ok (.iaload, 1) := by decide +kernel
theorem d_Sym_digitCode_6 : decode b_Sym_digitCode 6 = .ok (.iload_n 1, 1) := by decide +kernel
theorem d_Sym_digitCode_7 : decode b_Sym_digitCode 7 = .ok (.iadd, 1) := by decide +kernel
theorem d_Sym_digitCode_8 : decode b_Sym_digitCode 8 = .ok (.ireturn, 1) := by decide +kernel
theorem d_Sym_digitOf_0 : decode b_Sym_digitOf 0 = .ok (.iload_n 1, 1) := by decide +kernel
theorem d_Sym_digitOf_1 : decode b_Sym_digitOf 1 = .ok (.aload_n 0, 1) := by decide +kernel
theorem d_Sym_digitOf_2 : decode b_Sym_digitOf 2 = .ok (.getfield 9, 3) := by decide +kernel
theorem d_Sym_digitOf_5 : decode b_Sym_digitOf 5 = .ok (.iconst 5, 1) := by decide +kernel
theorem d_Sym_digitOf_6 : decode b_Sym_digitOf 6 = .ok (.iaload, 1) := by decide +kernel
theorem d_Sym_digitOf_7 : decode b_Sym_digitOf 7 = .ok (.isub, 1) := by decide +kernel
theorem d_Sym_digitOf_8 : decode b_Sym_digitOf 8 = .ok (.istore_n 2, 1) := by decide +kernel
theorem d_Sym_digitOf_9 : decode b_Sym_digitOf 9 = .ok (.iload_n 2, 1) := by decide +kernel
theorem d_Sym_digitOf_10 : decode b_Sym_digitOf 10 = .ok (.ifCond .lt 13, 3) := by decide +kernel
theorem d_Sym_digitOf_13 : decode b_Sym_digitOf 13 = .ok (.iload_n 2, 1) := by decide +kernel
theorem d_Sym_digitOf_14 : decode b_Sym_digitOf 14 = .ok (.bipush 9, 2) := by decide +kernel
theorem d_Sym_digitOf_16 : decode b_Sym_digitOf 16 = .ok (.if_icmp .gt 7, 3) := by decide +kernel
theorem d_Sym_digitOf_19 : decode b_Sym_digitOf 19 = .ok (.iload_n 2, 1) := by decide +kernel
theorem d_Sym_digitOf_20 : decode b_Sym_digitOf 20 = .ok (.goto 4, 3) := by decide +kernel
theorem d_Sym_digitOf_23 : decode b_Sym_digitOf 23 = .ok (.iconst (-1), 1) := by decide +kernel
theorem d_Sym_digitOf_24 : decode b_Sym_digitOf 24 = .ok (.ireturn, 1) := by decide +kernel
theorem d_Sym_standsBefore_0 : decode b_Sym_standsBefore 0 = .ok (.iconst 0, 1) := by decide +kernel
theorem d_Sym_standsBefore_1 : decode b_Sym_standsBefore 1 = .ok (.istore_n 3, 1) := by decide +kernel
theorem d_Sym_standsBefore_2 : decode b_Sym_standsBefore 2 = .ok (.iload_n 3, 1) := by decide +kernel
theorem d_Sym_standsBefore_3 : decode b_Sym_standsBefore 3 = .ok (.iload_n 1, 1) := by decide +kernel
theorem d_Sym_standsBefore_4 : decode b_Sym_standsBefore 4 = .ok (.if_icmp .ge 27, 3) := by decide +kernel
theorem d_Sym_standsBefore_7 : decode b_Sym_standsBefore 7 = .ok (.iload_n 3, 1) := by decide +kernel
theorem d_Sym_standsBefore_8 : decode b_Sym_standsBefore 8 = .ok (.bipush 6, 2) := by decide +kernel
theorem d_Sym_standsBefore_10 : decode b_Sym_standsBefore 10 = .ok (.if_icmp .ge 21, 3) := by decide +kernel
theorem d_Sym_standsBefore_13 : decode b_Sym_standsBefore 13 = .ok (.aload_n 0, 1) := by decide +kernel
theorem d_Sym_standsBefore_14 : decode b_Sym_standsBefore 14 = .ok (.getfield 9, 3) := by decide +kernel
theorem d_Sym_standsBefore_17 : decode b_Sym_standsBefore 17 = .ok (.iload_n 3, 1) := by decide +kernel
theorem d_Sym_standsBefore_18 : decode b_Sym_standsBefore 18 = .ok (.iaload, 1) := by decide +kernel
theorem d_Sym_standsBefore_19 : decode b_Sym_standsBefore 19 = .ok (.iload_n 2, 1) := by decide +kernel
theorem d_Sym_standsBefore_20 : decode b_Sym_standsBefore 20 = .ok (.if_icmp .ne 5, 3) := by decide +kernel
theorem d_Sym_standsBefore_23 : decode b_Sym_standsBefore 23 = .ok (.iconst 1, 1) := by decide +kernel
theorem d_Sym_standsBefore_24 : decode b_Sym_standsBefore 24 = .ok (.ireturn, 1) := by decide +kernel
theorem d_Sym_standsBefore_25 : decode b_Sym_standsBefore 25 = .ok (.iinc 3 1, 3) := by decide +kernel
theorem d_Sym_standsBefore_28 : decode b_Sym_standsBefore 28 = .ok (.goto (-26), 3) := by decide +kernel
theorem d_Sym_standsBefore_31 : decode b_Sym_standsBefore 31 = .ok (.iconst 0, 1) := by decide +kernel
theorem d_Sym_standsBefore_32 : decode b_Sym_standsBefore 32 = .ok (.ireturn, 1) := by decide +kernel
theorem d_Sym_areSound_0 : decode b_Sym_areSound 0 = .ok (.aload_n 0, 1) := by decide +kernel
theorem d_Sym_areSound_1 : decode b_Sym_areSound 1 = .ok (.iconst 0, 1) := by decide +kernel
theorem d_Sym_areSound_2 : decode b_Sym_areSound 2 = .ok (.invokevirtual 25, 3) := by decide +kernel
theorem d_Sym_areSound_5 : decode b_Sym_areSound 5 = .ok (.invokestatic 29, 3) := by decide +kernel
theorem d_Sym_areSound_8 : decode b_Sym_areSound 8 = .ok (.ifCond .eq 24, 3) := by decide +kernel
theorem d_Sym_areSound_11 : decode b_Sym_areSound 11 = .ok (.aload_n 0, 1) := by decide +kernel
theorem d_Sym_areSound_12 : decode b_Sym_areSound 12 = .ok (.bipush 9, 2) := by decide +kernel
theorem d_Sym_areSound_14 : decode b_Sym_areSound 14 = .ok (.invokevirtual 25, 3) := by decide +kernel
theorem d_Sym_areSound_17 : decode b_Sym_areSound 17 = .ok (.invokestatic 29, 3) := by decide +kernel
theorem d_Sym_areSound_20 : decode b_Sym_areSound 20 = .ok (.ifCond .eq 12, 3) := by decide +kernel
theorem d_Sym_areSound_23 : decode b_Sym_areSound 23 = .ok (.aload_n 0, 1) := by decide +kernel
theorem d_Sym_areSound_24 : decode b_Sym_areSound 24 = .ok (.bipush 43, 2) := by decide +kernel
theorem d_Sym_areSound_26 : decode b_Sym_areSound 26 = .ok (.invokevirtual 33, 3) := by decide +kernel
theorem d_Sym_areSound_29 : decode b_Sym_areSound 29 = .ok (.ifCond .lt 5, 3) := by decide +kernel
theorem d_Sym_areSound_32 : decode b_Sym_areSound 32 = .ok (.iconst 0, 1) := by decide +kernel
theorem d_Sym_areSound_33 : decode b_Sym_areSound 33 = .ok (.ireturn, 1) := by decide +kernel
theorem d_Sym_areSound_34 : decode b_Sym_areSound 34 = .ok (.iconst 0, 1) := by decide +kernel
theorem d_Sym_areSound_35 : decode b_Sym_areSound 35 = .ok (.istore_n 1, 1) := by decide +kernel
theorem d_Sym_areSound_36 : decode b_Sym_areSound 36 = .ok (.iload_n 1, 1) := by decide +kernel
theorem d_Sym_areSound_37 : decode b_Sym_areSound 37 = .ok (.iconst 5, 1) := by decide +kernel
theorem d_Sym_areSound_38 : decode b_Sym_areSound 38 = .ok (.if_icmp .ge 48, 3) := by decide +kernel
theorem d_Sym_areSound_41 : decode b_Sym_areSound 41 = .ok (.aload_n 0, 1) := by decide +kernel
theorem d_Sym_areSound_42 : decode b_Sym_areSound 42 = .ok (.getfield 9, 3) := by decide +kernel
theorem d_Sym_areSound_45 : decode b_Sym_areSound 45 = .ok (.iload_n 1, 1) := by decide +kernel
theorem d_Sym_areSound_46 : decode b_Sym_areSound 46 = .ok (.iaload, 1) := by decide +kernel
theorem d_Sym_areSound_47 : decode b_Sym_areSound 47 = .ok (.istore_n 2, 1) := by decide +kernel
theorem d_Sym_areSound_48 : decode b_Sym_areSound 48 = .ok (.iload_n 2, 1) := by decide +kernel
theorem d_Sym_areSound_49 : decode b_Sym_areSound 49 = .ok (.invokestatic 29, 3) := by decide +kernel
theorem d_Sym_areSound_52 : decode b_Sym_areSound 52 = .ok (.ifCond .eq 26, 3) := by decide +kernel
theorem d_Sym_areSound_55 : decode b_Sym_areSound 55 = .ok (.iload_n 2, 1) := by decide +kernel
theorem d_Sym_areSound_56 : decode b_Sym_areSound 56 = .ok (.bipush 43, 2) := by decide +kernel
theorem d_Sym_areSound_58 : decode b_Sym_areSound 58 = .ok (.if_icmp .eq 20, 3) := by decide +kernel
theorem d_Sym_areSound_61 : decode b_Sym_areSound 61 = .ok (.aload_n 0, 1) := by decide +kernel
theorem d_Sym_areSound_62 : decode b_Sym_areSound 62 = .ok (.iload_n 2, 1) := by decide +kernel
theorem d_Sym_areSound_63 : decode b_Sym_areSound 63 = .ok (.invokevirtual 33, 3) := by decide +kernel
theorem d_Sym_areSound_66 : decode b_Sym_areSound 66 = .ok (.ifCond .ge 12, 3) := by decide +kernel
theorem d_Sym_areSound_69 : decode b_Sym_areSound 69 = .ok (.aload_n 0, 1) := by decide +kernel
theorem d_Sym_areSound_70 : decode b_Sym_areSound 70 = .ok (.iload_n 1, 1) := by decide +kernel
theorem d_Sym_areSound_71 : decode b_Sym_areSound 71 = .ok (.iload_n 2, 1) := by decide +kernel
theorem d_Sym_areSound_72 : decode b_Sym_areSound 72 = .ok (.invokevirtual 36, 3) := by decide +kernel
theorem d_Sym_areSound_75 : decode b_Sym_areSound 75 = .ok (.ifCond .eq 5, 3) := by decide +kernel
theorem d_Sym_areSound_78 : decode b_Sym_areSound 78 = .ok (.iconst 0, 1) := by decide +kernel
theorem d_Sym_areSound_79 : decode b_Sym_areSound 79 = .ok (.ireturn, 1) := by decide +kernel
theorem d_Sym_areSound_80 : decode b_Sym_areSound 80 = .ok (.iinc 1 1, 3) := by decide +kernel
theorem d_Sym_areSound_83 : decode b_Sym_areSound 83 = .ok (.goto (-47), 3) := by decide +kernel
theorem d_Sym_areSound_86 : decode b_Sym_areSound 86 = .ok (.iconst 1, 1) := by decide +kernel
theorem d_Sym_areSound_87 : decode b_Sym_areSound 87 = .ok (.ireturn, 1) := by decide +kernel
theorem d_Sym_change_0 : decode b_Sym_change 0 = .ok (.iload_n 1, 1) := by decide +kernel
theorem d_Sym_change_1 : decode b_Sym_change 1 = .ok (.ifCond .lt 9, 3) := by decide +kernel
theorem d_Sym_change_4 : decode b_Sym_change 4 = .ok (.iload_n 1, 1) := by decide +kernel
theorem d_Sym_change_5 : decode b_Sym_change 5 = .ok (.bipush 6, 2) := by decide +kernel
theorem d_Sym_change_7 : decode b_Sym_change 7 = .ok (.if_icmp .lt 5, 3) := by decide +kernel
theorem d_Sym_change_10 : decode b_Sym_change 10 = .ok (.iconst 0, 1) := by decide +kernel
theorem d_Sym_change_11 : decode b_Sym_change 11 = .ok (.ireturn, 1) := by decide +kernel
theorem d_Sym_change_12 : decode b_Sym_change 12 = .ok (.aload_n 0, 1) := by decide +kernel
theorem d_Sym_change_13 : decode b_Sym_change 13 = .ok (.getfield 9, 3) := by decide +kernel
theorem d_Sym_change_16 : decode b_Sym_change 16 = .ok (.iload_n 1, 1) := by decide +kernel
theorem d_Sym_change_17 : decode b_Sym_change 17 = .ok (.iaload, 1) := by decide +kernel
theorem d_Sym_change_18 : decode b_Sym_change 18 = .ok (.istore_n 3, 1) := by decide +kernel
theorem d_Sym_change_19 : decode b_Sym_change 19 = .ok (.aload_n 0, 1) := by decide +kernel
theorem d_Sym_change_20 : decode b_Sym_change 20 = .ok (.getfield 9, 3) := by decide +kernel
theorem d_Sym_change_23 : decode b_Sym_change 23 = .ok (.iload_n 1, 1) := by decide +kernel
theorem d_Sym_change_24 : decode b_Sym_change 24 = .ok (.iload_n 2, 1) := by decide +kernel
theorem d_Sym_change_25 : decode b_Sym_change 25 = .ok (.iastore, 1) := by decide +kernel
theorem d_Sym_change_26 : decode b_Sym_change 26 = .ok (.aload_n 0, 1) := by decide +kernel
theorem d_Sym_change_27 : decode b_Sym_change 27 = .ok (.invokevirtual 21, 3) := by decide +kernel
theorem d_Sym_change_30 : decode b_Sym_change 30 = .ok (.ifCond .eq 5, 3) := by decide +kernel
theorem d_Sym_change_33 : decode b_Sym_change 33 = .ok (.iconst 1, 1) := by decide +kernel
theorem d_Sym_change_34 : decode b_Sym_change 34 = .ok (.ireturn, 1) := by decide +kernel
theorem d_Sym_change_35 : decode b_Sym_change 35 = .ok (.aload_n 0, 1) := by decide +kernel
theorem d_Sym_change_36 : decode b_Sym_change 36 = .ok (.getfield 9, 3) := by decide +kernel
theorem d_Sym_change_39 : decode b_Sym_change 39 = .ok (.iload_n 1, 1) := by decide +kernel
theorem d_Sym_change_40 : decode b_Sym_change 40 = .ok (.iload_n 3, 1) := by decide +kernel
theorem d_Sym_change_41 : decode b_Sym_change 41 = .ok (.iastore, 1) := by decide +kernel
theorem d_Sym_change_42 : decode b_Sym_change 42 = .ok (.iconst 0, 1) := by decide +kernel
theorem d_Sym_change_43 : decode b_Sym_change 43 = .ok (.ireturn, 1) := by decide +kernel
