theorem d_Fi_begin_0 : decode b_Fi_begin 0 = .ok (.aload_n 0, 1) := by decide +kernel
theorem d_Fi_begin_1 : decode b_Fi_begin 1 = .ok (.lconst 0, 1) := by decide +kernel
theorem d_Fi_begin_2 : decode b_Fi_begin 2 = .ok (.putfield 39, 3) := by decide +kernel
theorem d_Fi_begin_5 : decode b_Fi_begin 5 = .ok (.aload_n 0, 1) := by decide +kernel
theorem d_Fi_begin_6 : decode b_Fi_begin 6 = .ok (.iconst 0, 1) := by decide +kernel
theorem d_Fi_begin_7 : decode b_Fi_begin 7 = .ok (.putfield 43, 3) := by decide +kernel
theorem d_Fi_begin_10 : decode b_Fi_begin 10 = .ok (.aload_n 0, 1) := by decide +kernel
theorem d_Fi_begin_11 : decode b_Fi_begin 11 = .ok (.iconst 0, 1) := by decide +kernel
theorem d_Fi_begin_12 : decode b_Fi_begin 12 = .ok (.putfield 90, 3) := by decide +kernel
theorem d_Fi_begin_15 : decode b_Fi_begin 15 = .ok (.aload_n 0, 1) := by decide +kernel
theorem d_Fi_begin_16 : decode b_Fi_begin 16 = .ok (.iconst 0, 1) := by decide +kernel
theorem d_Fi_begin_17 : decode b_Fi_begin 17 = .ok (.putfield 93, 3) := by decide +kernel
theorem d_Fi_begin_20 : decode b_Fi_begin 20 = .ok (.aload_n 0, 1) := by decide +kernel
theorem d_Fi_begin_21 : decode b_Fi_begin 21 = .ok (.iconst 0, 1) := by decide +kernel
theorem d_Fi_begin_22 : decode b_Fi_begin 22 = .ok (.putfield 96, 3) := by decide +kernel
theorem d_Fi_begin_25 : decode b_Fi_begin 25 = .ok (.aload_n 0, 1) := by decide +kernel
theorem d_Fi_begin_26 : decode b_Fi_begin 26 = .ok (.iconst 0, 1) := by decide +kernel
theorem d_Fi_begin_27 : decode b_Fi_begin 27 = .ok (.putfield 99, 3) := by decide +kernel
theorem d_Fi_begin_30 : decode b_Fi_begin 30 = .ok (.return_, 1) := by decide +kernel
theorem d_Fi_enter_0 : decode b_Fi_enter 0 = .ok (.aload_n 0, 1) := by decide +kernel
theorem d_Fi_enter_1 : decode b_Fi_enter 1 = .ok (.getfield 90, 3) := by decide +kernel
theorem d_Fi_enter_4 : decode b_Fi_enter 4 = .ok (.iload_n 1, 1) := by decide +kernel
theorem d_Fi_enter_5 : decode b_Fi_enter 5 = .ok (.if_icmp .lt 5, 3) := by decide +kernel
theorem d_Fi_enter_8 : decode b_Fi_enter 8 = .ok (.iconst 0, 1) := by decide +kernel
theorem d_Fi_enter_9 : decode b_Fi_enter 9 = .ok (.ireturn, 1) := by decide +kernel
theorem d_Fi_enter_10 : decode b_Fi_enter 10 = .ok (.aload_n 0, 1) := by decide +kernel
theorem d_Fi_enter_11 : decode b_Fi_enter 11 = .ok (.iload_n 1, 1) := by decide +kernel
theorem d_Fi_enter_12 : decode b_Fi_enter 12 = .ok (.putfield 90, 3) := by decide +kernel
theorem d_Fi_enter_15 : decode b_Fi_enter 15 = .ok (.iconst 1, 1) := by decide +kernel
theorem d_Fi_enter_16 : decode b_Fi_enter 16 = .ok (.ireturn, 1) := by decide +kernel
theorem d_Fi_append_0 : decode b_Fi_append 0 = .ok (.aload_n 0, 1) := by decide +kernel
theorem d_Fi_append_1 : decode b_Fi_append 1 = .ok (.getfield 39, 3) := by decide +kernel
theorem d_Fi_append_4 : decode b_Fi_append 4 = .ok (.ldc2_w 121, 3) := by decide +kernel
theorem d_Fi_append_7 : decode b_Fi_append 7 = .ok (.iload_n 1, 1) := by decide +kernel
theorem d_Fi_append_8 : decode b_Fi_append 8 = .ok (.i2l, 1) := by decide +kernel
theorem d_Fi_append_9 : decode b_Fi_append 9 = .ok (.lsub, 1) := by decide +kernel
theorem d_Fi_append_10 : decode b_Fi_append 10 = .ok (.ldc2_w 123, 3) := by decide +kernel
theorem d_Fi_append_13 : decode b_Fi_append 13 = .ok (.ldiv, 1) := by decide +kernel
theorem d_Fi_append_14 : decode b_Fi_append 14 = .ok (.lcmp, 1) := by decide +kernel
theorem d_Fi_append_15 : decode b_Fi_append 15 = .ok (.ifCond .le 5, 3) := by decide +kernel
theorem d_Fi_append_18 : decode b_Fi_append 18 = .ok (.iconst 0, 1) := by decide +kernel
theorem d_Fi_append_19 : decode b_Fi_append 19 = .ok (.ireturn, 1) := by decide +kernel
theorem d_Fi_append_20 : decode b_Fi_append 20 = .ok (.aload_n 0, 1) := by decide +kernel
theorem d_Fi_append_21 : decode b_Fi_append 21 = .ok (.aload_n 0, 1) := by decide +kernel
theorem d_Fi_append_22 : decode b_Fi_append 22 = .ok (.getfield 39, 3) := by decide +kernel
theorem d_Fi_append_25 : decode b_Fi_append 25 = .ok (.ldc2_w 123, 3) := by decide +kernel
theorem d_Fi_append_28 : decode b_Fi_append 28 = .ok (.lmul, 1) := by decide +kernel
theorem d_Fi_append_29 : decode b_Fi_append 29 = .ok (.iload_n 1, 1) := by decide +kernel
theorem d_Fi_append_30 : decode b_Fi_append 30 = .ok (.i2l, 1) := by decide +kernel
theorem d_Fi_append_31 : decode b_Fi_append 31 = .ok (.ladd, 1) := by decide +kernel
theorem d_Fi_append_32 : decode b_Fi_append 32 = .ok (.putfield 39, 3) := by decide +kernel
theorem d_Fi_append_35 : decode b_Fi_append 35 = .ok (.iconst 1, 1) := by decide +kernel
theorem d_Fi_append_36 : decode b_Fi_append 36 = .ok (.ireturn, 1) := by decide +kernel
theorem d_Fi_takeZerosBehind_0 : decode b_Fi_takeZerosBehind 0 = .ok (.aload_n 0, 1) := by decide +kernel
theorem d_Fi_takeZerosBehind_1 : decode b_Fi_takeZerosBehind 1 = .ok (.getfield 39, 3) := by decide +kernel
theorem d_Fi_takeZerosBehind_4 : decode b_Fi_takeZerosBehind 4 = .ok (.lconst 0, 1) := by decide +kernel
theorem d_Fi_takeZerosBehind_5 : decode b_Fi_takeZerosBehind 5 = .ok (.lcmp, 1) := by decide +kernel
theorem d_Fi_takeZerosBehind_6 : decode b_Fi_takeZerosBehind 6 = .ok (.ifCond .ne 7, 3) := by decide +kernel
theorem d_Fi_takeZerosBehind_9 : decode b_Fi_takeZerosBehind 9 = .ok (.iconst 0, 1) := by decide +kernel
theorem d_Fi_takeZerosBehind_10 : decode b_Fi_takeZerosBehind 10 = .ok (.goto 7, 3) := by decide +kernel
theorem d_Fi_takeZerosBehind_13 : decode b_Fi_takeZerosBehind 13 = .ok (.aload_n 0, 1) := by decide +kernel
theorem d_Fi_takeZerosBehind_14 : decode b_Fi_takeZerosBehind 14 = .ok (.getfield 93, 3) := by decide +kernel
theorem d_Fi_takeZerosBehind_17 : decode b_Fi_takeZerosBehind 17 = .ok (.istore_n 1, 1) := by decide +kernel
theorem d_Fi_takeZerosBehind_18 : decode b_Fi_takeZerosBehind 18 = .ok (.aload_n 0, 1) := by decide +kernel
theorem d_Fi_takeZerosBehind_19 : decode b_Fi_takeZerosBehind 19 = .ok (.iconst 0, 1) := by decide +kernel
theorem d_Fi_takeZerosBehind_20 : decode b_Fi_takeZerosBehind 20 = .ok (.putfield 93, 3) := by decide +kernel
theorem d_Fi_takeZerosBehind_23 : decode b_Fi_takeZerosBehind 23 = .ok (.iconst 0, 1) := by decide +kernel
theorem d_Fi_takeZerosBehind_24 : decode b_Fi_takeZerosBehind 24 = .ok (.istore_n 2, 1) := by decide +kernel
theorem d_Fi_takeZerosBehind_25 : decode b_Fi_takeZerosBehind 25 = .ok (.iload_n 2, 1) := by decide +kernel
theorem d_Fi_takeZerosBehind_26 : decode b_Fi_takeZerosBehind 26 = .ok (.iload_n 1, 1) := by decide +kernel
theorem d_Fi_takeZerosBehind_27 : decode b_Fi_takeZerosBehind 27 = .ok (.if_icmp .ge 19, 3) := by decide +kernel
theorem d_Fi_takeZerosBehind_30 : decode b_Fi_takeZerosBehind 30 = .ok (.aload_n 0, 1) := by decide +kernel
theorem d_Fi_takeZerosBehind_31 : decode b_Fi_takeZerosBehind 31 = .ok (.iconst 0, 1) := by decide +kernel
theorem d_Fi_takeZerosBehind_32 : decode b_Fi_takeZerosBehind 32 = .ok (.invokevirtual 118, 3) := by decide +kernel
theorem d_Fi_takeZerosBehind_35 : decode b_Fi_takeZerosBehind 35 = .ok (.ifCond .ne 5, 3) := by decide +kernel
theorem d_Fi_takeZerosBehind_38 : decode b_Fi_takeZerosBehind 38 = .ok (.iconst 0, 1) := by decide +kernel
theorem d_Fi_takeZerosBehind_39 : decode b_Fi_takeZerosBehind 39 = .ok (.ireturn, 1) := by decide +kernel
theorem d_Fi_takeZerosBehind_40 : decode b_Fi_takeZerosBehind 40 = .ok (.iinc 2 1, 3) := by decide +kernel
theorem d_Fi_takeZerosBehind_43 : decode b_Fi_takeZerosBehind 43 = .ok (.goto (-18), 3) := by decide +kernel
theorem d_Fi_takeZerosBehind_46 : decode b_Fi_takeZerosBehind 46 = .ok (.iconst 1, 1) := by decide +kernel
theorem d_Fi_takeZerosBehind_47 : decode b_Fi_takeZerosBehind 47 = .ok (.ireturn, 1) := by decide +kernel
theorem d_Fi_takeDigit_0 : decode b_Fi_takeDigit 0 = .ok (.aload_n 0, 1) := by decide +kernel
theorem d_Fi_takeDigit_1 : decode b_Fi_takeDigit 1 = .ok (.getfield 90, 3) := by decide +kernel
theorem d_Fi_takeDigit_4 : decode b_Fi_takeDigit 4 = .ok (.iconst 2, 1) := by decide +kernel
theorem d_Fi_takeDigit_5 : decode b_Fi_takeDigit 5 = .ok (.if_icmp .ne 35, 3) := by decide +kernel
theorem d_Fi_takeDigit_8 : decode b_Fi_takeDigit 8 = .ok (.aload_n 0, 1) := by decide +kernel
theorem d_Fi_takeDigit_9 : decode b_Fi_takeDigit 9 = .ok (.aload_n 0, 1) := by decide +kernel
theorem d_Fi_takeDigit_10 : decode b_Fi_takeDigit 10 = .ok (.getfield 96, 3) := by decide +kernel
theorem d_Fi_takeDigit_13 : decode b_Fi_takeDigit 13 = .ok (.sipush 1000, 3) := by decide +kernel
theorem d_Fi_takeDigit_16 : decode b_Fi_takeDigit 16 = .ok (.if_icmp .ge 15, 3) := by decide +kernel
theorem d_Fi_takeDigit_19 : decode b_Fi_takeDigit 19 = .ok (.aload_n 0, 1) := by decide +kernel
theorem d_Fi_takeDigit_20 : decode b_Fi_takeDigit 20 = .ok (.getfield 96, 3) := by decide +kernel
theorem d_Fi_takeDigit_23 : decode b_Fi_takeDigit 23 = .ok (.bipush 10, 2) := by decide +kernel
theorem d_Fi_takeDigit_25 : decode b_Fi_takeDigit 25 = .ok (.imul, 1) := by decide +kernel
theorem d_Fi_takeDigit_26 : decode b_Fi_takeDigit 26 = .ok (.iload_n 1, 1) := by decide +kernel
theorem d_Fi_takeDigit_27 : decode b_Fi_takeDigit 27 = .ok (.iadd, 1) := by decide +kernel
theorem d_Fi_takeDigit_28 : decode b_Fi_takeDigit 28 = .ok (.goto 7, 3) := by decide +kernel
theorem d_Fi_takeDigit_31 : decode b_Fi_takeDigit 31 = .ok (.aload_n 0, 1) := by decide +kernel
theorem d_Fi_takeDigit_32 : decode b_Fi_takeDigit 32 = .ok (.getfield 96, 3) := by decide +kernel
theorem d_Fi_takeDigit_35 : decode b_Fi_takeDigit 35 = .ok (.putfield 96, 3) := by decide +kernel
theorem d_Fi_takeDigit_38 : decode b_Fi_takeDigit 38 = .ok (.iconst 1, 1) := by decide +kernel
theorem d_Fi_takeDigit_39 : decode b_Fi_takeDigit 39 = .ok (.ireturn, 1) := by decide +kernel
theorem d_Fi_takeDigit_40 : decode b_Fi_takeDigit 40 = .ok (.aload_n 0, 1) := by decide +kernel
theorem d_Fi_takeDigit_41 : decode b_Fi_takeDigit 41 = .ok (.getfield 90, 3) := by decide +kernel
theorem d_Fi_takeDigit_44 : decode b_Fi_takeDigit 44 = .ok (.iconst 1, 1) := by decide +kernel
theorem d_Fi_takeDigit_45 : decode b_Fi_takeDigit 45 = .ok (.if_icmp .ne 13, 3) := by decide +kernel
theorem d_Fi_takeDigit_48 : decode b_Fi_takeDigit 48 = .ok (.aload_n 0, 1) := by decide +kernel
theorem d_Fi_takeDigit_49 : decode b_Fi_takeDigit 49 = .ok (.dup, 1) := by decide +kernel
theorem d_Fi_takeDigit_50 : decode b_Fi_takeDigit 50 = .ok (.getfield 43, 3) := by decide +kernel
theorem d_Fi_takeDigit_53 : decode b_Fi_takeDigit 53 = .ok (.iconst 1, 1) := by decide +kernel
theorem d_Fi_takeDigit_54 : decode b_Fi_takeDigit 54 = .ok (.iadd, 1) := by decide +kernel
theorem d_Fi_takeDigit_55 : decode b_Fi_takeDigit 55 = .ok (.putfield 43, 3) := by decide +kernel
theorem d_Fi_takeDigit_58 : decode b_Fi_takeDigit 58 = .ok (.iload_n 1, 1) := by decide +kernel
theorem d_Fi_takeDigit_59 : decode b_Fi_takeDigit 59 = .ok (.ifCond .ne 15, 3) := by decide +kernel
theorem d_Fi_takeDigit_62 : decode b_Fi_takeDigit 62 = .ok (.aload_n 0, 1) := by decide +kernel
theorem d_Fi_takeDigit_63 : decode b_Fi_takeDigit 63 = .ok (.dup, 1) := by decide +kernel
theorem d_Fi_takeDigit_64 : decode b_Fi_takeDigit 64 = .ok (.getfield 93, 3) := by decide +kernel
theorem d_Fi_takeDigit_67 : decode b_Fi_takeDigit 67 = .ok (.iconst 1, 1) := by decide +kernel
theorem d_Fi_takeDigit_68 : decode b_Fi_takeDigit 68 = .ok (.iadd, 1) := by decide +kernel
theorem d_Fi_takeDigit_69 : decode b_Fi_takeDigit 69 = .ok (.putfield 93, 3) := by decide +kernel
theorem d_Fi_takeDigit_72 : decode b_Fi_takeDigit 72 = .ok (.iconst 1, 1) := by decide +kernel
theorem d_Fi_takeDigit_73 : decode b_Fi_takeDigit 73 = .ok (.ireturn, 1) := by decide +kernel
theorem d_Fi_takeDigit_74 : decode b_Fi_takeDigit 74 = .ok (.aload_n 0, 1) := by decide +kernel
theorem d_Fi_takeDigit_75 : decode b_Fi_takeDigit 75 = .ok (.invokevirtual 114, 3) := by decide +kernel
theorem d_Fi_takeDigit_78 : decode b_Fi_takeDigit 78 = .ok (.ifCond .eq 15, 3) := by decide +kernel
theorem d_Fi_takeDigit_81 : decode b_Fi_takeDigit 81 = .ok (.aload_n 0, 1) := by decide +kernel
theorem d_Fi_takeDigit_82 : decode b_Fi_takeDigit 82 = .ok (.iload_n 1, 1) := by decide +kernel
theorem d_Fi_takeDigit_83 : decode b_Fi_takeDigit 83 = .ok (.invokevirtual 118, 3) := by decide +kernel
theorem d_Fi_takeDigit_86 : decode b_Fi_takeDigit 86 = .ok (.ifCond .eq 7, 3) := by decide +kernel
theorem d_Fi_takeDigit_89 : decode b_Fi_takeDigit 89 = .ok (.iconst 1, 1) := by decide +kernel
theorem d_Fi_takeDigit_90 : decode b_Fi_takeDigit 90 = .ok (.goto 4, 3) := by decide +kernel
theorem d_Fi_takeDigit_93 : decode b_Fi_takeDigit 93 = .ok (.iconst 0, 1) := by decide +kernel
theorem d_Fi_takeDigit_94 : decode b_Fi_takeDigit 94 = .ok (.ireturn, 1) := by decide +kernel
theorem d_Fi_take_0 : decode b_Fi_take 0 = .ok (.aload_n 0, 1) := by decide +kernel
theorem d_Fi_take_1 : decode b_Fi_take 1 = .ok (.getfield 9, 3) := by decide +kernel
theorem d_Fi_take_4 : decode b_Fi_take 4 = .ok (.iload_n 1, 1) := by decide +kernel
theorem d_Fi_take_5 : decode b_Fi_take 5 = .ok (.invokevirtual 102, 3) := by decide +kernel
theorem d_Fi_take_8 : decode b_Fi_take 8 = .ok (.istore_n 2, 1) := by decide +kernel
theorem d_Fi_take_9 : decode b_Fi_take 9 = .ok (.iload_n 2, 1) := by decide +kernel
theorem d_Fi_take_10 : decode b_Fi_take 10 = .ok (.ifCond .lt 9, 3) := by decide +kernel
theorem d_Fi_take_13 : decode b_Fi_take 13 = .ok (.aload_n 0, 1) := by decide +kernel
theorem d_Fi_take_14 : decode b_Fi_take 14 = .ok (.iload_n 2, 1) := by decide +kernel
theorem d_Fi_take_15 : decode b_Fi_take 15 = .ok (.invokevirtual 107, 3) := by decide +kernel
theorem d_Fi_take_18 : decode b_Fi_take 18 = .ok (.ireturn, 1) := by decide +kernel
theorem d_Fi_take_19 : decode b_Fi_take 19 = .ok (.iload_n 1, 1) := by decide +kernel
theorem d_Fi_take_20 : decode b_Fi_take 20 = .ok (.aload_n 0, 1) := by decide +kernel
theorem d_Fi_take_21 : decode b_Fi_take 21 = .ok (.getfield 9, 3) := by decide +kernel
theorem d_Fi_take_24 : decode b_Fi_take 24 = .ok (.iconst 1, 1) := by decide +kernel
theorem d_Fi_take_25 : decode b_Fi_take 25 = .ok (.invokevirtual 110, 3) := by decide +kernel
theorem d_Fi_take_28 : decode b_Fi_take 28 = .ok (.if_icmp .ne 16, 3) := by decide +kernel
theorem d_Fi_take_31 : decode b_Fi_take 31 = .ok (.aload_n 0, 1) := by decide +kernel
theorem d_Fi_take_32 : decode b_Fi_take 32 = .ok (.getfield 90, 3) := by decide +kernel
theorem d_Fi_take_35 : decode b_Fi_take 35 = .ok (.ifCond .ne 7, 3) := by decide +kernel
theorem d_Fi_take_38 : decode b_Fi_take 38 = .ok (.iconst 1, 1) := by decide +kernel
theorem d_Fi_take_39 : decode b_Fi_take 39 = .ok (.goto 4, 3) := by decide +kernel
theorem d_Fi_take_42 : decode b_Fi_take 42 = .ok (.iconst 0, 1) := by decide +kernel
theorem d_Fi_take_43 : decode b_Fi_take 43 = .ok (.ireturn, 1) := by decide +kernel
theorem d_Fi_take_44 : decode b_Fi_take 44 = .ok (.iload_n 1, 1) := by decide +kernel
theorem d_Fi_take_45 : decode b_Fi_take 45 = .ok (.aload_n 0, 1) := by decide +kernel
theorem d_Fi_take_46 : decode b_Fi_take 46 = .ok (.getfield 9, 3) := by decide +kernel
theorem d_Fi_take_49 : decode b_Fi_take 49 = .ok (.iconst 0, 1) := by decide +kernel
theorem d_Fi_take_50 : decode b_Fi_take 50 = .ok (.invokevirtual 110, 3) := by decide +kernel
theorem d_Fi_take_53 : decode b_Fi_take 53 = .ok (.if_icmp .ne 9, 3) := by decide +kernel
theorem d_Fi_take_56 : decode b_Fi_take 56 = .ok (.aload_n 0, 1) := by decide +kernel
theorem d_Fi_take_57 : decode b_Fi_take 57 = .ok (.iconst 1, 1) := by decide +kernel
theorem d_Fi_take_58 : decode b_Fi_take 58 = .ok (.invokevirtual 111, 3) := by decide +kernel
theorem d_Fi_take_61 : decode b_Fi_take 61 = .ok (.ireturn, 1) := by decide +kernel
theorem d_Fi_take_62 : decode b_Fi_take 62 = .ok (.iload_n 1, 1) := by decide +kernel
theorem d_Fi_take_63 : decode b_Fi_take 63 = .ok (.aload_n 0, 1) := by decide +kernel
theorem d_Fi_take_64 : decode b_Fi_take 64 = .ok (.getfield 9, 3) := by decide +kernel
theorem d_Fi_take_67 : decode b_Fi_take 67 = .ok (.iconst 4, 1) := by decide +kernel
theorem d_Fi_take_68 : decode b_Fi_take 68 = .ok (.invokevirtual 110, 3) := by decide +kernel
theorem d_Fi_take_71 : decode b_Fi_take 71 = .ok (.if_icmp .ne 9, 3) := by decide +kernel
theorem d_Fi_take_74 : decode b_Fi_take 74 = .ok (.aload_n 0, 1) := by decide +kernel
theorem d_Fi_take_75 : decode b_Fi_take 75 = .ok (.iconst 2, 1) := by decide +kernel
theorem d_Fi_take_76 : decode b_Fi_take 76 = .ok (.invokevirtual 111, 3) := by decide +kernel
theorem d_Fi_take_79 : decode b_Fi_take 79 = .ok (.ireturn, 1) := by decide +kernel
theorem d_Fi_take_80 : decode b_Fi_take 80 = .ok (.iload_n 1, 1) := by decide +kernel
theorem d_Fi_take_81 : decode b_Fi_take 81 = .ok (.aload_n 0, 1) := by decide +kernel
theorem d_Fi_take_82 : decode b_Fi_take 82 = .ok (.getfield 9, 3) := by decide +kernel
theorem d_Fi_take_85 : decode b_Fi_take 85 = .ok (.iconst 2, 1) := by decide +kernel
theorem d_Fi_take_86 : decode b_Fi_take 86 = .ok (.invokevirtual 110, 3) := by decide +kernel
theorem d_Fi_take_89 : decode b_Fi_take 89 = .ok (.if_icmp .ne 22, 3) := by decide +kernel
theorem d_Fi_take_92 : decode b_Fi_take 92 = .ok (.aload_n 0, 1) := by decide +kernel
theorem d_Fi_take_93 : decode b_Fi_take 93 = .ok (.iconst 1, 1) := by decide +kernel
theorem d_Fi_take_94 : decode b_Fi_take 94 = .ok (.putfield 99, 3) := by decide +kernel
theorem d_Fi_take_97 : decode b_Fi_take 97 = .ok (.aload_n 0, 1) := by decide +kernel
theorem d_Fi_take_98 : decode b_Fi_take 98 = .ok (.getfield 90, 3) := by decide +kernel
theorem d_Fi_take_101 : decode b_Fi_take 101 = .ok (.iconst 2, 1) := by decide +kernel
theorem d_Fi_take_102 : decode b_Fi_take 102 = .ok (.if_icmp .ne 7, 3) := by decide +kernel
theorem d_Fi_take_105 : decode b_Fi_take 105 = .ok (.iconst 1, 1) := by decide +kernel
theorem d_Fi_take_106 : decode b_Fi_take 106 = .ok (.goto 4, 3) := by decide +kernel
theorem d_Fi_take_109 : decode b_Fi_take 109 = .ok (.iconst 0, 1) := by decide +kernel
theorem d_Fi_take_110 : decode b_Fi_take 110 = .ok (.ireturn, 1) := by decide +kernel
theorem d_Fi_take_111 : decode b_Fi_take 111 = .ok (.iload_n 1, 1) := by decide +kernel
theorem d_Fi_take_112 : decode b_Fi_take 112 = .ok (.bipush 43, 2) := by decide +kernel
theorem d_Fi_take_114 : decode b_Fi_take 114 = .ok (.if_icmp .ne 15, 3) := by decide +kernel
theorem d_Fi_take_117 : decode b_Fi_take 117 = .ok (.aload_n 0, 1) := by decide +kernel
theorem d_Fi_take_118 : decode b_Fi_take 118 = .ok (.getfield 90, 3) := by decide +kernel
theorem d_Fi_take_121 : decode b_Fi_take 121 = .ok (.iconst 2, 1) := by decide +kernel
theorem d_Fi_take_122 : decode b_Fi_take 122 = .ok (.if_icmp .ne 7, 3) := by decide +kernel
theorem d_Fi_take_125 : decode b_Fi_take 125 = .ok (.iconst 1, 1) := by decide +kernel
theorem d_Fi_take_126 : decode b_Fi_take 126 = .ok (.goto 4, 3) := by decide +kernel
theorem d_Fi_take_129 : decode b_Fi_take 129 = .ok (.iconst 0, 1) := by decide +kernel
theorem d_Fi_take_130 : decode b_Fi_take 130 = .ok (.ireturn, 1) := by decide +kernel
theorem d_Fi_settle_0 : decode b_Fi_settle 0 = .ok (.aload_n 0, 1) := by decide +kernel
theorem d_Fi_settle_1 : decode b_Fi_settle 1 = .ok (.getfield 93, 3) := by decide +kernel
theorem d_Fi_settle_4 : decode b_Fi_settle 4 = .ok (.aload_n 0, 1) := by decide +kernel
theorem d_Fi_settle_5 : decode b_Fi_settle 5 = .ok (.getfield 43, 3) := by decide +kernel
theorem d_Fi_settle_8 : decode b_Fi_settle 8 = .ok (.isub, 1) := by decide +kernel
theorem d_Fi_settle_9 : decode b_Fi_settle 9 = .ok (.aload_n 0, 1) := by decide +kernel
theorem d_Fi_settle_10 : decode b_Fi_settle 10 = .ok (.getfield 99, 3) := by decide +kernel
theorem d_Fi_settle_13 : decode b_Fi_settle 13 = .ok (.ifCond .eq 11, 3) := by decide +kernel
theorem d_Fi_settle_16 : decode b_Fi_settle 16 = .ok (.aload_n 0, 1) := by decide +kernel
theorem d_Fi_settle_17 : decode b_Fi_settle 17 = .ok (.getfield 96, 3) := by decide +kernel
theorem d_Fi_settle_20 : decode b_Fi_settle 20 = .ok (.ineg, 1) := by decide +kernel
theorem d_Fi_settle_21 : decode b_Fi_settle 21 = .ok (.goto 7, 3) := by decide +kernel
theorem d_Fi_settle_24 : decode b_Fi_settle 24 = .ok (.aload_n 0, 1) := by decide +kernel
theorem d_Fi_settle_25 : decode b_Fi_settle 25 = .ok (.getfield 96, 3) := by decide +kernel
theorem d_Fi_settle_28 : decode b_Fi_settle 28 = .ok (.iadd, 1) := by decide +kernel
theorem d_Fi_settle_29 : decode b_Fi_settle 29 = .ok (.iload_n 1, 1) := by decide +kernel
theorem d_Fi_settle_30 : decode b_Fi_settle 30 = .ok (.ifCond .eq 7, 3) := by decide +kernel
theorem d_Fi_settle_33 : decode b_Fi_settle 33 = .ok (.iconst 2, 1) := by decide +kernel
theorem d_Fi_settle_34 : decode b_Fi_settle 34 = .ok (.goto 4, 3) := by decide +kernel
theorem d_Fi_settle_37 : decode b_Fi_settle 37 = .ok (.iconst 0, 1) := by decide +kernel
theorem d_Fi_settle_38 : decode b_Fi_settle 38 = .ok (.isub, 1) := by decide +kernel
theorem d_Fi_settle_39 : decode b_Fi_settle 39 = .ok (.istore_n 2, 1) := by decide +kernel
theorem d_Fi_settle_40 : decode b_Fi_settle 40 = .ok (.aload_n 0, 1) := by decide +kernel
theorem d_Fi_settle_41 : decode b_Fi_settle 41 = .ok (.iconst 0, 1) := by decide +kernel
theorem d_Fi_settle_42 : decode b_Fi_settle 42 = .ok (.putfield 43, 3) := by decide +kernel
theorem d_Fi_settle_45 : decode b_Fi_settle 45 = .ok (.aload_n 0, 1) := by decide +kernel
theorem d_Fi_settle_46 : decode b_Fi_settle 46 = .ok (.getfield 39, 3) := by decide +kernel
theorem d_Fi_settle_49 : decode b_Fi_settle 49 = .ok (.lconst 0, 1) := by decide +kernel
theorem d_Fi_settle_50 : decode b_Fi_settle 50 = .ok (.lcmp, 1) := by decide +kernel
theorem d_Fi_settle_51 : decode b_Fi_settle 51 = .ok (.ifCond .ne 5, 3) := by decide +kernel
theorem d_Fi_settle_54 : decode b_Fi_settle 54 = .ok (.iconst 1, 1) := by decide +kernel
theorem d_Fi_settle_55 : decode b_Fi_settle 55 = .ok (.ireturn, 1) := by decide +kernel
theorem d_Fi_settle_56 : decode b_Fi_settle 56 = .ok (.iload_n 2, 1) := by decide +kernel
theorem d_Fi_settle_57 : decode b_Fi_settle 57 = .ok (.ifCond .ge 24, 3) := by decide +kernel
theorem d_Fi_settle_60 : decode b_Fi_settle 60 = .ok (.aload_n 0, 1) := by decide +kernel
theorem d_Fi_settle_61 : decode b_Fi_settle 61 = .ok (.iload_n 2, 1) := by decide +kernel
theorem d_Fi_settle_62 : decode b_Fi_settle 62 = .ok (.ineg, 1) := by decide +kernel
theorem d_Fi_settle_63 : decode b_Fi_settle 63 = .ok (.putfield 43, 3) := by decide +kernel
theorem d_Fi_settle_66 : decode b_Fi_settle 66 = .ok (.aload_n 0, 1) := by decide +kernel
theorem d_Fi_settle_67 : decode b_Fi_settle 67 = .ok (.getfield 43, 3) := by decide +kernel
theorem d_Fi_settle_70 : decode b_Fi_settle 70 = .ok (.bipush 18, 2) := by decide +kernel
theorem d_Fi_settle_72 : decode b_Fi_settle 72 = .ok (.if_icmp .gt 7, 3) := by decide +kernel
theorem d_Fi_settle_75 : decode b_Fi_settle 75 = .ok (.iconst 1, 1) := by decide +kernel
theorem d_Fi_settle_76 : decode b_Fi_settle 76 = .ok (.goto 4, 3) := by decide +kernel
theorem d_Fi_settle_79 : decode b_Fi_settle 79 = .ok (.iconst 0, 1) := by decide +kernel
theorem d_Fi_settle_80 : decode b_Fi_settle 80 = .ok (.ireturn, 1) := by decide +kernel
theorem d_Fi_settle_81 : decode b_Fi_settle 81 = .ok (.iconst 0, 1) := by decide +kernel
theorem d_Fi_settle_82 : decode b_Fi_settle 82 = .ok (.istore_n 3, 1) := by decide +kernel
theorem d_Fi_settle_83 : decode b_Fi_settle 83 = .ok (.iload_n 3, 1) := by decide +kernel
theorem d_Fi_settle_84 : decode b_Fi_settle 84 = .ok (.iload_n 2, 1) := by decide +kernel
theorem d_Fi_settle_85 : decode b_Fi_settle 85 = .ok (.if_icmp .ge 19, 3) := by decide +kernel
theorem d_Fi_settle_88 : decode b_Fi_settle 88 = .ok (.aload_n 0, 1) := by decide +kernel
theorem d_Fi_settle_89 : decode b_Fi_settle 89 = .ok (.iconst 0, 1) := by decide +kernel
theorem d_Fi_settle_90 : decode b_Fi_settle 90 = .ok (.invokevirtual 118, 3) := by decide +kernel
theorem d_Fi_settle_93 : decode b_Fi_settle 93 = .ok (.ifCond .ne 5, 3) := by decide +kernel
theorem d_Fi_settle_96 : decode b_Fi_settle 96 = .ok (.iconst 0, 1) := by decide +kernel
theorem d_Fi_settle_97 : decode b_Fi_settle 97 = .ok (.ireturn, 1) := by decide +kernel
theorem d_Fi_settle_98 : decode b_Fi_settle 98 = .ok (.iinc 3 1, 3) := by decide +kernel
theorem d_Fi_settle_101 : decode b_Fi_settle 101 = .ok (.goto (-18), 3) := by decide +kernel
theorem d_Fi_settle_104 : decode b_Fi_settle 104 = .ok (.iconst 1, 1) := by decide +kernel
theorem d_Fi_settle_105 : decode b_Fi_settle 105 = .ok (.ireturn, 1) := by decide +kernel
theorem d_Fi_gather_0 : decode b_Fi_gather 0 = .ok (.aload_n 0, 1) := by decide +kernel
theorem d_Fi_gather_1 : decode b_Fi_gather 1 = .ok (.invokevirtual 63, 3) := by decide +kernel
theorem d_Fi_gather_4 : decode b_Fi_gather 4 = .ok (.aload_n 1, 1) := by decide +kernel
theorem d_Fi_gather_5 : decode b_Fi_gather 5 = .ok (.iload_n 3, 1) := by decide +kernel
theorem d_Fi_gather_6 : decode b_Fi_gather 6 = .ok (.invokevirtual 66, 3) := by decide +kernel
theorem d_Fi_gather_9 : decode b_Fi_gather 9 = .ok (.astore 4, 2) := by decide +kernel
theorem d_Fi_gather_11 : decode b_Fi_gather 11 = .ok (.aload 4, 2) := by decide +kernel
theorem d_Fi_gather_13 : decode b_Fi_gather 13 = .ok (.getfield 70, 3) := by decide +kernel
theorem d_Fi_gather_16 : decode b_Fi_gather 16 = .ok (.getfield 73, 3) := by decide +kernel
theorem d_Fi_gather_19 : decode b_Fi_gather 19 = .ok (.aload_n 1, 1) := by decide +kernel
theorem d_Fi_gather_20 : decode b_Fi_gather 20 = .ok (.iload_n 3, 1) := by decide +kernel
theorem d_Fi_gather_21 : decode b_Fi_gather 21 = .ok (.invokevirtual 76, 3) := by decide +kernel
theorem d_Fi_gather_24 : decode b_Fi_gather 24 = .ok (.ifCond .eq 7, 3) := by decide +kernel
theorem d_Fi_gather_27 : decode b_Fi_gather 27 = .ok (.iconst 1, 1) := by decide +kernel
theorem d_Fi_gather_28 : decode b_Fi_gather 28 = .ok (.goto 4, 3) := by decide +kernel
theorem d_Fi_gather_31 : decode b_Fi_gather 31 = .ok (.iconst 0, 1) := by decide +kernel
theorem d_Fi_gather_32 : decode b_Fi_gather 32 = .ok (.iadd, 1) := by decide +kernel
theorem d_Fi_gather_33 : decode b_Fi_gather 33 = .ok (.istore 5, 2) := by decide +kernel
theorem d_Fi_gather_35 : decode b_Fi_gather 35 = .ok (.aload_n 2, 1) := by decide +kernel
theorem d_Fi_gather_36 : decode b_Fi_gather 36 = .ok (.getfield 73, 3) := by decide +kernel
theorem d_Fi_gather_39 : decode b_Fi_gather 39 = .ok (.aload 4, 2) := by decide +kernel
theorem d_Fi_gather_41 : decode b_Fi_gather 41 = .ok (.getfield 79, 3) := by decide +kernel
theorem d_Fi_gather_44 : decode b_Fi_gather 44 = .ok (.getfield 73, 3) := by decide +kernel
theorem d_Fi_gather_47 : decode b_Fi_gather 47 = .ok (.isub, 1) := by decide +kernel
theorem d_Fi_gather_48 : decode b_Fi_gather 48 = .ok (.istore 6, 2) := by decide +kernel
theorem d_Fi_gather_50 : decode b_Fi_gather 50 = .ok (.iload 5, 2) := by decide +kernel
theorem d_Fi_gather_52 : decode b_Fi_gather 52 = .ok (.istore 7, 2) := by decide +kernel
theorem d_Fi_gather_54 : decode b_Fi_gather 54 = .ok (.iload 7, 2) := by decide +kernel
theorem d_Fi_gather_56 : decode b_Fi_gather 56 = .ok (.iload 6, 2) := by decide +kernel
theorem d_Fi_gather_58 : decode b_Fi_gather 58 = .ok (.if_icmp .ge 24, 3) := by decide +kernel
theorem d_Fi_gather_61 : decode b_Fi_gather 61 = .ok (.aload_n 0, 1) := by decide +kernel
theorem d_Fi_gather_62 : decode b_Fi_gather 62 = .ok (.aload_n 2, 1) := by decide +kernel
theorem d_Fi_gather_63 : decode b_Fi_gather 63 = .ok (.iload 7, 2) := by decide +kernel
theorem d_Fi_gather_65 : decode b_Fi_gather 65 = .ok (.invokevirtual 82, 3) := by decide +kernel
theorem d_Fi_gather_68 : decode b_Fi_gather 68 = .ok (.invokevirtual 86, 3) := by decide +kernel
theorem d_Fi_gather_71 : decode b_Fi_gather 71 = .ok (.ifCond .ne 5, 3) := by decide +kernel
theorem d_Fi_gather_74 : decode b_Fi_gather 74 = .ok (.iconst 0, 1) := by decide +kernel
theorem d_Fi_gather_75 : decode b_Fi_gather 75 = .ok (.ireturn, 1) := by decide +kernel
theorem d_Fi_gather_76 : decode b_Fi_gather 76 = .ok (.iinc 7 1, 3) := by decide +kernel
theorem d_Fi_gather_79 : decode b_Fi_gather 79 = .ok (.goto (-25), 3) := by decide +kernel
theorem d_Fi_gather_82 : decode b_Fi_gather 82 = .ok (.iconst 1, 1) := by decide +kernel
theorem d_Fi_gather_83 : decode b_Fi_gather 83 = .ok (.ireturn, 1) := by decide +kernel
theorem d_Fi_find_0 : decode b_Fi_find 0 = .ok (.aload_n 0, 1) := by decide +kernel
theorem d_Fi_find_1 : decode b_Fi_find 1 = .ok (.aload_n 1, 1) := by decide +kernel
theorem d_Fi_find_2 : decode b_Fi_find 2 = .ok (.aload_n 2, 1) := by decide +kernel
theorem d_Fi_find_3 : decode b_Fi_find 3 = .ok (.iload_n 3, 1) := by decide +kernel
theorem d_Fi_find_4 : decode b_Fi_find 4 = .ok (.invokevirtual 19, 3) := by decide +kernel
theorem d_Fi_find_7 : decode b_Fi_find 7 = .ok (.ifCond .eq 58, 3) := by decide +kernel
theorem d_Fi_find_10 : decode b_Fi_find 10 = .ok (.aload_n 0, 1) := by decide +kernel
theorem d_Fi_find_11 : decode b_Fi_find 11 = .ok (.aload_n 1, 1) := by decide +kernel
theorem d_Fi_find_12 : decode b_Fi_find 12 = .ok (.getfield 23, 3) := by decide +kernel
theorem d_Fi_find_15 : decode b_Fi_find 15 = .ok (.getfield 29, 3) := by decide +kernel
theorem d_Fi_find_18 : decode b_Fi_find 18 = .ok (.invokevirtual 35, 3) := by decide +kernel
theorem d_Fi_find_21 : decode b_Fi_find 21 = .ok (.ifCond .eq 44, 3) := by decide +kernel
theorem d_Fi_find_24 : decode b_Fi_find 24 = .ok (.aload_n 0, 1) := by decide +kernel
theorem d_Fi_find_25 : decode b_Fi_find 25 = .ok (.getfield 15, 3) := by decide +kernel
theorem d_Fi_find_28 : decode b_Fi_find 28 = .ok (.aload_n 1, 1) := by decide +kernel
theorem d_Fi_find_29 : decode b_Fi_find 29 = .ok (.iload_n 3, 1) := by decide +kernel
theorem d_Fi_find_30 : decode b_Fi_find 30 = .ok (.aload_n 0, 1) := by decide +kernel
theorem d_Fi_find_31 : decode b_Fi_find 31 = .ok (.getfield 39, 3) := by decide +kernel
theorem d_Fi_find_34 : decode b_Fi_find 34 = .ok (.lneg, 1) := by decide +kernel
theorem d_Fi_find_35 : decode b_Fi_find 35 = .ok (.aload_n 0, 1) := by decide +kernel
theorem d_Fi_find_36 : decode b_Fi_find 36 = .ok (.getfield 43, 3) := by decide +kernel
theorem d_Fi_find_39 : decode b_Fi_find 39 = .ok (.bipush 7, 2) := by decide +kernel
theorem d_Fi_find_41 : decode b_Fi_find 41 = .ok (.invokevirtual 47, 3) := by decide +kernel
theorem d_Fi_find_44 : decode b_Fi_find 44 = .ok (.ifCond .eq 21, 3) := by decide +kernel
theorem d_Fi_find_47 : decode b_Fi_find 47 = .ok (.aload_n 0, 1) := by decide +kernel
theorem d_Fi_find_48 : decode b_Fi_find 48 = .ok (.getfield 15, 3) := by decide +kernel
theorem d_Fi_find_51 : decode b_Fi_find 51 = .ok (.getfield 53, 3) := by decide +kernel
theorem d_Fi_find_54 : decode b_Fi_find 54 = .ok (.aload_n 2, 1) := by decide +kernel
theorem d_Fi_find_55 : decode b_Fi_find 55 = .ok (.invokevirtual 57, 3) := by decide +kernel
theorem d_Fi_find_58 : decode b_Fi_find 58 = .ok (.ifCond .eq 7, 3) := by decide +kernel
theorem d_Fi_find_61 : decode b_Fi_find 61 = .ok (.iconst 1, 1) := by decide +kernel
theorem d_Fi_find_62 : decode b_Fi_find 62 = .ok (.goto 4, 3) := by decide +kernel
theorem d_Fi_find_65 : decode b_Fi_find 65 = .ok (.iconst 0, 1) := by decide +kernel
theorem d_Fi_find_66 : decode b_Fi_find 66 = .ok (.ireturn, 1) := by decide +kernel
