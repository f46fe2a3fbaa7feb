theorem d_isPlain_0 : decode b_isPlain 0 = .ok (.iload_n 0, 1) := by decide +kernel
theorem d_isPlain_1 : decode b_isPlain 1 = .ok (.bipush 32, 2) := by decide +kernel
theorem d_isPlain_3 : decode b_isPlain 3 = .ok (.if_icmp .lt 13, 3) := by decide +kernel
theorem d_isPlain_6 : decode b_isPlain 6 = .ok (.iload_n 0, 1) := by decide +kernel
theorem d_isPlain_7 : decode b_isPlain 7 = .ok (.bipush 126, 2) := by decide +kernel
theorem d_isPlain_9 : decode b_isPlain 9 = .ok (.if_icmp .gt 7, 3) := by decide +kernel
theorem d_isPlain_12 : decode b_isPlain 12 = .ok (.iconst 1, 1) := by decide +kernel
theorem d_isPlain_13 : decode b_isPlain 13 = .ok (.goto 4, 3) := by decide +kernel
theorem d_isPlain_16 : decode b_isPlain 16 = .ok (.iconst 0, 1) := by decide +kernel
theorem d_isPlain_17 : decode b_isPlain 17 = .ok (.ireturn, 1) := by decide +kernel
theorem d_Row_add_0 : decode b_Row_add 0 = .ok (.aload_n 0, 1) := by decide +kernel
theorem d_Row_add_1 : decode b_Row_add 1 = .ok (.getfield 19, 3) := by decide +kernel
theorem d_Row_add_4 : decode b_Row_add 4 = .ok (.aload_n 0, 1) := by decide +kernel
theorem d_Row_add_5 : decode b_Row_add 5 = .ok (.getfield 13, 3) := by decide +kernel
theorem d_Row_add_8 : decode b_Row_add 8 = .ok (.arraylength, 1) := by decide +kernel
theorem d_Row_add_9 : decode b_Row_add 9 = .ok (.if_icmp .lt 5, 3) := by decide +kernel
theorem d_Row_add_12 : decode b_Row_add 12 = .ok (.iconst 0, 1) := by decide +kernel
theorem d_Row_add_13 : decode b_Row_add 13 = .ok (.ireturn, 1) := by decide +kernel
theorem d_Row_add_14 : decode b_Row_add 14 = .ok (.aload_n 0, 1) := by decide +kernel
theorem d_Row_add_15 : decode b_Row_add 15 = .ok (.getfield 13, 3) := by decide +kernel
theorem d_Row_add_18 : decode b_Row_add 18 = .ok (.aload_n 0, 1) := by decide +kernel
theorem d_Row_add_19 : decode b_Row_add 19 = .ok (.getfield 19, 3) := by decide +kernel
theorem d_Row_add_22 : decode b_Row_add 22 = .ok (.iload_n 1, 1) := by decide +kernel
theorem d_Row_add_23 : decode b_Row_add 23 = .ok (.iastore, 1) := by decide +kernel
theorem d_Row_add_24 : decode b_Row_add 24 = .ok (.aload_n 0, 1) := by decide +kernel
theorem d_Row_add_25 : decode b_Row_add 25 = .ok (.dup, 1) := by decide +kernel
theorem d_Row_add_26 : decode b_Row_add 26 = .ok (.getfield 19, 3) := by decide +kernel
theorem d_Row_add_29 : decode b_Row_add 29 = .ok (.iconst 1, 1) := by decide +kernel
theorem d_Row_add_30 : decode b_Row_add 30 = .ok (.iadd, 1) := by decide +kernel
theorem d_Row_add_31 : decode b_Row_add 31 = .ok (.putfield 19, 3) := by decide +kernel
theorem d_Row_add_34 : decode b_Row_add 34 = .ok (.iconst 1, 1) := by decide +kernel
theorem d_Row_add_35 : decode b_Row_add 35 = .ok (.ireturn, 1) := by decide +kernel
theorem d_Row_clear_0 : decode b_Row_clear 0 = .ok (.aload_n 0, 1) := by decide +kernel
theorem d_Row_clear_1 : decode b_Row_clear 1 = .ok (.iconst 0, 1) := by decide +kernel
theorem d_Row_clear_2 : decode b_Row_clear 2 = .ok (.putfield 19, 3) := by decide +kernel
theorem d_Row_clear_5 : decode b_Row_clear 5 = .ok (.return_, 1) := by decide +kernel
theorem d_Row_has_0 : decode b_Row_has 0 = .ok (.iload_n 1, 1) := by decide +kernel
theorem d_Row_has_1 : decode b_Row_has 1 = .ok (.ifCond .lt 15, 3) := by decide +kernel
theorem d_Row_has_4 : decode b_Row_has 4 = .ok (.iload_n 1, 1) := by decide +kernel
theorem d_Row_has_5 : decode b_Row_has 5 = .ok (.aload_n 0, 1) := by decide +kernel
theorem d_Row_has_6 : decode b_Row_has 6 = .ok (.getfield 19, 3) := by decide +kernel
theorem d_Row_has_9 : decode b_Row_has 9 = .ok (.if_icmp .ge 7, 3) := by decide +kernel
theorem d_Row_has_12 : decode b_Row_has 12 = .ok (.iconst 1, 1) := by decide +kernel
theorem d_Row_has_13 : decode b_Row_has 13 = .ok (.goto 4, 3) := by decide +kernel
theorem d_Row_has_16 : decode b_Row_has 16 = .ok (.iconst 0, 1) := by decide +kernel
theorem d_Row_has_17 : decode b_Row_has 17 = .ok (.ireturn, 1) := by decide +kernel
theorem d_Row_code_0 : decode b_Row_code 0 = .ok (.aload_n 0, 1) := by decide +kernel
theorem d_Row_code_1 : decode b_Row_code 1 = .ok (.iload_n 1, 1) := by decide +kernel
theorem d_Row_code_2 : decode b_Row_code 2 = .ok (.invokevirtual 23, 3) := by decide +kernel
theorem d_Row_code_5 : decode b_Row_code 5 = .ok (.ifCond .eq 12, 3) := by decide +kernel
theorem d_Row_code_8 : decode b_Row_code 8 = .ok (.aload_n 0, 1) := by decide +kernel
theorem d_Row_code_9 : decode b_Row_code 9 = .ok (.getfield 13, 3) := by decide +kernel
theorem d_Row_code_12 : decode b_Row_code 12 = .ok (.iload_n 1, 1) := by decide +kernel
theorem d_Row_code_13 : decode b_Row_code 13 = .ok (.iaload, 1) := by decide +kernel
theorem d_Row_code_14 : decode b_Row_code 14 = .ok (.goto 4, 3) := by decide +kernel
theorem d_Row_code_17 : decode b_Row_code 17 = .ok (.iconst (-1), 1) := by decide +kernel
theorem d_Row_code_18 : decode b_Row_code 18 = .ok (.ireturn, 1) := by decide +kernel
theorem d_Row_copyFrom_0 : decode b_Row_copyFrom 0 = .ok (.aload_n 0, 1) := by decide +kernel
theorem d_Row_copyFrom_1 : decode b_Row_copyFrom 1 = .ok (.invokevirtual 27, 3) := by decide +kernel
theorem d_Row_copyFrom_4 : decode b_Row_copyFrom 4 = .ok (.iconst 0, 1) := by decide +kernel
theorem d_Row_copyFrom_5 : decode b_Row_copyFrom 5 = .ok (.istore_n 2, 1) := by decide +kernel
theorem d_Row_copyFrom_6 : decode b_Row_copyFrom 6 = .ok (.iload_n 2, 1) := by decide +kernel
theorem d_Row_copyFrom_7 : decode b_Row_copyFrom 7 = .ok (.aload_n 1, 1) := by decide +kernel
theorem d_Row_copyFrom_8 : decode b_Row_copyFrom 8 = .ok (.getfield 19, 3) := by decide +kernel
theorem d_Row_copyFrom_11 : decode b_Row_copyFrom 11 = .ok (.if_icmp .ge 19, 3) := by decide +kernel
theorem d_Row_copyFrom_14 : decode b_Row_copyFrom 14 = .ok (.aload_n 0, 1) := by decide +kernel
theorem d_Row_copyFrom_15 : decode b_Row_copyFrom 15 = .ok (.aload_n 1, 1) := by decide +kernel
theorem d_Row_copyFrom_16 : decode b_Row_copyFrom 16 = .ok (.iload_n 2, 1) := by decide +kernel
theorem d_Row_copyFrom_17 : decode b_Row_copyFrom 17 = .ok (.invokevirtual 30, 3) := by decide +kernel
theorem d_Row_copyFrom_20 : decode b_Row_copyFrom 20 = .ok (.invokevirtual 34, 3) := by decide +kernel
theorem d_Row_copyFrom_23 : decode b_Row_copyFrom 23 = .ok (.pop, 1) := by decide +kernel
theorem d_Row_copyFrom_24 : decode b_Row_copyFrom 24 = .ok (.iinc 2 1, 3) := by decide +kernel
theorem d_Row_copyFrom_27 : decode b_Row_copyFrom 27 = .ok (.goto (-21), 3) := by decide +kernel
theorem d_Row_copyFrom_30 : decode b_Row_copyFrom 30 = .ok (.return_, 1) := by decide +kernel
theorem d_Row_isSameAs_0 : decode b_Row_isSameAs 0 = .ok (.aload_n 0, 1) := by decide +kernel
theorem d_Row_isSameAs_1 : decode b_Row_isSameAs 1 = .ok (.getfield 19, 3) := by decide +kernel
theorem d_Row_isSameAs_4 : decode b_Row_isSameAs 4 = .ok (.aload_n 1, 1) := by decide +kernel
theorem d_Row_isSameAs_5 : decode b_Row_isSameAs 5 = .ok (.getfield 19, 3) := by decide +kernel
theorem d_Row_isSameAs_8 : decode b_Row_isSameAs 8 = .ok (.if_icmp .eq 5, 3) := by decide +kernel
theorem d_Row_isSameAs_11 : decode b_Row_isSameAs 11 = .ok (.iconst 0, 1) := by decide +kernel
theorem d_Row_isSameAs_12 : decode b_Row_isSameAs 12 = .ok (.ireturn, 1) := by decide +kernel
theorem d_Row_isSameAs_13 : decode b_Row_isSameAs 13 = .ok (.iconst 0, 1) := by decide +kernel
theorem d_Row_isSameAs_14 : decode b_Row_isSameAs 14 = .ok (.istore_n 2, 1) := by decide +kernel
theorem d_Row_isSameAs_15 : decode b_Row_isSameAs 15 = .ok (.iload_n 2, 1) := by decide +kernel
theorem d_Row_isSameAs_16 : decode b_Row_isSameAs 16 = .ok (.aload_n 0, 1) := by decide +kernel
theorem d_Row_isSameAs_17 : decode b_Row_isSameAs 17 = .ok (.getfield 19, 3) := by decide +kernel
theorem d_Row_isSameAs_20 : decode b_Row_isSameAs 20 = .ok (.if_icmp .ge 24, 3) := by decide +kernel
theorem d_Row_isSameAs_23 : decode b_Row_isSameAs 23 = .ok (.aload_n 0, 1) := by decide +kernel
theorem d_Row_isSameAs_24 : decode b_Row_isSameAs 24 = .ok (.iload_n 2, 1) := by decide +kernel
theorem d_Row_isSameAs_25 : decode b_Row_isSameAs 25 = .ok (.invokevirtual 30, 3) := by decide +kernel
theorem d_Row_isSameAs_28 : decode b_Row_isSameAs 28 = .ok (.aload_n 1, 1) := by decide +kernel
theorem d_Row_isSameAs_29 : decode b_Row_isSameAs 29 = .ok (.iload_n 2, 1) := by decide +kernel
theorem d_Row_isSameAs_30 : decode b_Row_isSameAs 30 = .ok (.invokevirtual 30, 3) := by decide +kernel
theorem d_Row_isSameAs_33 : decode b_Row_isSameAs 33 = .ok (.if_icmp .eq 5, 3) := by decide +kernel
theorem d_Row_isSameAs_36 : decode b_Row_isSameAs 36 = .ok (.iconst 0, 1) := by decide +kernel
theorem d_Row_isSameAs_37 : decode b_Row_isSameAs 37 = .ok (.ireturn, 1) := by decide +kernel
theorem d_Row_isSameAs_38 : decode b_Row_isSameAs 38 = .ok (.iinc 2 1, 3) := by decide +kernel
theorem d_Row_isSameAs_41 : decode b_Row_isSameAs 41 = .ok (.goto (-26), 3) := by decide +kernel
theorem d_Row_isSameAs_44 : decode b_Row_isSameAs 44 = .ok (.iconst 1, 1) := by decide +kernel
theorem d_Row_isSameAs_45 : decode b_Row_isSameAs 45 = .ok (.ireturn, 1) := by decide +kernel
