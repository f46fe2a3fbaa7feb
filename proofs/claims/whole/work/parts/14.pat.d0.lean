theorem d_Sub_clear_0 : decode b_Sub_clear 0 = .ok (.aload_n 0, 1) := by decide +kernel
theorem d_Sub_clear_1 : decode b_Sub_clear 1 = .ok (.getfield 14, 3) := by decide +kernel
theorem d_Sub_clear_4 : decode b_Sub_clear 4 = .ok (.invokevirtual 23, 3) := by decide +kernel
theorem d_Sub_clear_7 : decode b_Sub_clear 7 = .ok (.aload_n 0, 1) := by decide +kernel
theorem d_Sub_clear_8 : decode b_Sub_clear 8 = .ok (.getfield 20, 3) := by decide +kernel
theorem d_Sub_clear_11 : decode b_Sub_clear 11 = .ok (.invokevirtual 23, 3) := by decide +kernel
theorem d_Sub_clear_14 : decode b_Sub_clear 14 = .ok (.aload_n 0, 1) := by decide +kernel
theorem d_Sub_clear_15 : decode b_Sub_clear 15 = .ok (.iconst 0, 1) := by decide +kernel
theorem d_Sub_clear_16 : decode b_Sub_clear 16 = .ok (.putfield 26, 3) := by decide +kernel
theorem d_Sub_clear_19 : decode b_Sub_clear 19 = .ok (.aload_n 0, 1) := by decide +kernel
theorem d_Sub_clear_20 : decode b_Sub_clear 20 = .ok (.iconst 0, 1) := by decide +kernel
theorem d_Sub_clear_21 : decode b_Sub_clear 21 = .ok (.putfield 30, 3) := by decide +kernel
theorem d_Sub_clear_24 : decode b_Sub_clear 24 = .ok (.aload_n 0, 1) := by decide +kernel
theorem d_Sub_clear_25 : decode b_Sub_clear 25 = .ok (.iconst 0, 1) := by decide +kernel
theorem d_Sub_clear_26 : decode b_Sub_clear 26 = .ok (.putfield 34, 3) := by decide +kernel
theorem d_Sub_clear_29 : decode b_Sub_clear 29 = .ok (.aload_n 0, 1) := by decide +kernel
theorem d_Sub_clear_30 : decode b_Sub_clear 30 = .ok (.iconst 0, 1) := by decide +kernel
theorem d_Sub_clear_31 : decode b_Sub_clear 31 = .ok (.putfield 37, 3) := by decide +kernel
theorem d_Sub_clear_34 : decode b_Sub_clear 34 = .ok (.aload_n 0, 1) := by decide +kernel
theorem d_Sub_clear_35 : decode b_Sub_clear 35 = .ok (.iconst 0, 1) := by decide +kernel
theorem d_Sub_clear_36 : decode b_Sub_clear 36 = .ok (.putfield 40, 3) := by decide +kernel
theorem d_Sub_clear_39 : decode b_Sub_clear 39 = .ok (.aload_n 0, 1) := by decide +kernel
theorem d_Sub_clear_40 : decode b_Sub_clear 40 = .ok (.iconst 0, 1) := by decide +kernel
theorem d_Sub_clear_41 : decode b_Sub_clear 41 = .ok (.putfield 43, 3) := by decide +kernel
theorem d_Sub_clear_44 : decode b_Sub_clear 44 = .ok (.aload_n 0, 1) := by decide +kernel
theorem d_Sub_clear_45 : decode b_Sub_clear 45 = .ok (.iconst 0, 1) := by decide +kernel
theorem d_Sub_clear_46 : decode b_Sub_clear 46 = .ok (.putfield 46, 3) := by decide +kernel
theorem d_Sub_clear_49 : decode b_Sub_clear 49 = .ok (.aload_n 0, 1) := by decide +kernel
theorem d_Sub_clear_50 : decode b_Sub_clear 50 = .ok (.iconst 0, 1) := by decide +kernel
theorem d_Sub_clear_51 : decode b_Sub_clear 51 = .ok (.putfield 49, 3) := by decide +kernel
theorem d_Sub_clear_54 : decode b_Sub_clear 54 = .ok (.aload_n 0, 1) := by decide +kernel
theorem d_Sub_clear_55 : decode b_Sub_clear 55 = .ok (.iconst 0, 1) := by decide +kernel
theorem d_Sub_clear_56 : decode b_Sub_clear 56 = .ok (.putfield 52, 3) := by decide +kernel
theorem d_Sub_clear_59 : decode b_Sub_clear 59 = .ok (.aload_n 0, 1) := by decide +kernel
theorem d_Sub_clear_60 : decode b_Sub_clear 60 = .ok (.iconst 0, 1) := by decide +kernel
theorem d_Sub_clear_61 : decode b_Sub_clear 61 = .ok (.putfield 55, 3) := by decide +kernel
theorem d_Sub_clear_64 : decode b_Sub_clear 64 = .ok (.return_, 1) := by decide +kernel
theorem d_Sub_hasExponent_0 : decode b_Sub_hasExponent 0 = .ok (.aload_n 0, 1) := by decide +kernel
theorem d_Sub_hasExponent_1 : decode b_Sub_hasExponent 1 = .ok (.getfield 52, 3) := by decide +kernel
theorem d_Sub_hasExponent_4 : decode b_Sub_hasExponent 4 = .ok (.ifCond .le 7, 3) := by decide +kernel
theorem d_Sub_hasExponent_7 : decode b_Sub_hasExponent 7 = .ok (.iconst 1, 1) := by decide +kernel
theorem d_Sub_hasExponent_8 : decode b_Sub_hasExponent 8 = .ok (.goto 4, 3) := by decide +kernel
theorem d_Sub_hasExponent_11 : decode b_Sub_hasExponent 11 = .ok (.iconst 0, 1) := by decide +kernel
theorem d_Sub_hasExponent_12 : decode b_Sub_hasExponent 12 = .ok (.ireturn, 1) := by decide +kernel
theorem d_Sub_groupsBefore_0 : decode b_Sub_groupsBefore 0 = .ok (.aload_n 0, 1) := by decide +kernel
theorem d_Sub_groupsBefore_1 : decode b_Sub_groupsBefore 1 = .ok (.getfield 37, 3) := by decide +kernel
theorem d_Sub_groupsBefore_4 : decode b_Sub_groupsBefore 4 = .ok (.iconst 1, 1) := by decide +kernel
theorem d_Sub_groupsBefore_5 : decode b_Sub_groupsBefore 5 = .ok (.if_icmp .le 10, 3) := by decide +kernel
theorem d_Sub_groupsBefore_8 : decode b_Sub_groupsBefore 8 = .ok (.aload_n 0, 1) := by decide +kernel
theorem d_Sub_groupsBefore_9 : decode b_Sub_groupsBefore 9 = .ok (.getfield 43, 3) := by decide +kernel
theorem d_Sub_groupsBefore_12 : decode b_Sub_groupsBefore 12 = .ok (.goto 7, 3) := by decide +kernel
theorem d_Sub_groupsBefore_15 : decode b_Sub_groupsBefore 15 = .ok (.aload_n 0, 1) := by decide +kernel
theorem d_Sub_groupsBefore_16 : decode b_Sub_groupsBefore 16 = .ok (.getfield 40, 3) := by decide +kernel
theorem d_Sub_groupsBefore_19 : decode b_Sub_groupsBefore 19 = .ok (.istore_n 2, 1) := by decide +kernel
theorem d_Sub_groupsBefore_20 : decode b_Sub_groupsBefore 20 = .ok (.iload_n 1, 1) := by decide +kernel
theorem d_Sub_groupsBefore_21 : decode b_Sub_groupsBefore 21 = .ok (.aload_n 0, 1) := by decide +kernel
theorem d_Sub_groupsBefore_22 : decode b_Sub_groupsBefore 22 = .ok (.getfield 40, 3) := by decide +kernel
theorem d_Sub_groupsBefore_25 : decode b_Sub_groupsBefore 25 = .ok (.isub, 1) := by decide +kernel
theorem d_Sub_groupsBefore_26 : decode b_Sub_groupsBefore 26 = .ok (.istore_n 3, 1) := by decide +kernel
theorem d_Sub_groupsBefore_27 : decode b_Sub_groupsBefore 27 = .ok (.aload_n 0, 1) := by decide +kernel
theorem d_Sub_groupsBefore_28 : decode b_Sub_groupsBefore 28 = .ok (.getfield 37, 3) := by decide +kernel
theorem d_Sub_groupsBefore_31 : decode b_Sub_groupsBefore 31 = .ok (.ifCond .le 21, 3) := by decide +kernel
theorem d_Sub_groupsBefore_34 : decode b_Sub_groupsBefore 34 = .ok (.iload_n 2, 1) := by decide +kernel
theorem d_Sub_groupsBefore_35 : decode b_Sub_groupsBefore 35 = .ok (.ifCond .le 17, 3) := by decide +kernel
theorem d_Sub_groupsBefore_38 : decode b_Sub_groupsBefore 38 = .ok (.iload_n 3, 1) := by decide +kernel
theorem d_Sub_groupsBefore_39 : decode b_Sub_groupsBefore 39 = .ok (.ifCond .lt 13, 3) := by decide +kernel
theorem d_Sub_groupsBefore_42 : decode b_Sub_groupsBefore 42 = .ok (.iload_n 3, 1) := by decide +kernel
theorem d_Sub_groupsBefore_43 : decode b_Sub_groupsBefore 43 = .ok (.iload_n 2, 1) := by decide +kernel
theorem d_Sub_groupsBefore_44 : decode b_Sub_groupsBefore 44 = .ok (.irem, 1) := by decide +kernel
theorem d_Sub_groupsBefore_45 : decode b_Sub_groupsBefore 45 = .ok (.ifCond .ne 7, 3) := by decide +kernel
theorem d_Sub_groupsBefore_48 : decode b_Sub_groupsBefore 48 = .ok (.iconst 1, 1) := by decide +kernel
theorem d_Sub_groupsBefore_49 : decode b_Sub_groupsBefore 49 = .ok (.goto 4, 3) := by decide +kernel
theorem d_Sub_groupsBefore_52 : decode b_Sub_groupsBefore 52 = .ok (.iconst 0, 1) := by decide +kernel
theorem d_Sub_groupsBefore_53 : decode b_Sub_groupsBefore 53 = .ok (.ireturn, 1) := by decide +kernel
theorem d_Pat_clear_0 : decode b_Pat_clear 0 = .ok (.aload_n 0, 1) := by decide +kernel
theorem d_Pat_clear_1 : decode b_Pat_clear 1 = .ok (.getfield 10, 3) := by decide +kernel
theorem d_Pat_clear_4 : decode b_Pat_clear 4 = .ok (.invokevirtual 19, 3) := by decide +kernel
theorem d_Pat_clear_7 : decode b_Pat_clear 7 = .ok (.aload_n 0, 1) := by decide +kernel
theorem d_Pat_clear_8 : decode b_Pat_clear 8 = .ok (.getfield 16, 3) := by decide +kernel
theorem d_Pat_clear_11 : decode b_Pat_clear 11 = .ok (.invokevirtual 19, 3) := by decide +kernel
theorem d_Pat_clear_14 : decode b_Pat_clear 14 = .ok (.aload_n 0, 1) := by decide +kernel
theorem d_Pat_clear_15 : decode b_Pat_clear 15 = .ok (.iconst 0, 1) := by decide +kernel
theorem d_Pat_clear_16 : decode b_Pat_clear 16 = .ok (.putfield 22, 3) := by decide +kernel
theorem d_Pat_clear_19 : decode b_Pat_clear 19 = .ok (.return_, 1) := by decide +kernel
theorem d_Pat_affixesFor_0 : decode b_Pat_affixesFor 0 = .ok (.iload_n 1, 1) := by decide +kernel
theorem d_Pat_affixesFor_1 : decode b_Pat_affixesFor 1 = .ok (.ifCond .eq 17, 3) := by decide +kernel
theorem d_Pat_affixesFor_4 : decode b_Pat_affixesFor 4 = .ok (.aload_n 0, 1) := by decide +kernel
theorem d_Pat_affixesFor_5 : decode b_Pat_affixesFor 5 = .ok (.getfield 22, 3) := by decide +kernel
theorem d_Pat_affixesFor_8 : decode b_Pat_affixesFor 8 = .ok (.ifCond .eq 10, 3) := by decide +kernel
theorem d_Pat_affixesFor_11 : decode b_Pat_affixesFor 11 = .ok (.aload_n 0, 1) := by decide +kernel
theorem d_Pat_affixesFor_12 : decode b_Pat_affixesFor 12 = .ok (.getfield 16, 3) := by decide +kernel
theorem d_Pat_affixesFor_15 : decode b_Pat_affixesFor 15 = .ok (.goto 7, 3) := by decide +kernel
theorem d_Pat_affixesFor_18 : decode b_Pat_affixesFor 18 = .ok (.aload_n 0, 1) := by decide +kernel
theorem d_Pat_affixesFor_19 : decode b_Pat_affixesFor 19 = .ok (.getfield 10, 3) := by decide +kernel
theorem d_Pat_affixesFor_22 : decode b_Pat_affixesFor 22 = .ok (.areturn, 1) := by decide +kernel
theorem d_Pat_needsMinus_0 : decode b_Pat_needsMinus 0 = .ok (.iload_n 1, 1) := by decide +kernel
theorem d_Pat_needsMinus_1 : decode b_Pat_needsMinus 1 = .ok (.ifCond .eq 14, 3) := by decide +kernel
theorem d_Pat_needsMinus_4 : decode b_Pat_needsMinus 4 = .ok (.aload_n 0, 1) := by decide +kernel
theorem d_Pat_needsMinus_5 : decode b_Pat_needsMinus 5 = .ok (.getfield 22, 3) := by decide +kernel
theorem d_Pat_needsMinus_8 : decode b_Pat_needsMinus 8 = .ok (.ifCond .ne 7, 3) := by decide +kernel
theorem d_Pat_needsMinus_11 : decode b_Pat_needsMinus 11 = .ok (.iconst 1, 1) := by decide +kernel
theorem d_Pat_needsMinus_12 : decode b_Pat_needsMinus 12 = .ok (.goto 4, 3) := by decide +kernel
theorem d_Pat_needsMinus_15 : decode b_Pat_needsMinus 15 = .ok (.iconst 0, 1) := by decide +kernel
theorem d_Pat_needsMinus_16 : decode b_Pat_needsMinus 16 = .ok (.ireturn, 1) := by decide +kernel
