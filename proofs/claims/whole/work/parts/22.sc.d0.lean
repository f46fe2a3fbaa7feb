theorem d_Sc_widthOf_0 : decode b_Sc_widthOf 0 = .ok (.iload_n 0, 1) := by decide +kernel
theorem d_Sc_widthOf_1 : decode b_Sc_widthOf 1 = .ok (.istore_n 1, 1) := by decide +kernel
theorem d_Sc_widthOf_2 : decode b_Sc_widthOf 2 = .ok (.iconst 0, 1) := by decide +kernel
theorem d_Sc_widthOf_3 : decode b_Sc_widthOf 3 = .ok (.istore_n 2, 1) := by decide +kernel
theorem d_Sc_widthOf_4 : decode b_Sc_widthOf 4 = .ok (.iconst 0, 1) := by decide +kernel
theorem d_Sc_widthOf_5 : decode b_Sc_widthOf 5 = .ok (.istore_n 3, 1) := by decide +kernel
theorem d_Sc_widthOf_6 : decode b_Sc_widthOf 6 = .ok (.iload_n 3, 1) := by decide +kernel
theorem d_Sc_widthOf_7 : decode b_Sc_widthOf 7 = .ok (.bipush 10, 2) := by decide +kernel
theorem d_Sc_widthOf_9 : decode b_Sc_widthOf 9 = .ok (.if_icmp .ge 21, 3) := by decide +kernel
theorem d_Sc_widthOf_12 : decode b_Sc_widthOf 12 = .ok (.iload_n 1, 1) := by decide +kernel
theorem d_Sc_widthOf_13 : decode b_Sc_widthOf 13 = .ok (.ifCond .le 17, 3) := by decide +kernel
theorem d_Sc_widthOf_16 : decode b_Sc_widthOf 16 = .ok (.iload_n 1, 1) := by decide +kernel
theorem d_Sc_widthOf_17 : decode b_Sc_widthOf 17 = .ok (.bipush 10, 2) := by decide +kernel
theorem d_Sc_widthOf_19 : decode b_Sc_widthOf 19 = .ok (.idiv, 1) := by decide +kernel
theorem d_Sc_widthOf_20 : decode b_Sc_widthOf 20 = .ok (.istore_n 1, 1) := by decide +kernel
theorem d_Sc_widthOf_21 : decode b_Sc_widthOf 21 = .ok (.iinc 2 1, 3) := by decide +kernel
theorem d_Sc_widthOf_24 : decode b_Sc_widthOf 24 = .ok (.iinc 3 1, 3) := by decide +kernel
theorem d_Sc_widthOf_27 : decode b_Sc_widthOf 27 = .ok (.goto (-21), 3) := by decide +kernel
theorem d_Sc_widthOf_30 : decode b_Sc_widthOf 30 = .ok (.iload_n 2, 1) := by decide +kernel
theorem d_Sc_widthOf_31 : decode b_Sc_widthOf 31 = .ok (.ireturn, 1) := by decide +kernel
theorem d_Sc_digitAt_0 : decode b_Sc_digitAt 0 = .ok (.iload_n 0, 1) := by decide +kernel
theorem d_Sc_digitAt_1 : decode b_Sc_digitAt 1 = .ok (.istore_n 2, 1) := by decide +kernel
theorem d_Sc_digitAt_2 : decode b_Sc_digitAt 2 = .ok (.iconst 0, 1) := by decide +kernel
theorem d_Sc_digitAt_3 : decode b_Sc_digitAt 3 = .ok (.istore_n 3, 1) := by decide +kernel
theorem d_Sc_digitAt_4 : decode b_Sc_digitAt 4 = .ok (.iload_n 3, 1) := by decide +kernel
theorem d_Sc_digitAt_5 : decode b_Sc_digitAt 5 = .ok (.iload_n 1, 1) := by decide +kernel
theorem d_Sc_digitAt_6 : decode b_Sc_digitAt 6 = .ok (.if_icmp .ge 18, 3) := by decide +kernel
theorem d_Sc_digitAt_9 : decode b_Sc_digitAt 9 = .ok (.iload_n 2, 1) := by decide +kernel
theorem d_Sc_digitAt_10 : decode b_Sc_digitAt 10 = .ok (.ifCond .le 14, 3) := by decide +kernel
theorem d_Sc_digitAt_13 : decode b_Sc_digitAt 13 = .ok (.iload_n 2, 1) := by decide +kernel
theorem d_Sc_digitAt_14 : decode b_Sc_digitAt 14 = .ok (.bipush 10, 2) := by decide +kernel
theorem d_Sc_digitAt_16 : decode b_Sc_digitAt 16 = .ok (.idiv, 1) := by decide +kernel
theorem d_Sc_digitAt_17 : decode b_Sc_digitAt 17 = .ok (.istore_n 2, 1) := by decide +kernel
theorem d_Sc_digitAt_18 : decode b_Sc_digitAt 18 = .ok (.iinc 3 1, 3) := by decide +kernel
theorem d_Sc_digitAt_21 : decode b_Sc_digitAt 21 = .ok (.goto (-17), 3) := by decide +kernel
theorem d_Sc_digitAt_24 : decode b_Sc_digitAt 24 = .ok (.iload_n 2, 1) := by decide +kernel
theorem d_Sc_digitAt_25 : decode b_Sc_digitAt 25 = .ok (.bipush 10, 2) := by decide +kernel
theorem d_Sc_digitAt_27 : decode b_Sc_digitAt 27 = .ok (.irem, 1) := by decide +kernel
theorem d_Sc_digitAt_28 : decode b_Sc_digitAt 28 = .ok (.ireturn, 1) := by decide +kernel
theorem d_Sc_putSymbol_0 : decode b_Sc_putSymbol 0 = .ok (.aload_n 0, 1) := by decide +kernel
theorem d_Sc_putSymbol_1 : decode b_Sc_putSymbol 1 = .ok (.getfield 14, 3) := by decide +kernel
theorem d_Sc_putSymbol_4 : decode b_Sc_putSymbol 4 = .ok (.aload_n 0, 1) := by decide +kernel
theorem d_Sc_putSymbol_5 : decode b_Sc_putSymbol 5 = .ok (.getfield 27, 3) := by decide +kernel
theorem d_Sc_putSymbol_8 : decode b_Sc_putSymbol 8 = .ok (.iload_n 1, 1) := by decide +kernel
theorem d_Sc_putSymbol_9 : decode b_Sc_putSymbol 9 = .ok (.invokevirtual 172, 3) := by decide +kernel
theorem d_Sc_putSymbol_12 : decode b_Sc_putSymbol 12 = .ok (.invokevirtual 151, 3) := by decide +kernel
theorem d_Sc_putSymbol_15 : decode b_Sc_putSymbol 15 = .ok (.pop, 1) := by decide +kernel
theorem d_Sc_putSymbol_16 : decode b_Sc_putSymbol 16 = .ok (.return_, 1) := by decide +kernel
theorem d_Sc_putDigit_0 : decode b_Sc_putDigit 0 = .ok (.aload_n 0, 1) := by decide +kernel
theorem d_Sc_putDigit_1 : decode b_Sc_putDigit 1 = .ok (.getfield 14, 3) := by decide +kernel
theorem d_Sc_putDigit_4 : decode b_Sc_putDigit 4 = .ok (.aload_n 0, 1) := by decide +kernel
theorem d_Sc_putDigit_5 : decode b_Sc_putDigit 5 = .ok (.getfield 27, 3) := by decide +kernel
theorem d_Sc_putDigit_8 : decode b_Sc_putDigit 8 = .ok (.iload_n 1, 1) := by decide +kernel
theorem d_Sc_putDigit_9 : decode b_Sc_putDigit 9 = .ok (.invokevirtual 173, 3) := by decide +kernel
theorem d_Sc_putDigit_12 : decode b_Sc_putDigit 12 = .ok (.invokevirtual 151, 3) := by decide +kernel
theorem d_Sc_putDigit_15 : decode b_Sc_putDigit 15 = .ok (.pop, 1) := by decide +kernel
theorem d_Sc_putDigit_16 : decode b_Sc_putDigit 16 = .ok (.return_, 1) := by decide +kernel
theorem d_Sc_putAffix_0 : decode b_Sc_putAffix 0 = .ok (.iconst 0, 1) := by decide +kernel
theorem d_Sc_putAffix_1 : decode b_Sc_putAffix 1 = .ok (.istore_n 2, 1) := by decide +kernel
theorem d_Sc_putAffix_2 : decode b_Sc_putAffix 2 = .ok (.iload_n 2, 1) := by decide +kernel
theorem d_Sc_putAffix_3 : decode b_Sc_putAffix 3 = .ok (.aload_n 1, 1) := by decide +kernel
theorem d_Sc_putAffix_4 : decode b_Sc_putAffix 4 = .ok (.getfield 166, 3) := by decide +kernel
theorem d_Sc_putAffix_7 : decode b_Sc_putAffix 7 = .ok (.if_icmp .ge 43, 3) := by decide +kernel
theorem d_Sc_putAffix_10 : decode b_Sc_putAffix 10 = .ok (.aload_n 1, 1) := by decide +kernel
theorem d_Sc_putAffix_11 : decode b_Sc_putAffix 11 = .ok (.iload_n 2, 1) := by decide +kernel
theorem d_Sc_putAffix_12 : decode b_Sc_putAffix 12 = .ok (.invokevirtual 169, 3) := by decide +kernel
theorem d_Sc_putAffix_15 : decode b_Sc_putAffix 15 = .ok (.istore_n 3, 1) := by decide +kernel
theorem d_Sc_putAffix_16 : decode b_Sc_putAffix 16 = .ok (.iload_n 3, 1) := by decide +kernel
theorem d_Sc_putAffix_17 : decode b_Sc_putAffix 17 = .ok (.sipush 256, 3) := by decide +kernel
theorem d_Sc_putAffix_20 : decode b_Sc_putAffix 20 = .ok (.if_icmp .lt 15, 3) := by decide +kernel
theorem d_Sc_putAffix_23 : decode b_Sc_putAffix 23 = .ok (.aload_n 0, 1) := by decide +kernel
theorem d_Sc_putAffix_24 : decode b_Sc_putAffix 24 = .ok (.iload_n 3, 1) := by decide +kernel
theorem d_Sc_putAffix_25 : decode b_Sc_putAffix 25 = .ok (.sipush 256, 3) := by decide +kernel
theorem d_Sc_putAffix_28 : decode b_Sc_putAffix 28 = .ok (.isub, 1) := by decide +kernel
theorem d_Sc_putAffix_29 : decode b_Sc_putAffix 29 = .ok (.invokevirtual 66, 3) := by decide +kernel
theorem d_Sc_putAffix_32 : decode b_Sc_putAffix 32 = .ok (.goto 12, 3) := by decide +kernel
theorem d_Sc_putAffix_35 : decode b_Sc_putAffix 35 = .ok (.aload_n 0, 1) := by decide +kernel
theorem d_Sc_putAffix_36 : decode b_Sc_putAffix 36 = .ok (.getfield 14, 3) := by decide +kernel
theorem d_Sc_putAffix_39 : decode b_Sc_putAffix 39 = .ok (.iload_n 3, 1) := by decide +kernel
theorem d_Sc_putAffix_40 : decode b_Sc_putAffix 40 = .ok (.invokevirtual 151, 3) := by decide +kernel
theorem d_Sc_putAffix_43 : decode b_Sc_putAffix 43 = .ok (.pop, 1) := by decide +kernel
theorem d_Sc_putAffix_44 : decode b_Sc_putAffix 44 = .ok (.iinc 2 1, 3) := by decide +kernel
theorem d_Sc_putAffix_47 : decode b_Sc_putAffix 47 = .ok (.goto (-45), 3) := by decide +kernel
theorem d_Sc_putAffix_50 : decode b_Sc_putAffix 50 = .ok (.return_, 1) := by decide +kernel
theorem d_Sc_roundingPower_0 : decode b_Sc_roundingPower 0 = .ok (.aload_n 1, 1) := by decide +kernel
theorem d_Sc_roundingPower_1 : decode b_Sc_roundingPower 1 = .ok (.invokevirtual 83, 3) := by decide +kernel
theorem d_Sc_roundingPower_4 : decode b_Sc_roundingPower 4 = .ok (.ifCond .ne 9, 3) := by decide +kernel
theorem d_Sc_roundingPower_7 : decode b_Sc_roundingPower 7 = .ok (.aload_n 1, 1) := by decide +kernel
theorem d_Sc_roundingPower_8 : decode b_Sc_roundingPower 8 = .ok (.getfield 93, 3) := by decide +kernel
theorem d_Sc_roundingPower_11 : decode b_Sc_roundingPower 11 = .ok (.ineg, 1) := by decide +kernel
theorem d_Sc_roundingPower_12 : decode b_Sc_roundingPower 12 = .ok (.ireturn, 1) := by decide +kernel
theorem d_Sc_roundingPower_13 : decode b_Sc_roundingPower 13 = .ok (.aload_n 0, 1) := by decide +kernel
theorem d_Sc_roundingPower_14 : decode b_Sc_roundingPower 14 = .ok (.getfield 23, 3) := by decide +kernel
theorem d_Sc_roundingPower_17 : decode b_Sc_roundingPower 17 = .ok (.invokevirtual 97, 3) := by decide +kernel
theorem d_Sc_roundingPower_20 : decode b_Sc_roundingPower 20 = .ok (.aload_n 1, 1) := by decide +kernel
theorem d_Sc_roundingPower_21 : decode b_Sc_roundingPower 21 = .ok (.getfield 101, 3) := by decide +kernel
theorem d_Sc_roundingPower_24 : decode b_Sc_roundingPower 24 = .ok (.isub, 1) := by decide +kernel
theorem d_Sc_roundingPower_25 : decode b_Sc_roundingPower 25 = .ok (.aload_n 1, 1) := by decide +kernel
theorem d_Sc_roundingPower_26 : decode b_Sc_roundingPower 26 = .ok (.getfield 93, 3) := by decide +kernel
theorem d_Sc_roundingPower_29 : decode b_Sc_roundingPower 29 = .ok (.isub, 1) := by decide +kernel
theorem d_Sc_roundingPower_30 : decode b_Sc_roundingPower 30 = .ok (.iconst 1, 1) := by decide +kernel
theorem d_Sc_roundingPower_31 : decode b_Sc_roundingPower 31 = .ok (.iadd, 1) := by decide +kernel
theorem d_Sc_roundingPower_32 : decode b_Sc_roundingPower 32 = .ok (.ireturn, 1) := by decide +kernel
theorem d_floorDiv_0 : decode b_floorDiv 0 = .ok (.iload_n 0, 1) := by decide +kernel
theorem d_floorDiv_1 : decode b_floorDiv 1 = .ok (.iload_n 1, 1) := by decide +kernel
theorem d_floorDiv_2 : decode b_floorDiv 2 = .ok (.idiv, 1) := by decide +kernel
theorem d_floorDiv_3 : decode b_floorDiv 3 = .ok (.istore_n 2, 1) := by decide +kernel
theorem d_floorDiv_4 : decode b_floorDiv 4 = .ok (.iload_n 0, 1) := by decide +kernel
theorem d_floorDiv_5 : decode b_floorDiv 5 = .ok (.iload_n 1, 1) := by decide +kernel
theorem d_floorDiv_6 : decode b_floorDiv 6 = .ok (.ixor, 1) := by decide +kernel
theorem d_floorDiv_7 : decode b_floorDiv 7 = .ok (.ifCond .ge 14, 3) := by decide +kernel
theorem d_floorDiv_10 : decode b_floorDiv 10 = .ok (.iload_n 2, 1) := by decide +kernel
theorem d_floorDiv_11 : decode b_floorDiv 11 = .ok (.iload_n 1, 1) := by decide +kernel
theorem d_floorDiv_12 : decode b_floorDiv 12 = .ok (.imul, 1) := by decide +kernel
theorem d_floorDiv_13 : decode b_floorDiv 13 = .ok (.iload_n 0, 1) := by decide +kernel
theorem d_floorDiv_14 : decode b_floorDiv 14 = .ok (.if_icmp .eq 7, 3) := by decide +kernel
theorem d_floorDiv_17 : decode b_floorDiv 17 = .ok (.iload_n 2, 1) := by decide +kernel
theorem d_floorDiv_18 : decode b_floorDiv 18 = .ok (.iconst 1, 1) := by decide +kernel
theorem d_floorDiv_19 : decode b_floorDiv 19 = .ok (.isub, 1) := by decide +kernel
theorem d_floorDiv_20 : decode b_floorDiv 20 = .ok (.ireturn, 1) := by decide +kernel
theorem d_floorDiv_21 : decode b_floorDiv 21 = .ok (.iload_n 2, 1) := by decide +kernel
theorem d_floorDiv_22 : decode b_floorDiv 22 = .ok (.ireturn, 1) := by decide +kernel
theorem d_Sc_exponentFor_0 : decode b_Sc_exponentFor 0 = .ok (.aload_n 1, 1) := by decide +kernel
theorem d_Sc_exponentFor_1 : decode b_Sc_exponentFor 1 = .ok (.invokevirtual 83, 3) := by decide +kernel
theorem d_Sc_exponentFor_4 : decode b_Sc_exponentFor 4 = .ok (.ifCond .eq 13, 3) := by decide +kernel
theorem d_Sc_exponentFor_7 : decode b_Sc_exponentFor 7 = .ok (.aload_n 0, 1) := by decide +kernel
theorem d_Sc_exponentFor_8 : decode b_Sc_exponentFor 8 = .ok (.getfield 23, 3) := by decide +kernel
theorem d_Sc_exponentFor_11 : decode b_Sc_exponentFor 11 = .ok (.invokevirtual 104, 3) := by decide +kernel
theorem d_Sc_exponentFor_14 : decode b_Sc_exponentFor 14 = .ok (.ifCond .eq 5, 3) := by decide +kernel
theorem d_Sc_exponentFor_17 : decode b_Sc_exponentFor 17 = .ok (.iconst 0, 1) := by decide +kernel
theorem d_Sc_exponentFor_18 : decode b_Sc_exponentFor 18 = .ok (.ireturn, 1) := by decide +kernel
theorem d_Sc_exponentFor_19 : decode b_Sc_exponentFor 19 = .ok (.aload_n 1, 1) := by decide +kernel
theorem d_Sc_exponentFor_20 : decode b_Sc_exponentFor 20 = .ok (.getfield 107, 3) := by decide +kernel
theorem d_Sc_exponentFor_23 : decode b_Sc_exponentFor 23 = .ok (.ifCond .ne 18, 3) := by decide +kernel
theorem d_Sc_exponentFor_26 : decode b_Sc_exponentFor 26 = .ok (.aload_n 0, 1) := by decide +kernel
theorem d_Sc_exponentFor_27 : decode b_Sc_exponentFor 27 = .ok (.getfield 23, 3) := by decide +kernel
theorem d_Sc_exponentFor_30 : decode b_Sc_exponentFor 30 = .ok (.invokevirtual 97, 3) := by decide +kernel
theorem d_Sc_exponentFor_33 : decode b_Sc_exponentFor 33 = .ok (.aload_n 1, 1) := by decide +kernel
theorem d_Sc_exponentFor_34 : decode b_Sc_exponentFor 34 = .ok (.getfield 101, 3) := by decide +kernel
theorem d_Sc_exponentFor_37 : decode b_Sc_exponentFor 37 = .ok (.isub, 1) := by decide +kernel
theorem d_Sc_exponentFor_38 : decode b_Sc_exponentFor 38 = .ok (.iconst 1, 1) := by decide +kernel
theorem d_Sc_exponentFor_39 : decode b_Sc_exponentFor 39 = .ok (.iadd, 1) := by decide +kernel
theorem d_Sc_exponentFor_40 : decode b_Sc_exponentFor 40 = .ok (.ireturn, 1) := by decide +kernel
theorem d_Sc_exponentFor_41 : decode b_Sc_exponentFor 41 = .ok (.aload_n 1, 1) := by decide +kernel
theorem d_Sc_exponentFor_42 : decode b_Sc_exponentFor 42 = .ok (.getfield 107, 3) := by decide +kernel
theorem d_Sc_exponentFor_45 : decode b_Sc_exponentFor 45 = .ok (.aload_n 1, 1) := by decide +kernel
theorem d_Sc_exponentFor_46 : decode b_Sc_exponentFor 46 = .ok (.getfield 101, 3) := by decide +kernel
theorem d_Sc_exponentFor_49 : decode b_Sc_exponentFor 49 = .ok (.iadd, 1) := by decide +kernel
theorem d_Sc_exponentFor_50 : decode b_Sc_exponentFor 50 = .ok (.istore_n 2, 1) := by decide +kernel
theorem d_Sc_exponentFor_51 : decode b_Sc_exponentFor 51 = .ok (.iload_n 2, 1) := by decide +kernel
theorem d_Sc_exponentFor_52 : decode b_Sc_exponentFor 52 = .ok (.ifCond .le 19, 3) := by decide +kernel
theorem d_Sc_exponentFor_55 : decode b_Sc_exponentFor 55 = .ok (.aload_n 0, 1) := by decide +kernel
theorem d_Sc_exponentFor_56 : decode b_Sc_exponentFor 56 = .ok (.getfield 23, 3) := by decide +kernel
theorem d_Sc_exponentFor_59 : decode b_Sc_exponentFor 59 = .ok (.invokevirtual 97, 3) := by decide +kernel
theorem d_Sc_exponentFor_62 : decode b_Sc_exponentFor 62 = .ok (.iload_n 2, 1) := by decide +kernel
theorem d_Sc_exponentFor_63 : decode b_Sc_exponentFor 63 = .ok (.invokestatic 110, 3) := by decide +kernel
theorem d_Sc_exponentFor_66 : decode b_Sc_exponentFor 66 = .ok (.iload_n 2, 1) := by decide +kernel
theorem d_Sc_exponentFor_67 : decode b_Sc_exponentFor 67 = .ok (.imul, 1) := by decide +kernel
theorem d_Sc_exponentFor_68 : decode b_Sc_exponentFor 68 = .ok (.goto 4, 3) := by decide +kernel
theorem d_Sc_exponentFor_71 : decode b_Sc_exponentFor 71 = .ok (.iconst 0, 1) := by decide +kernel
theorem d_Sc_exponentFor_72 : decode b_Sc_exponentFor 72 = .ok (.ireturn, 1) := by decide +kernel
theorem d_Sc_putWhole_0 : decode b_Sc_putWhole 0 = .ok (.iload_n 3, 1) := by decide +kernel
theorem d_Sc_putWhole_1 : decode b_Sc_putWhole 1 = .ok (.aload_n 1, 1) := by decide +kernel
theorem d_Sc_putWhole_2 : decode b_Sc_putWhole 2 = .ok (.getfield 136, 3) := by decide +kernel
theorem d_Sc_putWhole_5 : decode b_Sc_putWhole 5 = .ok (.aload_n 0, 1) := by decide +kernel
theorem d_Sc_putWhole_6 : decode b_Sc_putWhole 6 = .ok (.getfield 27, 3) := by decide +kernel
theorem d_Sc_putWhole_9 : decode b_Sc_putWhole 9 = .ok (.getfield 139, 3) := by decide +kernel
theorem d_Sc_putWhole_12 : decode b_Sc_putWhole 12 = .ok (.iadd, 1) := by decide +kernel
theorem d_Sc_putWhole_13 : decode b_Sc_putWhole 13 = .ok (.if_icmp .lt 7, 3) := by decide +kernel
theorem d_Sc_putWhole_16 : decode b_Sc_putWhole 16 = .ok (.iconst 1, 1) := by decide +kernel
theorem d_Sc_putWhole_17 : decode b_Sc_putWhole 17 = .ok (.goto 4, 3) := by decide +kernel
theorem d_Sc_putWhole_20 : decode b_Sc_putWhole 20 = .ok (.iconst 0, 1) := by decide +kernel
theorem d_Sc_putWhole_21 : decode b_Sc_putWhole 21 = .ok (.istore 4, 2) := by decide +kernel
theorem d_Sc_putWhole_23 : decode b_Sc_putWhole 23 = .ok (.iload_n 3, 1) := by decide +kernel
theorem d_Sc_putWhole_24 : decode b_Sc_putWhole 24 = .ok (.iconst 1, 1) := by decide +kernel
theorem d_Sc_putWhole_25 : decode b_Sc_putWhole 25 = .ok (.isub, 1) := by decide +kernel
theorem d_Sc_putWhole_26 : decode b_Sc_putWhole 26 = .ok (.istore 5, 2) := by decide +kernel
theorem d_Sc_putWhole_28 : decode b_Sc_putWhole 28 = .ok (.iload 5, 2) := by decide +kernel
theorem d_Sc_putWhole_30 : decode b_Sc_putWhole 30 = .ok (.ifCond .lt 43, 3) := by decide +kernel
theorem d_Sc_putWhole_33 : decode b_Sc_putWhole 33 = .ok (.aload_n 0, 1) := by decide +kernel
theorem d_Sc_putWhole_34 : decode b_Sc_putWhole 34 = .ok (.aload_n 0, 1) := by decide +kernel
theorem d_Sc_putWhole_35 : decode b_Sc_putWhole 35 = .ok (.getfield 23, 3) := by decide +kernel
theorem d_Sc_putWhole_38 : decode b_Sc_putWhole 38 = .ok (.iload_n 2, 1) := by decide +kernel
theorem d_Sc_putWhole_39 : decode b_Sc_putWhole 39 = .ok (.iload 5, 2) := by decide +kernel
theorem d_Sc_putWhole_41 : decode b_Sc_putWhole 41 = .ok (.iadd, 1) := by decide +kernel
theorem d_Sc_putWhole_42 : decode b_Sc_putWhole 42 = .ok (.invokevirtual 129, 3) := by decide +kernel
theorem d_Sc_putWhole_45 : decode b_Sc_putWhole 45 = .ok (.invokevirtual 133, 3) := by decide +kernel
theorem d_Sc_putWhole_48 : decode b_Sc_putWhole 48 = .ok (.iload 4, 2) := by decide +kernel
theorem d_Sc_putWhole_50 : decode b_Sc_putWhole 50 = .ok (.ifCond .eq 17, 3) := by decide +kernel
theorem d_Sc_putWhole_53 : decode b_Sc_putWhole 53 = .ok (.aload_n 1, 1) := by decide +kernel
theorem d_Sc_putWhole_54 : decode b_Sc_putWhole 54 = .ok (.iload 5, 2) := by decide +kernel
theorem d_Sc_putWhole_56 : decode b_Sc_putWhole 56 = .ok (.invokevirtual 144, 3) := by decide +kernel
theorem d_Sc_putWhole_59 : decode b_Sc_putWhole 59 = .ok (.ifCond .eq 8, 3) := by decide +kernel
theorem d_Sc_putWhole_62 : decode b_Sc_putWhole 62 = .ok (.aload_n 0, 1) := by decide +kernel
theorem d_Sc_putWhole_63 : decode b_Sc_putWhole 63 = .ok (.iconst 1, 1) := by decide +kernel
theorem d_Sc_putWhole_64 : decode b_Sc_putWhole 64 = .ok (.invokevirtual 66, 3) := by decide +kernel
theorem d_Sc_putWhole_67 : decode b_Sc_putWhole 67 = .ok (.iinc 5 (-1), 3) := by decide +kernel
theorem d_Sc_putWhole_70 : decode b_Sc_putWhole 70 = .ok (.goto (-42), 3) := by decide +kernel
theorem d_Sc_putWhole_73 : decode b_Sc_putWhole 73 = .ok (.return_, 1) := by decide +kernel
theorem d_Sc_putDigits_0 : decode b_Sc_putDigits 0 = .ok (.aload_n 1, 1) := by decide +kernel
theorem d_Sc_putDigits_1 : decode b_Sc_putDigits 1 = .ok (.invokevirtual 83, 3) := by decide +kernel
theorem d_Sc_putDigits_4 : decode b_Sc_putDigits 4 = .ok (.ifCond .eq 14, 3) := by decide +kernel
theorem d_Sc_putDigits_7 : decode b_Sc_putDigits 7 = .ok (.aload_n 1, 1) := by decide +kernel
theorem d_Sc_putDigits_8 : decode b_Sc_putDigits 8 = .ok (.getfield 107, 3) := by decide +kernel
theorem d_Sc_putDigits_11 : decode b_Sc_putDigits 11 = .ok (.ifCond .le 7, 3) := by decide +kernel
theorem d_Sc_putDigits_14 : decode b_Sc_putDigits 14 = .ok (.iconst 1, 1) := by decide +kernel
theorem d_Sc_putDigits_15 : decode b_Sc_putDigits 15 = .ok (.goto 7, 3) := by decide +kernel
theorem d_Sc_putDigits_18 : decode b_Sc_putDigits 18 = .ok (.aload_n 1, 1) := by decide +kernel
theorem d_Sc_putDigits_19 : decode b_Sc_putDigits 19 = .ok (.getfield 101, 3) := by decide +kernel
theorem d_Sc_putDigits_22 : decode b_Sc_putDigits 22 = .ok (.istore_n 3, 1) := by decide +kernel
theorem d_Sc_putDigits_23 : decode b_Sc_putDigits 23 = .ok (.aload_n 1, 1) := by decide +kernel
theorem d_Sc_putDigits_24 : decode b_Sc_putDigits 24 = .ok (.getfield 116, 3) := by decide +kernel
theorem d_Sc_putDigits_27 : decode b_Sc_putDigits 27 = .ok (.istore 4, 2) := by decide +kernel
theorem d_Sc_putDigits_29 : decode b_Sc_putDigits 29 = .ok (.aload_n 0, 1) := by decide +kernel
theorem d_Sc_putDigits_30 : decode b_Sc_putDigits 30 = .ok (.getfield 23, 3) := by decide +kernel
theorem d_Sc_putDigits_33 : decode b_Sc_putDigits 33 = .ok (.invokevirtual 104, 3) := by decide +kernel
theorem d_Sc_putDigits_36 : decode b_Sc_putDigits 36 = .ok (.ifCond .ne 35, 3) := by decide +kernel
theorem d_Sc_putDigits_39 : decode b_Sc_putDigits 39 = .ok (.iload_n 3, 1) := by decide +kernel
theorem d_Sc_putDigits_40 : decode b_Sc_putDigits 40 = .ok (.aload_n 0, 1) := by decide +kernel
theorem d_Sc_putDigits_41 : decode b_Sc_putDigits 41 = .ok (.getfield 23, 3) := by decide +kernel
theorem d_Sc_putDigits_44 : decode b_Sc_putDigits 44 = .ok (.invokevirtual 97, 3) := by decide +kernel
theorem d_Sc_putDigits_47 : decode b_Sc_putDigits 47 = .ok (.iload_n 2, 1) := by decide +kernel
theorem d_Sc_putDigits_48 : decode b_Sc_putDigits 48 = .ok (.isub, 1) := by decide +kernel
theorem d_Sc_putDigits_49 : decode b_Sc_putDigits 49 = .ok (.iconst 1, 1) := by decide +kernel
theorem d_Sc_putDigits_50 : decode b_Sc_putDigits 50 = .ok (.iadd, 1) := by decide +kernel
theorem d_Sc_putDigits_51 : decode b_Sc_putDigits 51 = .ok (.invokestatic 119, 3) := by decide +kernel
theorem d_Sc_putDigits_54 : decode b_Sc_putDigits 54 = .ok (.istore_n 3, 1) := by decide +kernel
theorem d_Sc_putDigits_55 : decode b_Sc_putDigits 55 = .ok (.iload 4, 2) := by decide +kernel
theorem d_Sc_putDigits_57 : decode b_Sc_putDigits 57 = .ok (.iload_n 2, 1) := by decide +kernel
theorem d_Sc_putDigits_58 : decode b_Sc_putDigits 58 = .ok (.aload_n 0, 1) := by decide +kernel
theorem d_Sc_putDigits_59 : decode b_Sc_putDigits 59 = .ok (.getfield 23, 3) := by decide +kernel
theorem d_Sc_putDigits_62 : decode b_Sc_putDigits 62 = .ok (.invokevirtual 122, 3) := by decide +kernel
theorem d_Sc_putDigits_65 : decode b_Sc_putDigits 65 = .ok (.isub, 1) := by decide +kernel
theorem d_Sc_putDigits_66 : decode b_Sc_putDigits 66 = .ok (.invokestatic 119, 3) := by decide +kernel
theorem d_Sc_putDigits_69 : decode b_Sc_putDigits 69 = .ok (.istore 4, 2) := by decide +kernel
theorem d_Sc_putDigits_71 : decode b_Sc_putDigits 71 = .ok (.iload_n 3, 1) := by decide +kernel
theorem d_Sc_putDigits_72 : decode b_Sc_putDigits 72 = .ok (.ifCond .ne 10, 3) := by decide +kernel
theorem d_Sc_putDigits_75 : decode b_Sc_putDigits 75 = .ok (.iload 4, 2) := by decide +kernel
theorem d_Sc_putDigits_77 : decode b_Sc_putDigits 77 = .ok (.ifCond .ne 5, 3) := by decide +kernel
theorem d_Sc_putDigits_80 : decode b_Sc_putDigits 80 = .ok (.iconst 1, 1) := by decide +kernel
theorem d_Sc_putDigits_81 : decode b_Sc_putDigits 81 = .ok (.istore_n 3, 1) := by decide +kernel
theorem d_Sc_putDigits_82 : decode b_Sc_putDigits 82 = .ok (.aload_n 0, 1) := by decide +kernel
theorem d_Sc_putDigits_83 : decode b_Sc_putDigits 83 = .ok (.aload_n 1, 1) := by decide +kernel
theorem d_Sc_putDigits_84 : decode b_Sc_putDigits 84 = .ok (.iload_n 2, 1) := by decide +kernel
theorem d_Sc_putDigits_85 : decode b_Sc_putDigits 85 = .ok (.iload_n 3, 1) := by decide +kernel
theorem d_Sc_putDigits_86 : decode b_Sc_putDigits 86 = .ok (.invokevirtual 125, 3) := by decide +kernel
theorem d_Sc_putDigits_89 : decode b_Sc_putDigits 89 = .ok (.iload 4, 2) := by decide +kernel
theorem d_Sc_putDigits_91 : decode b_Sc_putDigits 91 = .ok (.ifCond .le 8, 3) := by decide +kernel
theorem d_Sc_putDigits_94 : decode b_Sc_putDigits 94 = .ok (.aload_n 0, 1) := by decide +kernel
theorem d_Sc_putDigits_95 : decode b_Sc_putDigits 95 = .ok (.iconst 0, 1) := by decide +kernel
theorem d_Sc_putDigits_96 : decode b_Sc_putDigits 96 = .ok (.invokevirtual 66, 3) := by decide +kernel
theorem d_Sc_putDigits_99 : decode b_Sc_putDigits 99 = .ok (.iconst 1, 1) := by decide +kernel
theorem d_Sc_putDigits_100 : decode b_Sc_putDigits 100 = .ok (.istore 5, 2) := by decide +kernel
theorem d_Sc_putDigits_102 : decode b_Sc_putDigits 102 = .ok (.iload 5, 2) := by decide +kernel
theorem d_Sc_putDigits_104 : decode b_Sc_putDigits 104 = .ok (.iload 4, 2) := by decide +kernel
theorem d_Sc_putDigits_106 : decode b_Sc_putDigits 106 = .ok (.if_icmp .gt 24, 3) := by decide +kernel
theorem d_Sc_putDigits_109 : decode b_Sc_putDigits 109 = .ok (.aload_n 0, 1) := by decide +kernel
theorem d_Sc_putDigits_110 : decode b_Sc_putDigits 110 = .ok (.aload_n 0, 1) := by decide +kernel
theorem d_Sc_putDigits_111 : decode b_Sc_putDigits 111 = .ok (.getfield 23, 3) := by decide +kernel
theorem d_Sc_putDigits_114 : decode b_Sc_putDigits 114 = .ok (.iload_n 2, 1) := by decide +kernel
theorem d_Sc_putDigits_115 : decode b_Sc_putDigits 115 = .ok (.iload 5, 2) := by decide +kernel
theorem d_Sc_putDigits_117 : decode b_Sc_putDigits 117 = .ok (.isub, 1) := by decide +kernel
theorem d_Sc_putDigits_118 : decode b_Sc_putDigits 118 = .ok (.invokevirtual 129, 3) := by decide +kernel
theorem d_Sc_putDigits_121 : decode b_Sc_putDigits 121 = .ok (.invokevirtual 133, 3) := by decide +kernel
theorem d_Sc_putDigits_124 : decode b_Sc_putDigits 124 = .ok (.iinc 5 1, 3) := by decide +kernel
theorem d_Sc_putDigits_127 : decode b_Sc_putDigits 127 = .ok (.goto (-25), 3) := by decide +kernel
theorem d_Sc_putDigits_130 : decode b_Sc_putDigits 130 = .ok (.return_, 1) := by decide +kernel
theorem d_Sc_putExponent_0 : decode b_Sc_putExponent 0 = .ok (.aload_n 0, 1) := by decide +kernel
theorem d_Sc_putExponent_1 : decode b_Sc_putExponent 1 = .ok (.iconst 4, 1) := by decide +kernel
theorem d_Sc_putExponent_2 : decode b_Sc_putExponent 2 = .ok (.invokevirtual 66, 3) := by decide +kernel
theorem d_Sc_putExponent_5 : decode b_Sc_putExponent 5 = .ok (.iload_n 2, 1) := by decide +kernel
theorem d_Sc_putExponent_6 : decode b_Sc_putExponent 6 = .ok (.ifCond .ge 11, 3) := by decide +kernel
theorem d_Sc_putExponent_9 : decode b_Sc_putExponent 9 = .ok (.aload_n 0, 1) := by decide +kernel
theorem d_Sc_putExponent_10 : decode b_Sc_putExponent 10 = .ok (.iconst 2, 1) := by decide +kernel
theorem d_Sc_putExponent_11 : decode b_Sc_putExponent 11 = .ok (.invokevirtual 66, 3) := by decide +kernel
theorem d_Sc_putExponent_14 : decode b_Sc_putExponent 14 = .ok (.goto 20, 3) := by decide +kernel
theorem d_Sc_putExponent_17 : decode b_Sc_putExponent 17 = .ok (.aload_n 1, 1) := by decide +kernel
theorem d_Sc_putExponent_18 : decode b_Sc_putExponent 18 = .ok (.getfield 148, 3) := by decide +kernel
theorem d_Sc_putExponent_21 : decode b_Sc_putExponent 21 = .ok (.ifCond .eq 13, 3) := by decide +kernel
theorem d_Sc_putExponent_24 : decode b_Sc_putExponent 24 = .ok (.aload_n 0, 1) := by decide +kernel
theorem d_Sc_putExponent_25 : decode b_Sc_putExponent 25 = .ok (.getfield 14, 3) := by decide +kernel
theorem d_Sc_putExponent_28 : decode b_Sc_putExponent 28 = .ok (.bipush 43, 2) := by decide +kernel
theorem d_Sc_putExponent_30 : decode b_Sc_putExponent 30 = .ok (.invokevirtual 151, 3) := by decide +kernel
theorem d_Sc_putExponent_33 : decode b_Sc_putExponent 33 = .ok (.pop, 1) := by decide +kernel
theorem d_Sc_putExponent_34 : decode b_Sc_putExponent 34 = .ok (.iload_n 2, 1) := by decide +kernel
theorem d_Sc_putExponent_35 : decode b_Sc_putExponent 35 = .ok (.invokestatic 154, 3) := by decide +kernel
theorem d_Sc_putExponent_38 : decode b_Sc_putExponent 38 = .ok (.istore_n 3, 1) := by decide +kernel
theorem d_Sc_putExponent_39 : decode b_Sc_putExponent 39 = .ok (.aload_n 1, 1) := by decide +kernel
theorem d_Sc_putExponent_40 : decode b_Sc_putExponent 40 = .ok (.getfield 157, 3) := by decide +kernel
theorem d_Sc_putExponent_43 : decode b_Sc_putExponent 43 = .ok (.iload_n 3, 1) := by decide +kernel
theorem d_Sc_putExponent_44 : decode b_Sc_putExponent 44 = .ok (.invokestatic 160, 3) := by decide +kernel
theorem d_Sc_putExponent_47 : decode b_Sc_putExponent 47 = .ok (.invokestatic 119, 3) := by decide +kernel
theorem d_Sc_putExponent_50 : decode b_Sc_putExponent 50 = .ok (.istore 4, 2) := by decide +kernel
theorem d_Sc_putExponent_52 : decode b_Sc_putExponent 52 = .ok (.iload 4, 2) := by decide +kernel
theorem d_Sc_putExponent_54 : decode b_Sc_putExponent 54 = .ok (.iconst 1, 1) := by decide +kernel
theorem d_Sc_putExponent_55 : decode b_Sc_putExponent 55 = .ok (.isub, 1) := by decide +kernel
theorem d_Sc_putExponent_56 : decode b_Sc_putExponent 56 = .ok (.istore 5, 2) := by decide +kernel
theorem d_Sc_putExponent_58 : decode b_Sc_putExponent 58 = .ok (.iload 5, 2) := by decide +kernel
theorem d_Sc_putExponent_60 : decode b_Sc_putExponent 60 = .ok (.ifCond .lt 19, 3) := by decide +kernel
theorem d_Sc_putExponent_63 : decode b_Sc_putExponent 63 = .ok (.aload_n 0, 1) := by decide +kernel
theorem d_Sc_putExponent_64 : decode b_Sc_putExponent 64 = .ok (.iload_n 3, 1) := by decide +kernel
theorem d_Sc_putExponent_65 : decode b_Sc_putExponent 65 = .ok (.iload 5, 2) := by decide +kernel
theorem d_Sc_putExponent_67 : decode b_Sc_putExponent 67 = .ok (.invokestatic 163, 3) := by decide +kernel
theorem d_Sc_putExponent_70 : decode b_Sc_putExponent 70 = .ok (.invokevirtual 133, 3) := by decide +kernel
theorem d_Sc_putExponent_73 : decode b_Sc_putExponent 73 = .ok (.iinc 5 (-1), 3) := by decide +kernel
theorem d_Sc_putExponent_76 : decode b_Sc_putExponent 76 = .ok (.goto (-18), 3) := by decide +kernel
theorem d_Sc_putExponent_79 : decode b_Sc_putExponent 79 = .ok (.return_, 1) := by decide +kernel
theorem d_Sc_compose_0 : decode b_Sc_compose 0 = .ok (.aload_n 1, 1) := by decide +kernel
theorem d_Sc_compose_1 : decode b_Sc_compose 1 = .ok (.getfield 31, 3) := by decide +kernel
theorem d_Sc_compose_4 : decode b_Sc_compose 4 = .ok (.astore 7, 2) := by decide +kernel
theorem d_Sc_compose_6 : decode b_Sc_compose 6 = .ok (.aload_n 0, 1) := by decide +kernel
theorem d_Sc_compose_7 : decode b_Sc_compose 7 = .ok (.getfield 23, 3) := by decide +kernel
theorem d_Sc_compose_10 : decode b_Sc_compose 10 = .ok (.lload_n 3, 1) := by decide +kernel
theorem d_Sc_compose_11 : decode b_Sc_compose 11 = .ok (.iload 5, 2) := by decide +kernel
theorem d_Sc_compose_13 : decode b_Sc_compose 13 = .ok (.aload 7, 2) := by decide +kernel
theorem d_Sc_compose_15 : decode b_Sc_compose 15 = .ok (.getfield 37, 3) := by decide +kernel
theorem d_Sc_compose_18 : decode b_Sc_compose 18 = .ok (.invokevirtual 43, 3) := by decide +kernel
theorem d_Sc_compose_21 : decode b_Sc_compose 21 = .ok (.aload_n 0, 1) := by decide +kernel
theorem d_Sc_compose_22 : decode b_Sc_compose 22 = .ok (.getfield 23, 3) := by decide +kernel
theorem d_Sc_compose_25 : decode b_Sc_compose 25 = .ok (.aload_n 0, 1) := by decide +kernel
theorem d_Sc_compose_26 : decode b_Sc_compose 26 = .ok (.aload 7, 2) := by decide +kernel
theorem d_Sc_compose_28 : decode b_Sc_compose 28 = .ok (.invokevirtual 47, 3) := by decide +kernel
theorem d_Sc_compose_31 : decode b_Sc_compose 31 = .ok (.iload 6, 2) := by decide +kernel
theorem d_Sc_compose_33 : decode b_Sc_compose 33 = .ok (.iload_n 2, 1) := by decide +kernel
theorem d_Sc_compose_34 : decode b_Sc_compose 34 = .ok (.invokevirtual 51, 3) := by decide +kernel
theorem d_Sc_compose_37 : decode b_Sc_compose 37 = .ok (.ifCond .ne 5, 3) := by decide +kernel
theorem d_Sc_compose_40 : decode b_Sc_compose 40 = .ok (.iconst 0, 1) := by decide +kernel
theorem d_Sc_compose_41 : decode b_Sc_compose 41 = .ok (.ireturn, 1) := by decide +kernel
theorem d_Sc_compose_42 : decode b_Sc_compose 42 = .ok (.aload_n 1, 1) := by decide +kernel
theorem d_Sc_compose_43 : decode b_Sc_compose 43 = .ok (.iload_n 2, 1) := by decide +kernel
theorem d_Sc_compose_44 : decode b_Sc_compose 44 = .ok (.invokevirtual 55, 3) := by decide +kernel
theorem d_Sc_compose_47 : decode b_Sc_compose 47 = .ok (.astore 8, 2) := by decide +kernel
theorem d_Sc_compose_49 : decode b_Sc_compose 49 = .ok (.aload_n 0, 1) := by decide +kernel
theorem d_Sc_compose_50 : decode b_Sc_compose 50 = .ok (.getfield 14, 3) := by decide +kernel
theorem d_Sc_compose_53 : decode b_Sc_compose 53 = .ok (.invokevirtual 59, 3) := by decide +kernel
theorem d_Sc_compose_56 : decode b_Sc_compose 56 = .ok (.aload_n 1, 1) := by decide +kernel
theorem d_Sc_compose_57 : decode b_Sc_compose 57 = .ok (.iload_n 2, 1) := by decide +kernel
theorem d_Sc_compose_58 : decode b_Sc_compose 58 = .ok (.invokevirtual 62, 3) := by decide +kernel
theorem d_Sc_compose_61 : decode b_Sc_compose 61 = .ok (.ifCond .eq 8, 3) := by decide +kernel
theorem d_Sc_compose_64 : decode b_Sc_compose 64 = .ok (.aload_n 0, 1) := by decide +kernel
theorem d_Sc_compose_65 : decode b_Sc_compose 65 = .ok (.iconst 2, 1) := by decide +kernel
theorem d_Sc_compose_66 : decode b_Sc_compose 66 = .ok (.invokevirtual 66, 3) := by decide +kernel
theorem d_Sc_compose_69 : decode b_Sc_compose 69 = .ok (.aload_n 0, 1) := by decide +kernel
theorem d_Sc_compose_70 : decode b_Sc_compose 70 = .ok (.aload 8, 2) := by decide +kernel
theorem d_Sc_compose_72 : decode b_Sc_compose 72 = .ok (.getfield 69, 3) := by decide +kernel
theorem d_Sc_compose_75 : decode b_Sc_compose 75 = .ok (.invokevirtual 72, 3) := by decide +kernel
theorem d_Sc_compose_78 : decode b_Sc_compose 78 = .ok (.aload_n 0, 1) := by decide +kernel
theorem d_Sc_compose_79 : decode b_Sc_compose 79 = .ok (.aload 7, 2) := by decide +kernel
theorem d_Sc_compose_81 : decode b_Sc_compose 81 = .ok (.invokevirtual 76, 3) := by decide +kernel
theorem d_Sc_compose_84 : decode b_Sc_compose 84 = .ok (.istore 9, 2) := by decide +kernel
theorem d_Sc_compose_86 : decode b_Sc_compose 86 = .ok (.aload_n 0, 1) := by decide +kernel
theorem d_Sc_compose_87 : decode b_Sc_compose 87 = .ok (.aload 7, 2) := by decide +kernel
theorem d_Sc_compose_89 : decode b_Sc_compose 89 = .ok (.iload 9, 2) := by decide +kernel
theorem d_Sc_compose_91 : decode b_Sc_compose 91 = .ok (.invokevirtual 79, 3) := by decide +kernel
theorem d_Sc_compose_94 : decode b_Sc_compose 94 = .ok (.aload 7, 2) := by decide +kernel
theorem d_Sc_compose_96 : decode b_Sc_compose 96 = .ok (.invokevirtual 83, 3) := by decide +kernel
theorem d_Sc_compose_99 : decode b_Sc_compose 99 = .ok (.ifCond .eq 11, 3) := by decide +kernel
theorem d_Sc_compose_102 : decode b_Sc_compose 102 = .ok (.aload_n 0, 1) := by decide +kernel
theorem d_Sc_compose_103 : decode b_Sc_compose 103 = .ok (.aload 7, 2) := by decide +kernel
theorem d_Sc_compose_105 : decode b_Sc_compose 105 = .ok (.iload 9, 2) := by decide +kernel
theorem d_Sc_compose_107 : decode b_Sc_compose 107 = .ok (.invokevirtual 87, 3) := by decide +kernel
theorem d_Sc_compose_110 : decode b_Sc_compose 110 = .ok (.aload_n 0, 1) := by decide +kernel
theorem d_Sc_compose_111 : decode b_Sc_compose 111 = .ok (.aload 8, 2) := by decide +kernel
theorem d_Sc_compose_113 : decode b_Sc_compose 113 = .ok (.getfield 90, 3) := by decide +kernel
theorem d_Sc_compose_116 : decode b_Sc_compose 116 = .ok (.invokevirtual 72, 3) := by decide +kernel
theorem d_Sc_compose_119 : decode b_Sc_compose 119 = .ok (.iconst 1, 1) := by decide +kernel
theorem d_Sc_compose_120 : decode b_Sc_compose 120 = .ok (.ireturn, 1) := by decide +kernel
