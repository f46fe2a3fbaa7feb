theorem d_M_draft_0 : decode b_M_draft 0 = .ok (.iload_n 1, 1) := by decide +kernel
theorem d_M_draft_1 : decode b_M_draft 1 = .ok (.bipush 32, 2) := by decide +kernel
theorem d_M_draft_3 : decode b_M_draft 3 = .ok (.if_icmp .lt 18, 3) := by decide +kernel
theorem d_M_draft_6 : decode b_M_draft 6 = .ok (.iload_n 1, 1) := by decide +kernel
theorem d_M_draft_7 : decode b_M_draft 7 = .ok (.bipush 126, 2) := by decide +kernel
theorem d_M_draft_9 : decode b_M_draft 9 = .ok (.if_icmp .gt 12, 3) := by decide +kernel
theorem d_M_draft_12 : decode b_M_draft 12 = .ok (.aload_n 0, 1) := by decide +kernel
theorem d_M_draft_13 : decode b_M_draft 13 = .ok (.getfield 50, 3) := by decide +kernel
theorem d_M_draft_16 : decode b_M_draft 16 = .ok (.bipush 40, 2) := by decide +kernel
theorem d_M_draft_18 : decode b_M_draft 18 = .ok (.if_icmp .ne 5, 3) := by decide +kernel
theorem d_M_draft_21 : decode b_M_draft 21 = .ok (.iconst 0, 1) := by decide +kernel
theorem d_M_draft_22 : decode b_M_draft 22 = .ok (.ireturn, 1) := by decide +kernel
theorem d_M_draft_23 : decode b_M_draft 23 = .ok (.aload_n 0, 1) := by decide +kernel
theorem d_M_draft_24 : decode b_M_draft 24 = .ok (.getfield 7, 3) := by decide +kernel
theorem d_M_draft_27 : decode b_M_draft 27 = .ok (.aload_n 0, 1) := by decide +kernel
theorem d_M_draft_28 : decode b_M_draft 28 = .ok (.getfield 50, 3) := by decide +kernel
theorem d_M_draft_31 : decode b_M_draft 31 = .ok (.iload_n 1, 1) := by decide +kernel
theorem d_M_draft_32 : decode b_M_draft 32 = .ok (.iastore, 1) := by decide +kernel
theorem d_M_draft_33 : decode b_M_draft 33 = .ok (.aload_n 0, 1) := by decide +kernel
theorem d_M_draft_34 : decode b_M_draft 34 = .ok (.dup, 1) := by decide +kernel
theorem d_M_draft_35 : decode b_M_draft 35 = .ok (.getfield 50, 3) := by decide +kernel
theorem d_M_draft_38 : decode b_M_draft 38 = .ok (.iconst 1, 1) := by decide +kernel
theorem d_M_draft_39 : decode b_M_draft 39 = .ok (.iadd, 1) := by decide +kernel
theorem d_M_draft_40 : decode b_M_draft 40 = .ok (.putfield 50, 3) := by decide +kernel
theorem d_M_draft_43 : decode b_M_draft 43 = .ok (.iconst 1, 1) := by decide +kernel
theorem d_M_draft_44 : decode b_M_draft 44 = .ok (.ireturn, 1) := by decide +kernel
theorem d_M_scrap_0 : decode b_M_scrap 0 = .ok (.aload_n 0, 1) := by decide +kernel
theorem d_M_scrap_1 : decode b_M_scrap 1 = .ok (.iconst 0, 1) := by decide +kernel
theorem d_M_scrap_2 : decode b_M_scrap 2 = .ok (.putfield 50, 3) := by decide +kernel
theorem d_M_scrap_5 : decode b_M_scrap 5 = .ok (.return_, 1) := by decide +kernel
theorem d_M_begin_0 : decode b_M_begin 0 = .ok (.aload_n 0, 1) := by decide +kernel
theorem d_M_begin_1 : decode b_M_begin 1 = .ok (.iload_n 1, 1) := by decide +kernel
theorem d_M_begin_2 : decode b_M_begin 2 = .ok (.putfield 53, 3) := by decide +kernel
theorem d_M_begin_5 : decode b_M_begin 5 = .ok (.aload_n 0, 1) := by decide +kernel
theorem d_M_begin_6 : decode b_M_begin 6 = .ok (.iconst 0, 1) := by decide +kernel
theorem d_M_begin_7 : decode b_M_begin 7 = .ok (.putfield 56, 3) := by decide +kernel
theorem d_M_begin_10 : decode b_M_begin 10 = .ok (.iconst 0, 1) := by decide +kernel
theorem d_M_begin_11 : decode b_M_begin 11 = .ok (.istore_n 2, 1) := by decide +kernel
theorem d_M_begin_12 : decode b_M_begin 12 = .ok (.iload_n 2, 1) := by decide +kernel
theorem d_M_begin_13 : decode b_M_begin 13 = .ok (.bipush 9, 2) := by decide +kernel
theorem d_M_begin_15 : decode b_M_begin 15 = .ok (.if_icmp .ge 16, 3) := by decide +kernel
theorem d_M_begin_18 : decode b_M_begin 18 = .ok (.aload_n 0, 1) := by decide +kernel
theorem d_M_begin_19 : decode b_M_begin 19 = .ok (.getfield 13, 3) := by decide +kernel
theorem d_M_begin_22 : decode b_M_begin 22 = .ok (.iload_n 2, 1) := by decide +kernel
theorem d_M_begin_23 : decode b_M_begin 23 = .ok (.iconst 0, 1) := by decide +kernel
theorem d_M_begin_24 : decode b_M_begin 24 = .ok (.iastore, 1) := by decide +kernel
theorem d_M_begin_25 : decode b_M_begin 25 = .ok (.iinc 2 1, 3) := by decide +kernel
theorem d_M_begin_28 : decode b_M_begin 28 = .ok (.goto (-16), 3) := by decide +kernel
theorem d_M_begin_31 : decode b_M_begin 31 = .ok (.aload_n 0, 1) := by decide +kernel
theorem d_M_begin_32 : decode b_M_begin 32 = .ok (.getfield 25, 3) := by decide +kernel
theorem d_M_begin_35 : decode b_M_begin 35 = .ok (.iconst 2, 1) := by decide +kernel
theorem d_M_begin_36 : decode b_M_begin 36 = .ok (.iload_n 1, 1) := by decide +kernel
theorem d_M_begin_37 : decode b_M_begin 37 = .ok (.imul, 1) := by decide +kernel
theorem d_M_begin_38 : decode b_M_begin 38 = .ok (.iconst 0, 1) := by decide +kernel
theorem d_M_begin_39 : decode b_M_begin 39 = .ok (.iastore, 1) := by decide +kernel
theorem d_M_begin_40 : decode b_M_begin 40 = .ok (.aload_n 0, 1) := by decide +kernel
theorem d_M_begin_41 : decode b_M_begin 41 = .ok (.getfield 25, 3) := by decide +kernel
theorem d_M_begin_44 : decode b_M_begin 44 = .ok (.iconst 2, 1) := by decide +kernel
theorem d_M_begin_45 : decode b_M_begin 45 = .ok (.iload_n 1, 1) := by decide +kernel
theorem d_M_begin_46 : decode b_M_begin 46 = .ok (.imul, 1) := by decide +kernel
theorem d_M_begin_47 : decode b_M_begin 47 = .ok (.iconst 1, 1) := by decide +kernel
theorem d_M_begin_48 : decode b_M_begin 48 = .ok (.iadd, 1) := by decide +kernel
theorem d_M_begin_49 : decode b_M_begin 49 = .ok (.iconst 0, 1) := by decide +kernel
theorem d_M_begin_50 : decode b_M_begin 50 = .ok (.iastore, 1) := by decide +kernel
theorem d_M_begin_51 : decode b_M_begin 51 = .ok (.return_, 1) := by decide +kernel
theorem d_M_keep_0 : decode b_M_keep 0 = .ok (.iconst 2, 1) := by decide +kernel
theorem d_M_keep_1 : decode b_M_keep 1 = .ok (.aload_n 0, 1) := by decide +kernel
theorem d_M_keep_2 : decode b_M_keep 2 = .ok (.getfield 53, 3) := by decide +kernel
theorem d_M_keep_5 : decode b_M_keep 5 = .ok (.imul, 1) := by decide +kernel
theorem d_M_keep_6 : decode b_M_keep 6 = .ok (.aload_n 0, 1) := by decide +kernel
theorem d_M_keep_7 : decode b_M_keep 7 = .ok (.getfield 56, 3) := by decide +kernel
theorem d_M_keep_10 : decode b_M_keep 10 = .ok (.bipush 10, 2) := by decide +kernel
theorem d_M_keep_12 : decode b_M_keep 12 = .ok (.if_icmp .eq 12, 3) := by decide +kernel
theorem d_M_keep_15 : decode b_M_keep 15 = .ok (.aload_n 0, 1) := by decide +kernel
theorem d_M_keep_16 : decode b_M_keep 16 = .ok (.getfield 56, 3) := by decide +kernel
theorem d_M_keep_19 : decode b_M_keep 19 = .ok (.bipush 11, 2) := by decide +kernel
theorem d_M_keep_21 : decode b_M_keep 21 = .ok (.if_icmp .ne 7, 3) := by decide +kernel
theorem d_M_keep_24 : decode b_M_keep 24 = .ok (.iconst 1, 1) := by decide +kernel
theorem d_M_keep_25 : decode b_M_keep 25 = .ok (.goto 4, 3) := by decide +kernel
theorem d_M_keep_28 : decode b_M_keep 28 = .ok (.iconst 0, 1) := by decide +kernel
theorem d_M_keep_29 : decode b_M_keep 29 = .ok (.iadd, 1) := by decide +kernel
theorem d_M_keep_30 : decode b_M_keep 30 = .ok (.istore_n 2, 1) := by decide +kernel
theorem d_M_keep_31 : decode b_M_keep 31 = .ok (.aload_n 0, 1) := by decide +kernel
theorem d_M_keep_32 : decode b_M_keep 32 = .ok (.getfield 22, 3) := by decide +kernel
theorem d_M_keep_35 : decode b_M_keep 35 = .ok (.bipush 40, 2) := by decide +kernel
theorem d_M_keep_37 : decode b_M_keep 37 = .ok (.iload_n 2, 1) := by decide +kernel
theorem d_M_keep_38 : decode b_M_keep 38 = .ok (.imul, 1) := by decide +kernel
theorem d_M_keep_39 : decode b_M_keep 39 = .ok (.aload_n 0, 1) := by decide +kernel
theorem d_M_keep_40 : decode b_M_keep 40 = .ok (.getfield 25, 3) := by decide +kernel
theorem d_M_keep_43 : decode b_M_keep 43 = .ok (.iload_n 2, 1) := by decide +kernel
theorem d_M_keep_44 : decode b_M_keep 44 = .ok (.iaload, 1) := by decide +kernel
theorem d_M_keep_45 : decode b_M_keep 45 = .ok (.iadd, 1) := by decide +kernel
theorem d_M_keep_46 : decode b_M_keep 46 = .ok (.iload_n 1, 1) := by decide +kernel
theorem d_M_keep_47 : decode b_M_keep 47 = .ok (.iastore, 1) := by decide +kernel
theorem d_M_keep_48 : decode b_M_keep 48 = .ok (.aload_n 0, 1) := by decide +kernel
theorem d_M_keep_49 : decode b_M_keep 49 = .ok (.getfield 25, 3) := by decide +kernel
theorem d_M_keep_52 : decode b_M_keep 52 = .ok (.iload_n 2, 1) := by decide +kernel
theorem d_M_keep_53 : decode b_M_keep 53 = .ok (.dup2, 1) := by decide +kernel
theorem d_M_keep_54 : decode b_M_keep 54 = .ok (.iaload, 1) := by decide +kernel
theorem d_M_keep_55 : decode b_M_keep 55 = .ok (.iconst 1, 1) := by decide +kernel
theorem d_M_keep_56 : decode b_M_keep 56 = .ok (.iadd, 1) := by decide +kernel
theorem d_M_keep_57 : decode b_M_keep 57 = .ok (.iastore, 1) := by decide +kernel
theorem d_M_keep_58 : decode b_M_keep 58 = .ok (.return_, 1) := by decide +kernel
theorem d_M_special_0 : decode b_M_special 0 = .ok (.iload_n 0, 1) := by decide +kernel
theorem d_M_special_1 : decode b_M_special 1 = .ok (.bipush 35, 2) := by decide +kernel
theorem d_M_special_3 : decode b_M_special 3 = .ok (.if_icmp .eq 39, 3) := by decide +kernel
theorem d_M_special_6 : decode b_M_special 6 = .ok (.iload_n 0, 1) := by decide +kernel
theorem d_M_special_7 : decode b_M_special 7 = .ok (.bipush 48, 2) := by decide +kernel
theorem d_M_special_9 : decode b_M_special 9 = .ok (.if_icmp .lt 9, 3) := by decide +kernel
theorem d_M_special_12 : decode b_M_special 12 = .ok (.iload_n 0, 1) := by decide +kernel
theorem d_M_special_13 : decode b_M_special 13 = .ok (.bipush 57, 2) := by decide +kernel
theorem d_M_special_15 : decode b_M_special 15 = .ok (.if_icmp .le 27, 3) := by decide +kernel
theorem d_M_special_18 : decode b_M_special 18 = .ok (.iload_n 0, 1) := by decide +kernel
theorem d_M_special_19 : decode b_M_special 19 = .ok (.bipush 44, 2) := by decide +kernel
theorem d_M_special_21 : decode b_M_special 21 = .ok (.if_icmp .eq 21, 3) := by decide +kernel
theorem d_M_special_24 : decode b_M_special 24 = .ok (.iload_n 0, 1) := by decide +kernel
theorem d_M_special_25 : decode b_M_special 25 = .ok (.bipush 46, 2) := by decide +kernel
theorem d_M_special_27 : decode b_M_special 27 = .ok (.if_icmp .eq 15, 3) := by decide +kernel
theorem d_M_special_30 : decode b_M_special 30 = .ok (.iload_n 0, 1) := by decide +kernel
theorem d_M_special_31 : decode b_M_special 31 = .ok (.bipush 69, 2) := by decide +kernel
theorem d_M_special_33 : decode b_M_special 33 = .ok (.if_icmp .eq 9, 3) := by decide +kernel
theorem d_M_special_36 : decode b_M_special 36 = .ok (.iload_n 0, 1) := by decide +kernel
theorem d_M_special_37 : decode b_M_special 37 = .ok (.bipush 59, 2) := by decide +kernel
theorem d_M_special_39 : decode b_M_special 39 = .ok (.if_icmp .ne 7, 3) := by decide +kernel
theorem d_M_special_42 : decode b_M_special 42 = .ok (.iconst 1, 1) := by decide +kernel
theorem d_M_special_43 : decode b_M_special 43 = .ok (.goto 4, 3) := by decide +kernel
theorem d_M_special_46 : decode b_M_special 46 = .ok (.iconst 0, 1) := by decide +kernel
theorem d_M_special_47 : decode b_M_special 47 = .ok (.ireturn, 1) := by decide +kernel
theorem d_M_plainAffix_0 : decode b_M_plainAffix 0 = .ok (.iload_n 1, 1) := by decide +kernel
theorem d_M_plainAffix_1 : decode b_M_plainAffix 1 = .ok (.invokestatic 59, 3) := by decide +kernel
theorem d_M_plainAffix_4 : decode b_M_plainAffix 4 = .ok (.ifCond .eq 5, 3) := by decide +kernel
theorem d_M_plainAffix_7 : decode b_M_plainAffix 7 = .ok (.iconst 0, 1) := by decide +kernel
theorem d_M_plainAffix_8 : decode b_M_plainAffix 8 = .ok (.ireturn, 1) := by decide +kernel
theorem d_M_plainAffix_9 : decode b_M_plainAffix 9 = .ok (.iload_n 1, 1) := by decide +kernel
theorem d_M_plainAffix_10 : decode b_M_plainAffix 10 = .ok (.bipush 39, 2) := by decide +kernel
theorem d_M_plainAffix_12 : decode b_M_plainAffix 12 = .ok (.if_icmp .ne 15, 3) := by decide +kernel
theorem d_M_plainAffix_15 : decode b_M_plainAffix 15 = .ok (.aload_n 0, 1) := by decide +kernel
theorem d_M_plainAffix_16 : decode b_M_plainAffix 16 = .ok (.iload_n 2, 1) := by decide +kernel
theorem d_M_plainAffix_17 : decode b_M_plainAffix 17 = .ok (.putfield 56, 3) := by decide +kernel
theorem d_M_plainAffix_20 : decode b_M_plainAffix 20 = .ok (.aload_n 0, 1) := by decide +kernel
theorem d_M_plainAffix_21 : decode b_M_plainAffix 21 = .ok (.iconst 0, 1) := by decide +kernel
theorem d_M_plainAffix_22 : decode b_M_plainAffix 22 = .ok (.putfield 63, 3) := by decide +kernel
theorem d_M_plainAffix_25 : decode b_M_plainAffix 25 = .ok (.iconst 1, 1) := by decide +kernel
theorem d_M_plainAffix_26 : decode b_M_plainAffix 26 = .ok (.ireturn, 1) := by decide +kernel
theorem d_M_plainAffix_27 : decode b_M_plainAffix 27 = .ok (.aload_n 0, 1) := by decide +kernel
theorem d_M_plainAffix_28 : decode b_M_plainAffix 28 = .ok (.iload_n 1, 1) := by decide +kernel
theorem d_M_plainAffix_29 : decode b_M_plainAffix 29 = .ok (.bipush 45, 2) := by decide +kernel
theorem d_M_plainAffix_31 : decode b_M_plainAffix 31 = .ok (.if_icmp .ne 9, 3) := by decide +kernel
theorem d_M_plainAffix_34 : decode b_M_plainAffix 34 = .ok (.sipush 200, 3) := by decide +kernel
theorem d_M_plainAffix_37 : decode b_M_plainAffix 37 = .ok (.goto 16, 3) := by decide +kernel
theorem d_M_plainAffix_40 : decode b_M_plainAffix 40 = .ok (.iload_n 1, 1) := by decide +kernel
theorem d_M_plainAffix_41 : decode b_M_plainAffix 41 = .ok (.bipush 37, 2) := by decide +kernel
theorem d_M_plainAffix_43 : decode b_M_plainAffix 43 = .ok (.if_icmp .ne 9, 3) := by decide +kernel
theorem d_M_plainAffix_46 : decode b_M_plainAffix 46 = .ok (.sipush 201, 3) := by decide +kernel
theorem d_M_plainAffix_49 : decode b_M_plainAffix 49 = .ok (.goto 4, 3) := by decide +kernel
theorem d_M_plainAffix_52 : decode b_M_plainAffix 52 = .ok (.iload_n 1, 1) := by decide +kernel
theorem d_M_plainAffix_53 : decode b_M_plainAffix 53 = .ok (.invokevirtual 66, 3) := by decide +kernel
theorem d_M_plainAffix_56 : decode b_M_plainAffix 56 = .ok (.iconst 1, 1) := by decide +kernel
theorem d_M_plainAffix_57 : decode b_M_plainAffix 57 = .ok (.ireturn, 1) := by decide +kernel
theorem d_M_inQuote_0 : decode b_M_inQuote 0 = .ok (.iload_n 1, 1) := by decide +kernel
theorem d_M_inQuote_1 : decode b_M_inQuote 1 = .ok (.bipush 39, 2) := by decide +kernel
theorem d_M_inQuote_3 : decode b_M_inQuote 3 = .ok (.if_icmp .ne 10, 3) := by decide +kernel
theorem d_M_inQuote_6 : decode b_M_inQuote 6 = .ok (.aload_n 0, 1) := by decide +kernel
theorem d_M_inQuote_7 : decode b_M_inQuote 7 = .ok (.getfield 63, 3) := by decide +kernel
theorem d_M_inQuote_10 : decode b_M_inQuote 10 = .ok (.ifCond .ne 8, 3) := by decide +kernel
theorem d_M_inQuote_13 : decode b_M_inQuote 13 = .ok (.aload_n 0, 1) := by decide +kernel
theorem d_M_inQuote_14 : decode b_M_inQuote 14 = .ok (.iload_n 1, 1) := by decide +kernel
theorem d_M_inQuote_15 : decode b_M_inQuote 15 = .ok (.invokevirtual 66, 3) := by decide +kernel
theorem d_M_inQuote_18 : decode b_M_inQuote 18 = .ok (.aload_n 0, 1) := by decide +kernel
theorem d_M_inQuote_19 : decode b_M_inQuote 19 = .ok (.dup, 1) := by decide +kernel
theorem d_M_inQuote_20 : decode b_M_inQuote 20 = .ok (.getfield 63, 3) := by decide +kernel
theorem d_M_inQuote_23 : decode b_M_inQuote 23 = .ok (.iconst 1, 1) := by decide +kernel
theorem d_M_inQuote_24 : decode b_M_inQuote 24 = .ok (.iadd, 1) := by decide +kernel
theorem d_M_inQuote_25 : decode b_M_inQuote 25 = .ok (.putfield 63, 3) := by decide +kernel
theorem d_M_inQuote_28 : decode b_M_inQuote 28 = .ok (.aload_n 0, 1) := by decide +kernel
theorem d_M_inQuote_29 : decode b_M_inQuote 29 = .ok (.iload_n 1, 1) := by decide +kernel
theorem d_M_inQuote_30 : decode b_M_inQuote 30 = .ok (.bipush 39, 2) := by decide +kernel
theorem d_M_inQuote_32 : decode b_M_inQuote 32 = .ok (.if_icmp .ne 7, 3) := by decide +kernel
theorem d_M_inQuote_35 : decode b_M_inQuote 35 = .ok (.iload_n 2, 1) := by decide +kernel
theorem d_M_inQuote_36 : decode b_M_inQuote 36 = .ok (.goto 7, 3) := by decide +kernel
theorem d_M_inQuote_39 : decode b_M_inQuote 39 = .ok (.aload_n 0, 1) := by decide +kernel
theorem d_M_inQuote_40 : decode b_M_inQuote 40 = .ok (.getfield 56, 3) := by decide +kernel
theorem d_M_inQuote_43 : decode b_M_inQuote 43 = .ok (.putfield 56, 3) := by decide +kernel
theorem d_M_inQuote_46 : decode b_M_inQuote 46 = .ok (.return_, 1) := by decide +kernel
theorem d_M_integerDigit_0 : decode b_M_integerDigit 0 = .ok (.iload_n 1, 1) := by decide +kernel
theorem d_M_integerDigit_1 : decode b_M_integerDigit 1 = .ok (.bipush 35, 2) := by decide +kernel
theorem d_M_integerDigit_3 : decode b_M_integerDigit 3 = .ok (.if_icmp .ne 14, 3) := by decide +kernel
theorem d_M_integerDigit_6 : decode b_M_integerDigit 6 = .ok (.aload_n 0, 1) := by decide +kernel
theorem d_M_integerDigit_7 : decode b_M_integerDigit 7 = .ok (.getfield 13, 3) := by decide +kernel
theorem d_M_integerDigit_10 : decode b_M_integerDigit 10 = .ok (.iconst 1, 1) := by decide +kernel
theorem d_M_integerDigit_11 : decode b_M_integerDigit 11 = .ok (.iaload, 1) := by decide +kernel
theorem d_M_integerDigit_12 : decode b_M_integerDigit 12 = .ok (.ifCond .le 5, 3) := by decide +kernel
theorem d_M_integerDigit_15 : decode b_M_integerDigit 15 = .ok (.iconst 0, 1) := by decide +kernel
theorem d_M_integerDigit_16 : decode b_M_integerDigit 16 = .ok (.ireturn, 1) := by decide +kernel
theorem d_M_integerDigit_17 : decode b_M_integerDigit 17 = .ok (.aload_n 0, 1) := by decide +kernel
theorem d_M_integerDigit_18 : decode b_M_integerDigit 18 = .ok (.getfield 13, 3) := by decide +kernel
theorem d_M_integerDigit_21 : decode b_M_integerDigit 21 = .ok (.iload_n 1, 1) := by decide +kernel
theorem d_M_integerDigit_22 : decode b_M_integerDigit 22 = .ok (.bipush 35, 2) := by decide +kernel
theorem d_M_integerDigit_24 : decode b_M_integerDigit 24 = .ok (.if_icmp .ne 7, 3) := by decide +kernel
theorem d_M_integerDigit_27 : decode b_M_integerDigit 27 = .ok (.iconst 0, 1) := by decide +kernel
theorem d_M_integerDigit_28 : decode b_M_integerDigit 28 = .ok (.goto 4, 3) := by decide +kernel
theorem d_M_integerDigit_31 : decode b_M_integerDigit 31 = .ok (.iconst 1, 1) := by decide +kernel
theorem d_M_integerDigit_32 : decode b_M_integerDigit 32 = .ok (.dup2, 1) := by decide +kernel
theorem d_M_integerDigit_33 : decode b_M_integerDigit 33 = .ok (.iaload, 1) := by decide +kernel
theorem d_M_integerDigit_34 : decode b_M_integerDigit 34 = .ok (.iconst 1, 1) := by decide +kernel
theorem d_M_integerDigit_35 : decode b_M_integerDigit 35 = .ok (.iadd, 1) := by decide +kernel
theorem d_M_integerDigit_36 : decode b_M_integerDigit 36 = .ok (.iastore, 1) := by decide +kernel
theorem d_M_integerDigit_37 : decode b_M_integerDigit 37 = .ok (.aload_n 0, 1) := by decide +kernel
theorem d_M_integerDigit_38 : decode b_M_integerDigit 38 = .ok (.getfield 13, 3) := by decide +kernel
theorem d_M_integerDigit_41 : decode b_M_integerDigit 41 = .ok (.bipush 7, 2) := by decide +kernel
theorem d_M_integerDigit_43 : decode b_M_integerDigit 43 = .ok (.dup2, 1) := by decide +kernel
theorem d_M_integerDigit_44 : decode b_M_integerDigit 44 = .ok (.iaload, 1) := by decide +kernel
theorem d_M_integerDigit_45 : decode b_M_integerDigit 45 = .ok (.iconst 1, 1) := by decide +kernel
theorem d_M_integerDigit_46 : decode b_M_integerDigit 46 = .ok (.iadd, 1) := by decide +kernel
theorem d_M_integerDigit_47 : decode b_M_integerDigit 47 = .ok (.iastore, 1) := by decide +kernel
theorem d_M_integerDigit_48 : decode b_M_integerDigit 48 = .ok (.aload_n 0, 1) := by decide +kernel
theorem d_M_integerDigit_49 : decode b_M_integerDigit 49 = .ok (.iconst 2, 1) := by decide +kernel
theorem d_M_integerDigit_50 : decode b_M_integerDigit 50 = .ok (.putfield 56, 3) := by decide +kernel
theorem d_M_integerDigit_53 : decode b_M_integerDigit 53 = .ok (.iconst 1, 1) := by decide +kernel
theorem d_M_integerDigit_54 : decode b_M_integerDigit 54 = .ok (.ireturn, 1) := by decide +kernel
theorem d_M_power_0 : decode b_M_power 0 = .ok (.aload_n 0, 1) := by decide +kernel
theorem d_M_power_1 : decode b_M_power 1 = .ok (.bipush 7, 2) := by decide +kernel
theorem d_M_power_3 : decode b_M_power 3 = .ok (.putfield 56, 3) := by decide +kernel
theorem d_M_power_6 : decode b_M_power 6 = .ok (.aload_n 0, 1) := by decide +kernel
theorem d_M_power_7 : decode b_M_power 7 = .ok (.getfield 13, 3) := by decide +kernel
theorem d_M_power_10 : decode b_M_power 10 = .ok (.iconst 1, 1) := by decide +kernel
theorem d_M_power_11 : decode b_M_power 11 = .ok (.iaload, 1) := by decide +kernel
theorem d_M_power_12 : decode b_M_power 12 = .ok (.ifCond .le 17, 3) := by decide +kernel
theorem d_M_power_15 : decode b_M_power 15 = .ok (.aload_n 0, 1) := by decide +kernel
theorem d_M_power_16 : decode b_M_power 16 = .ok (.getfield 13, 3) := by decide +kernel
theorem d_M_power_19 : decode b_M_power 19 = .ok (.bipush 6, 2) := by decide +kernel
theorem d_M_power_21 : decode b_M_power 21 = .ok (.iaload, 1) := by decide +kernel
theorem d_M_power_22 : decode b_M_power 22 = .ok (.ifCond .ne 7, 3) := by decide +kernel
theorem d_M_power_25 : decode b_M_power 25 = .ok (.iconst 1, 1) := by decide +kernel
theorem d_M_power_26 : decode b_M_power 26 = .ok (.goto 4, 3) := by decide +kernel
theorem d_M_power_29 : decode b_M_power 29 = .ok (.iconst 0, 1) := by decide +kernel
theorem d_M_power_30 : decode b_M_power 30 = .ok (.ireturn, 1) := by decide +kernel
theorem d_M_copy_0 : decode b_M_copy 0 = .ok (.iconst 0, 1) := by decide +kernel
theorem d_M_copy_1 : decode b_M_copy 1 = .ok (.istore_n 2, 1) := by decide +kernel
theorem d_M_copy_2 : decode b_M_copy 2 = .ok (.iload_n 2, 1) := by decide +kernel
theorem d_M_copy_3 : decode b_M_copy 3 = .ok (.bipush 9, 2) := by decide +kernel
theorem d_M_copy_5 : decode b_M_copy 5 = .ok (.if_icmp .ge 15, 3) := by decide +kernel
theorem d_M_copy_8 : decode b_M_copy 8 = .ok (.aload_n 1, 1) := by decide +kernel
theorem d_M_copy_9 : decode b_M_copy 9 = .ok (.iload_n 2, 1) := by decide +kernel
theorem d_M_copy_10 : decode b_M_copy 10 = .ok (.aload_n 0, 1) := by decide +kernel
theorem d_M_copy_11 : decode b_M_copy 11 = .ok (.iload_n 2, 1) := by decide +kernel
theorem d_M_copy_12 : decode b_M_copy 12 = .ok (.iaload, 1) := by decide +kernel
theorem d_M_copy_13 : decode b_M_copy 13 = .ok (.iastore, 1) := by decide +kernel
theorem d_M_copy_14 : decode b_M_copy 14 = .ok (.iinc 2 1, 3) := by decide +kernel
theorem d_M_copy_17 : decode b_M_copy 17 = .ok (.goto (-15), 3) := by decide +kernel
theorem d_M_copy_20 : decode b_M_copy 20 = .ok (.return_, 1) := by decide +kernel
theorem d_M_behind_0 : decode b_M_behind 0 = .ok (.iload_n 1, 1) := by decide +kernel
theorem d_M_behind_1 : decode b_M_behind 1 = .ok (.bipush 59, 2) := by decide +kernel
theorem d_M_behind_3 : decode b_M_behind 3 = .ok (.if_icmp .ne 34, 3) := by decide +kernel
theorem d_M_behind_6 : decode b_M_behind 6 = .ok (.aload_n 0, 1) := by decide +kernel
theorem d_M_behind_7 : decode b_M_behind 7 = .ok (.getfield 53, 3) := by decide +kernel
theorem d_M_behind_10 : decode b_M_behind 10 = .ok (.ifCond .ne 7, 3) := by decide +kernel
theorem d_M_behind_13 : decode b_M_behind 13 = .ok (.iconst 1, 1) := by decide +kernel
theorem d_M_behind_14 : decode b_M_behind 14 = .ok (.goto 4, 3) := by decide +kernel
theorem d_M_behind_17 : decode b_M_behind 17 = .ok (.iconst 0, 1) := by decide +kernel
theorem d_M_behind_18 : decode b_M_behind 18 = .ok (.istore_n 2, 1) := by decide +kernel
theorem d_M_behind_19 : decode b_M_behind 19 = .ok (.aload_n 0, 1) := by decide +kernel
theorem d_M_behind_20 : decode b_M_behind 20 = .ok (.getfield 13, 3) := by decide +kernel
theorem d_M_behind_23 : decode b_M_behind 23 = .ok (.aload_n 0, 1) := by decide +kernel
theorem d_M_behind_24 : decode b_M_behind 24 = .ok (.getfield 16, 3) := by decide +kernel
theorem d_M_behind_27 : decode b_M_behind 27 = .ok (.invokestatic 70, 3) := by decide +kernel
theorem d_M_behind_30 : decode b_M_behind 30 = .ok (.aload_n 0, 1) := by decide +kernel
theorem d_M_behind_31 : decode b_M_behind 31 = .ok (.iconst 1, 1) := by decide +kernel
theorem d_M_behind_32 : decode b_M_behind 32 = .ok (.invokevirtual 74, 3) := by decide +kernel
theorem d_M_behind_35 : decode b_M_behind 35 = .ok (.iload_n 2, 1) := by decide +kernel
theorem d_M_behind_36 : decode b_M_behind 36 = .ok (.ireturn, 1) := by decide +kernel
theorem d_M_behind_37 : decode b_M_behind 37 = .ok (.aload_n 0, 1) := by decide +kernel
theorem d_M_behind_38 : decode b_M_behind 38 = .ok (.bipush 10, 2) := by decide +kernel
theorem d_M_behind_40 : decode b_M_behind 40 = .ok (.putfield 56, 3) := by decide +kernel
theorem d_M_behind_43 : decode b_M_behind 43 = .ok (.aload_n 0, 1) := by decide +kernel
theorem d_M_behind_44 : decode b_M_behind 44 = .ok (.iload_n 1, 1) := by decide +kernel
theorem d_M_behind_45 : decode b_M_behind 45 = .ok (.bipush 11, 2) := by decide +kernel
theorem d_M_behind_47 : decode b_M_behind 47 = .ok (.invokevirtual 77, 3) := by decide +kernel
theorem d_M_behind_50 : decode b_M_behind 50 = .ok (.ireturn, 1) := by decide +kernel
theorem d_M_inNumber_0 : decode b_M_inNumber 0 = .ok (.iload_n 1, 1) := by decide +kernel
theorem d_M_inNumber_1 : decode b_M_inNumber 1 = .ok (.bipush 35, 2) := by decide +kernel
theorem d_M_inNumber_3 : decode b_M_inNumber 3 = .ok (.if_icmp .eq 9, 3) := by decide +kernel
theorem d_M_inNumber_6 : decode b_M_inNumber 6 = .ok (.iload_n 1, 1) := by decide +kernel
theorem d_M_inNumber_7 : decode b_M_inNumber 7 = .ok (.bipush 48, 2) := by decide +kernel
theorem d_M_inNumber_9 : decode b_M_inNumber 9 = .ok (.if_icmp .ne 9, 3) := by decide +kernel
theorem d_M_inNumber_12 : decode b_M_inNumber 12 = .ok (.aload_n 0, 1) := by decide +kernel
theorem d_M_inNumber_13 : decode b_M_inNumber 13 = .ok (.iload_n 1, 1) := by decide +kernel
theorem d_M_inNumber_14 : decode b_M_inNumber 14 = .ok (.invokevirtual 81, 3) := by decide +kernel
theorem d_M_inNumber_17 : decode b_M_inNumber 17 = .ok (.ireturn, 1) := by decide +kernel
theorem d_M_inNumber_18 : decode b_M_inNumber 18 = .ok (.iload_n 1, 1) := by decide +kernel
theorem d_M_inNumber_19 : decode b_M_inNumber 19 = .ok (.bipush 46, 2) := by decide +kernel
theorem d_M_inNumber_21 : decode b_M_inNumber 21 = .ok (.if_icmp .ne 10, 3) := by decide +kernel
theorem d_M_inNumber_24 : decode b_M_inNumber 24 = .ok (.aload_n 0, 1) := by decide +kernel
theorem d_M_inNumber_25 : decode b_M_inNumber 25 = .ok (.iconst 4, 1) := by decide +kernel
theorem d_M_inNumber_26 : decode b_M_inNumber 26 = .ok (.putfield 56, 3) := by decide +kernel
theorem d_M_inNumber_29 : decode b_M_inNumber 29 = .ok (.iconst 1, 1) := by decide +kernel
theorem d_M_inNumber_30 : decode b_M_inNumber 30 = .ok (.ireturn, 1) := by decide +kernel
theorem d_M_inNumber_31 : decode b_M_inNumber 31 = .ok (.iload_n 1, 1) := by decide +kernel
theorem d_M_inNumber_32 : decode b_M_inNumber 32 = .ok (.bipush 44, 2) := by decide +kernel
theorem d_M_inNumber_34 : decode b_M_inNumber 34 = .ok (.if_icmp .ne 43, 3) := by decide +kernel
theorem d_M_inNumber_37 : decode b_M_inNumber 37 = .ok (.aload_n 0, 1) := by decide +kernel
theorem d_M_inNumber_38 : decode b_M_inNumber 38 = .ok (.getfield 13, 3) := by decide +kernel
theorem d_M_inNumber_41 : decode b_M_inNumber 41 = .ok (.bipush 8, 2) := by decide +kernel
theorem d_M_inNumber_43 : decode b_M_inNumber 43 = .ok (.aload_n 0, 1) := by decide +kernel
theorem d_M_inNumber_44 : decode b_M_inNumber 44 = .ok (.getfield 13, 3) := by decide +kernel
theorem d_M_inNumber_47 : decode b_M_inNumber 47 = .ok (.bipush 7, 2) := by decide +kernel
theorem d_M_inNumber_49 : decode b_M_inNumber 49 = .ok (.iaload, 1) := by decide +kernel
theorem d_M_inNumber_50 : decode b_M_inNumber 50 = .ok (.iastore, 1) := by decide +kernel
theorem d_M_inNumber_51 : decode b_M_inNumber 51 = .ok (.aload_n 0, 1) := by decide +kernel
theorem d_M_inNumber_52 : decode b_M_inNumber 52 = .ok (.getfield 13, 3) := by decide +kernel
theorem d_M_inNumber_55 : decode b_M_inNumber 55 = .ok (.bipush 7, 2) := by decide +kernel
theorem d_M_inNumber_57 : decode b_M_inNumber 57 = .ok (.iconst 0, 1) := by decide +kernel
theorem d_M_inNumber_58 : decode b_M_inNumber 58 = .ok (.iastore, 1) := by decide +kernel
theorem d_M_inNumber_59 : decode b_M_inNumber 59 = .ok (.aload_n 0, 1) := by decide +kernel
theorem d_M_inNumber_60 : decode b_M_inNumber 60 = .ok (.getfield 13, 3) := by decide +kernel
theorem d_M_inNumber_63 : decode b_M_inNumber 63 = .ok (.bipush 6, 2) := by decide +kernel
theorem d_M_inNumber_65 : decode b_M_inNumber 65 = .ok (.dup2, 1) := by decide +kernel
theorem d_M_inNumber_66 : decode b_M_inNumber 66 = .ok (.iaload, 1) := by decide +kernel
theorem d_M_inNumber_67 : decode b_M_inNumber 67 = .ok (.iconst 1, 1) := by decide +kernel
theorem d_M_inNumber_68 : decode b_M_inNumber 68 = .ok (.iadd, 1) := by decide +kernel
theorem d_M_inNumber_69 : decode b_M_inNumber 69 = .ok (.iastore, 1) := by decide +kernel
theorem d_M_inNumber_70 : decode b_M_inNumber 70 = .ok (.aload_n 0, 1) := by decide +kernel
theorem d_M_inNumber_71 : decode b_M_inNumber 71 = .ok (.iconst 3, 1) := by decide +kernel
theorem d_M_inNumber_72 : decode b_M_inNumber 72 = .ok (.putfield 56, 3) := by decide +kernel
theorem d_M_inNumber_75 : decode b_M_inNumber 75 = .ok (.iconst 1, 1) := by decide +kernel
theorem d_M_inNumber_76 : decode b_M_inNumber 76 = .ok (.ireturn, 1) := by decide +kernel
theorem d_M_inNumber_77 : decode b_M_inNumber 77 = .ok (.iload_n 1, 1) := by decide +kernel
theorem d_M_inNumber_78 : decode b_M_inNumber 78 = .ok (.bipush 69, 2) := by decide +kernel
theorem d_M_inNumber_80 : decode b_M_inNumber 80 = .ok (.if_icmp .ne 10, 3) := by decide +kernel
theorem d_M_inNumber_83 : decode b_M_inNumber 83 = .ok (.aload_n 0, 1) := by decide +kernel
theorem d_M_inNumber_84 : decode b_M_inNumber 84 = .ok (.invokevirtual 84, 3) := by decide +kernel
theorem d_M_inNumber_87 : decode b_M_inNumber 87 = .ok (.goto 8, 3) := by decide +kernel
theorem d_M_inNumber_90 : decode b_M_inNumber 90 = .ok (.aload_n 0, 1) := by decide +kernel
theorem d_M_inNumber_91 : decode b_M_inNumber 91 = .ok (.iload_n 1, 1) := by decide +kernel
theorem d_M_inNumber_92 : decode b_M_inNumber 92 = .ok (.invokevirtual 88, 3) := by decide +kernel
theorem d_M_inNumber_95 : decode b_M_inNumber 95 = .ok (.ireturn, 1) := by decide +kernel
theorem d_M_inFraction_0 : decode b_M_inFraction 0 = .ok (.aload_n 0, 1) := by decide +kernel
theorem d_M_inFraction_1 : decode b_M_inFraction 1 = .ok (.getfield 56, 3) := by decide +kernel
theorem d_M_inFraction_4 : decode b_M_inFraction 4 = .ok (.bipush 6, 2) := by decide +kernel
theorem d_M_inFraction_6 : decode b_M_inFraction 6 = .ok (.if_icmp .eq 7, 3) := by decide +kernel
theorem d_M_inFraction_9 : decode b_M_inFraction 9 = .ok (.iconst 1, 1) := by decide +kernel
theorem d_M_inFraction_10 : decode b_M_inFraction 10 = .ok (.goto 4, 3) := by decide +kernel
theorem d_M_inFraction_13 : decode b_M_inFraction 13 = .ok (.iconst 0, 1) := by decide +kernel
theorem d_M_inFraction_14 : decode b_M_inFraction 14 = .ok (.istore_n 2, 1) := by decide +kernel
theorem d_M_inFraction_15 : decode b_M_inFraction 15 = .ok (.iload_n 1, 1) := by decide +kernel
theorem d_M_inFraction_16 : decode b_M_inFraction 16 = .ok (.bipush 35, 2) := by decide +kernel
theorem d_M_inFraction_18 : decode b_M_inFraction 18 = .ok (.if_icmp .eq 13, 3) := by decide +kernel
theorem d_M_inFraction_21 : decode b_M_inFraction 21 = .ok (.iload_n 1, 1) := by decide +kernel
theorem d_M_inFraction_22 : decode b_M_inFraction 22 = .ok (.bipush 48, 2) := by decide +kernel
theorem d_M_inFraction_24 : decode b_M_inFraction 24 = .ok (.if_icmp .ne 55, 3) := by decide +kernel
theorem d_M_inFraction_27 : decode b_M_inFraction 27 = .ok (.iload_n 2, 1) := by decide +kernel
theorem d_M_inFraction_28 : decode b_M_inFraction 28 = .ok (.ifCond .eq 51, 3) := by decide +kernel
theorem d_M_inFraction_31 : decode b_M_inFraction 31 = .ok (.aload_n 0, 1) := by decide +kernel
theorem d_M_inFraction_32 : decode b_M_inFraction 32 = .ok (.getfield 13, 3) := by decide +kernel
theorem d_M_inFraction_35 : decode b_M_inFraction 35 = .ok (.iconst 2, 1) := by decide +kernel
theorem d_M_inFraction_36 : decode b_M_inFraction 36 = .ok (.dup2, 1) := by decide +kernel
theorem d_M_inFraction_37 : decode b_M_inFraction 37 = .ok (.iaload, 1) := by decide +kernel
theorem d_M_inFraction_38 : decode b_M_inFraction 38 = .ok (.iconst 1, 1) := by decide +kernel
theorem d_M_inFraction_39 : decode b_M_inFraction 39 = .ok (.iadd, 1) := by decide +kernel
theorem d_M_inFraction_40 : decode b_M_inFraction 40 = .ok (.iastore, 1) := by decide +kernel
theorem d_M_inFraction_41 : decode b_M_inFraction 41 = .ok (.aload_n 0, 1) := by decide +kernel
theorem d_M_inFraction_42 : decode b_M_inFraction 42 = .ok (.getfield 13, 3) := by decide +kernel
theorem d_M_inFraction_45 : decode b_M_inFraction 45 = .ok (.iconst 3, 1) := by decide +kernel
theorem d_M_inFraction_46 : decode b_M_inFraction 46 = .ok (.dup2, 1) := by decide +kernel
theorem d_M_inFraction_47 : decode b_M_inFraction 47 = .ok (.iaload, 1) := by decide +kernel
theorem d_M_inFraction_48 : decode b_M_inFraction 48 = .ok (.iload_n 1, 1) := by decide +kernel
theorem d_M_inFraction_49 : decode b_M_inFraction 49 = .ok (.bipush 48, 2) := by decide +kernel
theorem d_M_inFraction_51 : decode b_M_inFraction 51 = .ok (.if_icmp .ne 7, 3) := by decide +kernel
theorem d_M_inFraction_54 : decode b_M_inFraction 54 = .ok (.iconst 1, 1) := by decide +kernel
theorem d_M_inFraction_55 : decode b_M_inFraction 55 = .ok (.goto 4, 3) := by decide +kernel
theorem d_M_inFraction_58 : decode b_M_inFraction 58 = .ok (.iconst 0, 1) := by decide +kernel
theorem d_M_inFraction_59 : decode b_M_inFraction 59 = .ok (.iadd, 1) := by decide +kernel
theorem d_M_inFraction_60 : decode b_M_inFraction 60 = .ok (.iastore, 1) := by decide +kernel
theorem d_M_inFraction_61 : decode b_M_inFraction 61 = .ok (.aload_n 0, 1) := by decide +kernel
theorem d_M_inFraction_62 : decode b_M_inFraction 62 = .ok (.iload_n 1, 1) := by decide +kernel
theorem d_M_inFraction_63 : decode b_M_inFraction 63 = .ok (.bipush 48, 2) := by decide +kernel
theorem d_M_inFraction_65 : decode b_M_inFraction 65 = .ok (.if_icmp .ne 7, 3) := by decide +kernel
theorem d_M_inFraction_68 : decode b_M_inFraction 68 = .ok (.iconst 5, 1) := by decide +kernel
theorem d_M_inFraction_69 : decode b_M_inFraction 69 = .ok (.goto 5, 3) := by decide +kernel
theorem d_M_inFraction_72 : decode b_M_inFraction 72 = .ok (.bipush 6, 2) := by decide +kernel
theorem d_M_inFraction_74 : decode b_M_inFraction 74 = .ok (.putfield 56, 3) := by decide +kernel
theorem d_M_inFraction_77 : decode b_M_inFraction 77 = .ok (.iconst 1, 1) := by decide +kernel
theorem d_M_inFraction_78 : decode b_M_inFraction 78 = .ok (.ireturn, 1) := by decide +kernel
theorem d_M_inFraction_79 : decode b_M_inFraction 79 = .ok (.aload_n 0, 1) := by decide +kernel
theorem d_M_inFraction_80 : decode b_M_inFraction 80 = .ok (.getfield 56, 3) := by decide +kernel
theorem d_M_inFraction_83 : decode b_M_inFraction 83 = .ok (.iconst 4, 1) := by decide +kernel
theorem d_M_inFraction_84 : decode b_M_inFraction 84 = .ok (.if_icmp .ne 5, 3) := by decide +kernel
theorem d_M_inFraction_87 : decode b_M_inFraction 87 = .ok (.iconst 0, 1) := by decide +kernel
theorem d_M_inFraction_88 : decode b_M_inFraction 88 = .ok (.ireturn, 1) := by decide +kernel
theorem d_M_inFraction_89 : decode b_M_inFraction 89 = .ok (.iload_n 1, 1) := by decide +kernel
theorem d_M_inFraction_90 : decode b_M_inFraction 90 = .ok (.bipush 69, 2) := by decide +kernel
theorem d_M_inFraction_92 : decode b_M_inFraction 92 = .ok (.if_icmp .ne 10, 3) := by decide +kernel
theorem d_M_inFraction_95 : decode b_M_inFraction 95 = .ok (.aload_n 0, 1) := by decide +kernel
theorem d_M_inFraction_96 : decode b_M_inFraction 96 = .ok (.invokevirtual 84, 3) := by decide +kernel
theorem d_M_inFraction_99 : decode b_M_inFraction 99 = .ok (.goto 8, 3) := by decide +kernel
theorem d_M_inFraction_102 : decode b_M_inFraction 102 = .ok (.aload_n 0, 1) := by decide +kernel
theorem d_M_inFraction_103 : decode b_M_inFraction 103 = .ok (.iload_n 1, 1) := by decide +kernel
theorem d_M_inFraction_104 : decode b_M_inFraction 104 = .ok (.invokevirtual 88, 3) := by decide +kernel
theorem d_M_inFraction_107 : decode b_M_inFraction 107 = .ok (.ireturn, 1) := by decide +kernel
theorem d_M_step_0 : decode b_M_step 0 = .ok (.aload_n 0, 1) := by decide +kernel
theorem d_M_step_1 : decode b_M_step 1 = .ok (.getfield 56, 3) := by decide +kernel
theorem d_M_step_4 : decode b_M_step 4 = .ok (.ifCond .ne 41, 3) := by decide +kernel
theorem d_M_step_7 : decode b_M_step 7 = .ok (.iload_n 1, 1) := by decide +kernel
theorem d_M_step_8 : decode b_M_step 8 = .ok (.bipush 35, 2) := by decide +kernel
theorem d_M_step_10 : decode b_M_step 10 = .ok (.if_icmp .eq 9, 3) := by decide +kernel
theorem d_M_step_13 : decode b_M_step 13 = .ok (.iload_n 1, 1) := by decide +kernel
theorem d_M_step_14 : decode b_M_step 14 = .ok (.bipush 48, 2) := by decide +kernel
theorem d_M_step_16 : decode b_M_step 16 = .ok (.if_icmp .ne 9, 3) := by decide +kernel
theorem d_M_step_19 : decode b_M_step 19 = .ok (.aload_n 0, 1) := by decide +kernel
theorem d_M_step_20 : decode b_M_step 20 = .ok (.iload_n 1, 1) := by decide +kernel
theorem d_M_step_21 : decode b_M_step 21 = .ok (.invokevirtual 81, 3) := by decide +kernel
theorem d_M_step_24 : decode b_M_step 24 = .ok (.ireturn, 1) := by decide +kernel
theorem d_M_step_25 : decode b_M_step 25 = .ok (.iload_n 1, 1) := by decide +kernel
theorem d_M_step_26 : decode b_M_step 26 = .ok (.bipush 46, 2) := by decide +kernel
theorem d_M_step_28 : decode b_M_step 28 = .ok (.if_icmp .ne 10, 3) := by decide +kernel
theorem d_M_step_31 : decode b_M_step 31 = .ok (.aload_n 0, 1) := by decide +kernel
theorem d_M_step_32 : decode b_M_step 32 = .ok (.iconst 4, 1) := by decide +kernel
theorem d_M_step_33 : decode b_M_step 33 = .ok (.putfield 56, 3) := by decide +kernel
theorem d_M_step_36 : decode b_M_step 36 = .ok (.iconst 1, 1) := by decide +kernel
theorem d_M_step_37 : decode b_M_step 37 = .ok (.ireturn, 1) := by decide +kernel
theorem d_M_step_38 : decode b_M_step 38 = .ok (.aload_n 0, 1) := by decide +kernel
theorem d_M_step_39 : decode b_M_step 39 = .ok (.iload_n 1, 1) := by decide +kernel
theorem d_M_step_40 : decode b_M_step 40 = .ok (.iconst 1, 1) := by decide +kernel
theorem d_M_step_41 : decode b_M_step 41 = .ok (.invokevirtual 77, 3) := by decide +kernel
theorem d_M_step_44 : decode b_M_step 44 = .ok (.ireturn, 1) := by decide +kernel
theorem d_M_step_45 : decode b_M_step 45 = .ok (.aload_n 0, 1) := by decide +kernel
theorem d_M_step_46 : decode b_M_step 46 = .ok (.getfield 56, 3) := by decide +kernel
theorem d_M_step_49 : decode b_M_step 49 = .ok (.iconst 1, 1) := by decide +kernel
theorem d_M_step_50 : decode b_M_step 50 = .ok (.if_icmp .eq 12, 3) := by decide +kernel
theorem d_M_step_53 : decode b_M_step 53 = .ok (.aload_n 0, 1) := by decide +kernel
theorem d_M_step_54 : decode b_M_step 54 = .ok (.getfield 56, 3) := by decide +kernel
theorem d_M_step_57 : decode b_M_step 57 = .ok (.bipush 11, 2) := by decide +kernel
theorem d_M_step_59 : decode b_M_step 59 = .ok (.if_icmp .ne 24, 3) := by decide +kernel
theorem d_M_step_62 : decode b_M_step 62 = .ok (.aload_n 0, 1) := by decide +kernel
theorem d_M_step_63 : decode b_M_step 63 = .ok (.iload_n 1, 1) := by decide +kernel
theorem d_M_step_64 : decode b_M_step 64 = .ok (.aload_n 0, 1) := by decide +kernel
theorem d_M_step_65 : decode b_M_step 65 = .ok (.getfield 56, 3) := by decide +kernel
theorem d_M_step_68 : decode b_M_step 68 = .ok (.iconst 1, 1) := by decide +kernel
theorem d_M_step_69 : decode b_M_step 69 = .ok (.if_icmp .ne 7, 3) := by decide +kernel
theorem d_M_step_72 : decode b_M_step 72 = .ok (.iconst 0, 1) := by decide +kernel
theorem d_M_step_73 : decode b_M_step 73 = .ok (.goto 5, 3) := by decide +kernel
theorem d_M_step_76 : decode b_M_step 76 = .ok (.bipush 10, 2) := by decide +kernel
theorem d_M_step_78 : decode b_M_step 78 = .ok (.invokevirtual 91, 3) := by decide +kernel
theorem d_M_step_81 : decode b_M_step 81 = .ok (.iconst 1, 1) := by decide +kernel
theorem d_M_step_82 : decode b_M_step 82 = .ok (.ireturn, 1) := by decide +kernel
theorem d_M_step_83 : decode b_M_step 83 = .ok (.aload_n 0, 1) := by decide +kernel
theorem d_M_step_84 : decode b_M_step 84 = .ok (.getfield 56, 3) := by decide +kernel
theorem d_M_step_87 : decode b_M_step 87 = .ok (.iconst 2, 1) := by decide +kernel
theorem d_M_step_88 : decode b_M_step 88 = .ok (.if_icmp .ne 9, 3) := by decide +kernel
theorem d_M_step_91 : decode b_M_step 91 = .ok (.aload_n 0, 1) := by decide +kernel
theorem d_M_step_92 : decode b_M_step 92 = .ok (.iload_n 1, 1) := by decide +kernel
theorem d_M_step_93 : decode b_M_step 93 = .ok (.invokevirtual 95, 3) := by decide +kernel
theorem d_M_step_96 : decode b_M_step 96 = .ok (.ireturn, 1) := by decide +kernel
theorem d_M_step_97 : decode b_M_step 97 = .ok (.aload_n 0, 1) := by decide +kernel
theorem d_M_step_98 : decode b_M_step 98 = .ok (.getfield 56, 3) := by decide +kernel
theorem d_M_step_101 : decode b_M_step 101 = .ok (.iconst 3, 1) := by decide +kernel
theorem d_M_step_102 : decode b_M_step 102 = .ok (.if_icmp .ne 29, 3) := by decide +kernel
theorem d_M_step_105 : decode b_M_step 105 = .ok (.iload_n 1, 1) := by decide +kernel
theorem d_M_step_106 : decode b_M_step 106 = .ok (.bipush 35, 2) := by decide +kernel
theorem d_M_step_108 : decode b_M_step 108 = .ok (.if_icmp .eq 9, 3) := by decide +kernel
theorem d_M_step_111 : decode b_M_step 111 = .ok (.iload_n 1, 1) := by decide +kernel
theorem d_M_step_112 : decode b_M_step 112 = .ok (.bipush 48, 2) := by decide +kernel
theorem d_M_step_114 : decode b_M_step 114 = .ok (.if_icmp .ne 15, 3) := by decide +kernel
theorem d_M_step_117 : decode b_M_step 117 = .ok (.aload_n 0, 1) := by decide +kernel
theorem d_M_step_118 : decode b_M_step 118 = .ok (.iload_n 1, 1) := by decide +kernel
theorem d_M_step_119 : decode b_M_step 119 = .ok (.invokevirtual 81, 3) := by decide +kernel
theorem d_M_step_122 : decode b_M_step 122 = .ok (.ifCond .eq 7, 3) := by decide +kernel
theorem d_M_step_125 : decode b_M_step 125 = .ok (.iconst 1, 1) := by decide +kernel
theorem d_M_step_126 : decode b_M_step 126 = .ok (.goto 4, 3) := by decide +kernel
theorem d_M_step_129 : decode b_M_step 129 = .ok (.iconst 0, 1) := by decide +kernel
theorem d_M_step_130 : decode b_M_step 130 = .ok (.ireturn, 1) := by decide +kernel
theorem d_M_step_131 : decode b_M_step 131 = .ok (.aload_n 0, 1) := by decide +kernel
theorem d_M_step_132 : decode b_M_step 132 = .ok (.getfield 56, 3) := by decide +kernel
theorem d_M_step_135 : decode b_M_step 135 = .ok (.iconst 4, 1) := by decide +kernel
theorem d_M_step_136 : decode b_M_step 136 = .ok (.if_icmp .eq 20, 3) := by decide +kernel
theorem d_M_step_139 : decode b_M_step 139 = .ok (.aload_n 0, 1) := by decide +kernel
theorem d_M_step_140 : decode b_M_step 140 = .ok (.getfield 56, 3) := by decide +kernel
theorem d_M_step_143 : decode b_M_step 143 = .ok (.iconst 5, 1) := by decide +kernel
theorem d_M_step_144 : decode b_M_step 144 = .ok (.if_icmp .eq 12, 3) := by decide +kernel
theorem d_M_step_147 : decode b_M_step 147 = .ok (.aload_n 0, 1) := by decide +kernel
theorem d_M_step_148 : decode b_M_step 148 = .ok (.getfield 56, 3) := by decide +kernel
theorem d_M_step_151 : decode b_M_step 151 = .ok (.bipush 6, 2) := by decide +kernel
theorem d_M_step_153 : decode b_M_step 153 = .ok (.if_icmp .ne 9, 3) := by decide +kernel
theorem d_M_step_156 : decode b_M_step 156 = .ok (.aload_n 0, 1) := by decide +kernel
theorem d_M_step_157 : decode b_M_step 157 = .ok (.iload_n 1, 1) := by decide +kernel
theorem d_M_step_158 : decode b_M_step 158 = .ok (.invokevirtual 98, 3) := by decide +kernel
theorem d_M_step_161 : decode b_M_step 161 = .ok (.ireturn, 1) := by decide +kernel
theorem d_M_step_162 : decode b_M_step 162 = .ok (.aload_n 0, 1) := by decide +kernel
theorem d_M_step_163 : decode b_M_step 163 = .ok (.getfield 56, 3) := by decide +kernel
theorem d_M_step_166 : decode b_M_step 166 = .ok (.bipush 7, 2) := by decide +kernel
theorem d_M_step_168 : decode b_M_step 168 = .ok (.if_icmp .ne 24, 3) := by decide +kernel
theorem d_M_step_171 : decode b_M_step 171 = .ok (.iload_n 1, 1) := by decide +kernel
theorem d_M_step_172 : decode b_M_step 172 = .ok (.bipush 43, 2) := by decide +kernel
theorem d_M_step_174 : decode b_M_step 174 = .ok (.if_icmp .ne 18, 3) := by decide +kernel
theorem d_M_step_177 : decode b_M_step 177 = .ok (.aload_n 0, 1) := by decide +kernel
theorem d_M_step_178 : decode b_M_step 178 = .ok (.getfield 13, 3) := by decide +kernel
theorem d_M_step_181 : decode b_M_step 181 = .ok (.iconst 5, 1) := by decide +kernel
theorem d_M_step_182 : decode b_M_step 182 = .ok (.iconst 1, 1) := by decide +kernel
theorem d_M_step_183 : decode b_M_step 183 = .ok (.iastore, 1) := by decide +kernel
theorem d_M_step_184 : decode b_M_step 184 = .ok (.aload_n 0, 1) := by decide +kernel
