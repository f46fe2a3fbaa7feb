theorem d_X_keepFound_0 : decode b_X_keepFound 0 = .ok (.aload_n 0, 1) := by decide +kernel
theorem d_X_keepFound_1 : decode b_X_keepFound 1 = .ok (.lload_n 1, 1) := by decide +kernel
theorem d_X_keepFound_2 : decode b_X_keepFound 2 = .ok (.putfield 132, 3) := by decide +kernel
theorem d_X_keepFound_5 : decode b_X_keepFound 5 = .ok (.aload_n 0, 1) := by decide +kernel
theorem d_X_keepFound_6 : decode b_X_keepFound 6 = .ok (.iload_n 3, 1) := by decide +kernel
theorem d_X_keepFound_7 : decode b_X_keepFound 7 = .ok (.putfield 135, 3) := by decide +kernel
theorem d_X_keepFound_10 : decode b_X_keepFound 10 = .ok (.return_, 1) := by decide +kernel
theorem d_X_draft_0 : decode b_X_draft 0 = .ok (.iload_n 1, 1) := by decide +kernel
theorem d_X_draft_1 : decode b_X_draft 1 = .ok (.invokestatic 75, 3) := by decide +kernel
theorem d_X_draft_4 : decode b_X_draft 4 = .ok (.ifCond .eq 18, 3) := by decide +kernel
theorem d_X_draft_7 : decode b_X_draft 7 = .ok (.aload_n 0, 1) := by decide +kernel
theorem d_X_draft_8 : decode b_X_draft 8 = .ok (.getfield 14, 3) := by decide +kernel
theorem d_X_draft_11 : decode b_X_draft 11 = .ok (.iload_n 1, 1) := by decide +kernel
theorem d_X_draft_12 : decode b_X_draft 12 = .ok (.invokevirtual 79, 3) := by decide +kernel
theorem d_X_draft_15 : decode b_X_draft 15 = .ok (.ifCond .eq 7, 3) := by decide +kernel
theorem d_X_draft_18 : decode b_X_draft 18 = .ok (.iconst 1, 1) := by decide +kernel
theorem d_X_draft_19 : decode b_X_draft 19 = .ok (.goto 4, 3) := by decide +kernel
theorem d_X_draft_22 : decode b_X_draft 22 = .ok (.iconst 0, 1) := by decide +kernel
theorem d_X_draft_23 : decode b_X_draft 23 = .ok (.ireturn, 1) := by decide +kernel
theorem d_X_scrap_0 : decode b_X_scrap 0 = .ok (.aload_n 0, 1) := by decide +kernel
theorem d_X_scrap_1 : decode b_X_scrap 1 = .ok (.getfield 14, 3) := by decide +kernel
theorem d_X_scrap_4 : decode b_X_scrap 4 = .ok (.invokevirtual 82, 3) := by decide +kernel
theorem d_X_scrap_7 : decode b_X_scrap 7 = .ok (.return_, 1) := by decide +kernel
theorem d_X_apply_0 : decode b_X_apply 0 = .ok (.aload_n 0, 1) := by decide +kernel
theorem d_X_apply_1 : decode b_X_apply 1 = .ok (.getfield 71, 3) := by decide +kernel
theorem d_X_apply_4 : decode b_X_apply 4 = .ok (.aload_n 0, 1) := by decide +kernel
theorem d_X_apply_5 : decode b_X_apply 5 = .ok (.getfield 14, 3) := by decide +kernel
theorem d_X_apply_8 : decode b_X_apply 8 = .ok (.aload_n 0, 1) := by decide +kernel
theorem d_X_apply_9 : decode b_X_apply 9 = .ok (.getfield 63, 3) := by decide +kernel
theorem d_X_apply_12 : decode b_X_apply 12 = .ok (.invokevirtual 85, 3) := by decide +kernel
theorem d_X_apply_15 : decode b_X_apply 15 = .ok (.istore_n 1, 1) := by decide +kernel
theorem d_X_apply_16 : decode b_X_apply 16 = .ok (.iload_n 1, 1) := by decide +kernel
theorem d_X_apply_17 : decode b_X_apply 17 = .ok (.ifCond .ne 28, 3) := by decide +kernel
theorem d_X_apply_20 : decode b_X_apply 20 = .ok (.aload_n 0, 1) := by decide +kernel
theorem d_X_apply_21 : decode b_X_apply 21 = .ok (.getfield 49, 3) := by decide +kernel
theorem d_X_apply_24 : decode b_X_apply 24 = .ok (.astore_n 2, 1) := by decide +kernel
theorem d_X_apply_25 : decode b_X_apply 25 = .ok (.aload_n 0, 1) := by decide +kernel
theorem d_X_apply_26 : decode b_X_apply 26 = .ok (.aload_n 0, 1) := by decide +kernel
theorem d_X_apply_27 : decode b_X_apply 27 = .ok (.getfield 63, 3) := by decide +kernel
theorem d_X_apply_30 : decode b_X_apply 30 = .ok (.putfield 49, 3) := by decide +kernel
theorem d_X_apply_33 : decode b_X_apply 33 = .ok (.aload_n 0, 1) := by decide +kernel
theorem d_X_apply_34 : decode b_X_apply 34 = .ok (.aload_n 2, 1) := by decide +kernel
theorem d_X_apply_35 : decode b_X_apply 35 = .ok (.putfield 63, 3) := by decide +kernel
theorem d_X_apply_38 : decode b_X_apply 38 = .ok (.aload_n 0, 1) := by decide +kernel
theorem d_X_apply_39 : decode b_X_apply 39 = .ok (.getfield 14, 3) := by decide +kernel
theorem d_X_apply_42 : decode b_X_apply 42 = .ok (.invokevirtual 82, 3) := by decide +kernel
theorem d_X_apply_45 : decode b_X_apply 45 = .ok (.iload_n 1, 1) := by decide +kernel
theorem d_X_apply_46 : decode b_X_apply 46 = .ok (.ireturn, 1) := by decide +kernel
theorem d_X_symbol_0 : decode b_X_symbol 0 = .ok (.aload_n 0, 1) := by decide +kernel
theorem d_X_symbol_1 : decode b_X_symbol 1 = .ok (.getfield 24, 3) := by decide +kernel
theorem d_X_symbol_4 : decode b_X_symbol 4 = .ok (.iload_n 1, 1) := by decide +kernel
theorem d_X_symbol_5 : decode b_X_symbol 5 = .ok (.iload_n 2, 1) := by decide +kernel
theorem d_X_symbol_6 : decode b_X_symbol 6 = .ok (.invokevirtual 89, 3) := by decide +kernel
theorem d_X_symbol_9 : decode b_X_symbol 9 = .ok (.ireturn, 1) := by decide +kernel
theorem d_X_groupFrom_0 : decode b_X_groupFrom 0 = .ok (.iload_n 1, 1) := by decide +kernel
theorem d_X_groupFrom_1 : decode b_X_groupFrom 1 = .ok (.iconst 1, 1) := by decide +kernel
theorem d_X_groupFrom_2 : decode b_X_groupFrom 2 = .ok (.if_icmp .lt 9, 3) := by decide +kernel
theorem d_X_groupFrom_5 : decode b_X_groupFrom 5 = .ok (.iload_n 1, 1) := by decide +kernel
theorem d_X_groupFrom_6 : decode b_X_groupFrom 6 = .ok (.bipush 9, 2) := by decide +kernel
theorem d_X_groupFrom_8 : decode b_X_groupFrom 8 = .ok (.if_icmp .le 5, 3) := by decide +kernel
theorem d_X_groupFrom_11 : decode b_X_groupFrom 11 = .ok (.iconst 0, 1) := by decide +kernel
theorem d_X_groupFrom_12 : decode b_X_groupFrom 12 = .ok (.ireturn, 1) := by decide +kernel
theorem d_X_groupFrom_13 : decode b_X_groupFrom 13 = .ok (.aload_n 0, 1) := by decide +kernel
theorem d_X_groupFrom_14 : decode b_X_groupFrom 14 = .ok (.getfield 24, 3) := by decide +kernel
theorem d_X_groupFrom_17 : decode b_X_groupFrom 17 = .ok (.iload_n 1, 1) := by decide +kernel
theorem d_X_groupFrom_18 : decode b_X_groupFrom 18 = .ok (.putfield 93, 3) := by decide +kernel
theorem d_X_groupFrom_21 : decode b_X_groupFrom 21 = .ok (.iconst 1, 1) := by decide +kernel
theorem d_X_groupFrom_22 : decode b_X_groupFrom 22 = .ok (.ireturn, 1) := by decide +kernel
theorem d_X_write_0 : decode b_X_write 0 = .ok (.iload_n 3, 1) := by decide +kernel
theorem d_X_write_1 : decode b_X_write 1 = .ok (.ifCond .lt 21, 3) := by decide +kernel
theorem d_X_write_4 : decode b_X_write 4 = .ok (.iload_n 3, 1) := by decide +kernel
theorem d_X_write_5 : decode b_X_write 5 = .ok (.bipush 18, 2) := by decide +kernel
theorem d_X_write_7 : decode b_X_write 7 = .ok (.if_icmp .gt 15, 3) := by decide +kernel
theorem d_X_write_10 : decode b_X_write 10 = .ok (.iload 4, 2) := by decide +kernel
theorem d_X_write_12 : decode b_X_write 12 = .ok (.ifCond .lt 10, 3) := by decide +kernel
theorem d_X_write_15 : decode b_X_write 15 = .ok (.iload 4, 2) := by decide +kernel
theorem d_X_write_17 : decode b_X_write 17 = .ok (.bipush 7, 2) := by decide +kernel
theorem d_X_write_19 : decode b_X_write 19 = .ok (.if_icmp .le 5, 3) := by decide +kernel
theorem d_X_write_22 : decode b_X_write 22 = .ok (.iconst (-1), 1) := by decide +kernel
theorem d_X_write_23 : decode b_X_write 23 = .ok (.ireturn, 1) := by decide +kernel
theorem d_X_write_24 : decode b_X_write 24 = .ok (.aload_n 0, 1) := by decide +kernel
theorem d_X_write_25 : decode b_X_write 25 = .ok (.getfield 33, 3) := by decide +kernel
theorem d_X_write_28 : decode b_X_write 28 = .ok (.aload_n 0, 1) := by decide +kernel
theorem d_X_write_29 : decode b_X_write 29 = .ok (.getfield 49, 3) := by decide +kernel
theorem d_X_write_32 : decode b_X_write 32 = .ok (.lload_n 1, 1) := by decide +kernel
theorem d_X_write_33 : decode b_X_write 33 = .ok (.lconst 0, 1) := by decide +kernel
theorem d_X_write_34 : decode b_X_write 34 = .ok (.lcmp, 1) := by decide +kernel
theorem d_X_write_35 : decode b_X_write 35 = .ok (.ifCond .ge 7, 3) := by decide +kernel
theorem d_X_write_38 : decode b_X_write 38 = .ok (.iconst 1, 1) := by decide +kernel
theorem d_X_write_39 : decode b_X_write 39 = .ok (.goto 4, 3) := by decide +kernel
theorem d_X_write_42 : decode b_X_write 42 = .ok (.iconst 0, 1) := by decide +kernel
theorem d_X_write_43 : decode b_X_write 43 = .ok (.lload_n 1, 1) := by decide +kernel
theorem d_X_write_44 : decode b_X_write 44 = .ok (.lconst 0, 1) := by decide +kernel
theorem d_X_write_45 : decode b_X_write 45 = .ok (.lcmp, 1) := by decide +kernel
theorem d_X_write_46 : decode b_X_write 46 = .ok (.ifCond .ge 7, 3) := by decide +kernel
theorem d_X_write_49 : decode b_X_write 49 = .ok (.lload_n 1, 1) := by decide +kernel
theorem d_X_write_50 : decode b_X_write 50 = .ok (.goto 5, 3) := by decide +kernel
theorem d_X_write_53 : decode b_X_write 53 = .ok (.lload_n 1, 1) := by decide +kernel
theorem d_X_write_54 : decode b_X_write 54 = .ok (.lneg, 1) := by decide +kernel
theorem d_X_write_55 : decode b_X_write 55 = .ok (.iload_n 3, 1) := by decide +kernel
theorem d_X_write_56 : decode b_X_write 56 = .ok (.iload 4, 2) := by decide +kernel
theorem d_X_write_58 : decode b_X_write 58 = .ok (.invokevirtual 96, 3) := by decide +kernel
theorem d_X_write_61 : decode b_X_write 61 = .ok (.ifCond .ne 6, 3) := by decide +kernel
theorem d_X_write_64 : decode b_X_write 64 = .ok (.bipush (-2), 2) := by decide +kernel
theorem d_X_write_66 : decode b_X_write 66 = .ok (.ireturn, 1) := by decide +kernel
theorem d_X_write_67 : decode b_X_write 67 = .ok (.aload_n 0, 1) := by decide +kernel
theorem d_X_write_68 : decode b_X_write 68 = .ok (.getfield 18, 3) := by decide +kernel
theorem d_X_write_71 : decode b_X_write 71 = .ok (.aload_n 0, 1) := by decide +kernel
theorem d_X_write_72 : decode b_X_write 72 = .ok (.getfield 33, 3) := by decide +kernel
theorem d_X_write_75 : decode b_X_write 75 = .ok (.getfield 100, 3) := by decide +kernel
theorem d_X_write_78 : decode b_X_write 78 = .ok (.invokevirtual 103, 3) := by decide +kernel
theorem d_X_write_81 : decode b_X_write 81 = .ok (.aload_n 0, 1) := by decide +kernel
theorem d_X_write_82 : decode b_X_write 82 = .ok (.getfield 18, 3) := by decide +kernel
theorem d_X_write_85 : decode b_X_write 85 = .ok (.getfield 107, 3) := by decide +kernel
theorem d_X_write_88 : decode b_X_write 88 = .ok (.ireturn, 1) := by decide +kernel
theorem d_X_type_0 : decode b_X_type 0 = .ok (.iload_n 1, 1) := by decide +kernel
theorem d_X_type_1 : decode b_X_type 1 = .ok (.invokestatic 75, 3) := by decide +kernel
theorem d_X_type_4 : decode b_X_type 4 = .ok (.ifCond .eq 30, 3) := by decide +kernel
theorem d_X_type_7 : decode b_X_type 7 = .ok (.aload_n 0, 1) := by decide +kernel
theorem d_X_type_8 : decode b_X_type 8 = .ok (.getfield 18, 3) := by decide +kernel
theorem d_X_type_11 : decode b_X_type 11 = .ok (.getfield 107, 3) := by decide +kernel
theorem d_X_type_14 : decode b_X_type 14 = .ok (.bipush 100, 2) := by decide +kernel
theorem d_X_type_16 : decode b_X_type 16 = .ok (.if_icmp .ge 18, 3) := by decide +kernel
theorem d_X_type_19 : decode b_X_type 19 = .ok (.aload_n 0, 1) := by decide +kernel
theorem d_X_type_20 : decode b_X_type 20 = .ok (.getfield 18, 3) := by decide +kernel
theorem d_X_type_23 : decode b_X_type 23 = .ok (.iload_n 1, 1) := by decide +kernel
theorem d_X_type_24 : decode b_X_type 24 = .ok (.invokevirtual 79, 3) := by decide +kernel
theorem d_X_type_27 : decode b_X_type 27 = .ok (.ifCond .eq 7, 3) := by decide +kernel
theorem d_X_type_30 : decode b_X_type 30 = .ok (.iconst 1, 1) := by decide +kernel
theorem d_X_type_31 : decode b_X_type 31 = .ok (.goto 4, 3) := by decide +kernel
theorem d_X_type_34 : decode b_X_type 34 = .ok (.iconst 0, 1) := by decide +kernel
theorem d_X_type_35 : decode b_X_type 35 = .ok (.ireturn, 1) := by decide +kernel
theorem d_X_wipe_0 : decode b_X_wipe 0 = .ok (.aload_n 0, 1) := by decide +kernel
theorem d_X_wipe_1 : decode b_X_wipe 1 = .ok (.getfield 18, 3) := by decide +kernel
theorem d_X_wipe_4 : decode b_X_wipe 4 = .ok (.invokevirtual 82, 3) := by decide +kernel
theorem d_X_wipe_7 : decode b_X_wipe 7 = .ok (.return_, 1) := by decide +kernel
theorem d_X_length_0 : decode b_X_length 0 = .ok (.aload_n 0, 1) := by decide +kernel
theorem d_X_length_1 : decode b_X_length 1 = .ok (.getfield 18, 3) := by decide +kernel
theorem d_X_length_4 : decode b_X_length 4 = .ok (.getfield 107, 3) := by decide +kernel
theorem d_X_length_7 : decode b_X_length 7 = .ok (.ireturn, 1) := by decide +kernel
theorem d_X_at_0 : decode b_X_at 0 = .ok (.aload_n 0, 1) := by decide +kernel
theorem d_X_at_1 : decode b_X_at 1 = .ok (.getfield 18, 3) := by decide +kernel
theorem d_X_at_4 : decode b_X_at 4 = .ok (.iload_n 1, 1) := by decide +kernel
theorem d_X_at_5 : decode b_X_at 5 = .ok (.invokevirtual 110, 3) := by decide +kernel
theorem d_X_at_8 : decode b_X_at 8 = .ok (.ifCond .eq 14, 3) := by decide +kernel
theorem d_X_at_11 : decode b_X_at 11 = .ok (.aload_n 0, 1) := by decide +kernel
theorem d_X_at_12 : decode b_X_at 12 = .ok (.getfield 18, 3) := by decide +kernel
theorem d_X_at_15 : decode b_X_at 15 = .ok (.iload_n 1, 1) := by decide +kernel
theorem d_X_at_16 : decode b_X_at 16 = .ok (.invokevirtual 113, 3) := by decide +kernel
theorem d_X_at_19 : decode b_X_at 19 = .ok (.goto 4, 3) := by decide +kernel
theorem d_X_at_22 : decode b_X_at 22 = .ok (.iconst (-1), 1) := by decide +kernel
theorem d_X_at_23 : decode b_X_at 23 = .ok (.ireturn, 1) := by decide +kernel
theorem d_X_read_0 : decode b_X_read 0 = .ok (.aload_n 0, 1) := by decide +kernel
theorem d_X_read_1 : decode b_X_read 1 = .ok (.getfield 42, 3) := by decide +kernel
theorem d_X_read_4 : decode b_X_read 4 = .ok (.aload_n 0, 1) := by decide +kernel
theorem d_X_read_5 : decode b_X_read 5 = .ok (.getfield 49, 3) := by decide +kernel
theorem d_X_read_8 : decode b_X_read 8 = .ok (.aload_n 0, 1) := by decide +kernel
theorem d_X_read_9 : decode b_X_read 9 = .ok (.getfield 18, 3) := by decide +kernel
theorem d_X_read_12 : decode b_X_read 12 = .ok (.iconst 0, 1) := by decide +kernel
theorem d_X_read_13 : decode b_X_read 13 = .ok (.invokevirtual 117, 3) := by decide +kernel
theorem d_X_read_16 : decode b_X_read 16 = .ok (.ifCond .eq 23, 3) := by decide +kernel
theorem d_X_read_19 : decode b_X_read 19 = .ok (.aload_n 0, 1) := by decide +kernel
theorem d_X_read_20 : decode b_X_read 20 = .ok (.aload_n 0, 1) := by decide +kernel
theorem d_X_read_21 : decode b_X_read 21 = .ok (.getfield 42, 3) := by decide +kernel
theorem d_X_read_24 : decode b_X_read 24 = .ok (.getfield 121, 3) := by decide +kernel
theorem d_X_read_27 : decode b_X_read 27 = .ok (.aload_n 0, 1) := by decide +kernel
theorem d_X_read_28 : decode b_X_read 28 = .ok (.getfield 42, 3) := by decide +kernel
theorem d_X_read_31 : decode b_X_read 31 = .ok (.getfield 125, 3) := by decide +kernel
theorem d_X_read_34 : decode b_X_read 34 = .ok (.invokevirtual 128, 3) := by decide +kernel
theorem d_X_read_37 : decode b_X_read 37 = .ok (.iconst 1, 1) := by decide +kernel
theorem d_X_read_38 : decode b_X_read 38 = .ok (.ireturn, 1) := by decide +kernel
theorem d_X_read_39 : decode b_X_read 39 = .ok (.aload_n 0, 1) := by decide +kernel
theorem d_X_read_40 : decode b_X_read 40 = .ok (.getfield 42, 3) := by decide +kernel
theorem d_X_read_43 : decode b_X_read 43 = .ok (.aload_n 0, 1) := by decide +kernel
theorem d_X_read_44 : decode b_X_read 44 = .ok (.getfield 49, 3) := by decide +kernel
theorem d_X_read_47 : decode b_X_read 47 = .ok (.aload_n 0, 1) := by decide +kernel
theorem d_X_read_48 : decode b_X_read 48 = .ok (.getfield 18, 3) := by decide +kernel
theorem d_X_read_51 : decode b_X_read 51 = .ok (.iconst 1, 1) := by decide +kernel
theorem d_X_read_52 : decode b_X_read 52 = .ok (.invokevirtual 117, 3) := by decide +kernel
theorem d_X_read_55 : decode b_X_read 55 = .ok (.ifCond .eq 23, 3) := by decide +kernel
theorem d_X_read_58 : decode b_X_read 58 = .ok (.aload_n 0, 1) := by decide +kernel
theorem d_X_read_59 : decode b_X_read 59 = .ok (.aload_n 0, 1) := by decide +kernel
theorem d_X_read_60 : decode b_X_read 60 = .ok (.getfield 42, 3) := by decide +kernel
theorem d_X_read_63 : decode b_X_read 63 = .ok (.getfield 121, 3) := by decide +kernel
theorem d_X_read_66 : decode b_X_read 66 = .ok (.aload_n 0, 1) := by decide +kernel
theorem d_X_read_67 : decode b_X_read 67 = .ok (.getfield 42, 3) := by decide +kernel
theorem d_X_read_70 : decode b_X_read 70 = .ok (.getfield 125, 3) := by decide +kernel
theorem d_X_read_73 : decode b_X_read 73 = .ok (.invokevirtual 128, 3) := by decide +kernel
theorem d_X_read_76 : decode b_X_read 76 = .ok (.iconst (-1), 1) := by decide +kernel
theorem d_X_read_77 : decode b_X_read 77 = .ok (.ireturn, 1) := by decide +kernel
theorem d_X_read_78 : decode b_X_read 78 = .ok (.aload_n 0, 1) := by decide +kernel
theorem d_X_read_79 : decode b_X_read 79 = .ok (.lconst 0, 1) := by decide +kernel
theorem d_X_read_80 : decode b_X_read 80 = .ok (.iconst 0, 1) := by decide +kernel
theorem d_X_read_81 : decode b_X_read 81 = .ok (.invokevirtual 128, 3) := by decide +kernel
theorem d_X_read_84 : decode b_X_read 84 = .ok (.iconst 0, 1) := by decide +kernel
theorem d_X_read_85 : decode b_X_read 85 = .ok (.ireturn, 1) := by decide +kernel
theorem d_X_size_0 : decode b_X_size 0 = .ok (.aload_n 0, 1) := by decide +kernel
theorem d_X_size_1 : decode b_X_size 1 = .ok (.getfield 132, 3) := by decide +kernel
theorem d_X_size_4 : decode b_X_size 4 = .ok (.lreturn, 1) := by decide +kernel
theorem d_X_scale_0 : decode b_X_scale 0 = .ok (.aload_n 0, 1) := by decide +kernel
theorem d_X_scale_1 : decode b_X_scale 1 = .ok (.getfield 135, 3) := by decide +kernel
theorem d_X_scale_4 : decode b_X_scale 4 = .ok (.ireturn, 1) := by decide +kernel
