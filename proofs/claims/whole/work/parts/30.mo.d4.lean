theorem d_M_readAs_62 : decode b_M_readAs 62 = .ok (.iconst 1, 1) := by decide +kernel
theorem d_M_readAs_63 : decode b_M_readAs 63 = .ok (.goto 4, 3) := by decide +kernel
theorem d_M_readAs_66 : decode b_M_readAs 66 = .ok (.iconst 0, 1) := by decide +kernel
theorem d_M_readAs_67 : decode b_M_readAs 67 = .ok (.ireturn, 1) := by decide +kernel
theorem d_M_read_0 : decode b_M_read 0 = .ok (.aload_n 0, 1) := by decide +kernel
theorem d_M_read_1 : decode b_M_read 1 = .ok (.iconst 0, 1) := by decide +kernel
theorem d_M_read_2 : decode b_M_read 2 = .ok (.invokevirtual 193, 3) := by decide +kernel
theorem d_M_read_5 : decode b_M_read 5 = .ok (.ifCond .eq 7, 3) := by decide +kernel
theorem d_M_read_8 : decode b_M_read 8 = .ok (.iconst 1, 1) := by decide +kernel
theorem d_M_read_9 : decode b_M_read 9 = .ok (.goto 16, 3) := by decide +kernel
theorem d_M_read_12 : decode b_M_read 12 = .ok (.aload_n 0, 1) := by decide +kernel
theorem d_M_read_13 : decode b_M_read 13 = .ok (.iconst 1, 1) := by decide +kernel
theorem d_M_read_14 : decode b_M_read 14 = .ok (.invokevirtual 193, 3) := by decide +kernel
theorem d_M_read_17 : decode b_M_read 17 = .ok (.ifCond .eq 7, 3) := by decide +kernel
theorem d_M_read_20 : decode b_M_read 20 = .ok (.iconst (-1), 1) := by decide +kernel
theorem d_M_read_21 : decode b_M_read 21 = .ok (.goto 4, 3) := by decide +kernel
theorem d_M_read_24 : decode b_M_read 24 = .ok (.iconst 0, 1) := by decide +kernel
theorem d_M_read_25 : decode b_M_read 25 = .ok (.istore_n 1, 1) := by decide +kernel
theorem d_M_read_26 : decode b_M_read 26 = .ok (.aload_n 0, 1) := by decide +kernel
theorem d_M_read_27 : decode b_M_read 27 = .ok (.iload_n 1, 1) := by decide +kernel
theorem d_M_read_28 : decode b_M_read 28 = .ok (.ifCond .ne 7, 3) := by decide +kernel
theorem d_M_read_31 : decode b_M_read 31 = .ok (.lconst 0, 1) := by decide +kernel
theorem d_M_read_32 : decode b_M_read 32 = .ok (.goto 7, 3) := by decide +kernel
theorem d_M_read_35 : decode b_M_read 35 = .ok (.aload_n 0, 1) := by decide +kernel
theorem d_M_read_36 : decode b_M_read 36 = .ok (.getfield 167, 3) := by decide +kernel
theorem d_M_read_39 : decode b_M_read 39 = .ok (.putfield 196, 3) := by decide +kernel
theorem d_M_read_42 : decode b_M_read 42 = .ok (.aload_n 0, 1) := by decide +kernel
theorem d_M_read_43 : decode b_M_read 43 = .ok (.iload_n 1, 1) := by decide +kernel
theorem d_M_read_44 : decode b_M_read 44 = .ok (.ifCond .ne 7, 3) := by decide +kernel
theorem d_M_read_47 : decode b_M_read 47 = .ok (.iconst 0, 1) := by decide +kernel
theorem d_M_read_48 : decode b_M_read 48 = .ok (.goto 7, 3) := by decide +kernel
theorem d_M_read_51 : decode b_M_read 51 = .ok (.aload_n 0, 1) := by decide +kernel
theorem d_M_read_52 : decode b_M_read 52 = .ok (.getfield 174, 3) := by decide +kernel
theorem d_M_read_55 : decode b_M_read 55 = .ok (.putfield 199, 3) := by decide +kernel
theorem d_M_read_58 : decode b_M_read 58 = .ok (.iload_n 1, 1) := by decide +kernel
theorem d_M_read_59 : decode b_M_read 59 = .ok (.ireturn, 1) := by decide +kernel
theorem d_M_size_0 : decode b_M_size 0 = .ok (.aload_n 0, 1) := by decide +kernel
theorem d_M_size_1 : decode b_M_size 1 = .ok (.getfield 196, 3) := by decide +kernel
theorem d_M_size_4 : decode b_M_size 4 = .ok (.lreturn, 1) := by decide +kernel
theorem d_M_scale_0 : decode b_M_scale 0 = .ok (.aload_n 0, 1) := by decide +kernel
theorem d_M_scale_1 : decode b_M_scale 1 = .ok (.getfield 199, 3) := by decide +kernel
theorem d_M_scale_4 : decode b_M_scale 4 = .ok (.ireturn, 1) := by decide +kernel
