theorem d_T_init_0 : decode b_T_init 0 = .ok (.aload_n 0, 1) := by decide +kernel
theorem d_T_init_1 : decode b_T_init 1 = .ok (.invokespecial 1, 3) := by decide +kernel
theorem d_T_init_4 : decode b_T_init 4 = .ok (.aload_n 0, 1) := by decide +kernel
theorem d_T_init_5 : decode b_T_init 5 = .ok (.new 7, 3) := by decide +kernel
theorem d_T_init_8 : decode b_T_init 8 = .ok (.dup, 1) := by decide +kernel
theorem d_T_init_9 : decode b_T_init 9 = .ok (.invokespecial 9, 3) := by decide +kernel
theorem d_T_init_12 : decode b_T_init 12 = .ok (.putfield 10, 3) := by decide +kernel
theorem d_T_init_15 : decode b_T_init 15 = .ok (.aload_n 0, 1) := by decide +kernel
theorem d_T_init_16 : decode b_T_init 16 = .ok (.new 16, 3) := by decide +kernel
theorem d_T_init_19 : decode b_T_init 19 = .ok (.dup, 1) := by decide +kernel
theorem d_T_init_20 : decode b_T_init 20 = .ok (.invokespecial 18, 3) := by decide +kernel
theorem d_T_init_23 : decode b_T_init 23 = .ok (.putfield 19, 3) := by decide +kernel
theorem d_T_init_26 : decode b_T_init 26 = .ok (.aload_n 0, 1) := by decide +kernel
theorem d_T_init_27 : decode b_T_init 27 = .ok (.new 23, 3) := by decide +kernel
theorem d_T_init_30 : decode b_T_init 30 = .ok (.dup, 1) := by decide +kernel
theorem d_T_init_31 : decode b_T_init 31 = .ok (.invokespecial 25, 3) := by decide +kernel
theorem d_T_init_34 : decode b_T_init 34 = .ok (.putfield 26, 3) := by decide +kernel
theorem d_T_init_37 : decode b_T_init 37 = .ok (.aload_n 0, 1) := by decide +kernel
theorem d_T_init_38 : decode b_T_init 38 = .ok (.new 30, 3) := by decide +kernel
theorem d_T_init_41 : decode b_T_init 41 = .ok (.dup, 1) := by decide +kernel
theorem d_T_init_42 : decode b_T_init 42 = .ok (.invokespecial 32, 3) := by decide +kernel
theorem d_T_init_45 : decode b_T_init 45 = .ok (.putfield 33, 3) := by decide +kernel
theorem d_T_init_48 : decode b_T_init 48 = .ok (.aload_n 0, 1) := by decide +kernel
theorem d_T_init_49 : decode b_T_init 49 = .ok (.iconst 2, 1) := by decide +kernel
theorem d_T_init_50 : decode b_T_init 50 = .ok (.anewarray 37, 3) := by decide +kernel
theorem d_T_init_53 : decode b_T_init 53 = .ok (.putfield 39, 3) := by decide +kernel
theorem d_T_init_56 : decode b_T_init 56 = .ok (.aload_n 0, 1) := by decide +kernel
theorem d_T_init_57 : decode b_T_init 57 = .ok (.iconst 2, 1) := by decide +kernel
theorem d_T_init_58 : decode b_T_init 58 = .ok (.anewarray 43, 3) := by decide +kernel
theorem d_T_init_61 : decode b_T_init 61 = .ok (.putfield 45, 3) := by decide +kernel
theorem d_T_init_64 : decode b_T_init 64 = .ok (.iconst 0, 1) := by decide +kernel
theorem d_T_init_65 : decode b_T_init 65 = .ok (.istore_n 1, 1) := by decide +kernel
theorem d_T_init_66 : decode b_T_init 66 = .ok (.iload_n 1, 1) := by decide +kernel
theorem d_T_init_67 : decode b_T_init 67 = .ok (.iconst 2, 1) := by decide +kernel
theorem d_T_init_68 : decode b_T_init 68 = .ok (.if_icmp .ge 36, 3) := by decide +kernel
theorem d_T_init_71 : decode b_T_init 71 = .ok (.aload_n 0, 1) := by decide +kernel
theorem d_T_init_72 : decode b_T_init 72 = .ok (.getfield 39, 3) := by decide +kernel
theorem d_T_init_75 : decode b_T_init 75 = .ok (.iload_n 1, 1) := by decide +kernel
theorem d_T_init_76 : decode b_T_init 76 = .ok (.new 37, 3) := by decide +kernel
theorem d_T_init_79 : decode b_T_init 79 = .ok (.dup, 1) := by decide +kernel
theorem d_T_init_80 : decode b_T_init 80 = .ok (.invokespecial 49, 3) := by decide +kernel
theorem d_T_init_83 : decode b_T_init 83 = .ok (.aastore, 1) := by decide +kernel
theorem d_T_init_84 : decode b_T_init 84 = .ok (.aload_n 0, 1) := by decide +kernel
theorem d_T_init_85 : decode b_T_init 85 = .ok (.getfield 45, 3) := by decide +kernel
theorem d_T_init_88 : decode b_T_init 88 = .ok (.iload_n 1, 1) := by decide +kernel
theorem d_T_init_89 : decode b_T_init 89 = .ok (.new 43, 3) := by decide +kernel
theorem d_T_init_92 : decode b_T_init 92 = .ok (.dup, 1) := by decide +kernel
theorem d_T_init_93 : decode b_T_init 93 = .ok (.iload_n 1, 1) := by decide +kernel
theorem d_T_init_94 : decode b_T_init 94 = .ok (.invokespecial 50, 3) := by decide +kernel
theorem d_T_init_97 : decode b_T_init 97 = .ok (.aastore, 1) := by decide +kernel
theorem d_T_init_98 : decode b_T_init 98 = .ok (.iinc 1 1, 3) := by decide +kernel
theorem d_T_init_101 : decode b_T_init 101 = .ok (.goto (-35), 3) := by decide +kernel
theorem d_T_init_104 : decode b_T_init 104 = .ok (.aload_n 0, 1) := by decide +kernel
theorem d_T_init_105 : decode b_T_init 105 = .ok (.new 53, 3) := by decide +kernel
theorem d_T_init_108 : decode b_T_init 108 = .ok (.dup, 1) := by decide +kernel
theorem d_T_init_109 : decode b_T_init 109 = .ok (.invokespecial 55, 3) := by decide +kernel
theorem d_T_init_112 : decode b_T_init 112 = .ok (.putfield 56, 3) := by decide +kernel
theorem d_T_init_115 : decode b_T_init 115 = .ok (.aload_n 0, 1) := by decide +kernel
theorem d_T_init_116 : decode b_T_init 116 = .ok (.new 60, 3) := by decide +kernel
theorem d_T_init_119 : decode b_T_init 119 = .ok (.dup, 1) := by decide +kernel
theorem d_T_init_120 : decode b_T_init 120 = .ok (.invokespecial 62, 3) := by decide +kernel
theorem d_T_init_123 : decode b_T_init 123 = .ok (.putfield 63, 3) := by decide +kernel
theorem d_T_init_126 : decode b_T_init 126 = .ok (.return_, 1) := by decide +kernel
theorem d_T_tune_0 : decode b_T_tune 0 = .ok (.aload_n 0, 1) := by decide +kernel
theorem d_T_tune_1 : decode b_T_tune 1 = .ok (.getfield 26, 3) := by decide +kernel
theorem d_T_tune_4 : decode b_T_tune 4 = .ok (.invokevirtual 67, 3) := by decide +kernel
theorem d_T_tune_7 : decode b_T_tune 7 = .ok (.ifCond .ne 13, 3) := by decide +kernel
theorem d_T_tune_10 : decode b_T_tune 10 = .ok (.new 71, 3) := by decide +kernel
theorem d_T_tune_13 : decode b_T_tune 13 = .ok (.dup, 1) := by decide +kernel
theorem d_T_tune_14 : decode b_T_tune 14 = .ok (.ldc 73, 2) := by decide +kernel
theorem d_T_tune_16 : decode b_T_tune 16 = .ok (.invokespecial 75, 3) := by decide +kernel
theorem d_T_tune_19 : decode b_T_tune 19 = .ok (.athrow, 1) := by decide +kernel
theorem d_T_tune_20 : decode b_T_tune 20 = .ok (.iload_n 1, 1) := by decide +kernel
theorem d_T_tune_21 : decode b_T_tune 21 = .ok (.iconst 1, 1) := by decide +kernel
theorem d_T_tune_22 : decode b_T_tune 22 = .ok (.iconst 4, 1) := by decide +kernel
theorem d_T_tune_23 : decode b_T_tune 23 = .ok (.invokestatic 78, 3) := by decide +kernel
theorem d_T_tune_26 : decode b_T_tune 26 = .ok (.ifCond .eq 23, 3) := by decide +kernel
theorem d_T_tune_29 : decode b_T_tune 29 = .ok (.iload_n 2, 1) := by decide +kernel
theorem d_T_tune_30 : decode b_T_tune 30 = .ok (.iconst 1, 1) := by decide +kernel
theorem d_T_tune_31 : decode b_T_tune 31 = .ok (.bipush 9, 2) := by decide +kernel
theorem d_T_tune_33 : decode b_T_tune 33 = .ok (.invokestatic 78, 3) := by decide +kernel
theorem d_T_tune_36 : decode b_T_tune 36 = .ok (.ifCond .eq 13, 3) := by decide +kernel
theorem d_T_tune_39 : decode b_T_tune 39 = .ok (.iload_n 3, 1) := by decide +kernel
theorem d_T_tune_40 : decode b_T_tune 40 = .ok (.iconst 1, 1) := by decide +kernel
theorem d_T_tune_41 : decode b_T_tune 41 = .ok (.bipush 20, 2) := by decide +kernel
theorem d_T_tune_43 : decode b_T_tune 43 = .ok (.invokestatic 78, 3) := by decide +kernel
theorem d_T_tune_46 : decode b_T_tune 46 = .ok (.ifCond .ne 13, 3) := by decide +kernel
theorem d_T_tune_49 : decode b_T_tune 49 = .ok (.new 82, 3) := by decide +kernel
theorem d_T_tune_52 : decode b_T_tune 52 = .ok (.dup, 1) := by decide +kernel
theorem d_T_tune_53 : decode b_T_tune 53 = .ok (.ldc 84, 2) := by decide +kernel
theorem d_T_tune_55 : decode b_T_tune 55 = .ok (.invokespecial 86, 3) := by decide +kernel
theorem d_T_tune_58 : decode b_T_tune 58 = .ok (.athrow, 1) := by decide +kernel
theorem d_T_tune_59 : decode b_T_tune 59 = .ok (.aload_n 0, 1) := by decide +kernel
theorem d_T_tune_60 : decode b_T_tune 60 = .ok (.getfield 26, 3) := by decide +kernel
theorem d_T_tune_63 : decode b_T_tune 63 = .ok (.iload_n 1, 1) := by decide +kernel
theorem d_T_tune_64 : decode b_T_tune 64 = .ok (.iload_n 2, 1) := by decide +kernel
theorem d_T_tune_65 : decode b_T_tune 65 = .ok (.iload_n 3, 1) := by decide +kernel
theorem d_T_tune_66 : decode b_T_tune 66 = .ok (.invokevirtual 87, 3) := by decide +kernel
theorem d_T_tune_69 : decode b_T_tune 69 = .ok (.return_, 1) := by decide +kernel
theorem d_T_number_0 : decode b_T_number 0 = .ok (.aload_n 0, 1) := by decide +kernel
theorem d_T_number_1 : decode b_T_number 1 = .ok (.getfield 26, 3) := by decide +kernel
theorem d_T_number_4 : decode b_T_number 4 = .ok (.invokevirtual 67, 3) := by decide +kernel
theorem d_T_number_7 : decode b_T_number 7 = .ok (.ifCond .ne 13, 3) := by decide +kernel
theorem d_T_number_10 : decode b_T_number 10 = .ok (.new 71, 3) := by decide +kernel
theorem d_T_number_13 : decode b_T_number 13 = .ok (.dup, 1) := by decide +kernel
theorem d_T_number_14 : decode b_T_number 14 = .ok (.ldc 73, 2) := by decide +kernel
theorem d_T_number_16 : decode b_T_number 16 = .ok (.invokespecial 75, 3) := by decide +kernel
theorem d_T_number_19 : decode b_T_number 19 = .ok (.athrow, 1) := by decide +kernel
theorem d_T_number_20 : decode b_T_number 20 = .ok (.iload_n 1, 1) := by decide +kernel
theorem d_T_number_21 : decode b_T_number 21 = .ok (.iconst 0, 1) := by decide +kernel
theorem d_T_number_22 : decode b_T_number 22 = .ok (.bipush 15, 2) := by decide +kernel
theorem d_T_number_24 : decode b_T_number 24 = .ok (.invokestatic 78, 3) := by decide +kernel
theorem d_T_number_27 : decode b_T_number 27 = .ok (.ifCond .ne 13, 3) := by decide +kernel
theorem d_T_number_30 : decode b_T_number 30 = .ok (.new 82, 3) := by decide +kernel
theorem d_T_number_33 : decode b_T_number 33 = .ok (.dup, 1) := by decide +kernel
theorem d_T_number_34 : decode b_T_number 34 = .ok (.ldc 91, 2) := by decide +kernel
theorem d_T_number_36 : decode b_T_number 36 = .ok (.invokespecial 86, 3) := by decide +kernel
theorem d_T_number_39 : decode b_T_number 39 = .ok (.athrow, 1) := by decide +kernel
theorem d_T_number_40 : decode b_T_number 40 = .ok (.aload_n 0, 1) := by decide +kernel
theorem d_T_number_41 : decode b_T_number 41 = .ok (.getfield 26, 3) := by decide +kernel
theorem d_T_number_44 : decode b_T_number 44 = .ok (.iload_n 1, 1) := by decide +kernel
theorem d_T_number_45 : decode b_T_number 45 = .ok (.invokevirtual 93, 3) := by decide +kernel
theorem d_T_number_48 : decode b_T_number 48 = .ok (.return_, 1) := by decide +kernel
theorem d_T_begin_0 : decode b_T_begin 0 = .ok (.aload_n 0, 1) := by decide +kernel
theorem d_T_begin_1 : decode b_T_begin 1 = .ok (.getfield 26, 3) := by decide +kernel
theorem d_T_begin_4 : decode b_T_begin 4 = .ok (.invokevirtual 67, 3) := by decide +kernel
theorem d_T_begin_7 : decode b_T_begin 7 = .ok (.ifCond .ne 13, 3) := by decide +kernel
theorem d_T_begin_10 : decode b_T_begin 10 = .ok (.new 71, 3) := by decide +kernel
theorem d_T_begin_13 : decode b_T_begin 13 = .ok (.dup, 1) := by decide +kernel
theorem d_T_begin_14 : decode b_T_begin 14 = .ok (.ldc 73, 2) := by decide +kernel
theorem d_T_begin_16 : decode b_T_begin 16 = .ok (.invokespecial 75, 3) := by decide +kernel
theorem d_T_begin_19 : decode b_T_begin 19 = .ok (.athrow, 1) := by decide +kernel
theorem d_T_begin_20 : decode b_T_begin 20 = .ok (.iload_n 1, 1) := by decide +kernel
theorem d_T_begin_21 : decode b_T_begin 21 = .ok (.iconst 0, 1) := by decide +kernel
theorem d_T_begin_22 : decode b_T_begin 22 = .ok (.iconst 3, 1) := by decide +kernel
theorem d_T_begin_23 : decode b_T_begin 23 = .ok (.invokestatic 78, 3) := by decide +kernel
theorem d_T_begin_26 : decode b_T_begin 26 = .ok (.ifCond .ne 13, 3) := by decide +kernel
theorem d_T_begin_29 : decode b_T_begin 29 = .ok (.new 82, 3) := by decide +kernel
theorem d_T_begin_32 : decode b_T_begin 32 = .ok (.dup, 1) := by decide +kernel
theorem d_T_begin_33 : decode b_T_begin 33 = .ok (.ldc 96, 2) := by decide +kernel
theorem d_T_begin_35 : decode b_T_begin 35 = .ok (.invokespecial 86, 3) := by decide +kernel
theorem d_T_begin_38 : decode b_T_begin 38 = .ok (.athrow, 1) := by decide +kernel
theorem d_T_begin_39 : decode b_T_begin 39 = .ok (.aload_n 0, 1) := by decide +kernel
theorem d_T_begin_40 : decode b_T_begin 40 = .ok (.getfield 26, 3) := by decide +kernel
theorem d_T_begin_43 : decode b_T_begin 43 = .ok (.iload_n 1, 1) := by decide +kernel
theorem d_T_begin_44 : decode b_T_begin 44 = .ok (.invokevirtual 98, 3) := by decide +kernel
theorem d_T_begin_47 : decode b_T_begin 47 = .ok (.return_, 1) := by decide +kernel
theorem d_T_end_0 : decode b_T_end 0 = .ok (.aload_n 0, 1) := by decide +kernel
theorem d_T_end_1 : decode b_T_end 1 = .ok (.getfield 26, 3) := by decide +kernel
theorem d_T_end_4 : decode b_T_end 4 = .ok (.invokevirtual 67, 3) := by decide +kernel
theorem d_T_end_7 : decode b_T_end 7 = .ok (.ifCond .eq 13, 3) := by decide +kernel
theorem d_T_end_10 : decode b_T_end 10 = .ok (.new 71, 3) := by decide +kernel
theorem d_T_end_13 : decode b_T_end 13 = .ok (.dup, 1) := by decide +kernel
theorem d_T_end_14 : decode b_T_end 14 = .ok (.ldc 101, 2) := by decide +kernel
theorem d_T_end_16 : decode b_T_end 16 = .ok (.invokespecial 75, 3) := by decide +kernel
theorem d_T_end_19 : decode b_T_end 19 = .ok (.athrow, 1) := by decide +kernel
theorem d_T_end_20 : decode b_T_end 20 = .ok (.aload_n 0, 1) := by decide +kernel
theorem d_T_end_21 : decode b_T_end 21 = .ok (.getfield 26, 3) := by decide +kernel
theorem d_T_end_24 : decode b_T_end 24 = .ok (.invokevirtual 103, 3) := by decide +kernel
theorem d_T_end_27 : decode b_T_end 27 = .ok (.return_, 1) := by decide +kernel
theorem d_T_command_0 : decode b_T_command 0 = .ok (.aload_n 0, 1) := by decide +kernel
theorem d_T_command_1 : decode b_T_command 1 = .ok (.getfield 26, 3) := by decide +kernel
theorem d_T_command_4 : decode b_T_command 4 = .ok (.invokevirtual 106, 3) := by decide +kernel
theorem d_T_command_7 : decode b_T_command 7 = .ok (.ifCond .ne 13, 3) := by decide +kernel
theorem d_T_command_10 : decode b_T_command 10 = .ok (.new 71, 3) := by decide +kernel
theorem d_T_command_13 : decode b_T_command 13 = .ok (.dup, 1) := by decide +kernel
theorem d_T_command_14 : decode b_T_command 14 = .ok (.ldc 109, 2) := by decide +kernel
theorem d_T_command_16 : decode b_T_command 16 = .ok (.invokespecial 75, 3) := by decide +kernel
theorem d_T_command_19 : decode b_T_command 19 = .ok (.athrow, 1) := by decide +kernel
theorem d_T_command_20 : decode b_T_command 20 = .ok (.aload_n 0, 1) := by decide +kernel
theorem d_T_command_21 : decode b_T_command 21 = .ok (.getfield 26, 3) := by decide +kernel
theorem d_T_command_24 : decode b_T_command 24 = .ok (.iload_n 1, 1) := by decide +kernel
theorem d_T_command_25 : decode b_T_command 25 = .ok (.invokevirtual 111, 3) := by decide +kernel
theorem d_T_command_28 : decode b_T_command 28 = .ok (.ireturn, 1) := by decide +kernel
theorem d_T_tick_0 : decode b_T_tick 0 = .ok (.aload_n 0, 1) := by decide +kernel
theorem d_T_tick_1 : decode b_T_tick 1 = .ok (.getfield 26, 3) := by decide +kernel
theorem d_T_tick_4 : decode b_T_tick 4 = .ok (.aload_n 0, 1) := by decide +kernel
theorem d_T_tick_5 : decode b_T_tick 5 = .ok (.getfield 10, 3) := by decide +kernel
theorem d_T_tick_8 : decode b_T_tick 8 = .ok (.invokevirtual 115, 3) := by decide +kernel
theorem d_T_tick_11 : decode b_T_tick 11 = .ok (.ireturn, 1) := by decide +kernel
theorem d_T_raise_0 : decode b_T_raise 0 = .ok (.aload_n 0, 1) := by decide +kernel
theorem d_T_raise_1 : decode b_T_raise 1 = .ok (.getfield 10, 3) := by decide +kernel
theorem d_T_raise_4 : decode b_T_raise 4 = .ok (.iload_n 1, 1) := by decide +kernel
theorem d_T_raise_5 : decode b_T_raise 5 = .ok (.invokevirtual 119, 3) := by decide +kernel
theorem d_T_raise_8 : decode b_T_raise 8 = .ok (.ifCond .ne 13, 3) := by decide +kernel
theorem d_T_raise_11 : decode b_T_raise 11 = .ok (.new 122, 3) := by decide +kernel
theorem d_T_raise_14 : decode b_T_raise 14 = .ok (.dup, 1) := by decide +kernel
theorem d_T_raise_15 : decode b_T_raise 15 = .ok (.ldc 124, 2) := by decide +kernel
theorem d_T_raise_17 : decode b_T_raise 17 = .ok (.invokespecial 126, 3) := by decide +kernel
theorem d_T_raise_20 : decode b_T_raise 20 = .ok (.athrow, 1) := by decide +kernel
theorem d_T_raise_21 : decode b_T_raise 21 = .ok (.aload_n 0, 1) := by decide +kernel
theorem d_T_raise_22 : decode b_T_raise 22 = .ok (.getfield 33, 3) := by decide +kernel
theorem d_T_raise_25 : decode b_T_raise 25 = .ok (.aload_n 0, 1) := by decide +kernel
theorem d_T_raise_26 : decode b_T_raise 26 = .ok (.getfield 10, 3) := by decide +kernel
theorem d_T_raise_29 : decode b_T_raise 29 = .ok (.iload_n 1, 1) := by decide +kernel
theorem d_T_raise_30 : decode b_T_raise 30 = .ok (.invokevirtual 127, 3) := by decide +kernel
theorem d_T_raise_33 : decode b_T_raise 33 = .ok (.aload_n 0, 1) := by decide +kernel
theorem d_T_raise_34 : decode b_T_raise 34 = .ok (.getfield 10, 3) := by decide +kernel
theorem d_T_raise_37 : decode b_T_raise 37 = .ok (.iload_n 1, 1) := by decide +kernel
theorem d_T_raise_38 : decode b_T_raise 38 = .ok (.invokevirtual 131, 3) := by decide +kernel
theorem d_T_raise_41 : decode b_T_raise 41 = .ok (.aload_n 0, 1) := by decide +kernel
theorem d_T_raise_42 : decode b_T_raise 42 = .ok (.getfield 10, 3) := by decide +kernel
theorem d_T_raise_45 : decode b_T_raise 45 = .ok (.iload_n 1, 1) := by decide +kernel
theorem d_T_raise_46 : decode b_T_raise 46 = .ok (.invokevirtual 134, 3) := by decide +kernel
theorem d_T_raise_49 : decode b_T_raise 49 = .ok (.invokevirtual 137, 3) := by decide +kernel
theorem d_T_raise_52 : decode b_T_raise 52 = .ok (.aload_n 0, 1) := by decide +kernel
theorem d_T_raise_53 : decode b_T_raise 53 = .ok (.getfield 10, 3) := by decide +kernel
theorem d_T_raise_56 : decode b_T_raise 56 = .ok (.iload_n 1, 1) := by decide +kernel
theorem d_T_raise_57 : decode b_T_raise 57 = .ok (.invokevirtual 140, 3) := by decide +kernel
theorem d_T_raise_60 : decode b_T_raise 60 = .ok (.return_, 1) := by decide +kernel
theorem d_T_drop_0 : decode b_T_drop 0 = .ok (.aload_n 0, 1) := by decide +kernel
theorem d_T_drop_1 : decode b_T_drop 1 = .ok (.getfield 10, 3) := by decide +kernel
theorem d_T_drop_4 : decode b_T_drop 4 = .ok (.iload_n 1, 1) := by decide +kernel
theorem d_T_drop_5 : decode b_T_drop 5 = .ok (.invokevirtual 119, 3) := by decide +kernel
theorem d_T_drop_8 : decode b_T_drop 8 = .ok (.ifCond .ne 13, 3) := by decide +kernel
theorem d_T_drop_11 : decode b_T_drop 11 = .ok (.new 122, 3) := by decide +kernel
theorem d_T_drop_14 : decode b_T_drop 14 = .ok (.dup, 1) := by decide +kernel
theorem d_T_drop_15 : decode b_T_drop 15 = .ok (.ldc 124, 2) := by decide +kernel
theorem d_T_drop_17 : decode b_T_drop 17 = .ok (.invokespecial 126, 3) := by decide +kernel
theorem d_T_drop_20 : decode b_T_drop 20 = .ok (.athrow, 1) := by decide +kernel
theorem d_T_drop_21 : decode b_T_drop 21 = .ok (.aload_n 0, 1) := by decide +kernel
theorem d_T_drop_22 : decode b_T_drop 22 = .ok (.getfield 10, 3) := by decide +kernel
theorem d_T_drop_25 : decode b_T_drop 25 = .ok (.iload_n 1, 1) := by decide +kernel
theorem d_T_drop_26 : decode b_T_drop 26 = .ok (.invokevirtual 140, 3) := by decide +kernel
theorem d_T_drop_29 : decode b_T_drop 29 = .ok (.return_, 1) := by decide +kernel
theorem d_T_take_0 : decode b_T_take 0 = .ok (.aload_n 0, 1) := by decide +kernel
theorem d_T_take_1 : decode b_T_take 1 = .ok (.getfield 33, 3) := by decide +kernel
theorem d_T_take_4 : decode b_T_take 4 = .ok (.invokevirtual 143, 3) := by decide +kernel
theorem d_T_take_7 : decode b_T_take 7 = .ok (.ifCond .ne 13, 3) := by decide +kernel
theorem d_T_take_10 : decode b_T_take 10 = .ok (.new 147, 3) := by decide +kernel
theorem d_T_take_13 : decode b_T_take 13 = .ok (.dup, 1) := by decide +kernel
theorem d_T_take_14 : decode b_T_take 14 = .ok (.ldc 149, 2) := by decide +kernel
theorem d_T_take_16 : decode b_T_take 16 = .ok (.invokespecial 151, 3) := by decide +kernel
theorem d_T_take_19 : decode b_T_take 19 = .ok (.athrow, 1) := by decide +kernel
theorem d_T_take_20 : decode b_T_take 20 = .ok (.aload_n 0, 1) := by decide +kernel
theorem d_T_take_21 : decode b_T_take 21 = .ok (.getfield 33, 3) := by decide +kernel
theorem d_T_take_24 : decode b_T_take 24 = .ok (.invokevirtual 152, 3) := by decide +kernel
theorem d_T_take_27 : decode b_T_take 27 = .ok (.ireturn, 1) := by decide +kernel
theorem d_T_report_0 : decode b_T_report 0 = .ok (.aload_n 0, 1) := by decide +kernel
theorem d_T_report_1 : decode b_T_report 1 = .ok (.getfield 19, 3) := by decide +kernel
theorem d_T_report_4 : decode b_T_report 4 = .ok (.aload_n 0, 1) := by decide +kernel
theorem d_T_report_5 : decode b_T_report 5 = .ok (.getfield 33, 3) := by decide +kernel
theorem d_T_report_8 : decode b_T_report 8 = .ok (.invokevirtual 155, 3) := by decide +kernel
theorem d_T_report_11 : decode b_T_report 11 = .ok (.ireturn, 1) := by decide +kernel
theorem d_T_answer_0 : decode b_T_answer 0 = .ok (.aload_n 0, 1) := by decide +kernel
theorem d_T_answer_1 : decode b_T_answer 1 = .ok (.getfield 19, 3) := by decide +kernel
theorem d_T_answer_4 : decode b_T_answer 4 = .ok (.iload_n 1, 1) := by decide +kernel
theorem d_T_answer_5 : decode b_T_answer 5 = .ok (.invokevirtual 159, 3) := by decide +kernel
theorem d_T_answer_8 : decode b_T_answer 8 = .ok (.ifCond .ne 13, 3) := by decide +kernel
theorem d_T_answer_11 : decode b_T_answer 11 = .ok (.new 122, 3) := by decide +kernel
theorem d_T_answer_14 : decode b_T_answer 14 = .ok (.dup, 1) := by decide +kernel
theorem d_T_answer_15 : decode b_T_answer 15 = .ok (.ldc 160, 2) := by decide +kernel
theorem d_T_answer_17 : decode b_T_answer 17 = .ok (.invokespecial 126, 3) := by decide +kernel
theorem d_T_answer_20 : decode b_T_answer 20 = .ok (.athrow, 1) := by decide +kernel
theorem d_T_answer_21 : decode b_T_answer 21 = .ok (.iload_n 2, 1) := by decide +kernel
theorem d_T_answer_22 : decode b_T_answer 22 = .ok (.ifCond .ne 34, 3) := by decide +kernel
theorem d_T_answer_25 : decode b_T_answer 25 = .ok (.aload_n 0, 1) := by decide +kernel
theorem d_T_answer_26 : decode b_T_answer 26 = .ok (.getfield 26, 3) := by decide +kernel
theorem d_T_answer_29 : decode b_T_answer 29 = .ok (.aload_n 0, 1) := by decide +kernel
theorem d_T_answer_30 : decode b_T_answer 30 = .ok (.getfield 19, 3) := by decide +kernel
theorem d_T_answer_33 : decode b_T_answer 33 = .ok (.iload_n 1, 1) := by decide +kernel
theorem d_T_answer_34 : decode b_T_answer 34 = .ok (.invokevirtual 162, 3) := by decide +kernel
theorem d_T_answer_37 : decode b_T_answer 37 = .ok (.aload_n 0, 1) := by decide +kernel
theorem d_T_answer_38 : decode b_T_answer 38 = .ok (.getfield 19, 3) := by decide +kernel
theorem d_T_answer_41 : decode b_T_answer 41 = .ok (.iload_n 1, 1) := by decide +kernel
theorem d_T_answer_42 : decode b_T_answer 42 = .ok (.invokevirtual 165, 3) := by decide +kernel
theorem d_T_answer_45 : decode b_T_answer 45 = .ok (.aload_n 0, 1) := by decide +kernel
theorem d_T_answer_46 : decode b_T_answer 46 = .ok (.getfield 19, 3) := by decide +kernel
theorem d_T_answer_49 : decode b_T_answer 49 = .ok (.iload_n 1, 1) := by decide +kernel
theorem d_T_answer_50 : decode b_T_answer 50 = .ok (.invokevirtual 168, 3) := by decide +kernel
theorem d_T_answer_53 : decode b_T_answer 53 = .ok (.invokevirtual 171, 3) := by decide +kernel
theorem d_T_answer_56 : decode b_T_answer 56 = .ok (.aload_n 0, 1) := by decide +kernel
theorem d_T_answer_57 : decode b_T_answer 57 = .ok (.getfield 19, 3) := by decide +kernel
theorem d_T_answer_60 : decode b_T_answer 60 = .ok (.iload_n 1, 1) := by decide +kernel
theorem d_T_answer_61 : decode b_T_answer 61 = .ok (.invokevirtual 175, 3) := by decide +kernel
theorem d_T_answer_64 : decode b_T_answer 64 = .ok (.return_, 1) := by decide +kernel
theorem d_T_packet_0 : decode b_T_packet 0 = .ok (.iload_n 1, 1) := by decide +kernel
theorem d_T_packet_1 : decode b_T_packet 1 = .ok (.invokestatic 176, 3) := by decide +kernel
theorem d_T_packet_4 : decode b_T_packet 4 = .ok (.ifCond .eq 23, 3) := by decide +kernel
theorem d_T_packet_7 : decode b_T_packet 7 = .ok (.iload_n 2, 1) := by decide +kernel
theorem d_T_packet_8 : decode b_T_packet 8 = .ok (.iconst 1, 1) := by decide +kernel
theorem d_T_packet_9 : decode b_T_packet 9 = .ok (.bipush 99, 2) := by decide +kernel
theorem d_T_packet_11 : decode b_T_packet 11 = .ok (.invokestatic 78, 3) := by decide +kernel
theorem d_T_packet_14 : decode b_T_packet 14 = .ok (.ifCond .eq 13, 3) := by decide +kernel
theorem d_T_packet_17 : decode b_T_packet 17 = .ok (.iload_n 3, 1) := by decide +kernel
theorem d_T_packet_18 : decode b_T_packet 18 = .ok (.iconst 0, 1) := by decide +kernel
theorem d_T_packet_19 : decode b_T_packet 19 = .ok (.bipush 20, 2) := by decide +kernel
theorem d_T_packet_21 : decode b_T_packet 21 = .ok (.invokestatic 78, 3) := by decide +kernel
theorem d_T_packet_24 : decode b_T_packet 24 = .ok (.ifCond .ne 13, 3) := by decide +kernel
theorem d_T_packet_27 : decode b_T_packet 27 = .ok (.new 82, 3) := by decide +kernel
theorem d_T_packet_30 : decode b_T_packet 30 = .ok (.dup, 1) := by decide +kernel
theorem d_T_packet_31 : decode b_T_packet 31 = .ok (.ldc 179, 2) := by decide +kernel
theorem d_T_packet_33 : decode b_T_packet 33 = .ok (.invokespecial 86, 3) := by decide +kernel
theorem d_T_packet_36 : decode b_T_packet 36 = .ok (.athrow, 1) := by decide +kernel
theorem d_T_packet_37 : decode b_T_packet 37 = .ok (.aload_n 0, 1) := by decide +kernel
theorem d_T_packet_38 : decode b_T_packet 38 = .ok (.getfield 39, 3) := by decide +kernel
theorem d_T_packet_41 : decode b_T_packet 41 = .ok (.iload_n 1, 1) := by decide +kernel
theorem d_T_packet_42 : decode b_T_packet 42 = .ok (.aaload, 1) := by decide +kernel
theorem d_T_packet_43 : decode b_T_packet 43 = .ok (.iload_n 2, 1) := by decide +kernel
theorem d_T_packet_44 : decode b_T_packet 44 = .ok (.iload_n 3, 1) := by decide +kernel
theorem d_T_packet_45 : decode b_T_packet 45 = .ok (.invokevirtual 181, 3) := by decide +kernel
theorem d_T_packet_48 : decode b_T_packet 48 = .ok (.ireturn, 1) := by decide +kernel
theorem d_T_frame_0 : decode b_T_frame 0 = .ok (.iload_n 1, 1) := by decide +kernel
theorem d_T_frame_1 : decode b_T_frame 1 = .ok (.invokestatic 176, 3) := by decide +kernel
theorem d_T_frame_4 : decode b_T_frame 4 = .ok (.ifCond .ne 13, 3) := by decide +kernel
theorem d_T_frame_7 : decode b_T_frame 7 = .ok (.new 82, 3) := by decide +kernel
theorem d_T_frame_10 : decode b_T_frame 10 = .ok (.dup, 1) := by decide +kernel
theorem d_T_frame_11 : decode b_T_frame 11 = .ok (.ldc 185, 2) := by decide +kernel
theorem d_T_frame_13 : decode b_T_frame 13 = .ok (.invokespecial 86, 3) := by decide +kernel
theorem d_T_frame_16 : decode b_T_frame 16 = .ok (.athrow, 1) := by decide +kernel
theorem d_T_frame_17 : decode b_T_frame 17 = .ok (.aload_n 0, 1) := by decide +kernel
theorem d_T_frame_18 : decode b_T_frame 18 = .ok (.getfield 39, 3) := by decide +kernel
theorem d_T_frame_21 : decode b_T_frame 21 = .ok (.iload_n 1, 1) := by decide +kernel
theorem d_T_frame_22 : decode b_T_frame 22 = .ok (.aaload, 1) := by decide +kernel
theorem d_T_frame_23 : decode b_T_frame 23 = .ok (.aload_n 0, 1) := by decide +kernel
theorem d_T_frame_24 : decode b_T_frame 24 = .ok (.getfield 56, 3) := by decide +kernel
theorem d_T_frame_27 : decode b_T_frame 27 = .ok (.invokevirtual 187, 3) := by decide +kernel
theorem d_T_frame_30 : decode b_T_frame 30 = .ok (.iload_n 2, 1) := by decide +kernel
theorem d_T_frame_31 : decode b_T_frame 31 = .ok (.ifCond .ne 20, 3) := by decide +kernel
theorem d_T_frame_34 : decode b_T_frame 34 = .ok (.aload_n 0, 1) := by decide +kernel
theorem d_T_frame_35 : decode b_T_frame 35 = .ok (.getfield 45, 3) := by decide +kernel
theorem d_T_frame_38 : decode b_T_frame 38 = .ok (.iload_n 1, 1) := by decide +kernel
theorem d_T_frame_39 : decode b_T_frame 39 = .ok (.aaload, 1) := by decide +kernel
theorem d_T_frame_40 : decode b_T_frame 40 = .ok (.aload_n 0, 1) := by decide +kernel
theorem d_T_frame_41 : decode b_T_frame 41 = .ok (.getfield 56, 3) := by decide +kernel
theorem d_T_frame_44 : decode b_T_frame 44 = .ok (.aload_n 0, 1) := by decide +kernel
theorem d_T_frame_45 : decode b_T_frame 45 = .ok (.getfield 63, 3) := by decide +kernel
theorem d_T_frame_48 : decode b_T_frame 48 = .ok (.invokevirtual 191, 3) := by decide +kernel
theorem d_T_frame_51 : decode b_T_frame 51 = .ok (.aload_n 0, 1) := by decide +kernel
theorem d_T_frame_52 : decode b_T_frame 52 = .ok (.getfield 56, 3) := by decide +kernel
theorem d_T_frame_55 : decode b_T_frame 55 = .ok (.getfield 194, 3) := by decide +kernel
theorem d_T_frame_58 : decode b_T_frame 58 = .ok (.ireturn, 1) := by decide +kernel
theorem d_T_ground_0 : decode b_T_ground 0 = .ok (.iload_n 1, 1) := by decide +kernel
theorem d_T_ground_1 : decode b_T_ground 1 = .ok (.lookupswitch 43 #[(9, 27), (10, 35)], 27) := by decide +kernel
theorem d_T_ground_28 : decode b_T_ground 28 = .ok (.aload_n 0, 1) := by decide +kernel
theorem d_T_ground_29 : decode b_T_ground 29 = .ok (.getfield 10, 3) := by decide +kernel
theorem d_T_ground_32 : decode b_T_ground 32 = .ok (.invokevirtual 198, 3) := by decide +kernel
theorem d_T_ground_35 : decode b_T_ground 35 = .ok (.ireturn, 1) := by decide +kernel
theorem d_T_ground_36 : decode b_T_ground 36 = .ok (.aload_n 0, 1) := by decide +kernel
theorem d_T_ground_37 : decode b_T_ground 37 = .ok (.getfield 19, 3) := by decide +kernel
theorem d_T_ground_40 : decode b_T_ground 40 = .ok (.invokevirtual 201, 3) := by decide +kernel
theorem d_T_ground_43 : decode b_T_ground 43 = .ok (.ireturn, 1) := by decide +kernel
theorem d_T_ground_44 : decode b_T_ground 44 = .ok (.iload_n 1, 1) := by decide +kernel
theorem d_T_ground_45 : decode b_T_ground 45 = .ok (.iconst 0, 1) := by decide +kernel
theorem d_T_ground_46 : decode b_T_ground 46 = .ok (.bipush 8, 2) := by decide +kernel
theorem d_T_ground_48 : decode b_T_ground 48 = .ok (.invokestatic 78, 3) := by decide +kernel
theorem d_T_ground_51 : decode b_T_ground 51 = .ok (.ifCond .ne 13, 3) := by decide +kernel
theorem d_T_ground_54 : decode b_T_ground 54 = .ok (.new 122, 3) := by decide +kernel
theorem d_T_ground_57 : decode b_T_ground 57 = .ok (.dup, 1) := by decide +kernel
theorem d_T_ground_58 : decode b_T_ground 58 = .ok (.ldc 202, 2) := by decide +kernel
theorem d_T_ground_60 : decode b_T_ground 60 = .ok (.invokespecial 126, 3) := by decide +kernel
theorem d_T_ground_63 : decode b_T_ground 63 = .ok (.athrow, 1) := by decide +kernel
theorem d_T_ground_64 : decode b_T_ground 64 = .ok (.aload_n 0, 1) := by decide +kernel
theorem d_T_ground_65 : decode b_T_ground 65 = .ok (.getfield 26, 3) := by decide +kernel
theorem d_T_ground_68 : decode b_T_ground 68 = .ok (.iload_n 1, 1) := by decide +kernel
theorem d_T_ground_69 : decode b_T_ground 69 = .ok (.invokevirtual 204, 3) := by decide +kernel
theorem d_T_ground_72 : decode b_T_ground 72 = .ok (.ireturn, 1) := by decide +kernel
theorem d_T_craft_0 : decode b_T_craft 0 = .ok (.iload_n 1, 1) := by decide +kernel
theorem d_T_craft_1 : decode b_T_craft 1 = .ok (.lookupswitch 47 #[(4, 27), (5, 37)], 27) := by decide +kernel
theorem d_T_craft_28 : decode b_T_craft 28 = .ok (.aload_n 0, 1) := by decide +kernel
theorem d_T_craft_29 : decode b_T_craft 29 = .ok (.getfield 39, 3) := by decide +kernel
theorem d_T_craft_32 : decode b_T_craft 32 = .ok (.iconst 0, 1) := by decide +kernel
theorem d_T_craft_33 : decode b_T_craft 33 = .ok (.aaload, 1) := by decide +kernel
theorem d_T_craft_34 : decode b_T_craft 34 = .ok (.invokevirtual 207, 3) := by decide +kernel
theorem d_T_craft_37 : decode b_T_craft 37 = .ok (.ireturn, 1) := by decide +kernel
theorem d_T_craft_38 : decode b_T_craft 38 = .ok (.aload_n 0, 1) := by decide +kernel
theorem d_T_craft_39 : decode b_T_craft 39 = .ok (.getfield 39, 3) := by decide +kernel
theorem d_T_craft_42 : decode b_T_craft 42 = .ok (.iconst 1, 1) := by decide +kernel
theorem d_T_craft_43 : decode b_T_craft 43 = .ok (.aaload, 1) := by decide +kernel
theorem d_T_craft_44 : decode b_T_craft 44 = .ok (.invokevirtual 207, 3) := by decide +kernel
theorem d_T_craft_47 : decode b_T_craft 47 = .ok (.ireturn, 1) := by decide +kernel
theorem d_T_craft_48 : decode b_T_craft 48 = .ok (.iload_n 1, 1) := by decide +kernel
theorem d_T_craft_49 : decode b_T_craft 49 = .ok (.iconst 0, 1) := by decide +kernel
theorem d_T_craft_50 : decode b_T_craft 50 = .ok (.iconst 3, 1) := by decide +kernel
theorem d_T_craft_51 : decode b_T_craft 51 = .ok (.invokestatic 78, 3) := by decide +kernel
theorem d_T_craft_54 : decode b_T_craft 54 = .ok (.ifCond .ne 13, 3) := by decide +kernel
theorem d_T_craft_57 : decode b_T_craft 57 = .ok (.new 122, 3) := by decide +kernel
theorem d_T_craft_60 : decode b_T_craft 60 = .ok (.dup, 1) := by decide +kernel
theorem d_T_craft_61 : decode b_T_craft 61 = .ok (.ldc 202, 2) := by decide +kernel
theorem d_T_craft_63 : decode b_T_craft 63 = .ok (.invokespecial 126, 3) := by decide +kernel
theorem d_T_craft_66 : decode b_T_craft 66 = .ok (.athrow, 1) := by decide +kernel
theorem d_T_craft_67 : decode b_T_craft 67 = .ok (.aload_n 0, 1) := by decide +kernel
theorem d_T_craft_68 : decode b_T_craft 68 = .ok (.getfield 33, 3) := by decide +kernel
theorem d_T_craft_71 : decode b_T_craft 71 = .ok (.iload_n 1, 1) := by decide +kernel
theorem d_T_craft_72 : decode b_T_craft 72 = .ok (.invokevirtual 208, 3) := by decide +kernel
theorem d_T_craft_75 : decode b_T_craft 75 = .ok (.ireturn, 1) := by decide +kernel
theorem d_T_flight_0 : decode b_T_flight 0 = .ok (.aload_n 0, 1) := by decide +kernel
theorem d_T_flight_1 : decode b_T_flight 1 = .ok (.getfield 10, 3) := by decide +kernel
theorem d_T_flight_4 : decode b_T_flight 4 = .ok (.iload_n 1, 1) := by decide +kernel
theorem d_T_flight_5 : decode b_T_flight 5 = .ok (.invokevirtual 119, 3) := by decide +kernel
theorem d_T_flight_8 : decode b_T_flight 8 = .ok (.ifCond .ne 13, 3) := by decide +kernel
theorem d_T_flight_11 : decode b_T_flight 11 = .ok (.new 122, 3) := by decide +kernel
theorem d_T_flight_14 : decode b_T_flight 14 = .ok (.dup, 1) := by decide +kernel
theorem d_T_flight_15 : decode b_T_flight 15 = .ok (.ldc 124, 2) := by decide +kernel
theorem d_T_flight_17 : decode b_T_flight 17 = .ok (.invokespecial 126, 3) := by decide +kernel
theorem d_T_flight_20 : decode b_T_flight 20 = .ok (.athrow, 1) := by decide +kernel
theorem d_T_flight_21 : decode b_T_flight 21 = .ok (.aload_n 0, 1) := by decide +kernel
theorem d_T_flight_22 : decode b_T_flight 22 = .ok (.getfield 10, 3) := by decide +kernel
theorem d_T_flight_25 : decode b_T_flight 25 = .ok (.iload_n 1, 1) := by decide +kernel
theorem d_T_flight_26 : decode b_T_flight 26 = .ok (.iload_n 2, 1) := by decide +kernel
theorem d_T_flight_27 : decode b_T_flight 27 = .ok (.invokevirtual 209, 3) := by decide +kernel
theorem d_T_flight_30 : decode b_T_flight 30 = .ok (.ireturn, 1) := by decide +kernel
theorem d_T_packets_0 : decode b_T_packets 0 = .ok (.aload_n 0, 1) := by decide +kernel
theorem d_T_packets_1 : decode b_T_packets 1 = .ok (.getfield 63, 3) := by decide +kernel
theorem d_T_packets_4 : decode b_T_packets 4 = .ok (.invokevirtual 212, 3) := by decide +kernel
theorem d_T_packets_7 : decode b_T_packets 7 = .ok (.ireturn, 1) := by decide +kernel
theorem d_T_got_0 : decode b_T_got 0 = .ok (.aload_n 0, 1) := by decide +kernel
theorem d_T_got_1 : decode b_T_got 1 = .ok (.getfield 63, 3) := by decide +kernel
theorem d_T_got_4 : decode b_T_got 4 = .ok (.iload_n 1, 1) := by decide +kernel
theorem d_T_got_5 : decode b_T_got 5 = .ok (.invokevirtual 213, 3) := by decide +kernel
theorem d_T_got_8 : decode b_T_got 8 = .ok (.ifCond .ne 13, 3) := by decide +kernel
theorem d_T_got_11 : decode b_T_got 11 = .ok (.new 147, 3) := by decide +kernel
theorem d_T_got_14 : decode b_T_got 14 = .ok (.dup, 1) := by decide +kernel
theorem d_T_got_15 : decode b_T_got 15 = .ok (.ldc 214, 2) := by decide +kernel
theorem d_T_got_17 : decode b_T_got 17 = .ok (.invokespecial 151, 3) := by decide +kernel
theorem d_T_got_20 : decode b_T_got 20 = .ok (.athrow, 1) := by decide +kernel
theorem d_T_got_21 : decode b_T_got 21 = .ok (.aload_n 0, 1) := by decide +kernel
theorem d_T_got_22 : decode b_T_got 22 = .ok (.getfield 63, 3) := by decide +kernel
theorem d_T_got_25 : decode b_T_got 25 = .ok (.iload_n 1, 1) := by decide +kernel
theorem d_T_got_26 : decode b_T_got 26 = .ok (.iload_n 2, 1) := by decide +kernel
theorem d_T_got_27 : decode b_T_got 27 = .ok (.invokevirtual 216, 3) := by decide +kernel
theorem d_T_got_30 : decode b_T_got 30 = .ok (.ireturn, 1) := by decide +kernel
theorem d_T_isWithin_0 : decode b_T_isWithin 0 = .ok (.iload_n 0, 1) := by decide +kernel
theorem d_T_isWithin_1 : decode b_T_isWithin 1 = .ok (.iload_n 1, 1) := by decide +kernel
theorem d_T_isWithin_2 : decode b_T_isWithin 2 = .ok (.if_icmp .lt 12, 3) := by decide +kernel
theorem d_T_isWithin_5 : decode b_T_isWithin 5 = .ok (.iload_n 0, 1) := by decide +kernel
theorem d_T_isWithin_6 : decode b_T_isWithin 6 = .ok (.iload_n 2, 1) := by decide +kernel
theorem d_T_isWithin_7 : decode b_T_isWithin 7 = .ok (.if_icmp .gt 7, 3) := by decide +kernel
theorem d_T_isWithin_10 : decode b_T_isWithin 10 = .ok (.iconst 1, 1) := by decide +kernel
theorem d_T_isWithin_11 : decode b_T_isWithin 11 = .ok (.goto 4, 3) := by decide +kernel
theorem d_T_isWithin_14 : decode b_T_isWithin 14 = .ok (.iconst 0, 1) := by decide +kernel
theorem d_T_isWithin_15 : decode b_T_isWithin 15 = .ok (.ireturn, 1) := by decide +kernel
theorem d_T_isChannel_0 : decode b_T_isChannel 0 = .ok (.iload_n 0, 1) := by decide +kernel
theorem d_T_isChannel_1 : decode b_T_isChannel 1 = .ok (.iconst 0, 1) := by decide +kernel
theorem d_T_isChannel_2 : decode b_T_isChannel 2 = .ok (.iconst 1, 1) := by decide +kernel
theorem d_T_isChannel_3 : decode b_T_isChannel 3 = .ok (.invokestatic 78, 3) := by decide +kernel
theorem d_T_isChannel_6 : decode b_T_isChannel 6 = .ok (.ireturn, 1) := by decide +kernel
theorem d_T_following_0 : decode b_T_following 0 = .ok (.iload_n 0, 1) := by decide +kernel
theorem d_T_following_1 : decode b_T_following 1 = .ok (.iconst 1, 1) := by decide +kernel
theorem d_T_following_2 : decode b_T_following 2 = .ok (.iadd, 1) := by decide +kernel
theorem d_T_following_3 : decode b_T_following 3 = .ok (.bipush 16, 2) := by decide +kernel
theorem d_T_following_5 : decode b_T_following 5 = .ok (.irem, 1) := by decide +kernel
theorem d_T_following_6 : decode b_T_following 6 = .ok (.ireturn, 1) := by decide +kernel
theorem d_T_distance_0 : decode b_T_distance 0 = .ok (.iload_n 1, 1) := by decide +kernel
theorem d_T_distance_1 : decode b_T_distance 1 = .ok (.iload_n 0, 1) := by decide +kernel
theorem d_T_distance_2 : decode b_T_distance 2 = .ok (.isub, 1) := by decide +kernel
theorem d_T_distance_3 : decode b_T_distance 3 = .ok (.bipush 16, 2) := by decide +kernel
theorem d_T_distance_5 : decode b_T_distance 5 = .ok (.invokestatic 217, 3) := by decide +kernel
theorem d_T_distance_8 : decode b_T_distance 8 = .ok (.ireturn, 1) := by decide +kernel
