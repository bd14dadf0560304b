theorem d_As_init_0 : decode b_As_init 0 = .ok (.aload_n 0, 1) := by decide +kernel
theorem d_As_init_1 : decode b_As_init 1 = .ok (.invokespecial 3, 3) := by decide +kernel
theorem d_As_init_4 : decode b_As_init 4 = .ok (.aload_n 0, 1) := by decide +kernel
theorem d_As_init_5 : decode b_As_init 5 = .ok (.iconst 1, 1) := by decide +kernel
theorem d_As_init_6 : decode b_As_init 6 = .ok (.putfield 9, 3) := by decide +kernel
theorem d_As_init_9 : decode b_As_init 9 = .ok (.aload_n 0, 1) := by decide +kernel
theorem d_As_init_10 : decode b_As_init 10 = .ok (.iload_n 1, 1) := by decide +kernel
theorem d_As_init_11 : decode b_As_init 11 = .ok (.putfield 15, 3) := by decide +kernel
theorem d_As_init_14 : decode b_As_init 14 = .ok (.return_, 1) := by decide +kernel
theorem d_As_receive_0 : decode b_As_receive 0 = .ok (.iconst 0, 1) := by decide +kernel
theorem d_As_receive_1 : decode b_As_receive 1 = .ok (.istore_n 3, 1) := by decide +kernel
theorem d_As_receive_2 : decode b_As_receive 2 = .ok (.aload_n 0, 1) := by decide +kernel
theorem d_As_receive_3 : decode b_As_receive 3 = .ok (.getfield 9, 3) := by decide +kernel
theorem d_As_receive_6 : decode b_As_receive 6 = .ok (.ifCond .eq 14, 3) := by decide +kernel
theorem d_As_receive_9 : decode b_As_receive 9 = .ok (.aload_n 1, 1) := by decide +kernel
theorem d_As_receive_10 : decode b_As_receive 10 = .ok (.getfield 19, 3) := by decide +kernel
theorem d_As_receive_13 : decode b_As_receive 13 = .ok (.aload_n 0, 1) := by decide +kernel
theorem d_As_receive_14 : decode b_As_receive 14 = .ok (.getfield 24, 3) := by decide +kernel
theorem d_As_receive_17 : decode b_As_receive 17 = .ok (.if_icmp .eq 28, 3) := by decide +kernel
theorem d_As_receive_20 : decode b_As_receive 20 = .ok (.aload_n 0, 1) := by decide +kernel
theorem d_As_receive_21 : decode b_As_receive 21 = .ok (.iconst 0, 1) := by decide +kernel
theorem d_As_receive_22 : decode b_As_receive 22 = .ok (.putfield 27, 3) := by decide +kernel
theorem d_As_receive_25 : decode b_As_receive 25 = .ok (.aload_n 1, 1) := by decide +kernel
theorem d_As_receive_26 : decode b_As_receive 26 = .ok (.getfield 30, 3) := by decide +kernel
theorem d_As_receive_29 : decode b_As_receive 29 = .ok (.istore_n 3, 1) := by decide +kernel
theorem d_As_receive_30 : decode b_As_receive 30 = .ok (.aload_n 0, 1) := by decide +kernel
theorem d_As_receive_31 : decode b_As_receive 31 = .ok (.iload_n 3, 1) := by decide +kernel
theorem d_As_receive_32 : decode b_As_receive 32 = .ok (.bipush 6, 2) := by decide +kernel
theorem d_As_receive_34 : decode b_As_receive 34 = .ok (.if_icmp .ge 7, 3) := by decide +kernel
theorem d_As_receive_37 : decode b_As_receive 37 = .ok (.iconst 1, 1) := by decide +kernel
theorem d_As_receive_38 : decode b_As_receive 38 = .ok (.goto 4, 3) := by decide +kernel
theorem d_As_receive_41 : decode b_As_receive 41 = .ok (.iconst 0, 1) := by decide +kernel
theorem d_As_receive_42 : decode b_As_receive 42 = .ok (.putfield 9, 3) := by decide +kernel
theorem d_As_receive_45 : decode b_As_receive 45 = .ok (.iload_n 3, 1) := by decide +kernel
theorem d_As_receive_46 : decode b_As_receive 46 = .ok (.istore 4, 2) := by decide +kernel
theorem d_As_receive_48 : decode b_As_receive 48 = .ok (.iload 4, 2) := by decide +kernel
theorem d_As_receive_50 : decode b_As_receive 50 = .ok (.bipush 6, 2) := by decide +kernel
theorem d_As_receive_52 : decode b_As_receive 52 = .ok (.if_icmp .ge 21, 3) := by decide +kernel
theorem d_As_receive_55 : decode b_As_receive 55 = .ok (.aload_n 0, 1) := by decide +kernel
theorem d_As_receive_56 : decode b_As_receive 56 = .ok (.aload_n 1, 1) := by decide +kernel
theorem d_As_receive_57 : decode b_As_receive 57 = .ok (.getfield 33, 3) := by decide +kernel
theorem d_As_receive_60 : decode b_As_receive 60 = .ok (.iload 4, 2) := by decide +kernel
theorem d_As_receive_62 : decode b_As_receive 62 = .ok (.iaload, 1) := by decide +kernel
theorem d_As_receive_63 : decode b_As_receive 63 = .ok (.aload_n 2, 1) := by decide +kernel
theorem d_As_receive_64 : decode b_As_receive 64 = .ok (.invokevirtual 37, 3) := by decide +kernel
theorem d_As_receive_67 : decode b_As_receive 67 = .ok (.iinc 4 1, 3) := by decide +kernel
theorem d_As_receive_70 : decode b_As_receive 70 = .ok (.goto (-22), 3) := by decide +kernel
theorem d_As_receive_73 : decode b_As_receive 73 = .ok (.aload_n 0, 1) := by decide +kernel
theorem d_As_receive_74 : decode b_As_receive 74 = .ok (.aload_n 1, 1) := by decide +kernel
theorem d_As_receive_75 : decode b_As_receive 75 = .ok (.getfield 19, 3) := by decide +kernel
theorem d_As_receive_78 : decode b_As_receive 78 = .ok (.invokestatic 41, 3) := by decide +kernel
theorem d_As_receive_81 : decode b_As_receive 81 = .ok (.putfield 24, 3) := by decide +kernel
theorem d_As_receive_84 : decode b_As_receive 84 = .ok (.return_, 1) := by decide +kernel
theorem d_As_read_0 : decode b_As_read 0 = .ok (.aload_n 0, 1) := by decide +kernel
theorem d_As_read_1 : decode b_As_read 1 = .ok (.getfield 27, 3) := by decide +kernel
theorem d_As_read_4 : decode b_As_read 4 = .ok (.ifCond .ne 16, 3) := by decide +kernel
theorem d_As_read_7 : decode b_As_read 7 = .ok (.aload_n 0, 1) := by decide +kernel
theorem d_As_read_8 : decode b_As_read 8 = .ok (.iload_n 1, 1) := by decide +kernel
theorem d_As_read_9 : decode b_As_read 9 = .ok (.putfield 45, 3) := by decide +kernel
theorem d_As_read_12 : decode b_As_read 12 = .ok (.aload_n 0, 1) := by decide +kernel
theorem d_As_read_13 : decode b_As_read 13 = .ok (.iconst 0, 1) := by decide +kernel
theorem d_As_read_14 : decode b_As_read 14 = .ok (.putfield 48, 3) := by decide +kernel
theorem d_As_read_17 : decode b_As_read 17 = .ok (.goto 29, 3) := by decide +kernel
theorem d_As_read_20 : decode b_As_read 20 = .ok (.aload_n 0, 1) := by decide +kernel
theorem d_As_read_21 : decode b_As_read 21 = .ok (.getfield 27, 3) := by decide +kernel
theorem d_As_read_24 : decode b_As_read 24 = .ok (.iconst 1, 1) := by decide +kernel
theorem d_As_read_25 : decode b_As_read 25 = .ok (.if_icmp .ne 11, 3) := by decide +kernel
theorem d_As_read_28 : decode b_As_read 28 = .ok (.aload_n 0, 1) := by decide +kernel
theorem d_As_read_29 : decode b_As_read 29 = .ok (.iload_n 1, 1) := by decide +kernel
theorem d_As_read_30 : decode b_As_read 30 = .ok (.putfield 51, 3) := by decide +kernel
theorem d_As_read_33 : decode b_As_read 33 = .ok (.goto 13, 3) := by decide +kernel
theorem d_As_read_36 : decode b_As_read 36 = .ok (.aload_n 0, 1) := by decide +kernel
theorem d_As_read_37 : decode b_As_read 37 = .ok (.dup, 1) := by decide +kernel
theorem d_As_read_38 : decode b_As_read 38 = .ok (.getfield 48, 3) := by decide +kernel
theorem d_As_read_41 : decode b_As_read 41 = .ok (.iload_n 1, 1) := by decide +kernel
theorem d_As_read_42 : decode b_As_read 42 = .ok (.iadd, 1) := by decide +kernel
theorem d_As_read_43 : decode b_As_read 43 = .ok (.putfield 48, 3) := by decide +kernel
theorem d_As_read_46 : decode b_As_read 46 = .ok (.aload_n 0, 1) := by decide +kernel
theorem d_As_read_47 : decode b_As_read 47 = .ok (.dup, 1) := by decide +kernel
theorem d_As_read_48 : decode b_As_read 48 = .ok (.getfield 27, 3) := by decide +kernel
theorem d_As_read_51 : decode b_As_read 51 = .ok (.iconst 1, 1) := by decide +kernel
theorem d_As_read_52 : decode b_As_read 52 = .ok (.iadd, 1) := by decide +kernel
theorem d_As_read_53 : decode b_As_read 53 = .ok (.putfield 27, 3) := by decide +kernel
theorem d_As_read_56 : decode b_As_read 56 = .ok (.aload_n 0, 1) := by decide +kernel
theorem d_As_read_57 : decode b_As_read 57 = .ok (.getfield 27, 3) := by decide +kernel
theorem d_As_read_60 : decode b_As_read 60 = .ok (.iconst 2, 1) := by decide +kernel
theorem d_As_read_61 : decode b_As_read 61 = .ok (.if_icmp .lt 48, 3) := by decide +kernel
theorem d_As_read_64 : decode b_As_read 64 = .ok (.aload_n 0, 1) := by decide +kernel
theorem d_As_read_65 : decode b_As_read 65 = .ok (.getfield 27, 3) := by decide +kernel
theorem d_As_read_68 : decode b_As_read 68 = .ok (.iconst 2, 1) := by decide +kernel
theorem d_As_read_69 : decode b_As_read 69 = .ok (.isub, 1) := by decide +kernel
theorem d_As_read_70 : decode b_As_read 70 = .ok (.aload_n 0, 1) := by decide +kernel
theorem d_As_read_71 : decode b_As_read 71 = .ok (.getfield 51, 3) := by decide +kernel
theorem d_As_read_74 : decode b_As_read 74 = .ok (.if_icmp .ne 35, 3) := by decide +kernel
theorem d_As_read_77 : decode b_As_read 77 = .ok (.aload_n 0, 1) := by decide +kernel
theorem d_As_read_78 : decode b_As_read 78 = .ok (.iconst 0, 1) := by decide +kernel
theorem d_As_read_79 : decode b_As_read 79 = .ok (.putfield 27, 3) := by decide +kernel
theorem d_As_read_82 : decode b_As_read 82 = .ok (.aload_n 0, 1) := by decide +kernel
theorem d_As_read_83 : decode b_As_read 83 = .ok (.getfield 45, 3) := by decide +kernel
theorem d_As_read_86 : decode b_As_read 86 = .ok (.ifCond .eq 23, 3) := by decide +kernel
theorem d_As_read_89 : decode b_As_read 89 = .ok (.aload_n 2, 1) := by decide +kernel
theorem d_As_read_90 : decode b_As_read 90 = .ok (.aload_n 0, 1) := by decide +kernel
theorem d_As_read_91 : decode b_As_read 91 = .ok (.getfield 15, 3) := by decide +kernel
theorem d_As_read_94 : decode b_As_read 94 = .ok (.aload_n 0, 1) := by decide +kernel
theorem d_As_read_95 : decode b_As_read 95 = .ok (.getfield 45, 3) := by decide +kernel
theorem d_As_read_98 : decode b_As_read 98 = .ok (.aload_n 0, 1) := by decide +kernel
theorem d_As_read_99 : decode b_As_read 99 = .ok (.getfield 51, 3) := by decide +kernel
theorem d_As_read_102 : decode b_As_read 102 = .ok (.aload_n 0, 1) := by decide +kernel
theorem d_As_read_103 : decode b_As_read 103 = .ok (.getfield 48, 3) := by decide +kernel
theorem d_As_read_106 : decode b_As_read 106 = .ok (.invokevirtual 54, 3) := by decide +kernel
theorem d_As_read_109 : decode b_As_read 109 = .ok (.return_, 1) := by decide +kernel
theorem d_Cr_init_0 : decode b_Cr_init 0 = .ok (.aload_n 0, 1) := by decide +kernel
theorem d_Cr_init_1 : decode b_Cr_init 1 = .ok (.invokespecial 3, 3) := by decide +kernel
theorem d_Cr_init_4 : decode b_Cr_init 4 = .ok (.aload_n 0, 1) := by decide +kernel
theorem d_Cr_init_5 : decode b_Cr_init 5 = .ok (.iconst 3, 1) := by decide +kernel
theorem d_Cr_init_6 : decode b_Cr_init 6 = .ok (.newarray .int, 2) := by decide +kernel
theorem d_Cr_init_8 : decode b_Cr_init 8 = .ok (.putfield 11, 3) := by decide +kernel
theorem d_Cr_init_11 : decode b_Cr_init 11 = .ok (.aload_n 0, 1) := by decide +kernel
theorem d_Cr_init_12 : decode b_Cr_init 12 = .ok (.iconst 0, 1) := by decide +kernel
theorem d_Cr_init_13 : decode b_Cr_init 13 = .ok (.putfield 15, 3) := by decide +kernel
theorem d_Cr_init_16 : decode b_Cr_init 16 = .ok (.return_, 1) := by decide +kernel
theorem d_Cr_queued_0 : decode b_Cr_queued 0 = .ok (.aload_n 0, 1) := by decide +kernel
theorem d_Cr_queued_1 : decode b_Cr_queued 1 = .ok (.getfield 19, 3) := by decide +kernel
theorem d_Cr_queued_4 : decode b_Cr_queued 4 = .ok (.ireturn, 1) := by decide +kernel
theorem d_Cr_takeFirst_0 : decode b_Cr_takeFirst 0 = .ok (.aload_n 0, 1) := by decide +kernel
theorem d_Cr_takeFirst_1 : decode b_Cr_takeFirst 1 = .ok (.getfield 11, 3) := by decide +kernel
theorem d_Cr_takeFirst_4 : decode b_Cr_takeFirst 4 = .ok (.iconst 0, 1) := by decide +kernel
theorem d_Cr_takeFirst_5 : decode b_Cr_takeFirst 5 = .ok (.iaload, 1) := by decide +kernel
theorem d_Cr_takeFirst_6 : decode b_Cr_takeFirst 6 = .ok (.istore_n 1, 1) := by decide +kernel
theorem d_Cr_takeFirst_7 : decode b_Cr_takeFirst 7 = .ok (.iconst 1, 1) := by decide +kernel
theorem d_Cr_takeFirst_8 : decode b_Cr_takeFirst 8 = .ok (.istore_n 2, 1) := by decide +kernel
theorem d_Cr_takeFirst_9 : decode b_Cr_takeFirst 9 = .ok (.iload_n 2, 1) := by decide +kernel
theorem d_Cr_takeFirst_10 : decode b_Cr_takeFirst 10 = .ok (.aload_n 0, 1) := by decide +kernel
theorem d_Cr_takeFirst_11 : decode b_Cr_takeFirst 11 = .ok (.getfield 19, 3) := by decide +kernel
theorem d_Cr_takeFirst_14 : decode b_Cr_takeFirst 14 = .ok (.if_icmp .ge 23, 3) := by decide +kernel
theorem d_Cr_takeFirst_17 : decode b_Cr_takeFirst 17 = .ok (.aload_n 0, 1) := by decide +kernel
theorem d_Cr_takeFirst_18 : decode b_Cr_takeFirst 18 = .ok (.getfield 11, 3) := by decide +kernel
theorem d_Cr_takeFirst_21 : decode b_Cr_takeFirst 21 = .ok (.iload_n 2, 1) := by decide +kernel
theorem d_Cr_takeFirst_22 : decode b_Cr_takeFirst 22 = .ok (.iconst 1, 1) := by decide +kernel
theorem d_Cr_takeFirst_23 : decode b_Cr_takeFirst 23 = .ok (.isub, 1) := by decide +kernel
theorem d_Cr_takeFirst_24 : decode b_Cr_takeFirst 24 = .ok (.aload_n 0, 1) := by decide +kernel
theorem d_Cr_takeFirst_25 : decode b_Cr_takeFirst 25 = .ok (.getfield 11, 3) := by decide +kernel
theorem d_Cr_takeFirst_28 : decode b_Cr_takeFirst 28 = .ok (.iload_n 2, 1) := by decide +kernel
theorem d_Cr_takeFirst_29 : decode b_Cr_takeFirst 29 = .ok (.iaload, 1) := by decide +kernel
theorem d_Cr_takeFirst_30 : decode b_Cr_takeFirst 30 = .ok (.iastore, 1) := by decide +kernel
theorem d_Cr_takeFirst_31 : decode b_Cr_takeFirst 31 = .ok (.iinc 2 1, 3) := by decide +kernel
theorem d_Cr_takeFirst_34 : decode b_Cr_takeFirst 34 = .ok (.goto (-25), 3) := by decide +kernel
theorem d_Cr_takeFirst_37 : decode b_Cr_takeFirst 37 = .ok (.aload_n 0, 1) := by decide +kernel
theorem d_Cr_takeFirst_38 : decode b_Cr_takeFirst 38 = .ok (.dup, 1) := by decide +kernel
theorem d_Cr_takeFirst_39 : decode b_Cr_takeFirst 39 = .ok (.getfield 19, 3) := by decide +kernel
theorem d_Cr_takeFirst_42 : decode b_Cr_takeFirst 42 = .ok (.iconst 1, 1) := by decide +kernel
theorem d_Cr_takeFirst_43 : decode b_Cr_takeFirst 43 = .ok (.isub, 1) := by decide +kernel
theorem d_Cr_takeFirst_44 : decode b_Cr_takeFirst 44 = .ok (.putfield 19, 3) := by decide +kernel
theorem d_Cr_takeFirst_47 : decode b_Cr_takeFirst 47 = .ok (.aload_n 0, 1) := by decide +kernel
theorem d_Cr_takeFirst_48 : decode b_Cr_takeFirst 48 = .ok (.getfield 15, 3) := by decide +kernel
theorem d_Cr_takeFirst_51 : decode b_Cr_takeFirst 51 = .ok (.iconst 1, 1) := by decide +kernel
theorem d_Cr_takeFirst_52 : decode b_Cr_takeFirst 52 = .ok (.if_icmp .ne 8, 3) := by decide +kernel
theorem d_Cr_takeFirst_55 : decode b_Cr_takeFirst 55 = .ok (.aload_n 0, 1) := by decide +kernel
theorem d_Cr_takeFirst_56 : decode b_Cr_takeFirst 56 = .ok (.iconst 0, 1) := by decide +kernel
theorem d_Cr_takeFirst_57 : decode b_Cr_takeFirst 57 = .ok (.putfield 15, 3) := by decide +kernel
theorem d_Cr_takeFirst_60 : decode b_Cr_takeFirst 60 = .ok (.iload_n 1, 1) := by decide +kernel
theorem d_Cr_takeFirst_61 : decode b_Cr_takeFirst 61 = .ok (.ireturn, 1) := by decide +kernel
theorem d_Cr_receive_0 : decode b_Cr_receive 0 = .ok (.iload_n 1, 1) := by decide +kernel
theorem d_Cr_receive_1 : decode b_Cr_receive 1 = .ok (.ifCond .ne 19, 3) := by decide +kernel
theorem d_Cr_receive_4 : decode b_Cr_receive 4 = .ok (.aload_n 0, 1) := by decide +kernel
theorem d_Cr_receive_5 : decode b_Cr_receive 5 = .ok (.aload_n 0, 1) := by decide +kernel
theorem d_Cr_receive_6 : decode b_Cr_receive 6 = .ok (.getfield 22, 3) := by decide +kernel
theorem d_Cr_receive_9 : decode b_Cr_receive 9 = .ok (.iload_n 2, 1) := by decide +kernel
theorem d_Cr_receive_10 : decode b_Cr_receive 10 = .ok (.invokestatic 25, 3) := by decide +kernel
theorem d_Cr_receive_13 : decode b_Cr_receive 13 = .ok (.iload_n 3, 1) := by decide +kernel
theorem d_Cr_receive_14 : decode b_Cr_receive 14 = .ok (.invokevirtual 29, 3) := by decide +kernel
theorem d_Cr_receive_17 : decode b_Cr_receive 17 = .ok (.goto 32, 3) := by decide +kernel
theorem d_Cr_receive_20 : decode b_Cr_receive 20 = .ok (.iload_n 1, 1) := by decide +kernel
theorem d_Cr_receive_21 : decode b_Cr_receive 21 = .ok (.iconst 1, 1) := by decide +kernel
theorem d_Cr_receive_22 : decode b_Cr_receive 22 = .ok (.if_icmp .ne 10, 3) := by decide +kernel
theorem d_Cr_receive_25 : decode b_Cr_receive 25 = .ok (.aload_n 0, 1) := by decide +kernel
theorem d_Cr_receive_26 : decode b_Cr_receive 26 = .ok (.invokevirtual 33, 3) := by decide +kernel
theorem d_Cr_receive_29 : decode b_Cr_receive 29 = .ok (.goto 20, 3) := by decide +kernel
theorem d_Cr_receive_32 : decode b_Cr_receive 32 = .ok (.aload_n 0, 1) := by decide +kernel
theorem d_Cr_receive_33 : decode b_Cr_receive 33 = .ok (.getfield 15, 3) := by decide +kernel
theorem d_Cr_receive_36 : decode b_Cr_receive 36 = .ok (.iconst 2, 1) := by decide +kernel
theorem d_Cr_receive_37 : decode b_Cr_receive 37 = .ok (.if_icmp .eq 12, 3) := by decide +kernel
theorem d_Cr_receive_40 : decode b_Cr_receive 40 = .ok (.aload_n 0, 1) := by decide +kernel
theorem d_Cr_receive_41 : decode b_Cr_receive 41 = .ok (.iload_n 2, 1) := by decide +kernel
theorem d_Cr_receive_42 : decode b_Cr_receive 42 = .ok (.putfield 22, 3) := by decide +kernel
theorem d_Cr_receive_45 : decode b_Cr_receive 45 = .ok (.aload_n 0, 1) := by decide +kernel
theorem d_Cr_receive_46 : decode b_Cr_receive 46 = .ok (.invokevirtual 33, 3) := by decide +kernel
theorem d_Cr_receive_49 : decode b_Cr_receive 49 = .ok (.return_, 1) := by decide +kernel
theorem d_Cr_tell_0 : decode b_Cr_tell 0 = .ok (.iload_n 1, 1) := by decide +kernel
theorem d_Cr_tell_1 : decode b_Cr_tell 1 = .ok (.tableswitch 50 0 2 #[27, 32, 37], 27) := by decide +kernel
theorem d_Cr_tell_28 : decode b_Cr_tell 28 = .ok (.aload_n 0, 1) := by decide +kernel
theorem d_Cr_tell_29 : decode b_Cr_tell 29 = .ok (.getfield 15, 3) := by decide +kernel
theorem d_Cr_tell_32 : decode b_Cr_tell 32 = .ok (.ireturn, 1) := by decide +kernel
theorem d_Cr_tell_33 : decode b_Cr_tell 33 = .ok (.aload_n 0, 1) := by decide +kernel
theorem d_Cr_tell_34 : decode b_Cr_tell 34 = .ok (.getfield 22, 3) := by decide +kernel
theorem d_Cr_tell_37 : decode b_Cr_tell 37 = .ok (.ireturn, 1) := by decide +kernel
theorem d_Cr_tell_38 : decode b_Cr_tell 38 = .ok (.aload_n 0, 1) := by decide +kernel
theorem d_Cr_tell_39 : decode b_Cr_tell 39 = .ok (.getfield 36, 3) := by decide +kernel
theorem d_Cr_tell_42 : decode b_Cr_tell 42 = .ok (.ifCond .eq 7, 3) := by decide +kernel
theorem d_Cr_tell_45 : decode b_Cr_tell 45 = .ok (.iconst 1, 1) := by decide +kernel
theorem d_Cr_tell_46 : decode b_Cr_tell 46 = .ok (.goto 4, 3) := by decide +kernel
theorem d_Cr_tell_49 : decode b_Cr_tell 49 = .ok (.iconst 0, 1) := by decide +kernel
theorem d_Cr_tell_50 : decode b_Cr_tell 50 = .ok (.ireturn, 1) := by decide +kernel
theorem d_Cr_tell_51 : decode b_Cr_tell 51 = .ok (.aload_n 0, 1) := by decide +kernel
theorem d_Cr_tell_52 : decode b_Cr_tell 52 = .ok (.getfield 19, 3) := by decide +kernel
theorem d_Cr_tell_55 : decode b_Cr_tell 55 = .ok (.ireturn, 1) := by decide +kernel
theorem d_Cr_reopen_0 : decode b_Cr_reopen 0 = .ok (.aload_n 0, 1) := by decide +kernel
theorem d_Cr_reopen_1 : decode b_Cr_reopen 1 = .ok (.iconst 0, 1) := by decide +kernel
theorem d_Cr_reopen_2 : decode b_Cr_reopen 2 = .ok (.putfield 15, 3) := by decide +kernel
theorem d_Cr_reopen_5 : decode b_Cr_reopen 5 = .ok (.aload_n 0, 1) := by decide +kernel
theorem d_Cr_reopen_6 : decode b_Cr_reopen 6 = .ok (.iconst 0, 1) := by decide +kernel
theorem d_Cr_reopen_7 : decode b_Cr_reopen 7 = .ok (.putfield 36, 3) := by decide +kernel
theorem d_Cr_reopen_10 : decode b_Cr_reopen 10 = .ok (.return_, 1) := by decide +kernel
theorem d_Cr_receiveCommand_0 : decode b_Cr_receiveCommand 0 = .ok (.iload_n 1, 1) := by decide +kernel
theorem d_Cr_receiveCommand_1 : decode b_Cr_receiveCommand 1 = .ok (.iconst 4, 1) := by decide +kernel
theorem d_Cr_receiveCommand_2 : decode b_Cr_receiveCommand 2 = .ok (.if_icmp .le 17, 3) := by decide +kernel
theorem d_Cr_receiveCommand_5 : decode b_Cr_receiveCommand 5 = .ok (.iload_n 1, 1) := by decide +kernel
theorem d_Cr_receiveCommand_6 : decode b_Cr_receiveCommand 6 = .ok (.bipush 10, 2) := by decide +kernel
theorem d_Cr_receiveCommand_8 : decode b_Cr_receiveCommand 8 = .ok (.if_icmp .gt 35, 3) := by decide +kernel
theorem d_Cr_receiveCommand_11 : decode b_Cr_receiveCommand 11 = .ok (.aload_n 0, 1) := by decide +kernel
theorem d_Cr_receiveCommand_12 : decode b_Cr_receiveCommand 12 = .ok (.iconst 2, 1) := by decide +kernel
theorem d_Cr_receiveCommand_13 : decode b_Cr_receiveCommand 13 = .ok (.putfield 15, 3) := by decide +kernel
theorem d_Cr_receiveCommand_16 : decode b_Cr_receiveCommand 16 = .ok (.goto 27, 3) := by decide +kernel
theorem d_Cr_receiveCommand_19 : decode b_Cr_receiveCommand 19 = .ok (.aload_n 0, 1) := by decide +kernel
theorem d_Cr_receiveCommand_20 : decode b_Cr_receiveCommand 20 = .ok (.getfield 15, 3) := by decide +kernel
theorem d_Cr_receiveCommand_23 : decode b_Cr_receiveCommand 23 = .ok (.ifCond .ne 20, 3) := by decide +kernel
theorem d_Cr_receiveCommand_26 : decode b_Cr_receiveCommand 26 = .ok (.iload_n 1, 1) := by decide +kernel
theorem d_Cr_receiveCommand_27 : decode b_Cr_receiveCommand 27 = .ok (.ifCond .le 11, 3) := by decide +kernel
theorem d_Cr_receiveCommand_30 : decode b_Cr_receiveCommand 30 = .ok (.aload_n 0, 1) := by decide +kernel
theorem d_Cr_receiveCommand_31 : decode b_Cr_receiveCommand 31 = .ok (.iconst 1, 1) := by decide +kernel
theorem d_Cr_receiveCommand_32 : decode b_Cr_receiveCommand 32 = .ok (.putfield 36, 3) := by decide +kernel
theorem d_Cr_receiveCommand_35 : decode b_Cr_receiveCommand 35 = .ok (.goto 8, 3) := by decide +kernel
theorem d_Cr_receiveCommand_38 : decode b_Cr_receiveCommand 38 = .ok (.aload_n 0, 1) := by decide +kernel
theorem d_Cr_receiveCommand_39 : decode b_Cr_receiveCommand 39 = .ok (.iload_n 2, 1) := by decide +kernel
theorem d_Cr_receiveCommand_40 : decode b_Cr_receiveCommand 40 = .ok (.invokevirtual 40, 3) := by decide +kernel
theorem d_Cr_receiveCommand_43 : decode b_Cr_receiveCommand 43 = .ok (.return_, 1) := by decide +kernel
theorem d_Cr_receiveExpected_0 : decode b_Cr_receiveExpected 0 = .ok (.aload_n 0, 1) := by decide +kernel
theorem d_Cr_receiveExpected_1 : decode b_Cr_receiveExpected 1 = .ok (.getfield 19, 3) := by decide +kernel
theorem d_Cr_receiveExpected_4 : decode b_Cr_receiveExpected 4 = .ok (.iconst 3, 1) := by decide +kernel
theorem d_Cr_receiveExpected_5 : decode b_Cr_receiveExpected 5 = .ok (.if_icmp .ge 42, 3) := by decide +kernel
theorem d_Cr_receiveExpected_8 : decode b_Cr_receiveExpected 8 = .ok (.aload_n 0, 1) := by decide +kernel
theorem d_Cr_receiveExpected_9 : decode b_Cr_receiveExpected 9 = .ok (.getfield 11, 3) := by decide +kernel
theorem d_Cr_receiveExpected_12 : decode b_Cr_receiveExpected 12 = .ok (.aload_n 0, 1) := by decide +kernel
theorem d_Cr_receiveExpected_13 : decode b_Cr_receiveExpected 13 = .ok (.getfield 19, 3) := by decide +kernel
theorem d_Cr_receiveExpected_16 : decode b_Cr_receiveExpected 16 = .ok (.iload_n 1, 1) := by decide +kernel
theorem d_Cr_receiveExpected_17 : decode b_Cr_receiveExpected 17 = .ok (.iastore, 1) := by decide +kernel
theorem d_Cr_receiveExpected_18 : decode b_Cr_receiveExpected 18 = .ok (.aload_n 0, 1) := by decide +kernel
theorem d_Cr_receiveExpected_19 : decode b_Cr_receiveExpected 19 = .ok (.dup, 1) := by decide +kernel
theorem d_Cr_receiveExpected_20 : decode b_Cr_receiveExpected 20 = .ok (.getfield 19, 3) := by decide +kernel
theorem d_Cr_receiveExpected_23 : decode b_Cr_receiveExpected 23 = .ok (.iconst 1, 1) := by decide +kernel
theorem d_Cr_receiveExpected_24 : decode b_Cr_receiveExpected 24 = .ok (.iadd, 1) := by decide +kernel
theorem d_Cr_receiveExpected_25 : decode b_Cr_receiveExpected 25 = .ok (.putfield 19, 3) := by decide +kernel
theorem d_Cr_receiveExpected_28 : decode b_Cr_receiveExpected 28 = .ok (.aload_n 0, 1) := by decide +kernel
theorem d_Cr_receiveExpected_29 : decode b_Cr_receiveExpected 29 = .ok (.aload_n 0, 1) := by decide +kernel
theorem d_Cr_receiveExpected_30 : decode b_Cr_receiveExpected 30 = .ok (.getfield 22, 3) := by decide +kernel
theorem d_Cr_receiveExpected_33 : decode b_Cr_receiveExpected 33 = .ok (.invokestatic 44, 3) := by decide +kernel
theorem d_Cr_receiveExpected_36 : decode b_Cr_receiveExpected 36 = .ok (.putfield 22, 3) := by decide +kernel
theorem d_Cr_receiveExpected_39 : decode b_Cr_receiveExpected 39 = .ok (.aload_n 0, 1) := by decide +kernel
theorem d_Cr_receiveExpected_40 : decode b_Cr_receiveExpected 40 = .ok (.iconst 0, 1) := by decide +kernel
theorem d_Cr_receiveExpected_41 : decode b_Cr_receiveExpected 41 = .ok (.putfield 36, 3) := by decide +kernel
theorem d_Cr_receiveExpected_44 : decode b_Cr_receiveExpected 44 = .ok (.goto 13, 3) := by decide +kernel
theorem d_Cr_receiveExpected_47 : decode b_Cr_receiveExpected 47 = .ok (.aload_n 0, 1) := by decide +kernel
theorem d_Cr_receiveExpected_48 : decode b_Cr_receiveExpected 48 = .ok (.iconst 1, 1) := by decide +kernel
theorem d_Cr_receiveExpected_49 : decode b_Cr_receiveExpected 49 = .ok (.putfield 36, 3) := by decide +kernel
theorem d_Cr_receiveExpected_52 : decode b_Cr_receiveExpected 52 = .ok (.aload_n 0, 1) := by decide +kernel
theorem d_Cr_receiveExpected_53 : decode b_Cr_receiveExpected 53 = .ok (.iconst 1, 1) := by decide +kernel
theorem d_Cr_receiveExpected_54 : decode b_Cr_receiveExpected 54 = .ok (.putfield 15, 3) := by decide +kernel
theorem d_Cr_receiveExpected_57 : decode b_Cr_receiveExpected 57 = .ok (.return_, 1) := by decide +kernel
theorem d_Gr_init_0 : decode b_Gr_init 0 = .ok (.aload_n 0, 1) := by decide +kernel
theorem d_Gr_init_1 : decode b_Gr_init 1 = .ok (.invokespecial 3, 3) := by decide +kernel
theorem d_Gr_init_4 : decode b_Gr_init 4 = .ok (.aload_n 0, 1) := by decide +kernel
theorem d_Gr_init_5 : decode b_Gr_init 5 = .ok (.new 9, 3) := by decide +kernel
theorem d_Gr_init_8 : decode b_Gr_init 8 = .ok (.dup, 1) := by decide +kernel
theorem d_Gr_init_9 : decode b_Gr_init 9 = .ok (.invokespecial 11, 3) := by decide +kernel
theorem d_Gr_init_12 : decode b_Gr_init 12 = .ok (.putfield 12, 3) := by decide +kernel
theorem d_Gr_init_15 : decode b_Gr_init 15 = .ok (.aload_n 0, 1) := by decide +kernel
theorem d_Gr_init_16 : decode b_Gr_init 16 = .ok (.iconst 0, 1) := by decide +kernel
theorem d_Gr_init_17 : decode b_Gr_init 17 = .ok (.putfield 18, 3) := by decide +kernel
theorem d_Gr_init_20 : decode b_Gr_init 20 = .ok (.aload_n 0, 1) := by decide +kernel
theorem d_Gr_init_21 : decode b_Gr_init 21 = .ok (.iconst 3, 1) := by decide +kernel
theorem d_Gr_init_22 : decode b_Gr_init 22 = .ok (.putfield 22, 3) := by decide +kernel
theorem d_Gr_init_25 : decode b_Gr_init 25 = .ok (.aload_n 0, 1) := by decide +kernel
theorem d_Gr_init_26 : decode b_Gr_init 26 = .ok (.iconst 4, 1) := by decide +kernel
theorem d_Gr_init_27 : decode b_Gr_init 27 = .ok (.putfield 25, 3) := by decide +kernel
theorem d_Gr_init_30 : decode b_Gr_init 30 = .ok (.aload_n 0, 1) := by decide +kernel
theorem d_Gr_init_31 : decode b_Gr_init 31 = .ok (.iconst 5, 1) := by decide +kernel
theorem d_Gr_init_32 : decode b_Gr_init 32 = .ok (.putfield 28, 3) := by decide +kernel
theorem d_Gr_init_35 : decode b_Gr_init 35 = .ok (.return_, 1) := by decide +kernel
theorem d_Gr_isIdle_0 : decode b_Gr_isIdle 0 = .ok (.aload_n 0, 1) := by decide +kernel
theorem d_Gr_isIdle_1 : decode b_Gr_isIdle 1 = .ok (.getfield 18, 3) := by decide +kernel
theorem d_Gr_isIdle_4 : decode b_Gr_isIdle 4 = .ok (.ifCond .ne 7, 3) := by decide +kernel
theorem d_Gr_isIdle_7 : decode b_Gr_isIdle 7 = .ok (.iconst 1, 1) := by decide +kernel
theorem d_Gr_isIdle_8 : decode b_Gr_isIdle 8 = .ok (.goto 4, 3) := by decide +kernel
theorem d_Gr_isIdle_11 : decode b_Gr_isIdle 11 = .ok (.iconst 0, 1) := by decide +kernel
theorem d_Gr_isIdle_12 : decode b_Gr_isIdle 12 = .ok (.ireturn, 1) := by decide +kernel
theorem d_Gr_takesCommands_0 : decode b_Gr_takesCommands 0 = .ok (.aload_n 0, 1) := by decide +kernel
theorem d_Gr_takesCommands_1 : decode b_Gr_takesCommands 1 = .ok (.invokevirtual 31, 3) := by decide +kernel
theorem d_Gr_takesCommands_4 : decode b_Gr_takesCommands 4 = .ok (.ifCond .ne 11, 3) := by decide +kernel
theorem d_Gr_takesCommands_7 : decode b_Gr_takesCommands 7 = .ok (.aload_n 0, 1) := by decide +kernel
theorem d_Gr_takesCommands_8 : decode b_Gr_takesCommands 8 = .ok (.getfield 18, 3) := by decide +kernel
theorem d_Gr_takesCommands_11 : decode b_Gr_takesCommands 11 = .ok (.iconst 3, 1) := by decide +kernel
theorem d_Gr_takesCommands_12 : decode b_Gr_takesCommands 12 = .ok (.if_icmp .ne 7, 3) := by decide +kernel
theorem d_Gr_takesCommands_15 : decode b_Gr_takesCommands 15 = .ok (.iconst 1, 1) := by decide +kernel
theorem d_Gr_takesCommands_16 : decode b_Gr_takesCommands 16 = .ok (.goto 4, 3) := by decide +kernel
theorem d_Gr_takesCommands_19 : decode b_Gr_takesCommands 19 = .ok (.iconst 0, 1) := by decide +kernel
theorem d_Gr_takesCommands_20 : decode b_Gr_takesCommands 20 = .ok (.ireturn, 1) := by decide +kernel
theorem d_Gr_adjust_0 : decode b_Gr_adjust 0 = .ok (.aload_n 0, 1) := by decide +kernel
theorem d_Gr_adjust_1 : decode b_Gr_adjust 1 = .ok (.iload_n 1, 1) := by decide +kernel
theorem d_Gr_adjust_2 : decode b_Gr_adjust 2 = .ok (.putfield 22, 3) := by decide +kernel
theorem d_Gr_adjust_5 : decode b_Gr_adjust 5 = .ok (.aload_n 0, 1) := by decide +kernel
theorem d_Gr_adjust_6 : decode b_Gr_adjust 6 = .ok (.iload_n 2, 1) := by decide +kernel
theorem d_Gr_adjust_7 : decode b_Gr_adjust 7 = .ok (.putfield 25, 3) := by decide +kernel
theorem d_Gr_adjust_10 : decode b_Gr_adjust 10 = .ok (.aload_n 0, 1) := by decide +kernel
theorem d_Gr_adjust_11 : decode b_Gr_adjust 11 = .ok (.iload_n 3, 1) := by decide +kernel
theorem d_Gr_adjust_12 : decode b_Gr_adjust 12 = .ok (.putfield 28, 3) := by decide +kernel
theorem d_Gr_adjust_15 : decode b_Gr_adjust 15 = .ok (.return_, 1) := by decide +kernel
theorem d_Gr_renumber_0 : decode b_Gr_renumber 0 = .ok (.aload_n 0, 1) := by decide +kernel
theorem d_Gr_renumber_1 : decode b_Gr_renumber 1 = .ok (.iload_n 1, 1) := by decide +kernel
theorem d_Gr_renumber_2 : decode b_Gr_renumber 2 = .ok (.putfield 35, 3) := by decide +kernel
theorem d_Gr_renumber_5 : decode b_Gr_renumber 5 = .ok (.aload_n 0, 1) := by decide +kernel
theorem d_Gr_renumber_6 : decode b_Gr_renumber 6 = .ok (.iload_n 1, 1) := by decide +kernel
theorem d_Gr_renumber_7 : decode b_Gr_renumber 7 = .ok (.putfield 38, 3) := by decide +kernel
theorem d_Gr_renumber_10 : decode b_Gr_renumber 10 = .ok (.return_, 1) := by decide +kernel
theorem d_Gr_start_0 : decode b_Gr_start 0 = .ok (.aload_n 0, 1) := by decide +kernel
theorem d_Gr_start_1 : decode b_Gr_start 1 = .ok (.iconst 1, 1) := by decide +kernel
theorem d_Gr_start_2 : decode b_Gr_start 2 = .ok (.putfield 41, 3) := by decide +kernel
theorem d_Gr_start_5 : decode b_Gr_start 5 = .ok (.aload_n 0, 1) := by decide +kernel
theorem d_Gr_start_6 : decode b_Gr_start 6 = .ok (.iconst 0, 1) := by decide +kernel
theorem d_Gr_start_7 : decode b_Gr_start 7 = .ok (.putfield 44, 3) := by decide +kernel
theorem d_Gr_start_10 : decode b_Gr_start 10 = .ok (.iload_n 1, 1) := by decide +kernel
theorem d_Gr_start_11 : decode b_Gr_start 11 = .ok (.lookupswitch 49 #[(0, 25), (1, 33)], 25) := by decide +kernel
theorem d_Gr_start_36 : decode b_Gr_start 36 = .ok (.aload_n 0, 1) := by decide +kernel
theorem d_Gr_start_37 : decode b_Gr_start 37 = .ok (.iconst 1, 1) := by decide +kernel
theorem d_Gr_start_38 : decode b_Gr_start 38 = .ok (.putfield 18, 3) := by decide +kernel
theorem d_Gr_start_41 : decode b_Gr_start 41 = .ok (.goto 43, 3) := by decide +kernel
theorem d_Gr_start_44 : decode b_Gr_start 44 = .ok (.aload_n 0, 1) := by decide +kernel
theorem d_Gr_start_45 : decode b_Gr_start 45 = .ok (.iconst 4, 1) := by decide +kernel
theorem d_Gr_start_46 : decode b_Gr_start 46 = .ok (.putfield 18, 3) := by decide +kernel
theorem d_Gr_start_49 : decode b_Gr_start 49 = .ok (.aload_n 0, 1) := by decide +kernel
theorem d_Gr_start_50 : decode b_Gr_start 50 = .ok (.aload_n 0, 1) := by decide +kernel
theorem d_Gr_start_51 : decode b_Gr_start 51 = .ok (.getfield 28, 3) := by decide +kernel
theorem d_Gr_start_54 : decode b_Gr_start 54 = .ok (.putfield 47, 3) := by decide +kernel
theorem d_Gr_start_57 : decode b_Gr_start 57 = .ok (.goto 27, 3) := by decide +kernel
theorem d_Gr_start_60 : decode b_Gr_start 60 = .ok (.aload_n 0, 1) := by decide +kernel
theorem d_Gr_start_61 : decode b_Gr_start 61 = .ok (.iconst 5, 1) := by decide +kernel
theorem d_Gr_start_62 : decode b_Gr_start 62 = .ok (.putfield 18, 3) := by decide +kernel
theorem d_Gr_start_65 : decode b_Gr_start 65 = .ok (.aload_n 0, 1) := by decide +kernel
theorem d_Gr_start_66 : decode b_Gr_start 66 = .ok (.iload_n 1, 1) := by decide +kernel
theorem d_Gr_start_67 : decode b_Gr_start 67 = .ok (.iconst 2, 1) := by decide +kernel
theorem d_Gr_start_68 : decode b_Gr_start 68 = .ok (.if_icmp .ne 7, 3) := by decide +kernel
theorem d_Gr_start_71 : decode b_Gr_start 71 = .ok (.iconst 1, 1) := by decide +kernel
theorem d_Gr_start_72 : decode b_Gr_start 72 = .ok (.goto 4, 3) := by decide +kernel
theorem d_Gr_start_75 : decode b_Gr_start 75 = .ok (.iconst 2, 1) := by decide +kernel
theorem d_Gr_start_76 : decode b_Gr_start 76 = .ok (.putfield 50, 3) := by decide +kernel
theorem d_Gr_start_79 : decode b_Gr_start 79 = .ok (.aload_n 0, 1) := by decide +kernel
theorem d_Gr_start_80 : decode b_Gr_start 80 = .ok (.iconst 1, 1) := by decide +kernel
theorem d_Gr_start_81 : decode b_Gr_start 81 = .ok (.putfield 53, 3) := by decide +kernel
theorem d_Gr_start_84 : decode b_Gr_start 84 = .ok (.return_, 1) := by decide +kernel
theorem d_Gr_finish_0 : decode b_Gr_finish 0 = .ok (.aload_n 0, 1) := by decide +kernel
theorem d_Gr_finish_1 : decode b_Gr_finish 1 = .ok (.iconst 0, 1) := by decide +kernel
theorem d_Gr_finish_2 : decode b_Gr_finish 2 = .ok (.putfield 18, 3) := by decide +kernel
theorem d_Gr_finish_5 : decode b_Gr_finish 5 = .ok (.aload_n 0, 1) := by decide +kernel
theorem d_Gr_finish_6 : decode b_Gr_finish 6 = .ok (.getfield 12, 3) := by decide +kernel
theorem d_Gr_finish_9 : decode b_Gr_finish 9 = .ok (.invokevirtual 57, 3) := by decide +kernel
theorem d_Gr_finish_12 : decode b_Gr_finish 12 = .ok (.aload_n 0, 1) := by decide +kernel
theorem d_Gr_finish_13 : decode b_Gr_finish 13 = .ok (.iconst 0, 1) := by decide +kernel
theorem d_Gr_finish_14 : decode b_Gr_finish 14 = .ok (.putfield 60, 3) := by decide +kernel
theorem d_Gr_finish_17 : decode b_Gr_finish 17 = .ok (.aload_n 0, 1) := by decide +kernel
theorem d_Gr_finish_18 : decode b_Gr_finish 18 = .ok (.aload_n 0, 1) := by decide +kernel
theorem d_Gr_finish_19 : decode b_Gr_finish 19 = .ok (.getfield 35, 3) := by decide +kernel
theorem d_Gr_finish_22 : decode b_Gr_finish 22 = .ok (.putfield 38, 3) := by decide +kernel
theorem d_Gr_finish_25 : decode b_Gr_finish 25 = .ok (.aload_n 0, 1) := by decide +kernel
theorem d_Gr_finish_26 : decode b_Gr_finish 26 = .ok (.iconst 0, 1) := by decide +kernel
theorem d_Gr_finish_27 : decode b_Gr_finish 27 = .ok (.putfield 47, 3) := by decide +kernel
theorem d_Gr_finish_30 : decode b_Gr_finish 30 = .ok (.return_, 1) := by decide +kernel
theorem d_Gr_offer_0 : decode b_Gr_offer 0 = .ok (.aload_n 0, 1) := by decide +kernel
theorem d_Gr_offer_1 : decode b_Gr_offer 1 = .ok (.getfield 60, 3) := by decide +kernel
theorem d_Gr_offer_4 : decode b_Gr_offer 4 = .ok (.ifCond .eq 5, 3) := by decide +kernel
theorem d_Gr_offer_7 : decode b_Gr_offer 7 = .ok (.iconst 0, 1) := by decide +kernel
theorem d_Gr_offer_8 : decode b_Gr_offer 8 = .ok (.ireturn, 1) := by decide +kernel
theorem d_Gr_offer_9 : decode b_Gr_offer 9 = .ok (.aload_n 0, 1) := by decide +kernel
theorem d_Gr_offer_10 : decode b_Gr_offer 10 = .ok (.iload_n 1, 1) := by decide +kernel
theorem d_Gr_offer_11 : decode b_Gr_offer 11 = .ok (.putfield 63, 3) := by decide +kernel
theorem d_Gr_offer_14 : decode b_Gr_offer 14 = .ok (.aload_n 0, 1) := by decide +kernel
theorem d_Gr_offer_15 : decode b_Gr_offer 15 = .ok (.iconst 1, 1) := by decide +kernel
theorem d_Gr_offer_16 : decode b_Gr_offer 16 = .ok (.putfield 60, 3) := by decide +kernel
theorem d_Gr_offer_19 : decode b_Gr_offer 19 = .ok (.iconst 1, 1) := by decide +kernel
theorem d_Gr_offer_20 : decode b_Gr_offer 20 = .ok (.ireturn, 1) := by decide +kernel
theorem d_Gr_pass_0 : decode b_Gr_pass 0 = .ok (.aload_n 0, 1) := by decide +kernel
theorem d_Gr_pass_1 : decode b_Gr_pass 1 = .ok (.getfield 47, 3) := by decide +kernel
theorem d_Gr_pass_4 : decode b_Gr_pass 4 = .ok (.ifCond .le 24, 3) := by decide +kernel
theorem d_Gr_pass_7 : decode b_Gr_pass 7 = .ok (.aload_n 0, 1) := by decide +kernel
theorem d_Gr_pass_8 : decode b_Gr_pass 8 = .ok (.dup, 1) := by decide +kernel
theorem d_Gr_pass_9 : decode b_Gr_pass 9 = .ok (.getfield 47, 3) := by decide +kernel
theorem d_Gr_pass_12 : decode b_Gr_pass 12 = .ok (.iconst 1, 1) := by decide +kernel
theorem d_Gr_pass_13 : decode b_Gr_pass 13 = .ok (.isub, 1) := by decide +kernel
theorem d_Gr_pass_14 : decode b_Gr_pass 14 = .ok (.putfield 47, 3) := by decide +kernel
theorem d_Gr_pass_17 : decode b_Gr_pass 17 = .ok (.aload_n 0, 1) := by decide +kernel
theorem d_Gr_pass_18 : decode b_Gr_pass 18 = .ok (.getfield 47, 3) := by decide +kernel
theorem d_Gr_pass_21 : decode b_Gr_pass 21 = .ok (.ifCond .ne 7, 3) := by decide +kernel
theorem d_Gr_pass_24 : decode b_Gr_pass 24 = .ok (.aload_n 0, 1) := by decide +kernel
theorem d_Gr_pass_25 : decode b_Gr_pass 25 = .ok (.invokevirtual 66, 3) := by decide +kernel
theorem d_Gr_pass_28 : decode b_Gr_pass 28 = .ok (.aload_n 0, 1) := by decide +kernel
theorem d_Gr_pass_29 : decode b_Gr_pass 29 = .ok (.getfield 18, 3) := by decide +kernel
theorem d_Gr_pass_32 : decode b_Gr_pass 32 = .ok (.iconst 5, 1) := by decide +kernel
theorem d_Gr_pass_33 : decode b_Gr_pass 33 = .ok (.if_icmp .ne 16, 3) := by decide +kernel
theorem d_Gr_pass_36 : decode b_Gr_pass 36 = .ok (.aload_n 0, 1) := by decide +kernel
theorem d_Gr_pass_37 : decode b_Gr_pass 37 = .ok (.getfield 53, 3) := by decide +kernel
theorem d_Gr_pass_40 : decode b_Gr_pass 40 = .ok (.ifCond .eq 9, 3) := by decide +kernel
theorem d_Gr_pass_43 : decode b_Gr_pass 43 = .ok (.aload_n 0, 1) := by decide +kernel
theorem d_Gr_pass_44 : decode b_Gr_pass 44 = .ok (.aload_n 1, 1) := by decide +kernel
theorem d_Gr_pass_45 : decode b_Gr_pass 45 = .ok (.invokevirtual 69, 3) := by decide +kernel
theorem d_Gr_pass_48 : decode b_Gr_pass 48 = .ok (.ireturn, 1) := by decide +kernel
theorem d_Gr_pass_49 : decode b_Gr_pass 49 = .ok (.aload_n 0, 1) := by decide +kernel
theorem d_Gr_pass_50 : decode b_Gr_pass 50 = .ok (.invokevirtual 31, 3) := by decide +kernel
theorem d_Gr_pass_53 : decode b_Gr_pass 53 = .ok (.ifCond .eq 11, 3) := by decide +kernel
theorem d_Gr_pass_56 : decode b_Gr_pass 56 = .ok (.aload_n 0, 1) := by decide +kernel
theorem d_Gr_pass_57 : decode b_Gr_pass 57 = .ok (.aload_n 1, 1) := by decide +kernel
theorem d_Gr_pass_58 : decode b_Gr_pass 58 = .ok (.invokevirtual 73, 3) := by decide +kernel
theorem d_Gr_pass_61 : decode b_Gr_pass 61 = .ok (.goto 4, 3) := by decide +kernel
theorem d_Gr_pass_64 : decode b_Gr_pass 64 = .ok (.iconst (-1), 1) := by decide +kernel
theorem d_Gr_pass_65 : decode b_Gr_pass 65 = .ok (.ireturn, 1) := by decide +kernel
theorem d_Gr_hear_0 : decode b_Gr_hear 0 = .ok (.aload_n 0, 1) := by decide +kernel
theorem d_Gr_hear_1 : decode b_Gr_hear 1 = .ok (.getfield 18, 3) := by decide +kernel
theorem d_Gr_hear_4 : decode b_Gr_hear 4 = .ok (.ifCond .ne 4, 3) := by decide +kernel
theorem d_Gr_hear_7 : decode b_Gr_hear 7 = .ok (.return_, 1) := by decide +kernel
theorem d_Gr_hear_8 : decode b_Gr_hear 8 = .ok (.aload_n 0, 1) := by decide +kernel
theorem d_Gr_hear_9 : decode b_Gr_hear 9 = .ok (.getfield 18, 3) := by decide +kernel
theorem d_Gr_hear_12 : decode b_Gr_hear 12 = .ok (.iconst 5, 1) := by decide +kernel
theorem d_Gr_hear_13 : decode b_Gr_hear 13 = .ok (.if_icmp .ne 11, 3) := by decide +kernel
theorem d_Gr_hear_16 : decode b_Gr_hear 16 = .ok (.aload_n 0, 1) := by decide +kernel
theorem d_Gr_hear_17 : decode b_Gr_hear 17 = .ok (.iload_n 1, 1) := by decide +kernel
theorem d_Gr_hear_18 : decode b_Gr_hear 18 = .ok (.iload_n 2, 1) := by decide +kernel
theorem d_Gr_hear_19 : decode b_Gr_hear 19 = .ok (.iload_n 3, 1) := by decide +kernel
theorem d_Gr_hear_20 : decode b_Gr_hear 20 = .ok (.invokevirtual 76, 3) := by decide +kernel
theorem d_Gr_hear_23 : decode b_Gr_hear 23 = .ok (.return_, 1) := by decide +kernel
theorem d_Gr_hear_24 : decode b_Gr_hear 24 = .ok (.aload_n 0, 1) := by decide +kernel
theorem d_Gr_hear_25 : decode b_Gr_hear 25 = .ok (.getfield 38, 3) := by decide +kernel
theorem d_Gr_hear_28 : decode b_Gr_hear 28 = .ok (.iload_n 1, 1) := by decide +kernel
theorem d_Gr_hear_29 : decode b_Gr_hear 29 = .ok (.invokestatic 80, 3) := by decide +kernel
theorem d_Gr_hear_32 : decode b_Gr_hear 32 = .ok (.istore 4, 2) := by decide +kernel
theorem d_Gr_hear_34 : decode b_Gr_hear 34 = .ok (.iload_n 3, 1) := by decide +kernel
theorem d_Gr_hear_35 : decode b_Gr_hear 35 = .ok (.iconst 2, 1) := by decide +kernel
theorem d_Gr_hear_36 : decode b_Gr_hear 36 = .ok (.if_icmp .ne 11, 3) := by decide +kernel
theorem d_Gr_hear_39 : decode b_Gr_hear 39 = .ok (.aload_n 0, 1) := by decide +kernel
theorem d_Gr_hear_40 : decode b_Gr_hear 40 = .ok (.iconst 2, 1) := by decide +kernel
theorem d_Gr_hear_41 : decode b_Gr_hear 41 = .ok (.invokevirtual 84, 3) := by decide +kernel
theorem d_Gr_hear_44 : decode b_Gr_hear 44 = .ok (.goto 65, 3) := by decide +kernel
theorem d_Gr_hear_47 : decode b_Gr_hear 47 = .ok (.iload 4, 2) := by decide +kernel
theorem d_Gr_hear_49 : decode b_Gr_hear 49 = .ok (.aload_n 0, 1) := by decide +kernel
theorem d_Gr_hear_50 : decode b_Gr_hear 50 = .ok (.getfield 12, 3) := by decide +kernel
theorem d_Gr_hear_53 : decode b_Gr_hear 53 = .ok (.invokevirtual 88, 3) := by decide +kernel
theorem d_Gr_hear_56 : decode b_Gr_hear 56 = .ok (.if_icmp .le 11, 3) := by decide +kernel
theorem d_Gr_hear_59 : decode b_Gr_hear 59 = .ok (.aload_n 0, 1) := by decide +kernel
theorem d_Gr_hear_60 : decode b_Gr_hear 60 = .ok (.iconst 4, 1) := by decide +kernel
theorem d_Gr_hear_61 : decode b_Gr_hear 61 = .ok (.invokevirtual 84, 3) := by decide +kernel
theorem d_Gr_hear_64 : decode b_Gr_hear 64 = .ok (.goto 45, 3) := by decide +kernel
theorem d_Gr_hear_67 : decode b_Gr_hear 67 = .ok (.aload_n 0, 1) := by decide +kernel
theorem d_Gr_hear_68 : decode b_Gr_hear 68 = .ok (.iload 4, 2) := by decide +kernel
theorem d_Gr_hear_70 : decode b_Gr_hear 70 = .ok (.iload_n 1, 1) := by decide +kernel
theorem d_Gr_hear_71 : decode b_Gr_hear 71 = .ok (.invokevirtual 92, 3) := by decide +kernel
theorem d_Gr_hear_74 : decode b_Gr_hear 74 = .ok (.aload_n 0, 1) := by decide +kernel
theorem d_Gr_hear_75 : decode b_Gr_hear 75 = .ok (.getfield 12, 3) := by decide +kernel
theorem d_Gr_hear_78 : decode b_Gr_hear 78 = .ok (.invokevirtual 88, 3) := by decide +kernel
theorem d_Gr_hear_81 : decode b_Gr_hear 81 = .ok (.ifCond .ne 12, 3) := by decide +kernel
theorem d_Gr_hear_84 : decode b_Gr_hear 84 = .ok (.aload_n 0, 1) := by decide +kernel
theorem d_Gr_hear_85 : decode b_Gr_hear 85 = .ok (.iload_n 2, 1) := by decide +kernel
theorem d_Gr_hear_86 : decode b_Gr_hear 86 = .ok (.iload_n 3, 1) := by decide +kernel
theorem d_Gr_hear_87 : decode b_Gr_hear 87 = .ok (.invokevirtual 96, 3) := by decide +kernel
theorem d_Gr_hear_90 : decode b_Gr_hear 90 = .ok (.goto 19, 3) := by decide +kernel
theorem d_Gr_hear_93 : decode b_Gr_hear 93 = .ok (.aload_n 0, 1) := by decide +kernel
theorem d_Gr_hear_94 : decode b_Gr_hear 94 = .ok (.iload_n 2, 1) := by decide +kernel
theorem d_Gr_hear_95 : decode b_Gr_hear 95 = .ok (.iload_n 3, 1) := by decide +kernel
theorem d_Gr_hear_96 : decode b_Gr_hear 96 = .ok (.iload 4, 2) := by decide +kernel
theorem d_Gr_hear_98 : decode b_Gr_hear 98 = .ok (.ifCond .le 7, 3) := by decide +kernel
theorem d_Gr_hear_101 : decode b_Gr_hear 101 = .ok (.iconst 1, 1) := by decide +kernel
theorem d_Gr_hear_102 : decode b_Gr_hear 102 = .ok (.goto 4, 3) := by decide +kernel
theorem d_Gr_hear_105 : decode b_Gr_hear 105 = .ok (.iconst 0, 1) := by decide +kernel
theorem d_Gr_hear_106 : decode b_Gr_hear 106 = .ok (.invokevirtual 100, 3) := by decide +kernel
theorem d_Gr_hear_109 : decode b_Gr_hear 109 = .ok (.return_, 1) := by decide +kernel
theorem d_Gr_tell_0 : decode b_Gr_tell 0 = .ok (.iload_n 1, 1) := by decide +kernel
theorem d_Gr_tell_1 : decode b_Gr_tell 1 = .ok (.tableswitch 101 0 7 #[47, 52, 57, 62, 70, 78, 91, 96], 47) := by decide +kernel
theorem d_Gr_tell_48 : decode b_Gr_tell 48 = .ok (.aload_n 0, 1) := by decide +kernel
theorem d_Gr_tell_49 : decode b_Gr_tell 49 = .ok (.getfield 18, 3) := by decide +kernel
theorem d_Gr_tell_52 : decode b_Gr_tell 52 = .ok (.ireturn, 1) := by decide +kernel
theorem d_Gr_tell_53 : decode b_Gr_tell 53 = .ok (.aload_n 0, 1) := by decide +kernel
theorem d_Gr_tell_54 : decode b_Gr_tell 54 = .ok (.getfield 35, 3) := by decide +kernel
theorem d_Gr_tell_57 : decode b_Gr_tell 57 = .ok (.ireturn, 1) := by decide +kernel
theorem d_Gr_tell_58 : decode b_Gr_tell 58 = .ok (.aload_n 0, 1) := by decide +kernel
theorem d_Gr_tell_59 : decode b_Gr_tell 59 = .ok (.getfield 38, 3) := by decide +kernel
theorem d_Gr_tell_62 : decode b_Gr_tell 62 = .ok (.ireturn, 1) := by decide +kernel
theorem d_Gr_tell_63 : decode b_Gr_tell 63 = .ok (.aload_n 0, 1) := by decide +kernel
theorem d_Gr_tell_64 : decode b_Gr_tell 64 = .ok (.getfield 12, 3) := by decide +kernel
theorem d_Gr_tell_67 : decode b_Gr_tell 67 = .ok (.invokevirtual 88, 3) := by decide +kernel
theorem d_Gr_tell_70 : decode b_Gr_tell 70 = .ok (.ireturn, 1) := by decide +kernel
theorem d_Gr_tell_71 : decode b_Gr_tell 71 = .ok (.aload_n 0, 1) := by decide +kernel
theorem d_Gr_tell_72 : decode b_Gr_tell 72 = .ok (.getfield 12, 3) := by decide +kernel
theorem d_Gr_tell_75 : decode b_Gr_tell 75 = .ok (.invokevirtual 104, 3) := by decide +kernel
theorem d_Gr_tell_78 : decode b_Gr_tell 78 = .ok (.ireturn, 1) := by decide +kernel
theorem d_Gr_tell_79 : decode b_Gr_tell 79 = .ok (.aload_n 0, 1) := by decide +kernel
theorem d_Gr_tell_80 : decode b_Gr_tell 80 = .ok (.getfield 60, 3) := by decide +kernel
theorem d_Gr_tell_83 : decode b_Gr_tell 83 = .ok (.ifCond .eq 7, 3) := by decide +kernel
theorem d_Gr_tell_86 : decode b_Gr_tell 86 = .ok (.iconst 1, 1) := by decide +kernel
theorem d_Gr_tell_87 : decode b_Gr_tell 87 = .ok (.goto 4, 3) := by decide +kernel
theorem d_Gr_tell_90 : decode b_Gr_tell 90 = .ok (.iconst 0, 1) := by decide +kernel
theorem d_Gr_tell_91 : decode b_Gr_tell 91 = .ok (.ireturn, 1) := by decide +kernel
theorem d_Gr_tell_92 : decode b_Gr_tell 92 = .ok (.aload_n 0, 1) := by decide +kernel
theorem d_Gr_tell_93 : decode b_Gr_tell 93 = .ok (.getfield 41, 3) := by decide +kernel
theorem d_Gr_tell_96 : decode b_Gr_tell 96 = .ok (.ireturn, 1) := by decide +kernel
theorem d_Gr_tell_97 : decode b_Gr_tell 97 = .ok (.aload_n 0, 1) := by decide +kernel
theorem d_Gr_tell_98 : decode b_Gr_tell 98 = .ok (.getfield 47, 3) := by decide +kernel
theorem d_Gr_tell_101 : decode b_Gr_tell 101 = .ok (.ireturn, 1) := by decide +kernel
theorem d_Gr_tell_102 : decode b_Gr_tell 102 = .ok (.aload_n 0, 1) := by decide +kernel
theorem d_Gr_tell_103 : decode b_Gr_tell 103 = .ok (.getfield 44, 3) := by decide +kernel
theorem d_Gr_tell_106 : decode b_Gr_tell 106 = .ok (.ireturn, 1) := by decide +kernel
theorem d_Gr_isSending_0 : decode b_Gr_isSending 0 = .ok (.aload_n 0, 1) := by decide +kernel
theorem d_Gr_isSending_1 : decode b_Gr_isSending 1 = .ok (.getfield 18, 3) := by decide +kernel
theorem d_Gr_isSending_4 : decode b_Gr_isSending 4 = .ok (.iconst 1, 1) := by decide +kernel
theorem d_Gr_isSending_5 : decode b_Gr_isSending 5 = .ok (.if_icmp .eq 11, 3) := by decide +kernel
theorem d_Gr_isSending_8 : decode b_Gr_isSending 8 = .ok (.aload_n 0, 1) := by decide +kernel
theorem d_Gr_isSending_9 : decode b_Gr_isSending 9 = .ok (.getfield 18, 3) := by decide +kernel
theorem d_Gr_isSending_12 : decode b_Gr_isSending 12 = .ok (.iconst 2, 1) := by decide +kernel
theorem d_Gr_isSending_13 : decode b_Gr_isSending 13 = .ok (.if_icmp .ne 7, 3) := by decide +kernel
theorem d_Gr_isSending_16 : decode b_Gr_isSending 16 = .ok (.iconst 1, 1) := by decide +kernel
theorem d_Gr_isSending_17 : decode b_Gr_isSending 17 = .ok (.goto 4, 3) := by decide +kernel
theorem d_Gr_isSending_20 : decode b_Gr_isSending 20 = .ok (.iconst 0, 1) := by decide +kernel
theorem d_Gr_isSending_21 : decode b_Gr_isSending 21 = .ok (.ireturn, 1) := by decide +kernel
theorem d_Gr_alarm_0 : decode b_Gr_alarm 0 = .ok (.aload_n 0, 1) := by decide +kernel
theorem d_Gr_alarm_1 : decode b_Gr_alarm 1 = .ok (.iload_n 1, 1) := by decide +kernel
theorem d_Gr_alarm_2 : decode b_Gr_alarm 2 = .ok (.putfield 44, 3) := by decide +kernel
theorem d_Gr_alarm_5 : decode b_Gr_alarm 5 = .ok (.aload_n 0, 1) := by decide +kernel
theorem d_Gr_alarm_6 : decode b_Gr_alarm 6 = .ok (.invokevirtual 107, 3) := by decide +kernel
theorem d_Gr_alarm_9 : decode b_Gr_alarm 9 = .ok (.return_, 1) := by decide +kernel
theorem d_Gr_tryAgain_0 : decode b_Gr_tryAgain 0 = .ok (.aload_n 0, 1) := by decide +kernel
theorem d_Gr_tryAgain_1 : decode b_Gr_tryAgain 1 = .ok (.dup, 1) := by decide +kernel
theorem d_Gr_tryAgain_2 : decode b_Gr_tryAgain 2 = .ok (.getfield 41, 3) := by decide +kernel
theorem d_Gr_tryAgain_5 : decode b_Gr_tryAgain 5 = .ok (.iconst 1, 1) := by decide +kernel
theorem d_Gr_tryAgain_6 : decode b_Gr_tryAgain 6 = .ok (.iadd, 1) := by decide +kernel
theorem d_Gr_tryAgain_7 : decode b_Gr_tryAgain 7 = .ok (.putfield 41, 3) := by decide +kernel
theorem d_Gr_tryAgain_10 : decode b_Gr_tryAgain 10 = .ok (.aload_n 0, 1) := by decide +kernel
theorem d_Gr_tryAgain_11 : decode b_Gr_tryAgain 11 = .ok (.getfield 12, 3) := by decide +kernel
theorem d_Gr_tryAgain_14 : decode b_Gr_tryAgain 14 = .ok (.invokevirtual 110, 3) := by decide +kernel
theorem d_Gr_tryAgain_17 : decode b_Gr_tryAgain 17 = .ok (.return_, 1) := by decide +kernel
theorem d_Gr_resend_0 : decode b_Gr_resend 0 = .ok (.aload_n 0, 1) := by decide +kernel
theorem d_Gr_resend_1 : decode b_Gr_resend 1 = .ok (.getfield 41, 3) := by decide +kernel
theorem d_Gr_resend_4 : decode b_Gr_resend 4 = .ok (.aload_n 0, 1) := by decide +kernel
theorem d_Gr_resend_5 : decode b_Gr_resend 5 = .ok (.getfield 25, 3) := by decide +kernel
theorem d_Gr_resend_8 : decode b_Gr_resend 8 = .ok (.if_icmp .lt 11, 3) := by decide +kernel
theorem d_Gr_resend_11 : decode b_Gr_resend 11 = .ok (.aload_n 0, 1) := by decide +kernel
theorem d_Gr_resend_12 : decode b_Gr_resend 12 = .ok (.iconst 1, 1) := by decide +kernel
theorem d_Gr_resend_13 : decode b_Gr_resend 13 = .ok (.invokevirtual 84, 3) := by decide +kernel
theorem d_Gr_resend_16 : decode b_Gr_resend 16 = .ok (.goto 12, 3) := by decide +kernel
theorem d_Gr_resend_19 : decode b_Gr_resend 19 = .ok (.aload_n 0, 1) := by decide +kernel
theorem d_Gr_resend_20 : decode b_Gr_resend 20 = .ok (.invokevirtual 113, 3) := by decide +kernel
theorem d_Gr_resend_23 : decode b_Gr_resend 23 = .ok (.aload_n 0, 1) := by decide +kernel
theorem d_Gr_resend_24 : decode b_Gr_resend 24 = .ok (.iconst 2, 1) := by decide +kernel
theorem d_Gr_resend_25 : decode b_Gr_resend 25 = .ok (.putfield 18, 3) := by decide +kernel
theorem d_Gr_resend_28 : decode b_Gr_resend 28 = .ok (.return_, 1) := by decide +kernel
theorem d_Gr_runOut_0 : decode b_Gr_runOut 0 = .ok (.aload_n 0, 1) := by decide +kernel
theorem d_Gr_runOut_1 : decode b_Gr_runOut 1 = .ok (.getfield 18, 3) := by decide +kernel
theorem d_Gr_runOut_4 : decode b_Gr_runOut 4 = .ok (.iconst 4, 1) := by decide +kernel
theorem d_Gr_runOut_5 : decode b_Gr_runOut 5 = .ok (.if_icmp .eq 14, 3) := by decide +kernel
theorem d_Gr_runOut_8 : decode b_Gr_runOut 8 = .ok (.aload_n 0, 1) := by decide +kernel
theorem d_Gr_runOut_9 : decode b_Gr_runOut 9 = .ok (.getfield 41, 3) := by decide +kernel
theorem d_Gr_runOut_12 : decode b_Gr_runOut 12 = .ok (.aload_n 0, 1) := by decide +kernel
theorem d_Gr_runOut_13 : decode b_Gr_runOut 13 = .ok (.getfield 25, 3) := by decide +kernel
theorem d_Gr_runOut_16 : decode b_Gr_runOut 16 = .ok (.if_icmp .lt 11, 3) := by decide +kernel
theorem d_Gr_runOut_19 : decode b_Gr_runOut 19 = .ok (.aload_n 0, 1) := by decide +kernel
theorem d_Gr_runOut_20 : decode b_Gr_runOut 20 = .ok (.iconst 5, 1) := by decide +kernel
theorem d_Gr_runOut_21 : decode b_Gr_runOut 21 = .ok (.invokevirtual 84, 3) := by decide +kernel
theorem d_Gr_runOut_24 : decode b_Gr_runOut 24 = .ok (.goto 40, 3) := by decide +kernel
theorem d_Gr_runOut_27 : decode b_Gr_runOut 27 = .ok (.aload_n 0, 1) := by decide +kernel
theorem d_Gr_runOut_28 : decode b_Gr_runOut 28 = .ok (.getfield 18, 3) := by decide +kernel
theorem d_Gr_runOut_31 : decode b_Gr_runOut 31 = .ok (.iconst 5, 1) := by decide +kernel
theorem d_Gr_runOut_32 : decode b_Gr_runOut 32 = .ok (.if_icmp .ne 21, 3) := by decide +kernel
theorem d_Gr_runOut_35 : decode b_Gr_runOut 35 = .ok (.aload_n 0, 1) := by decide +kernel
theorem d_Gr_runOut_36 : decode b_Gr_runOut 36 = .ok (.dup, 1) := by decide +kernel
theorem d_Gr_runOut_37 : decode b_Gr_runOut 37 = .ok (.getfield 41, 3) := by decide +kernel
theorem d_Gr_runOut_40 : decode b_Gr_runOut 40 = .ok (.iconst 1, 1) := by decide +kernel
theorem d_Gr_runOut_41 : decode b_Gr_runOut 41 = .ok (.iadd, 1) := by decide +kernel
theorem d_Gr_runOut_42 : decode b_Gr_runOut 42 = .ok (.putfield 41, 3) := by decide +kernel
theorem d_Gr_runOut_45 : decode b_Gr_runOut 45 = .ok (.aload_n 0, 1) := by decide +kernel
theorem d_Gr_runOut_46 : decode b_Gr_runOut 46 = .ok (.iconst 1, 1) := by decide +kernel
theorem d_Gr_runOut_47 : decode b_Gr_runOut 47 = .ok (.putfield 53, 3) := by decide +kernel
theorem d_Gr_runOut_50 : decode b_Gr_runOut 50 = .ok (.goto 14, 3) := by decide +kernel
theorem d_Gr_runOut_53 : decode b_Gr_runOut 53 = .ok (.aload_n 0, 1) := by decide +kernel
theorem d_Gr_runOut_54 : decode b_Gr_runOut 54 = .ok (.invokevirtual 31, 3) := by decide +kernel
theorem d_Gr_runOut_57 : decode b_Gr_runOut 57 = .ok (.ifCond .eq 7, 3) := by decide +kernel
theorem d_Gr_runOut_60 : decode b_Gr_runOut 60 = .ok (.aload_n 0, 1) := by decide +kernel
theorem d_Gr_runOut_61 : decode b_Gr_runOut 61 = .ok (.invokevirtual 113, 3) := by decide +kernel
theorem d_Gr_runOut_64 : decode b_Gr_runOut 64 = .ok (.return_, 1) := by decide +kernel
theorem d_Gr_sendStart_0 : decode b_Gr_sendStart 0 = .ok (.aload_n 0, 1) := by decide +kernel
theorem d_Gr_sendStart_1 : decode b_Gr_sendStart 1 = .ok (.iconst 0, 1) := by decide +kernel
theorem d_Gr_sendStart_2 : decode b_Gr_sendStart 2 = .ok (.putfield 53, 3) := by decide +kernel
theorem d_Gr_sendStart_5 : decode b_Gr_sendStart 5 = .ok (.aload_n 0, 1) := by decide +kernel
theorem d_Gr_sendStart_6 : decode b_Gr_sendStart 6 = .ok (.aload_n 1, 1) := by decide +kernel
theorem d_Gr_sendStart_7 : decode b_Gr_sendStart 7 = .ok (.aload_n 0, 1) := by decide +kernel
theorem d_Gr_sendStart_8 : decode b_Gr_sendStart 8 = .ok (.getfield 50, 3) := by decide +kernel
theorem d_Gr_sendStart_11 : decode b_Gr_sendStart 11 = .ok (.aload_n 0, 1) := by decide +kernel
theorem d_Gr_sendStart_12 : decode b_Gr_sendStart 12 = .ok (.getfield 50, 3) := by decide +kernel
theorem d_Gr_sendStart_15 : decode b_Gr_sendStart 15 = .ok (.iconst 2, 1) := by decide +kernel
theorem d_Gr_sendStart_16 : decode b_Gr_sendStart 16 = .ok (.if_icmp .ne 10, 3) := by decide +kernel
theorem d_Gr_sendStart_19 : decode b_Gr_sendStart 19 = .ok (.aload_n 0, 1) := by decide +kernel
theorem d_Gr_sendStart_20 : decode b_Gr_sendStart 20 = .ok (.getfield 35, 3) := by decide +kernel
theorem d_Gr_sendStart_23 : decode b_Gr_sendStart 23 = .ok (.goto 4, 3) := by decide +kernel
theorem d_Gr_sendStart_26 : decode b_Gr_sendStart 26 = .ok (.iconst 0, 1) := by decide +kernel
theorem d_Gr_sendStart_27 : decode b_Gr_sendStart 27 = .ok (.iconst 0, 1) := by decide +kernel
theorem d_Gr_sendStart_28 : decode b_Gr_sendStart 28 = .ok (.invokevirtual 116, 3) := by decide +kernel
theorem d_Gr_sendStart_31 : decode b_Gr_sendStart 31 = .ok (.ireturn, 1) := by decide +kernel
theorem d_Gr_sendCommand_0 : decode b_Gr_sendCommand 0 = .ok (.aload_n 0, 1) := by decide +kernel
theorem d_Gr_sendCommand_1 : decode b_Gr_sendCommand 1 = .ok (.getfield 12, 3) := by decide +kernel
theorem d_Gr_sendCommand_4 : decode b_Gr_sendCommand 4 = .ok (.invokevirtual 120, 3) := by decide +kernel
theorem d_Gr_sendCommand_7 : decode b_Gr_sendCommand 7 = .ok (.istore_n 2, 1) := by decide +kernel
theorem d_Gr_sendCommand_8 : decode b_Gr_sendCommand 8 = .ok (.iload_n 2, 1) := by decide +kernel
theorem d_Gr_sendCommand_9 : decode b_Gr_sendCommand 9 = .ok (.ifCond .lt 34, 3) := by decide +kernel
theorem d_Gr_sendCommand_12 : decode b_Gr_sendCommand 12 = .ok (.aload_n 0, 1) := by decide +kernel
theorem d_Gr_sendCommand_13 : decode b_Gr_sendCommand 13 = .ok (.getfield 12, 3) := by decide +kernel
theorem d_Gr_sendCommand_16 : decode b_Gr_sendCommand 16 = .ok (.iload_n 2, 1) := by decide +kernel
theorem d_Gr_sendCommand_17 : decode b_Gr_sendCommand 17 = .ok (.invokevirtual 123, 3) := by decide +kernel
theorem d_Gr_sendCommand_20 : decode b_Gr_sendCommand 20 = .ok (.aload_n 0, 1) := by decide +kernel
theorem d_Gr_sendCommand_21 : decode b_Gr_sendCommand 21 = .ok (.aload_n 1, 1) := by decide +kernel
theorem d_Gr_sendCommand_22 : decode b_Gr_sendCommand 22 = .ok (.iconst 0, 1) := by decide +kernel
theorem d_Gr_sendCommand_23 : decode b_Gr_sendCommand 23 = .ok (.aload_n 0, 1) := by decide +kernel
theorem d_Gr_sendCommand_24 : decode b_Gr_sendCommand 24 = .ok (.getfield 12, 3) := by decide +kernel
theorem d_Gr_sendCommand_27 : decode b_Gr_sendCommand 27 = .ok (.iload_n 2, 1) := by decide +kernel
theorem d_Gr_sendCommand_28 : decode b_Gr_sendCommand 28 = .ok (.invokevirtual 126, 3) := by decide +kernel
theorem d_Gr_sendCommand_31 : decode b_Gr_sendCommand 31 = .ok (.aload_n 0, 1) := by decide +kernel
theorem d_Gr_sendCommand_32 : decode b_Gr_sendCommand 32 = .ok (.getfield 12, 3) := by decide +kernel
theorem d_Gr_sendCommand_35 : decode b_Gr_sendCommand 35 = .ok (.iload_n 2, 1) := by decide +kernel
theorem d_Gr_sendCommand_36 : decode b_Gr_sendCommand 36 = .ok (.invokevirtual 130, 3) := by decide +kernel
theorem d_Gr_sendCommand_39 : decode b_Gr_sendCommand 39 = .ok (.invokevirtual 116, 3) := by decide +kernel
theorem d_Gr_sendCommand_42 : decode b_Gr_sendCommand 42 = .ok (.ireturn, 1) := by decide +kernel
theorem d_Gr_sendCommand_43 : decode b_Gr_sendCommand 43 = .ok (.aload_n 0, 1) := by decide +kernel
theorem d_Gr_sendCommand_44 : decode b_Gr_sendCommand 44 = .ok (.getfield 60, 3) := by decide +kernel
theorem d_Gr_sendCommand_47 : decode b_Gr_sendCommand 47 = .ok (.ifCond .eq 23, 3) := by decide +kernel
theorem d_Gr_sendCommand_50 : decode b_Gr_sendCommand 50 = .ok (.aload_n 0, 1) := by decide +kernel
theorem d_Gr_sendCommand_51 : decode b_Gr_sendCommand 51 = .ok (.getfield 12, 3) := by decide +kernel
theorem d_Gr_sendCommand_54 : decode b_Gr_sendCommand 54 = .ok (.invokevirtual 88, 3) := by decide +kernel
theorem d_Gr_sendCommand_57 : decode b_Gr_sendCommand 57 = .ok (.aload_n 0, 1) := by decide +kernel
theorem d_Gr_sendCommand_58 : decode b_Gr_sendCommand 58 = .ok (.getfield 22, 3) := by decide +kernel
theorem d_Gr_sendCommand_61 : decode b_Gr_sendCommand 61 = .ok (.if_icmp .ge 9, 3) := by decide +kernel
theorem d_Gr_sendCommand_64 : decode b_Gr_sendCommand 64 = .ok (.aload_n 0, 1) := by decide +kernel
theorem d_Gr_sendCommand_65 : decode b_Gr_sendCommand 65 = .ok (.aload_n 1, 1) := by decide +kernel
theorem d_Gr_sendCommand_66 : decode b_Gr_sendCommand 66 = .ok (.invokevirtual 133, 3) := by decide +kernel
theorem d_Gr_sendCommand_69 : decode b_Gr_sendCommand 69 = .ok (.ireturn, 1) := by decide +kernel
theorem d_Gr_sendCommand_70 : decode b_Gr_sendCommand 70 = .ok (.iconst (-1), 1) := by decide +kernel
theorem d_Gr_sendCommand_71 : decode b_Gr_sendCommand 71 = .ok (.ireturn, 1) := by decide +kernel
theorem d_Gr_sendSlot_0 : decode b_Gr_sendSlot 0 = .ok (.aload_n 0, 1) := by decide +kernel
theorem d_Gr_sendSlot_1 : decode b_Gr_sendSlot 1 = .ok (.getfield 35, 3) := by decide +kernel
theorem d_Gr_sendSlot_4 : decode b_Gr_sendSlot 4 = .ok (.istore_n 2, 1) := by decide +kernel
theorem d_Gr_sendSlot_5 : decode b_Gr_sendSlot 5 = .ok (.aload_n 0, 1) := by decide +kernel
theorem d_Gr_sendSlot_6 : decode b_Gr_sendSlot 6 = .ok (.getfield 12, 3) := by decide +kernel
theorem d_Gr_sendSlot_9 : decode b_Gr_sendSlot 9 = .ok (.iload_n 2, 1) := by decide +kernel
theorem d_Gr_sendSlot_10 : decode b_Gr_sendSlot 10 = .ok (.aload_n 0, 1) := by decide +kernel
theorem d_Gr_sendSlot_11 : decode b_Gr_sendSlot 11 = .ok (.getfield 63, 3) := by decide +kernel
theorem d_Gr_sendSlot_14 : decode b_Gr_sendSlot 14 = .ok (.invokevirtual 136, 3) := by decide +kernel
theorem d_Gr_sendSlot_17 : decode b_Gr_sendSlot 17 = .ok (.aload_n 0, 1) := by decide +kernel
theorem d_Gr_sendSlot_18 : decode b_Gr_sendSlot 18 = .ok (.aload_n 0, 1) := by decide +kernel
theorem d_Gr_sendSlot_19 : decode b_Gr_sendSlot 19 = .ok (.getfield 35, 3) := by decide +kernel
theorem d_Gr_sendSlot_22 : decode b_Gr_sendSlot 22 = .ok (.invokestatic 139, 3) := by decide +kernel
theorem d_Gr_sendSlot_25 : decode b_Gr_sendSlot 25 = .ok (.putfield 35, 3) := by decide +kernel
theorem d_Gr_sendSlot_28 : decode b_Gr_sendSlot 28 = .ok (.aload_n 0, 1) := by decide +kernel
theorem d_Gr_sendSlot_29 : decode b_Gr_sendSlot 29 = .ok (.iconst 0, 1) := by decide +kernel
theorem d_Gr_sendSlot_30 : decode b_Gr_sendSlot 30 = .ok (.putfield 60, 3) := by decide +kernel
theorem d_Gr_sendSlot_33 : decode b_Gr_sendSlot 33 = .ok (.aload_n 0, 1) := by decide +kernel
theorem d_Gr_sendSlot_34 : decode b_Gr_sendSlot 34 = .ok (.getfield 12, 3) := by decide +kernel
theorem d_Gr_sendSlot_37 : decode b_Gr_sendSlot 37 = .ok (.invokevirtual 88, 3) := by decide +kernel
theorem d_Gr_sendSlot_40 : decode b_Gr_sendSlot 40 = .ok (.iconst 1, 1) := by decide +kernel
theorem d_Gr_sendSlot_41 : decode b_Gr_sendSlot 41 = .ok (.if_icmp .ne 8, 3) := by decide +kernel
theorem d_Gr_sendSlot_44 : decode b_Gr_sendSlot 44 = .ok (.aload_n 0, 1) := by decide +kernel
theorem d_Gr_sendSlot_45 : decode b_Gr_sendSlot 45 = .ok (.iconst 1, 1) := by decide +kernel
theorem d_Gr_sendSlot_46 : decode b_Gr_sendSlot 46 = .ok (.putfield 41, 3) := by decide +kernel
theorem d_Gr_sendSlot_49 : decode b_Gr_sendSlot 49 = .ok (.aload_n 0, 1) := by decide +kernel
theorem d_Gr_sendSlot_50 : decode b_Gr_sendSlot 50 = .ok (.aload_n 1, 1) := by decide +kernel
theorem d_Gr_sendSlot_51 : decode b_Gr_sendSlot 51 = .ok (.iconst 0, 1) := by decide +kernel
theorem d_Gr_sendSlot_52 : decode b_Gr_sendSlot 52 = .ok (.iload_n 2, 1) := by decide +kernel
theorem d_Gr_sendSlot_53 : decode b_Gr_sendSlot 53 = .ok (.aload_n 0, 1) := by decide +kernel
theorem d_Gr_sendSlot_54 : decode b_Gr_sendSlot 54 = .ok (.getfield 63, 3) := by decide +kernel
theorem d_Gr_sendSlot_57 : decode b_Gr_sendSlot 57 = .ok (.invokevirtual 116, 3) := by decide +kernel
theorem d_Gr_sendSlot_60 : decode b_Gr_sendSlot 60 = .ok (.ireturn, 1) := by decide +kernel
theorem d_Gr_send_0 : decode b_Gr_send 0 = .ok (.aload_n 1, 1) := by decide +kernel
theorem d_Gr_send_1 : decode b_Gr_send 1 = .ok (.iload_n 2, 1) := by decide +kernel
theorem d_Gr_send_2 : decode b_Gr_send 2 = .ok (.iload_n 3, 1) := by decide +kernel
theorem d_Gr_send_3 : decode b_Gr_send 3 = .ok (.iload 4, 2) := by decide +kernel
theorem d_Gr_send_5 : decode b_Gr_send 5 = .ok (.invokevirtual 142, 3) := by decide +kernel
theorem d_Gr_send_8 : decode b_Gr_send 8 = .ok (.aload_n 0, 1) := by decide +kernel
theorem d_Gr_send_9 : decode b_Gr_send 9 = .ok (.aload_n 0, 1) := by decide +kernel
theorem d_Gr_send_10 : decode b_Gr_send 10 = .ok (.getfield 28, 3) := by decide +kernel
theorem d_Gr_send_13 : decode b_Gr_send 13 = .ok (.putfield 47, 3) := by decide +kernel
theorem d_Gr_send_16 : decode b_Gr_send 16 = .ok (.iload_n 2, 1) := by decide +kernel
theorem d_Gr_send_17 : decode b_Gr_send 17 = .ok (.ireturn, 1) := by decide +kernel
theorem d_Gr_hearAtStart_0 : decode b_Gr_hearAtStart 0 = .ok (.iload_n 3, 1) := by decide +kernel
theorem d_Gr_hearAtStart_1 : decode b_Gr_hearAtStart 1 = .ok (.ifCond .ne 30, 3) := by decide +kernel
theorem d_Gr_hearAtStart_4 : decode b_Gr_hearAtStart 4 = .ok (.iload_n 2, 1) := by decide +kernel
theorem d_Gr_hearAtStart_5 : decode b_Gr_hearAtStart 5 = .ok (.ifCond .ne 26, 3) := by decide +kernel
theorem d_Gr_hearAtStart_8 : decode b_Gr_hearAtStart 8 = .ok (.iload_n 1, 1) := by decide +kernel
theorem d_Gr_hearAtStart_9 : decode b_Gr_hearAtStart 9 = .ok (.aload_n 0, 1) := by decide +kernel
theorem d_Gr_hearAtStart_10 : decode b_Gr_hearAtStart 10 = .ok (.getfield 35, 3) := by decide +kernel
theorem d_Gr_hearAtStart_13 : decode b_Gr_hearAtStart 13 = .ok (.if_icmp .ne 18, 3) := by decide +kernel
theorem d_Gr_hearAtStart_16 : decode b_Gr_hearAtStart 16 = .ok (.aload_n 0, 1) := by decide +kernel
theorem d_Gr_hearAtStart_17 : decode b_Gr_hearAtStart 17 = .ok (.iconst 1, 1) := by decide +kernel
theorem d_Gr_hearAtStart_18 : decode b_Gr_hearAtStart 18 = .ok (.putfield 18, 3) := by decide +kernel
theorem d_Gr_hearAtStart_21 : decode b_Gr_hearAtStart 21 = .ok (.aload_n 0, 1) := by decide +kernel
theorem d_Gr_hearAtStart_22 : decode b_Gr_hearAtStart 22 = .ok (.iconst 1, 1) := by decide +kernel
theorem d_Gr_hearAtStart_23 : decode b_Gr_hearAtStart 23 = .ok (.putfield 41, 3) := by decide +kernel
theorem d_Gr_hearAtStart_26 : decode b_Gr_hearAtStart 26 = .ok (.aload_n 0, 1) := by decide +kernel
theorem d_Gr_hearAtStart_27 : decode b_Gr_hearAtStart 27 = .ok (.iconst 0, 1) := by decide +kernel
theorem d_Gr_hearAtStart_28 : decode b_Gr_hearAtStart 28 = .ok (.putfield 47, 3) := by decide +kernel
theorem d_Gr_hearAtStart_31 : decode b_Gr_hearAtStart 31 = .ok (.return_, 1) := by decide +kernel
theorem d_Gr_acknowledge_0 : decode b_Gr_acknowledge 0 = .ok (.aload_n 0, 1) := by decide +kernel
theorem d_Gr_acknowledge_1 : decode b_Gr_acknowledge 1 = .ok (.getfield 12, 3) := by decide +kernel
theorem d_Gr_acknowledge_4 : decode b_Gr_acknowledge 4 = .ok (.iload_n 1, 1) := by decide +kernel
theorem d_Gr_acknowledge_5 : decode b_Gr_acknowledge 5 = .ok (.invokevirtual 147, 3) := by decide +kernel
theorem d_Gr_acknowledge_8 : decode b_Gr_acknowledge 8 = .ok (.aload_n 0, 1) := by decide +kernel
theorem d_Gr_acknowledge_9 : decode b_Gr_acknowledge 9 = .ok (.iload_n 2, 1) := by decide +kernel
theorem d_Gr_acknowledge_10 : decode b_Gr_acknowledge 10 = .ok (.putfield 38, 3) := by decide +kernel
theorem d_Gr_acknowledge_13 : decode b_Gr_acknowledge 13 = .ok (.iload_n 1, 1) := by decide +kernel
theorem d_Gr_acknowledge_14 : decode b_Gr_acknowledge 14 = .ok (.ifCond .le 8, 3) := by decide +kernel
theorem d_Gr_acknowledge_17 : decode b_Gr_acknowledge 17 = .ok (.aload_n 0, 1) := by decide +kernel
theorem d_Gr_acknowledge_18 : decode b_Gr_acknowledge 18 = .ok (.iconst 1, 1) := by decide +kernel
theorem d_Gr_acknowledge_19 : decode b_Gr_acknowledge 19 = .ok (.putfield 41, 3) := by decide +kernel
theorem d_Gr_acknowledge_22 : decode b_Gr_acknowledge 22 = .ok (.return_, 1) := by decide +kernel
theorem d_Gr_hearWithNonePending_0 : decode b_Gr_hearWithNonePending 0 = .ok (.iload_n 1, 1) := by decide +kernel
theorem d_Gr_hearWithNonePending_1 : decode b_Gr_hearWithNonePending 1 = .ok (.ifCond .eq 11, 3) := by decide +kernel
theorem d_Gr_hearWithNonePending_4 : decode b_Gr_hearWithNonePending 4 = .ok (.aload_n 0, 1) := by decide +kernel
theorem d_Gr_hearWithNonePending_5 : decode b_Gr_hearWithNonePending 5 = .ok (.iconst 3, 1) := by decide +kernel
theorem d_Gr_hearWithNonePending_6 : decode b_Gr_hearWithNonePending 6 = .ok (.invokevirtual 84, 3) := by decide +kernel
theorem d_Gr_hearWithNonePending_9 : decode b_Gr_hearWithNonePending 9 = .ok (.goto 27, 3) := by decide +kernel
theorem d_Gr_hearWithNonePending_12 : decode b_Gr_hearWithNonePending 12 = .ok (.iload_n 2, 1) := by decide +kernel
theorem d_Gr_hearWithNonePending_13 : decode b_Gr_hearWithNonePending 13 = .ok (.iconst 1, 1) := by decide +kernel
theorem d_Gr_hearWithNonePending_14 : decode b_Gr_hearWithNonePending 14 = .ok (.if_icmp .ne 12, 3) := by decide +kernel
theorem d_Gr_hearWithNonePending_17 : decode b_Gr_hearWithNonePending 17 = .ok (.aload_n 0, 1) := by decide +kernel
theorem d_Gr_hearWithNonePending_18 : decode b_Gr_hearWithNonePending 18 = .ok (.bipush 6, 2) := by decide +kernel
theorem d_Gr_hearWithNonePending_20 : decode b_Gr_hearWithNonePending 20 = .ok (.invokevirtual 84, 3) := by decide +kernel
theorem d_Gr_hearWithNonePending_23 : decode b_Gr_hearWithNonePending 23 = .ok (.goto 13, 3) := by decide +kernel
theorem d_Gr_hearWithNonePending_26 : decode b_Gr_hearWithNonePending 26 = .ok (.aload_n 0, 1) := by decide +kernel
theorem d_Gr_hearWithNonePending_27 : decode b_Gr_hearWithNonePending 27 = .ok (.iconst 1, 1) := by decide +kernel
theorem d_Gr_hearWithNonePending_28 : decode b_Gr_hearWithNonePending 28 = .ok (.putfield 18, 3) := by decide +kernel
theorem d_Gr_hearWithNonePending_31 : decode b_Gr_hearWithNonePending 31 = .ok (.aload_n 0, 1) := by decide +kernel
theorem d_Gr_hearWithNonePending_32 : decode b_Gr_hearWithNonePending 32 = .ok (.iconst 0, 1) := by decide +kernel
theorem d_Gr_hearWithNonePending_33 : decode b_Gr_hearWithNonePending 33 = .ok (.putfield 47, 3) := by decide +kernel
theorem d_Gr_hearWithNonePending_36 : decode b_Gr_hearWithNonePending 36 = .ok (.return_, 1) := by decide +kernel
theorem d_Gr_hearWithSomePending_0 : decode b_Gr_hearWithSomePending 0 = .ok (.iload_n 1, 1) := by decide +kernel
theorem d_Gr_hearWithSomePending_1 : decode b_Gr_hearWithSomePending 1 = .ok (.ifCond .ne 17, 3) := by decide +kernel
theorem d_Gr_hearWithSomePending_4 : decode b_Gr_hearWithSomePending 4 = .ok (.iload_n 2, 1) := by decide +kernel
theorem d_Gr_hearWithSomePending_5 : decode b_Gr_hearWithSomePending 5 = .ok (.iconst 1, 1) := by decide +kernel
theorem d_Gr_hearWithSomePending_6 : decode b_Gr_hearWithSomePending 6 = .ok (.if_icmp .ne 12, 3) := by decide +kernel
theorem d_Gr_hearWithSomePending_9 : decode b_Gr_hearWithSomePending 9 = .ok (.aload_n 0, 1) := by decide +kernel
theorem d_Gr_hearWithSomePending_10 : decode b_Gr_hearWithSomePending 10 = .ok (.bipush 6, 2) := by decide +kernel
theorem d_Gr_hearWithSomePending_12 : decode b_Gr_hearWithSomePending 12 = .ok (.invokevirtual 84, 3) := by decide +kernel
theorem d_Gr_hearWithSomePending_15 : decode b_Gr_hearWithSomePending 15 = .ok (.goto 69, 3) := by decide +kernel
theorem d_Gr_hearWithSomePending_18 : decode b_Gr_hearWithSomePending 18 = .ok (.iload_n 1, 1) := by decide +kernel
theorem d_Gr_hearWithSomePending_19 : decode b_Gr_hearWithSomePending 19 = .ok (.ifCond .ne 11, 3) := by decide +kernel
theorem d_Gr_hearWithSomePending_22 : decode b_Gr_hearWithSomePending 22 = .ok (.aload_n 0, 1) := by decide +kernel
theorem d_Gr_hearWithSomePending_23 : decode b_Gr_hearWithSomePending 23 = .ok (.iconst 1, 1) := by decide +kernel
theorem d_Gr_hearWithSomePending_24 : decode b_Gr_hearWithSomePending 24 = .ok (.putfield 18, 3) := by decide +kernel
theorem d_Gr_hearWithSomePending_27 : decode b_Gr_hearWithSomePending 27 = .ok (.goto 57, 3) := by decide +kernel
theorem d_Gr_hearWithSomePending_30 : decode b_Gr_hearWithSomePending 30 = .ok (.iload_n 2, 1) := by decide +kernel
theorem d_Gr_hearWithSomePending_31 : decode b_Gr_hearWithSomePending 31 = .ok (.iconst 1, 1) := by decide +kernel
theorem d_Gr_hearWithSomePending_32 : decode b_Gr_hearWithSomePending 32 = .ok (.if_icmp .ne 23, 3) := by decide +kernel
theorem d_Gr_hearWithSomePending_35 : decode b_Gr_hearWithSomePending 35 = .ok (.aload_n 0, 1) := by decide +kernel
theorem d_Gr_hearWithSomePending_36 : decode b_Gr_hearWithSomePending 36 = .ok (.getfield 25, 3) := by decide +kernel
theorem d_Gr_hearWithSomePending_39 : decode b_Gr_hearWithSomePending 39 = .ok (.iconst 1, 1) := by decide +kernel
theorem d_Gr_hearWithSomePending_40 : decode b_Gr_hearWithSomePending 40 = .ok (.if_icmp .ne 15, 3) := by decide +kernel
theorem d_Gr_hearWithSomePending_43 : decode b_Gr_hearWithSomePending 43 = .ok (.iload_n 3, 1) := by decide +kernel
theorem d_Gr_hearWithSomePending_44 : decode b_Gr_hearWithSomePending 44 = .ok (.ifCond .eq 11, 3) := by decide +kernel
theorem d_Gr_hearWithSomePending_47 : decode b_Gr_hearWithSomePending 47 = .ok (.aload_n 0, 1) := by decide +kernel
theorem d_Gr_hearWithSomePending_48 : decode b_Gr_hearWithSomePending 48 = .ok (.iconst 1, 1) := by decide +kernel
theorem d_Gr_hearWithSomePending_49 : decode b_Gr_hearWithSomePending 49 = .ok (.invokevirtual 84, 3) := by decide +kernel
theorem d_Gr_hearWithSomePending_52 : decode b_Gr_hearWithSomePending 52 = .ok (.goto 32, 3) := by decide +kernel
theorem d_Gr_hearWithSomePending_55 : decode b_Gr_hearWithSomePending 55 = .ok (.iload_n 2, 1) := by decide +kernel
theorem d_Gr_hearWithSomePending_56 : decode b_Gr_hearWithSomePending 56 = .ok (.iconst 1, 1) := by decide +kernel
theorem d_Gr_hearWithSomePending_57 : decode b_Gr_hearWithSomePending 57 = .ok (.if_icmp .ne 11, 3) := by decide +kernel
theorem d_Gr_hearWithSomePending_60 : decode b_Gr_hearWithSomePending 60 = .ok (.aload_n 0, 1) := by decide +kernel
theorem d_Gr_hearWithSomePending_61 : decode b_Gr_hearWithSomePending 61 = .ok (.iconst 3, 1) := by decide +kernel
theorem d_Gr_hearWithSomePending_62 : decode b_Gr_hearWithSomePending 62 = .ok (.putfield 18, 3) := by decide +kernel
theorem d_Gr_hearWithSomePending_65 : decode b_Gr_hearWithSomePending 65 = .ok (.goto 19, 3) := by decide +kernel
theorem d_Gr_hearWithSomePending_68 : decode b_Gr_hearWithSomePending 68 = .ok (.aload_n 0, 1) := by decide +kernel
theorem d_Gr_hearWithSomePending_69 : decode b_Gr_hearWithSomePending 69 = .ok (.getfield 18, 3) := by decide +kernel
theorem d_Gr_hearWithSomePending_72 : decode b_Gr_hearWithSomePending 72 = .ok (.iconst 2, 1) := by decide +kernel
theorem d_Gr_hearWithSomePending_73 : decode b_Gr_hearWithSomePending 73 = .ok (.if_icmp .ne 7, 3) := by decide +kernel
theorem d_Gr_hearWithSomePending_76 : decode b_Gr_hearWithSomePending 76 = .ok (.iload_n 3, 1) := by decide +kernel
theorem d_Gr_hearWithSomePending_77 : decode b_Gr_hearWithSomePending 77 = .ok (.ifCond .eq 7, 3) := by decide +kernel
theorem d_Gr_hearWithSomePending_80 : decode b_Gr_hearWithSomePending 80 = .ok (.aload_n 0, 1) := by decide +kernel
theorem d_Gr_hearWithSomePending_81 : decode b_Gr_hearWithSomePending 81 = .ok (.invokevirtual 150, 3) := by decide +kernel
theorem d_Gr_hearWithSomePending_84 : decode b_Gr_hearWithSomePending 84 = .ok (.return_, 1) := by decide +kernel
theorem d_St_init_0 : decode b_St_init 0 = .ok (.aload_n 0, 1) := by decide +kernel
theorem d_St_init_1 : decode b_St_init 1 = .ok (.invokespecial 3, 3) := by decide +kernel
theorem d_St_init_4 : decode b_St_init 4 = .ok (.aload_n 0, 1) := by decide +kernel
theorem d_St_init_5 : decode b_St_init 5 = .ok (.bipush 60, 2) := by decide +kernel
theorem d_St_init_7 : decode b_St_init 7 = .ok (.newarray .int, 2) := by decide +kernel
theorem d_St_init_9 : decode b_St_init 9 = .ok (.putfield 11, 3) := by decide +kernel
theorem d_St_init_12 : decode b_St_init 12 = .ok (.aload_n 0, 1) := by decide +kernel
theorem d_St_init_13 : decode b_St_init 13 = .ok (.bipush 60, 2) := by decide +kernel
theorem d_St_init_15 : decode b_St_init 15 = .ok (.newarray .boolean, 2) := by decide +kernel
theorem d_St_init_17 : decode b_St_init 17 = .ok (.putfield 15, 3) := by decide +kernel
theorem d_St_init_20 : decode b_St_init 20 = .ok (.return_, 1) := by decide +kernel
theorem d_St_size_0 : decode b_St_size 0 = .ok (.aload_n 0, 1) := by decide +kernel
theorem d_St_size_1 : decode b_St_size 1 = .ok (.getfield 19, 3) := by decide +kernel
theorem d_St_size_4 : decode b_St_size 4 = .ok (.ireturn, 1) := by decide +kernel
theorem d_St_write_0 : decode b_St_write 0 = .ok (.aload_n 0, 1) := by decide +kernel
theorem d_St_write_1 : decode b_St_write 1 = .ok (.getfield 19, 3) := by decide +kernel
theorem d_St_write_4 : decode b_St_write 4 = .ok (.iconst 2, 1) := by decide +kernel
theorem d_St_write_5 : decode b_St_write 5 = .ok (.iadd, 1) := by decide +kernel
theorem d_St_write_6 : decode b_St_write 6 = .ok (.iload_n 2, 1) := by decide +kernel
theorem d_St_write_7 : decode b_St_write 7 = .ok (.iadd, 1) := by decide +kernel
theorem d_St_write_8 : decode b_St_write 8 = .ok (.bipush 60, 2) := by decide +kernel
theorem d_St_write_10 : decode b_St_write 10 = .ok (.if_icmp .le 5, 3) := by decide +kernel
theorem d_St_write_13 : decode b_St_write 13 = .ok (.iconst 0, 1) := by decide +kernel
theorem d_St_write_14 : decode b_St_write 14 = .ok (.ireturn, 1) := by decide +kernel
theorem d_St_write_15 : decode b_St_write 15 = .ok (.aload_n 0, 1) := by decide +kernel
theorem d_St_write_16 : decode b_St_write 16 = .ok (.iload_n 1, 1) := by decide +kernel
theorem d_St_write_17 : decode b_St_write 17 = .ok (.iload_n 2, 1) := by decide +kernel
theorem d_St_write_18 : decode b_St_write 18 = .ok (.invokevirtual 23, 3) := by decide +kernel
theorem d_St_write_21 : decode b_St_write 21 = .ok (.iconst 0, 1) := by decide +kernel
theorem d_St_write_22 : decode b_St_write 22 = .ok (.istore_n 3, 1) := by decide +kernel
theorem d_St_write_23 : decode b_St_write 23 = .ok (.iload_n 3, 1) := by decide +kernel
theorem d_St_write_24 : decode b_St_write 24 = .ok (.iload_n 2, 1) := by decide +kernel
theorem d_St_write_25 : decode b_St_write 25 = .ok (.if_icmp .ge 20, 3) := by decide +kernel
theorem d_St_write_28 : decode b_St_write 28 = .ok (.aload_n 0, 1) := by decide +kernel
theorem d_St_write_29 : decode b_St_write 29 = .ok (.iload_n 1, 1) := by decide +kernel
theorem d_St_write_30 : decode b_St_write 30 = .ok (.bipush 7, 2) := by decide +kernel
theorem d_St_write_32 : decode b_St_write 32 = .ok (.imul, 1) := by decide +kernel
theorem d_St_write_33 : decode b_St_write 33 = .ok (.iload_n 3, 1) := by decide +kernel
theorem d_St_write_34 : decode b_St_write 34 = .ok (.iadd, 1) := by decide +kernel
theorem d_St_write_35 : decode b_St_write 35 = .ok (.iconst 0, 1) := by decide +kernel
theorem d_St_write_36 : decode b_St_write 36 = .ok (.invokevirtual 27, 3) := by decide +kernel
theorem d_St_write_39 : decode b_St_write 39 = .ok (.iinc 3 1, 3) := by decide +kernel
theorem d_St_write_42 : decode b_St_write 42 = .ok (.goto (-19), 3) := by decide +kernel
theorem d_St_write_45 : decode b_St_write 45 = .ok (.iconst 1, 1) := by decide +kernel
theorem d_St_write_46 : decode b_St_write 46 = .ok (.ireturn, 1) := by decide +kernel
theorem d_St_fill_0 : decode b_St_fill 0 = .ok (.aload_n 0, 1) := by decide +kernel
theorem d_St_fill_1 : decode b_St_fill 1 = .ok (.getfield 19, 3) := by decide +kernel
theorem d_St_fill_4 : decode b_St_fill 4 = .ok (.bipush 6, 2) := by decide +kernel
theorem d_St_fill_6 : decode b_St_fill 6 = .ok (.if_icmp .ge 7, 3) := by decide +kernel
theorem d_St_fill_9 : decode b_St_fill 9 = .ok (.aload_n 0, 1) := by decide +kernel
theorem d_St_fill_10 : decode b_St_fill 10 = .ok (.invokevirtual 31, 3) := by decide +kernel
theorem d_St_fill_13 : decode b_St_fill 13 = .ok (.aload_n 1, 1) := by decide +kernel
theorem d_St_fill_14 : decode b_St_fill 14 = .ok (.aload_n 0, 1) := by decide +kernel
theorem d_St_fill_15 : decode b_St_fill 15 = .ok (.getfield 34, 3) := by decide +kernel
theorem d_St_fill_18 : decode b_St_fill 18 = .ok (.putfield 37, 3) := by decide +kernel
theorem d_St_fill_21 : decode b_St_fill 21 = .ok (.aload_n 1, 1) := by decide +kernel
theorem d_St_fill_22 : decode b_St_fill 22 = .ok (.bipush 6, 2) := by decide +kernel
theorem d_St_fill_24 : decode b_St_fill 24 = .ok (.putfield 40, 3) := by decide +kernel
theorem d_St_fill_27 : decode b_St_fill 27 = .ok (.iconst 5, 1) := by decide +kernel
theorem d_St_fill_28 : decode b_St_fill 28 = .ok (.istore_n 2, 1) := by decide +kernel
theorem d_St_fill_29 : decode b_St_fill 29 = .ok (.iload_n 2, 1) := by decide +kernel
theorem d_St_fill_30 : decode b_St_fill 30 = .ok (.ifCond .lt 35, 3) := by decide +kernel
theorem d_St_fill_33 : decode b_St_fill 33 = .ok (.aload_n 1, 1) := by decide +kernel
theorem d_St_fill_34 : decode b_St_fill 34 = .ok (.getfield 43, 3) := by decide +kernel
theorem d_St_fill_37 : decode b_St_fill 37 = .ok (.iload_n 2, 1) := by decide +kernel
theorem d_St_fill_38 : decode b_St_fill 38 = .ok (.aload_n 0, 1) := by decide +kernel
theorem d_St_fill_39 : decode b_St_fill 39 = .ok (.getfield 11, 3) := by decide +kernel
theorem d_St_fill_42 : decode b_St_fill 42 = .ok (.iload_n 2, 1) := by decide +kernel
theorem d_St_fill_43 : decode b_St_fill 43 = .ok (.iaload, 1) := by decide +kernel
theorem d_St_fill_44 : decode b_St_fill 44 = .ok (.iastore, 1) := by decide +kernel
theorem d_St_fill_45 : decode b_St_fill 45 = .ok (.aload_n 0, 1) := by decide +kernel
theorem d_St_fill_46 : decode b_St_fill 46 = .ok (.getfield 15, 3) := by decide +kernel
theorem d_St_fill_49 : decode b_St_fill 49 = .ok (.iload_n 2, 1) := by decide +kernel
theorem d_St_fill_50 : decode b_St_fill 50 = .ok (.baload, 1) := by decide +kernel
theorem d_St_fill_51 : decode b_St_fill 51 = .ok (.ifCond .eq 8, 3) := by decide +kernel
theorem d_St_fill_54 : decode b_St_fill 54 = .ok (.aload_n 1, 1) := by decide +kernel
theorem d_St_fill_55 : decode b_St_fill 55 = .ok (.iload_n 2, 1) := by decide +kernel
theorem d_St_fill_56 : decode b_St_fill 56 = .ok (.putfield 40, 3) := by decide +kernel
theorem d_St_fill_59 : decode b_St_fill 59 = .ok (.iinc 2 (-1), 3) := by decide +kernel
theorem d_St_fill_62 : decode b_St_fill 62 = .ok (.goto (-33), 3) := by decide +kernel
theorem d_St_fill_65 : decode b_St_fill 65 = .ok (.aload_n 0, 1) := by decide +kernel
theorem d_St_fill_66 : decode b_St_fill 66 = .ok (.aload_n 0, 1) := by decide +kernel
theorem d_St_fill_67 : decode b_St_fill 67 = .ok (.getfield 34, 3) := by decide +kernel
theorem d_St_fill_70 : decode b_St_fill 70 = .ok (.invokestatic 44, 3) := by decide +kernel
theorem d_St_fill_73 : decode b_St_fill 73 = .ok (.putfield 34, 3) := by decide +kernel
theorem d_St_fill_76 : decode b_St_fill 76 = .ok (.aload_n 0, 1) := by decide +kernel
theorem d_St_fill_77 : decode b_St_fill 77 = .ok (.invokevirtual 48, 3) := by decide +kernel
theorem d_St_fill_80 : decode b_St_fill 80 = .ok (.return_, 1) := by decide +kernel
theorem d_St_writeIdle_0 : decode b_St_writeIdle 0 = .ok (.iconst 0, 1) := by decide +kernel
theorem d_St_writeIdle_1 : decode b_St_writeIdle 1 = .ok (.iconst 4, 1) := by decide +kernel
theorem d_St_writeIdle_2 : decode b_St_writeIdle 2 = .ok (.aload_n 0, 1) := by decide +kernel
theorem d_St_writeIdle_3 : decode b_St_writeIdle 3 = .ok (.getfield 19, 3) := by decide +kernel
theorem d_St_writeIdle_6 : decode b_St_writeIdle 6 = .ok (.isub, 1) := by decide +kernel
theorem d_St_writeIdle_7 : decode b_St_writeIdle 7 = .ok (.invokestatic 51, 3) := by decide +kernel
theorem d_St_writeIdle_10 : decode b_St_writeIdle 10 = .ok (.istore_n 1, 1) := by decide +kernel
theorem d_St_writeIdle_11 : decode b_St_writeIdle 11 = .ok (.aload_n 0, 1) := by decide +kernel
theorem d_St_writeIdle_12 : decode b_St_writeIdle 12 = .ok (.iconst 0, 1) := by decide +kernel
theorem d_St_writeIdle_13 : decode b_St_writeIdle 13 = .ok (.iload_n 1, 1) := by decide +kernel
theorem d_St_writeIdle_14 : decode b_St_writeIdle 14 = .ok (.invokevirtual 23, 3) := by decide +kernel
theorem d_St_writeIdle_17 : decode b_St_writeIdle 17 = .ok (.iconst 0, 1) := by decide +kernel
theorem d_St_writeIdle_18 : decode b_St_writeIdle 18 = .ok (.istore_n 2, 1) := by decide +kernel
theorem d_St_writeIdle_19 : decode b_St_writeIdle 19 = .ok (.iload_n 2, 1) := by decide +kernel
theorem d_St_writeIdle_20 : decode b_St_writeIdle 20 = .ok (.iload_n 1, 1) := by decide +kernel
theorem d_St_writeIdle_21 : decode b_St_writeIdle 21 = .ok (.if_icmp .ge 15, 3) := by decide +kernel
theorem d_St_writeIdle_24 : decode b_St_writeIdle 24 = .ok (.aload_n 0, 1) := by decide +kernel
theorem d_St_writeIdle_25 : decode b_St_writeIdle 25 = .ok (.iconst 0, 1) := by decide +kernel
theorem d_St_writeIdle_26 : decode b_St_writeIdle 26 = .ok (.iconst 0, 1) := by decide +kernel
theorem d_St_writeIdle_27 : decode b_St_writeIdle 27 = .ok (.invokevirtual 27, 3) := by decide +kernel
theorem d_St_writeIdle_30 : decode b_St_writeIdle 30 = .ok (.iinc 2 1, 3) := by decide +kernel
theorem d_St_writeIdle_33 : decode b_St_writeIdle 33 = .ok (.goto (-14), 3) := by decide +kernel
theorem d_St_writeIdle_36 : decode b_St_writeIdle 36 = .ok (.return_, 1) := by decide +kernel
theorem d_St_writeHead_0 : decode b_St_writeHead 0 = .ok (.aload_n 0, 1) := by decide +kernel
theorem d_St_writeHead_1 : decode b_St_writeHead 1 = .ok (.iload_n 1, 1) := by decide +kernel
theorem d_St_writeHead_2 : decode b_St_writeHead 2 = .ok (.iconst 1, 1) := by decide +kernel
theorem d_St_writeHead_3 : decode b_St_writeHead 3 = .ok (.invokevirtual 27, 3) := by decide +kernel
theorem d_St_writeHead_6 : decode b_St_writeHead 6 = .ok (.aload_n 0, 1) := by decide +kernel
theorem d_St_writeHead_7 : decode b_St_writeHead 7 = .ok (.iload_n 2, 1) := by decide +kernel
theorem d_St_writeHead_8 : decode b_St_writeHead 8 = .ok (.iconst 0, 1) := by decide +kernel
theorem d_St_writeHead_9 : decode b_St_writeHead 9 = .ok (.invokevirtual 27, 3) := by decide +kernel
theorem d_St_writeHead_12 : decode b_St_writeHead 12 = .ok (.return_, 1) := by decide +kernel
theorem d_St_put_0 : decode b_St_put 0 = .ok (.aload_n 0, 1) := by decide +kernel
theorem d_St_put_1 : decode b_St_put 1 = .ok (.getfield 19, 3) := by decide +kernel
theorem d_St_put_4 : decode b_St_put 4 = .ok (.bipush 60, 2) := by decide +kernel
theorem d_St_put_6 : decode b_St_put 6 = .ok (.if_icmp .ge 33, 3) := by decide +kernel
theorem d_St_put_9 : decode b_St_put 9 = .ok (.aload_n 0, 1) := by decide +kernel
theorem d_St_put_10 : decode b_St_put 10 = .ok (.getfield 11, 3) := by decide +kernel
theorem d_St_put_13 : decode b_St_put 13 = .ok (.aload_n 0, 1) := by decide +kernel
theorem d_St_put_14 : decode b_St_put 14 = .ok (.getfield 19, 3) := by decide +kernel
theorem d_St_put_17 : decode b_St_put 17 = .ok (.iload_n 1, 1) := by decide +kernel
theorem d_St_put_18 : decode b_St_put 18 = .ok (.iastore, 1) := by decide +kernel
theorem d_St_put_19 : decode b_St_put 19 = .ok (.aload_n 0, 1) := by decide +kernel
theorem d_St_put_20 : decode b_St_put 20 = .ok (.getfield 15, 3) := by decide +kernel
theorem d_St_put_23 : decode b_St_put 23 = .ok (.aload_n 0, 1) := by decide +kernel
theorem d_St_put_24 : decode b_St_put 24 = .ok (.getfield 19, 3) := by decide +kernel
theorem d_St_put_27 : decode b_St_put 27 = .ok (.iload_n 2, 1) := by decide +kernel
theorem d_St_put_28 : decode b_St_put 28 = .ok (.bastore, 1) := by decide +kernel
theorem d_St_put_29 : decode b_St_put 29 = .ok (.aload_n 0, 1) := by decide +kernel
theorem d_St_put_30 : decode b_St_put 30 = .ok (.dup, 1) := by decide +kernel
theorem d_St_put_31 : decode b_St_put 31 = .ok (.getfield 19, 3) := by decide +kernel
theorem d_St_put_34 : decode b_St_put 34 = .ok (.iconst 1, 1) := by decide +kernel
theorem d_St_put_35 : decode b_St_put 35 = .ok (.iadd, 1) := by decide +kernel
theorem d_St_put_36 : decode b_St_put 36 = .ok (.putfield 19, 3) := by decide +kernel
theorem d_St_put_39 : decode b_St_put 39 = .ok (.return_, 1) := by decide +kernel
theorem d_St_removeFrame_0 : decode b_St_removeFrame 0 = .ok (.bipush 6, 2) := by decide +kernel
theorem d_St_removeFrame_2 : decode b_St_removeFrame 2 = .ok (.istore_n 1, 1) := by decide +kernel
theorem d_St_removeFrame_3 : decode b_St_removeFrame 3 = .ok (.iload_n 1, 1) := by decide +kernel
theorem d_St_removeFrame_4 : decode b_St_removeFrame 4 = .ok (.aload_n 0, 1) := by decide +kernel
theorem d_St_removeFrame_5 : decode b_St_removeFrame 5 = .ok (.getfield 19, 3) := by decide +kernel
theorem d_St_removeFrame_8 : decode b_St_removeFrame 8 = .ok (.if_icmp .ge 39, 3) := by decide +kernel
theorem d_St_removeFrame_11 : decode b_St_removeFrame 11 = .ok (.aload_n 0, 1) := by decide +kernel
theorem d_St_removeFrame_12 : decode b_St_removeFrame 12 = .ok (.getfield 11, 3) := by decide +kernel
theorem d_St_removeFrame_15 : decode b_St_removeFrame 15 = .ok (.iload_n 1, 1) := by decide +kernel
theorem d_St_removeFrame_16 : decode b_St_removeFrame 16 = .ok (.bipush 6, 2) := by decide +kernel
theorem d_St_removeFrame_18 : decode b_St_removeFrame 18 = .ok (.isub, 1) := by decide +kernel
theorem d_St_removeFrame_19 : decode b_St_removeFrame 19 = .ok (.aload_n 0, 1) := by decide +kernel
theorem d_St_removeFrame_20 : decode b_St_removeFrame 20 = .ok (.getfield 11, 3) := by decide +kernel
theorem d_St_removeFrame_23 : decode b_St_removeFrame 23 = .ok (.iload_n 1, 1) := by decide +kernel
theorem d_St_removeFrame_24 : decode b_St_removeFrame 24 = .ok (.iaload, 1) := by decide +kernel
theorem d_St_removeFrame_25 : decode b_St_removeFrame 25 = .ok (.iastore, 1) := by decide +kernel
theorem d_St_removeFrame_26 : decode b_St_removeFrame 26 = .ok (.aload_n 0, 1) := by decide +kernel
theorem d_St_removeFrame_27 : decode b_St_removeFrame 27 = .ok (.getfield 15, 3) := by decide +kernel
theorem d_St_removeFrame_30 : decode b_St_removeFrame 30 = .ok (.iload_n 1, 1) := by decide +kernel
theorem d_St_removeFrame_31 : decode b_St_removeFrame 31 = .ok (.bipush 6, 2) := by decide +kernel
theorem d_St_removeFrame_33 : decode b_St_removeFrame 33 = .ok (.isub, 1) := by decide +kernel
theorem d_St_removeFrame_34 : decode b_St_removeFrame 34 = .ok (.aload_n 0, 1) := by decide +kernel
theorem d_St_removeFrame_35 : decode b_St_removeFrame 35 = .ok (.getfield 15, 3) := by decide +kernel
theorem d_St_removeFrame_38 : decode b_St_removeFrame 38 = .ok (.iload_n 1, 1) := by decide +kernel
theorem d_St_removeFrame_39 : decode b_St_removeFrame 39 = .ok (.baload, 1) := by decide +kernel
theorem d_St_removeFrame_40 : decode b_St_removeFrame 40 = .ok (.bastore, 1) := by decide +kernel
theorem d_St_removeFrame_41 : decode b_St_removeFrame 41 = .ok (.iinc 1 1, 3) := by decide +kernel
theorem d_St_removeFrame_44 : decode b_St_removeFrame 44 = .ok (.goto (-41), 3) := by decide +kernel
theorem d_St_removeFrame_47 : decode b_St_removeFrame 47 = .ok (.aload_n 0, 1) := by decide +kernel
theorem d_St_removeFrame_48 : decode b_St_removeFrame 48 = .ok (.dup, 1) := by decide +kernel
theorem d_St_removeFrame_49 : decode b_St_removeFrame 49 = .ok (.getfield 19, 3) := by decide +kernel
theorem d_St_removeFrame_52 : decode b_St_removeFrame 52 = .ok (.bipush 6, 2) := by decide +kernel
theorem d_St_removeFrame_54 : decode b_St_removeFrame 54 = .ok (.isub, 1) := by decide +kernel
theorem d_St_removeFrame_55 : decode b_St_removeFrame 55 = .ok (.putfield 19, 3) := by decide +kernel
theorem d_St_removeFrame_58 : decode b_St_removeFrame 58 = .ok (.return_, 1) := by decide +kernel
