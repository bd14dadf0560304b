theorem d_Df_init_0 : decode b_Df_init 0 = .ok (.aload_n 0, 1) := by decide +kernel
theorem d_Df_init_1 : decode b_Df_init 1 = .ok (.invokespecial 3, 3) := by decide +kernel
theorem d_Df_init_4 : decode b_Df_init 4 = .ok (.aload_n 0, 1) := by decide +kernel
theorem d_Df_init_5 : decode b_Df_init 5 = .ok (.bipush 6, 2) := by decide +kernel
theorem d_Df_init_7 : decode b_Df_init 7 = .ok (.newarray .int, 2) := by decide +kernel
theorem d_Df_init_9 : decode b_Df_init 9 = .ok (.putfield 9, 3) := by decide +kernel
theorem d_Df_init_12 : decode b_Df_init 12 = .ok (.return_, 1) := by decide +kernel
theorem d_Rc_init_0 : decode b_Rc_init 0 = .ok (.aload_n 0, 1) := by decide +kernel
theorem d_Rc_init_1 : decode b_Rc_init 1 = .ok (.invokespecial 1, 3) := by decide +kernel
theorem d_Rc_init_4 : decode b_Rc_init 4 = .ok (.aload_n 0, 1) := by decide +kernel
theorem d_Rc_init_5 : decode b_Rc_init 5 = .ok (.bipush 40, 2) := by decide +kernel
theorem d_Rc_init_7 : decode b_Rc_init 7 = .ok (.newarray .int, 2) := by decide +kernel
theorem d_Rc_init_9 : decode b_Rc_init 9 = .ok (.putfield 9, 3) := by decide +kernel
theorem d_Rc_init_12 : decode b_Rc_init 12 = .ok (.aload_n 0, 1) := by decide +kernel
theorem d_Rc_init_13 : decode b_Rc_init 13 = .ok (.bipush 40, 2) := by decide +kernel
theorem d_Rc_init_15 : decode b_Rc_init 15 = .ok (.newarray .int, 2) := by decide +kernel
theorem d_Rc_init_17 : decode b_Rc_init 17 = .ok (.putfield 13, 3) := by decide +kernel
theorem d_Rc_init_20 : decode b_Rc_init 20 = .ok (.aload_n 0, 1) := by decide +kernel
theorem d_Rc_init_21 : decode b_Rc_init 21 = .ok (.bipush 40, 2) := by decide +kernel
theorem d_Rc_init_23 : decode b_Rc_init 23 = .ok (.newarray .int, 2) := by decide +kernel
theorem d_Rc_init_25 : decode b_Rc_init 25 = .ok (.putfield 16, 3) := by decide +kernel
theorem d_Rc_init_28 : decode b_Rc_init 28 = .ok (.aload_n 0, 1) := by decide +kernel
theorem d_Rc_init_29 : decode b_Rc_init 29 = .ok (.bipush 40, 2) := by decide +kernel
theorem d_Rc_init_31 : decode b_Rc_init 31 = .ok (.newarray .int, 2) := by decide +kernel
theorem d_Rc_init_33 : decode b_Rc_init 33 = .ok (.putfield 19, 3) := by decide +kernel
theorem d_Rc_init_36 : decode b_Rc_init 36 = .ok (.return_, 1) := by decide +kernel
theorem d_Rc_size_0 : decode b_Rc_size 0 = .ok (.aload_n 0, 1) := by decide +kernel
theorem d_Rc_size_1 : decode b_Rc_size 1 = .ok (.getfield 22, 3) := by decide +kernel
theorem d_Rc_size_4 : decode b_Rc_size 4 = .ok (.ireturn, 1) := by decide +kernel
theorem d_Rc_has_0 : decode b_Rc_has 0 = .ok (.iload_n 1, 1) := by decide +kernel
theorem d_Rc_has_1 : decode b_Rc_has 1 = .ok (.ifCond .lt 15, 3) := by decide +kernel
theorem d_Rc_has_4 : decode b_Rc_has 4 = .ok (.iload_n 1, 1) := by decide +kernel
theorem d_Rc_has_5 : decode b_Rc_has 5 = .ok (.aload_n 0, 1) := by decide +kernel
theorem d_Rc_has_6 : decode b_Rc_has 6 = .ok (.getfield 22, 3) := by decide +kernel
theorem d_Rc_has_9 : decode b_Rc_has 9 = .ok (.if_icmp .ge 7, 3) := by decide +kernel
theorem d_Rc_has_12 : decode b_Rc_has 12 = .ok (.iconst 1, 1) := by decide +kernel
theorem d_Rc_has_13 : decode b_Rc_has 13 = .ok (.goto 4, 3) := by decide +kernel
theorem d_Rc_has_16 : decode b_Rc_has 16 = .ok (.iconst 0, 1) := by decide +kernel
theorem d_Rc_has_17 : decode b_Rc_has 17 = .ok (.ireturn, 1) := by decide +kernel
theorem d_Rc_tell_0 : decode b_Rc_tell 0 = .ok (.iload_n 2, 1) := by decide +kernel
theorem d_Rc_tell_1 : decode b_Rc_tell 1 = .ok (.tableswitch 59 0 3 #[31, 38, 45, 52], 31) := by decide +kernel
theorem d_Rc_tell_32 : decode b_Rc_tell 32 = .ok (.aload_n 0, 1) := by decide +kernel
theorem d_Rc_tell_33 : decode b_Rc_tell 33 = .ok (.getfield 9, 3) := by decide +kernel
theorem d_Rc_tell_36 : decode b_Rc_tell 36 = .ok (.iload_n 1, 1) := by decide +kernel
theorem d_Rc_tell_37 : decode b_Rc_tell 37 = .ok (.iaload, 1) := by decide +kernel
theorem d_Rc_tell_38 : decode b_Rc_tell 38 = .ok (.ireturn, 1) := by decide +kernel
theorem d_Rc_tell_39 : decode b_Rc_tell 39 = .ok (.aload_n 0, 1) := by decide +kernel
theorem d_Rc_tell_40 : decode b_Rc_tell 40 = .ok (.getfield 13, 3) := by decide +kernel
theorem d_Rc_tell_43 : decode b_Rc_tell 43 = .ok (.iload_n 1, 1) := by decide +kernel
theorem d_Rc_tell_44 : decode b_Rc_tell 44 = .ok (.iaload, 1) := by decide +kernel
theorem d_Rc_tell_45 : decode b_Rc_tell 45 = .ok (.ireturn, 1) := by decide +kernel
theorem d_Rc_tell_46 : decode b_Rc_tell 46 = .ok (.aload_n 0, 1) := by decide +kernel
theorem d_Rc_tell_47 : decode b_Rc_tell 47 = .ok (.getfield 16, 3) := by decide +kernel
theorem d_Rc_tell_50 : decode b_Rc_tell 50 = .ok (.iload_n 1, 1) := by decide +kernel
theorem d_Rc_tell_51 : decode b_Rc_tell 51 = .ok (.iaload, 1) := by decide +kernel
theorem d_Rc_tell_52 : decode b_Rc_tell 52 = .ok (.ireturn, 1) := by decide +kernel
theorem d_Rc_tell_53 : decode b_Rc_tell 53 = .ok (.aload_n 0, 1) := by decide +kernel
theorem d_Rc_tell_54 : decode b_Rc_tell 54 = .ok (.getfield 19, 3) := by decide +kernel
theorem d_Rc_tell_57 : decode b_Rc_tell 57 = .ok (.iload_n 1, 1) := by decide +kernel
theorem d_Rc_tell_58 : decode b_Rc_tell 58 = .ok (.iaload, 1) := by decide +kernel
theorem d_Rc_tell_59 : decode b_Rc_tell 59 = .ok (.ireturn, 1) := by decide +kernel
theorem d_Rc_tell_60 : decode b_Rc_tell 60 = .ok (.iconst 0, 1) := by decide +kernel
theorem d_Rc_tell_61 : decode b_Rc_tell 61 = .ok (.ireturn, 1) := by decide +kernel
theorem d_Rc_add_0 : decode b_Rc_add 0 = .ok (.aload_n 0, 1) := by decide +kernel
theorem d_Rc_add_1 : decode b_Rc_add 1 = .ok (.getfield 22, 3) := by decide +kernel
theorem d_Rc_add_4 : decode b_Rc_add 4 = .ok (.bipush 40, 2) := by decide +kernel
theorem d_Rc_add_6 : decode b_Rc_add 6 = .ok (.if_icmp .ge 54, 3) := by decide +kernel
theorem d_Rc_add_9 : decode b_Rc_add 9 = .ok (.aload_n 0, 1) := by decide +kernel
theorem d_Rc_add_10 : decode b_Rc_add 10 = .ok (.getfield 9, 3) := by decide +kernel
theorem d_Rc_add_13 : decode b_Rc_add 13 = .ok (.aload_n 0, 1) := by decide +kernel
theorem d_Rc_add_14 : decode b_Rc_add 14 = .ok (.getfield 22, 3) := by decide +kernel
theorem d_Rc_add_17 : decode b_Rc_add 17 = .ok (.iload_n 1, 1) := by decide +kernel
theorem d_Rc_add_18 : decode b_Rc_add 18 = .ok (.iastore, 1) := by decide +kernel
theorem d_Rc_add_19 : decode b_Rc_add 19 = .ok (.aload_n 0, 1) := by decide +kernel
theorem d_Rc_add_20 : decode b_Rc_add 20 = .ok (.getfield 13, 3) := by decide +kernel
theorem d_Rc_add_23 : decode b_Rc_add 23 = .ok (.aload_n 0, 1) := by decide +kernel
theorem d_Rc_add_24 : decode b_Rc_add 24 = .ok (.getfield 22, 3) := by decide +kernel
theorem d_Rc_add_27 : decode b_Rc_add 27 = .ok (.iload_n 2, 1) := by decide +kernel
theorem d_Rc_add_28 : decode b_Rc_add 28 = .ok (.iastore, 1) := by decide +kernel
theorem d_Rc_add_29 : decode b_Rc_add 29 = .ok (.aload_n 0, 1) := by decide +kernel
theorem d_Rc_add_30 : decode b_Rc_add 30 = .ok (.getfield 16, 3) := by decide +kernel
theorem d_Rc_add_33 : decode b_Rc_add 33 = .ok (.aload_n 0, 1) := by decide +kernel
theorem d_Rc_add_34 : decode b_Rc_add 34 = .ok (.getfield 22, 3) := by decide +kernel
theorem d_Rc_add_37 : decode b_Rc_add 37 = .ok (.iload_n 3, 1) := by decide +kernel
theorem d_Rc_add_38 : decode b_Rc_add 38 = .ok (.iastore, 1) := by decide +kernel
theorem d_Rc_add_39 : decode b_Rc_add 39 = .ok (.aload_n 0, 1) := by decide +kernel
theorem d_Rc_add_40 : decode b_Rc_add 40 = .ok (.getfield 19, 3) := by decide +kernel
theorem d_Rc_add_43 : decode b_Rc_add 43 = .ok (.aload_n 0, 1) := by decide +kernel
theorem d_Rc_add_44 : decode b_Rc_add 44 = .ok (.getfield 22, 3) := by decide +kernel
theorem d_Rc_add_47 : decode b_Rc_add 47 = .ok (.iload 4, 2) := by decide +kernel
theorem d_Rc_add_49 : decode b_Rc_add 49 = .ok (.iastore, 1) := by decide +kernel
theorem d_Rc_add_50 : decode b_Rc_add 50 = .ok (.aload_n 0, 1) := by decide +kernel
theorem d_Rc_add_51 : decode b_Rc_add 51 = .ok (.dup, 1) := by decide +kernel
theorem d_Rc_add_52 : decode b_Rc_add 52 = .ok (.getfield 22, 3) := by decide +kernel
theorem d_Rc_add_55 : decode b_Rc_add 55 = .ok (.iconst 1, 1) := by decide +kernel
theorem d_Rc_add_56 : decode b_Rc_add 56 = .ok (.iadd, 1) := by decide +kernel
theorem d_Rc_add_57 : decode b_Rc_add 57 = .ok (.putfield 22, 3) := by decide +kernel
theorem d_Rc_add_60 : decode b_Rc_add 60 = .ok (.return_, 1) := by decide +kernel
theorem d_Rp_init_0 : decode b_Rp_init 0 = .ok (.aload_n 0, 1) := by decide +kernel
theorem d_Rp_init_1 : decode b_Rp_init 1 = .ok (.invokespecial 3, 3) := by decide +kernel
theorem d_Rp_init_4 : decode b_Rp_init 4 = .ok (.aload_n 0, 1) := by decide +kernel
theorem d_Rp_init_5 : decode b_Rp_init 5 = .ok (.bipush 20, 2) := by decide +kernel
theorem d_Rp_init_7 : decode b_Rp_init 7 = .ok (.newarray .int, 2) := by decide +kernel
theorem d_Rp_init_9 : decode b_Rp_init 9 = .ok (.putfield 9, 3) := by decide +kernel
theorem d_Rp_init_12 : decode b_Rp_init 12 = .ok (.aload_n 0, 1) := by decide +kernel
theorem d_Rp_init_13 : decode b_Rp_init 13 = .ok (.bipush 20, 2) := by decide +kernel
theorem d_Rp_init_15 : decode b_Rp_init 15 = .ok (.newarray .boolean, 2) := by decide +kernel
theorem d_Rp_init_17 : decode b_Rp_init 17 = .ok (.putfield 15, 3) := by decide +kernel
theorem d_Rp_init_20 : decode b_Rp_init 20 = .ok (.aload_n 0, 1) := by decide +kernel
theorem d_Rp_init_21 : decode b_Rp_init 21 = .ok (.bipush 20, 2) := by decide +kernel
theorem d_Rp_init_23 : decode b_Rp_init 23 = .ok (.newarray .int, 2) := by decide +kernel
theorem d_Rp_init_25 : decode b_Rp_init 25 = .ok (.putfield 19, 3) := by decide +kernel
theorem d_Rp_init_28 : decode b_Rp_init 28 = .ok (.return_, 1) := by decide +kernel
theorem d_Rp_size_0 : decode b_Rp_size 0 = .ok (.aload_n 0, 1) := by decide +kernel
theorem d_Rp_size_1 : decode b_Rp_size 1 = .ok (.getfield 22, 3) := by decide +kernel
theorem d_Rp_size_4 : decode b_Rp_size 4 = .ok (.ireturn, 1) := by decide +kernel
theorem d_Rp_has_0 : decode b_Rp_has 0 = .ok (.iload_n 1, 1) := by decide +kernel
theorem d_Rp_has_1 : decode b_Rp_has 1 = .ok (.ifCond .lt 15, 3) := by decide +kernel
theorem d_Rp_has_4 : decode b_Rp_has 4 = .ok (.iload_n 1, 1) := by decide +kernel
theorem d_Rp_has_5 : decode b_Rp_has 5 = .ok (.aload_n 0, 1) := by decide +kernel
theorem d_Rp_has_6 : decode b_Rp_has 6 = .ok (.getfield 22, 3) := by decide +kernel
theorem d_Rp_has_9 : decode b_Rp_has 9 = .ok (.if_icmp .ge 7, 3) := by decide +kernel
theorem d_Rp_has_12 : decode b_Rp_has 12 = .ok (.iconst 1, 1) := by decide +kernel
theorem d_Rp_has_13 : decode b_Rp_has 13 = .ok (.goto 4, 3) := by decide +kernel
theorem d_Rp_has_16 : decode b_Rp_has 16 = .ok (.iconst 0, 1) := by decide +kernel
theorem d_Rp_has_17 : decode b_Rp_has 17 = .ok (.ireturn, 1) := by decide +kernel
theorem d_Rp_expected_0 : decode b_Rp_expected 0 = .ok (.aload_n 0, 1) := by decide +kernel
theorem d_Rp_expected_1 : decode b_Rp_expected 1 = .ok (.getfield 9, 3) := by decide +kernel
theorem d_Rp_expected_4 : decode b_Rp_expected 4 = .ok (.iload_n 1, 1) := by decide +kernel
theorem d_Rp_expected_5 : decode b_Rp_expected 5 = .ok (.iaload, 1) := by decide +kernel
theorem d_Rp_expected_6 : decode b_Rp_expected 6 = .ok (.ireturn, 1) := by decide +kernel
theorem d_Rp_again_0 : decode b_Rp_again 0 = .ok (.aload_n 0, 1) := by decide +kernel
theorem d_Rp_again_1 : decode b_Rp_again 1 = .ok (.getfield 15, 3) := by decide +kernel
theorem d_Rp_again_4 : decode b_Rp_again 4 = .ok (.iload_n 1, 1) := by decide +kernel
theorem d_Rp_again_5 : decode b_Rp_again 5 = .ok (.baload, 1) := by decide +kernel
theorem d_Rp_again_6 : decode b_Rp_again 6 = .ok (.ireturn, 1) := by decide +kernel
theorem d_Rp_gate_0 : decode b_Rp_gate 0 = .ok (.aload_n 0, 1) := by decide +kernel
theorem d_Rp_gate_1 : decode b_Rp_gate 1 = .ok (.getfield 19, 3) := by decide +kernel
theorem d_Rp_gate_4 : decode b_Rp_gate 4 = .ok (.iload_n 1, 1) := by decide +kernel
theorem d_Rp_gate_5 : decode b_Rp_gate 5 = .ok (.iaload, 1) := by decide +kernel
theorem d_Rp_gate_6 : decode b_Rp_gate 6 = .ok (.ireturn, 1) := by decide +kernel
theorem d_Rp_add_0 : decode b_Rp_add 0 = .ok (.aload_n 0, 1) := by decide +kernel
theorem d_Rp_add_1 : decode b_Rp_add 1 = .ok (.getfield 22, 3) := by decide +kernel
theorem d_Rp_add_4 : decode b_Rp_add 4 = .ok (.bipush 20, 2) := by decide +kernel
theorem d_Rp_add_6 : decode b_Rp_add 6 = .ok (.if_icmp .lt 5, 3) := by decide +kernel
theorem d_Rp_add_9 : decode b_Rp_add 9 = .ok (.iconst 0, 1) := by decide +kernel
theorem d_Rp_add_10 : decode b_Rp_add 10 = .ok (.ireturn, 1) := by decide +kernel
theorem d_Rp_add_11 : decode b_Rp_add 11 = .ok (.aload_n 0, 1) := by decide +kernel
theorem d_Rp_add_12 : decode b_Rp_add 12 = .ok (.getfield 9, 3) := by decide +kernel
theorem d_Rp_add_15 : decode b_Rp_add 15 = .ok (.aload_n 0, 1) := by decide +kernel
theorem d_Rp_add_16 : decode b_Rp_add 16 = .ok (.getfield 22, 3) := by decide +kernel
theorem d_Rp_add_19 : decode b_Rp_add 19 = .ok (.aload_n 1, 1) := by decide +kernel
theorem d_Rp_add_20 : decode b_Rp_add 20 = .ok (.getfield 26, 3) := by decide +kernel
theorem d_Rp_add_23 : decode b_Rp_add 23 = .ok (.iastore, 1) := by decide +kernel
theorem d_Rp_add_24 : decode b_Rp_add 24 = .ok (.aload_n 0, 1) := by decide +kernel
theorem d_Rp_add_25 : decode b_Rp_add 25 = .ok (.getfield 15, 3) := by decide +kernel
theorem d_Rp_add_28 : decode b_Rp_add 28 = .ok (.aload_n 0, 1) := by decide +kernel
theorem d_Rp_add_29 : decode b_Rp_add 29 = .ok (.getfield 22, 3) := by decide +kernel
theorem d_Rp_add_32 : decode b_Rp_add 32 = .ok (.aload_n 1, 1) := by decide +kernel
theorem d_Rp_add_33 : decode b_Rp_add 33 = .ok (.getfield 30, 3) := by decide +kernel
theorem d_Rp_add_36 : decode b_Rp_add 36 = .ok (.bastore, 1) := by decide +kernel
theorem d_Rp_add_37 : decode b_Rp_add 37 = .ok (.aload_n 0, 1) := by decide +kernel
theorem d_Rp_add_38 : decode b_Rp_add 38 = .ok (.getfield 19, 3) := by decide +kernel
theorem d_Rp_add_41 : decode b_Rp_add 41 = .ok (.aload_n 0, 1) := by decide +kernel
theorem d_Rp_add_42 : decode b_Rp_add 42 = .ok (.getfield 22, 3) := by decide +kernel
theorem d_Rp_add_45 : decode b_Rp_add 45 = .ok (.aload_n 1, 1) := by decide +kernel
theorem d_Rp_add_46 : decode b_Rp_add 46 = .ok (.getfield 33, 3) := by decide +kernel
theorem d_Rp_add_49 : decode b_Rp_add 49 = .ok (.iastore, 1) := by decide +kernel
theorem d_Rp_add_50 : decode b_Rp_add 50 = .ok (.aload_n 0, 1) := by decide +kernel
theorem d_Rp_add_51 : decode b_Rp_add 51 = .ok (.dup, 1) := by decide +kernel
theorem d_Rp_add_52 : decode b_Rp_add 52 = .ok (.getfield 22, 3) := by decide +kernel
theorem d_Rp_add_55 : decode b_Rp_add 55 = .ok (.iconst 1, 1) := by decide +kernel
theorem d_Rp_add_56 : decode b_Rp_add 56 = .ok (.iadd, 1) := by decide +kernel
theorem d_Rp_add_57 : decode b_Rp_add 57 = .ok (.putfield 22, 3) := by decide +kernel
theorem d_Rp_add_60 : decode b_Rp_add 60 = .ok (.iconst 1, 1) := by decide +kernel
theorem d_Rp_add_61 : decode b_Rp_add 61 = .ok (.ireturn, 1) := by decide +kernel
theorem d_Rp_remove_0 : decode b_Rp_remove 0 = .ok (.iload_n 1, 1) := by decide +kernel
theorem d_Rp_remove_1 : decode b_Rp_remove 1 = .ok (.iconst 1, 1) := by decide +kernel
theorem d_Rp_remove_2 : decode b_Rp_remove 2 = .ok (.iadd, 1) := by decide +kernel
theorem d_Rp_remove_3 : decode b_Rp_remove 3 = .ok (.istore_n 2, 1) := by decide +kernel
theorem d_Rp_remove_4 : decode b_Rp_remove 4 = .ok (.iload_n 2, 1) := by decide +kernel
theorem d_Rp_remove_5 : decode b_Rp_remove 5 = .ok (.aload_n 0, 1) := by decide +kernel
theorem d_Rp_remove_6 : decode b_Rp_remove 6 = .ok (.getfield 22, 3) := by decide +kernel
theorem d_Rp_remove_9 : decode b_Rp_remove 9 = .ok (.if_icmp .ge 51, 3) := by decide +kernel
theorem d_Rp_remove_12 : decode b_Rp_remove 12 = .ok (.aload_n 0, 1) := by decide +kernel
theorem d_Rp_remove_13 : decode b_Rp_remove 13 = .ok (.getfield 9, 3) := by decide +kernel
theorem d_Rp_remove_16 : decode b_Rp_remove 16 = .ok (.iload_n 2, 1) := by decide +kernel
theorem d_Rp_remove_17 : decode b_Rp_remove 17 = .ok (.iconst 1, 1) := by decide +kernel
theorem d_Rp_remove_18 : decode b_Rp_remove 18 = .ok (.isub, 1) := by decide +kernel
theorem d_Rp_remove_19 : decode b_Rp_remove 19 = .ok (.aload_n 0, 1) := by decide +kernel
theorem d_Rp_remove_20 : decode b_Rp_remove 20 = .ok (.getfield 9, 3) := by decide +kernel
theorem d_Rp_remove_23 : decode b_Rp_remove 23 = .ok (.iload_n 2, 1) := by decide +kernel
theorem d_Rp_remove_24 : decode b_Rp_remove 24 = .ok (.iaload, 1) := by decide +kernel
theorem d_Rp_remove_25 : decode b_Rp_remove 25 = .ok (.iastore, 1) := by decide +kernel
theorem d_Rp_remove_26 : decode b_Rp_remove 26 = .ok (.aload_n 0, 1) := by decide +kernel
theorem d_Rp_remove_27 : decode b_Rp_remove 27 = .ok (.getfield 15, 3) := by decide +kernel
theorem d_Rp_remove_30 : decode b_Rp_remove 30 = .ok (.iload_n 2, 1) := by decide +kernel
theorem d_Rp_remove_31 : decode b_Rp_remove 31 = .ok (.iconst 1, 1) := by decide +kernel
theorem d_Rp_remove_32 : decode b_Rp_remove 32 = .ok (.isub, 1) := by decide +kernel
theorem d_Rp_remove_33 : decode b_Rp_remove 33 = .ok (.aload_n 0, 1) := by decide +kernel
theorem d_Rp_remove_34 : decode b_Rp_remove 34 = .ok (.getfield 15, 3) := by decide +kernel
theorem d_Rp_remove_37 : decode b_Rp_remove 37 = .ok (.iload_n 2, 1) := by decide +kernel
theorem d_Rp_remove_38 : decode b_Rp_remove 38 = .ok (.baload, 1) := by decide +kernel
theorem d_Rp_remove_39 : decode b_Rp_remove 39 = .ok (.bastore, 1) := by decide +kernel
theorem d_Rp_remove_40 : decode b_Rp_remove 40 = .ok (.aload_n 0, 1) := by decide +kernel
theorem d_Rp_remove_41 : decode b_Rp_remove 41 = .ok (.getfield 19, 3) := by decide +kernel
theorem d_Rp_remove_44 : decode b_Rp_remove 44 = .ok (.iload_n 2, 1) := by decide +kernel
theorem d_Rp_remove_45 : decode b_Rp_remove 45 = .ok (.iconst 1, 1) := by decide +kernel
theorem d_Rp_remove_46 : decode b_Rp_remove 46 = .ok (.isub, 1) := by decide +kernel
theorem d_Rp_remove_47 : decode b_Rp_remove 47 = .ok (.aload_n 0, 1) := by decide +kernel
theorem d_Rp_remove_48 : decode b_Rp_remove 48 = .ok (.getfield 19, 3) := by decide +kernel
theorem d_Rp_remove_51 : decode b_Rp_remove 51 = .ok (.iload_n 2, 1) := by decide +kernel
theorem d_Rp_remove_52 : decode b_Rp_remove 52 = .ok (.iaload, 1) := by decide +kernel
theorem d_Rp_remove_53 : decode b_Rp_remove 53 = .ok (.iastore, 1) := by decide +kernel
theorem d_Rp_remove_54 : decode b_Rp_remove 54 = .ok (.iinc 2 1, 3) := by decide +kernel
theorem d_Rp_remove_57 : decode b_Rp_remove 57 = .ok (.goto (-53), 3) := by decide +kernel
theorem d_Rp_remove_60 : decode b_Rp_remove 60 = .ok (.aload_n 0, 1) := by decide +kernel
theorem d_Rp_remove_61 : decode b_Rp_remove 61 = .ok (.dup, 1) := by decide +kernel
theorem d_Rp_remove_62 : decode b_Rp_remove 62 = .ok (.getfield 22, 3) := by decide +kernel
theorem d_Rp_remove_65 : decode b_Rp_remove 65 = .ok (.iconst 1, 1) := by decide +kernel
theorem d_Rp_remove_66 : decode b_Rp_remove 66 = .ok (.isub, 1) := by decide +kernel
theorem d_Rp_remove_67 : decode b_Rp_remove 67 = .ok (.putfield 22, 3) := by decide +kernel
theorem d_Rp_remove_70 : decode b_Rp_remove 70 = .ok (.return_, 1) := by decide +kernel
theorem d_Un_init_0 : decode b_Un_init 0 = .ok (.aload_n 0, 1) := by decide +kernel
theorem d_Un_init_1 : decode b_Un_init 1 = .ok (.invokespecial 3, 3) := by decide +kernel
theorem d_Un_init_4 : decode b_Un_init 4 = .ok (.aload_n 0, 1) := by decide +kernel
theorem d_Un_init_5 : decode b_Un_init 5 = .ok (.iconst 4, 1) := by decide +kernel
theorem d_Un_init_6 : decode b_Un_init 6 = .ok (.newarray .int, 2) := by decide +kernel
theorem d_Un_init_8 : decode b_Un_init 8 = .ok (.putfield 9, 3) := by decide +kernel
theorem d_Un_init_11 : decode b_Un_init 11 = .ok (.aload_n 0, 1) := by decide +kernel
theorem d_Un_init_12 : decode b_Un_init 12 = .ok (.iconst 4, 1) := by decide +kernel
theorem d_Un_init_13 : decode b_Un_init 13 = .ok (.newarray .int, 2) := by decide +kernel
theorem d_Un_init_15 : decode b_Un_init 15 = .ok (.putfield 15, 3) := by decide +kernel
theorem d_Un_init_18 : decode b_Un_init 18 = .ok (.aload_n 0, 1) := by decide +kernel
theorem d_Un_init_19 : decode b_Un_init 19 = .ok (.iconst 4, 1) := by decide +kernel
theorem d_Un_init_20 : decode b_Un_init 20 = .ok (.newarray .boolean, 2) := by decide +kernel
theorem d_Un_init_22 : decode b_Un_init 22 = .ok (.putfield 18, 3) := by decide +kernel
theorem d_Un_init_25 : decode b_Un_init 25 = .ok (.return_, 1) := by decide +kernel
theorem d_Un_size_0 : decode b_Un_size 0 = .ok (.aload_n 0, 1) := by decide +kernel
theorem d_Un_size_1 : decode b_Un_size 1 = .ok (.getfield 22, 3) := by decide +kernel
theorem d_Un_size_4 : decode b_Un_size 4 = .ok (.ireturn, 1) := by decide +kernel
theorem d_Un_numberOf_0 : decode b_Un_numberOf 0 = .ok (.aload_n 0, 1) := by decide +kernel
theorem d_Un_numberOf_1 : decode b_Un_numberOf 1 = .ok (.getfield 9, 3) := by decide +kernel
theorem d_Un_numberOf_4 : decode b_Un_numberOf 4 = .ok (.iload_n 1, 1) := by decide +kernel
theorem d_Un_numberOf_5 : decode b_Un_numberOf 5 = .ok (.iaload, 1) := by decide +kernel
theorem d_Un_numberOf_6 : decode b_Un_numberOf 6 = .ok (.ireturn, 1) := by decide +kernel
theorem d_Un_commandOf_0 : decode b_Un_commandOf 0 = .ok (.aload_n 0, 1) := by decide +kernel
theorem d_Un_commandOf_1 : decode b_Un_commandOf 1 = .ok (.getfield 15, 3) := by decide +kernel
theorem d_Un_commandOf_4 : decode b_Un_commandOf 4 = .ok (.iload_n 1, 1) := by decide +kernel
theorem d_Un_commandOf_5 : decode b_Un_commandOf 5 = .ok (.iaload, 1) := by decide +kernel
theorem d_Un_commandOf_6 : decode b_Un_commandOf 6 = .ok (.ireturn, 1) := by decide +kernel
theorem d_Un_add_0 : decode b_Un_add 0 = .ok (.aload_n 0, 1) := by decide +kernel
theorem d_Un_add_1 : decode b_Un_add 1 = .ok (.getfield 22, 3) := by decide +kernel
theorem d_Un_add_4 : decode b_Un_add 4 = .ok (.iconst 4, 1) := by decide +kernel
theorem d_Un_add_5 : decode b_Un_add 5 = .ok (.if_icmp .ge 43, 3) := by decide +kernel
theorem d_Un_add_8 : decode b_Un_add 8 = .ok (.aload_n 0, 1) := by decide +kernel
theorem d_Un_add_9 : decode b_Un_add 9 = .ok (.getfield 9, 3) := by decide +kernel
theorem d_Un_add_12 : decode b_Un_add 12 = .ok (.aload_n 0, 1) := by decide +kernel
theorem d_Un_add_13 : decode b_Un_add 13 = .ok (.getfield 22, 3) := by decide +kernel
theorem d_Un_add_16 : decode b_Un_add 16 = .ok (.iload_n 1, 1) := by decide +kernel
theorem d_Un_add_17 : decode b_Un_add 17 = .ok (.iastore, 1) := by decide +kernel
theorem d_Un_add_18 : decode b_Un_add 18 = .ok (.aload_n 0, 1) := by decide +kernel
theorem d_Un_add_19 : decode b_Un_add 19 = .ok (.getfield 15, 3) := by decide +kernel
theorem d_Un_add_22 : decode b_Un_add 22 = .ok (.aload_n 0, 1) := by decide +kernel
theorem d_Un_add_23 : decode b_Un_add 23 = .ok (.getfield 22, 3) := by decide +kernel
theorem d_Un_add_26 : decode b_Un_add 26 = .ok (.iload_n 2, 1) := by decide +kernel
theorem d_Un_add_27 : decode b_Un_add 27 = .ok (.iastore, 1) := by decide +kernel
theorem d_Un_add_28 : decode b_Un_add 28 = .ok (.aload_n 0, 1) := by decide +kernel
theorem d_Un_add_29 : decode b_Un_add 29 = .ok (.getfield 18, 3) := by decide +kernel
theorem d_Un_add_32 : decode b_Un_add 32 = .ok (.aload_n 0, 1) := by decide +kernel
theorem d_Un_add_33 : decode b_Un_add 33 = .ok (.getfield 22, 3) := by decide +kernel
theorem d_Un_add_36 : decode b_Un_add 36 = .ok (.iconst 0, 1) := by decide +kernel
theorem d_Un_add_37 : decode b_Un_add 37 = .ok (.bastore, 1) := by decide +kernel
theorem d_Un_add_38 : decode b_Un_add 38 = .ok (.aload_n 0, 1) := by decide +kernel
theorem d_Un_add_39 : decode b_Un_add 39 = .ok (.dup, 1) := by decide +kernel
theorem d_Un_add_40 : decode b_Un_add 40 = .ok (.getfield 22, 3) := by decide +kernel
theorem d_Un_add_43 : decode b_Un_add 43 = .ok (.iconst 1, 1) := by decide +kernel
theorem d_Un_add_44 : decode b_Un_add 44 = .ok (.iadd, 1) := by decide +kernel
theorem d_Un_add_45 : decode b_Un_add 45 = .ok (.putfield 22, 3) := by decide +kernel
theorem d_Un_add_48 : decode b_Un_add 48 = .ok (.return_, 1) := by decide +kernel
theorem d_Un_removeFirst_0 : decode b_Un_removeFirst 0 = .ok (.iload_n 1, 1) := by decide +kernel
theorem d_Un_removeFirst_1 : decode b_Un_removeFirst 1 = .ok (.istore_n 2, 1) := by decide +kernel
theorem d_Un_removeFirst_2 : decode b_Un_removeFirst 2 = .ok (.iload_n 2, 1) := by decide +kernel
theorem d_Un_removeFirst_3 : decode b_Un_removeFirst 3 = .ok (.aload_n 0, 1) := by decide +kernel
theorem d_Un_removeFirst_4 : decode b_Un_removeFirst 4 = .ok (.getfield 22, 3) := by decide +kernel
theorem d_Un_removeFirst_7 : decode b_Un_removeFirst 7 = .ok (.if_icmp .ge 51, 3) := by decide +kernel
theorem d_Un_removeFirst_10 : decode b_Un_removeFirst 10 = .ok (.aload_n 0, 1) := by decide +kernel
theorem d_Un_removeFirst_11 : decode b_Un_removeFirst 11 = .ok (.getfield 9, 3) := by decide +kernel
theorem d_Un_removeFirst_14 : decode b_Un_removeFirst 14 = .ok (.iload_n 2, 1) := by decide +kernel
theorem d_Un_removeFirst_15 : decode b_Un_removeFirst 15 = .ok (.iload_n 1, 1) := by decide +kernel
theorem d_Un_removeFirst_16 : decode b_Un_removeFirst 16 = .ok (.isub, 1) := by decide +kernel
theorem d_Un_removeFirst_17 : decode b_Un_removeFirst 17 = .ok (.aload_n 0, 1) := by decide +kernel
theorem d_Un_removeFirst_18 : decode b_Un_removeFirst 18 = .ok (.getfield 9, 3) := by decide +kernel
theorem d_Un_removeFirst_21 : decode b_Un_removeFirst 21 = .ok (.iload_n 2, 1) := by decide +kernel
theorem d_Un_removeFirst_22 : decode b_Un_removeFirst 22 = .ok (.iaload, 1) := by decide +kernel
theorem d_Un_removeFirst_23 : decode b_Un_removeFirst 23 = .ok (.iastore, 1) := by decide +kernel
theorem d_Un_removeFirst_24 : decode b_Un_removeFirst 24 = .ok (.aload_n 0, 1) := by decide +kernel
theorem d_Un_removeFirst_25 : decode b_Un_removeFirst 25 = .ok (.getfield 15, 3) := by decide +kernel
theorem d_Un_removeFirst_28 : decode b_Un_removeFirst 28 = .ok (.iload_n 2, 1) := by decide +kernel
theorem d_Un_removeFirst_29 : decode b_Un_removeFirst 29 = .ok (.iload_n 1, 1) := by decide +kernel
theorem d_Un_removeFirst_30 : decode b_Un_removeFirst 30 = .ok (.isub, 1) := by decide +kernel
theorem d_Un_removeFirst_31 : decode b_Un_removeFirst 31 = .ok (.aload_n 0, 1) := by decide +kernel
theorem d_Un_removeFirst_32 : decode b_Un_removeFirst 32 = .ok (.getfield 15, 3) := by decide +kernel
theorem d_Un_removeFirst_35 : decode b_Un_removeFirst 35 = .ok (.iload_n 2, 1) := by decide +kernel
theorem d_Un_removeFirst_36 : decode b_Un_removeFirst 36 = .ok (.iaload, 1) := by decide +kernel
theorem d_Un_removeFirst_37 : decode b_Un_removeFirst 37 = .ok (.iastore, 1) := by decide +kernel
theorem d_Un_removeFirst_38 : decode b_Un_removeFirst 38 = .ok (.aload_n 0, 1) := by decide +kernel
theorem d_Un_removeFirst_39 : decode b_Un_removeFirst 39 = .ok (.getfield 18, 3) := by decide +kernel
theorem d_Un_removeFirst_42 : decode b_Un_removeFirst 42 = .ok (.iload_n 2, 1) := by decide +kernel
theorem d_Un_removeFirst_43 : decode b_Un_removeFirst 43 = .ok (.iload_n 1, 1) := by decide +kernel
theorem d_Un_removeFirst_44 : decode b_Un_removeFirst 44 = .ok (.isub, 1) := by decide +kernel
theorem d_Un_removeFirst_45 : decode b_Un_removeFirst 45 = .ok (.aload_n 0, 1) := by decide +kernel
theorem d_Un_removeFirst_46 : decode b_Un_removeFirst 46 = .ok (.getfield 18, 3) := by decide +kernel
theorem d_Un_removeFirst_49 : decode b_Un_removeFirst 49 = .ok (.iload_n 2, 1) := by decide +kernel
theorem d_Un_removeFirst_50 : decode b_Un_removeFirst 50 = .ok (.baload, 1) := by decide +kernel
theorem d_Un_removeFirst_51 : decode b_Un_removeFirst 51 = .ok (.bastore, 1) := by decide +kernel
theorem d_Un_removeFirst_52 : decode b_Un_removeFirst 52 = .ok (.iinc 2 1, 3) := by decide +kernel
theorem d_Un_removeFirst_55 : decode b_Un_removeFirst 55 = .ok (.goto (-53), 3) := by decide +kernel
theorem d_Un_removeFirst_58 : decode b_Un_removeFirst 58 = .ok (.aload_n 0, 1) := by decide +kernel
theorem d_Un_removeFirst_59 : decode b_Un_removeFirst 59 = .ok (.dup, 1) := by decide +kernel
theorem d_Un_removeFirst_60 : decode b_Un_removeFirst 60 = .ok (.getfield 22, 3) := by decide +kernel
theorem d_Un_removeFirst_63 : decode b_Un_removeFirst 63 = .ok (.iload_n 1, 1) := by decide +kernel
theorem d_Un_removeFirst_64 : decode b_Un_removeFirst 64 = .ok (.isub, 1) := by decide +kernel
theorem d_Un_removeFirst_65 : decode b_Un_removeFirst 65 = .ok (.putfield 22, 3) := by decide +kernel
theorem d_Un_removeFirst_68 : decode b_Un_removeFirst 68 = .ok (.return_, 1) := by decide +kernel
theorem d_Un_clear_0 : decode b_Un_clear 0 = .ok (.aload_n 0, 1) := by decide +kernel
theorem d_Un_clear_1 : decode b_Un_clear 1 = .ok (.iconst 0, 1) := by decide +kernel
theorem d_Un_clear_2 : decode b_Un_clear 2 = .ok (.putfield 22, 3) := by decide +kernel
theorem d_Un_clear_5 : decode b_Un_clear 5 = .ok (.return_, 1) := by decide +kernel
theorem d_Un_markAll_0 : decode b_Un_markAll 0 = .ok (.iconst 0, 1) := by decide +kernel
theorem d_Un_markAll_1 : decode b_Un_markAll 1 = .ok (.istore_n 1, 1) := by decide +kernel
theorem d_Un_markAll_2 : decode b_Un_markAll 2 = .ok (.iload_n 1, 1) := by decide +kernel
theorem d_Un_markAll_3 : decode b_Un_markAll 3 = .ok (.aload_n 0, 1) := by decide +kernel
theorem d_Un_markAll_4 : decode b_Un_markAll 4 = .ok (.getfield 22, 3) := by decide +kernel
theorem d_Un_markAll_7 : decode b_Un_markAll 7 = .ok (.if_icmp .ge 16, 3) := by decide +kernel
theorem d_Un_markAll_10 : decode b_Un_markAll 10 = .ok (.aload_n 0, 1) := by decide +kernel
theorem d_Un_markAll_11 : decode b_Un_markAll 11 = .ok (.getfield 18, 3) := by decide +kernel
theorem d_Un_markAll_14 : decode b_Un_markAll 14 = .ok (.iload_n 1, 1) := by decide +kernel
theorem d_Un_markAll_15 : decode b_Un_markAll 15 = .ok (.iconst 1, 1) := by decide +kernel
theorem d_Un_markAll_16 : decode b_Un_markAll 16 = .ok (.bastore, 1) := by decide +kernel
theorem d_Un_markAll_17 : decode b_Un_markAll 17 = .ok (.iinc 1 1, 3) := by decide +kernel
theorem d_Un_markAll_20 : decode b_Un_markAll 20 = .ok (.goto (-18), 3) := by decide +kernel
theorem d_Un_markAll_23 : decode b_Un_markAll 23 = .ok (.return_, 1) := by decide +kernel
theorem d_Un_unmark_0 : decode b_Un_unmark 0 = .ok (.aload_n 0, 1) := by decide +kernel
theorem d_Un_unmark_1 : decode b_Un_unmark 1 = .ok (.getfield 18, 3) := by decide +kernel
theorem d_Un_unmark_4 : decode b_Un_unmark 4 = .ok (.iload_n 1, 1) := by decide +kernel
theorem d_Un_unmark_5 : decode b_Un_unmark 5 = .ok (.iconst 0, 1) := by decide +kernel
theorem d_Un_unmark_6 : decode b_Un_unmark 6 = .ok (.bastore, 1) := by decide +kernel
theorem d_Un_unmark_7 : decode b_Un_unmark 7 = .ok (.return_, 1) := by decide +kernel
theorem d_Un_firstMarked_0 : decode b_Un_firstMarked 0 = .ok (.iconst 0, 1) := by decide +kernel
theorem d_Un_firstMarked_1 : decode b_Un_firstMarked 1 = .ok (.istore_n 1, 1) := by decide +kernel
theorem d_Un_firstMarked_2 : decode b_Un_firstMarked 2 = .ok (.iload_n 1, 1) := by decide +kernel
theorem d_Un_firstMarked_3 : decode b_Un_firstMarked 3 = .ok (.aload_n 0, 1) := by decide +kernel
theorem d_Un_firstMarked_4 : decode b_Un_firstMarked 4 = .ok (.getfield 22, 3) := by decide +kernel
theorem d_Un_firstMarked_7 : decode b_Un_firstMarked 7 = .ok (.if_icmp .ge 20, 3) := by decide +kernel
theorem d_Un_firstMarked_10 : decode b_Un_firstMarked 10 = .ok (.aload_n 0, 1) := by decide +kernel
theorem d_Un_firstMarked_11 : decode b_Un_firstMarked 11 = .ok (.getfield 18, 3) := by decide +kernel
theorem d_Un_firstMarked_14 : decode b_Un_firstMarked 14 = .ok (.iload_n 1, 1) := by decide +kernel
theorem d_Un_firstMarked_15 : decode b_Un_firstMarked 15 = .ok (.baload, 1) := by decide +kernel
theorem d_Un_firstMarked_16 : decode b_Un_firstMarked 16 = .ok (.ifCond .eq 5, 3) := by decide +kernel
theorem d_Un_firstMarked_19 : decode b_Un_firstMarked 19 = .ok (.iload_n 1, 1) := by decide +kernel
theorem d_Un_firstMarked_20 : decode b_Un_firstMarked 20 = .ok (.ireturn, 1) := by decide +kernel
theorem d_Un_firstMarked_21 : decode b_Un_firstMarked 21 = .ok (.iinc 1 1, 3) := by decide +kernel
theorem d_Un_firstMarked_24 : decode b_Un_firstMarked 24 = .ok (.goto (-22), 3) := by decide +kernel
theorem d_Un_firstMarked_27 : decode b_Un_firstMarked 27 = .ok (.iconst (-1), 1) := by decide +kernel
theorem d_Un_firstMarked_28 : decode b_Un_firstMarked 28 = .ok (.ireturn, 1) := by decide +kernel
theorem d_Un_countMarked_0 : decode b_Un_countMarked 0 = .ok (.iconst 0, 1) := by decide +kernel
theorem d_Un_countMarked_1 : decode b_Un_countMarked 1 = .ok (.istore_n 1, 1) := by decide +kernel
theorem d_Un_countMarked_2 : decode b_Un_countMarked 2 = .ok (.iconst 0, 1) := by decide +kernel
theorem d_Un_countMarked_3 : decode b_Un_countMarked 3 = .ok (.istore_n 2, 1) := by decide +kernel
theorem d_Un_countMarked_4 : decode b_Un_countMarked 4 = .ok (.iload_n 2, 1) := by decide +kernel
theorem d_Un_countMarked_5 : decode b_Un_countMarked 5 = .ok (.aload_n 0, 1) := by decide +kernel
theorem d_Un_countMarked_6 : decode b_Un_countMarked 6 = .ok (.getfield 22, 3) := by decide +kernel
theorem d_Un_countMarked_9 : decode b_Un_countMarked 9 = .ok (.if_icmp .ge 21, 3) := by decide +kernel
theorem d_Un_countMarked_12 : decode b_Un_countMarked 12 = .ok (.aload_n 0, 1) := by decide +kernel
theorem d_Un_countMarked_13 : decode b_Un_countMarked 13 = .ok (.getfield 18, 3) := by decide +kernel
theorem d_Un_countMarked_16 : decode b_Un_countMarked 16 = .ok (.iload_n 2, 1) := by decide +kernel
theorem d_Un_countMarked_17 : decode b_Un_countMarked 17 = .ok (.baload, 1) := by decide +kernel
theorem d_Un_countMarked_18 : decode b_Un_countMarked 18 = .ok (.ifCond .eq 6, 3) := by decide +kernel
theorem d_Un_countMarked_21 : decode b_Un_countMarked 21 = .ok (.iinc 1 1, 3) := by decide +kernel
theorem d_Un_countMarked_24 : decode b_Un_countMarked 24 = .ok (.iinc 2 1, 3) := by decide +kernel
theorem d_Un_countMarked_27 : decode b_Un_countMarked 27 = .ok (.goto (-23), 3) := by decide +kernel
theorem d_Un_countMarked_30 : decode b_Un_countMarked 30 = .ok (.iload_n 1, 1) := by decide +kernel
theorem d_Un_countMarked_31 : decode b_Un_countMarked 31 = .ok (.ireturn, 1) := by decide +kernel
theorem d_Uf_init_0 : decode b_Uf_init 0 = .ok (.aload_n 0, 1) := by decide +kernel
theorem d_Uf_init_1 : decode b_Uf_init 1 = .ok (.invokespecial 3, 3) := by decide +kernel
theorem d_Uf_init_4 : decode b_Uf_init 4 = .ok (.aload_n 0, 1) := by decide +kernel
theorem d_Uf_init_5 : decode b_Uf_init 5 = .ok (.bipush 20, 2) := by decide +kernel
theorem d_Uf_init_7 : decode b_Uf_init 7 = .ok (.newarray .int, 2) := by decide +kernel
theorem d_Uf_init_9 : decode b_Uf_init 9 = .ok (.putfield 9, 3) := by decide +kernel
theorem d_Uf_init_12 : decode b_Uf_init 12 = .ok (.aload_n 0, 1) := by decide +kernel
theorem d_Uf_init_13 : decode b_Uf_init 13 = .ok (.bipush 20, 2) := by decide +kernel
theorem d_Uf_init_15 : decode b_Uf_init 15 = .ok (.newarray .int, 2) := by decide +kernel
theorem d_Uf_init_17 : decode b_Uf_init 17 = .ok (.putfield 15, 3) := by decide +kernel
theorem d_Uf_init_20 : decode b_Uf_init 20 = .ok (.aload_n 0, 1) := by decide +kernel
theorem d_Uf_init_21 : decode b_Uf_init 21 = .ok (.bipush 20, 2) := by decide +kernel
theorem d_Uf_init_23 : decode b_Uf_init 23 = .ok (.newarray .int, 2) := by decide +kernel
theorem d_Uf_init_25 : decode b_Uf_init 25 = .ok (.putfield 18, 3) := by decide +kernel
theorem d_Uf_init_28 : decode b_Uf_init 28 = .ok (.return_, 1) := by decide +kernel
theorem d_Uf_size_0 : decode b_Uf_size 0 = .ok (.aload_n 0, 1) := by decide +kernel
theorem d_Uf_size_1 : decode b_Uf_size 1 = .ok (.getfield 21, 3) := by decide +kernel
theorem d_Uf_size_4 : decode b_Uf_size 4 = .ok (.ireturn, 1) := by decide +kernel
theorem d_Uf_has_0 : decode b_Uf_has 0 = .ok (.iload_n 1, 1) := by decide +kernel
theorem d_Uf_has_1 : decode b_Uf_has 1 = .ok (.ifCond .lt 15, 3) := by decide +kernel
theorem d_Uf_has_4 : decode b_Uf_has 4 = .ok (.iload_n 1, 1) := by decide +kernel
theorem d_Uf_has_5 : decode b_Uf_has 5 = .ok (.aload_n 0, 1) := by decide +kernel
theorem d_Uf_has_6 : decode b_Uf_has 6 = .ok (.getfield 21, 3) := by decide +kernel
theorem d_Uf_has_9 : decode b_Uf_has 9 = .ok (.if_icmp .ge 7, 3) := by decide +kernel
theorem d_Uf_has_12 : decode b_Uf_has 12 = .ok (.iconst 1, 1) := by decide +kernel
theorem d_Uf_has_13 : decode b_Uf_has 13 = .ok (.goto 4, 3) := by decide +kernel
theorem d_Uf_has_16 : decode b_Uf_has 16 = .ok (.iconst 0, 1) := by decide +kernel
theorem d_Uf_has_17 : decode b_Uf_has 17 = .ok (.ireturn, 1) := by decide +kernel
theorem d_Uf_kind_0 : decode b_Uf_kind 0 = .ok (.aload_n 0, 1) := by decide +kernel
theorem d_Uf_kind_1 : decode b_Uf_kind 1 = .ok (.getfield 9, 3) := by decide +kernel
theorem d_Uf_kind_4 : decode b_Uf_kind 4 = .ok (.iload_n 1, 1) := by decide +kernel
theorem d_Uf_kind_5 : decode b_Uf_kind 5 = .ok (.iaload, 1) := by decide +kernel
theorem d_Uf_kind_6 : decode b_Uf_kind 6 = .ok (.ireturn, 1) := by decide +kernel
theorem d_Uf_numberOf_0 : decode b_Uf_numberOf 0 = .ok (.aload_n 0, 1) := by decide +kernel
theorem d_Uf_numberOf_1 : decode b_Uf_numberOf 1 = .ok (.getfield 15, 3) := by decide +kernel
theorem d_Uf_numberOf_4 : decode b_Uf_numberOf 4 = .ok (.iload_n 1, 1) := by decide +kernel
theorem d_Uf_numberOf_5 : decode b_Uf_numberOf 5 = .ok (.iaload, 1) := by decide +kernel
theorem d_Uf_numberOf_6 : decode b_Uf_numberOf 6 = .ok (.ireturn, 1) := by decide +kernel
theorem d_Uf_commandOf_0 : decode b_Uf_commandOf 0 = .ok (.aload_n 0, 1) := by decide +kernel
theorem d_Uf_commandOf_1 : decode b_Uf_commandOf 1 = .ok (.getfield 18, 3) := by decide +kernel
theorem d_Uf_commandOf_4 : decode b_Uf_commandOf 4 = .ok (.iload_n 1, 1) := by decide +kernel
theorem d_Uf_commandOf_5 : decode b_Uf_commandOf 5 = .ok (.iaload, 1) := by decide +kernel
theorem d_Uf_commandOf_6 : decode b_Uf_commandOf 6 = .ok (.ireturn, 1) := by decide +kernel
theorem d_Uf_tell_0 : decode b_Uf_tell 0 = .ok (.iload_n 2, 1) := by decide +kernel
theorem d_Uf_tell_1 : decode b_Uf_tell 1 = .ok (.tableswitch 48 0 2 #[27, 34, 41], 27) := by decide +kernel
theorem d_Uf_tell_28 : decode b_Uf_tell 28 = .ok (.aload_n 0, 1) := by decide +kernel
theorem d_Uf_tell_29 : decode b_Uf_tell 29 = .ok (.getfield 9, 3) := by decide +kernel
theorem d_Uf_tell_32 : decode b_Uf_tell 32 = .ok (.iload_n 1, 1) := by decide +kernel
theorem d_Uf_tell_33 : decode b_Uf_tell 33 = .ok (.iaload, 1) := by decide +kernel
theorem d_Uf_tell_34 : decode b_Uf_tell 34 = .ok (.ireturn, 1) := by decide +kernel
theorem d_Uf_tell_35 : decode b_Uf_tell 35 = .ok (.aload_n 0, 1) := by decide +kernel
theorem d_Uf_tell_36 : decode b_Uf_tell 36 = .ok (.getfield 15, 3) := by decide +kernel
theorem d_Uf_tell_39 : decode b_Uf_tell 39 = .ok (.iload_n 1, 1) := by decide +kernel
theorem d_Uf_tell_40 : decode b_Uf_tell 40 = .ok (.iaload, 1) := by decide +kernel
theorem d_Uf_tell_41 : decode b_Uf_tell 41 = .ok (.ireturn, 1) := by decide +kernel
theorem d_Uf_tell_42 : decode b_Uf_tell 42 = .ok (.aload_n 0, 1) := by decide +kernel
theorem d_Uf_tell_43 : decode b_Uf_tell 43 = .ok (.getfield 18, 3) := by decide +kernel
theorem d_Uf_tell_46 : decode b_Uf_tell 46 = .ok (.iload_n 1, 1) := by decide +kernel
theorem d_Uf_tell_47 : decode b_Uf_tell 47 = .ok (.iaload, 1) := by decide +kernel
theorem d_Uf_tell_48 : decode b_Uf_tell 48 = .ok (.ireturn, 1) := by decide +kernel
theorem d_Uf_tell_49 : decode b_Uf_tell 49 = .ok (.iconst 0, 1) := by decide +kernel
theorem d_Uf_tell_50 : decode b_Uf_tell 50 = .ok (.ireturn, 1) := by decide +kernel
theorem d_Uf_add_0 : decode b_Uf_add 0 = .ok (.aload_n 0, 1) := by decide +kernel
theorem d_Uf_add_1 : decode b_Uf_add 1 = .ok (.getfield 21, 3) := by decide +kernel
theorem d_Uf_add_4 : decode b_Uf_add 4 = .ok (.bipush 20, 2) := by decide +kernel
theorem d_Uf_add_6 : decode b_Uf_add 6 = .ok (.if_icmp .ge 43, 3) := by decide +kernel
theorem d_Uf_add_9 : decode b_Uf_add 9 = .ok (.aload_n 0, 1) := by decide +kernel
theorem d_Uf_add_10 : decode b_Uf_add 10 = .ok (.getfield 9, 3) := by decide +kernel
theorem d_Uf_add_13 : decode b_Uf_add 13 = .ok (.aload_n 0, 1) := by decide +kernel
theorem d_Uf_add_14 : decode b_Uf_add 14 = .ok (.getfield 21, 3) := by decide +kernel
theorem d_Uf_add_17 : decode b_Uf_add 17 = .ok (.iload_n 1, 1) := by decide +kernel
theorem d_Uf_add_18 : decode b_Uf_add 18 = .ok (.iastore, 1) := by decide +kernel
theorem d_Uf_add_19 : decode b_Uf_add 19 = .ok (.aload_n 0, 1) := by decide +kernel
theorem d_Uf_add_20 : decode b_Uf_add 20 = .ok (.getfield 15, 3) := by decide +kernel
theorem d_Uf_add_23 : decode b_Uf_add 23 = .ok (.aload_n 0, 1) := by decide +kernel
theorem d_Uf_add_24 : decode b_Uf_add 24 = .ok (.getfield 21, 3) := by decide +kernel
theorem d_Uf_add_27 : decode b_Uf_add 27 = .ok (.iload_n 2, 1) := by decide +kernel
theorem d_Uf_add_28 : decode b_Uf_add 28 = .ok (.iastore, 1) := by decide +kernel
theorem d_Uf_add_29 : decode b_Uf_add 29 = .ok (.aload_n 0, 1) := by decide +kernel
theorem d_Uf_add_30 : decode b_Uf_add 30 = .ok (.getfield 18, 3) := by decide +kernel
theorem d_Uf_add_33 : decode b_Uf_add 33 = .ok (.aload_n 0, 1) := by decide +kernel
theorem d_Uf_add_34 : decode b_Uf_add 34 = .ok (.getfield 21, 3) := by decide +kernel
theorem d_Uf_add_37 : decode b_Uf_add 37 = .ok (.iload_n 3, 1) := by decide +kernel
theorem d_Uf_add_38 : decode b_Uf_add 38 = .ok (.iastore, 1) := by decide +kernel
theorem d_Uf_add_39 : decode b_Uf_add 39 = .ok (.aload_n 0, 1) := by decide +kernel
theorem d_Uf_add_40 : decode b_Uf_add 40 = .ok (.dup, 1) := by decide +kernel
theorem d_Uf_add_41 : decode b_Uf_add 41 = .ok (.getfield 21, 3) := by decide +kernel
theorem d_Uf_add_44 : decode b_Uf_add 44 = .ok (.iconst 1, 1) := by decide +kernel
theorem d_Uf_add_45 : decode b_Uf_add 45 = .ok (.iadd, 1) := by decide +kernel
theorem d_Uf_add_46 : decode b_Uf_add 46 = .ok (.putfield 21, 3) := by decide +kernel
theorem d_Uf_add_49 : decode b_Uf_add 49 = .ok (.return_, 1) := by decide +kernel
theorem d_Uf_remove_0 : decode b_Uf_remove 0 = .ok (.iload_n 1, 1) := by decide +kernel
theorem d_Uf_remove_1 : decode b_Uf_remove 1 = .ok (.iconst 1, 1) := by decide +kernel
theorem d_Uf_remove_2 : decode b_Uf_remove 2 = .ok (.iadd, 1) := by decide +kernel
theorem d_Uf_remove_3 : decode b_Uf_remove 3 = .ok (.istore_n 2, 1) := by decide +kernel
theorem d_Uf_remove_4 : decode b_Uf_remove 4 = .ok (.iload_n 2, 1) := by decide +kernel
theorem d_Uf_remove_5 : decode b_Uf_remove 5 = .ok (.aload_n 0, 1) := by decide +kernel
theorem d_Uf_remove_6 : decode b_Uf_remove 6 = .ok (.getfield 21, 3) := by decide +kernel
theorem d_Uf_remove_9 : decode b_Uf_remove 9 = .ok (.if_icmp .ge 51, 3) := by decide +kernel
theorem d_Uf_remove_12 : decode b_Uf_remove 12 = .ok (.aload_n 0, 1) := by decide +kernel
theorem d_Uf_remove_13 : decode b_Uf_remove 13 = .ok (.getfield 9, 3) := by decide +kernel
theorem d_Uf_remove_16 : decode b_Uf_remove 16 = .ok (.iload_n 2, 1) := by decide +kernel
theorem d_Uf_remove_17 : decode b_Uf_remove 17 = .ok (.iconst 1, 1) := by decide +kernel
theorem d_Uf_remove_18 : decode b_Uf_remove 18 = .ok (.isub, 1) := by decide +kernel
theorem d_Uf_remove_19 : decode b_Uf_remove 19 = .ok (.aload_n 0, 1) := by decide +kernel
theorem d_Uf_remove_20 : decode b_Uf_remove 20 = .ok (.getfield 9, 3) := by decide +kernel
theorem d_Uf_remove_23 : decode b_Uf_remove 23 = .ok (.iload_n 2, 1) := by decide +kernel
theorem d_Uf_remove_24 : decode b_Uf_remove 24 = .ok (.iaload, 1) := by decide +kernel
theorem d_Uf_remove_25 : decode b_Uf_remove 25 = .ok (.iastore, 1) := by decide +kernel
theorem d_Uf_remove_26 : decode b_Uf_remove 26 = .ok (.aload_n 0, 1) := by decide +kernel
theorem d_Uf_remove_27 : decode b_Uf_remove 27 = .ok (.getfield 15, 3) := by decide +kernel
theorem d_Uf_remove_30 : decode b_Uf_remove 30 = .ok (.iload_n 2, 1) := by decide +kernel
theorem d_Uf_remove_31 : decode b_Uf_remove 31 = .ok (.iconst 1, 1) := by decide +kernel
theorem d_Uf_remove_32 : decode b_Uf_remove 32 = .ok (.isub, 1) := by decide +kernel
theorem d_Uf_remove_33 : decode b_Uf_remove 33 = .ok (.aload_n 0, 1) := by decide +kernel
theorem d_Uf_remove_34 : decode b_Uf_remove 34 = .ok (.getfield 15, 3) := by decide +kernel
theorem d_Uf_remove_37 : decode b_Uf_remove 37 = .ok (.iload_n 2, 1) := by decide +kernel
theorem d_Uf_remove_38 : decode b_Uf_remove 38 = .ok (.iaload, 1) := by decide +kernel
theorem d_Uf_remove_39 : decode b_Uf_remove 39 = .ok (.iastore, 1) := by decide +kernel
theorem d_Uf_remove_40 : decode b_Uf_remove 40 = .ok (.aload_n 0, 1) := by decide +kernel
theorem d_Uf_remove_41 : decode b_Uf_remove 41 = .ok (.getfield 18, 3) := by decide +kernel
theorem d_Uf_remove_44 : decode b_Uf_remove 44 = .ok (.iload_n 2, 1) := by decide +kernel
theorem d_Uf_remove_45 : decode b_Uf_remove 45 = .ok (.iconst 1, 1) := by decide +kernel
theorem d_Uf_remove_46 : decode b_Uf_remove 46 = .ok (.isub, 1) := by decide +kernel
theorem d_Uf_remove_47 : decode b_Uf_remove 47 = .ok (.aload_n 0, 1) := by decide +kernel
theorem d_Uf_remove_48 : decode b_Uf_remove 48 = .ok (.getfield 18, 3) := by decide +kernel
theorem d_Uf_remove_51 : decode b_Uf_remove 51 = .ok (.iload_n 2, 1) := by decide +kernel
theorem d_Uf_remove_52 : decode b_Uf_remove 52 = .ok (.iaload, 1) := by decide +kernel
theorem d_Uf_remove_53 : decode b_Uf_remove 53 = .ok (.iastore, 1) := by decide +kernel
theorem d_Uf_remove_54 : decode b_Uf_remove 54 = .ok (.iinc 2 1, 3) := by decide +kernel
theorem d_Uf_remove_57 : decode b_Uf_remove 57 = .ok (.goto (-53), 3) := by decide +kernel
theorem d_Uf_remove_60 : decode b_Uf_remove 60 = .ok (.aload_n 0, 1) := by decide +kernel
theorem d_Uf_remove_61 : decode b_Uf_remove 61 = .ok (.dup, 1) := by decide +kernel
theorem d_Uf_remove_62 : decode b_Uf_remove 62 = .ok (.getfield 21, 3) := by decide +kernel
theorem d_Uf_remove_65 : decode b_Uf_remove 65 = .ok (.iconst 1, 1) := by decide +kernel
theorem d_Uf_remove_66 : decode b_Uf_remove 66 = .ok (.isub, 1) := by decide +kernel
theorem d_Uf_remove_67 : decode b_Uf_remove 67 = .ok (.putfield 21, 3) := by decide +kernel
theorem d_Uf_remove_70 : decode b_Uf_remove 70 = .ok (.return_, 1) := by decide +kernel
theorem d_Ma_floorMod_0 : decode b_Ma_floorMod 0 = .ok (.iload_n 0, 1) := by decide +kernel
theorem d_Ma_floorMod_1 : decode b_Ma_floorMod 1 = .ok (.iload_n 1, 1) := by decide +kernel
theorem d_Ma_floorMod_2 : decode b_Ma_floorMod 2 = .ok (.irem, 1) := by decide +kernel
theorem d_Ma_floorMod_3 : decode b_Ma_floorMod 3 = .ok (.istore_n 2, 1) := by decide +kernel
theorem d_Ma_floorMod_4 : decode b_Ma_floorMod 4 = .ok (.iload_n 0, 1) := by decide +kernel
theorem d_Ma_floorMod_5 : decode b_Ma_floorMod 5 = .ok (.iload_n 1, 1) := by decide +kernel
theorem d_Ma_floorMod_6 : decode b_Ma_floorMod 6 = .ok (.ixor, 1) := by decide +kernel
theorem d_Ma_floorMod_7 : decode b_Ma_floorMod 7 = .ok (.ifCond .ge 11, 3) := by decide +kernel
theorem d_Ma_floorMod_10 : decode b_Ma_floorMod 10 = .ok (.iload_n 2, 1) := by decide +kernel
theorem d_Ma_floorMod_11 : decode b_Ma_floorMod 11 = .ok (.ifCond .eq 7, 3) := by decide +kernel
theorem d_Ma_floorMod_14 : decode b_Ma_floorMod 14 = .ok (.iload_n 2, 1) := by decide +kernel
theorem d_Ma_floorMod_15 : decode b_Ma_floorMod 15 = .ok (.iload_n 1, 1) := by decide +kernel
theorem d_Ma_floorMod_16 : decode b_Ma_floorMod 16 = .ok (.iadd, 1) := by decide +kernel
theorem d_Ma_floorMod_17 : decode b_Ma_floorMod 17 = .ok (.ireturn, 1) := by decide +kernel
theorem d_Ma_floorMod_18 : decode b_Ma_floorMod 18 = .ok (.iload_n 2, 1) := by decide +kernel
theorem d_Ma_floorMod_19 : decode b_Ma_floorMod 19 = .ok (.ireturn, 1) := by decide +kernel
theorem d_Ma_max_0 : decode b_Ma_max 0 = .ok (.iload_n 0, 1) := by decide +kernel
theorem d_Ma_max_1 : decode b_Ma_max 1 = .ok (.iload_n 1, 1) := by decide +kernel
theorem d_Ma_max_2 : decode b_Ma_max 2 = .ok (.if_icmp .lt 7, 3) := by decide +kernel
theorem d_Ma_max_5 : decode b_Ma_max 5 = .ok (.iload_n 0, 1) := by decide +kernel
theorem d_Ma_max_6 : decode b_Ma_max 6 = .ok (.goto 4, 3) := by decide +kernel
theorem d_Ma_max_9 : decode b_Ma_max 9 = .ok (.iload_n 1, 1) := by decide +kernel
theorem d_Ma_max_10 : decode b_Ma_max 10 = .ok (.ireturn, 1) := by decide +kernel
