theorem d_M_init_0 : decode b_M_init 0 = .ok (.aload_n 0, 1) := by decide +kernel
theorem d_M_init_1 : decode b_M_init 1 = .ok (.invokespecial 1, 3) := by decide +kernel
theorem d_M_init_4 : decode b_M_init 4 = .ok (.aload_n 0, 1) := by decide +kernel
theorem d_M_init_5 : decode b_M_init 5 = .ok (.iconst 3, 1) := by decide +kernel
theorem d_M_init_6 : decode b_M_init 6 = .ok (.putfield 7, 3) := by decide +kernel
theorem d_M_init_9 : decode b_M_init 9 = .ok (.aload_n 0, 1) := by decide +kernel
theorem d_M_init_10 : decode b_M_init 10 = .ok (.iconst 4, 1) := by decide +kernel
theorem d_M_init_11 : decode b_M_init 11 = .ok (.putfield 13, 3) := by decide +kernel
theorem d_M_init_14 : decode b_M_init 14 = .ok (.aload_n 0, 1) := by decide +kernel
theorem d_M_init_15 : decode b_M_init 15 = .ok (.iconst 5, 1) := by decide +kernel
theorem d_M_init_16 : decode b_M_init 16 = .ok (.putfield 16, 3) := by decide +kernel
theorem d_M_init_19 : decode b_M_init 19 = .ok (.aload_n 0, 1) := by decide +kernel
theorem d_M_init_20 : decode b_M_init 20 = .ok (.iconst 4, 1) := by decide +kernel
theorem d_M_init_21 : decode b_M_init 21 = .ok (.newarray .int, 2) := by decide +kernel
theorem d_M_init_23 : decode b_M_init 23 = .ok (.putfield 19, 3) := by decide +kernel
theorem d_M_init_26 : decode b_M_init 26 = .ok (.aload_n 0, 1) := by decide +kernel
theorem d_M_init_27 : decode b_M_init 27 = .ok (.iconst 4, 1) := by decide +kernel
theorem d_M_init_28 : decode b_M_init 28 = .ok (.newarray .boolean, 2) := by decide +kernel
theorem d_M_init_30 : decode b_M_init 30 = .ok (.putfield 23, 3) := by decide +kernel
theorem d_M_init_33 : decode b_M_init 33 = .ok (.aload_n 0, 1) := by decide +kernel
theorem d_M_init_34 : decode b_M_init 34 = .ok (.bipush 20, 2) := by decide +kernel
theorem d_M_init_36 : decode b_M_init 36 = .ok (.newarray .int, 2) := by decide +kernel
theorem d_M_init_38 : decode b_M_init 38 = .ok (.putfield 27, 3) := by decide +kernel
theorem d_M_init_41 : decode b_M_init 41 = .ok (.aload_n 0, 1) := by decide +kernel
theorem d_M_init_42 : decode b_M_init 42 = .ok (.bipush 20, 2) := by decide +kernel
theorem d_M_init_44 : decode b_M_init 44 = .ok (.newarray .int, 2) := by decide +kernel
theorem d_M_init_46 : decode b_M_init 46 = .ok (.putfield 30, 3) := by decide +kernel
theorem d_M_init_49 : decode b_M_init 49 = .ok (.aload_n 0, 1) := by decide +kernel
theorem d_M_init_50 : decode b_M_init 50 = .ok (.bipush 20, 2) := by decide +kernel
theorem d_M_init_52 : decode b_M_init 52 = .ok (.newarray .int, 2) := by decide +kernel
theorem d_M_init_54 : decode b_M_init 54 = .ok (.putfield 33, 3) := by decide +kernel
theorem d_M_init_57 : decode b_M_init 57 = .ok (.aload_n 0, 1) := by decide +kernel
theorem d_M_init_58 : decode b_M_init 58 = .ok (.iconst 3, 1) := by decide +kernel
theorem d_M_init_59 : decode b_M_init 59 = .ok (.newarray .int, 2) := by decide +kernel
theorem d_M_init_61 : decode b_M_init 61 = .ok (.putfield 36, 3) := by decide +kernel
theorem d_M_init_64 : decode b_M_init 64 = .ok (.aload_n 0, 1) := by decide +kernel
theorem d_M_init_65 : decode b_M_init 65 = .ok (.bipush 20, 2) := by decide +kernel
theorem d_M_init_67 : decode b_M_init 67 = .ok (.newarray .int, 2) := by decide +kernel
theorem d_M_init_69 : decode b_M_init 69 = .ok (.putfield 39, 3) := by decide +kernel
theorem d_M_init_72 : decode b_M_init 72 = .ok (.aload_n 0, 1) := by decide +kernel
theorem d_M_init_73 : decode b_M_init 73 = .ok (.iconst 2, 1) := by decide +kernel
theorem d_M_init_74 : decode b_M_init 74 = .ok (.newarray .int, 2) := by decide +kernel
theorem d_M_init_76 : decode b_M_init 76 = .ok (.putfield 42, 3) := by decide +kernel
theorem d_M_init_79 : decode b_M_init 79 = .ok (.aload_n 0, 1) := by decide +kernel
theorem d_M_init_80 : decode b_M_init 80 = .ok (.iconst 2, 1) := by decide +kernel
theorem d_M_init_81 : decode b_M_init 81 = .ok (.newarray .int, 2) := by decide +kernel
theorem d_M_init_83 : decode b_M_init 83 = .ok (.putfield 45, 3) := by decide +kernel
theorem d_M_init_86 : decode b_M_init 86 = .ok (.aload_n 0, 1) := by decide +kernel
theorem d_M_init_87 : decode b_M_init 87 = .ok (.sipush 128, 3) := by decide +kernel
theorem d_M_init_90 : decode b_M_init 90 = .ok (.newarray .int, 2) := by decide +kernel
theorem d_M_init_92 : decode b_M_init 92 = .ok (.putfield 48, 3) := by decide +kernel
theorem d_M_init_95 : decode b_M_init 95 = .ok (.aload_n 0, 1) := by decide +kernel
theorem d_M_init_96 : decode b_M_init 96 = .ok (.iconst 2, 1) := by decide +kernel
theorem d_M_init_97 : decode b_M_init 97 = .ok (.newarray .int, 2) := by decide +kernel
theorem d_M_init_99 : decode b_M_init 99 = .ok (.putfield 51, 3) := by decide +kernel
theorem d_M_init_102 : decode b_M_init 102 = .ok (.aload_n 0, 1) := by decide +kernel
theorem d_M_init_103 : decode b_M_init 103 = .ok (.iconst 2, 1) := by decide +kernel
theorem d_M_init_104 : decode b_M_init 104 = .ok (.newarray .int, 2) := by decide +kernel
theorem d_M_init_106 : decode b_M_init 106 = .ok (.putfield 54, 3) := by decide +kernel
theorem d_M_init_109 : decode b_M_init 109 = .ok (.aload_n 0, 1) := by decide +kernel
theorem d_M_init_110 : decode b_M_init 110 = .ok (.iconst 2, 1) := by decide +kernel
theorem d_M_init_111 : decode b_M_init 111 = .ok (.newarray .boolean, 2) := by decide +kernel
theorem d_M_init_113 : decode b_M_init 113 = .ok (.putfield 57, 3) := by decide +kernel
theorem d_M_init_116 : decode b_M_init 116 = .ok (.aload_n 0, 1) := by decide +kernel
theorem d_M_init_117 : decode b_M_init 117 = .ok (.iconst 2, 1) := by decide +kernel
theorem d_M_init_118 : decode b_M_init 118 = .ok (.newarray .int, 2) := by decide +kernel
theorem d_M_init_120 : decode b_M_init 120 = .ok (.putfield 60, 3) := by decide +kernel
theorem d_M_init_123 : decode b_M_init 123 = .ok (.aload_n 0, 1) := by decide +kernel
theorem d_M_init_124 : decode b_M_init 124 = .ok (.iconst 2, 1) := by decide +kernel
theorem d_M_init_125 : decode b_M_init 125 = .ok (.newarray .int, 2) := by decide +kernel
theorem d_M_init_127 : decode b_M_init 127 = .ok (.putfield 63, 3) := by decide +kernel
theorem d_M_init_130 : decode b_M_init 130 = .ok (.aload_n 0, 1) := by decide +kernel
theorem d_M_init_131 : decode b_M_init 131 = .ok (.iconst 2, 1) := by decide +kernel
theorem d_M_init_132 : decode b_M_init 132 = .ok (.newarray .int, 2) := by decide +kernel
theorem d_M_init_134 : decode b_M_init 134 = .ok (.putfield 66, 3) := by decide +kernel
theorem d_M_init_137 : decode b_M_init 137 = .ok (.aload_n 0, 1) := by decide +kernel
theorem d_M_init_138 : decode b_M_init 138 = .ok (.iconst 2, 1) := by decide +kernel
theorem d_M_init_139 : decode b_M_init 139 = .ok (.newarray .int, 2) := by decide +kernel
theorem d_M_init_141 : decode b_M_init 141 = .ok (.putfield 69, 3) := by decide +kernel
theorem d_M_init_144 : decode b_M_init 144 = .ok (.aload_n 0, 1) := by decide +kernel
theorem d_M_init_145 : decode b_M_init 145 = .ok (.bipush 6, 2) := by decide +kernel
theorem d_M_init_147 : decode b_M_init 147 = .ok (.newarray .int, 2) := by decide +kernel
theorem d_M_init_149 : decode b_M_init 149 = .ok (.putfield 72, 3) := by decide +kernel
theorem d_M_init_152 : decode b_M_init 152 = .ok (.aload_n 0, 1) := by decide +kernel
theorem d_M_init_153 : decode b_M_init 153 = .ok (.sipush 160, 3) := by decide +kernel
theorem d_M_init_156 : decode b_M_init 156 = .ok (.newarray .int, 2) := by decide +kernel
theorem d_M_init_158 : decode b_M_init 158 = .ok (.putfield 75, 3) := by decide +kernel
theorem d_M_init_161 : decode b_M_init 161 = .ok (.return_, 1) := by decide +kernel
theorem d_M_thrown_0 : decode b_M_thrown 0 = .ok (.aload_n 0, 1) := by decide +kernel
theorem d_M_thrown_1 : decode b_M_thrown 1 = .ok (.getfield 78, 3) := by decide +kernel
theorem d_M_thrown_4 : decode b_M_thrown 4 = .ok (.ireturn, 1) := by decide +kernel
theorem d_M_outside_0 : decode b_M_outside 0 = .ok (.iload_n 0, 1) := by decide +kernel
theorem d_M_outside_1 : decode b_M_outside 1 = .ok (.iload_n 1, 1) := by decide +kernel
theorem d_M_outside_2 : decode b_M_outside 2 = .ok (.if_icmp .lt 8, 3) := by decide +kernel
theorem d_M_outside_5 : decode b_M_outside 5 = .ok (.iload_n 0, 1) := by decide +kernel
theorem d_M_outside_6 : decode b_M_outside 6 = .ok (.iload_n 2, 1) := by decide +kernel
theorem d_M_outside_7 : decode b_M_outside 7 = .ok (.if_icmp .le 7, 3) := by decide +kernel
theorem d_M_outside_10 : decode b_M_outside 10 = .ok (.iconst 1, 1) := by decide +kernel
theorem d_M_outside_11 : decode b_M_outside 11 = .ok (.goto 4, 3) := by decide +kernel
theorem d_M_outside_14 : decode b_M_outside 14 = .ok (.iconst 0, 1) := by decide +kernel
theorem d_M_outside_15 : decode b_M_outside 15 = .ok (.ireturn, 1) := by decide +kernel
theorem d_M_fails_0 : decode b_M_fails 0 = .ok (.aload_n 0, 1) := by decide +kernel
theorem d_M_fails_1 : decode b_M_fails 1 = .ok (.iload_n 1, 1) := by decide +kernel
theorem d_M_fails_2 : decode b_M_fails 2 = .ok (.ifCond .eq 7, 3) := by decide +kernel
theorem d_M_fails_5 : decode b_M_fails 5 = .ok (.iconst 1, 1) := by decide +kernel
theorem d_M_fails_6 : decode b_M_fails 6 = .ok (.goto 12, 3) := by decide +kernel
theorem d_M_fails_9 : decode b_M_fails 9 = .ok (.iload_n 2, 1) := by decide +kernel
theorem d_M_fails_10 : decode b_M_fails 10 = .ok (.ifCond .eq 7, 3) := by decide +kernel
theorem d_M_fails_13 : decode b_M_fails 13 = .ok (.iconst 2, 1) := by decide +kernel
theorem d_M_fails_14 : decode b_M_fails 14 = .ok (.goto 4, 3) := by decide +kernel
theorem d_M_fails_17 : decode b_M_fails 17 = .ok (.iconst 0, 1) := by decide +kernel
theorem d_M_fails_18 : decode b_M_fails 18 = .ok (.putfield 78, 3) := by decide +kernel
theorem d_M_fails_21 : decode b_M_fails 21 = .ok (.aload_n 0, 1) := by decide +kernel
theorem d_M_fails_22 : decode b_M_fails 22 = .ok (.getfield 78, 3) := by decide +kernel
theorem d_M_fails_25 : decode b_M_fails 25 = .ok (.ifCond .le 7, 3) := by decide +kernel
theorem d_M_fails_28 : decode b_M_fails 28 = .ok (.iconst 1, 1) := by decide +kernel
theorem d_M_fails_29 : decode b_M_fails 29 = .ok (.goto 4, 3) := by decide +kernel
theorem d_M_fails_32 : decode b_M_fails 32 = .ok (.iconst 0, 1) := by decide +kernel
theorem d_M_fails_33 : decode b_M_fails 33 = .ok (.ireturn, 1) := by decide +kernel
theorem d_M_tune_0 : decode b_M_tune 0 = .ok (.aload_n 0, 1) := by decide +kernel
theorem d_M_tune_1 : decode b_M_tune 1 = .ok (.aload_n 0, 1) := by decide +kernel
theorem d_M_tune_2 : decode b_M_tune 2 = .ok (.getfield 81, 3) := by decide +kernel
theorem d_M_tune_5 : decode b_M_tune 5 = .ok (.ifCond .eq 7, 3) := by decide +kernel
theorem d_M_tune_8 : decode b_M_tune 8 = .ok (.iconst 1, 1) := by decide +kernel
theorem d_M_tune_9 : decode b_M_tune 9 = .ok (.goto 4, 3) := by decide +kernel
theorem d_M_tune_12 : decode b_M_tune 12 = .ok (.iconst 0, 1) := by decide +kernel
theorem d_M_tune_13 : decode b_M_tune 13 = .ok (.iload_n 1, 1) := by decide +kernel
theorem d_M_tune_14 : decode b_M_tune 14 = .ok (.iconst 1, 1) := by decide +kernel
theorem d_M_tune_15 : decode b_M_tune 15 = .ok (.iconst 4, 1) := by decide +kernel
theorem d_M_tune_16 : decode b_M_tune 16 = .ok (.invokestatic 84, 3) := by decide +kernel
theorem d_M_tune_19 : decode b_M_tune 19 = .ok (.ifCond .ne 23, 3) := by decide +kernel
theorem d_M_tune_22 : decode b_M_tune 22 = .ok (.iload_n 2, 1) := by decide +kernel
theorem d_M_tune_23 : decode b_M_tune 23 = .ok (.iconst 1, 1) := by decide +kernel
theorem d_M_tune_24 : decode b_M_tune 24 = .ok (.bipush 9, 2) := by decide +kernel
theorem d_M_tune_26 : decode b_M_tune 26 = .ok (.invokestatic 84, 3) := by decide +kernel
theorem d_M_tune_29 : decode b_M_tune 29 = .ok (.ifCond .ne 13, 3) := by decide +kernel
theorem d_M_tune_32 : decode b_M_tune 32 = .ok (.iload_n 3, 1) := by decide +kernel
theorem d_M_tune_33 : decode b_M_tune 33 = .ok (.iconst 1, 1) := by decide +kernel
theorem d_M_tune_34 : decode b_M_tune 34 = .ok (.bipush 20, 2) := by decide +kernel
theorem d_M_tune_36 : decode b_M_tune 36 = .ok (.invokestatic 84, 3) := by decide +kernel
theorem d_M_tune_39 : decode b_M_tune 39 = .ok (.ifCond .eq 7, 3) := by decide +kernel
theorem d_M_tune_42 : decode b_M_tune 42 = .ok (.iconst 1, 1) := by decide +kernel
theorem d_M_tune_43 : decode b_M_tune 43 = .ok (.goto 4, 3) := by decide +kernel
theorem d_M_tune_46 : decode b_M_tune 46 = .ok (.iconst 0, 1) := by decide +kernel
theorem d_M_tune_47 : decode b_M_tune 47 = .ok (.invokevirtual 88, 3) := by decide +kernel
theorem d_M_tune_50 : decode b_M_tune 50 = .ok (.ifCond .eq 4, 3) := by decide +kernel
theorem d_M_tune_53 : decode b_M_tune 53 = .ok (.return_, 1) := by decide +kernel
theorem d_M_tune_54 : decode b_M_tune 54 = .ok (.aload_n 0, 1) := by decide +kernel
theorem d_M_tune_55 : decode b_M_tune 55 = .ok (.iload_n 1, 1) := by decide +kernel
theorem d_M_tune_56 : decode b_M_tune 56 = .ok (.putfield 7, 3) := by decide +kernel
theorem d_M_tune_59 : decode b_M_tune 59 = .ok (.aload_n 0, 1) := by decide +kernel
theorem d_M_tune_60 : decode b_M_tune 60 = .ok (.iload_n 2, 1) := by decide +kernel
theorem d_M_tune_61 : decode b_M_tune 61 = .ok (.putfield 13, 3) := by decide +kernel
theorem d_M_tune_64 : decode b_M_tune 64 = .ok (.aload_n 0, 1) := by decide +kernel
theorem d_M_tune_65 : decode b_M_tune 65 = .ok (.iload_n 3, 1) := by decide +kernel
theorem d_M_tune_66 : decode b_M_tune 66 = .ok (.putfield 16, 3) := by decide +kernel
theorem d_M_tune_69 : decode b_M_tune 69 = .ok (.return_, 1) := by decide +kernel
theorem d_M_number_0 : decode b_M_number 0 = .ok (.aload_n 0, 1) := by decide +kernel
theorem d_M_number_1 : decode b_M_number 1 = .ok (.aload_n 0, 1) := by decide +kernel
theorem d_M_number_2 : decode b_M_number 2 = .ok (.getfield 81, 3) := by decide +kernel
theorem d_M_number_5 : decode b_M_number 5 = .ok (.ifCond .eq 7, 3) := by decide +kernel
theorem d_M_number_8 : decode b_M_number 8 = .ok (.iconst 1, 1) := by decide +kernel
theorem d_M_number_9 : decode b_M_number 9 = .ok (.goto 4, 3) := by decide +kernel
theorem d_M_number_12 : decode b_M_number 12 = .ok (.iconst 0, 1) := by decide +kernel
theorem d_M_number_13 : decode b_M_number 13 = .ok (.iload_n 1, 1) := by decide +kernel
theorem d_M_number_14 : decode b_M_number 14 = .ok (.iconst 0, 1) := by decide +kernel
theorem d_M_number_15 : decode b_M_number 15 = .ok (.bipush 15, 2) := by decide +kernel
theorem d_M_number_17 : decode b_M_number 17 = .ok (.invokestatic 84, 3) := by decide +kernel
theorem d_M_number_20 : decode b_M_number 20 = .ok (.invokevirtual 88, 3) := by decide +kernel
theorem d_M_number_23 : decode b_M_number 23 = .ok (.ifCond .eq 4, 3) := by decide +kernel
theorem d_M_number_26 : decode b_M_number 26 = .ok (.return_, 1) := by decide +kernel
theorem d_M_number_27 : decode b_M_number 27 = .ok (.aload_n 0, 1) := by decide +kernel
theorem d_M_number_28 : decode b_M_number 28 = .ok (.iload_n 1, 1) := by decide +kernel
theorem d_M_number_29 : decode b_M_number 29 = .ok (.putfield 92, 3) := by decide +kernel
theorem d_M_number_32 : decode b_M_number 32 = .ok (.aload_n 0, 1) := by decide +kernel
theorem d_M_number_33 : decode b_M_number 33 = .ok (.iload_n 1, 1) := by decide +kernel
theorem d_M_number_34 : decode b_M_number 34 = .ok (.putfield 95, 3) := by decide +kernel
theorem d_M_number_37 : decode b_M_number 37 = .ok (.return_, 1) := by decide +kernel
theorem d_M_begin_0 : decode b_M_begin 0 = .ok (.aload_n 0, 1) := by decide +kernel
theorem d_M_begin_1 : decode b_M_begin 1 = .ok (.aload_n 0, 1) := by decide +kernel
theorem d_M_begin_2 : decode b_M_begin 2 = .ok (.getfield 81, 3) := by decide +kernel
theorem d_M_begin_5 : decode b_M_begin 5 = .ok (.ifCond .eq 7, 3) := by decide +kernel
theorem d_M_begin_8 : decode b_M_begin 8 = .ok (.iconst 1, 1) := by decide +kernel
theorem d_M_begin_9 : decode b_M_begin 9 = .ok (.goto 4, 3) := by decide +kernel
theorem d_M_begin_12 : decode b_M_begin 12 = .ok (.iconst 0, 1) := by decide +kernel
theorem d_M_begin_13 : decode b_M_begin 13 = .ok (.iload_n 1, 1) := by decide +kernel
theorem d_M_begin_14 : decode b_M_begin 14 = .ok (.iconst 0, 1) := by decide +kernel
theorem d_M_begin_15 : decode b_M_begin 15 = .ok (.iconst 3, 1) := by decide +kernel
theorem d_M_begin_16 : decode b_M_begin 16 = .ok (.invokestatic 84, 3) := by decide +kernel
theorem d_M_begin_19 : decode b_M_begin 19 = .ok (.invokevirtual 88, 3) := by decide +kernel
theorem d_M_begin_22 : decode b_M_begin 22 = .ok (.ifCond .eq 4, 3) := by decide +kernel
theorem d_M_begin_25 : decode b_M_begin 25 = .ok (.return_, 1) := by decide +kernel
theorem d_M_begin_26 : decode b_M_begin 26 = .ok (.aload_n 0, 1) := by decide +kernel
theorem d_M_begin_27 : decode b_M_begin 27 = .ok (.iload_n 1, 1) := by decide +kernel
theorem d_M_begin_28 : decode b_M_begin 28 = .ok (.ifCond .ne 7, 3) := by decide +kernel
theorem d_M_begin_31 : decode b_M_begin 31 = .ok (.iconst 1, 1) := by decide +kernel
theorem d_M_begin_32 : decode b_M_begin 32 = .ok (.goto 13, 3) := by decide +kernel
theorem d_M_begin_35 : decode b_M_begin 35 = .ok (.iload_n 1, 1) := by decide +kernel
theorem d_M_begin_36 : decode b_M_begin 36 = .ok (.iconst 1, 1) := by decide +kernel
theorem d_M_begin_37 : decode b_M_begin 37 = .ok (.if_icmp .ne 7, 3) := by decide +kernel
theorem d_M_begin_40 : decode b_M_begin 40 = .ok (.iconst 4, 1) := by decide +kernel
theorem d_M_begin_41 : decode b_M_begin 41 = .ok (.goto 4, 3) := by decide +kernel
theorem d_M_begin_44 : decode b_M_begin 44 = .ok (.iconst 5, 1) := by decide +kernel
theorem d_M_begin_45 : decode b_M_begin 45 = .ok (.putfield 81, 3) := by decide +kernel
theorem d_M_begin_48 : decode b_M_begin 48 = .ok (.aload_n 0, 1) := by decide +kernel
theorem d_M_begin_49 : decode b_M_begin 49 = .ok (.iload_n 1, 1) := by decide +kernel
theorem d_M_begin_50 : decode b_M_begin 50 = .ok (.iconst 1, 1) := by decide +kernel
theorem d_M_begin_51 : decode b_M_begin 51 = .ok (.if_icmp .ne 10, 3) := by decide +kernel
theorem d_M_begin_54 : decode b_M_begin 54 = .ok (.aload_n 0, 1) := by decide +kernel
theorem d_M_begin_55 : decode b_M_begin 55 = .ok (.getfield 16, 3) := by decide +kernel
theorem d_M_begin_58 : decode b_M_begin 58 = .ok (.goto 4, 3) := by decide +kernel
theorem d_M_begin_61 : decode b_M_begin 61 = .ok (.iconst 0, 1) := by decide +kernel
theorem d_M_begin_62 : decode b_M_begin 62 = .ok (.putfield 98, 3) := by decide +kernel
theorem d_M_begin_65 : decode b_M_begin 65 = .ok (.aload_n 0, 1) := by decide +kernel
theorem d_M_begin_66 : decode b_M_begin 66 = .ok (.iload_n 1, 1) := by decide +kernel
theorem d_M_begin_67 : decode b_M_begin 67 = .ok (.iconst 1, 1) := by decide +kernel
theorem d_M_begin_68 : decode b_M_begin 68 = .ok (.if_icmp .le 7, 3) := by decide +kernel
theorem d_M_begin_71 : decode b_M_begin 71 = .ok (.iconst 1, 1) := by decide +kernel
theorem d_M_begin_72 : decode b_M_begin 72 = .ok (.goto 4, 3) := by decide +kernel
theorem d_M_begin_75 : decode b_M_begin 75 = .ok (.iconst 0, 1) := by decide +kernel
theorem d_M_begin_76 : decode b_M_begin 76 = .ok (.putfield 101, 3) := by decide +kernel
theorem d_M_begin_79 : decode b_M_begin 79 = .ok (.aload_n 0, 1) := by decide +kernel
theorem d_M_begin_80 : decode b_M_begin 80 = .ok (.iload_n 1, 1) := by decide +kernel
theorem d_M_begin_81 : decode b_M_begin 81 = .ok (.iconst 1, 1) := by decide +kernel
theorem d_M_begin_82 : decode b_M_begin 82 = .ok (.isub, 1) := by decide +kernel
theorem d_M_begin_83 : decode b_M_begin 83 = .ok (.putfield 105, 3) := by decide +kernel
theorem d_M_begin_86 : decode b_M_begin 86 = .ok (.aload_n 0, 1) := by decide +kernel
theorem d_M_begin_87 : decode b_M_begin 87 = .ok (.iconst 1, 1) := by decide +kernel
theorem d_M_begin_88 : decode b_M_begin 88 = .ok (.putfield 108, 3) := by decide +kernel
theorem d_M_begin_91 : decode b_M_begin 91 = .ok (.aload_n 0, 1) := by decide +kernel
theorem d_M_begin_92 : decode b_M_begin 92 = .ok (.iconst 0, 1) := by decide +kernel
theorem d_M_begin_93 : decode b_M_begin 93 = .ok (.putfield 111, 3) := by decide +kernel
theorem d_M_begin_96 : decode b_M_begin 96 = .ok (.return_, 1) := by decide +kernel
theorem d_M_ends_0 : decode b_M_ends 0 = .ok (.aload_n 0, 1) := by decide +kernel
theorem d_M_ends_1 : decode b_M_ends 1 = .ok (.iconst 0, 1) := by decide +kernel
theorem d_M_ends_2 : decode b_M_ends 2 = .ok (.putfield 81, 3) := by decide +kernel
theorem d_M_ends_5 : decode b_M_ends 5 = .ok (.aload_n 0, 1) := by decide +kernel
theorem d_M_ends_6 : decode b_M_ends 6 = .ok (.iconst 0, 1) := by decide +kernel
theorem d_M_ends_7 : decode b_M_ends 7 = .ok (.putfield 114, 3) := by decide +kernel
theorem d_M_ends_10 : decode b_M_ends 10 = .ok (.aload_n 0, 1) := by decide +kernel
theorem d_M_ends_11 : decode b_M_ends 11 = .ok (.iconst 0, 1) := by decide +kernel
theorem d_M_ends_12 : decode b_M_ends 12 = .ok (.putfield 117, 3) := by decide +kernel
theorem d_M_ends_15 : decode b_M_ends 15 = .ok (.aload_n 0, 1) := by decide +kernel
theorem d_M_ends_16 : decode b_M_ends 16 = .ok (.aload_n 0, 1) := by decide +kernel
theorem d_M_ends_17 : decode b_M_ends 17 = .ok (.getfield 92, 3) := by decide +kernel
theorem d_M_ends_20 : decode b_M_ends 20 = .ok (.putfield 95, 3) := by decide +kernel
theorem d_M_ends_23 : decode b_M_ends 23 = .ok (.aload_n 0, 1) := by decide +kernel
theorem d_M_ends_24 : decode b_M_ends 24 = .ok (.iconst 0, 1) := by decide +kernel
theorem d_M_ends_25 : decode b_M_ends 25 = .ok (.putfield 98, 3) := by decide +kernel
theorem d_M_ends_28 : decode b_M_ends 28 = .ok (.return_, 1) := by decide +kernel
theorem d_M_alarm_0 : decode b_M_alarm 0 = .ok (.aload_n 0, 1) := by decide +kernel
theorem d_M_alarm_1 : decode b_M_alarm 1 = .ok (.iload_n 1, 1) := by decide +kernel
theorem d_M_alarm_2 : decode b_M_alarm 2 = .ok (.putfield 111, 3) := by decide +kernel
theorem d_M_alarm_5 : decode b_M_alarm 5 = .ok (.aload_n 0, 1) := by decide +kernel
theorem d_M_alarm_6 : decode b_M_alarm 6 = .ok (.invokevirtual 120, 3) := by decide +kernel
theorem d_M_alarm_9 : decode b_M_alarm 9 = .ok (.return_, 1) := by decide +kernel
theorem d_M_end_0 : decode b_M_end 0 = .ok (.aload_n 0, 1) := by decide +kernel
theorem d_M_end_1 : decode b_M_end 1 = .ok (.aload_n 0, 1) := by decide +kernel
theorem d_M_end_2 : decode b_M_end 2 = .ok (.getfield 81, 3) := by decide +kernel
theorem d_M_end_5 : decode b_M_end 5 = .ok (.ifCond .ne 7, 3) := by decide +kernel
theorem d_M_end_8 : decode b_M_end 8 = .ok (.iconst 1, 1) := by decide +kernel
theorem d_M_end_9 : decode b_M_end 9 = .ok (.goto 4, 3) := by decide +kernel
theorem d_M_end_12 : decode b_M_end 12 = .ok (.iconst 0, 1) := by decide +kernel
theorem d_M_end_13 : decode b_M_end 13 = .ok (.iconst 0, 1) := by decide +kernel
theorem d_M_end_14 : decode b_M_end 14 = .ok (.invokevirtual 88, 3) := by decide +kernel
theorem d_M_end_17 : decode b_M_end 17 = .ok (.ifCond .ne 7, 3) := by decide +kernel
theorem d_M_end_20 : decode b_M_end 20 = .ok (.aload_n 0, 1) := by decide +kernel
theorem d_M_end_21 : decode b_M_end 21 = .ok (.invokevirtual 120, 3) := by decide +kernel
theorem d_M_end_24 : decode b_M_end 24 = .ok (.return_, 1) := by decide +kernel
theorem d_M_command_0 : decode b_M_command 0 = .ok (.aload_n 0, 1) := by decide +kernel
theorem d_M_command_1 : decode b_M_command 1 = .ok (.aload_n 0, 1) := by decide +kernel
theorem d_M_command_2 : decode b_M_command 2 = .ok (.getfield 81, 3) := by decide +kernel
theorem d_M_command_5 : decode b_M_command 5 = .ok (.iconst 1, 1) := by decide +kernel
theorem d_M_command_6 : decode b_M_command 6 = .ok (.iconst 3, 1) := by decide +kernel
theorem d_M_command_7 : decode b_M_command 7 = .ok (.invokestatic 84, 3) := by decide +kernel
theorem d_M_command_10 : decode b_M_command 10 = .ok (.iconst 0, 1) := by decide +kernel
theorem d_M_command_11 : decode b_M_command 11 = .ok (.invokevirtual 88, 3) := by decide +kernel
theorem d_M_command_14 : decode b_M_command 14 = .ok (.ifCond .ne 10, 3) := by decide +kernel
theorem d_M_command_17 : decode b_M_command 17 = .ok (.aload_n 0, 1) := by decide +kernel
theorem d_M_command_18 : decode b_M_command 18 = .ok (.getfield 117, 3) := by decide +kernel
theorem d_M_command_21 : decode b_M_command 21 = .ok (.ifCond .eq 5, 3) := by decide +kernel
theorem d_M_command_24 : decode b_M_command 24 = .ok (.iconst 0, 1) := by decide +kernel
theorem d_M_command_25 : decode b_M_command 25 = .ok (.ireturn, 1) := by decide +kernel
theorem d_M_command_26 : decode b_M_command 26 = .ok (.aload_n 0, 1) := by decide +kernel
theorem d_M_command_27 : decode b_M_command 27 = .ok (.iconst 1, 1) := by decide +kernel
theorem d_M_command_28 : decode b_M_command 28 = .ok (.putfield 117, 3) := by decide +kernel
theorem d_M_command_31 : decode b_M_command 31 = .ok (.aload_n 0, 1) := by decide +kernel
theorem d_M_command_32 : decode b_M_command 32 = .ok (.iload_n 1, 1) := by decide +kernel
theorem d_M_command_33 : decode b_M_command 33 = .ok (.putfield 123, 3) := by decide +kernel
theorem d_M_command_36 : decode b_M_command 36 = .ok (.iconst 1, 1) := by decide +kernel
theorem d_M_command_37 : decode b_M_command 37 = .ok (.ireturn, 1) := by decide +kernel
theorem d_M_resend_0 : decode b_M_resend 0 = .ok (.aload_n 0, 1) := by decide +kernel
theorem d_M_resend_1 : decode b_M_resend 1 = .ok (.getfield 108, 3) := by decide +kernel
theorem d_M_resend_4 : decode b_M_resend 4 = .ok (.aload_n 0, 1) := by decide +kernel
theorem d_M_resend_5 : decode b_M_resend 5 = .ok (.getfield 13, 3) := by decide +kernel
theorem d_M_resend_8 : decode b_M_resend 8 = .ok (.if_icmp .lt 9, 3) := by decide +kernel
theorem d_M_resend_11 : decode b_M_resend 11 = .ok (.aload_n 0, 1) := by decide +kernel
theorem d_M_resend_12 : decode b_M_resend 12 = .ok (.iconst 1, 1) := by decide +kernel
theorem d_M_resend_13 : decode b_M_resend 13 = .ok (.invokevirtual 126, 3) := by decide +kernel
theorem d_M_resend_16 : decode b_M_resend 16 = .ok (.return_, 1) := by decide +kernel
theorem d_M_resend_17 : decode b_M_resend 17 = .ok (.aload_n 0, 1) := by decide +kernel
theorem d_M_resend_18 : decode b_M_resend 18 = .ok (.dup, 1) := by decide +kernel
theorem d_M_resend_19 : decode b_M_resend 19 = .ok (.getfield 108, 3) := by decide +kernel
theorem d_M_resend_22 : decode b_M_resend 22 = .ok (.iconst 1, 1) := by decide +kernel
theorem d_M_resend_23 : decode b_M_resend 23 = .ok (.iadd, 1) := by decide +kernel
theorem d_M_resend_24 : decode b_M_resend 24 = .ok (.putfield 108, 3) := by decide +kernel
theorem d_M_resend_27 : decode b_M_resend 27 = .ok (.aload_n 0, 1) := by decide +kernel
theorem d_M_resend_28 : decode b_M_resend 28 = .ok (.iload_n 1, 1) := by decide +kernel
theorem d_M_resend_29 : decode b_M_resend 29 = .ok (.putfield 81, 3) := by decide +kernel
theorem d_M_resend_32 : decode b_M_resend 32 = .ok (.iconst 0, 1) := by decide +kernel
theorem d_M_resend_33 : decode b_M_resend 33 = .ok (.istore_n 2, 1) := by decide +kernel
theorem d_M_resend_34 : decode b_M_resend 34 = .ok (.iload_n 2, 1) := by decide +kernel
theorem d_M_resend_35 : decode b_M_resend 35 = .ok (.aload_n 0, 1) := by decide +kernel
theorem d_M_resend_36 : decode b_M_resend 36 = .ok (.getfield 114, 3) := by decide +kernel
theorem d_M_resend_39 : decode b_M_resend 39 = .ok (.if_icmp .ge 16, 3) := by decide +kernel
theorem d_M_resend_42 : decode b_M_resend 42 = .ok (.aload_n 0, 1) := by decide +kernel
theorem d_M_resend_43 : decode b_M_resend 43 = .ok (.getfield 23, 3) := by decide +kernel
theorem d_M_resend_46 : decode b_M_resend 46 = .ok (.iload_n 2, 1) := by decide +kernel
theorem d_M_resend_47 : decode b_M_resend 47 = .ok (.iconst 1, 1) := by decide +kernel
theorem d_M_resend_48 : decode b_M_resend 48 = .ok (.bastore, 1) := by decide +kernel
theorem d_M_resend_49 : decode b_M_resend 49 = .ok (.iinc 2 1, 3) := by decide +kernel
theorem d_M_resend_52 : decode b_M_resend 52 = .ok (.goto (-18), 3) := by decide +kernel
theorem d_M_resend_55 : decode b_M_resend 55 = .ok (.return_, 1) := by decide +kernel
theorem d_M_sends_0 : decode b_M_sends 0 = .ok (.aload_n 0, 1) := by decide +kernel
theorem d_M_sends_1 : decode b_M_sends 1 = .ok (.aload_n 0, 1) := by decide +kernel
theorem d_M_sends_2 : decode b_M_sends 2 = .ok (.getfield 16, 3) := by decide +kernel
theorem d_M_sends_5 : decode b_M_sends 5 = .ok (.putfield 98, 3) := by decide +kernel
theorem d_M_sends_8 : decode b_M_sends 8 = .ok (.aload_n 0, 1) := by decide +kernel
theorem d_M_sends_9 : decode b_M_sends 9 = .ok (.getfield 130, 3) := by decide +kernel
theorem d_M_sends_12 : decode b_M_sends 12 = .ok (.bipush 20, 2) := by decide +kernel
theorem d_M_sends_14 : decode b_M_sends 14 = .ok (.if_icmp .ge 43, 3) := by decide +kernel
theorem d_M_sends_17 : decode b_M_sends 17 = .ok (.aload_n 0, 1) := by decide +kernel
theorem d_M_sends_18 : decode b_M_sends 18 = .ok (.getfield 27, 3) := by decide +kernel
theorem d_M_sends_21 : decode b_M_sends 21 = .ok (.aload_n 0, 1) := by decide +kernel
theorem d_M_sends_22 : decode b_M_sends 22 = .ok (.getfield 130, 3) := by decide +kernel
theorem d_M_sends_25 : decode b_M_sends 25 = .ok (.iload_n 1, 1) := by decide +kernel
theorem d_M_sends_26 : decode b_M_sends 26 = .ok (.iastore, 1) := by decide +kernel
theorem d_M_sends_27 : decode b_M_sends 27 = .ok (.aload_n 0, 1) := by decide +kernel
theorem d_M_sends_28 : decode b_M_sends 28 = .ok (.getfield 30, 3) := by decide +kernel
theorem d_M_sends_31 : decode b_M_sends 31 = .ok (.aload_n 0, 1) := by decide +kernel
theorem d_M_sends_32 : decode b_M_sends 32 = .ok (.getfield 130, 3) := by decide +kernel
theorem d_M_sends_35 : decode b_M_sends 35 = .ok (.iload_n 2, 1) := by decide +kernel
theorem d_M_sends_36 : decode b_M_sends 36 = .ok (.iastore, 1) := by decide +kernel
theorem d_M_sends_37 : decode b_M_sends 37 = .ok (.aload_n 0, 1) := by decide +kernel
theorem d_M_sends_38 : decode b_M_sends 38 = .ok (.getfield 33, 3) := by decide +kernel
theorem d_M_sends_41 : decode b_M_sends 41 = .ok (.aload_n 0, 1) := by decide +kernel
theorem d_M_sends_42 : decode b_M_sends 42 = .ok (.getfield 130, 3) := by decide +kernel
theorem d_M_sends_45 : decode b_M_sends 45 = .ok (.iload_n 3, 1) := by decide +kernel
theorem d_M_sends_46 : decode b_M_sends 46 = .ok (.iastore, 1) := by decide +kernel
theorem d_M_sends_47 : decode b_M_sends 47 = .ok (.aload_n 0, 1) := by decide +kernel
theorem d_M_sends_48 : decode b_M_sends 48 = .ok (.dup, 1) := by decide +kernel
theorem d_M_sends_49 : decode b_M_sends 49 = .ok (.getfield 130, 3) := by decide +kernel
theorem d_M_sends_52 : decode b_M_sends 52 = .ok (.iconst 1, 1) := by decide +kernel
theorem d_M_sends_53 : decode b_M_sends 53 = .ok (.iadd, 1) := by decide +kernel
theorem d_M_sends_54 : decode b_M_sends 54 = .ok (.putfield 130, 3) := by decide +kernel
theorem d_M_sends_57 : decode b_M_sends 57 = .ok (.iload_n 1, 1) := by decide +kernel
theorem d_M_sends_58 : decode b_M_sends 58 = .ok (.ireturn, 1) := by decide +kernel
theorem d_M_rings_0 : decode b_M_rings 0 = .ok (.aload_n 0, 1) := by decide +kernel
theorem d_M_rings_1 : decode b_M_rings 1 = .ok (.getfield 108, 3) := by decide +kernel
theorem d_M_rings_4 : decode b_M_rings 4 = .ok (.aload_n 0, 1) := by decide +kernel
theorem d_M_rings_5 : decode b_M_rings 5 = .ok (.getfield 13, 3) := by decide +kernel
theorem d_M_rings_8 : decode b_M_rings 8 = .ok (.if_icmp .ge 7, 3) := by decide +kernel
theorem d_M_rings_11 : decode b_M_rings 11 = .ok (.iconst 1, 1) := by decide +kernel
theorem d_M_rings_12 : decode b_M_rings 12 = .ok (.goto 4, 3) := by decide +kernel
theorem d_M_rings_15 : decode b_M_rings 15 = .ok (.iconst 0, 1) := by decide +kernel
theorem d_M_rings_16 : decode b_M_rings 16 = .ok (.istore_n 1, 1) := by decide +kernel
theorem d_M_rings_17 : decode b_M_rings 17 = .ok (.aload_n 0, 1) := by decide +kernel
theorem d_M_rings_18 : decode b_M_rings 18 = .ok (.getfield 81, 3) := by decide +kernel
theorem d_M_rings_21 : decode b_M_rings 21 = .ok (.iconst 4, 1) := by decide +kernel
theorem d_M_rings_22 : decode b_M_rings 22 = .ok (.if_icmp .eq 14, 3) := by decide +kernel
theorem d_M_rings_25 : decode b_M_rings 25 = .ok (.aload_n 0, 1) := by decide +kernel
theorem d_M_rings_26 : decode b_M_rings 26 = .ok (.getfield 81, 3) := by decide +kernel
theorem d_M_rings_29 : decode b_M_rings 29 = .ok (.ifCond .le 15, 3) := by decide +kernel
theorem d_M_rings_32 : decode b_M_rings 32 = .ok (.iload_n 1, 1) := by decide +kernel
theorem d_M_rings_33 : decode b_M_rings 33 = .ok (.ifCond .ne 11, 3) := by decide +kernel
theorem d_M_rings_36 : decode b_M_rings 36 = .ok (.aload_n 0, 1) := by decide +kernel
theorem d_M_rings_37 : decode b_M_rings 37 = .ok (.iconst 5, 1) := by decide +kernel
theorem d_M_rings_38 : decode b_M_rings 38 = .ok (.invokevirtual 126, 3) := by decide +kernel
theorem d_M_rings_41 : decode b_M_rings 41 = .ok (.goto 53, 3) := by decide +kernel
theorem d_M_rings_44 : decode b_M_rings 44 = .ok (.aload_n 0, 1) := by decide +kernel
theorem d_M_rings_45 : decode b_M_rings 45 = .ok (.getfield 81, 3) := by decide +kernel
theorem d_M_rings_48 : decode b_M_rings 48 = .ok (.iconst 1, 1) := by decide +kernel
theorem d_M_rings_49 : decode b_M_rings 49 = .ok (.if_icmp .eq 11, 3) := by decide +kernel
theorem d_M_rings_52 : decode b_M_rings 52 = .ok (.aload_n 0, 1) := by decide +kernel
theorem d_M_rings_53 : decode b_M_rings 53 = .ok (.getfield 81, 3) := by decide +kernel
theorem d_M_rings_56 : decode b_M_rings 56 = .ok (.iconst 2, 1) := by decide +kernel
theorem d_M_rings_57 : decode b_M_rings 57 = .ok (.if_icmp .ne 14, 3) := by decide +kernel
theorem d_M_rings_60 : decode b_M_rings 60 = .ok (.aload_n 0, 1) := by decide +kernel
theorem d_M_rings_61 : decode b_M_rings 61 = .ok (.aload_n 0, 1) := by decide +kernel
theorem d_M_rings_62 : decode b_M_rings 62 = .ok (.getfield 81, 3) := by decide +kernel
theorem d_M_rings_65 : decode b_M_rings 65 = .ok (.invokevirtual 133, 3) := by decide +kernel
theorem d_M_rings_68 : decode b_M_rings 68 = .ok (.goto 26, 3) := by decide +kernel
theorem d_M_rings_71 : decode b_M_rings 71 = .ok (.aload_n 0, 1) := by decide +kernel
theorem d_M_rings_72 : decode b_M_rings 72 = .ok (.getfield 81, 3) := by decide +kernel
theorem d_M_rings_75 : decode b_M_rings 75 = .ok (.iconst 5, 1) := by decide +kernel
theorem d_M_rings_76 : decode b_M_rings 76 = .ok (.if_icmp .ne 18, 3) := by decide +kernel
theorem d_M_rings_79 : decode b_M_rings 79 = .ok (.aload_n 0, 1) := by decide +kernel
theorem d_M_rings_80 : decode b_M_rings 80 = .ok (.dup, 1) := by decide +kernel
theorem d_M_rings_81 : decode b_M_rings 81 = .ok (.getfield 108, 3) := by decide +kernel
theorem d_M_rings_84 : decode b_M_rings 84 = .ok (.iconst 1, 1) := by decide +kernel
theorem d_M_rings_85 : decode b_M_rings 85 = .ok (.iadd, 1) := by decide +kernel
theorem d_M_rings_86 : decode b_M_rings 86 = .ok (.putfield 108, 3) := by decide +kernel
theorem d_M_rings_89 : decode b_M_rings 89 = .ok (.aload_n 0, 1) := by decide +kernel
theorem d_M_rings_90 : decode b_M_rings 90 = .ok (.iconst 1, 1) := by decide +kernel
theorem d_M_rings_91 : decode b_M_rings 91 = .ok (.putfield 101, 3) := by decide +kernel
theorem d_M_rings_94 : decode b_M_rings 94 = .ok (.return_, 1) := by decide +kernel
theorem d_M_tick_0 : decode b_M_tick 0 = .ok (.aload_n 0, 1) := by decide +kernel
theorem d_M_tick_1 : decode b_M_tick 1 = .ok (.iconst 0, 1) := by decide +kernel
theorem d_M_tick_2 : decode b_M_tick 2 = .ok (.putfield 78, 3) := by decide +kernel
theorem d_M_tick_5 : decode b_M_tick 5 = .ok (.aload_n 0, 1) := by decide +kernel
theorem d_M_tick_6 : decode b_M_tick 6 = .ok (.getfield 98, 3) := by decide +kernel
theorem d_M_tick_9 : decode b_M_tick 9 = .ok (.ifCond .le 24, 3) := by decide +kernel
theorem d_M_tick_12 : decode b_M_tick 12 = .ok (.aload_n 0, 1) := by decide +kernel
theorem d_M_tick_13 : decode b_M_tick 13 = .ok (.dup, 1) := by decide +kernel
theorem d_M_tick_14 : decode b_M_tick 14 = .ok (.getfield 98, 3) := by decide +kernel
theorem d_M_tick_17 : decode b_M_tick 17 = .ok (.iconst 1, 1) := by decide +kernel
theorem d_M_tick_18 : decode b_M_tick 18 = .ok (.isub, 1) := by decide +kernel
theorem d_M_tick_19 : decode b_M_tick 19 = .ok (.putfield 98, 3) := by decide +kernel
theorem d_M_tick_22 : decode b_M_tick 22 = .ok (.aload_n 0, 1) := by decide +kernel
theorem d_M_tick_23 : decode b_M_tick 23 = .ok (.getfield 98, 3) := by decide +kernel
theorem d_M_tick_26 : decode b_M_tick 26 = .ok (.ifCond .ne 7, 3) := by decide +kernel
theorem d_M_tick_29 : decode b_M_tick 29 = .ok (.aload_n 0, 1) := by decide +kernel
theorem d_M_tick_30 : decode b_M_tick 30 = .ok (.invokevirtual 136, 3) := by decide +kernel
theorem d_M_tick_33 : decode b_M_tick 33 = .ok (.aload_n 0, 1) := by decide +kernel
theorem d_M_tick_34 : decode b_M_tick 34 = .ok (.getfield 81, 3) := by decide +kernel
theorem d_M_tick_37 : decode b_M_tick 37 = .ok (.iconst 5, 1) := by decide +kernel
theorem d_M_tick_38 : decode b_M_tick 38 = .ok (.if_icmp .ne 41, 3) := by decide +kernel
theorem d_M_tick_41 : decode b_M_tick 41 = .ok (.aload_n 0, 1) := by decide +kernel
theorem d_M_tick_42 : decode b_M_tick 42 = .ok (.getfield 101, 3) := by decide +kernel
theorem d_M_tick_45 : decode b_M_tick 45 = .ok (.ifCond .eq 34, 3) := by decide +kernel
theorem d_M_tick_48 : decode b_M_tick 48 = .ok (.aload_n 0, 1) := by decide +kernel
theorem d_M_tick_49 : decode b_M_tick 49 = .ok (.iconst 0, 1) := by decide +kernel
theorem d_M_tick_50 : decode b_M_tick 50 = .ok (.putfield 101, 3) := by decide +kernel
theorem d_M_tick_53 : decode b_M_tick 53 = .ok (.aload_n 0, 1) := by decide +kernel
theorem d_M_tick_54 : decode b_M_tick 54 = .ok (.aload_n 0, 1) := by decide +kernel
theorem d_M_tick_55 : decode b_M_tick 55 = .ok (.getfield 105, 3) := by decide +kernel
theorem d_M_tick_58 : decode b_M_tick 58 = .ok (.aload_n 0, 1) := by decide +kernel
theorem d_M_tick_59 : decode b_M_tick 59 = .ok (.getfield 105, 3) := by decide +kernel
theorem d_M_tick_62 : decode b_M_tick 62 = .ok (.iconst 2, 1) := by decide +kernel
theorem d_M_tick_63 : decode b_M_tick 63 = .ok (.if_icmp .ne 10, 3) := by decide +kernel
theorem d_M_tick_66 : decode b_M_tick 66 = .ok (.aload_n 0, 1) := by decide +kernel
theorem d_M_tick_67 : decode b_M_tick 67 = .ok (.getfield 92, 3) := by decide +kernel
theorem d_M_tick_70 : decode b_M_tick 70 = .ok (.goto 4, 3) := by decide +kernel
theorem d_M_tick_73 : decode b_M_tick 73 = .ok (.iconst 0, 1) := by decide +kernel
theorem d_M_tick_74 : decode b_M_tick 74 = .ok (.iconst 0, 1) := by decide +kernel
theorem d_M_tick_75 : decode b_M_tick 75 = .ok (.invokevirtual 139, 3) := by decide +kernel
theorem d_M_tick_78 : decode b_M_tick 78 = .ok (.ireturn, 1) := by decide +kernel
theorem d_M_tick_79 : decode b_M_tick 79 = .ok (.aload_n 0, 1) := by decide +kernel
theorem d_M_tick_80 : decode b_M_tick 80 = .ok (.getfield 81, 3) := by decide +kernel
theorem d_M_tick_83 : decode b_M_tick 83 = .ok (.iconst 1, 1) := by decide +kernel
theorem d_M_tick_84 : decode b_M_tick 84 = .ok (.if_icmp .eq 13, 3) := by decide +kernel
theorem d_M_tick_87 : decode b_M_tick 87 = .ok (.aload_n 0, 1) := by decide +kernel
theorem d_M_tick_88 : decode b_M_tick 88 = .ok (.getfield 81, 3) := by decide +kernel
theorem d_M_tick_91 : decode b_M_tick 91 = .ok (.iconst 2, 1) := by decide +kernel
theorem d_M_tick_92 : decode b_M_tick 92 = .ok (.if_icmp .eq 5, 3) := by decide +kernel
theorem d_M_tick_95 : decode b_M_tick 95 = .ok (.iconst (-1), 1) := by decide +kernel
theorem d_M_tick_96 : decode b_M_tick 96 = .ok (.ireturn, 1) := by decide +kernel
theorem d_M_tick_97 : decode b_M_tick 97 = .ok (.iconst 0, 1) := by decide +kernel
theorem d_M_tick_98 : decode b_M_tick 98 = .ok (.istore_n 1, 1) := by decide +kernel
theorem d_M_tick_99 : decode b_M_tick 99 = .ok (.iload_n 1, 1) := by decide +kernel
theorem d_M_tick_100 : decode b_M_tick 100 = .ok (.aload_n 0, 1) := by decide +kernel
theorem d_M_tick_101 : decode b_M_tick 101 = .ok (.getfield 114, 3) := by decide +kernel
theorem d_M_tick_104 : decode b_M_tick 104 = .ok (.if_icmp .ge 46, 3) := by decide +kernel
theorem d_M_tick_107 : decode b_M_tick 107 = .ok (.aload_n 0, 1) := by decide +kernel
theorem d_M_tick_108 : decode b_M_tick 108 = .ok (.getfield 23, 3) := by decide +kernel
theorem d_M_tick_111 : decode b_M_tick 111 = .ok (.iload_n 1, 1) := by decide +kernel
theorem d_M_tick_112 : decode b_M_tick 112 = .ok (.baload, 1) := by decide +kernel
theorem d_M_tick_113 : decode b_M_tick 113 = .ok (.ifCond .eq 31, 3) := by decide +kernel
theorem d_M_tick_116 : decode b_M_tick 116 = .ok (.aload_n 0, 1) := by decide +kernel
theorem d_M_tick_117 : decode b_M_tick 117 = .ok (.getfield 23, 3) := by decide +kernel
theorem d_M_tick_120 : decode b_M_tick 120 = .ok (.iload_n 1, 1) := by decide +kernel
theorem d_M_tick_121 : decode b_M_tick 121 = .ok (.iconst 0, 1) := by decide +kernel
theorem d_M_tick_122 : decode b_M_tick 122 = .ok (.bastore, 1) := by decide +kernel
theorem d_M_tick_123 : decode b_M_tick 123 = .ok (.aload_n 0, 1) := by decide +kernel
theorem d_M_tick_124 : decode b_M_tick 124 = .ok (.iconst 0, 1) := by decide +kernel
theorem d_M_tick_125 : decode b_M_tick 125 = .ok (.aload_n 0, 1) := by decide +kernel
theorem d_M_tick_126 : decode b_M_tick 126 = .ok (.getfield 95, 3) := by decide +kernel
theorem d_M_tick_129 : decode b_M_tick 129 = .ok (.iload_n 1, 1) := by decide +kernel
theorem d_M_tick_130 : decode b_M_tick 130 = .ok (.iadd, 1) := by decide +kernel
theorem d_M_tick_131 : decode b_M_tick 131 = .ok (.bipush 16, 2) := by decide +kernel
theorem d_M_tick_133 : decode b_M_tick 133 = .ok (.irem, 1) := by decide +kernel
theorem d_M_tick_134 : decode b_M_tick 134 = .ok (.aload_n 0, 1) := by decide +kernel
theorem d_M_tick_135 : decode b_M_tick 135 = .ok (.getfield 19, 3) := by decide +kernel
theorem d_M_tick_138 : decode b_M_tick 138 = .ok (.iload_n 1, 1) := by decide +kernel
theorem d_M_tick_139 : decode b_M_tick 139 = .ok (.iaload, 1) := by decide +kernel
theorem d_M_tick_140 : decode b_M_tick 140 = .ok (.invokevirtual 139, 3) := by decide +kernel
theorem d_M_tick_143 : decode b_M_tick 143 = .ok (.ireturn, 1) := by decide +kernel
theorem d_M_tick_144 : decode b_M_tick 144 = .ok (.iinc 1 1, 3) := by decide +kernel
theorem d_M_tick_147 : decode b_M_tick 147 = .ok (.goto (-48), 3) := by decide +kernel
theorem d_M_tick_150 : decode b_M_tick 150 = .ok (.aload_n 0, 1) := by decide +kernel
theorem d_M_tick_151 : decode b_M_tick 151 = .ok (.getfield 117, 3) := by decide +kernel
theorem d_M_tick_154 : decode b_M_tick 154 = .ok (.ifCond .eq 14, 3) := by decide +kernel
theorem d_M_tick_157 : decode b_M_tick 157 = .ok (.aload_n 0, 1) := by decide +kernel
theorem d_M_tick_158 : decode b_M_tick 158 = .ok (.getfield 114, 3) := by decide +kernel
theorem d_M_tick_161 : decode b_M_tick 161 = .ok (.aload_n 0, 1) := by decide +kernel
theorem d_M_tick_162 : decode b_M_tick 162 = .ok (.getfield 7, 3) := by decide +kernel
theorem d_M_tick_165 : decode b_M_tick 165 = .ok (.if_icmp .lt 5, 3) := by decide +kernel
theorem d_M_tick_168 : decode b_M_tick 168 = .ok (.iconst (-1), 1) := by decide +kernel
theorem d_M_tick_169 : decode b_M_tick 169 = .ok (.ireturn, 1) := by decide +kernel
theorem d_M_tick_170 : decode b_M_tick 170 = .ok (.aload_n 0, 1) := by decide +kernel
theorem d_M_tick_171 : decode b_M_tick 171 = .ok (.getfield 19, 3) := by decide +kernel
theorem d_M_tick_174 : decode b_M_tick 174 = .ok (.aload_n 0, 1) := by decide +kernel
theorem d_M_tick_175 : decode b_M_tick 175 = .ok (.getfield 114, 3) := by decide +kernel
theorem d_M_tick_178 : decode b_M_tick 178 = .ok (.aload_n 0, 1) := by decide +kernel
theorem d_M_tick_179 : decode b_M_tick 179 = .ok (.getfield 123, 3) := by decide +kernel
theorem d_M_tick_182 : decode b_M_tick 182 = .ok (.iastore, 1) := by decide +kernel
theorem d_M_tick_183 : decode b_M_tick 183 = .ok (.aload_n 0, 1) := by decide +kernel
theorem d_M_tick_184 : decode b_M_tick 184 = .ok (.getfield 23, 3) := by decide +kernel
theorem d_M_tick_187 : decode b_M_tick 187 = .ok (.aload_n 0, 1) := by decide +kernel
theorem d_M_tick_188 : decode b_M_tick 188 = .ok (.getfield 114, 3) := by decide +kernel
theorem d_M_tick_191 : decode b_M_tick 191 = .ok (.iconst 0, 1) := by decide +kernel
theorem d_M_tick_192 : decode b_M_tick 192 = .ok (.bastore, 1) := by decide +kernel
theorem d_M_tick_193 : decode b_M_tick 193 = .ok (.aload_n 0, 1) := by decide +kernel
theorem d_M_tick_194 : decode b_M_tick 194 = .ok (.dup, 1) := by decide +kernel
theorem d_M_tick_195 : decode b_M_tick 195 = .ok (.getfield 114, 3) := by decide +kernel
theorem d_M_tick_198 : decode b_M_tick 198 = .ok (.iconst 1, 1) := by decide +kernel
theorem d_M_tick_199 : decode b_M_tick 199 = .ok (.iadd, 1) := by decide +kernel
theorem d_M_tick_200 : decode b_M_tick 200 = .ok (.putfield 114, 3) := by decide +kernel
theorem d_M_tick_203 : decode b_M_tick 203 = .ok (.aload_n 0, 1) := by decide +kernel
theorem d_M_tick_204 : decode b_M_tick 204 = .ok (.iconst 0, 1) := by decide +kernel
theorem d_M_tick_205 : decode b_M_tick 205 = .ok (.putfield 117, 3) := by decide +kernel
theorem d_M_tick_208 : decode b_M_tick 208 = .ok (.aload_n 0, 1) := by decide +kernel
theorem d_M_tick_209 : decode b_M_tick 209 = .ok (.aload_n 0, 1) := by decide +kernel
theorem d_M_tick_210 : decode b_M_tick 210 = .ok (.getfield 114, 3) := by decide +kernel
theorem d_M_tick_213 : decode b_M_tick 213 = .ok (.iconst 1, 1) := by decide +kernel
theorem d_M_tick_214 : decode b_M_tick 214 = .ok (.if_icmp .ne 7, 3) := by decide +kernel
theorem d_M_tick_217 : decode b_M_tick 217 = .ok (.iconst 1, 1) := by decide +kernel
theorem d_M_tick_218 : decode b_M_tick 218 = .ok (.goto 7, 3) := by decide +kernel
theorem d_M_tick_221 : decode b_M_tick 221 = .ok (.aload_n 0, 1) := by decide +kernel
theorem d_M_tick_222 : decode b_M_tick 222 = .ok (.getfield 108, 3) := by decide +kernel
theorem d_M_tick_225 : decode b_M_tick 225 = .ok (.putfield 108, 3) := by decide +kernel
theorem d_M_tick_228 : decode b_M_tick 228 = .ok (.aload_n 0, 1) := by decide +kernel
theorem d_M_tick_229 : decode b_M_tick 229 = .ok (.aload_n 0, 1) := by decide +kernel
theorem d_M_tick_230 : decode b_M_tick 230 = .ok (.getfield 92, 3) := by decide +kernel
theorem d_M_tick_233 : decode b_M_tick 233 = .ok (.iconst 1, 1) := by decide +kernel
theorem d_M_tick_234 : decode b_M_tick 234 = .ok (.iadd, 1) := by decide +kernel
theorem d_M_tick_235 : decode b_M_tick 235 = .ok (.bipush 16, 2) := by decide +kernel
theorem d_M_tick_237 : decode b_M_tick 237 = .ok (.irem, 1) := by decide +kernel
theorem d_M_tick_238 : decode b_M_tick 238 = .ok (.putfield 92, 3) := by decide +kernel
theorem d_M_tick_241 : decode b_M_tick 241 = .ok (.aload_n 0, 1) := by decide +kernel
theorem d_M_tick_242 : decode b_M_tick 242 = .ok (.iconst 0, 1) := by decide +kernel
theorem d_M_tick_243 : decode b_M_tick 243 = .ok (.aload_n 0, 1) := by decide +kernel
theorem d_M_tick_244 : decode b_M_tick 244 = .ok (.getfield 92, 3) := by decide +kernel
theorem d_M_tick_247 : decode b_M_tick 247 = .ok (.bipush 15, 2) := by decide +kernel
theorem d_M_tick_249 : decode b_M_tick 249 = .ok (.iadd, 1) := by decide +kernel
theorem d_M_tick_250 : decode b_M_tick 250 = .ok (.bipush 16, 2) := by decide +kernel
theorem d_M_tick_252 : decode b_M_tick 252 = .ok (.irem, 1) := by decide +kernel
theorem d_M_tick_253 : decode b_M_tick 253 = .ok (.aload_n 0, 1) := by decide +kernel
theorem d_M_tick_254 : decode b_M_tick 254 = .ok (.getfield 123, 3) := by decide +kernel
theorem d_M_tick_257 : decode b_M_tick 257 = .ok (.invokevirtual 139, 3) := by decide +kernel
theorem d_M_tick_260 : decode b_M_tick 260 = .ok (.ireturn, 1) := by decide +kernel
theorem d_M_out_0 : decode b_M_out 0 = .ok (.iload_n 1, 1) := by decide +kernel
theorem d_M_out_1 : decode b_M_out 1 = .ok (.istore_n 2, 1) := by decide +kernel
theorem d_M_out_2 : decode b_M_out 2 = .ok (.iload_n 2, 1) := by decide +kernel
theorem d_M_out_3 : decode b_M_out 3 = .ok (.iconst 1, 1) := by decide +kernel
theorem d_M_out_4 : decode b_M_out 4 = .ok (.iadd, 1) := by decide +kernel
theorem d_M_out_5 : decode b_M_out 5 = .ok (.aload_n 0, 1) := by decide +kernel
theorem d_M_out_6 : decode b_M_out 6 = .ok (.getfield 130, 3) := by decide +kernel
theorem d_M_out_9 : decode b_M_out 9 = .ok (.if_icmp .ge 51, 3) := by decide +kernel
theorem d_M_out_12 : decode b_M_out 12 = .ok (.aload_n 0, 1) := by decide +kernel
theorem d_M_out_13 : decode b_M_out 13 = .ok (.getfield 27, 3) := by decide +kernel
theorem d_M_out_16 : decode b_M_out 16 = .ok (.iload_n 2, 1) := by decide +kernel
theorem d_M_out_17 : decode b_M_out 17 = .ok (.aload_n 0, 1) := by decide +kernel
theorem d_M_out_18 : decode b_M_out 18 = .ok (.getfield 27, 3) := by decide +kernel
theorem d_M_out_21 : decode b_M_out 21 = .ok (.iload_n 2, 1) := by decide +kernel
theorem d_M_out_22 : decode b_M_out 22 = .ok (.iconst 1, 1) := by decide +kernel
theorem d_M_out_23 : decode b_M_out 23 = .ok (.iadd, 1) := by decide +kernel
theorem d_M_out_24 : decode b_M_out 24 = .ok (.iaload, 1) := by decide +kernel
theorem d_M_out_25 : decode b_M_out 25 = .ok (.iastore, 1) := by decide +kernel
theorem d_M_out_26 : decode b_M_out 26 = .ok (.aload_n 0, 1) := by decide +kernel
theorem d_M_out_27 : decode b_M_out 27 = .ok (.getfield 30, 3) := by decide +kernel
theorem d_M_out_30 : decode b_M_out 30 = .ok (.iload_n 2, 1) := by decide +kernel
theorem d_M_out_31 : decode b_M_out 31 = .ok (.aload_n 0, 1) := by decide +kernel
theorem d_M_out_32 : decode b_M_out 32 = .ok (.getfield 30, 3) := by decide +kernel
theorem d_M_out_35 : decode b_M_out 35 = .ok (.iload_n 2, 1) := by decide +kernel
theorem d_M_out_36 : decode b_M_out 36 = .ok (.iconst 1, 1) := by decide +kernel
theorem d_M_out_37 : decode b_M_out 37 = .ok (.iadd, 1) := by decide +kernel
theorem d_M_out_38 : decode b_M_out 38 = .ok (.iaload, 1) := by decide +kernel
theorem d_M_out_39 : decode b_M_out 39 = .ok (.iastore, 1) := by decide +kernel
theorem d_M_out_40 : decode b_M_out 40 = .ok (.aload_n 0, 1) := by decide +kernel
theorem d_M_out_41 : decode b_M_out 41 = .ok (.getfield 33, 3) := by decide +kernel
theorem d_M_out_44 : decode b_M_out 44 = .ok (.iload_n 2, 1) := by decide +kernel
theorem d_M_out_45 : decode b_M_out 45 = .ok (.aload_n 0, 1) := by decide +kernel
theorem d_M_out_46 : decode b_M_out 46 = .ok (.getfield 33, 3) := by decide +kernel
theorem d_M_out_49 : decode b_M_out 49 = .ok (.iload_n 2, 1) := by decide +kernel
theorem d_M_out_50 : decode b_M_out 50 = .ok (.iconst 1, 1) := by decide +kernel
theorem d_M_out_51 : decode b_M_out 51 = .ok (.iadd, 1) := by decide +kernel
theorem d_M_out_52 : decode b_M_out 52 = .ok (.iaload, 1) := by decide +kernel
theorem d_M_out_53 : decode b_M_out 53 = .ok (.iastore, 1) := by decide +kernel
theorem d_M_out_54 : decode b_M_out 54 = .ok (.iinc 2 1, 3) := by decide +kernel
theorem d_M_out_57 : decode b_M_out 57 = .ok (.goto (-55), 3) := by decide +kernel
theorem d_M_out_60 : decode b_M_out 60 = .ok (.aload_n 0, 1) := by decide +kernel
theorem d_M_out_61 : decode b_M_out 61 = .ok (.dup, 1) := by decide +kernel
theorem d_M_out_62 : decode b_M_out 62 = .ok (.getfield 130, 3) := by decide +kernel
theorem d_M_out_65 : decode b_M_out 65 = .ok (.iconst 1, 1) := by decide +kernel
theorem d_M_out_66 : decode b_M_out 66 = .ok (.isub, 1) := by decide +kernel
theorem d_M_out_67 : decode b_M_out 67 = .ok (.putfield 130, 3) := by decide +kernel
theorem d_M_out_70 : decode b_M_out 70 = .ok (.return_, 1) := by decide +kernel
theorem d_M_raise_0 : decode b_M_raise 0 = .ok (.aload_n 0, 1) := by decide +kernel
theorem d_M_raise_1 : decode b_M_raise 1 = .ok (.iload_n 1, 1) := by decide +kernel
theorem d_M_raise_2 : decode b_M_raise 2 = .ok (.iconst 0, 1) := by decide +kernel
theorem d_M_raise_3 : decode b_M_raise 3 = .ok (.aload_n 0, 1) := by decide +kernel
theorem d_M_raise_4 : decode b_M_raise 4 = .ok (.getfield 130, 3) := by decide +kernel
theorem d_M_raise_7 : decode b_M_raise 7 = .ok (.iconst 1, 1) := by decide +kernel
theorem d_M_raise_8 : decode b_M_raise 8 = .ok (.isub, 1) := by decide +kernel
theorem d_M_raise_9 : decode b_M_raise 9 = .ok (.invokestatic 84, 3) := by decide +kernel
theorem d_M_raise_12 : decode b_M_raise 12 = .ok (.iconst 0, 1) := by decide +kernel
theorem d_M_raise_13 : decode b_M_raise 13 = .ok (.invokevirtual 88, 3) := by decide +kernel
theorem d_M_raise_16 : decode b_M_raise 16 = .ok (.ifCond .eq 4, 3) := by decide +kernel
theorem d_M_raise_19 : decode b_M_raise 19 = .ok (.return_, 1) := by decide +kernel
theorem d_M_raise_20 : decode b_M_raise 20 = .ok (.aload_n 0, 1) := by decide +kernel
theorem d_M_raise_21 : decode b_M_raise 21 = .ok (.getfield 27, 3) := by decide +kernel
theorem d_M_raise_24 : decode b_M_raise 24 = .ok (.iload_n 1, 1) := by decide +kernel
theorem d_M_raise_25 : decode b_M_raise 25 = .ok (.iaload, 1) := by decide +kernel
theorem d_M_raise_26 : decode b_M_raise 26 = .ok (.istore_n 2, 1) := by decide +kernel
theorem d_M_raise_27 : decode b_M_raise 27 = .ok (.aload_n 0, 1) := by decide +kernel
theorem d_M_raise_28 : decode b_M_raise 28 = .ok (.getfield 30, 3) := by decide +kernel
theorem d_M_raise_31 : decode b_M_raise 31 = .ok (.iload_n 1, 1) := by decide +kernel
theorem d_M_raise_32 : decode b_M_raise 32 = .ok (.iaload, 1) := by decide +kernel
theorem d_M_raise_33 : decode b_M_raise 33 = .ok (.istore_n 3, 1) := by decide +kernel
theorem d_M_raise_34 : decode b_M_raise 34 = .ok (.aload_n 0, 1) := by decide +kernel
theorem d_M_raise_35 : decode b_M_raise 35 = .ok (.getfield 33, 3) := by decide +kernel
theorem d_M_raise_38 : decode b_M_raise 38 = .ok (.iload_n 1, 1) := by decide +kernel
theorem d_M_raise_39 : decode b_M_raise 39 = .ok (.iaload, 1) := by decide +kernel
theorem d_M_raise_40 : decode b_M_raise 40 = .ok (.istore 4, 2) := by decide +kernel
theorem d_M_raise_42 : decode b_M_raise 42 = .ok (.aload_n 0, 1) := by decide +kernel
theorem d_M_raise_43 : decode b_M_raise 43 = .ok (.iload_n 1, 1) := by decide +kernel
theorem d_M_raise_44 : decode b_M_raise 44 = .ok (.invokevirtual 143, 3) := by decide +kernel
theorem d_M_raise_47 : decode b_M_raise 47 = .ok (.iload_n 2, 1) := by decide +kernel
theorem d_M_raise_48 : decode b_M_raise 48 = .ok (.ifCond .ne 21, 3) := by decide +kernel
theorem d_M_raise_51 : decode b_M_raise 51 = .ok (.aload_n 0, 1) := by decide +kernel
theorem d_M_raise_52 : decode b_M_raise 52 = .ok (.iload_n 3, 1) := by decide +kernel
theorem d_M_raise_53 : decode b_M_raise 53 = .ok (.aload_n 0, 1) := by decide +kernel
theorem d_M_raise_54 : decode b_M_raise 54 = .ok (.getfield 146, 3) := by decide +kernel
theorem d_M_raise_57 : decode b_M_raise 57 = .ok (.isub, 1) := by decide +kernel
theorem d_M_raise_58 : decode b_M_raise 58 = .ok (.bipush 16, 2) := by decide +kernel
theorem d_M_raise_60 : decode b_M_raise 60 = .ok (.iadd, 1) := by decide +kernel
theorem d_M_raise_61 : decode b_M_raise 61 = .ok (.bipush 16, 2) := by decide +kernel
theorem d_M_raise_63 : decode b_M_raise 63 = .ok (.irem, 1) := by decide +kernel
theorem d_M_raise_64 : decode b_M_raise 64 = .ok (.iload 4, 2) := by decide +kernel
theorem d_M_raise_66 : decode b_M_raise 66 = .ok (.invokevirtual 149, 3) := by decide +kernel
theorem d_M_raise_69 : decode b_M_raise 69 = .ok (.iload_n 2, 1) := by decide +kernel
theorem d_M_raise_70 : decode b_M_raise 70 = .ok (.iconst 1, 1) := by decide +kernel
theorem d_M_raise_71 : decode b_M_raise 71 = .ok (.if_icmp .eq 16, 3) := by decide +kernel
theorem d_M_raise_74 : decode b_M_raise 74 = .ok (.iload_n 2, 1) := by decide +kernel
theorem d_M_raise_75 : decode b_M_raise 75 = .ok (.iconst 2, 1) := by decide +kernel
theorem d_M_raise_76 : decode b_M_raise 76 = .ok (.if_icmp .ne 15, 3) := by decide +kernel
theorem d_M_raise_79 : decode b_M_raise 79 = .ok (.aload_n 0, 1) := by decide +kernel
theorem d_M_raise_80 : decode b_M_raise 80 = .ok (.getfield 153, 3) := by decide +kernel
theorem d_M_raise_83 : decode b_M_raise 83 = .ok (.iconst 2, 1) := by decide +kernel
theorem d_M_raise_84 : decode b_M_raise 84 = .ok (.if_icmp .eq 7, 3) := by decide +kernel
theorem d_M_raise_87 : decode b_M_raise 87 = .ok (.iconst 1, 1) := by decide +kernel
theorem d_M_raise_88 : decode b_M_raise 88 = .ok (.goto 4, 3) := by decide +kernel
theorem d_M_raise_91 : decode b_M_raise 91 = .ok (.iconst 0, 1) := by decide +kernel
theorem d_M_raise_92 : decode b_M_raise 92 = .ok (.istore 5, 2) := by decide +kernel
theorem d_M_raise_94 : decode b_M_raise 94 = .ok (.iload 5, 2) := by decide +kernel
theorem d_M_raise_96 : decode b_M_raise 96 = .ok (.ifCond .eq 30, 3) := by decide +kernel
theorem d_M_raise_99 : decode b_M_raise 99 = .ok (.aload_n 0, 1) := by decide +kernel
theorem d_M_raise_100 : decode b_M_raise 100 = .ok (.iload_n 2, 1) := by decide +kernel
theorem d_M_raise_101 : decode b_M_raise 101 = .ok (.iconst 2, 1) := by decide +kernel
theorem d_M_raise_102 : decode b_M_raise 102 = .ok (.if_icmp .ne 7, 3) := by decide +kernel
theorem d_M_raise_105 : decode b_M_raise 105 = .ok (.iload_n 3, 1) := by decide +kernel
theorem d_M_raise_106 : decode b_M_raise 106 = .ok (.goto 7, 3) := by decide +kernel
theorem d_M_raise_109 : decode b_M_raise 109 = .ok (.aload_n 0, 1) := by decide +kernel
theorem d_M_raise_110 : decode b_M_raise 110 = .ok (.getfield 146, 3) := by decide +kernel
theorem d_M_raise_113 : decode b_M_raise 113 = .ok (.putfield 146, 3) := by decide +kernel
theorem d_M_raise_116 : decode b_M_raise 116 = .ok (.aload_n 0, 1) := by decide +kernel
theorem d_M_raise_117 : decode b_M_raise 117 = .ok (.iconst 0, 1) := by decide +kernel
theorem d_M_raise_118 : decode b_M_raise 118 = .ok (.putfield 153, 3) := by decide +kernel
theorem d_M_raise_121 : decode b_M_raise 121 = .ok (.aload_n 0, 1) := by decide +kernel
theorem d_M_raise_122 : decode b_M_raise 122 = .ok (.iconst 0, 1) := by decide +kernel
theorem d_M_raise_123 : decode b_M_raise 123 = .ok (.putfield 156, 3) := by decide +kernel
theorem d_M_raise_126 : decode b_M_raise 126 = .ok (.return_, 1) := by decide +kernel
theorem d_M_comes_0 : decode b_M_comes 0 = .ok (.iload_n 1, 1) := by decide +kernel
theorem d_M_comes_1 : decode b_M_comes 1 = .ok (.iconst 5, 1) := by decide +kernel
theorem d_M_comes_2 : decode b_M_comes 2 = .ok (.if_icmp .lt 14, 3) := by decide +kernel
theorem d_M_comes_5 : decode b_M_comes 5 = .ok (.iload_n 1, 1) := by decide +kernel
theorem d_M_comes_6 : decode b_M_comes 6 = .ok (.bipush 10, 2) := by decide +kernel
theorem d_M_comes_8 : decode b_M_comes 8 = .ok (.if_icmp .gt 8, 3) := by decide +kernel
theorem d_M_comes_11 : decode b_M_comes 11 = .ok (.aload_n 0, 1) := by decide +kernel
theorem d_M_comes_12 : decode b_M_comes 12 = .ok (.iconst 2, 1) := by decide +kernel
theorem d_M_comes_13 : decode b_M_comes 13 = .ok (.putfield 153, 3) := by decide +kernel
theorem d_M_comes_16 : decode b_M_comes 16 = .ok (.aload_n 0, 1) := by decide +kernel
theorem d_M_comes_17 : decode b_M_comes 17 = .ok (.getfield 153, 3) := by decide +kernel
theorem d_M_comes_20 : decode b_M_comes 20 = .ok (.ifCond .ne 8, 3) := by decide +kernel
theorem d_M_comes_23 : decode b_M_comes 23 = .ok (.iload_n 1, 1) := by decide +kernel
theorem d_M_comes_24 : decode b_M_comes 24 = .ok (.iconst 4, 1) := by decide +kernel
theorem d_M_comes_25 : decode b_M_comes 25 = .ok (.if_icmp .le 4, 3) := by decide +kernel
theorem d_M_comes_28 : decode b_M_comes 28 = .ok (.return_, 1) := by decide +kernel
theorem d_M_comes_29 : decode b_M_comes 29 = .ok (.aload_n 0, 1) := by decide +kernel
theorem d_M_comes_30 : decode b_M_comes 30 = .ok (.iload_n 1, 1) := by decide +kernel
theorem d_M_comes_31 : decode b_M_comes 31 = .ok (.ifCond .gt 11, 3) := by decide +kernel
theorem d_M_comes_34 : decode b_M_comes 34 = .ok (.aload_n 0, 1) := by decide +kernel
theorem d_M_comes_35 : decode b_M_comes 35 = .ok (.getfield 159, 3) := by decide +kernel
theorem d_M_comes_38 : decode b_M_comes 38 = .ok (.iconst 3, 1) := by decide +kernel
theorem d_M_comes_39 : decode b_M_comes 39 = .ok (.if_icmp .ne 7, 3) := by decide +kernel
theorem d_M_comes_42 : decode b_M_comes 42 = .ok (.iconst 1, 1) := by decide +kernel
theorem d_M_comes_43 : decode b_M_comes 43 = .ok (.goto 4, 3) := by decide +kernel
theorem d_M_comes_46 : decode b_M_comes 46 = .ok (.iconst 0, 1) := by decide +kernel
theorem d_M_comes_47 : decode b_M_comes 47 = .ok (.putfield 156, 3) := by decide +kernel
theorem d_M_comes_50 : decode b_M_comes 50 = .ok (.iload_n 1, 1) := by decide +kernel
theorem d_M_comes_51 : decode b_M_comes 51 = .ok (.ifCond .le 4, 3) := by decide +kernel
theorem d_M_comes_54 : decode b_M_comes 54 = .ok (.return_, 1) := by decide +kernel
theorem d_M_comes_55 : decode b_M_comes 55 = .ok (.aload_n 0, 1) := by decide +kernel
theorem d_M_comes_56 : decode b_M_comes 56 = .ok (.getfield 159, 3) := by decide +kernel
theorem d_M_comes_59 : decode b_M_comes 59 = .ok (.iconst 3, 1) := by decide +kernel
theorem d_M_comes_60 : decode b_M_comes 60 = .ok (.if_icmp .ne 9, 3) := by decide +kernel
theorem d_M_comes_63 : decode b_M_comes 63 = .ok (.aload_n 0, 1) := by decide +kernel
theorem d_M_comes_64 : decode b_M_comes 64 = .ok (.iconst 1, 1) := by decide +kernel
theorem d_M_comes_65 : decode b_M_comes 65 = .ok (.putfield 153, 3) := by decide +kernel
theorem d_M_comes_68 : decode b_M_comes 68 = .ok (.return_, 1) := by decide +kernel
theorem d_M_comes_69 : decode b_M_comes 69 = .ok (.aload_n 0, 1) := by decide +kernel
theorem d_M_comes_70 : decode b_M_comes 70 = .ok (.getfield 36, 3) := by decide +kernel
theorem d_M_comes_73 : decode b_M_comes 73 = .ok (.aload_n 0, 1) := by decide +kernel
theorem d_M_comes_74 : decode b_M_comes 74 = .ok (.getfield 159, 3) := by decide +kernel
theorem d_M_comes_77 : decode b_M_comes 77 = .ok (.iload_n 2, 1) := by decide +kernel
theorem d_M_comes_78 : decode b_M_comes 78 = .ok (.iastore, 1) := by decide +kernel
theorem d_M_comes_79 : decode b_M_comes 79 = .ok (.aload_n 0, 1) := by decide +kernel
theorem d_M_comes_80 : decode b_M_comes 80 = .ok (.dup, 1) := by decide +kernel
theorem d_M_comes_81 : decode b_M_comes 81 = .ok (.getfield 159, 3) := by decide +kernel
theorem d_M_comes_84 : decode b_M_comes 84 = .ok (.iconst 1, 1) := by decide +kernel
theorem d_M_comes_85 : decode b_M_comes 85 = .ok (.iadd, 1) := by decide +kernel
theorem d_M_comes_86 : decode b_M_comes 86 = .ok (.putfield 159, 3) := by decide +kernel
theorem d_M_comes_89 : decode b_M_comes 89 = .ok (.aload_n 0, 1) := by decide +kernel
theorem d_M_comes_90 : decode b_M_comes 90 = .ok (.aload_n 0, 1) := by decide +kernel
theorem d_M_comes_91 : decode b_M_comes 91 = .ok (.getfield 146, 3) := by decide +kernel
theorem d_M_comes_94 : decode b_M_comes 94 = .ok (.iconst 1, 1) := by decide +kernel
theorem d_M_comes_95 : decode b_M_comes 95 = .ok (.iadd, 1) := by decide +kernel
theorem d_M_comes_96 : decode b_M_comes 96 = .ok (.bipush 16, 2) := by decide +kernel
theorem d_M_comes_98 : decode b_M_comes 98 = .ok (.irem, 1) := by decide +kernel
theorem d_M_comes_99 : decode b_M_comes 99 = .ok (.putfield 146, 3) := by decide +kernel
theorem d_M_comes_102 : decode b_M_comes 102 = .ok (.return_, 1) := by decide +kernel
theorem d_M_drop_0 : decode b_M_drop 0 = .ok (.aload_n 0, 1) := by decide +kernel
theorem d_M_drop_1 : decode b_M_drop 1 = .ok (.iload_n 1, 1) := by decide +kernel
theorem d_M_drop_2 : decode b_M_drop 2 = .ok (.iconst 0, 1) := by decide +kernel
theorem d_M_drop_3 : decode b_M_drop 3 = .ok (.aload_n 0, 1) := by decide +kernel
theorem d_M_drop_4 : decode b_M_drop 4 = .ok (.getfield 130, 3) := by decide +kernel
theorem d_M_drop_7 : decode b_M_drop 7 = .ok (.iconst 1, 1) := by decide +kernel
theorem d_M_drop_8 : decode b_M_drop 8 = .ok (.isub, 1) := by decide +kernel
theorem d_M_drop_9 : decode b_M_drop 9 = .ok (.invokestatic 84, 3) := by decide +kernel
theorem d_M_drop_12 : decode b_M_drop 12 = .ok (.iconst 0, 1) := by decide +kernel
theorem d_M_drop_13 : decode b_M_drop 13 = .ok (.invokevirtual 88, 3) := by decide +kernel
theorem d_M_drop_16 : decode b_M_drop 16 = .ok (.ifCond .ne 8, 3) := by decide +kernel
theorem d_M_drop_19 : decode b_M_drop 19 = .ok (.aload_n 0, 1) := by decide +kernel
theorem d_M_drop_20 : decode b_M_drop 20 = .ok (.iload_n 1, 1) := by decide +kernel
theorem d_M_drop_21 : decode b_M_drop 21 = .ok (.invokevirtual 143, 3) := by decide +kernel
theorem d_M_drop_24 : decode b_M_drop 24 = .ok (.return_, 1) := by decide +kernel
theorem d_M_take_0 : decode b_M_take 0 = .ok (.aload_n 0, 1) := by decide +kernel
theorem d_M_take_1 : decode b_M_take 1 = .ok (.aload_n 0, 1) := by decide +kernel
theorem d_M_take_2 : decode b_M_take 2 = .ok (.getfield 159, 3) := by decide +kernel
theorem d_M_take_5 : decode b_M_take 5 = .ok (.ifCond .ne 7, 3) := by decide +kernel
theorem d_M_take_8 : decode b_M_take 8 = .ok (.iconst 1, 1) := by decide +kernel
theorem d_M_take_9 : decode b_M_take 9 = .ok (.goto 4, 3) := by decide +kernel
theorem d_M_take_12 : decode b_M_take 12 = .ok (.iconst 0, 1) := by decide +kernel
theorem d_M_take_13 : decode b_M_take 13 = .ok (.iconst 0, 1) := by decide +kernel
theorem d_M_take_14 : decode b_M_take 14 = .ok (.invokevirtual 88, 3) := by decide +kernel
theorem d_M_take_17 : decode b_M_take 17 = .ok (.ifCond .eq 5, 3) := by decide +kernel
theorem d_M_take_20 : decode b_M_take 20 = .ok (.iconst 0, 1) := by decide +kernel
theorem d_M_take_21 : decode b_M_take 21 = .ok (.ireturn, 1) := by decide +kernel
theorem d_M_take_22 : decode b_M_take 22 = .ok (.aload_n 0, 1) := by decide +kernel
theorem d_M_take_23 : decode b_M_take 23 = .ok (.getfield 36, 3) := by decide +kernel
theorem d_M_take_26 : decode b_M_take 26 = .ok (.iconst 0, 1) := by decide +kernel
theorem d_M_take_27 : decode b_M_take 27 = .ok (.iaload, 1) := by decide +kernel
theorem d_M_take_28 : decode b_M_take 28 = .ok (.istore_n 1, 1) := by decide +kernel
theorem d_M_take_29 : decode b_M_take 29 = .ok (.aload_n 0, 1) := by decide +kernel
theorem d_M_take_30 : decode b_M_take 30 = .ok (.getfield 36, 3) := by decide +kernel
theorem d_M_take_33 : decode b_M_take 33 = .ok (.iconst 0, 1) := by decide +kernel
theorem d_M_take_34 : decode b_M_take 34 = .ok (.aload_n 0, 1) := by decide +kernel
theorem d_M_take_35 : decode b_M_take 35 = .ok (.getfield 36, 3) := by decide +kernel
theorem d_M_take_38 : decode b_M_take 38 = .ok (.iconst 1, 1) := by decide +kernel
theorem d_M_take_39 : decode b_M_take 39 = .ok (.iaload, 1) := by decide +kernel
theorem d_M_take_40 : decode b_M_take 40 = .ok (.iastore, 1) := by decide +kernel
theorem d_M_take_41 : decode b_M_take 41 = .ok (.aload_n 0, 1) := by decide +kernel
theorem d_M_take_42 : decode b_M_take 42 = .ok (.getfield 36, 3) := by decide +kernel
theorem d_M_take_45 : decode b_M_take 45 = .ok (.iconst 1, 1) := by decide +kernel
theorem d_M_take_46 : decode b_M_take 46 = .ok (.aload_n 0, 1) := by decide +kernel
theorem d_M_take_47 : decode b_M_take 47 = .ok (.getfield 36, 3) := by decide +kernel
theorem d_M_take_50 : decode b_M_take 50 = .ok (.iconst 2, 1) := by decide +kernel
theorem d_M_take_51 : decode b_M_take 51 = .ok (.iaload, 1) := by decide +kernel
theorem d_M_take_52 : decode b_M_take 52 = .ok (.iastore, 1) := by decide +kernel
theorem d_M_take_53 : decode b_M_take 53 = .ok (.aload_n 0, 1) := by decide +kernel
theorem d_M_take_54 : decode b_M_take 54 = .ok (.dup, 1) := by decide +kernel
theorem d_M_take_55 : decode b_M_take 55 = .ok (.getfield 159, 3) := by decide +kernel
theorem d_M_take_58 : decode b_M_take 58 = .ok (.iconst 1, 1) := by decide +kernel
theorem d_M_take_59 : decode b_M_take 59 = .ok (.isub, 1) := by decide +kernel
theorem d_M_take_60 : decode b_M_take 60 = .ok (.putfield 159, 3) := by decide +kernel
theorem d_M_take_63 : decode b_M_take 63 = .ok (.aload_n 0, 1) := by decide +kernel
theorem d_M_take_64 : decode b_M_take 64 = .ok (.aload_n 0, 1) := by decide +kernel
theorem d_M_take_65 : decode b_M_take 65 = .ok (.getfield 153, 3) := by decide +kernel
theorem d_M_take_68 : decode b_M_take 68 = .ok (.iconst 1, 1) := by decide +kernel
theorem d_M_take_69 : decode b_M_take 69 = .ok (.if_icmp .ne 7, 3) := by decide +kernel
theorem d_M_take_72 : decode b_M_take 72 = .ok (.iconst 0, 1) := by decide +kernel
theorem d_M_take_73 : decode b_M_take 73 = .ok (.goto 7, 3) := by decide +kernel
theorem d_M_take_76 : decode b_M_take 76 = .ok (.aload_n 0, 1) := by decide +kernel
theorem d_M_take_77 : decode b_M_take 77 = .ok (.getfield 153, 3) := by decide +kernel
theorem d_M_take_80 : decode b_M_take 80 = .ok (.putfield 153, 3) := by decide +kernel
theorem d_M_take_83 : decode b_M_take 83 = .ok (.iload_n 1, 1) := by decide +kernel
theorem d_M_take_84 : decode b_M_take 84 = .ok (.ireturn, 1) := by decide +kernel
theorem d_M_report_0 : decode b_M_report 0 = .ok (.aload_n 0, 1) := by decide +kernel
theorem d_M_report_1 : decode b_M_report 1 = .ok (.iconst 0, 1) := by decide +kernel
theorem d_M_report_2 : decode b_M_report 2 = .ok (.putfield 78, 3) := by decide +kernel
theorem d_M_report_5 : decode b_M_report 5 = .ok (.aload_n 0, 1) := by decide +kernel
theorem d_M_report_6 : decode b_M_report 6 = .ok (.getfield 162, 3) := by decide +kernel
theorem d_M_report_9 : decode b_M_report 9 = .ok (.bipush 20, 2) := by decide +kernel
theorem d_M_report_11 : decode b_M_report 11 = .ok (.if_icmp .ne 5, 3) := by decide +kernel
theorem d_M_report_14 : decode b_M_report 14 = .ok (.iconst 0, 1) := by decide +kernel
theorem d_M_report_15 : decode b_M_report 15 = .ok (.ireturn, 1) := by decide +kernel
theorem d_M_report_16 : decode b_M_report 16 = .ok (.aload_n 0, 1) := by decide +kernel
theorem d_M_report_17 : decode b_M_report 17 = .ok (.getfield 39, 3) := by decide +kernel
theorem d_M_report_20 : decode b_M_report 20 = .ok (.aload_n 0, 1) := by decide +kernel
theorem d_M_report_21 : decode b_M_report 21 = .ok (.getfield 162, 3) := by decide +kernel
theorem d_M_report_24 : decode b_M_report 24 = .ok (.aload_n 0, 1) := by decide +kernel
theorem d_M_report_25 : decode b_M_report 25 = .ok (.getfield 146, 3) := by decide +kernel
theorem d_M_report_28 : decode b_M_report 28 = .ok (.aload_n 0, 1) := by decide +kernel
theorem d_M_report_29 : decode b_M_report 29 = .ok (.getfield 156, 3) := by decide +kernel
theorem d_M_report_32 : decode b_M_report 32 = .ok (.ifCond .eq 8, 3) := by decide +kernel
theorem d_M_report_35 : decode b_M_report 35 = .ok (.bipush 16, 2) := by decide +kernel
theorem d_M_report_37 : decode b_M_report 37 = .ok (.goto 4, 3) := by decide +kernel
theorem d_M_report_40 : decode b_M_report 40 = .ok (.iconst 0, 1) := by decide +kernel
theorem d_M_report_41 : decode b_M_report 41 = .ok (.iadd, 1) := by decide +kernel
theorem d_M_report_42 : decode b_M_report 42 = .ok (.aload_n 0, 1) := by decide +kernel
theorem d_M_report_43 : decode b_M_report 43 = .ok (.getfield 153, 3) := by decide +kernel
theorem d_M_report_46 : decode b_M_report 46 = .ok (.iconst 2, 1) := by decide +kernel
theorem d_M_report_47 : decode b_M_report 47 = .ok (.if_icmp .ne 8, 3) := by decide +kernel
theorem d_M_report_50 : decode b_M_report 50 = .ok (.bipush 32, 2) := by decide +kernel
theorem d_M_report_52 : decode b_M_report 52 = .ok (.goto 4, 3) := by decide +kernel
theorem d_M_report_55 : decode b_M_report 55 = .ok (.iconst 0, 1) := by decide +kernel
theorem d_M_report_56 : decode b_M_report 56 = .ok (.iadd, 1) := by decide +kernel
theorem d_M_report_57 : decode b_M_report 57 = .ok (.aload_n 0, 1) := by decide +kernel
theorem d_M_report_58 : decode b_M_report 58 = .ok (.getfield 153, 3) := by decide +kernel
theorem d_M_report_61 : decode b_M_report 61 = .ok (.iconst 1, 1) := by decide +kernel
theorem d_M_report_62 : decode b_M_report 62 = .ok (.if_icmp .ne 8, 3) := by decide +kernel
theorem d_M_report_65 : decode b_M_report 65 = .ok (.bipush 64, 2) := by decide +kernel
theorem d_M_report_67 : decode b_M_report 67 = .ok (.goto 4, 3) := by decide +kernel
theorem d_M_report_70 : decode b_M_report 70 = .ok (.iconst 0, 1) := by decide +kernel
theorem d_M_report_71 : decode b_M_report 71 = .ok (.iadd, 1) := by decide +kernel
theorem d_M_report_72 : decode b_M_report 72 = .ok (.iastore, 1) := by decide +kernel
theorem d_M_report_73 : decode b_M_report 73 = .ok (.aload_n 0, 1) := by decide +kernel
theorem d_M_report_74 : decode b_M_report 74 = .ok (.dup, 1) := by decide +kernel
theorem d_M_report_75 : decode b_M_report 75 = .ok (.getfield 162, 3) := by decide +kernel
theorem d_M_report_78 : decode b_M_report 78 = .ok (.iconst 1, 1) := by decide +kernel
theorem d_M_report_79 : decode b_M_report 79 = .ok (.iadd, 1) := by decide +kernel
theorem d_M_report_80 : decode b_M_report 80 = .ok (.putfield 162, 3) := by decide +kernel
theorem d_M_report_83 : decode b_M_report 83 = .ok (.iconst 1, 1) := by decide +kernel
theorem d_M_report_84 : decode b_M_report 84 = .ok (.ireturn, 1) := by decide +kernel
theorem d_M_answer_0 : decode b_M_answer 0 = .ok (.aload_n 0, 1) := by decide +kernel
theorem d_M_answer_1 : decode b_M_answer 1 = .ok (.iload_n 1, 1) := by decide +kernel
theorem d_M_answer_2 : decode b_M_answer 2 = .ok (.iconst 0, 1) := by decide +kernel
theorem d_M_answer_3 : decode b_M_answer 3 = .ok (.aload_n 0, 1) := by decide +kernel
theorem d_M_answer_4 : decode b_M_answer 4 = .ok (.getfield 162, 3) := by decide +kernel
theorem d_M_answer_7 : decode b_M_answer 7 = .ok (.iconst 1, 1) := by decide +kernel
theorem d_M_answer_8 : decode b_M_answer 8 = .ok (.isub, 1) := by decide +kernel
theorem d_M_answer_9 : decode b_M_answer 9 = .ok (.invokestatic 84, 3) := by decide +kernel
theorem d_M_answer_12 : decode b_M_answer 12 = .ok (.iconst 0, 1) := by decide +kernel
theorem d_M_answer_13 : decode b_M_answer 13 = .ok (.invokevirtual 88, 3) := by decide +kernel
theorem d_M_answer_16 : decode b_M_answer 16 = .ok (.ifCond .eq 4, 3) := by decide +kernel
theorem d_M_answer_19 : decode b_M_answer 19 = .ok (.return_, 1) := by decide +kernel
theorem d_M_answer_20 : decode b_M_answer 20 = .ok (.aload_n 0, 1) := by decide +kernel
theorem d_M_answer_21 : decode b_M_answer 21 = .ok (.getfield 39, 3) := by decide +kernel
theorem d_M_answer_24 : decode b_M_answer 24 = .ok (.iload_n 1, 1) := by decide +kernel
theorem d_M_answer_25 : decode b_M_answer 25 = .ok (.iaload, 1) := by decide +kernel
theorem d_M_answer_26 : decode b_M_answer 26 = .ok (.istore_n 3, 1) := by decide +kernel
theorem d_M_answer_27 : decode b_M_answer 27 = .ok (.iload_n 1, 1) := by decide +kernel
theorem d_M_answer_28 : decode b_M_answer 28 = .ok (.istore 4, 2) := by decide +kernel
theorem d_M_answer_30 : decode b_M_answer 30 = .ok (.iload 4, 2) := by decide +kernel
theorem d_M_answer_32 : decode b_M_answer 32 = .ok (.iconst 1, 1) := by decide +kernel
theorem d_M_answer_33 : decode b_M_answer 33 = .ok (.iadd, 1) := by decide +kernel
theorem d_M_answer_34 : decode b_M_answer 34 = .ok (.aload_n 0, 1) := by decide +kernel
theorem d_M_answer_35 : decode b_M_answer 35 = .ok (.getfield 162, 3) := by decide +kernel
theorem d_M_answer_38 : decode b_M_answer 38 = .ok (.if_icmp .ge 25, 3) := by decide +kernel
theorem d_M_answer_41 : decode b_M_answer 41 = .ok (.aload_n 0, 1) := by decide +kernel
theorem d_M_answer_42 : decode b_M_answer 42 = .ok (.getfield 39, 3) := by decide +kernel
theorem d_M_answer_45 : decode b_M_answer 45 = .ok (.iload 4, 2) := by decide +kernel
theorem d_M_answer_47 : decode b_M_answer 47 = .ok (.aload_n 0, 1) := by decide +kernel
theorem d_M_answer_48 : decode b_M_answer 48 = .ok (.getfield 39, 3) := by decide +kernel
theorem d_M_answer_51 : decode b_M_answer 51 = .ok (.iload 4, 2) := by decide +kernel
theorem d_M_answer_53 : decode b_M_answer 53 = .ok (.iconst 1, 1) := by decide +kernel
theorem d_M_answer_54 : decode b_M_answer 54 = .ok (.iadd, 1) := by decide +kernel
theorem d_M_answer_55 : decode b_M_answer 55 = .ok (.iaload, 1) := by decide +kernel
theorem d_M_answer_56 : decode b_M_answer 56 = .ok (.iastore, 1) := by decide +kernel
theorem d_M_answer_57 : decode b_M_answer 57 = .ok (.iinc 4 1, 3) := by decide +kernel
theorem d_M_answer_60 : decode b_M_answer 60 = .ok (.goto (-30), 3) := by decide +kernel
theorem d_M_answer_63 : decode b_M_answer 63 = .ok (.aload_n 0, 1) := by decide +kernel
theorem d_M_answer_64 : decode b_M_answer 64 = .ok (.dup, 1) := by decide +kernel
theorem d_M_answer_65 : decode b_M_answer 65 = .ok (.getfield 162, 3) := by decide +kernel
theorem d_M_answer_68 : decode b_M_answer 68 = .ok (.iconst 1, 1) := by decide +kernel
theorem d_M_answer_69 : decode b_M_answer 69 = .ok (.isub, 1) := by decide +kernel
theorem d_M_answer_70 : decode b_M_answer 70 = .ok (.putfield 162, 3) := by decide +kernel
theorem d_M_answer_73 : decode b_M_answer 73 = .ok (.iload_n 2, 1) := by decide +kernel
theorem d_M_answer_74 : decode b_M_answer 74 = .ok (.ifCond .ne 10, 3) := by decide +kernel
theorem d_M_answer_77 : decode b_M_answer 77 = .ok (.aload_n 0, 1) := by decide +kernel
theorem d_M_answer_78 : decode b_M_answer 78 = .ok (.getfield 81, 3) := by decide +kernel
theorem d_M_answer_81 : decode b_M_answer 81 = .ok (.ifCond .ne 4, 3) := by decide +kernel
theorem d_M_answer_84 : decode b_M_answer 84 = .ok (.return_, 1) := by decide +kernel
theorem d_M_answer_85 : decode b_M_answer 85 = .ok (.aload_n 0, 1) := by decide +kernel
theorem d_M_answer_86 : decode b_M_answer 86 = .ok (.getfield 81, 3) := by decide +kernel
theorem d_M_answer_89 : decode b_M_answer 89 = .ok (.iconst 5, 1) := by decide +kernel
theorem d_M_answer_90 : decode b_M_answer 90 = .ok (.if_icmp .ne 27, 3) := by decide +kernel
theorem d_M_answer_93 : decode b_M_answer 93 = .ok (.iload_n 3, 1) := by decide +kernel
theorem d_M_answer_94 : decode b_M_answer 94 = .ok (.aload_n 0, 1) := by decide +kernel
theorem d_M_answer_95 : decode b_M_answer 95 = .ok (.getfield 92, 3) := by decide +kernel
theorem d_M_answer_98 : decode b_M_answer 98 = .ok (.if_icmp .ne 18, 3) := by decide +kernel
theorem d_M_answer_101 : decode b_M_answer 101 = .ok (.aload_n 0, 1) := by decide +kernel
theorem d_M_answer_102 : decode b_M_answer 102 = .ok (.iconst 1, 1) := by decide +kernel
theorem d_M_answer_103 : decode b_M_answer 103 = .ok (.putfield 81, 3) := by decide +kernel
theorem d_M_answer_106 : decode b_M_answer 106 = .ok (.aload_n 0, 1) := by decide +kernel
theorem d_M_answer_107 : decode b_M_answer 107 = .ok (.iconst 1, 1) := by decide +kernel
theorem d_M_answer_108 : decode b_M_answer 108 = .ok (.putfield 108, 3) := by decide +kernel
theorem d_M_answer_111 : decode b_M_answer 111 = .ok (.aload_n 0, 1) := by decide +kernel
theorem d_M_answer_112 : decode b_M_answer 112 = .ok (.iconst 0, 1) := by decide +kernel
theorem d_M_answer_113 : decode b_M_answer 113 = .ok (.putfield 98, 3) := by decide +kernel
theorem d_M_answer_116 : decode b_M_answer 116 = .ok (.return_, 1) := by decide +kernel
theorem d_M_answer_117 : decode b_M_answer 117 = .ok (.iload_n 3, 1) := by decide +kernel
theorem d_M_answer_118 : decode b_M_answer 118 = .ok (.bipush 16, 2) := by decide +kernel
theorem d_M_answer_120 : decode b_M_answer 120 = .ok (.irem, 1) := by decide +kernel
theorem d_M_answer_121 : decode b_M_answer 121 = .ok (.aload_n 0, 1) := by decide +kernel
theorem d_M_answer_122 : decode b_M_answer 122 = .ok (.getfield 95, 3) := by decide +kernel
theorem d_M_answer_125 : decode b_M_answer 125 = .ok (.isub, 1) := by decide +kernel
theorem d_M_answer_126 : decode b_M_answer 126 = .ok (.bipush 16, 2) := by decide +kernel
theorem d_M_answer_128 : decode b_M_answer 128 = .ok (.iadd, 1) := by decide +kernel
theorem d_M_answer_129 : decode b_M_answer 129 = .ok (.bipush 16, 2) := by decide +kernel
theorem d_M_answer_131 : decode b_M_answer 131 = .ok (.irem, 1) := by decide +kernel
theorem d_M_answer_132 : decode b_M_answer 132 = .ok (.istore 4, 2) := by decide +kernel
theorem d_M_answer_134 : decode b_M_answer 134 = .ok (.iload_n 3, 1) := by decide +kernel
theorem d_M_answer_135 : decode b_M_answer 135 = .ok (.bipush 32, 2) := by decide +kernel
theorem d_M_answer_137 : decode b_M_answer 137 = .ok (.idiv, 1) := by decide +kernel
theorem d_M_answer_138 : decode b_M_answer 138 = .ok (.iconst 2, 1) := by decide +kernel
theorem d_M_answer_139 : decode b_M_answer 139 = .ok (.irem, 1) := by decide +kernel
theorem d_M_answer_140 : decode b_M_answer 140 = .ok (.iconst 1, 1) := by decide +kernel
theorem d_M_answer_141 : decode b_M_answer 141 = .ok (.if_icmp .ne 11, 3) := by decide +kernel
theorem d_M_answer_144 : decode b_M_answer 144 = .ok (.aload_n 0, 1) := by decide +kernel
theorem d_M_answer_145 : decode b_M_answer 145 = .ok (.iconst 2, 1) := by decide +kernel
theorem d_M_answer_146 : decode b_M_answer 146 = .ok (.invokevirtual 126, 3) := by decide +kernel
theorem d_M_answer_149 : decode b_M_answer 149 = .ok (.goto 52, 3) := by decide +kernel
theorem d_M_answer_152 : decode b_M_answer 152 = .ok (.iload 4, 2) := by decide +kernel
theorem d_M_answer_154 : decode b_M_answer 154 = .ok (.aload_n 0, 1) := by decide +kernel
theorem d_M_answer_155 : decode b_M_answer 155 = .ok (.getfield 114, 3) := by decide +kernel
theorem d_M_answer_158 : decode b_M_answer 158 = .ok (.if_icmp .le 11, 3) := by decide +kernel
theorem d_M_answer_161 : decode b_M_answer 161 = .ok (.aload_n 0, 1) := by decide +kernel
theorem d_M_answer_162 : decode b_M_answer 162 = .ok (.iconst 4, 1) := by decide +kernel
theorem d_M_answer_163 : decode b_M_answer 163 = .ok (.invokevirtual 126, 3) := by decide +kernel
theorem d_M_answer_166 : decode b_M_answer 166 = .ok (.goto 35, 3) := by decide +kernel
theorem d_M_answer_169 : decode b_M_answer 169 = .ok (.aload_n 0, 1) := by decide +kernel
theorem d_M_answer_170 : decode b_M_answer 170 = .ok (.iload 4, 2) := by decide +kernel
theorem d_M_answer_172 : decode b_M_answer 172 = .ok (.iload_n 3, 1) := by decide +kernel
theorem d_M_answer_173 : decode b_M_answer 173 = .ok (.bipush 16, 2) := by decide +kernel
theorem d_M_answer_175 : decode b_M_answer 175 = .ok (.idiv, 1) := by decide +kernel
theorem d_M_answer_176 : decode b_M_answer 176 = .ok (.iconst 2, 1) := by decide +kernel
theorem d_M_answer_177 : decode b_M_answer 177 = .ok (.irem, 1) := by decide +kernel
theorem d_M_answer_178 : decode b_M_answer 178 = .ok (.iconst 1, 1) := by decide +kernel
theorem d_M_answer_179 : decode b_M_answer 179 = .ok (.if_icmp .ne 7, 3) := by decide +kernel
theorem d_M_answer_182 : decode b_M_answer 182 = .ok (.iconst 1, 1) := by decide +kernel
theorem d_M_answer_183 : decode b_M_answer 183 = .ok (.goto 4, 3) := by decide +kernel
theorem d_M_answer_186 : decode b_M_answer 186 = .ok (.iconst 0, 1) := by decide +kernel
theorem d_M_answer_187 : decode b_M_answer 187 = .ok (.iload_n 3, 1) := by decide +kernel
theorem d_M_answer_188 : decode b_M_answer 188 = .ok (.bipush 64, 2) := by decide +kernel
theorem d_M_answer_190 : decode b_M_answer 190 = .ok (.if_icmp .lt 7, 3) := by decide +kernel
theorem d_M_answer_193 : decode b_M_answer 193 = .ok (.iconst 1, 1) := by decide +kernel
theorem d_M_answer_194 : decode b_M_answer 194 = .ok (.goto 4, 3) := by decide +kernel
theorem d_M_answer_197 : decode b_M_answer 197 = .ok (.iconst 0, 1) := by decide +kernel
theorem d_M_answer_198 : decode b_M_answer 198 = .ok (.invokevirtual 165, 3) := by decide +kernel
theorem d_M_answer_201 : decode b_M_answer 201 = .ok (.return_, 1) := by decide +kernel
theorem d_M_read_0 : decode b_M_read 0 = .ok (.iconst 0, 1) := by decide +kernel
theorem d_M_read_1 : decode b_M_read 1 = .ok (.istore 4, 2) := by decide +kernel
theorem d_M_read_3 : decode b_M_read 3 = .ok (.iload 4, 2) := by decide +kernel
theorem d_M_read_5 : decode b_M_read 5 = .ok (.iload_n 1, 1) := by decide +kernel
theorem d_M_read_6 : decode b_M_read 6 = .ok (.iadd, 1) := by decide +kernel
theorem d_M_read_7 : decode b_M_read 7 = .ok (.aload_n 0, 1) := by decide +kernel
theorem d_M_read_8 : decode b_M_read 8 = .ok (.getfield 114, 3) := by decide +kernel
theorem d_M_read_11 : decode b_M_read 11 = .ok (.if_icmp .ge 41, 3) := by decide +kernel
theorem d_M_read_14 : decode b_M_read 14 = .ok (.aload_n 0, 1) := by decide +kernel
theorem d_M_read_15 : decode b_M_read 15 = .ok (.getfield 19, 3) := by decide +kernel
theorem d_M_read_18 : decode b_M_read 18 = .ok (.iload 4, 2) := by decide +kernel
theorem d_M_read_20 : decode b_M_read 20 = .ok (.aload_n 0, 1) := by decide +kernel
theorem d_M_read_21 : decode b_M_read 21 = .ok (.getfield 19, 3) := by decide +kernel
theorem d_M_read_24 : decode b_M_read 24 = .ok (.iload 4, 2) := by decide +kernel
theorem d_M_read_26 : decode b_M_read 26 = .ok (.iload_n 1, 1) := by decide +kernel
theorem d_M_read_27 : decode b_M_read 27 = .ok (.iadd, 1) := by decide +kernel
theorem d_M_read_28 : decode b_M_read 28 = .ok (.iaload, 1) := by decide +kernel
theorem d_M_read_29 : decode b_M_read 29 = .ok (.iastore, 1) := by decide +kernel
theorem d_M_read_30 : decode b_M_read 30 = .ok (.aload_n 0, 1) := by decide +kernel
theorem d_M_read_31 : decode b_M_read 31 = .ok (.getfield 23, 3) := by decide +kernel
theorem d_M_read_34 : decode b_M_read 34 = .ok (.iload 4, 2) := by decide +kernel
theorem d_M_read_36 : decode b_M_read 36 = .ok (.aload_n 0, 1) := by decide +kernel
theorem d_M_read_37 : decode b_M_read 37 = .ok (.getfield 23, 3) := by decide +kernel
theorem d_M_read_40 : decode b_M_read 40 = .ok (.iload 4, 2) := by decide +kernel
theorem d_M_read_42 : decode b_M_read 42 = .ok (.iload_n 1, 1) := by decide +kernel
theorem d_M_read_43 : decode b_M_read 43 = .ok (.iadd, 1) := by decide +kernel
theorem d_M_read_44 : decode b_M_read 44 = .ok (.baload, 1) := by decide +kernel
theorem d_M_read_45 : decode b_M_read 45 = .ok (.bastore, 1) := by decide +kernel
theorem d_M_read_46 : decode b_M_read 46 = .ok (.iinc 4 1, 3) := by decide +kernel
theorem d_M_read_49 : decode b_M_read 49 = .ok (.goto (-46), 3) := by decide +kernel
theorem d_M_read_52 : decode b_M_read 52 = .ok (.aload_n 0, 1) := by decide +kernel
theorem d_M_read_53 : decode b_M_read 53 = .ok (.dup, 1) := by decide +kernel
theorem d_M_read_54 : decode b_M_read 54 = .ok (.getfield 114, 3) := by decide +kernel
theorem d_M_read_57 : decode b_M_read 57 = .ok (.iload_n 1, 1) := by decide +kernel
theorem d_M_read_58 : decode b_M_read 58 = .ok (.isub, 1) := by decide +kernel
theorem d_M_read_59 : decode b_M_read 59 = .ok (.putfield 114, 3) := by decide +kernel
theorem d_M_read_62 : decode b_M_read 62 = .ok (.aload_n 0, 1) := by decide +kernel
theorem d_M_read_63 : decode b_M_read 63 = .ok (.aload_n 0, 1) := by decide +kernel
theorem d_M_read_64 : decode b_M_read 64 = .ok (.getfield 95, 3) := by decide +kernel
theorem d_M_read_67 : decode b_M_read 67 = .ok (.iload_n 1, 1) := by decide +kernel
theorem d_M_read_68 : decode b_M_read 68 = .ok (.iadd, 1) := by decide +kernel
theorem d_M_read_69 : decode b_M_read 69 = .ok (.bipush 16, 2) := by decide +kernel
theorem d_M_read_71 : decode b_M_read 71 = .ok (.irem, 1) := by decide +kernel
theorem d_M_read_72 : decode b_M_read 72 = .ok (.putfield 95, 3) := by decide +kernel
theorem d_M_read_75 : decode b_M_read 75 = .ok (.aload_n 0, 1) := by decide +kernel
theorem d_M_read_76 : decode b_M_read 76 = .ok (.iload_n 1, 1) := by decide +kernel
theorem d_M_read_77 : decode b_M_read 77 = .ok (.ifCond .le 7, 3) := by decide +kernel
theorem d_M_read_80 : decode b_M_read 80 = .ok (.iconst 1, 1) := by decide +kernel
theorem d_M_read_81 : decode b_M_read 81 = .ok (.goto 7, 3) := by decide +kernel
theorem d_M_read_84 : decode b_M_read 84 = .ok (.aload_n 0, 1) := by decide +kernel
theorem d_M_read_85 : decode b_M_read 85 = .ok (.getfield 108, 3) := by decide +kernel
theorem d_M_read_88 : decode b_M_read 88 = .ok (.putfield 108, 3) := by decide +kernel
theorem d_M_read_91 : decode b_M_read 91 = .ok (.aload_n 0, 1) := by decide +kernel
theorem d_M_read_92 : decode b_M_read 92 = .ok (.getfield 114, 3) := by decide +kernel
theorem d_M_read_95 : decode b_M_read 95 = .ok (.ifCond .ne 15, 3) := by decide +kernel
theorem d_M_read_98 : decode b_M_read 98 = .ok (.iload_n 2, 1) := by decide +kernel
theorem d_M_read_99 : decode b_M_read 99 = .ok (.ifCond .eq 11, 3) := by decide +kernel
theorem d_M_read_102 : decode b_M_read 102 = .ok (.aload_n 0, 1) := by decide +kernel
theorem d_M_read_103 : decode b_M_read 103 = .ok (.iconst 3, 1) := by decide +kernel
theorem d_M_read_104 : decode b_M_read 104 = .ok (.invokevirtual 126, 3) := by decide +kernel
theorem d_M_read_107 : decode b_M_read 107 = .ok (.goto 97, 3) := by decide +kernel
theorem d_M_read_110 : decode b_M_read 110 = .ok (.iload_n 3, 1) := by decide +kernel
theorem d_M_read_111 : decode b_M_read 111 = .ok (.ifCond .eq 16, 3) := by decide +kernel
theorem d_M_read_114 : decode b_M_read 114 = .ok (.iload_n 2, 1) := by decide +kernel
theorem d_M_read_115 : decode b_M_read 115 = .ok (.ifCond .ne 12, 3) := by decide +kernel
theorem d_M_read_118 : decode b_M_read 118 = .ok (.aload_n 0, 1) := by decide +kernel
theorem d_M_read_119 : decode b_M_read 119 = .ok (.bipush 6, 2) := by decide +kernel
theorem d_M_read_121 : decode b_M_read 121 = .ok (.invokevirtual 126, 3) := by decide +kernel
theorem d_M_read_124 : decode b_M_read 124 = .ok (.goto 80, 3) := by decide +kernel
theorem d_M_read_127 : decode b_M_read 127 = .ok (.iload_n 2, 1) := by decide +kernel
theorem d_M_read_128 : decode b_M_read 128 = .ok (.ifCond .ne 30, 3) := by decide +kernel
theorem d_M_read_131 : decode b_M_read 131 = .ok (.aload_n 0, 1) := by decide +kernel
theorem d_M_read_132 : decode b_M_read 132 = .ok (.iconst 1, 1) := by decide +kernel
theorem d_M_read_133 : decode b_M_read 133 = .ok (.putfield 81, 3) := by decide +kernel
theorem d_M_read_136 : decode b_M_read 136 = .ok (.aload_n 0, 1) := by decide +kernel
theorem d_M_read_137 : decode b_M_read 137 = .ok (.aload_n 0, 1) := by decide +kernel
theorem d_M_read_138 : decode b_M_read 138 = .ok (.getfield 114, 3) := by decide +kernel
theorem d_M_read_141 : decode b_M_read 141 = .ok (.ifCond .ne 7, 3) := by decide +kernel
theorem d_M_read_144 : decode b_M_read 144 = .ok (.iconst 0, 1) := by decide +kernel
theorem d_M_read_145 : decode b_M_read 145 = .ok (.goto 7, 3) := by decide +kernel
theorem d_M_read_148 : decode b_M_read 148 = .ok (.aload_n 0, 1) := by decide +kernel
theorem d_M_read_149 : decode b_M_read 149 = .ok (.getfield 98, 3) := by decide +kernel
theorem d_M_read_152 : decode b_M_read 152 = .ok (.putfield 98, 3) := by decide +kernel
theorem d_M_read_155 : decode b_M_read 155 = .ok (.goto 49, 3) := by decide +kernel
theorem d_M_read_158 : decode b_M_read 158 = .ok (.iload_n 3, 1) := by decide +kernel
theorem d_M_read_159 : decode b_M_read 159 = .ok (.ifCond .eq 28, 3) := by decide +kernel
theorem d_M_read_162 : decode b_M_read 162 = .ok (.aload_n 0, 1) := by decide +kernel
theorem d_M_read_163 : decode b_M_read 163 = .ok (.iconst 3, 1) := by decide +kernel
theorem d_M_read_164 : decode b_M_read 164 = .ok (.putfield 81, 3) := by decide +kernel
theorem d_M_read_167 : decode b_M_read 167 = .ok (.aload_n 0, 1) := by decide +kernel
theorem d_M_read_168 : decode b_M_read 168 = .ok (.getfield 13, 3) := by decide +kernel
theorem d_M_read_171 : decode b_M_read 171 = .ok (.iconst 1, 1) := by decide +kernel
theorem d_M_read_172 : decode b_M_read 172 = .ok (.if_icmp .ne 32, 3) := by decide +kernel
theorem d_M_read_175 : decode b_M_read 175 = .ok (.iload_n 1, 1) := by decide +kernel
theorem d_M_read_176 : decode b_M_read 176 = .ok (.ifCond .le 28, 3) := by decide +kernel
theorem d_M_read_179 : decode b_M_read 179 = .ok (.aload_n 0, 1) := by decide +kernel
theorem d_M_read_180 : decode b_M_read 180 = .ok (.iconst 1, 1) := by decide +kernel
theorem d_M_read_181 : decode b_M_read 181 = .ok (.invokevirtual 126, 3) := by decide +kernel
theorem d_M_read_184 : decode b_M_read 184 = .ok (.goto 20, 3) := by decide +kernel
theorem d_M_read_187 : decode b_M_read 187 = .ok (.aload_n 0, 1) := by decide +kernel
theorem d_M_read_188 : decode b_M_read 188 = .ok (.getfield 81, 3) := by decide +kernel
theorem d_M_read_191 : decode b_M_read 191 = .ok (.iconst 2, 1) := by decide +kernel
theorem d_M_read_192 : decode b_M_read 192 = .ok (.if_icmp .ne 7, 3) := by decide +kernel
theorem d_M_read_195 : decode b_M_read 195 = .ok (.iload_n 1, 1) := by decide +kernel
theorem d_M_read_196 : decode b_M_read 196 = .ok (.ifCond .le 8, 3) := by decide +kernel
theorem d_M_read_199 : decode b_M_read 199 = .ok (.aload_n 0, 1) := by decide +kernel
theorem d_M_read_200 : decode b_M_read 200 = .ok (.iconst 2, 1) := by decide +kernel
theorem d_M_read_201 : decode b_M_read 201 = .ok (.invokevirtual 133, 3) := by decide +kernel
theorem d_M_read_204 : decode b_M_read 204 = .ok (.return_, 1) := by decide +kernel
theorem d_M_puts_0 : decode b_M_puts 0 = .ok (.aload_n 0, 1) := by decide +kernel
theorem d_M_puts_1 : decode b_M_puts 1 = .ok (.getfield 48, 3) := by decide +kernel
theorem d_M_puts_4 : decode b_M_puts 4 = .ok (.bipush 64, 2) := by decide +kernel
theorem d_M_puts_6 : decode b_M_puts 6 = .ok (.iload_n 1, 1) := by decide +kernel
theorem d_M_puts_7 : decode b_M_puts 7 = .ok (.imul, 1) := by decide +kernel
theorem d_M_puts_8 : decode b_M_puts 8 = .ok (.aload_n 0, 1) := by decide +kernel
theorem d_M_puts_9 : decode b_M_puts 9 = .ok (.getfield 42, 3) := by decide +kernel
theorem d_M_puts_12 : decode b_M_puts 12 = .ok (.iload_n 1, 1) := by decide +kernel
theorem d_M_puts_13 : decode b_M_puts 13 = .ok (.iaload, 1) := by decide +kernel
theorem d_M_puts_14 : decode b_M_puts 14 = .ok (.aload_n 0, 1) := by decide +kernel
theorem d_M_puts_15 : decode b_M_puts 15 = .ok (.getfield 45, 3) := by decide +kernel
theorem d_M_puts_18 : decode b_M_puts 18 = .ok (.iload_n 1, 1) := by decide +kernel
theorem d_M_puts_19 : decode b_M_puts 19 = .ok (.iaload, 1) := by decide +kernel
theorem d_M_puts_20 : decode b_M_puts 20 = .ok (.iadd, 1) := by decide +kernel
theorem d_M_puts_21 : decode b_M_puts 21 = .ok (.bipush 64, 2) := by decide +kernel
theorem d_M_puts_23 : decode b_M_puts 23 = .ok (.irem, 1) := by decide +kernel
theorem d_M_puts_24 : decode b_M_puts 24 = .ok (.iadd, 1) := by decide +kernel
theorem d_M_puts_25 : decode b_M_puts 25 = .ok (.iload_n 2, 1) := by decide +kernel
theorem d_M_puts_26 : decode b_M_puts 26 = .ok (.iastore, 1) := by decide +kernel
theorem d_M_puts_27 : decode b_M_puts 27 = .ok (.aload_n 0, 1) := by decide +kernel
theorem d_M_puts_28 : decode b_M_puts 28 = .ok (.getfield 45, 3) := by decide +kernel
theorem d_M_puts_31 : decode b_M_puts 31 = .ok (.iload_n 1, 1) := by decide +kernel
theorem d_M_puts_32 : decode b_M_puts 32 = .ok (.dup2, 1) := by decide +kernel
theorem d_M_puts_33 : decode b_M_puts 33 = .ok (.iaload, 1) := by decide +kernel
theorem d_M_puts_34 : decode b_M_puts 34 = .ok (.iconst 1, 1) := by decide +kernel
theorem d_M_puts_35 : decode b_M_puts 35 = .ok (.iadd, 1) := by decide +kernel
theorem d_M_puts_36 : decode b_M_puts 36 = .ok (.iastore, 1) := by decide +kernel
theorem d_M_puts_37 : decode b_M_puts 37 = .ok (.return_, 1) := by decide +kernel
theorem d_M_packet_0 : decode b_M_packet 0 = .ok (.aload_n 0, 1) := by decide +kernel
theorem d_M_packet_1 : decode b_M_packet 1 = .ok (.iload_n 1, 1) := by decide +kernel
theorem d_M_packet_2 : decode b_M_packet 2 = .ok (.iconst 0, 1) := by decide +kernel
theorem d_M_packet_3 : decode b_M_packet 3 = .ok (.iconst 1, 1) := by decide +kernel
theorem d_M_packet_4 : decode b_M_packet 4 = .ok (.invokestatic 84, 3) := by decide +kernel
theorem d_M_packet_7 : decode b_M_packet 7 = .ok (.ifCond .ne 23, 3) := by decide +kernel
theorem d_M_packet_10 : decode b_M_packet 10 = .ok (.iload_n 2, 1) := by decide +kernel
theorem d_M_packet_11 : decode b_M_packet 11 = .ok (.iconst 1, 1) := by decide +kernel
theorem d_M_packet_12 : decode b_M_packet 12 = .ok (.bipush 99, 2) := by decide +kernel
theorem d_M_packet_14 : decode b_M_packet 14 = .ok (.invokestatic 84, 3) := by decide +kernel
theorem d_M_packet_17 : decode b_M_packet 17 = .ok (.ifCond .ne 13, 3) := by decide +kernel
theorem d_M_packet_20 : decode b_M_packet 20 = .ok (.iload_n 3, 1) := by decide +kernel
theorem d_M_packet_21 : decode b_M_packet 21 = .ok (.iconst 0, 1) := by decide +kernel
theorem d_M_packet_22 : decode b_M_packet 22 = .ok (.bipush 20, 2) := by decide +kernel
theorem d_M_packet_24 : decode b_M_packet 24 = .ok (.invokestatic 84, 3) := by decide +kernel
theorem d_M_packet_27 : decode b_M_packet 27 = .ok (.ifCond .eq 7, 3) := by decide +kernel
theorem d_M_packet_30 : decode b_M_packet 30 = .ok (.iconst 1, 1) := by decide +kernel
theorem d_M_packet_31 : decode b_M_packet 31 = .ok (.goto 4, 3) := by decide +kernel
theorem d_M_packet_34 : decode b_M_packet 34 = .ok (.iconst 0, 1) := by decide +kernel
theorem d_M_packet_35 : decode b_M_packet 35 = .ok (.iconst 0, 1) := by decide +kernel
theorem d_M_packet_36 : decode b_M_packet 36 = .ok (.invokevirtual 88, 3) := by decide +kernel
theorem d_M_packet_39 : decode b_M_packet 39 = .ok (.ifCond .ne 18, 3) := by decide +kernel
theorem d_M_packet_42 : decode b_M_packet 42 = .ok (.aload_n 0, 1) := by decide +kernel
theorem d_M_packet_43 : decode b_M_packet 43 = .ok (.getfield 45, 3) := by decide +kernel
theorem d_M_packet_46 : decode b_M_packet 46 = .ok (.iload_n 1, 1) := by decide +kernel
theorem d_M_packet_47 : decode b_M_packet 47 = .ok (.iaload, 1) := by decide +kernel
theorem d_M_packet_48 : decode b_M_packet 48 = .ok (.iconst 2, 1) := by decide +kernel
theorem d_M_packet_49 : decode b_M_packet 49 = .ok (.iadd, 1) := by decide +kernel
theorem d_M_packet_50 : decode b_M_packet 50 = .ok (.iload_n 3, 1) := by decide +kernel
theorem d_M_packet_51 : decode b_M_packet 51 = .ok (.iadd, 1) := by decide +kernel
theorem d_M_packet_52 : decode b_M_packet 52 = .ok (.bipush 60, 2) := by decide +kernel
theorem d_M_packet_54 : decode b_M_packet 54 = .ok (.if_icmp .le 5, 3) := by decide +kernel
theorem d_M_packet_57 : decode b_M_packet 57 = .ok (.iconst 0, 1) := by decide +kernel
theorem d_M_packet_58 : decode b_M_packet 58 = .ok (.ireturn, 1) := by decide +kernel
theorem d_M_packet_59 : decode b_M_packet 59 = .ok (.aload_n 0, 1) := by decide +kernel
theorem d_M_packet_60 : decode b_M_packet 60 = .ok (.iload_n 1, 1) := by decide +kernel
theorem d_M_packet_61 : decode b_M_packet 61 = .ok (.iconst (-1), 1) := by decide +kernel
theorem d_M_packet_62 : decode b_M_packet 62 = .ok (.iload_n 2, 1) := by decide +kernel
theorem d_M_packet_63 : decode b_M_packet 63 = .ok (.isub, 1) := by decide +kernel
theorem d_M_packet_64 : decode b_M_packet 64 = .ok (.invokevirtual 169, 3) := by decide +kernel
theorem d_M_packet_67 : decode b_M_packet 67 = .ok (.aload_n 0, 1) := by decide +kernel
theorem d_M_packet_68 : decode b_M_packet 68 = .ok (.iload_n 1, 1) := by decide +kernel
theorem d_M_packet_69 : decode b_M_packet 69 = .ok (.iload_n 3, 1) := by decide +kernel
theorem d_M_packet_70 : decode b_M_packet 70 = .ok (.invokevirtual 169, 3) := by decide +kernel
theorem d_M_packet_73 : decode b_M_packet 73 = .ok (.iconst 0, 1) := by decide +kernel
theorem d_M_packet_74 : decode b_M_packet 74 = .ok (.istore 4, 2) := by decide +kernel
theorem d_M_packet_76 : decode b_M_packet 76 = .ok (.iload 4, 2) := by decide +kernel
theorem d_M_packet_78 : decode b_M_packet 78 = .ok (.iload_n 3, 1) := by decide +kernel
theorem d_M_packet_79 : decode b_M_packet 79 = .ok (.if_icmp .ge 21, 3) := by decide +kernel
theorem d_M_packet_82 : decode b_M_packet 82 = .ok (.aload_n 0, 1) := by decide +kernel
theorem d_M_packet_83 : decode b_M_packet 83 = .ok (.iload_n 1, 1) := by decide +kernel
theorem d_M_packet_84 : decode b_M_packet 84 = .ok (.iload_n 2, 1) := by decide +kernel
theorem d_M_packet_85 : decode b_M_packet 85 = .ok (.bipush 7, 2) := by decide +kernel
theorem d_M_packet_87 : decode b_M_packet 87 = .ok (.imul, 1) := by decide +kernel
theorem d_M_packet_88 : decode b_M_packet 88 = .ok (.iload 4, 2) := by decide +kernel
theorem d_M_packet_90 : decode b_M_packet 90 = .ok (.iadd, 1) := by decide +kernel
theorem d_M_packet_91 : decode b_M_packet 91 = .ok (.invokevirtual 169, 3) := by decide +kernel
theorem d_M_packet_94 : decode b_M_packet 94 = .ok (.iinc 4 1, 3) := by decide +kernel
theorem d_M_packet_97 : decode b_M_packet 97 = .ok (.goto (-21), 3) := by decide +kernel
theorem d_M_packet_100 : decode b_M_packet 100 = .ok (.iconst 1, 1) := by decide +kernel
theorem d_M_packet_101 : decode b_M_packet 101 = .ok (.ireturn, 1) := by decide +kernel
theorem d_M_frame_0 : decode b_M_frame 0 = .ok (.aload_n 0, 1) := by decide +kernel
theorem d_M_frame_1 : decode b_M_frame 1 = .ok (.iload_n 1, 1) := by decide +kernel
theorem d_M_frame_2 : decode b_M_frame 2 = .ok (.iconst 0, 1) := by decide +kernel
theorem d_M_frame_3 : decode b_M_frame 3 = .ok (.iconst 1, 1) := by decide +kernel
theorem d_M_frame_4 : decode b_M_frame 4 = .ok (.invokestatic 84, 3) := by decide +kernel
theorem d_M_frame_7 : decode b_M_frame 7 = .ok (.iconst 0, 1) := by decide +kernel
theorem d_M_frame_8 : decode b_M_frame 8 = .ok (.invokevirtual 88, 3) := by decide +kernel
theorem d_M_frame_11 : decode b_M_frame 11 = .ok (.ifCond .eq 5, 3) := by decide +kernel
theorem d_M_frame_14 : decode b_M_frame 14 = .ok (.iconst 0, 1) := by decide +kernel
theorem d_M_frame_15 : decode b_M_frame 15 = .ok (.ireturn, 1) := by decide +kernel
theorem d_M_frame_16 : decode b_M_frame 16 = .ok (.aload_n 0, 1) := by decide +kernel
theorem d_M_frame_17 : decode b_M_frame 17 = .ok (.getfield 45, 3) := by decide +kernel
theorem d_M_frame_20 : decode b_M_frame 20 = .ok (.iload_n 1, 1) := by decide +kernel
theorem d_M_frame_21 : decode b_M_frame 21 = .ok (.iaload, 1) := by decide +kernel
theorem d_M_frame_22 : decode b_M_frame 22 = .ok (.bipush 6, 2) := by decide +kernel
theorem d_M_frame_24 : decode b_M_frame 24 = .ok (.if_icmp .ge 59, 3) := by decide +kernel
theorem d_M_frame_27 : decode b_M_frame 27 = .ok (.aload_n 0, 1) := by decide +kernel
theorem d_M_frame_28 : decode b_M_frame 28 = .ok (.getfield 45, 3) := by decide +kernel
theorem d_M_frame_31 : decode b_M_frame 31 = .ok (.iload_n 1, 1) := by decide +kernel
theorem d_M_frame_32 : decode b_M_frame 32 = .ok (.iaload, 1) := by decide +kernel
theorem d_M_frame_33 : decode b_M_frame 33 = .ok (.iconst 5, 1) := by decide +kernel
theorem d_M_frame_34 : decode b_M_frame 34 = .ok (.if_icmp .ge 14, 3) := by decide +kernel
theorem d_M_frame_37 : decode b_M_frame 37 = .ok (.iconst 4, 1) := by decide +kernel
theorem d_M_frame_38 : decode b_M_frame 38 = .ok (.aload_n 0, 1) := by decide +kernel
theorem d_M_frame_39 : decode b_M_frame 39 = .ok (.getfield 45, 3) := by decide +kernel
theorem d_M_frame_42 : decode b_M_frame 42 = .ok (.iload_n 1, 1) := by decide +kernel
theorem d_M_frame_43 : decode b_M_frame 43 = .ok (.iaload, 1) := by decide +kernel
theorem d_M_frame_44 : decode b_M_frame 44 = .ok (.isub, 1) := by decide +kernel
theorem d_M_frame_45 : decode b_M_frame 45 = .ok (.goto 4, 3) := by decide +kernel
theorem d_M_frame_48 : decode b_M_frame 48 = .ok (.iconst 0, 1) := by decide +kernel
theorem d_M_frame_49 : decode b_M_frame 49 = .ok (.istore_n 3, 1) := by decide +kernel
theorem d_M_frame_50 : decode b_M_frame 50 = .ok (.aload_n 0, 1) := by decide +kernel
theorem d_M_frame_51 : decode b_M_frame 51 = .ok (.iload_n 1, 1) := by decide +kernel
theorem d_M_frame_52 : decode b_M_frame 52 = .ok (.iconst (-1), 1) := by decide +kernel
theorem d_M_frame_53 : decode b_M_frame 53 = .ok (.invokevirtual 169, 3) := by decide +kernel
theorem d_M_frame_56 : decode b_M_frame 56 = .ok (.aload_n 0, 1) := by decide +kernel
theorem d_M_frame_57 : decode b_M_frame 57 = .ok (.iload_n 1, 1) := by decide +kernel
theorem d_M_frame_58 : decode b_M_frame 58 = .ok (.iload_n 3, 1) := by decide +kernel
theorem d_M_frame_59 : decode b_M_frame 59 = .ok (.invokevirtual 169, 3) := by decide +kernel
theorem d_M_frame_62 : decode b_M_frame 62 = .ok (.iconst 0, 1) := by decide +kernel
theorem d_M_frame_63 : decode b_M_frame 63 = .ok (.istore 4, 2) := by decide +kernel
theorem d_M_frame_65 : decode b_M_frame 65 = .ok (.iload 4, 2) := by decide +kernel
theorem d_M_frame_67 : decode b_M_frame 67 = .ok (.iload_n 3, 1) := by decide +kernel
theorem d_M_frame_68 : decode b_M_frame 68 = .ok (.if_icmp .ge 15, 3) := by decide +kernel
theorem d_M_frame_71 : decode b_M_frame 71 = .ok (.aload_n 0, 1) := by decide +kernel
theorem d_M_frame_72 : decode b_M_frame 72 = .ok (.iload_n 1, 1) := by decide +kernel
theorem d_M_frame_73 : decode b_M_frame 73 = .ok (.iconst 0, 1) := by decide +kernel
theorem d_M_frame_74 : decode b_M_frame 74 = .ok (.invokevirtual 169, 3) := by decide +kernel
theorem d_M_frame_77 : decode b_M_frame 77 = .ok (.iinc 4 1, 3) := by decide +kernel
theorem d_M_frame_80 : decode b_M_frame 80 = .ok (.goto (-15), 3) := by decide +kernel
theorem d_M_frame_83 : decode b_M_frame 83 = .ok (.bipush 6, 2) := by decide +kernel
theorem d_M_frame_85 : decode b_M_frame 85 = .ok (.istore_n 3, 1) := by decide +kernel
theorem d_M_frame_86 : decode b_M_frame 86 = .ok (.iconst 5, 1) := by decide +kernel
theorem d_M_frame_87 : decode b_M_frame 87 = .ok (.istore 4, 2) := by decide +kernel
theorem d_M_frame_89 : decode b_M_frame 89 = .ok (.iload 4, 2) := by decide +kernel
theorem d_M_frame_91 : decode b_M_frame 91 = .ok (.ifCond .lt 55, 3) := by decide +kernel
theorem d_M_frame_94 : decode b_M_frame 94 = .ok (.aload_n 0, 1) := by decide +kernel
theorem d_M_frame_95 : decode b_M_frame 95 = .ok (.getfield 72, 3) := by decide +kernel
theorem d_M_frame_98 : decode b_M_frame 98 = .ok (.iload 4, 2) := by decide +kernel
theorem d_M_frame_100 : decode b_M_frame 100 = .ok (.aload_n 0, 1) := by decide +kernel
theorem d_M_frame_101 : decode b_M_frame 101 = .ok (.getfield 48, 3) := by decide +kernel
theorem d_M_frame_104 : decode b_M_frame 104 = .ok (.bipush 64, 2) := by decide +kernel
theorem d_M_frame_106 : decode b_M_frame 106 = .ok (.iload_n 1, 1) := by decide +kernel
theorem d_M_frame_107 : decode b_M_frame 107 = .ok (.imul, 1) := by decide +kernel
theorem d_M_frame_108 : decode b_M_frame 108 = .ok (.aload_n 0, 1) := by decide +kernel
theorem d_M_frame_109 : decode b_M_frame 109 = .ok (.getfield 42, 3) := by decide +kernel
theorem d_M_frame_112 : decode b_M_frame 112 = .ok (.iload_n 1, 1) := by decide +kernel
theorem d_M_frame_113 : decode b_M_frame 113 = .ok (.iaload, 1) := by decide +kernel
theorem d_M_frame_114 : decode b_M_frame 114 = .ok (.iload 4, 2) := by decide +kernel
theorem d_M_frame_116 : decode b_M_frame 116 = .ok (.iadd, 1) := by decide +kernel
theorem d_M_frame_117 : decode b_M_frame 117 = .ok (.bipush 64, 2) := by decide +kernel
theorem d_M_frame_119 : decode b_M_frame 119 = .ok (.irem, 1) := by decide +kernel
theorem d_M_frame_120 : decode b_M_frame 120 = .ok (.iadd, 1) := by decide +kernel
theorem d_M_frame_121 : decode b_M_frame 121 = .ok (.iaload, 1) := by decide +kernel
theorem d_M_frame_122 : decode b_M_frame 122 = .ok (.iastore, 1) := by decide +kernel
theorem d_M_frame_123 : decode b_M_frame 123 = .ok (.aload_n 0, 1) := by decide +kernel
theorem d_M_frame_124 : decode b_M_frame 124 = .ok (.getfield 72, 3) := by decide +kernel
theorem d_M_frame_127 : decode b_M_frame 127 = .ok (.iload 4, 2) := by decide +kernel
theorem d_M_frame_129 : decode b_M_frame 129 = .ok (.iaload, 1) := by decide +kernel
theorem d_M_frame_130 : decode b_M_frame 130 = .ok (.ifCond .ge 8, 3) := by decide +kernel
theorem d_M_frame_133 : decode b_M_frame 133 = .ok (.iload 4, 2) := by decide +kernel
theorem d_M_frame_135 : decode b_M_frame 135 = .ok (.goto 4, 3) := by decide +kernel
theorem d_M_frame_138 : decode b_M_frame 138 = .ok (.iload_n 3, 1) := by decide +kernel
theorem d_M_frame_139 : decode b_M_frame 139 = .ok (.istore_n 3, 1) := by decide +kernel
theorem d_M_frame_140 : decode b_M_frame 140 = .ok (.iinc 4 (-1), 3) := by decide +kernel
theorem d_M_frame_143 : decode b_M_frame 143 = .ok (.goto (-54), 3) := by decide +kernel
theorem d_M_frame_146 : decode b_M_frame 146 = .ok (.aload_n 0, 1) := by decide +kernel
theorem d_M_frame_147 : decode b_M_frame 147 = .ok (.getfield 42, 3) := by decide +kernel
theorem d_M_frame_150 : decode b_M_frame 150 = .ok (.iload_n 1, 1) := by decide +kernel
theorem d_M_frame_151 : decode b_M_frame 151 = .ok (.aload_n 0, 1) := by decide +kernel
theorem d_M_frame_152 : decode b_M_frame 152 = .ok (.getfield 42, 3) := by decide +kernel
theorem d_M_frame_155 : decode b_M_frame 155 = .ok (.iload_n 1, 1) := by decide +kernel
theorem d_M_frame_156 : decode b_M_frame 156 = .ok (.iaload, 1) := by decide +kernel
theorem d_M_frame_157 : decode b_M_frame 157 = .ok (.bipush 6, 2) := by decide +kernel
theorem d_M_frame_159 : decode b_M_frame 159 = .ok (.iadd, 1) := by decide +kernel
theorem d_M_frame_160 : decode b_M_frame 160 = .ok (.bipush 64, 2) := by decide +kernel
theorem d_M_frame_162 : decode b_M_frame 162 = .ok (.irem, 1) := by decide +kernel
theorem d_M_frame_163 : decode b_M_frame 163 = .ok (.iastore, 1) := by decide +kernel
theorem d_M_frame_164 : decode b_M_frame 164 = .ok (.aload_n 0, 1) := by decide +kernel
theorem d_M_frame_165 : decode b_M_frame 165 = .ok (.getfield 45, 3) := by decide +kernel
theorem d_M_frame_168 : decode b_M_frame 168 = .ok (.iload_n 1, 1) := by decide +kernel
theorem d_M_frame_169 : decode b_M_frame 169 = .ok (.dup2, 1) := by decide +kernel
theorem d_M_frame_170 : decode b_M_frame 170 = .ok (.iaload, 1) := by decide +kernel
theorem d_M_frame_171 : decode b_M_frame 171 = .ok (.bipush 6, 2) := by decide +kernel
theorem d_M_frame_173 : decode b_M_frame 173 = .ok (.isub, 1) := by decide +kernel
theorem d_M_frame_174 : decode b_M_frame 174 = .ok (.iastore, 1) := by decide +kernel
theorem d_M_frame_175 : decode b_M_frame 175 = .ok (.aload_n 0, 1) := by decide +kernel
theorem d_M_frame_176 : decode b_M_frame 176 = .ok (.getfield 51, 3) := by decide +kernel
theorem d_M_frame_179 : decode b_M_frame 179 = .ok (.iload_n 1, 1) := by decide +kernel
theorem d_M_frame_180 : decode b_M_frame 180 = .ok (.iaload, 1) := by decide +kernel
theorem d_M_frame_181 : decode b_M_frame 181 = .ok (.istore 4, 2) := by decide +kernel
theorem d_M_frame_183 : decode b_M_frame 183 = .ok (.aload_n 0, 1) := by decide +kernel
theorem d_M_frame_184 : decode b_M_frame 184 = .ok (.getfield 51, 3) := by decide +kernel
theorem d_M_frame_187 : decode b_M_frame 187 = .ok (.iload_n 1, 1) := by decide +kernel
theorem d_M_frame_188 : decode b_M_frame 188 = .ok (.iload 4, 2) := by decide +kernel
theorem d_M_frame_190 : decode b_M_frame 190 = .ok (.iconst 1, 1) := by decide +kernel
theorem d_M_frame_191 : decode b_M_frame 191 = .ok (.iadd, 1) := by decide +kernel
theorem d_M_frame_192 : decode b_M_frame 192 = .ok (.bipush 16, 2) := by decide +kernel
theorem d_M_frame_194 : decode b_M_frame 194 = .ok (.irem, 1) := by decide +kernel
theorem d_M_frame_195 : decode b_M_frame 195 = .ok (.iastore, 1) := by decide +kernel
theorem d_M_frame_196 : decode b_M_frame 196 = .ok (.iload_n 2, 1) := by decide +kernel
theorem d_M_frame_197 : decode b_M_frame 197 = .ok (.ifCond .ne 11, 3) := by decide +kernel
theorem d_M_frame_200 : decode b_M_frame 200 = .ok (.aload_n 0, 1) := by decide +kernel
theorem d_M_frame_201 : decode b_M_frame 201 = .ok (.iload_n 1, 1) := by decide +kernel
theorem d_M_frame_202 : decode b_M_frame 202 = .ok (.iload 4, 2) := by decide +kernel
theorem d_M_frame_204 : decode b_M_frame 204 = .ok (.iload_n 3, 1) := by decide +kernel
theorem d_M_frame_205 : decode b_M_frame 205 = .ok (.invokevirtual 172, 3) := by decide +kernel
theorem d_M_frame_208 : decode b_M_frame 208 = .ok (.iload_n 3, 1) := by decide +kernel
theorem d_M_frame_209 : decode b_M_frame 209 = .ok (.ireturn, 1) := by decide +kernel
theorem d_M_comesDown_0 : decode b_M_comesDown 0 = .ok (.aload_n 0, 1) := by decide +kernel
theorem d_M_comesDown_1 : decode b_M_comesDown 1 = .ok (.getfield 57, 3) := by decide +kernel
theorem d_M_comesDown_4 : decode b_M_comesDown 4 = .ok (.iload_n 1, 1) := by decide +kernel
theorem d_M_comesDown_5 : decode b_M_comesDown 5 = .ok (.baload, 1) := by decide +kernel
theorem d_M_comesDown_6 : decode b_M_comesDown 6 = .ok (.ifCond .ne 17, 3) := by decide +kernel
theorem d_M_comesDown_9 : decode b_M_comesDown 9 = .ok (.iload_n 2, 1) := by decide +kernel
theorem d_M_comesDown_10 : decode b_M_comesDown 10 = .ok (.aload_n 0, 1) := by decide +kernel
theorem d_M_comesDown_11 : decode b_M_comesDown 11 = .ok (.getfield 54, 3) := by decide +kernel
theorem d_M_comesDown_14 : decode b_M_comesDown 14 = .ok (.iload_n 1, 1) := by decide +kernel
theorem d_M_comesDown_15 : decode b_M_comesDown 15 = .ok (.iaload, 1) := by decide +kernel
theorem d_M_comesDown_16 : decode b_M_comesDown 16 = .ok (.if_icmp .ne 7, 3) := by decide +kernel
theorem d_M_comesDown_19 : decode b_M_comesDown 19 = .ok (.iconst 1, 1) := by decide +kernel
theorem d_M_comesDown_20 : decode b_M_comesDown 20 = .ok (.goto 4, 3) := by decide +kernel
theorem d_M_comesDown_23 : decode b_M_comesDown 23 = .ok (.iconst 0, 1) := by decide +kernel
theorem d_M_comesDown_24 : decode b_M_comesDown 24 = .ok (.istore 4, 2) := by decide +kernel
theorem d_M_comesDown_26 : decode b_M_comesDown 26 = .ok (.aload_n 0, 1) := by decide +kernel
theorem d_M_comesDown_27 : decode b_M_comesDown 27 = .ok (.getfield 54, 3) := by decide +kernel
theorem d_M_comesDown_30 : decode b_M_comesDown 30 = .ok (.iload_n 1, 1) := by decide +kernel
theorem d_M_comesDown_31 : decode b_M_comesDown 31 = .ok (.iload_n 2, 1) := by decide +kernel
theorem d_M_comesDown_32 : decode b_M_comesDown 32 = .ok (.iconst 1, 1) := by decide +kernel
theorem d_M_comesDown_33 : decode b_M_comesDown 33 = .ok (.iadd, 1) := by decide +kernel
theorem d_M_comesDown_34 : decode b_M_comesDown 34 = .ok (.bipush 16, 2) := by decide +kernel
theorem d_M_comesDown_36 : decode b_M_comesDown 36 = .ok (.irem, 1) := by decide +kernel
theorem d_M_comesDown_37 : decode b_M_comesDown 37 = .ok (.iastore, 1) := by decide +kernel
theorem d_M_comesDown_38 : decode b_M_comesDown 38 = .ok (.iload 4, 2) := by decide +kernel
theorem d_M_comesDown_40 : decode b_M_comesDown 40 = .ok (.ifCond .ne 27, 3) := by decide +kernel
theorem d_M_comesDown_43 : decode b_M_comesDown 43 = .ok (.aload_n 0, 1) := by decide +kernel
theorem d_M_comesDown_44 : decode b_M_comesDown 44 = .ok (.getfield 60, 3) := by decide +kernel
theorem d_M_comesDown_47 : decode b_M_comesDown 47 = .ok (.iload_n 1, 1) := by decide +kernel
theorem d_M_comesDown_48 : decode b_M_comesDown 48 = .ok (.iconst 0, 1) := by decide +kernel
theorem d_M_comesDown_49 : decode b_M_comesDown 49 = .ok (.iastore, 1) := by decide +kernel
theorem d_M_comesDown_50 : decode b_M_comesDown 50 = .ok (.aload_n 0, 1) := by decide +kernel
theorem d_M_comesDown_51 : decode b_M_comesDown 51 = .ok (.getfield 57, 3) := by decide +kernel
theorem d_M_comesDown_54 : decode b_M_comesDown 54 = .ok (.iload_n 1, 1) := by decide +kernel
theorem d_M_comesDown_55 : decode b_M_comesDown 55 = .ok (.iload_n 3, 1) := by decide +kernel
theorem d_M_comesDown_56 : decode b_M_comesDown 56 = .ok (.bipush 6, 2) := by decide +kernel
theorem d_M_comesDown_58 : decode b_M_comesDown 58 = .ok (.if_icmp .ne 7, 3) := by decide +kernel
theorem d_M_comesDown_61 : decode b_M_comesDown 61 = .ok (.iconst 1, 1) := by decide +kernel
theorem d_M_comesDown_62 : decode b_M_comesDown 62 = .ok (.goto 4, 3) := by decide +kernel
theorem d_M_comesDown_65 : decode b_M_comesDown 65 = .ok (.iconst 0, 1) := by decide +kernel
theorem d_M_comesDown_66 : decode b_M_comesDown 66 = .ok (.bastore, 1) := by decide +kernel
theorem d_M_comesDown_67 : decode b_M_comesDown 67 = .ok (.iload 4, 2) := by decide +kernel
theorem d_M_comesDown_69 : decode b_M_comesDown 69 = .ok (.ifCond .eq 7, 3) := by decide +kernel
theorem d_M_comesDown_72 : decode b_M_comesDown 72 = .ok (.iconst 0, 1) := by decide +kernel
theorem d_M_comesDown_73 : decode b_M_comesDown 73 = .ok (.goto 4, 3) := by decide +kernel
theorem d_M_comesDown_76 : decode b_M_comesDown 76 = .ok (.iload_n 3, 1) := by decide +kernel
theorem d_M_comesDown_77 : decode b_M_comesDown 77 = .ok (.istore 5, 2) := by decide +kernel
theorem d_M_comesDown_79 : decode b_M_comesDown 79 = .ok (.iload 5, 2) := by decide +kernel
theorem d_M_comesDown_81 : decode b_M_comesDown 81 = .ok (.bipush 6, 2) := by decide +kernel
theorem d_M_comesDown_83 : decode b_M_comesDown 83 = .ok (.if_icmp .ge 43, 3) := by decide +kernel
theorem d_M_comesDown_86 : decode b_M_comesDown 86 = .ok (.aload_n 0, 1) := by decide +kernel
theorem d_M_comesDown_87 : decode b_M_comesDown 87 = .ok (.iload_n 1, 1) := by decide +kernel
theorem d_M_comesDown_88 : decode b_M_comesDown 88 = .ok (.aload_n 0, 1) := by decide +kernel
theorem d_M_comesDown_89 : decode b_M_comesDown 89 = .ok (.getfield 72, 3) := by decide +kernel
theorem d_M_comesDown_92 : decode b_M_comesDown 92 = .ok (.iload 5, 2) := by decide +kernel
theorem d_M_comesDown_94 : decode b_M_comesDown 94 = .ok (.iaload, 1) := by decide +kernel
theorem d_M_comesDown_95 : decode b_M_comesDown 95 = .ok (.ifCond .ge 15, 3) := by decide +kernel
theorem d_M_comesDown_98 : decode b_M_comesDown 98 = .ok (.iconst (-1), 1) := by decide +kernel
theorem d_M_comesDown_99 : decode b_M_comesDown 99 = .ok (.aload_n 0, 1) := by decide +kernel
theorem d_M_comesDown_100 : decode b_M_comesDown 100 = .ok (.getfield 72, 3) := by decide +kernel
theorem d_M_comesDown_103 : decode b_M_comesDown 103 = .ok (.iload 5, 2) := by decide +kernel
theorem d_M_comesDown_105 : decode b_M_comesDown 105 = .ok (.iaload, 1) := by decide +kernel
theorem d_M_comesDown_106 : decode b_M_comesDown 106 = .ok (.isub, 1) := by decide +kernel
theorem d_M_comesDown_107 : decode b_M_comesDown 107 = .ok (.goto 10, 3) := by decide +kernel
theorem d_M_comesDown_110 : decode b_M_comesDown 110 = .ok (.aload_n 0, 1) := by decide +kernel
theorem d_M_comesDown_111 : decode b_M_comesDown 111 = .ok (.getfield 72, 3) := by decide +kernel
theorem d_M_comesDown_114 : decode b_M_comesDown 114 = .ok (.iload 5, 2) := by decide +kernel
theorem d_M_comesDown_116 : decode b_M_comesDown 116 = .ok (.iaload, 1) := by decide +kernel
theorem d_M_comesDown_117 : decode b_M_comesDown 117 = .ok (.invokevirtual 176, 3) := by decide +kernel
theorem d_M_comesDown_120 : decode b_M_comesDown 120 = .ok (.iinc 5 1, 3) := by decide +kernel
theorem d_M_comesDown_123 : decode b_M_comesDown 123 = .ok (.goto (-44), 3) := by decide +kernel
theorem d_M_comesDown_126 : decode b_M_comesDown 126 = .ok (.return_, 1) := by decide +kernel
theorem d_M_readCell_0 : decode b_M_readCell 0 = .ok (.aload_n 0, 1) := by decide +kernel
theorem d_M_readCell_1 : decode b_M_readCell 1 = .ok (.getfield 60, 3) := by decide +kernel
theorem d_M_readCell_4 : decode b_M_readCell 4 = .ok (.iload_n 1, 1) := by decide +kernel
theorem d_M_readCell_5 : decode b_M_readCell 5 = .ok (.iaload, 1) := by decide +kernel
theorem d_M_readCell_6 : decode b_M_readCell 6 = .ok (.ifCond .ne 20, 3) := by decide +kernel
theorem d_M_readCell_9 : decode b_M_readCell 9 = .ok (.aload_n 0, 1) := by decide +kernel
theorem d_M_readCell_10 : decode b_M_readCell 10 = .ok (.getfield 63, 3) := by decide +kernel
theorem d_M_readCell_13 : decode b_M_readCell 13 = .ok (.iload_n 1, 1) := by decide +kernel
theorem d_M_readCell_14 : decode b_M_readCell 14 = .ok (.iload_n 2, 1) := by decide +kernel
theorem d_M_readCell_15 : decode b_M_readCell 15 = .ok (.iastore, 1) := by decide +kernel
theorem d_M_readCell_16 : decode b_M_readCell 16 = .ok (.aload_n 0, 1) := by decide +kernel
theorem d_M_readCell_17 : decode b_M_readCell 17 = .ok (.getfield 69, 3) := by decide +kernel
theorem d_M_readCell_20 : decode b_M_readCell 20 = .ok (.iload_n 1, 1) := by decide +kernel
theorem d_M_readCell_21 : decode b_M_readCell 21 = .ok (.iconst 0, 1) := by decide +kernel
theorem d_M_readCell_22 : decode b_M_readCell 22 = .ok (.iastore, 1) := by decide +kernel
theorem d_M_readCell_23 : decode b_M_readCell 23 = .ok (.goto 33, 3) := by decide +kernel
theorem d_M_readCell_26 : decode b_M_readCell 26 = .ok (.aload_n 0, 1) := by decide +kernel
theorem d_M_readCell_27 : decode b_M_readCell 27 = .ok (.getfield 60, 3) := by decide +kernel
theorem d_M_readCell_30 : decode b_M_readCell 30 = .ok (.iload_n 1, 1) := by decide +kernel
theorem d_M_readCell_31 : decode b_M_readCell 31 = .ok (.iaload, 1) := by decide +kernel
theorem d_M_readCell_32 : decode b_M_readCell 32 = .ok (.iconst 1, 1) := by decide +kernel
theorem d_M_readCell_33 : decode b_M_readCell 33 = .ok (.if_icmp .ne 13, 3) := by decide +kernel
theorem d_M_readCell_36 : decode b_M_readCell 36 = .ok (.aload_n 0, 1) := by decide +kernel
theorem d_M_readCell_37 : decode b_M_readCell 37 = .ok (.getfield 66, 3) := by decide +kernel
theorem d_M_readCell_40 : decode b_M_readCell 40 = .ok (.iload_n 1, 1) := by decide +kernel
theorem d_M_readCell_41 : decode b_M_readCell 41 = .ok (.iload_n 2, 1) := by decide +kernel
theorem d_M_readCell_42 : decode b_M_readCell 42 = .ok (.iastore, 1) := by decide +kernel
theorem d_M_readCell_43 : decode b_M_readCell 43 = .ok (.goto 13, 3) := by decide +kernel
theorem d_M_readCell_46 : decode b_M_readCell 46 = .ok (.aload_n 0, 1) := by decide +kernel
theorem d_M_readCell_47 : decode b_M_readCell 47 = .ok (.getfield 69, 3) := by decide +kernel
theorem d_M_readCell_50 : decode b_M_readCell 50 = .ok (.iload_n 1, 1) := by decide +kernel
theorem d_M_readCell_51 : decode b_M_readCell 51 = .ok (.dup2, 1) := by decide +kernel
theorem d_M_readCell_52 : decode b_M_readCell 52 = .ok (.iaload, 1) := by decide +kernel
theorem d_M_readCell_53 : decode b_M_readCell 53 = .ok (.iload_n 2, 1) := by decide +kernel
theorem d_M_readCell_54 : decode b_M_readCell 54 = .ok (.iadd, 1) := by decide +kernel
theorem d_M_readCell_55 : decode b_M_readCell 55 = .ok (.iastore, 1) := by decide +kernel
theorem d_M_readCell_56 : decode b_M_readCell 56 = .ok (.aload_n 0, 1) := by decide +kernel
theorem d_M_readCell_57 : decode b_M_readCell 57 = .ok (.getfield 60, 3) := by decide +kernel
theorem d_M_readCell_60 : decode b_M_readCell 60 = .ok (.iload_n 1, 1) := by decide +kernel
theorem d_M_readCell_61 : decode b_M_readCell 61 = .ok (.dup2, 1) := by decide +kernel
theorem d_M_readCell_62 : decode b_M_readCell 62 = .ok (.iaload, 1) := by decide +kernel
theorem d_M_readCell_63 : decode b_M_readCell 63 = .ok (.iconst 1, 1) := by decide +kernel
theorem d_M_readCell_64 : decode b_M_readCell 64 = .ok (.iadd, 1) := by decide +kernel
theorem d_M_readCell_65 : decode b_M_readCell 65 = .ok (.iastore, 1) := by decide +kernel
theorem d_M_readCell_66 : decode b_M_readCell 66 = .ok (.aload_n 0, 1) := by decide +kernel
theorem d_M_readCell_67 : decode b_M_readCell 67 = .ok (.getfield 60, 3) := by decide +kernel
theorem d_M_readCell_70 : decode b_M_readCell 70 = .ok (.iload_n 1, 1) := by decide +kernel
theorem d_M_readCell_71 : decode b_M_readCell 71 = .ok (.iaload, 1) := by decide +kernel
theorem d_M_readCell_72 : decode b_M_readCell 72 = .ok (.iconst 2, 1) := by decide +kernel
theorem d_M_readCell_73 : decode b_M_readCell 73 = .ok (.if_icmp .lt 20, 3) := by decide +kernel
theorem d_M_readCell_76 : decode b_M_readCell 76 = .ok (.aload_n 0, 1) := by decide +kernel
theorem d_M_readCell_77 : decode b_M_readCell 77 = .ok (.getfield 60, 3) := by decide +kernel
theorem d_M_readCell_80 : decode b_M_readCell 80 = .ok (.iload_n 1, 1) := by decide +kernel
theorem d_M_readCell_81 : decode b_M_readCell 81 = .ok (.iaload, 1) := by decide +kernel
theorem d_M_readCell_82 : decode b_M_readCell 82 = .ok (.iconst 2, 1) := by decide +kernel
theorem d_M_readCell_83 : decode b_M_readCell 83 = .ok (.aload_n 0, 1) := by decide +kernel
theorem d_M_readCell_84 : decode b_M_readCell 84 = .ok (.getfield 66, 3) := by decide +kernel
theorem d_M_readCell_87 : decode b_M_readCell 87 = .ok (.iload_n 1, 1) := by decide +kernel
theorem d_M_readCell_88 : decode b_M_readCell 88 = .ok (.iaload, 1) := by decide +kernel
theorem d_M_readCell_89 : decode b_M_readCell 89 = .ok (.iadd, 1) := by decide +kernel
theorem d_M_readCell_90 : decode b_M_readCell 90 = .ok (.if_icmp .ge 4, 3) := by decide +kernel
theorem d_M_readCell_93 : decode b_M_readCell 93 = .ok (.return_, 1) := by decide +kernel
theorem d_M_readCell_94 : decode b_M_readCell 94 = .ok (.aload_n 0, 1) := by decide +kernel
theorem d_M_readCell_95 : decode b_M_readCell 95 = .ok (.getfield 60, 3) := by decide +kernel
theorem d_M_readCell_98 : decode b_M_readCell 98 = .ok (.iload_n 1, 1) := by decide +kernel
theorem d_M_readCell_99 : decode b_M_readCell 99 = .ok (.iconst 0, 1) := by decide +kernel
theorem d_M_readCell_100 : decode b_M_readCell 100 = .ok (.iastore, 1) := by decide +kernel
theorem d_M_readCell_101 : decode b_M_readCell 101 = .ok (.aload_n 0, 1) := by decide +kernel
theorem d_M_readCell_102 : decode b_M_readCell 102 = .ok (.getfield 63, 3) := by decide +kernel
theorem d_M_readCell_105 : decode b_M_readCell 105 = .ok (.iload_n 1, 1) := by decide +kernel
theorem d_M_readCell_106 : decode b_M_readCell 106 = .ok (.iaload, 1) := by decide +kernel
theorem d_M_readCell_107 : decode b_M_readCell 107 = .ok (.ifCond .eq 12, 3) := by decide +kernel
theorem d_M_readCell_110 : decode b_M_readCell 110 = .ok (.aload_n 0, 1) := by decide +kernel
theorem d_M_readCell_111 : decode b_M_readCell 111 = .ok (.getfield 179, 3) := by decide +kernel
theorem d_M_readCell_114 : decode b_M_readCell 114 = .ok (.bipush 40, 2) := by decide +kernel
theorem d_M_readCell_116 : decode b_M_readCell 116 = .ok (.if_icmp .ne 4, 3) := by decide +kernel
theorem d_M_readCell_119 : decode b_M_readCell 119 = .ok (.return_, 1) := by decide +kernel
theorem d_M_readCell_120 : decode b_M_readCell 120 = .ok (.aload_n 0, 1) := by decide +kernel
theorem d_M_readCell_121 : decode b_M_readCell 121 = .ok (.getfield 75, 3) := by decide +kernel
theorem d_M_readCell_124 : decode b_M_readCell 124 = .ok (.iconst 4, 1) := by decide +kernel
theorem d_M_readCell_125 : decode b_M_readCell 125 = .ok (.aload_n 0, 1) := by decide +kernel
theorem d_M_readCell_126 : decode b_M_readCell 126 = .ok (.getfield 179, 3) := by decide +kernel
theorem d_M_readCell_129 : decode b_M_readCell 129 = .ok (.imul, 1) := by decide +kernel
theorem d_M_readCell_130 : decode b_M_readCell 130 = .ok (.iload_n 1, 1) := by decide +kernel
theorem d_M_readCell_131 : decode b_M_readCell 131 = .ok (.iastore, 1) := by decide +kernel
theorem d_M_readCell_132 : decode b_M_readCell 132 = .ok (.aload_n 0, 1) := by decide +kernel
theorem d_M_readCell_133 : decode b_M_readCell 133 = .ok (.getfield 75, 3) := by decide +kernel
theorem d_M_readCell_136 : decode b_M_readCell 136 = .ok (.iconst 4, 1) := by decide +kernel
theorem d_M_readCell_137 : decode b_M_readCell 137 = .ok (.aload_n 0, 1) := by decide +kernel
theorem d_M_readCell_138 : decode b_M_readCell 138 = .ok (.getfield 179, 3) := by decide +kernel
theorem d_M_readCell_141 : decode b_M_readCell 141 = .ok (.imul, 1) := by decide +kernel
theorem d_M_readCell_142 : decode b_M_readCell 142 = .ok (.iconst 1, 1) := by decide +kernel
theorem d_M_readCell_143 : decode b_M_readCell 143 = .ok (.iadd, 1) := by decide +kernel
theorem d_M_readCell_144 : decode b_M_readCell 144 = .ok (.aload_n 0, 1) := by decide +kernel
theorem d_M_readCell_145 : decode b_M_readCell 145 = .ok (.getfield 63, 3) := by decide +kernel
theorem d_M_readCell_148 : decode b_M_readCell 148 = .ok (.iload_n 1, 1) := by decide +kernel
theorem d_M_readCell_149 : decode b_M_readCell 149 = .ok (.iaload, 1) := by decide +kernel
theorem d_M_readCell_150 : decode b_M_readCell 150 = .ok (.iastore, 1) := by decide +kernel
theorem d_M_readCell_151 : decode b_M_readCell 151 = .ok (.aload_n 0, 1) := by decide +kernel
theorem d_M_readCell_152 : decode b_M_readCell 152 = .ok (.getfield 75, 3) := by decide +kernel
theorem d_M_readCell_155 : decode b_M_readCell 155 = .ok (.iconst 4, 1) := by decide +kernel
theorem d_M_readCell_156 : decode b_M_readCell 156 = .ok (.aload_n 0, 1) := by decide +kernel
theorem d_M_readCell_157 : decode b_M_readCell 157 = .ok (.getfield 179, 3) := by decide +kernel
theorem d_M_readCell_160 : decode b_M_readCell 160 = .ok (.imul, 1) := by decide +kernel
theorem d_M_readCell_161 : decode b_M_readCell 161 = .ok (.iconst 2, 1) := by decide +kernel
theorem d_M_readCell_162 : decode b_M_readCell 162 = .ok (.iadd, 1) := by decide +kernel
theorem d_M_readCell_163 : decode b_M_readCell 163 = .ok (.aload_n 0, 1) := by decide +kernel
theorem d_M_readCell_164 : decode b_M_readCell 164 = .ok (.getfield 66, 3) := by decide +kernel
theorem d_M_readCell_167 : decode b_M_readCell 167 = .ok (.iload_n 1, 1) := by decide +kernel
theorem d_M_readCell_168 : decode b_M_readCell 168 = .ok (.iaload, 1) := by decide +kernel
theorem d_M_readCell_169 : decode b_M_readCell 169 = .ok (.iastore, 1) := by decide +kernel
theorem d_M_readCell_170 : decode b_M_readCell 170 = .ok (.aload_n 0, 1) := by decide +kernel
theorem d_M_readCell_171 : decode b_M_readCell 171 = .ok (.getfield 75, 3) := by decide +kernel
theorem d_M_readCell_174 : decode b_M_readCell 174 = .ok (.iconst 4, 1) := by decide +kernel
theorem d_M_readCell_175 : decode b_M_readCell 175 = .ok (.aload_n 0, 1) := by decide +kernel
theorem d_M_readCell_176 : decode b_M_readCell 176 = .ok (.getfield 179, 3) := by decide +kernel
theorem d_M_readCell_179 : decode b_M_readCell 179 = .ok (.imul, 1) := by decide +kernel
theorem d_M_readCell_180 : decode b_M_readCell 180 = .ok (.iconst 3, 1) := by decide +kernel
theorem d_M_readCell_181 : decode b_M_readCell 181 = .ok (.iadd, 1) := by decide +kernel
theorem d_M_readCell_182 : decode b_M_readCell 182 = .ok (.aload_n 0, 1) := by decide +kernel
theorem d_M_readCell_183 : decode b_M_readCell 183 = .ok (.getfield 69, 3) := by decide +kernel
theorem d_M_readCell_186 : decode b_M_readCell 186 = .ok (.iload_n 1, 1) := by decide +kernel
theorem d_M_readCell_187 : decode b_M_readCell 187 = .ok (.iaload, 1) := by decide +kernel
theorem d_M_readCell_188 : decode b_M_readCell 188 = .ok (.iastore, 1) := by decide +kernel
theorem d_M_readCell_189 : decode b_M_readCell 189 = .ok (.aload_n 0, 1) := by decide +kernel
theorem d_M_readCell_190 : decode b_M_readCell 190 = .ok (.dup, 1) := by decide +kernel
theorem d_M_readCell_191 : decode b_M_readCell 191 = .ok (.getfield 179, 3) := by decide +kernel
theorem d_M_readCell_194 : decode b_M_readCell 194 = .ok (.iconst 1, 1) := by decide +kernel
theorem d_M_readCell_195 : decode b_M_readCell 195 = .ok (.iadd, 1) := by decide +kernel
theorem d_M_readCell_196 : decode b_M_readCell 196 = .ok (.putfield 179, 3) := by decide +kernel
theorem d_M_readCell_199 : decode b_M_readCell 199 = .ok (.return_, 1) := by decide +kernel
theorem d_M_marks_0 : decode b_M_marks 0 = .ok (.iconst 0, 1) := by decide +kernel
theorem d_M_marks_1 : decode b_M_marks 1 = .ok (.istore_n 1, 1) := by decide +kernel
theorem d_M_marks_2 : decode b_M_marks 2 = .ok (.iconst 0, 1) := by decide +kernel
theorem d_M_marks_3 : decode b_M_marks 3 = .ok (.istore_n 2, 1) := by decide +kernel
theorem d_M_marks_4 : decode b_M_marks 4 = .ok (.iload_n 2, 1) := by decide +kernel
theorem d_M_marks_5 : decode b_M_marks 5 = .ok (.aload_n 0, 1) := by decide +kernel
theorem d_M_marks_6 : decode b_M_marks 6 = .ok (.getfield 114, 3) := by decide +kernel
theorem d_M_marks_9 : decode b_M_marks 9 = .ok (.if_icmp .ge 26, 3) := by decide +kernel
theorem d_M_marks_12 : decode b_M_marks 12 = .ok (.iload_n 1, 1) := by decide +kernel
theorem d_M_marks_13 : decode b_M_marks 13 = .ok (.aload_n 0, 1) := by decide +kernel
theorem d_M_marks_14 : decode b_M_marks 14 = .ok (.getfield 23, 3) := by decide +kernel
theorem d_M_marks_17 : decode b_M_marks 17 = .ok (.iload_n 2, 1) := by decide +kernel
theorem d_M_marks_18 : decode b_M_marks 18 = .ok (.baload, 1) := by decide +kernel
theorem d_M_marks_19 : decode b_M_marks 19 = .ok (.ifCond .eq 7, 3) := by decide +kernel
theorem d_M_marks_22 : decode b_M_marks 22 = .ok (.iconst 1, 1) := by decide +kernel
theorem d_M_marks_23 : decode b_M_marks 23 = .ok (.goto 4, 3) := by decide +kernel
theorem d_M_marks_26 : decode b_M_marks 26 = .ok (.iconst 0, 1) := by decide +kernel
theorem d_M_marks_27 : decode b_M_marks 27 = .ok (.iadd, 1) := by decide +kernel
theorem d_M_marks_28 : decode b_M_marks 28 = .ok (.istore_n 1, 1) := by decide +kernel
theorem d_M_marks_29 : decode b_M_marks 29 = .ok (.iinc 2 1, 3) := by decide +kernel
theorem d_M_marks_32 : decode b_M_marks 32 = .ok (.goto (-28), 3) := by decide +kernel
theorem d_M_marks_35 : decode b_M_marks 35 = .ok (.iload_n 1, 1) := by decide +kernel
theorem d_M_marks_36 : decode b_M_marks 36 = .ok (.ireturn, 1) := by decide +kernel
theorem d_M_ground_0 : decode b_M_ground 0 = .ok (.aload_n 0, 1) := by decide +kernel
theorem d_M_ground_1 : decode b_M_ground 1 = .ok (.iload_n 1, 1) := by decide +kernel
theorem d_M_ground_2 : decode b_M_ground 2 = .ok (.iconst 0, 1) := by decide +kernel
theorem d_M_ground_3 : decode b_M_ground 3 = .ok (.bipush 10, 2) := by decide +kernel
theorem d_M_ground_5 : decode b_M_ground 5 = .ok (.invokestatic 84, 3) := by decide +kernel
theorem d_M_ground_8 : decode b_M_ground 8 = .ok (.iconst 0, 1) := by decide +kernel
theorem d_M_ground_9 : decode b_M_ground 9 = .ok (.invokevirtual 88, 3) := by decide +kernel
theorem d_M_ground_12 : decode b_M_ground 12 = .ok (.ifCond .eq 5, 3) := by decide +kernel
theorem d_M_ground_15 : decode b_M_ground 15 = .ok (.iconst 0, 1) := by decide +kernel
theorem d_M_ground_16 : decode b_M_ground 16 = .ok (.ireturn, 1) := by decide +kernel
theorem d_M_ground_17 : decode b_M_ground 17 = .ok (.iload_n 1, 1) := by decide +kernel
theorem d_M_ground_18 : decode b_M_ground 18 = .ok (.tableswitch 112 0 9 #[54, 59, 64, 69, 74, 79, 92, 97, 102, 107], 54) := by decide +kernel
theorem d_M_ground_72 : decode b_M_ground 72 = .ok (.aload_n 0, 1) := by decide +kernel
theorem d_M_ground_73 : decode b_M_ground 73 = .ok (.getfield 81, 3) := by decide +kernel
theorem d_M_ground_76 : decode b_M_ground 76 = .ok (.ireturn, 1) := by decide +kernel
theorem d_M_ground_77 : decode b_M_ground 77 = .ok (.aload_n 0, 1) := by decide +kernel
theorem d_M_ground_78 : decode b_M_ground 78 = .ok (.getfield 92, 3) := by decide +kernel
theorem d_M_ground_81 : decode b_M_ground 81 = .ok (.ireturn, 1) := by decide +kernel
theorem d_M_ground_82 : decode b_M_ground 82 = .ok (.aload_n 0, 1) := by decide +kernel
theorem d_M_ground_83 : decode b_M_ground 83 = .ok (.getfield 95, 3) := by decide +kernel
theorem d_M_ground_86 : decode b_M_ground 86 = .ok (.ireturn, 1) := by decide +kernel
theorem d_M_ground_87 : decode b_M_ground 87 = .ok (.aload_n 0, 1) := by decide +kernel
theorem d_M_ground_88 : decode b_M_ground 88 = .ok (.getfield 114, 3) := by decide +kernel
theorem d_M_ground_91 : decode b_M_ground 91 = .ok (.ireturn, 1) := by decide +kernel
theorem d_M_ground_92 : decode b_M_ground 92 = .ok (.aload_n 0, 1) := by decide +kernel
theorem d_M_ground_93 : decode b_M_ground 93 = .ok (.invokevirtual 182, 3) := by decide +kernel
theorem d_M_ground_96 : decode b_M_ground 96 = .ok (.ireturn, 1) := by decide +kernel
theorem d_M_ground_97 : decode b_M_ground 97 = .ok (.aload_n 0, 1) := by decide +kernel
theorem d_M_ground_98 : decode b_M_ground 98 = .ok (.getfield 117, 3) := by decide +kernel
theorem d_M_ground_101 : decode b_M_ground 101 = .ok (.ifCond .eq 7, 3) := by decide +kernel
theorem d_M_ground_104 : decode b_M_ground 104 = .ok (.iconst 1, 1) := by decide +kernel
theorem d_M_ground_105 : decode b_M_ground 105 = .ok (.goto 4, 3) := by decide +kernel
theorem d_M_ground_108 : decode b_M_ground 108 = .ok (.iconst 0, 1) := by decide +kernel
theorem d_M_ground_109 : decode b_M_ground 109 = .ok (.ireturn, 1) := by decide +kernel
theorem d_M_ground_110 : decode b_M_ground 110 = .ok (.aload_n 0, 1) := by decide +kernel
theorem d_M_ground_111 : decode b_M_ground 111 = .ok (.getfield 108, 3) := by decide +kernel
theorem d_M_ground_114 : decode b_M_ground 114 = .ok (.ireturn, 1) := by decide +kernel
theorem d_M_ground_115 : decode b_M_ground 115 = .ok (.aload_n 0, 1) := by decide +kernel
theorem d_M_ground_116 : decode b_M_ground 116 = .ok (.getfield 98, 3) := by decide +kernel
theorem d_M_ground_119 : decode b_M_ground 119 = .ok (.ireturn, 1) := by decide +kernel
theorem d_M_ground_120 : decode b_M_ground 120 = .ok (.aload_n 0, 1) := by decide +kernel
theorem d_M_ground_121 : decode b_M_ground 121 = .ok (.getfield 111, 3) := by decide +kernel
theorem d_M_ground_124 : decode b_M_ground 124 = .ok (.ireturn, 1) := by decide +kernel
theorem d_M_ground_125 : decode b_M_ground 125 = .ok (.aload_n 0, 1) := by decide +kernel
theorem d_M_ground_126 : decode b_M_ground 126 = .ok (.getfield 130, 3) := by decide +kernel
theorem d_M_ground_129 : decode b_M_ground 129 = .ok (.ireturn, 1) := by decide +kernel
theorem d_M_ground_130 : decode b_M_ground 130 = .ok (.aload_n 0, 1) := by decide +kernel
theorem d_M_ground_131 : decode b_M_ground 131 = .ok (.getfield 162, 3) := by decide +kernel
theorem d_M_ground_134 : decode b_M_ground 134 = .ok (.ireturn, 1) := by decide +kernel
theorem d_M_craft_0 : decode b_M_craft 0 = .ok (.aload_n 0, 1) := by decide +kernel
theorem d_M_craft_1 : decode b_M_craft 1 = .ok (.iload_n 1, 1) := by decide +kernel
theorem d_M_craft_2 : decode b_M_craft 2 = .ok (.iconst 0, 1) := by decide +kernel
theorem d_M_craft_3 : decode b_M_craft 3 = .ok (.iconst 5, 1) := by decide +kernel
theorem d_M_craft_4 : decode b_M_craft 4 = .ok (.invokestatic 84, 3) := by decide +kernel
theorem d_M_craft_7 : decode b_M_craft 7 = .ok (.iconst 0, 1) := by decide +kernel
theorem d_M_craft_8 : decode b_M_craft 8 = .ok (.invokevirtual 88, 3) := by decide +kernel
theorem d_M_craft_11 : decode b_M_craft 11 = .ok (.ifCond .eq 5, 3) := by decide +kernel
theorem d_M_craft_14 : decode b_M_craft 14 = .ok (.iconst 0, 1) := by decide +kernel
theorem d_M_craft_15 : decode b_M_craft 15 = .ok (.ireturn, 1) := by decide +kernel
theorem d_M_craft_16 : decode b_M_craft 16 = .ok (.iload_n 1, 1) := by decide +kernel
theorem d_M_craft_17 : decode b_M_craft 17 = .ok (.tableswitch 70 0 4 #[35, 40, 45, 58, 63], 35) := by decide +kernel
theorem d_M_craft_52 : decode b_M_craft 52 = .ok (.aload_n 0, 1) := by decide +kernel
theorem d_M_craft_53 : decode b_M_craft 53 = .ok (.getfield 153, 3) := by decide +kernel
theorem d_M_craft_56 : decode b_M_craft 56 = .ok (.ireturn, 1) := by decide +kernel
theorem d_M_craft_57 : decode b_M_craft 57 = .ok (.aload_n 0, 1) := by decide +kernel
theorem d_M_craft_58 : decode b_M_craft 58 = .ok (.getfield 146, 3) := by decide +kernel
theorem d_M_craft_61 : decode b_M_craft 61 = .ok (.ireturn, 1) := by decide +kernel
theorem d_M_craft_62 : decode b_M_craft 62 = .ok (.aload_n 0, 1) := by decide +kernel
theorem d_M_craft_63 : decode b_M_craft 63 = .ok (.getfield 156, 3) := by decide +kernel
theorem d_M_craft_66 : decode b_M_craft 66 = .ok (.ifCond .eq 7, 3) := by decide +kernel
theorem d_M_craft_69 : decode b_M_craft 69 = .ok (.iconst 1, 1) := by decide +kernel
theorem d_M_craft_70 : decode b_M_craft 70 = .ok (.goto 4, 3) := by decide +kernel
theorem d_M_craft_73 : decode b_M_craft 73 = .ok (.iconst 0, 1) := by decide +kernel
theorem d_M_craft_74 : decode b_M_craft 74 = .ok (.ireturn, 1) := by decide +kernel
theorem d_M_craft_75 : decode b_M_craft 75 = .ok (.aload_n 0, 1) := by decide +kernel
theorem d_M_craft_76 : decode b_M_craft 76 = .ok (.getfield 159, 3) := by decide +kernel
theorem d_M_craft_79 : decode b_M_craft 79 = .ok (.ireturn, 1) := by decide +kernel
theorem d_M_craft_80 : decode b_M_craft 80 = .ok (.aload_n 0, 1) := by decide +kernel
theorem d_M_craft_81 : decode b_M_craft 81 = .ok (.getfield 45, 3) := by decide +kernel
theorem d_M_craft_84 : decode b_M_craft 84 = .ok (.iconst 0, 1) := by decide +kernel
theorem d_M_craft_85 : decode b_M_craft 85 = .ok (.iaload, 1) := by decide +kernel
theorem d_M_craft_86 : decode b_M_craft 86 = .ok (.ireturn, 1) := by decide +kernel
theorem d_M_craft_87 : decode b_M_craft 87 = .ok (.aload_n 0, 1) := by decide +kernel
theorem d_M_craft_88 : decode b_M_craft 88 = .ok (.getfield 45, 3) := by decide +kernel
theorem d_M_craft_91 : decode b_M_craft 91 = .ok (.iconst 1, 1) := by decide +kernel
theorem d_M_craft_92 : decode b_M_craft 92 = .ok (.iaload, 1) := by decide +kernel
theorem d_M_craft_93 : decode b_M_craft 93 = .ok (.ireturn, 1) := by decide +kernel
theorem d_M_flight_0 : decode b_M_flight 0 = .ok (.aload_n 0, 1) := by decide +kernel
theorem d_M_flight_1 : decode b_M_flight 1 = .ok (.iload_n 1, 1) := by decide +kernel
theorem d_M_flight_2 : decode b_M_flight 2 = .ok (.iconst 0, 1) := by decide +kernel
theorem d_M_flight_3 : decode b_M_flight 3 = .ok (.aload_n 0, 1) := by decide +kernel
theorem d_M_flight_4 : decode b_M_flight 4 = .ok (.getfield 130, 3) := by decide +kernel
theorem d_M_flight_7 : decode b_M_flight 7 = .ok (.iconst 1, 1) := by decide +kernel
theorem d_M_flight_8 : decode b_M_flight 8 = .ok (.isub, 1) := by decide +kernel
theorem d_M_flight_9 : decode b_M_flight 9 = .ok (.invokestatic 84, 3) := by decide +kernel
theorem d_M_flight_12 : decode b_M_flight 12 = .ok (.iconst 0, 1) := by decide +kernel
theorem d_M_flight_13 : decode b_M_flight 13 = .ok (.invokevirtual 88, 3) := by decide +kernel
theorem d_M_flight_16 : decode b_M_flight 16 = .ok (.ifCond .eq 5, 3) := by decide +kernel
theorem d_M_flight_19 : decode b_M_flight 19 = .ok (.iconst 0, 1) := by decide +kernel
theorem d_M_flight_20 : decode b_M_flight 20 = .ok (.ireturn, 1) := by decide +kernel
theorem d_M_flight_21 : decode b_M_flight 21 = .ok (.iload_n 2, 1) := by decide +kernel
theorem d_M_flight_22 : decode b_M_flight 22 = .ok (.ifCond .ne 12, 3) := by decide +kernel
theorem d_M_flight_25 : decode b_M_flight 25 = .ok (.aload_n 0, 1) := by decide +kernel
theorem d_M_flight_26 : decode b_M_flight 26 = .ok (.getfield 27, 3) := by decide +kernel
theorem d_M_flight_29 : decode b_M_flight 29 = .ok (.iload_n 1, 1) := by decide +kernel
theorem d_M_flight_30 : decode b_M_flight 30 = .ok (.iaload, 1) := by decide +kernel
theorem d_M_flight_31 : decode b_M_flight 31 = .ok (.goto 32, 3) := by decide +kernel
theorem d_M_flight_34 : decode b_M_flight 34 = .ok (.iload_n 2, 1) := by decide +kernel
theorem d_M_flight_35 : decode b_M_flight 35 = .ok (.iconst 1, 1) := by decide +kernel
theorem d_M_flight_36 : decode b_M_flight 36 = .ok (.if_icmp .ne 12, 3) := by decide +kernel
theorem d_M_flight_39 : decode b_M_flight 39 = .ok (.aload_n 0, 1) := by decide +kernel
theorem d_M_flight_40 : decode b_M_flight 40 = .ok (.getfield 30, 3) := by decide +kernel
theorem d_M_flight_43 : decode b_M_flight 43 = .ok (.iload_n 1, 1) := by decide +kernel
theorem d_M_flight_44 : decode b_M_flight 44 = .ok (.iaload, 1) := by decide +kernel
theorem d_M_flight_45 : decode b_M_flight 45 = .ok (.goto 18, 3) := by decide +kernel
theorem d_M_flight_48 : decode b_M_flight 48 = .ok (.iload_n 2, 1) := by decide +kernel
theorem d_M_flight_49 : decode b_M_flight 49 = .ok (.iconst 2, 1) := by decide +kernel
theorem d_M_flight_50 : decode b_M_flight 50 = .ok (.if_icmp .ne 12, 3) := by decide +kernel
theorem d_M_flight_53 : decode b_M_flight 53 = .ok (.aload_n 0, 1) := by decide +kernel
theorem d_M_flight_54 : decode b_M_flight 54 = .ok (.getfield 33, 3) := by decide +kernel
theorem d_M_flight_57 : decode b_M_flight 57 = .ok (.iload_n 1, 1) := by decide +kernel
theorem d_M_flight_58 : decode b_M_flight 58 = .ok (.iaload, 1) := by decide +kernel
theorem d_M_flight_59 : decode b_M_flight 59 = .ok (.goto 4, 3) := by decide +kernel
theorem d_M_flight_62 : decode b_M_flight 62 = .ok (.iconst 0, 1) := by decide +kernel
theorem d_M_flight_63 : decode b_M_flight 63 = .ok (.ireturn, 1) := by decide +kernel
theorem d_M_packets_0 : decode b_M_packets 0 = .ok (.aload_n 0, 1) := by decide +kernel
theorem d_M_packets_1 : decode b_M_packets 1 = .ok (.iconst 0, 1) := by decide +kernel
theorem d_M_packets_2 : decode b_M_packets 2 = .ok (.putfield 78, 3) := by decide +kernel
theorem d_M_packets_5 : decode b_M_packets 5 = .ok (.aload_n 0, 1) := by decide +kernel
theorem d_M_packets_6 : decode b_M_packets 6 = .ok (.getfield 179, 3) := by decide +kernel
theorem d_M_packets_9 : decode b_M_packets 9 = .ok (.ireturn, 1) := by decide +kernel
theorem d_M_got_0 : decode b_M_got 0 = .ok (.aload_n 0, 1) := by decide +kernel
theorem d_M_got_1 : decode b_M_got 1 = .ok (.iload_n 1, 1) := by decide +kernel
theorem d_M_got_2 : decode b_M_got 2 = .ok (.iconst 0, 1) := by decide +kernel
theorem d_M_got_3 : decode b_M_got 3 = .ok (.aload_n 0, 1) := by decide +kernel
theorem d_M_got_4 : decode b_M_got 4 = .ok (.getfield 179, 3) := by decide +kernel
theorem d_M_got_7 : decode b_M_got 7 = .ok (.iconst 1, 1) := by decide +kernel
theorem d_M_got_8 : decode b_M_got 8 = .ok (.isub, 1) := by decide +kernel
theorem d_M_got_9 : decode b_M_got 9 = .ok (.invokestatic 84, 3) := by decide +kernel
theorem d_M_got_12 : decode b_M_got 12 = .ok (.iconst 0, 1) := by decide +kernel
theorem d_M_got_13 : decode b_M_got 13 = .ok (.invokevirtual 88, 3) := by decide +kernel
theorem d_M_got_16 : decode b_M_got 16 = .ok (.ifCond .eq 5, 3) := by decide +kernel
theorem d_M_got_19 : decode b_M_got 19 = .ok (.iconst 0, 1) := by decide +kernel
theorem d_M_got_20 : decode b_M_got 20 = .ok (.ireturn, 1) := by decide +kernel
theorem d_M_got_21 : decode b_M_got 21 = .ok (.iload_n 2, 1) := by decide +kernel
theorem d_M_got_22 : decode b_M_got 22 = .ok (.iconst 0, 1) := by decide +kernel
theorem d_M_got_23 : decode b_M_got 23 = .ok (.iconst 3, 1) := by decide +kernel
theorem d_M_got_24 : decode b_M_got 24 = .ok (.invokestatic 84, 3) := by decide +kernel
theorem d_M_got_27 : decode b_M_got 27 = .ok (.ifCond .eq 7, 3) := by decide +kernel
theorem d_M_got_30 : decode b_M_got 30 = .ok (.iconst 0, 1) := by decide +kernel
theorem d_M_got_31 : decode b_M_got 31 = .ok (.goto 13, 3) := by decide +kernel
theorem d_M_got_34 : decode b_M_got 34 = .ok (.aload_n 0, 1) := by decide +kernel
theorem d_M_got_35 : decode b_M_got 35 = .ok (.getfield 75, 3) := by decide +kernel
theorem d_M_got_38 : decode b_M_got 38 = .ok (.iconst 4, 1) := by decide +kernel
theorem d_M_got_39 : decode b_M_got 39 = .ok (.iload_n 1, 1) := by decide +kernel
theorem d_M_got_40 : decode b_M_got 40 = .ok (.imul, 1) := by decide +kernel
theorem d_M_got_41 : decode b_M_got 41 = .ok (.iload_n 2, 1) := by decide +kernel
theorem d_M_got_42 : decode b_M_got 42 = .ok (.iadd, 1) := by decide +kernel
theorem d_M_got_43 : decode b_M_got 43 = .ok (.iaload, 1) := by decide +kernel
theorem d_M_got_44 : decode b_M_got 44 = .ok (.ireturn, 1) := by decide +kernel
