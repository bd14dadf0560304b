theorem f_As_9 : Cond.fieldLink R_As 9 "TeleStack$Assembler" "inStep" "Z" ∈ Gw := gm 190 (by decide +kernel) (by decide)
theorem f_As_15 : Cond.fieldLink R_As 15 "TeleStack$Assembler" "channel" "I" ∈ Gw := gm 188 (by decide +kernel) (by decide)
theorem f_As_24 : Cond.fieldLink R_As 24 "TeleStack$Assembler" "awaited" "I" ∈ Gw := gm 189 (by decide +kernel) (by decide)
theorem f_As_27 : Cond.fieldLink R_As 27 "TeleStack$Assembler" "cellsRead" "I" ∈ Gw := gm 191 (by decide +kernel) (by decide)
theorem l_As_37 : Cond.methodLink R_As 37 y_As_read ∈ Gw := gm 745 (by decide +kernel) (by decide)
theorem f_As_45 : Cond.fieldLink R_As 45 "TeleStack$Assembler" "tag" "I" ∈ Gw := gm 192 (by decide +kernel) (by decide)
theorem f_As_48 : Cond.fieldLink R_As 48 "TeleStack$Assembler" "sum" "I" ∈ Gw := gm 194 (by decide +kernel) (by decide)
theorem f_As_51 : Cond.fieldLink R_As 51 "TeleStack$Assembler" "length" "I" ∈ Gw := gm 193 (by decide +kernel) (by decide)
theorem l_As_54 : Cond.methodLink R_As 54 y_Rc_add ∈ Gw := gm 749 (by decide +kernel) (by decide)
theorem f_Cr_11 : Cond.fieldLink R_Cr 11 "TeleStack$Craft" "queue" "[I" ∈ Gw := gm 142 (by decide +kernel) (by decide)
theorem f_Cr_15 : Cond.fieldLink R_Cr 15 "TeleStack$Craft" "gate" "I" ∈ Gw := gm 144 (by decide +kernel) (by decide)
theorem f_Cr_19 : Cond.fieldLink R_Cr 19 "TeleStack$Craft" "queued" "I" ∈ Gw := gm 143 (by decide +kernel) (by decide)
theorem f_Cr_22 : Cond.fieldLink R_Cr 22 "TeleStack$Craft" "expected" "I" ∈ Gw := gm 146 (by decide +kernel) (by decide)
theorem l_Cr_29 : Cond.methodLink R_Cr 29 y_Cr_receiveCommand ∈ Gw := gm 581 (by decide +kernel) (by decide)
theorem l_Cr_33 : Cond.methodLink R_Cr 33 y_Cr_reopen ∈ Gw := gm 590 (by decide +kernel) (by decide)
theorem f_Cr_36 : Cond.fieldLink R_Cr 36 "TeleStack$Craft" "again" "Z" ∈ Gw := gm 148 (by decide +kernel) (by decide)
theorem l_Cr_40 : Cond.methodLink R_Cr 40 y_Cr_receiveExpected ∈ Gw := gm 585 (by decide +kernel) (by decide)
theorem f_Df_9 : Cond.fieldLink R_Df 9 "TeleStack$DownFrame" "cells" "[I" ∈ Gw := gm 216 (by decide +kernel) (by decide)
theorem f_Gr_12 : Cond.fieldLink R_Gr 12 "TeleStack$Ground" "pending" "LTeleStack$Unacknowledged;" ∈ Gw := gm 93 (by decide +kernel) (by decide)
theorem f_Gr_18 : Cond.fieldLink R_Gr 18 "TeleStack$Ground" "mode" "I" ∈ Gw := gm 94 (by decide +kernel) (by decide)
theorem f_Gr_22 : Cond.fieldLink R_Gr 22 "TeleStack$Ground" "window" "I" ∈ Gw := gm 102 (by decide +kernel) (by decide)
theorem f_Gr_25 : Cond.fieldLink R_Gr 25 "TeleStack$Ground" "limit" "I" ∈ Gw := gm 103 (by decide +kernel) (by decide)
theorem f_Gr_28 : Cond.fieldLink R_Gr 28 "TeleStack$Ground" "span" "I" ∈ Gw := gm 104 (by decide +kernel) (by decide)
theorem l_Gr_31 : Cond.methodLink R_Gr 31 y_Gr_isSending ∈ Gw := gm 302 (by decide +kernel) (by decide)
theorem f_Gr_35 : Cond.fieldLink R_Gr 35 "TeleStack$Ground" "next" "I" ∈ Gw := gm 95 (by decide +kernel) (by decide)
theorem f_Gr_38 : Cond.fieldLink R_Gr 38 "TeleStack$Ground" "oldest" "I" ∈ Gw := gm 96 (by decide +kernel) (by decide)
theorem f_Gr_41 : Cond.fieldLink R_Gr 41 "TeleStack$Ground" "tries" "I" ∈ Gw := gm 99 (by decide +kernel) (by decide)
theorem f_Gr_44 : Cond.fieldLink R_Gr 44 "TeleStack$Ground" "reason" "I" ∈ Gw := gm 101 (by decide +kernel) (by decide)
theorem f_Gr_47 : Cond.fieldLink R_Gr 47 "TeleStack$Ground" "timer" "I" ∈ Gw := gm 100 (by decide +kernel) (by decide)
theorem f_Gr_50 : Cond.fieldLink R_Gr 50 "TeleStack$Ground" "startKind" "I" ∈ Gw := gm 105 (by decide +kernel) (by decide)
theorem f_Gr_53 : Cond.fieldLink R_Gr 53 "TeleStack$Ground" "startDue" "Z" ∈ Gw := gm 106 (by decide +kernel) (by decide)
theorem l_Gr_57 : Cond.methodLink R_Gr 57 y_Un_clear ∈ Gw := gm 298 (by decide +kernel) (by decide)
theorem f_Gr_60 : Cond.fieldLink R_Gr 60 "TeleStack$Ground" "slotFull" "Z" ∈ Gw := gm 97 (by decide +kernel) (by decide)
theorem f_Gr_63 : Cond.fieldLink R_Gr 63 "TeleStack$Ground" "slot" "I" ∈ Gw := gm 98 (by decide +kernel) (by decide)
theorem l_Gr_66 : Cond.methodLink R_Gr 66 y_Gr_runOut ∈ Gw := gm 286 (by decide +kernel) (by decide)
theorem l_Gr_69 : Cond.methodLink R_Gr 69 y_Gr_sendStart ∈ Gw := gm 314 (by decide +kernel) (by decide)
theorem l_Gr_73 : Cond.methodLink R_Gr 73 y_Gr_sendCommand ∈ Gw := gm 326 (by decide +kernel) (by decide)
theorem l_Gr_76 : Cond.methodLink R_Gr 76 y_Gr_hearAtStart ∈ Gw := gm 665 (by decide +kernel) (by decide)
theorem l_Gr_84 : Cond.methodLink R_Gr 84 y_Gr_alarm ∈ Gw := gm 290 (by decide +kernel) (by decide)
theorem l_Gr_88 : Cond.methodLink R_Gr 88 y_Un_size ∈ Gw := gm 346 (by decide +kernel) (by decide)
theorem l_Gr_92 : Cond.methodLink R_Gr 92 y_Gr_acknowledge ∈ Gw := gm 670 (by decide +kernel) (by decide)
theorem l_Gr_96 : Cond.methodLink R_Gr 96 y_Gr_hearWithNonePending ∈ Gw := gm 678 (by decide +kernel) (by decide)
theorem l_Gr_100 : Cond.methodLink R_Gr 100 y_Gr_hearWithSomePending ∈ Gw := gm 682 (by decide +kernel) (by decide)
theorem l_Gr_104 : Cond.methodLink R_Gr 104 y_Un_countMarked ∈ Gw := gm 774 (by decide +kernel) (by decide)
theorem l_Gr_107 : Cond.methodLink R_Gr 107 y_Gr_finish ∈ Gw := gm 294 (by decide +kernel) (by decide)
theorem l_Gr_110 : Cond.methodLink R_Gr 110 y_Un_markAll ∈ Gw := gm 310 (by decide +kernel) (by decide)
theorem l_Gr_113 : Cond.methodLink R_Gr 113 y_Gr_tryAgain ∈ Gw := gm 306 (by decide +kernel) (by decide)
theorem l_Gr_116 : Cond.methodLink R_Gr 116 y_Gr_send ∈ Gw := gm 318 (by decide +kernel) (by decide)
theorem l_Gr_120 : Cond.methodLink R_Gr 120 y_Un_firstMarked ∈ Gw := gm 330 (by decide +kernel) (by decide)
theorem l_Gr_123 : Cond.methodLink R_Gr 123 y_Un_unmark ∈ Gw := gm 334 (by decide +kernel) (by decide)
theorem l_Gr_126 : Cond.methodLink R_Gr 126 y_Un_numberOf ∈ Gw := gm 338 (by decide +kernel) (by decide)
theorem l_Gr_130 : Cond.methodLink R_Gr 130 y_Un_commandOf ∈ Gw := gm 342 (by decide +kernel) (by decide)
theorem l_Gr_133 : Cond.methodLink R_Gr 133 y_Gr_sendSlot ∈ Gw := gm 350 (by decide +kernel) (by decide)
theorem l_Gr_136 : Cond.methodLink R_Gr 136 y_Un_add ∈ Gw := gm 354 (by decide +kernel) (by decide)
theorem l_Gr_142 : Cond.methodLink R_Gr 142 y_Uf_add ∈ Gw := gm 322 (by decide +kernel) (by decide)
theorem l_Gr_147 : Cond.methodLink R_Gr 147 y_Un_removeFirst ∈ Gw := gm 674 (by decide +kernel) (by decide)
theorem l_Gr_150 : Cond.methodLink R_Gr 150 y_Gr_resend ∈ Gw := gm 686 (by decide +kernel) (by decide)
theorem l_L_7 : Cond.methodLink R_L 7 y_T_tune ∈ Gw := gm 382 (by decide +kernel) (by decide)
theorem l_L_17 : Cond.methodLink R_L 17 y_T_number ∈ Gw := gm 485 (by decide +kernel) (by decide)
theorem l_L_21 : Cond.methodLink R_L 21 y_T_begin ∈ Gw := gm 497 (by decide +kernel) (by decide)
theorem l_L_24 : Cond.methodLink R_L 24 y_T_end ∈ Gw := gm 509 (by decide +kernel) (by decide)
theorem l_L_27 : Cond.methodLink R_L 27 y_T_command ∈ Gw := gm 518 (by decide +kernel) (by decide)
theorem l_L_31 : Cond.methodLink R_L 31 y_T_raise ∈ Gw := gm 535 (by decide +kernel) (by decide)
theorem l_L_36 : Cond.methodLink R_L 36 y_T_drop ∈ Gw := gm 601 (by decide +kernel) (by decide)
theorem l_L_39 : Cond.methodLink R_L 39 y_T_take ∈ Gw := gm 609 (by decide +kernel) (by decide)
theorem l_L_45 : Cond.methodLink R_L 45 y_T_answer ∈ Gw := gm 640 (by decide +kernel) (by decide)
theorem l_L_49 : Cond.methodLink R_L 49 y_T_packet ∈ Gw := gm 697 (by decide +kernel) (by decide)
theorem l_L_53 : Cond.methodLink R_L 53 y_T_frame ∈ Gw := gm 720 (by decide +kernel) (by decide)
theorem l_L_57 : Cond.methodLink R_L 57 y_T_ground ∈ Gw := gm 757 (by decide +kernel) (by decide)
theorem l_L_61 : Cond.methodLink R_L 61 y_T_craft ∈ Gw := gm 781 (by decide +kernel) (by decide)
theorem l_L_64 : Cond.methodLink R_L 64 y_T_flight ∈ Gw := gm 796 (by decide +kernel) (by decide)
theorem l_L_68 : Cond.methodLink R_L 68 y_T_got ∈ Gw := gm 807 (by decide +kernel) (by decide)
theorem l_L_71 : Cond.methodLink R_L 71 y_T_init ∈ Gw := gm 22 (by decide +kernel) (by decide)
theorem l_L_74 : Cond.methodLink R_L 74 y_M_init ∈ Gw := gm 822 (by decide +kernel) (by decide)
theorem l_L_75 : Cond.methodLink R_L 75 y_L_tune ∈ Gw := gm 377 (by decide +kernel) (by decide)
theorem l_L_80 : Cond.methodLink R_L 80 y_M_tune ∈ Gw := gm 954 (by decide +kernel) (by decide)
theorem l_L_81 : Cond.methodLink R_L 81 y_M_thrown ∈ Gw := gm 950 (by decide +kernel) (by decide)
theorem l_L_84 : Cond.methodLink R_L 84 y_L_number ∈ Gw := gm 482 (by decide +kernel) (by decide)
theorem l_L_87 : Cond.methodLink R_L 87 y_M_number ∈ Gw := gm 965 (by decide +kernel) (by decide)
theorem l_L_88 : Cond.methodLink R_L 88 y_L_begin ∈ Gw := gm 494 (by decide +kernel) (by decide)
theorem l_L_90 : Cond.methodLink R_L 90 y_M_begin ∈ Gw := gm 969 (by decide +kernel) (by decide)
theorem l_L_91 : Cond.methodLink R_L 91 y_L_end ∈ Gw := gm 506 (by decide +kernel) (by decide)
theorem l_L_94 : Cond.methodLink R_L 94 y_M_end ∈ Gw := gm 973 (by decide +kernel) (by decide)
theorem l_L_95 : Cond.methodLink R_L 95 y_L_command ∈ Gw := gm 515 (by decide +kernel) (by decide)
theorem l_L_98 : Cond.methodLink R_L 98 y_M_command ∈ Gw := gm 981 (by decide +kernel) (by decide)
theorem l_L_99 : Cond.methodLink R_L 99 y_T_tick ∈ Gw := gm 278 (by decide +kernel) (by decide)
theorem l_L_102 : Cond.methodLink R_L 102 y_M_tick ∈ Gw := gm 985 (by decide +kernel) (by decide)
theorem l_L_103 : Cond.methodLink R_L 103 y_L_raise ∈ Gw := gm 531 (by decide +kernel) (by decide)
theorem l_L_105 : Cond.methodLink R_L 105 y_M_raise ∈ Gw := gm 1005 (by decide +kernel) (by decide)
theorem l_L_106 : Cond.methodLink R_L 106 y_L_drop ∈ Gw := gm 598 (by decide +kernel) (by decide)
theorem l_L_108 : Cond.methodLink R_L 108 y_M_drop ∈ Gw := gm 1017 (by decide +kernel) (by decide)
theorem l_L_109 : Cond.methodLink R_L 109 y_L_take ∈ Gw := gm 605 (by decide +kernel) (by decide)
theorem l_L_112 : Cond.methodLink R_L 112 y_M_take ∈ Gw := gm 1021 (by decide +kernel) (by decide)
theorem l_L_113 : Cond.methodLink R_L 113 y_T_report ∈ Gw := gm 361 (by decide +kernel) (by decide)
theorem l_L_117 : Cond.methodLink R_L 117 y_M_report ∈ Gw := gm 1025 (by decide +kernel) (by decide)
theorem l_L_118 : Cond.methodLink R_L 118 y_L_answer ∈ Gw := gm 637 (by decide +kernel) (by decide)
theorem l_L_121 : Cond.methodLink R_L 121 y_M_answer ∈ Gw := gm 1029 (by decide +kernel) (by decide)
theorem l_L_122 : Cond.methodLink R_L 122 y_L_packet ∈ Gw := gm 694 (by decide +kernel) (by decide)
theorem l_L_125 : Cond.methodLink R_L 125 y_M_packet ∈ Gw := gm 1037 (by decide +kernel) (by decide)
theorem l_L_126 : Cond.methodLink R_L 126 y_L_frame ∈ Gw := gm 717 (by decide +kernel) (by decide)
theorem l_L_129 : Cond.methodLink R_L 129 y_M_frame ∈ Gw := gm 1045 (by decide +kernel) (by decide)
theorem l_L_130 : Cond.methodLink R_L 130 y_L_ground ∈ Gw := gm 754 (by decide +kernel) (by decide)
theorem l_L_132 : Cond.methodLink R_L 132 y_M_ground ∈ Gw := gm 1057 (by decide +kernel) (by decide)
theorem l_L_133 : Cond.methodLink R_L 133 y_L_craft ∈ Gw := gm 778 (by decide +kernel) (by decide)
theorem l_L_135 : Cond.methodLink R_L 135 y_M_craft ∈ Gw := gm 1065 (by decide +kernel) (by decide)
theorem l_L_136 : Cond.methodLink R_L 136 y_L_flight ∈ Gw := gm 793 (by decide +kernel) (by decide)
theorem l_L_139 : Cond.methodLink R_L 139 y_M_flight ∈ Gw := gm 1069 (by decide +kernel) (by decide)
theorem l_L_140 : Cond.methodLink R_L 140 y_T_packets ∈ Gw := gm 369 (by decide +kernel) (by decide)
theorem l_L_143 : Cond.methodLink R_L 143 y_M_packets ∈ Gw := gm 1073 (by decide +kernel) (by decide)
theorem l_L_144 : Cond.methodLink R_L 144 y_L_got ∈ Gw := gm 804 (by decide +kernel) (by decide)
theorem l_L_146 : Cond.methodLink R_L 146 y_M_got ∈ Gw := gm 1077 (by decide +kernel) (by decide)
theorem f_M_7 : Cond.fieldLink R_M 7 "TeleStackModel" "window" "I" ∈ Gw := gm 833 (by decide +kernel) (by decide)
theorem f_M_13 : Cond.fieldLink R_M 13 "TeleStackModel" "limit" "I" ∈ Gw := gm 834 (by decide +kernel) (by decide)
theorem f_M_16 : Cond.fieldLink R_M 16 "TeleStackModel" "span" "I" ∈ Gw := gm 835 (by decide +kernel) (by decide)
theorem f_M_19 : Cond.fieldLink R_M 19 "TeleStackModel" "commands" "[I" ∈ Gw := gm 841 (by decide +kernel) (by decide)
theorem f_M_23 : Cond.fieldLink R_M 23 "TeleStackModel" "marked" "[Z" ∈ Gw := gm 842 (by decide +kernel) (by decide)
theorem f_M_27 : Cond.fieldLink R_M 27 "TeleStackModel" "kind" "[I" ∈ Gw := gm 844 (by decide +kernel) (by decide)
theorem f_M_30 : Cond.fieldLink R_M 30 "TeleStackModel" "number" "[I" ∈ Gw := gm 845 (by decide +kernel) (by decide)
theorem f_M_33 : Cond.fieldLink R_M 33 "TeleStackModel" "word" "[I" ∈ Gw := gm 846 (by decide +kernel) (by decide)
theorem f_M_36 : Cond.fieldLink R_M 36 "TeleStackModel" "queue" "[I" ∈ Gw := gm 851 (by decide +kernel) (by decide)
theorem f_M_39 : Cond.fieldLink R_M 39 "TeleStackModel" "report" "[I" ∈ Gw := gm 853 (by decide +kernel) (by decide)
theorem f_M_42 : Cond.fieldLink R_M 42 "TeleStackModel" "from" "[I" ∈ Gw := gm 854 (by decide +kernel) (by decide)
theorem f_M_45 : Cond.fieldLink R_M 45 "TeleStackModel" "cells" "[I" ∈ Gw := gm 855 (by decide +kernel) (by decide)
theorem f_M_48 : Cond.fieldLink R_M 48 "TeleStackModel" "stream" "[I" ∈ Gw := gm 856 (by decide +kernel) (by decide)
theorem f_M_51 : Cond.fieldLink R_M 51 "TeleStackModel" "made" "[I" ∈ Gw := gm 857 (by decide +kernel) (by decide)
theorem f_M_54 : Cond.fieldLink R_M 54 "TeleStackModel" "awaits" "[I" ∈ Gw := gm 858 (by decide +kernel) (by decide)
theorem f_M_57 : Cond.fieldLink R_M 57 "TeleStackModel" "lostStep" "[Z" ∈ Gw := gm 859 (by decide +kernel) (by decide)
theorem f_M_60 : Cond.fieldLink R_M 60 "TeleStackModel" "has" "[I" ∈ Gw := gm 860 (by decide +kernel) (by decide)
theorem f_M_63 : Cond.fieldLink R_M 63 "TeleStackModel" "tag" "[I" ∈ Gw := gm 861 (by decide +kernel) (by decide)
theorem f_M_66 : Cond.fieldLink R_M 66 "TeleStackModel" "size" "[I" ∈ Gw := gm 862 (by decide +kernel) (by decide)
theorem f_M_69 : Cond.fieldLink R_M 69 "TeleStackModel" "sum" "[I" ∈ Gw := gm 863 (by decide +kernel) (by decide)
theorem f_M_72 : Cond.fieldLink R_M 72 "TeleStackModel" "frame" "[I" ∈ Gw := gm 864 (by decide +kernel) (by decide)
theorem f_M_75 : Cond.fieldLink R_M 75 "TeleStackModel" "got" "[I" ∈ Gw := gm 866 (by decide +kernel) (by decide)
theorem f_M_78 : Cond.fieldLink R_M 78 "TeleStackModel" "thrown" "I" ∈ Gw := gm 826 (by decide +kernel) (by decide)
theorem f_M_81 : Cond.fieldLink R_M 81 "TeleStackModel" "mode" "I" ∈ Gw := gm 827 (by decide +kernel) (by decide)
theorem l_M_84 : Cond.methodLink R_M 84 y_M_outside ∈ Gw := gm 958 (by decide +kernel) (by decide)
theorem l_M_88 : Cond.methodLink R_M 88 y_M_fails ∈ Gw := gm 961 (by decide +kernel) (by decide)
theorem f_M_92 : Cond.fieldLink R_M 92 "TeleStackModel" "next" "I" ∈ Gw := gm 828 (by decide +kernel) (by decide)
theorem f_M_95 : Cond.fieldLink R_M 95 "TeleStackModel" "oldest" "I" ∈ Gw := gm 829 (by decide +kernel) (by decide)
theorem f_M_98 : Cond.fieldLink R_M 98 "TeleStackModel" "timer" "I" ∈ Gw := gm 831 (by decide +kernel) (by decide)
theorem f_M_101 : Cond.fieldLink R_M 101 "TeleStackModel" "due" "Z" ∈ Gw := gm 838 (by decide +kernel) (by decide)
theorem f_M_105 : Cond.fieldLink R_M 105 "TeleStackModel" "begins" "I" ∈ Gw := gm 839 (by decide +kernel) (by decide)
theorem f_M_108 : Cond.fieldLink R_M 108 "TeleStackModel" "tries" "I" ∈ Gw := gm 830 (by decide +kernel) (by decide)
theorem f_M_111 : Cond.fieldLink R_M 111 "TeleStackModel" "reason" "I" ∈ Gw := gm 832 (by decide +kernel) (by decide)
theorem f_M_114 : Cond.fieldLink R_M 114 "TeleStackModel" "open" "I" ∈ Gw := gm 840 (by decide +kernel) (by decide)
theorem f_M_117 : Cond.fieldLink R_M 117 "TeleStackModel" "full" "Z" ∈ Gw := gm 836 (by decide +kernel) (by decide)
theorem l_M_120 : Cond.methodLink R_M 120 y_M_ends ∈ Gw := gm 977 (by decide +kernel) (by decide)
theorem f_M_123 : Cond.fieldLink R_M 123 "TeleStackModel" "slot" "I" ∈ Gw := gm 837 (by decide +kernel) (by decide)
theorem l_M_126 : Cond.methodLink R_M 126 y_M_alarm ∈ Gw := gm 993 (by decide +kernel) (by decide)
theorem f_M_130 : Cond.fieldLink R_M 130 "TeleStackModel" "flights" "I" ∈ Gw := gm 843 (by decide +kernel) (by decide)
theorem l_M_133 : Cond.methodLink R_M 133 y_M_resend ∈ Gw := gm 997 (by decide +kernel) (by decide)
theorem l_M_136 : Cond.methodLink R_M 136 y_M_rings ∈ Gw := gm 989 (by decide +kernel) (by decide)
theorem l_M_139 : Cond.methodLink R_M 139 y_M_sends ∈ Gw := gm 1001 (by decide +kernel) (by decide)
theorem l_M_143 : Cond.methodLink R_M 143 y_M_out ∈ Gw := gm 1009 (by decide +kernel) (by decide)
theorem f_M_146 : Cond.fieldLink R_M 146 "TeleStackModel" "expected" "I" ∈ Gw := gm 848 (by decide +kernel) (by decide)
theorem l_M_149 : Cond.methodLink R_M 149 y_M_comes ∈ Gw := gm 1013 (by decide +kernel) (by decide)
theorem f_M_153 : Cond.fieldLink R_M 153 "TeleStackModel" "gate" "I" ∈ Gw := gm 847 (by decide +kernel) (by decide)
theorem f_M_156 : Cond.fieldLink R_M 156 "TeleStackModel" "again" "Z" ∈ Gw := gm 849 (by decide +kernel) (by decide)
theorem f_M_159 : Cond.fieldLink R_M 159 "TeleStackModel" "queued" "I" ∈ Gw := gm 850 (by decide +kernel) (by decide)
theorem f_M_162 : Cond.fieldLink R_M 162 "TeleStackModel" "reports" "I" ∈ Gw := gm 852 (by decide +kernel) (by decide)
theorem l_M_165 : Cond.methodLink R_M 165 y_M_read ∈ Gw := gm 1033 (by decide +kernel) (by decide)
theorem l_M_169 : Cond.methodLink R_M 169 y_M_puts ∈ Gw := gm 1041 (by decide +kernel) (by decide)
theorem l_M_172 : Cond.methodLink R_M 172 y_M_comesDown ∈ Gw := gm 1049 (by decide +kernel) (by decide)
theorem l_M_176 : Cond.methodLink R_M 176 y_M_readCell ∈ Gw := gm 1053 (by decide +kernel) (by decide)
theorem f_M_179 : Cond.fieldLink R_M 179 "TeleStackModel" "packets" "I" ∈ Gw := gm 865 (by decide +kernel) (by decide)
theorem l_M_182 : Cond.methodLink R_M 182 y_M_marks ∈ Gw := gm 1061 (by decide +kernel) (by decide)
theorem f_Rc_9 : Cond.fieldLink R_Rc 9 "TeleStack$Received" "channels" "[I" ∈ Gw := gm 237 (by decide +kernel) (by decide)
theorem f_Rc_13 : Cond.fieldLink R_Rc 13 "TeleStack$Received" "tags" "[I" ∈ Gw := gm 238 (by decide +kernel) (by decide)
theorem f_Rc_16 : Cond.fieldLink R_Rc 16 "TeleStack$Received" "lengths" "[I" ∈ Gw := gm 239 (by decide +kernel) (by decide)
theorem f_Rc_19 : Cond.fieldLink R_Rc 19 "TeleStack$Received" "sums" "[I" ∈ Gw := gm 240 (by decide +kernel) (by decide)
theorem f_Rc_22 : Cond.fieldLink R_Rc 22 "TeleStack$Received" "size" "I" ∈ Gw := gm 241 (by decide +kernel) (by decide)
theorem f_Rp_9 : Cond.fieldLink R_Rp 9 "TeleStack$Reports" "expected" "[I" ∈ Gw := gm 54 (by decide +kernel) (by decide)
theorem f_Rp_15 : Cond.fieldLink R_Rp 15 "TeleStack$Reports" "again" "[Z" ∈ Gw := gm 55 (by decide +kernel) (by decide)
theorem f_Rp_19 : Cond.fieldLink R_Rp 19 "TeleStack$Reports" "gates" "[I" ∈ Gw := gm 56 (by decide +kernel) (by decide)
theorem f_Rp_22 : Cond.fieldLink R_Rp 22 "TeleStack$Reports" "size" "I" ∈ Gw := gm 57 (by decide +kernel) (by decide)
theorem f_St_11 : Cond.fieldLink R_St 11 "TeleStack$Stream" "cells" "[I" ∈ Gw := gm 170 (by decide +kernel) (by decide)
theorem f_St_15 : Cond.fieldLink R_St 15 "TeleStack$Stream" "tags" "[Z" ∈ Gw := gm 171 (by decide +kernel) (by decide)
theorem f_St_19 : Cond.fieldLink R_St 19 "TeleStack$Stream" "size" "I" ∈ Gw := gm 172 (by decide +kernel) (by decide)
theorem l_St_23 : Cond.methodLink R_St 23 y_St_writeHead ∈ Gw := gm 709 (by decide +kernel) (by decide)
theorem l_St_27 : Cond.methodLink R_St 27 y_St_put ∈ Gw := gm 713 (by decide +kernel) (by decide)
theorem l_St_31 : Cond.methodLink R_St 31 y_St_writeIdle ∈ Gw := gm 729 (by decide +kernel) (by decide)
theorem f_St_34 : Cond.fieldLink R_St 34 "TeleStack$Stream" "count" "I" ∈ Gw := gm 173 (by decide +kernel) (by decide)
theorem l_St_48 : Cond.methodLink R_St 48 y_St_removeFrame ∈ Gw := gm 737 (by decide +kernel) (by decide)
theorem l_St_51 : Cond.methodLink R_St 51 y_Ma_max ∈ Gw := gm 733 (by decide +kernel) (by decide)
theorem f_T_10 : Cond.fieldLink R_T 10 "TeleStack" "upFrames" "LTeleStack$UpFrames;" ∈ Gw := gm 253 (by decide +kernel) (by decide)
theorem f_T_19 : Cond.fieldLink R_T 19 "TeleStack" "reports" "LTeleStack$Reports;" ∈ Gw := gm 254 (by decide +kernel) (by decide)
theorem f_T_26 : Cond.fieldLink R_T 26 "TeleStack" "station" "LTeleStack$Ground;" ∈ Gw := gm 255 (by decide +kernel) (by decide)
theorem f_T_33 : Cond.fieldLink R_T 33 "TeleStack" "vessel" "LTeleStack$Craft;" ∈ Gw := gm 256 (by decide +kernel) (by decide)
theorem f_T_39 : Cond.fieldLink R_T 39 "TeleStack" "streams" "[LTeleStack$Stream;" ∈ Gw := gm 257 (by decide +kernel) (by decide)
theorem f_T_45 : Cond.fieldLink R_T 45 "TeleStack" "assemblers" "[LTeleStack$Assembler;" ∈ Gw := gm 258 (by decide +kernel) (by decide)
theorem l_T_50 : Cond.methodLink R_T 50 y_As_init ∈ Gw := gm 184 (by decide +kernel) (by decide)
theorem f_T_56 : Cond.fieldLink R_T 56 "TeleStack" "downFrame" "LTeleStack$DownFrame;" ∈ Gw := gm 259 (by decide +kernel) (by decide)
theorem f_T_63 : Cond.fieldLink R_T 63 "TeleStack" "received" "LTeleStack$Received;" ∈ Gw := gm 260 (by decide +kernel) (by decide)
theorem l_T_67 : Cond.methodLink R_T 67 y_Gr_isIdle ∈ Gw := gm 386 (by decide +kernel) (by decide)
theorem l_T_78 : Cond.methodLink R_T 78 y_T_isWithin ∈ Gw := gm 459 (by decide +kernel) (by decide)
theorem l_T_87 : Cond.methodLink R_T 87 y_Gr_adjust ∈ Gw := gm 478 (by decide +kernel) (by decide)
theorem l_T_93 : Cond.methodLink R_T 93 y_Gr_renumber ∈ Gw := gm 490 (by decide +kernel) (by decide)
theorem l_T_98 : Cond.methodLink R_T 98 y_Gr_start ∈ Gw := gm 502 (by decide +kernel) (by decide)
theorem l_T_103 : Cond.methodLink R_T 103 y_Gr_finish ∈ Gw := gm 514 (by decide +kernel) (by decide)
theorem l_T_106 : Cond.methodLink R_T 106 y_Gr_takesCommands ∈ Gw := gm 522 (by decide +kernel) (by decide)
theorem l_T_111 : Cond.methodLink R_T 111 y_Gr_offer ∈ Gw := gm 527 (by decide +kernel) (by decide)
theorem l_T_115 : Cond.methodLink R_T 115 y_Gr_pass ∈ Gw := gm 282 (by decide +kernel) (by decide)
theorem l_T_119 : Cond.methodLink R_T 119 y_Uf_has ∈ Gw := gm 539 (by decide +kernel) (by decide)
theorem l_T_127 : Cond.methodLink R_T 127 y_Uf_kind ∈ Gw := gm 559 (by decide +kernel) (by decide)
theorem l_T_131 : Cond.methodLink R_T 131 y_Uf_numberOf ∈ Gw := gm 563 (by decide +kernel) (by decide)
theorem l_T_134 : Cond.methodLink R_T 134 y_Uf_commandOf ∈ Gw := gm 567 (by decide +kernel) (by decide)
theorem l_T_137 : Cond.methodLink R_T 137 y_Cr_receive ∈ Gw := gm 571 (by decide +kernel) (by decide)
theorem l_T_140 : Cond.methodLink R_T 140 y_Uf_remove ∈ Gw := gm 594 (by decide +kernel) (by decide)
theorem l_T_143 : Cond.methodLink R_T 143 y_Cr_queued ∈ Gw := gm 613 (by decide +kernel) (by decide)
theorem l_T_152 : Cond.methodLink R_T 152 y_Cr_takeFirst ∈ Gw := gm 633 (by decide +kernel) (by decide)
theorem l_T_155 : Cond.methodLink R_T 155 y_Rp_add ∈ Gw := gm 365 (by decide +kernel) (by decide)
theorem l_T_159 : Cond.methodLink R_T 159 y_Rp_has ∈ Gw := gm 644 (by decide +kernel) (by decide)
theorem l_T_162 : Cond.methodLink R_T 162 y_Rp_expected ∈ Gw := gm 649 (by decide +kernel) (by decide)
theorem l_T_165 : Cond.methodLink R_T 165 y_Rp_again ∈ Gw := gm 653 (by decide +kernel) (by decide)
theorem l_T_168 : Cond.methodLink R_T 168 y_Rp_gate ∈ Gw := gm 657 (by decide +kernel) (by decide)
theorem l_T_171 : Cond.methodLink R_T 171 y_Gr_hear ∈ Gw := gm 661 (by decide +kernel) (by decide)
theorem l_T_175 : Cond.methodLink R_T 175 y_Rp_remove ∈ Gw := gm 690 (by decide +kernel) (by decide)
theorem l_T_176 : Cond.methodLink R_T 176 y_T_isChannel ∈ Gw := gm 701 (by decide +kernel) (by decide)
theorem l_T_181 : Cond.methodLink R_T 181 y_St_write ∈ Gw := gm 705 (by decide +kernel) (by decide)
theorem l_T_187 : Cond.methodLink R_T 187 y_St_fill ∈ Gw := gm 725 (by decide +kernel) (by decide)
theorem l_T_191 : Cond.methodLink R_T 191 y_As_receive ∈ Gw := gm 741 (by decide +kernel) (by decide)
theorem l_T_198 : Cond.methodLink R_T 198 y_Uf_size ∈ Gw := gm 761 (by decide +kernel) (by decide)
theorem l_T_201 : Cond.methodLink R_T 201 y_Rp_size ∈ Gw := gm 765 (by decide +kernel) (by decide)
theorem l_T_204 : Cond.methodLink R_T 204 y_Gr_tell ∈ Gw := gm 770 (by decide +kernel) (by decide)
theorem l_T_207 : Cond.methodLink R_T 207 y_St_size ∈ Gw := gm 785 (by decide +kernel) (by decide)
theorem l_T_208 : Cond.methodLink R_T 208 y_Cr_tell ∈ Gw := gm 789 (by decide +kernel) (by decide)
theorem l_T_209 : Cond.methodLink R_T 209 y_Uf_tell ∈ Gw := gm 800 (by decide +kernel) (by decide)
theorem l_T_212 : Cond.methodLink R_T 212 y_Rc_size ∈ Gw := gm 373 (by decide +kernel) (by decide)
theorem l_T_213 : Cond.methodLink R_T 213 y_Rc_has ∈ Gw := gm 811 (by decide +kernel) (by decide)
theorem l_T_216 : Cond.methodLink R_T 216 y_Rc_tell ∈ Gw := gm 816 (by decide +kernel) (by decide)
theorem l_T_217 : Cond.methodLink R_T 217 y_Ma_floorMod ∈ Gw := gm 578 (by decide +kernel) (by decide)
theorem f_Uf_9 : Cond.fieldLink R_Uf 9 "TeleStack$UpFrames" "kinds" "[I" ∈ Gw := gm 34 (by decide +kernel) (by decide)
theorem f_Uf_15 : Cond.fieldLink R_Uf 15 "TeleStack$UpFrames" "numbers" "[I" ∈ Gw := gm 35 (by decide +kernel) (by decide)
theorem f_Uf_18 : Cond.fieldLink R_Uf 18 "TeleStack$UpFrames" "commands" "[I" ∈ Gw := gm 36 (by decide +kernel) (by decide)
theorem f_Uf_21 : Cond.fieldLink R_Uf 21 "TeleStack$UpFrames" "size" "I" ∈ Gw := gm 37 (by decide +kernel) (by decide)
theorem f_Un_9 : Cond.fieldLink R_Un 9 "TeleStack$Unacknowledged" "numbers" "[I" ∈ Gw := gm 80 (by decide +kernel) (by decide)
theorem f_Un_15 : Cond.fieldLink R_Un 15 "TeleStack$Unacknowledged" "commands" "[I" ∈ Gw := gm 81 (by decide +kernel) (by decide)
theorem f_Un_18 : Cond.fieldLink R_Un 18 "TeleStack$Unacknowledged" "marks" "[Z" ∈ Gw := gm 82 (by decide +kernel) (by decide)
theorem f_Un_22 : Cond.fieldLink R_Un 22 "TeleStack$Unacknowledged" "size" "I" ∈ Gw := gm 83 (by decide +kernel) (by decide)
set_option maxRecDepth 100000 in
theorem gc_T_init : Cond.code y_T_init b_T_init 2 none ∈ Gw ∧ Cond.initialized y_T_init.cls ∈ Gw := ⟨gm 24 rfl (by decide), gm 1 (by decide +kernel) (by decide)⟩
set_option maxRecDepth 100000 in
theorem gc_T_tune : Cond.code y_T_tune b_T_tune 4 none ∈ Gw ∧ Cond.initialized y_T_tune.cls ∈ Gw := ⟨gm 385 rfl (by decide), gm 1 (by decide +kernel) (by decide)⟩
theorem m_T_tune : Cond.instanceMethod y_T_tune ∈ Gw ∧ Cond.selects R_T y_T_tune y_T_tune ∈ Gw := ⟨gm 383 (by decide +kernel) (by decide), gm 384 (by decide +kernel) (by decide)⟩
set_option maxRecDepth 100000 in
theorem gc_T_number : Cond.code y_T_number b_T_number 2 none ∈ Gw ∧ Cond.initialized y_T_number.cls ∈ Gw := ⟨gm 488 rfl (by decide), gm 1 (by decide +kernel) (by decide)⟩
theorem m_T_number : Cond.instanceMethod y_T_number ∈ Gw ∧ Cond.selects R_T y_T_number y_T_number ∈ Gw := ⟨gm 486 (by decide +kernel) (by decide), gm 487 (by decide +kernel) (by decide)⟩
set_option maxRecDepth 100000 in
theorem gc_T_begin : Cond.code y_T_begin b_T_begin 2 none ∈ Gw ∧ Cond.initialized y_T_begin.cls ∈ Gw := ⟨gm 500 rfl (by decide), gm 1 (by decide +kernel) (by decide)⟩
theorem m_T_begin : Cond.instanceMethod y_T_begin ∈ Gw ∧ Cond.selects R_T y_T_begin y_T_begin ∈ Gw := ⟨gm 498 (by decide +kernel) (by decide), gm 499 (by decide +kernel) (by decide)⟩
set_option maxRecDepth 100000 in
theorem gc_T_end : Cond.code y_T_end b_T_end 1 none ∈ Gw ∧ Cond.initialized y_T_end.cls ∈ Gw := ⟨gm 512 rfl (by decide), gm 1 (by decide +kernel) (by decide)⟩
theorem m_T_end : Cond.instanceMethod y_T_end ∈ Gw ∧ Cond.selects R_T y_T_end y_T_end ∈ Gw := ⟨gm 510 (by decide +kernel) (by decide), gm 511 (by decide +kernel) (by decide)⟩
set_option maxRecDepth 100000 in
theorem gc_T_command : Cond.code y_T_command b_T_command 2 (some .boolean) ∈ Gw ∧ Cond.initialized y_T_command.cls ∈ Gw := ⟨gm 521 rfl (by decide), gm 1 (by decide +kernel) (by decide)⟩
theorem m_T_command : Cond.instanceMethod y_T_command ∈ Gw ∧ Cond.selects R_T y_T_command y_T_command ∈ Gw := ⟨gm 519 (by decide +kernel) (by decide), gm 520 (by decide +kernel) (by decide)⟩
set_option maxRecDepth 100000 in
theorem gc_T_tick : Cond.code y_T_tick b_T_tick 1 (some .int) ∈ Gw ∧ Cond.initialized y_T_tick.cls ∈ Gw := ⟨gm 281 rfl (by decide), gm 1 (by decide +kernel) (by decide)⟩
theorem m_T_tick : Cond.instanceMethod y_T_tick ∈ Gw ∧ Cond.selects R_T y_T_tick y_T_tick ∈ Gw := ⟨gm 279 (by decide +kernel) (by decide), gm 280 (by decide +kernel) (by decide)⟩
set_option maxRecDepth 100000 in
theorem gc_T_raise : Cond.code y_T_raise b_T_raise 2 none ∈ Gw ∧ Cond.initialized y_T_raise.cls ∈ Gw := ⟨gm 538 rfl (by decide), gm 1 (by decide +kernel) (by decide)⟩
theorem m_T_raise : Cond.instanceMethod y_T_raise ∈ Gw ∧ Cond.selects R_T y_T_raise y_T_raise ∈ Gw := ⟨gm 536 (by decide +kernel) (by decide), gm 537 (by decide +kernel) (by decide)⟩
set_option maxRecDepth 100000 in
theorem gc_T_drop : Cond.code y_T_drop b_T_drop 2 none ∈ Gw ∧ Cond.initialized y_T_drop.cls ∈ Gw := ⟨gm 604 rfl (by decide), gm 1 (by decide +kernel) (by decide)⟩
theorem m_T_drop : Cond.instanceMethod y_T_drop ∈ Gw ∧ Cond.selects R_T y_T_drop y_T_drop ∈ Gw := ⟨gm 602 (by decide +kernel) (by decide), gm 603 (by decide +kernel) (by decide)⟩
set_option maxRecDepth 100000 in
theorem gc_T_take : Cond.code y_T_take b_T_take 1 (some .int) ∈ Gw ∧ Cond.initialized y_T_take.cls ∈ Gw := ⟨gm 612 rfl (by decide), gm 1 (by decide +kernel) (by decide)⟩
theorem m_T_take : Cond.instanceMethod y_T_take ∈ Gw ∧ Cond.selects R_T y_T_take y_T_take ∈ Gw := ⟨gm 610 (by decide +kernel) (by decide), gm 611 (by decide +kernel) (by decide)⟩
set_option maxRecDepth 100000 in
theorem gc_T_report : Cond.code y_T_report b_T_report 1 (some .boolean) ∈ Gw ∧ Cond.initialized y_T_report.cls ∈ Gw := ⟨gm 364 rfl (by decide), gm 1 (by decide +kernel) (by decide)⟩
theorem m_T_report : Cond.instanceMethod y_T_report ∈ Gw ∧ Cond.selects R_T y_T_report y_T_report ∈ Gw := ⟨gm 362 (by decide +kernel) (by decide), gm 363 (by decide +kernel) (by decide)⟩
set_option maxRecDepth 100000 in
theorem gc_T_answer : Cond.code y_T_answer b_T_answer 3 none ∈ Gw ∧ Cond.initialized y_T_answer.cls ∈ Gw := ⟨gm 643 rfl (by decide), gm 1 (by decide +kernel) (by decide)⟩
theorem m_T_answer : Cond.instanceMethod y_T_answer ∈ Gw ∧ Cond.selects R_T y_T_answer y_T_answer ∈ Gw := ⟨gm 641 (by decide +kernel) (by decide), gm 642 (by decide +kernel) (by decide)⟩
set_option maxRecDepth 100000 in
theorem gc_T_packet : Cond.code y_T_packet b_T_packet 4 (some .boolean) ∈ Gw ∧ Cond.initialized y_T_packet.cls ∈ Gw := ⟨gm 700 rfl (by decide), gm 1 (by decide +kernel) (by decide)⟩
theorem m_T_packet : Cond.instanceMethod y_T_packet ∈ Gw ∧ Cond.selects R_T y_T_packet y_T_packet ∈ Gw := ⟨gm 698 (by decide +kernel) (by decide), gm 699 (by decide +kernel) (by decide)⟩
set_option maxRecDepth 100000 in
theorem gc_T_frame : Cond.code y_T_frame b_T_frame 3 (some .int) ∈ Gw ∧ Cond.initialized y_T_frame.cls ∈ Gw := ⟨gm 723 rfl (by decide), gm 1 (by decide +kernel) (by decide)⟩
theorem m_T_frame : Cond.instanceMethod y_T_frame ∈ Gw ∧ Cond.selects R_T y_T_frame y_T_frame ∈ Gw := ⟨gm 721 (by decide +kernel) (by decide), gm 722 (by decide +kernel) (by decide)⟩
set_option maxRecDepth 100000 in
theorem gc_T_ground : Cond.code y_T_ground b_T_ground 2 (some .int) ∈ Gw ∧ Cond.initialized y_T_ground.cls ∈ Gw := ⟨gm 760 rfl (by decide), gm 1 (by decide +kernel) (by decide)⟩
theorem m_T_ground : Cond.instanceMethod y_T_ground ∈ Gw ∧ Cond.selects R_T y_T_ground y_T_ground ∈ Gw := ⟨gm 758 (by decide +kernel) (by decide), gm 759 (by decide +kernel) (by decide)⟩
set_option maxRecDepth 100000 in
theorem gc_T_craft : Cond.code y_T_craft b_T_craft 2 (some .int) ∈ Gw ∧ Cond.initialized y_T_craft.cls ∈ Gw := ⟨gm 784 rfl (by decide), gm 1 (by decide +kernel) (by decide)⟩
theorem m_T_craft : Cond.instanceMethod y_T_craft ∈ Gw ∧ Cond.selects R_T y_T_craft y_T_craft ∈ Gw := ⟨gm 782 (by decide +kernel) (by decide), gm 783 (by decide +kernel) (by decide)⟩
set_option maxRecDepth 100000 in
theorem gc_T_flight : Cond.code y_T_flight b_T_flight 3 (some .int) ∈ Gw ∧ Cond.initialized y_T_flight.cls ∈ Gw := ⟨gm 799 rfl (by decide), gm 1 (by decide +kernel) (by decide)⟩
theorem m_T_flight : Cond.instanceMethod y_T_flight ∈ Gw ∧ Cond.selects R_T y_T_flight y_T_flight ∈ Gw := ⟨gm 797 (by decide +kernel) (by decide), gm 798 (by decide +kernel) (by decide)⟩
set_option maxRecDepth 100000 in
theorem gc_T_packets : Cond.code y_T_packets b_T_packets 1 (some .int) ∈ Gw ∧ Cond.initialized y_T_packets.cls ∈ Gw := ⟨gm 372 rfl (by decide), gm 1 (by decide +kernel) (by decide)⟩
theorem m_T_packets : Cond.instanceMethod y_T_packets ∈ Gw ∧ Cond.selects R_T y_T_packets y_T_packets ∈ Gw := ⟨gm 370 (by decide +kernel) (by decide), gm 371 (by decide +kernel) (by decide)⟩
set_option maxRecDepth 100000 in
theorem gc_T_got : Cond.code y_T_got b_T_got 3 (some .int) ∈ Gw ∧ Cond.initialized y_T_got.cls ∈ Gw := ⟨gm 810 rfl (by decide), gm 1 (by decide +kernel) (by decide)⟩
theorem m_T_got : Cond.instanceMethod y_T_got ∈ Gw ∧ Cond.selects R_T y_T_got y_T_got ∈ Gw := ⟨gm 808 (by decide +kernel) (by decide), gm 809 (by decide +kernel) (by decide)⟩
set_option maxRecDepth 100000 in
theorem gc_T_isWithin : Cond.code y_T_isWithin b_T_isWithin 3 (some .boolean) ∈ Gw ∧ Cond.initialized y_T_isWithin.cls ∈ Gw := ⟨gm 461 rfl (by decide), gm 1 (by decide +kernel) (by decide)⟩
theorem m_T_isWithin : Cond.static y_T_isWithin ∈ Gw := gm 460 (by decide +kernel) (by decide)
set_option maxRecDepth 100000 in
theorem gc_T_isChannel : Cond.code y_T_isChannel b_T_isChannel 1 (some .boolean) ∈ Gw ∧ Cond.initialized y_T_isChannel.cls ∈ Gw := ⟨gm 703 rfl (by decide), gm 1 (by decide +kernel) (by decide)⟩
theorem m_T_isChannel : Cond.static y_T_isChannel ∈ Gw := gm 702 (by decide +kernel) (by decide)
set_option maxRecDepth 100000 in
theorem gc_T_following : Cond.code y_T_following b_T_following 1 (some .int) ∈ Gw ∧ Cond.initialized y_T_following.cls ∈ Gw := ⟨gm 360 rfl (by decide), gm 1 (by decide +kernel) (by decide)⟩
theorem m_T_following : Cond.static y_T_following ∈ Gw := gm 359 (by decide +kernel) (by decide)
set_option maxRecDepth 100000 in
theorem gc_T_distance : Cond.code y_T_distance b_T_distance 2 (some .int) ∈ Gw ∧ Cond.initialized y_T_distance.cls ∈ Gw := ⟨gm 577 rfl (by decide), gm 1 (by decide +kernel) (by decide)⟩
theorem m_T_distance : Cond.static y_T_distance ∈ Gw := gm 576 (by decide +kernel) (by decide)
set_option maxRecDepth 100000 in
theorem gc_M_init : Cond.code y_M_init b_M_init 1 none ∈ Gw ∧ Cond.initialized y_M_init.cls ∈ Gw := ⟨gm 824 rfl (by decide), gm 11 (by decide +kernel) (by decide)⟩
set_option maxRecDepth 100000 in
theorem gc_M_thrown : Cond.code y_M_thrown b_M_thrown 1 (some .int) ∈ Gw ∧ Cond.initialized y_M_thrown.cls ∈ Gw := ⟨gm 953 rfl (by decide), gm 11 (by decide +kernel) (by decide)⟩
theorem m_M_thrown : Cond.instanceMethod y_M_thrown ∈ Gw ∧ Cond.selects R_M y_M_thrown y_M_thrown ∈ Gw := ⟨gm 951 (by decide +kernel) (by decide), gm 952 (by decide +kernel) (by decide)⟩
set_option maxRecDepth 100000 in
theorem gc_M_outside : Cond.code y_M_outside b_M_outside 3 (some .boolean) ∈ Gw ∧ Cond.initialized y_M_outside.cls ∈ Gw := ⟨gm 960 rfl (by decide), gm 11 (by decide +kernel) (by decide)⟩
theorem m_M_outside : Cond.static y_M_outside ∈ Gw := gm 959 (by decide +kernel) (by decide)
set_option maxRecDepth 100000 in
theorem gc_M_fails : Cond.code y_M_fails b_M_fails 3 (some .boolean) ∈ Gw ∧ Cond.initialized y_M_fails.cls ∈ Gw := ⟨gm 964 rfl (by decide), gm 11 (by decide +kernel) (by decide)⟩
theorem m_M_fails : Cond.instanceMethod y_M_fails ∈ Gw ∧ Cond.selects R_M y_M_fails y_M_fails ∈ Gw := ⟨gm 963 (by decide +kernel) (by decide), gs (by decide +kernel) (by decide)⟩
set_option maxRecDepth 100000 in
theorem gc_M_tune : Cond.code y_M_tune b_M_tune 4 none ∈ Gw ∧ Cond.initialized y_M_tune.cls ∈ Gw := ⟨gm 957 rfl (by decide), gm 11 (by decide +kernel) (by decide)⟩
theorem m_M_tune : Cond.instanceMethod y_M_tune ∈ Gw ∧ Cond.selects R_M y_M_tune y_M_tune ∈ Gw := ⟨gm 955 (by decide +kernel) (by decide), gm 956 (by decide +kernel) (by decide)⟩
set_option maxRecDepth 100000 in
theorem gc_M_number : Cond.code y_M_number b_M_number 2 none ∈ Gw ∧ Cond.initialized y_M_number.cls ∈ Gw := ⟨gm 968 rfl (by decide), gm 11 (by decide +kernel) (by decide)⟩
theorem m_M_number : Cond.instanceMethod y_M_number ∈ Gw ∧ Cond.selects R_M y_M_number y_M_number ∈ Gw := ⟨gm 966 (by decide +kernel) (by decide), gm 967 (by decide +kernel) (by decide)⟩
set_option maxRecDepth 100000 in
theorem gc_M_begin : Cond.code y_M_begin b_M_begin 2 none ∈ Gw ∧ Cond.initialized y_M_begin.cls ∈ Gw := ⟨gm 972 rfl (by decide), gm 11 (by decide +kernel) (by decide)⟩
theorem m_M_begin : Cond.instanceMethod y_M_begin ∈ Gw ∧ Cond.selects R_M y_M_begin y_M_begin ∈ Gw := ⟨gm 970 (by decide +kernel) (by decide), gm 971 (by decide +kernel) (by decide)⟩
set_option maxRecDepth 100000 in
theorem gc_M_ends : Cond.code y_M_ends b_M_ends 1 none ∈ Gw ∧ Cond.initialized y_M_ends.cls ∈ Gw := ⟨gm 980 rfl (by decide), gm 11 (by decide +kernel) (by decide)⟩
theorem m_M_ends : Cond.instanceMethod y_M_ends ∈ Gw ∧ Cond.selects R_M y_M_ends y_M_ends ∈ Gw := ⟨gm 979 (by decide +kernel) (by decide), gs (by decide +kernel) (by decide)⟩
set_option maxRecDepth 100000 in
theorem gc_M_alarm : Cond.code y_M_alarm b_M_alarm 2 none ∈ Gw ∧ Cond.initialized y_M_alarm.cls ∈ Gw := ⟨gm 996 rfl (by decide), gm 11 (by decide +kernel) (by decide)⟩
theorem m_M_alarm : Cond.instanceMethod y_M_alarm ∈ Gw ∧ Cond.selects R_M y_M_alarm y_M_alarm ∈ Gw := ⟨gm 995 (by decide +kernel) (by decide), gs (by decide +kernel) (by decide)⟩
set_option maxRecDepth 100000 in
theorem gc_M_end : Cond.code y_M_end b_M_end 1 none ∈ Gw ∧ Cond.initialized y_M_end.cls ∈ Gw := ⟨gm 976 rfl (by decide), gm 11 (by decide +kernel) (by decide)⟩
theorem m_M_end : Cond.instanceMethod y_M_end ∈ Gw ∧ Cond.selects R_M y_M_end y_M_end ∈ Gw := ⟨gm 974 (by decide +kernel) (by decide), gm 975 (by decide +kernel) (by decide)⟩
set_option maxRecDepth 100000 in
theorem gc_M_command : Cond.code y_M_command b_M_command 2 (some .boolean) ∈ Gw ∧ Cond.initialized y_M_command.cls ∈ Gw := ⟨gm 984 rfl (by decide), gm 11 (by decide +kernel) (by decide)⟩
theorem m_M_command : Cond.instanceMethod y_M_command ∈ Gw ∧ Cond.selects R_M y_M_command y_M_command ∈ Gw := ⟨gm 982 (by decide +kernel) (by decide), gm 983 (by decide +kernel) (by decide)⟩
set_option maxRecDepth 100000 in
theorem gc_M_resend : Cond.code y_M_resend b_M_resend 3 none ∈ Gw ∧ Cond.initialized y_M_resend.cls ∈ Gw := ⟨gm 1000 rfl (by decide), gm 11 (by decide +kernel) (by decide)⟩
theorem m_M_resend : Cond.instanceMethod y_M_resend ∈ Gw ∧ Cond.selects R_M y_M_resend y_M_resend ∈ Gw := ⟨gm 999 (by decide +kernel) (by decide), gs (by decide +kernel) (by decide)⟩
set_option maxRecDepth 100000 in
theorem gc_M_sends : Cond.code y_M_sends b_M_sends 4 (some .int) ∈ Gw ∧ Cond.initialized y_M_sends.cls ∈ Gw := ⟨gm 1004 rfl (by decide), gm 11 (by decide +kernel) (by decide)⟩
theorem m_M_sends : Cond.instanceMethod y_M_sends ∈ Gw ∧ Cond.selects R_M y_M_sends y_M_sends ∈ Gw := ⟨gm 1003 (by decide +kernel) (by decide), gs (by decide +kernel) (by decide)⟩
set_option maxRecDepth 100000 in
theorem gc_M_rings : Cond.code y_M_rings b_M_rings 2 none ∈ Gw ∧ Cond.initialized y_M_rings.cls ∈ Gw := ⟨gm 992 rfl (by decide), gm 11 (by decide +kernel) (by decide)⟩
theorem m_M_rings : Cond.instanceMethod y_M_rings ∈ Gw ∧ Cond.selects R_M y_M_rings y_M_rings ∈ Gw := ⟨gm 991 (by decide +kernel) (by decide), gs (by decide +kernel) (by decide)⟩
set_option maxRecDepth 100000 in
theorem gc_M_tick : Cond.code y_M_tick b_M_tick 2 (some .int) ∈ Gw ∧ Cond.initialized y_M_tick.cls ∈ Gw := ⟨gm 988 rfl (by decide), gm 11 (by decide +kernel) (by decide)⟩
theorem m_M_tick : Cond.instanceMethod y_M_tick ∈ Gw ∧ Cond.selects R_M y_M_tick y_M_tick ∈ Gw := ⟨gm 986 (by decide +kernel) (by decide), gm 987 (by decide +kernel) (by decide)⟩
set_option maxRecDepth 100000 in
theorem gc_M_out : Cond.code y_M_out b_M_out 3 none ∈ Gw ∧ Cond.initialized y_M_out.cls ∈ Gw := ⟨gm 1012 rfl (by decide), gm 11 (by decide +kernel) (by decide)⟩
theorem m_M_out : Cond.instanceMethod y_M_out ∈ Gw ∧ Cond.selects R_M y_M_out y_M_out ∈ Gw := ⟨gm 1011 (by decide +kernel) (by decide), gs (by decide +kernel) (by decide)⟩
set_option maxRecDepth 100000 in
theorem gc_M_raise : Cond.code y_M_raise b_M_raise 6 none ∈ Gw ∧ Cond.initialized y_M_raise.cls ∈ Gw := ⟨gm 1008 rfl (by decide), gm 11 (by decide +kernel) (by decide)⟩
theorem m_M_raise : Cond.instanceMethod y_M_raise ∈ Gw ∧ Cond.selects R_M y_M_raise y_M_raise ∈ Gw := ⟨gm 1006 (by decide +kernel) (by decide), gm 1007 (by decide +kernel) (by decide)⟩
set_option maxRecDepth 100000 in
theorem gc_M_comes : Cond.code y_M_comes b_M_comes 3 none ∈ Gw ∧ Cond.initialized y_M_comes.cls ∈ Gw := ⟨gm 1016 rfl (by decide), gm 11 (by decide +kernel) (by decide)⟩
theorem m_M_comes : Cond.instanceMethod y_M_comes ∈ Gw ∧ Cond.selects R_M y_M_comes y_M_comes ∈ Gw := ⟨gm 1015 (by decide +kernel) (by decide), gs (by decide +kernel) (by decide)⟩
set_option maxRecDepth 100000 in
theorem gc_M_drop : Cond.code y_M_drop b_M_drop 2 none ∈ Gw ∧ Cond.initialized y_M_drop.cls ∈ Gw := ⟨gm 1020 rfl (by decide), gm 11 (by decide +kernel) (by decide)⟩
theorem m_M_drop : Cond.instanceMethod y_M_drop ∈ Gw ∧ Cond.selects R_M y_M_drop y_M_drop ∈ Gw := ⟨gm 1018 (by decide +kernel) (by decide), gm 1019 (by decide +kernel) (by decide)⟩
set_option maxRecDepth 100000 in
theorem gc_M_take : Cond.code y_M_take b_M_take 2 (some .int) ∈ Gw ∧ Cond.initialized y_M_take.cls ∈ Gw := ⟨gm 1024 rfl (by decide), gm 11 (by decide +kernel) (by decide)⟩
theorem m_M_take : Cond.instanceMethod y_M_take ∈ Gw ∧ Cond.selects R_M y_M_take y_M_take ∈ Gw := ⟨gm 1022 (by decide +kernel) (by decide), gm 1023 (by decide +kernel) (by decide)⟩
set_option maxRecDepth 100000 in
theorem gc_M_report : Cond.code y_M_report b_M_report 1 (some .boolean) ∈ Gw ∧ Cond.initialized y_M_report.cls ∈ Gw := ⟨gm 1028 rfl (by decide), gm 11 (by decide +kernel) (by decide)⟩
theorem m_M_report : Cond.instanceMethod y_M_report ∈ Gw ∧ Cond.selects R_M y_M_report y_M_report ∈ Gw := ⟨gm 1026 (by decide +kernel) (by decide), gm 1027 (by decide +kernel) (by decide)⟩
set_option maxRecDepth 100000 in
theorem gc_M_answer : Cond.code y_M_answer b_M_answer 5 none ∈ Gw ∧ Cond.initialized y_M_answer.cls ∈ Gw := ⟨gm 1032 rfl (by decide), gm 11 (by decide +kernel) (by decide)⟩
theorem m_M_answer : Cond.instanceMethod y_M_answer ∈ Gw ∧ Cond.selects R_M y_M_answer y_M_answer ∈ Gw := ⟨gm 1030 (by decide +kernel) (by decide), gm 1031 (by decide +kernel) (by decide)⟩
set_option maxRecDepth 100000 in
theorem gc_M_read : Cond.code y_M_read b_M_read 5 none ∈ Gw ∧ Cond.initialized y_M_read.cls ∈ Gw := ⟨gm 1036 rfl (by decide), gm 11 (by decide +kernel) (by decide)⟩
theorem m_M_read : Cond.instanceMethod y_M_read ∈ Gw ∧ Cond.selects R_M y_M_read y_M_read ∈ Gw := ⟨gm 1035 (by decide +kernel) (by decide), gs (by decide +kernel) (by decide)⟩
set_option maxRecDepth 100000 in
theorem gc_M_puts : Cond.code y_M_puts b_M_puts 3 none ∈ Gw ∧ Cond.initialized y_M_puts.cls ∈ Gw := ⟨gm 1044 rfl (by decide), gm 11 (by decide +kernel) (by decide)⟩
theorem m_M_puts : Cond.instanceMethod y_M_puts ∈ Gw ∧ Cond.selects R_M y_M_puts y_M_puts ∈ Gw := ⟨gm 1043 (by decide +kernel) (by decide), gs (by decide +kernel) (by decide)⟩
set_option maxRecDepth 100000 in
theorem gc_M_packet : Cond.code y_M_packet b_M_packet 5 (some .boolean) ∈ Gw ∧ Cond.initialized y_M_packet.cls ∈ Gw := ⟨gm 1040 rfl (by decide), gm 11 (by decide +kernel) (by decide)⟩
theorem m_M_packet : Cond.instanceMethod y_M_packet ∈ Gw ∧ Cond.selects R_M y_M_packet y_M_packet ∈ Gw := ⟨gm 1038 (by decide +kernel) (by decide), gm 1039 (by decide +kernel) (by decide)⟩
set_option maxRecDepth 100000 in
theorem gc_M_frame : Cond.code y_M_frame b_M_frame 5 (some .int) ∈ Gw ∧ Cond.initialized y_M_frame.cls ∈ Gw := ⟨gm 1048 rfl (by decide), gm 11 (by decide +kernel) (by decide)⟩
theorem m_M_frame : Cond.instanceMethod y_M_frame ∈ Gw ∧ Cond.selects R_M y_M_frame y_M_frame ∈ Gw := ⟨gm 1046 (by decide +kernel) (by decide), gm 1047 (by decide +kernel) (by decide)⟩
set_option maxRecDepth 100000 in
theorem gc_M_comesDown : Cond.code y_M_comesDown b_M_comesDown 6 none ∈ Gw ∧ Cond.initialized y_M_comesDown.cls ∈ Gw := ⟨gm 1052 rfl (by decide), gm 11 (by decide +kernel) (by decide)⟩
theorem m_M_comesDown : Cond.instanceMethod y_M_comesDown ∈ Gw ∧ Cond.selects R_M y_M_comesDown y_M_comesDown ∈ Gw := ⟨gm 1051 (by decide +kernel) (by decide), gs (by decide +kernel) (by decide)⟩
set_option maxRecDepth 100000 in
theorem gc_M_readCell : Cond.code y_M_readCell b_M_readCell 3 none ∈ Gw ∧ Cond.initialized y_M_readCell.cls ∈ Gw := ⟨gm 1056 rfl (by decide), gm 11 (by decide +kernel) (by decide)⟩
theorem m_M_readCell : Cond.instanceMethod y_M_readCell ∈ Gw ∧ Cond.selects R_M y_M_readCell y_M_readCell ∈ Gw := ⟨gm 1055 (by decide +kernel) (by decide), gs (by decide +kernel) (by decide)⟩
set_option maxRecDepth 100000 in
theorem gc_M_marks : Cond.code y_M_marks b_M_marks 3 (some .int) ∈ Gw ∧ Cond.initialized y_M_marks.cls ∈ Gw := ⟨gm 1064 rfl (by decide), gm 11 (by decide +kernel) (by decide)⟩
theorem m_M_marks : Cond.instanceMethod y_M_marks ∈ Gw ∧ Cond.selects R_M y_M_marks y_M_marks ∈ Gw := ⟨gm 1063 (by decide +kernel) (by decide), gs (by decide +kernel) (by decide)⟩
set_option maxRecDepth 100000 in
theorem gc_M_ground : Cond.code y_M_ground b_M_ground 2 (some .int) ∈ Gw ∧ Cond.initialized y_M_ground.cls ∈ Gw := ⟨gm 1060 rfl (by decide), gm 11 (by decide +kernel) (by decide)⟩
theorem m_M_ground : Cond.instanceMethod y_M_ground ∈ Gw ∧ Cond.selects R_M y_M_ground y_M_ground ∈ Gw := ⟨gm 1058 (by decide +kernel) (by decide), gm 1059 (by decide +kernel) (by decide)⟩
set_option maxRecDepth 100000 in
theorem gc_M_craft : Cond.code y_M_craft b_M_craft 2 (some .int) ∈ Gw ∧ Cond.initialized y_M_craft.cls ∈ Gw := ⟨gm 1068 rfl (by decide), gm 11 (by decide +kernel) (by decide)⟩
theorem m_M_craft : Cond.instanceMethod y_M_craft ∈ Gw ∧ Cond.selects R_M y_M_craft y_M_craft ∈ Gw := ⟨gm 1066 (by decide +kernel) (by decide), gm 1067 (by decide +kernel) (by decide)⟩
set_option maxRecDepth 100000 in
theorem gc_M_flight : Cond.code y_M_flight b_M_flight 3 (some .int) ∈ Gw ∧ Cond.initialized y_M_flight.cls ∈ Gw := ⟨gm 1072 rfl (by decide), gm 11 (by decide +kernel) (by decide)⟩
theorem m_M_flight : Cond.instanceMethod y_M_flight ∈ Gw ∧ Cond.selects R_M y_M_flight y_M_flight ∈ Gw := ⟨gm 1070 (by decide +kernel) (by decide), gm 1071 (by decide +kernel) (by decide)⟩
set_option maxRecDepth 100000 in
theorem gc_M_packets : Cond.code y_M_packets b_M_packets 1 (some .int) ∈ Gw ∧ Cond.initialized y_M_packets.cls ∈ Gw := ⟨gm 1076 rfl (by decide), gm 11 (by decide +kernel) (by decide)⟩
theorem m_M_packets : Cond.instanceMethod y_M_packets ∈ Gw ∧ Cond.selects R_M y_M_packets y_M_packets ∈ Gw := ⟨gm 1074 (by decide +kernel) (by decide), gm 1075 (by decide +kernel) (by decide)⟩
set_option maxRecDepth 100000 in
theorem gc_M_got : Cond.code y_M_got b_M_got 3 (some .int) ∈ Gw ∧ Cond.initialized y_M_got.cls ∈ Gw := ⟨gm 1080 rfl (by decide), gm 11 (by decide +kernel) (by decide)⟩
theorem m_M_got : Cond.instanceMethod y_M_got ∈ Gw ∧ Cond.selects R_M y_M_got y_M_got ∈ Gw := ⟨gm 1078 (by decide +kernel) (by decide), gm 1079 (by decide +kernel) (by decide)⟩
set_option maxRecDepth 100000 in
theorem gc_As_init : Cond.code y_As_init b_As_init 2 none ∈ Gw ∧ Cond.initialized y_As_init.cls ∈ Gw := ⟨gm 186 rfl (by decide), gm 8 (by decide +kernel) (by decide)⟩
set_option maxRecDepth 100000 in
theorem gc_As_receive : Cond.code y_As_receive b_As_receive 5 none ∈ Gw ∧ Cond.initialized y_As_receive.cls ∈ Gw := ⟨gm 744 rfl (by decide), gm 8 (by decide +kernel) (by decide)⟩
theorem m_As_receive : Cond.instanceMethod y_As_receive ∈ Gw ∧ Cond.selects R_As y_As_receive y_As_receive ∈ Gw := ⟨gm 742 (by decide +kernel) (by decide), gm 743 (by decide +kernel) (by decide)⟩
set_option maxRecDepth 100000 in
theorem gc_As_read : Cond.code y_As_read b_As_read 3 none ∈ Gw ∧ Cond.initialized y_As_read.cls ∈ Gw := ⟨gm 748 rfl (by decide), gm 8 (by decide +kernel) (by decide)⟩
theorem m_As_read : Cond.instanceMethod y_As_read ∈ Gw ∧ Cond.selects R_As y_As_read y_As_read ∈ Gw := ⟨gm 747 (by decide +kernel) (by decide), gs (by decide +kernel) (by decide)⟩
set_option maxRecDepth 100000 in
theorem gc_Cr_init : Cond.code y_Cr_init b_Cr_init 1 none ∈ Gw ∧ Cond.initialized y_Cr_init.cls ∈ Gw := ⟨gm 140 rfl (by decide), gm 6 (by decide +kernel) (by decide)⟩
set_option maxRecDepth 100000 in
theorem gc_Cr_queued : Cond.code y_Cr_queued b_Cr_queued 1 (some .int) ∈ Gw ∧ Cond.initialized y_Cr_queued.cls ∈ Gw := ⟨gm 616 rfl (by decide), gm 6 (by decide +kernel) (by decide)⟩
theorem m_Cr_queued : Cond.instanceMethod y_Cr_queued ∈ Gw ∧ Cond.selects R_Cr y_Cr_queued y_Cr_queued ∈ Gw := ⟨gm 614 (by decide +kernel) (by decide), gm 615 (by decide +kernel) (by decide)⟩
set_option maxRecDepth 100000 in
theorem gc_Cr_takeFirst : Cond.code y_Cr_takeFirst b_Cr_takeFirst 3 (some .int) ∈ Gw ∧ Cond.initialized y_Cr_takeFirst.cls ∈ Gw := ⟨gm 636 rfl (by decide), gm 6 (by decide +kernel) (by decide)⟩
theorem m_Cr_takeFirst : Cond.instanceMethod y_Cr_takeFirst ∈ Gw ∧ Cond.selects R_Cr y_Cr_takeFirst y_Cr_takeFirst ∈ Gw := ⟨gm 634 (by decide +kernel) (by decide), gm 635 (by decide +kernel) (by decide)⟩
set_option maxRecDepth 100000 in
theorem gc_Cr_receive : Cond.code y_Cr_receive b_Cr_receive 4 none ∈ Gw ∧ Cond.initialized y_Cr_receive.cls ∈ Gw := ⟨gm 574 rfl (by decide), gm 6 (by decide +kernel) (by decide)⟩
theorem m_Cr_receive : Cond.instanceMethod y_Cr_receive ∈ Gw ∧ Cond.selects R_Cr y_Cr_receive y_Cr_receive ∈ Gw := ⟨gm 572 (by decide +kernel) (by decide), gm 573 (by decide +kernel) (by decide)⟩
set_option maxRecDepth 100000 in
theorem gc_Cr_tell : Cond.code y_Cr_tell b_Cr_tell 2 (some .int) ∈ Gw ∧ Cond.initialized y_Cr_tell.cls ∈ Gw := ⟨gm 792 rfl (by decide), gm 6 (by decide +kernel) (by decide)⟩
theorem m_Cr_tell : Cond.instanceMethod y_Cr_tell ∈ Gw ∧ Cond.selects R_Cr y_Cr_tell y_Cr_tell ∈ Gw := ⟨gm 790 (by decide +kernel) (by decide), gm 791 (by decide +kernel) (by decide)⟩
set_option maxRecDepth 100000 in
theorem gc_Cr_reopen : Cond.code y_Cr_reopen b_Cr_reopen 1 none ∈ Gw ∧ Cond.initialized y_Cr_reopen.cls ∈ Gw := ⟨gm 593 rfl (by decide), gm 6 (by decide +kernel) (by decide)⟩
theorem m_Cr_reopen : Cond.instanceMethod y_Cr_reopen ∈ Gw ∧ Cond.selects R_Cr y_Cr_reopen y_Cr_reopen ∈ Gw := ⟨gm 592 (by decide +kernel) (by decide), gs (by decide +kernel) (by decide)⟩
set_option maxRecDepth 100000 in
theorem gc_Cr_receiveCommand : Cond.code y_Cr_receiveCommand b_Cr_receiveCommand 3 none ∈ Gw ∧ Cond.initialized y_Cr_receiveCommand.cls ∈ Gw := ⟨gm 584 rfl (by decide), gm 6 (by decide +kernel) (by decide)⟩
theorem m_Cr_receiveCommand : Cond.instanceMethod y_Cr_receiveCommand ∈ Gw ∧ Cond.selects R_Cr y_Cr_receiveCommand y_Cr_receiveCommand ∈ Gw := ⟨gm 583 (by decide +kernel) (by decide), gs (by decide +kernel) (by decide)⟩
set_option maxRecDepth 100000 in
theorem gc_Cr_receiveExpected : Cond.code y_Cr_receiveExpected b_Cr_receiveExpected 2 none ∈ Gw ∧ Cond.initialized y_Cr_receiveExpected.cls ∈ Gw := ⟨gm 588 rfl (by decide), gm 6 (by decide +kernel) (by decide)⟩
theorem m_Cr_receiveExpected : Cond.instanceMethod y_Cr_receiveExpected ∈ Gw ∧ Cond.selects R_Cr y_Cr_receiveExpected y_Cr_receiveExpected ∈ Gw := ⟨gm 587 (by decide +kernel) (by decide), gs (by decide +kernel) (by decide)⟩
set_option maxRecDepth 100000 in
theorem gc_Df_init : Cond.code y_Df_init b_Df_init 1 none ∈ Gw ∧ Cond.initialized y_Df_init.cls ∈ Gw := ⟨gm 214 rfl (by decide), gm 9 (by decide +kernel) (by decide)⟩
set_option maxRecDepth 100000 in
theorem gc_Gr_init : Cond.code y_Gr_init b_Gr_init 1 none ∈ Gw ∧ Cond.initialized y_Gr_init.cls ∈ Gw := ⟨gm 72 rfl (by decide), gm 4 (by decide +kernel) (by decide)⟩
set_option maxRecDepth 100000 in
theorem gc_Gr_isIdle : Cond.code y_Gr_isIdle b_Gr_isIdle 1 (some .boolean) ∈ Gw ∧ Cond.initialized y_Gr_isIdle.cls ∈ Gw := ⟨gm 389 rfl (by decide), gm 4 (by decide +kernel) (by decide)⟩
theorem m_Gr_isIdle : Cond.instanceMethod y_Gr_isIdle ∈ Gw ∧ Cond.selects R_Gr y_Gr_isIdle y_Gr_isIdle ∈ Gw := ⟨gm 387 (by decide +kernel) (by decide), gm 388 (by decide +kernel) (by decide)⟩
set_option maxRecDepth 100000 in
theorem gc_Gr_takesCommands : Cond.code y_Gr_takesCommands b_Gr_takesCommands 1 (some .boolean) ∈ Gw ∧ Cond.initialized y_Gr_takesCommands.cls ∈ Gw := ⟨gm 525 rfl (by decide), gm 4 (by decide +kernel) (by decide)⟩
theorem m_Gr_takesCommands : Cond.instanceMethod y_Gr_takesCommands ∈ Gw ∧ Cond.selects R_Gr y_Gr_takesCommands y_Gr_takesCommands ∈ Gw := ⟨gm 523 (by decide +kernel) (by decide), gm 524 (by decide +kernel) (by decide)⟩
set_option maxRecDepth 100000 in
theorem gc_Gr_adjust : Cond.code y_Gr_adjust b_Gr_adjust 4 none ∈ Gw ∧ Cond.initialized y_Gr_adjust.cls ∈ Gw := ⟨gm 481 rfl (by decide), gm 4 (by decide +kernel) (by decide)⟩
theorem m_Gr_adjust : Cond.instanceMethod y_Gr_adjust ∈ Gw ∧ Cond.selects R_Gr y_Gr_adjust y_Gr_adjust ∈ Gw := ⟨gm 479 (by decide +kernel) (by decide), gm 480 (by decide +kernel) (by decide)⟩
set_option maxRecDepth 100000 in
theorem gc_Gr_renumber : Cond.code y_Gr_renumber b_Gr_renumber 2 none ∈ Gw ∧ Cond.initialized y_Gr_renumber.cls ∈ Gw := ⟨gm 493 rfl (by decide), gm 4 (by decide +kernel) (by decide)⟩
theorem m_Gr_renumber : Cond.instanceMethod y_Gr_renumber ∈ Gw ∧ Cond.selects R_Gr y_Gr_renumber y_Gr_renumber ∈ Gw := ⟨gm 491 (by decide +kernel) (by decide), gm 492 (by decide +kernel) (by decide)⟩
set_option maxRecDepth 100000 in
theorem gc_Gr_start : Cond.code y_Gr_start b_Gr_start 2 none ∈ Gw ∧ Cond.initialized y_Gr_start.cls ∈ Gw := ⟨gm 505 rfl (by decide), gm 4 (by decide +kernel) (by decide)⟩
theorem m_Gr_start : Cond.instanceMethod y_Gr_start ∈ Gw ∧ Cond.selects R_Gr y_Gr_start y_Gr_start ∈ Gw := ⟨gm 503 (by decide +kernel) (by decide), gm 504 (by decide +kernel) (by decide)⟩
set_option maxRecDepth 100000 in
theorem gc_Gr_finish : Cond.code y_Gr_finish b_Gr_finish 1 none ∈ Gw ∧ Cond.initialized y_Gr_finish.cls ∈ Gw := ⟨gm 297 rfl (by decide), gm 4 (by decide +kernel) (by decide)⟩
theorem m_Gr_finish : Cond.instanceMethod y_Gr_finish ∈ Gw ∧ Cond.selects R_Gr y_Gr_finish y_Gr_finish ∈ Gw := ⟨gm 295 (by decide +kernel) (by decide), gm 296 (by decide +kernel) (by decide)⟩
set_option maxRecDepth 100000 in
theorem gc_Gr_offer : Cond.code y_Gr_offer b_Gr_offer 2 (some .boolean) ∈ Gw ∧ Cond.initialized y_Gr_offer.cls ∈ Gw := ⟨gm 530 rfl (by decide), gm 4 (by decide +kernel) (by decide)⟩
theorem m_Gr_offer : Cond.instanceMethod y_Gr_offer ∈ Gw ∧ Cond.selects R_Gr y_Gr_offer y_Gr_offer ∈ Gw := ⟨gm 528 (by decide +kernel) (by decide), gm 529 (by decide +kernel) (by decide)⟩
set_option maxRecDepth 100000 in
theorem gc_Gr_pass : Cond.code y_Gr_pass b_Gr_pass 2 (some .int) ∈ Gw ∧ Cond.initialized y_Gr_pass.cls ∈ Gw := ⟨gm 285 rfl (by decide), gm 4 (by decide +kernel) (by decide)⟩
theorem m_Gr_pass : Cond.instanceMethod y_Gr_pass ∈ Gw ∧ Cond.selects R_Gr y_Gr_pass y_Gr_pass ∈ Gw := ⟨gm 283 (by decide +kernel) (by decide), gm 284 (by decide +kernel) (by decide)⟩
set_option maxRecDepth 100000 in
theorem gc_Gr_hear : Cond.code y_Gr_hear b_Gr_hear 5 none ∈ Gw ∧ Cond.initialized y_Gr_hear.cls ∈ Gw := ⟨gm 664 rfl (by decide), gm 4 (by decide +kernel) (by decide)⟩
theorem m_Gr_hear : Cond.instanceMethod y_Gr_hear ∈ Gw ∧ Cond.selects R_Gr y_Gr_hear y_Gr_hear ∈ Gw := ⟨gm 662 (by decide +kernel) (by decide), gm 663 (by decide +kernel) (by decide)⟩
set_option maxRecDepth 100000 in
theorem gc_Gr_tell : Cond.code y_Gr_tell b_Gr_tell 2 (some .int) ∈ Gw ∧ Cond.initialized y_Gr_tell.cls ∈ Gw := ⟨gm 773 rfl (by decide), gm 4 (by decide +kernel) (by decide)⟩
theorem m_Gr_tell : Cond.instanceMethod y_Gr_tell ∈ Gw ∧ Cond.selects R_Gr y_Gr_tell y_Gr_tell ∈ Gw := ⟨gm 771 (by decide +kernel) (by decide), gm 772 (by decide +kernel) (by decide)⟩
set_option maxRecDepth 100000 in
theorem gc_Gr_isSending : Cond.code y_Gr_isSending b_Gr_isSending 1 (some .boolean) ∈ Gw ∧ Cond.initialized y_Gr_isSending.cls ∈ Gw := ⟨gm 305 rfl (by decide), gm 4 (by decide +kernel) (by decide)⟩
theorem m_Gr_isSending : Cond.instanceMethod y_Gr_isSending ∈ Gw ∧ Cond.selects R_Gr y_Gr_isSending y_Gr_isSending ∈ Gw := ⟨gm 304 (by decide +kernel) (by decide), gs (by decide +kernel) (by decide)⟩
set_option maxRecDepth 100000 in
theorem gc_Gr_alarm : Cond.code y_Gr_alarm b_Gr_alarm 2 none ∈ Gw ∧ Cond.initialized y_Gr_alarm.cls ∈ Gw := ⟨gm 293 rfl (by decide), gm 4 (by decide +kernel) (by decide)⟩
theorem m_Gr_alarm : Cond.instanceMethod y_Gr_alarm ∈ Gw ∧ Cond.selects R_Gr y_Gr_alarm y_Gr_alarm ∈ Gw := ⟨gm 292 (by decide +kernel) (by decide), gs (by decide +kernel) (by decide)⟩
set_option maxRecDepth 100000 in
theorem gc_Gr_tryAgain : Cond.code y_Gr_tryAgain b_Gr_tryAgain 1 none ∈ Gw ∧ Cond.initialized y_Gr_tryAgain.cls ∈ Gw := ⟨gm 309 rfl (by decide), gm 4 (by decide +kernel) (by decide)⟩
theorem m_Gr_tryAgain : Cond.instanceMethod y_Gr_tryAgain ∈ Gw ∧ Cond.selects R_Gr y_Gr_tryAgain y_Gr_tryAgain ∈ Gw := ⟨gm 308 (by decide +kernel) (by decide), gs (by decide +kernel) (by decide)⟩
set_option maxRecDepth 100000 in
theorem gc_Gr_resend : Cond.code y_Gr_resend b_Gr_resend 1 none ∈ Gw ∧ Cond.initialized y_Gr_resend.cls ∈ Gw := ⟨gm 689 rfl (by decide), gm 4 (by decide +kernel) (by decide)⟩
theorem m_Gr_resend : Cond.instanceMethod y_Gr_resend ∈ Gw ∧ Cond.selects R_Gr y_Gr_resend y_Gr_resend ∈ Gw := ⟨gm 688 (by decide +kernel) (by decide), gs (by decide +kernel) (by decide)⟩
set_option maxRecDepth 100000 in
theorem gc_Gr_runOut : Cond.code y_Gr_runOut b_Gr_runOut 1 none ∈ Gw ∧ Cond.initialized y_Gr_runOut.cls ∈ Gw := ⟨gm 289 rfl (by decide), gm 4 (by decide +kernel) (by decide)⟩
theorem m_Gr_runOut : Cond.instanceMethod y_Gr_runOut ∈ Gw ∧ Cond.selects R_Gr y_Gr_runOut y_Gr_runOut ∈ Gw := ⟨gm 288 (by decide +kernel) (by decide), gs (by decide +kernel) (by decide)⟩
set_option maxRecDepth 100000 in
theorem gc_Gr_sendStart : Cond.code y_Gr_sendStart b_Gr_sendStart 2 (some .int) ∈ Gw ∧ Cond.initialized y_Gr_sendStart.cls ∈ Gw := ⟨gm 317 rfl (by decide), gm 4 (by decide +kernel) (by decide)⟩
theorem m_Gr_sendStart : Cond.instanceMethod y_Gr_sendStart ∈ Gw ∧ Cond.selects R_Gr y_Gr_sendStart y_Gr_sendStart ∈ Gw := ⟨gm 316 (by decide +kernel) (by decide), gs (by decide +kernel) (by decide)⟩
set_option maxRecDepth 100000 in
theorem gc_Gr_sendCommand : Cond.code y_Gr_sendCommand b_Gr_sendCommand 3 (some .int) ∈ Gw ∧ Cond.initialized y_Gr_sendCommand.cls ∈ Gw := ⟨gm 329 rfl (by decide), gm 4 (by decide +kernel) (by decide)⟩
theorem m_Gr_sendCommand : Cond.instanceMethod y_Gr_sendCommand ∈ Gw ∧ Cond.selects R_Gr y_Gr_sendCommand y_Gr_sendCommand ∈ Gw := ⟨gm 328 (by decide +kernel) (by decide), gs (by decide +kernel) (by decide)⟩
set_option maxRecDepth 100000 in
theorem gc_Gr_sendSlot : Cond.code y_Gr_sendSlot b_Gr_sendSlot 3 (some .int) ∈ Gw ∧ Cond.initialized y_Gr_sendSlot.cls ∈ Gw := ⟨gm 353 rfl (by decide), gm 4 (by decide +kernel) (by decide)⟩
theorem m_Gr_sendSlot : Cond.instanceMethod y_Gr_sendSlot ∈ Gw ∧ Cond.selects R_Gr y_Gr_sendSlot y_Gr_sendSlot ∈ Gw := ⟨gm 352 (by decide +kernel) (by decide), gs (by decide +kernel) (by decide)⟩
set_option maxRecDepth 100000 in
theorem gc_Gr_send : Cond.code y_Gr_send b_Gr_send 5 (some .int) ∈ Gw ∧ Cond.initialized y_Gr_send.cls ∈ Gw := ⟨gm 321 rfl (by decide), gm 4 (by decide +kernel) (by decide)⟩
theorem m_Gr_send : Cond.instanceMethod y_Gr_send ∈ Gw ∧ Cond.selects R_Gr y_Gr_send y_Gr_send ∈ Gw := ⟨gm 320 (by decide +kernel) (by decide), gs (by decide +kernel) (by decide)⟩
set_option maxRecDepth 100000 in
theorem gc_Gr_hearAtStart : Cond.code y_Gr_hearAtStart b_Gr_hearAtStart 4 none ∈ Gw ∧ Cond.initialized y_Gr_hearAtStart.cls ∈ Gw := ⟨gm 668 rfl (by decide), gm 4 (by decide +kernel) (by decide)⟩
theorem m_Gr_hearAtStart : Cond.instanceMethod y_Gr_hearAtStart ∈ Gw ∧ Cond.selects R_Gr y_Gr_hearAtStart y_Gr_hearAtStart ∈ Gw := ⟨gm 667 (by decide +kernel) (by decide), gs (by decide +kernel) (by decide)⟩
set_option maxRecDepth 100000 in
theorem gc_Gr_acknowledge : Cond.code y_Gr_acknowledge b_Gr_acknowledge 3 none ∈ Gw ∧ Cond.initialized y_Gr_acknowledge.cls ∈ Gw := ⟨gm 673 rfl (by decide), gm 4 (by decide +kernel) (by decide)⟩
theorem m_Gr_acknowledge : Cond.instanceMethod y_Gr_acknowledge ∈ Gw ∧ Cond.selects R_Gr y_Gr_acknowledge y_Gr_acknowledge ∈ Gw := ⟨gm 672 (by decide +kernel) (by decide), gs (by decide +kernel) (by decide)⟩
set_option maxRecDepth 100000 in
theorem gc_Gr_hearWithNonePending : Cond.code y_Gr_hearWithNonePending b_Gr_hearWithNonePending 3 none ∈ Gw ∧ Cond.initialized y_Gr_hearWithNonePending.cls ∈ Gw := ⟨gm 681 rfl (by decide), gm 4 (by decide +kernel) (by decide)⟩
theorem m_Gr_hearWithNonePending : Cond.instanceMethod y_Gr_hearWithNonePending ∈ Gw ∧ Cond.selects R_Gr y_Gr_hearWithNonePending y_Gr_hearWithNonePending ∈ Gw := ⟨gm 680 (by decide +kernel) (by decide), gs (by decide +kernel) (by decide)⟩
set_option maxRecDepth 100000 in
theorem gc_Gr_hearWithSomePending : Cond.code y_Gr_hearWithSomePending b_Gr_hearWithSomePending 4 none ∈ Gw ∧ Cond.initialized y_Gr_hearWithSomePending.cls ∈ Gw := ⟨gm 685 rfl (by decide), gm 4 (by decide +kernel) (by decide)⟩
theorem m_Gr_hearWithSomePending : Cond.instanceMethod y_Gr_hearWithSomePending ∈ Gw ∧ Cond.selects R_Gr y_Gr_hearWithSomePending y_Gr_hearWithSomePending ∈ Gw := ⟨gm 684 (by decide +kernel) (by decide), gs (by decide +kernel) (by decide)⟩
set_option maxRecDepth 100000 in
theorem gc_Rc_init : Cond.code y_Rc_init b_Rc_init 1 none ∈ Gw ∧ Cond.initialized y_Rc_init.cls ∈ Gw := ⟨gm 235 rfl (by decide), gm 10 (by decide +kernel) (by decide)⟩
set_option maxRecDepth 100000 in
theorem gc_Rc_size : Cond.code y_Rc_size b_Rc_size 1 (some .int) ∈ Gw ∧ Cond.initialized y_Rc_size.cls ∈ Gw := ⟨gm 376 rfl (by decide), gm 10 (by decide +kernel) (by decide)⟩
theorem m_Rc_size : Cond.instanceMethod y_Rc_size ∈ Gw ∧ Cond.selects R_Rc y_Rc_size y_Rc_size ∈ Gw := ⟨gm 374 (by decide +kernel) (by decide), gm 375 (by decide +kernel) (by decide)⟩
set_option maxRecDepth 100000 in
theorem gc_Rc_has : Cond.code y_Rc_has b_Rc_has 2 (some .boolean) ∈ Gw ∧ Cond.initialized y_Rc_has.cls ∈ Gw := ⟨gm 814 rfl (by decide), gm 10 (by decide +kernel) (by decide)⟩
theorem m_Rc_has : Cond.instanceMethod y_Rc_has ∈ Gw ∧ Cond.selects R_Rc y_Rc_has y_Rc_has ∈ Gw := ⟨gm 812 (by decide +kernel) (by decide), gm 813 (by decide +kernel) (by decide)⟩
set_option maxRecDepth 100000 in
theorem gc_Rc_tell : Cond.code y_Rc_tell b_Rc_tell 3 (some .int) ∈ Gw ∧ Cond.initialized y_Rc_tell.cls ∈ Gw := ⟨gm 819 rfl (by decide), gm 10 (by decide +kernel) (by decide)⟩
theorem m_Rc_tell : Cond.instanceMethod y_Rc_tell ∈ Gw ∧ Cond.selects R_Rc y_Rc_tell y_Rc_tell ∈ Gw := ⟨gm 817 (by decide +kernel) (by decide), gm 818 (by decide +kernel) (by decide)⟩
set_option maxRecDepth 100000 in
theorem gc_Rc_add : Cond.code y_Rc_add b_Rc_add 5 none ∈ Gw ∧ Cond.initialized y_Rc_add.cls ∈ Gw := ⟨gm 752 rfl (by decide), gm 10 (by decide +kernel) (by decide)⟩
theorem m_Rc_add : Cond.instanceMethod y_Rc_add ∈ Gw ∧ Cond.selects R_Rc y_Rc_add y_Rc_add ∈ Gw := ⟨gm 750 (by decide +kernel) (by decide), gm 751 (by decide +kernel) (by decide)⟩
set_option maxRecDepth 100000 in
theorem gc_Rp_init : Cond.code y_Rp_init b_Rp_init 1 none ∈ Gw ∧ Cond.initialized y_Rp_init.cls ∈ Gw := ⟨gm 52 rfl (by decide), gm 3 (by decide +kernel) (by decide)⟩
set_option maxRecDepth 100000 in
theorem gc_Rp_size : Cond.code y_Rp_size b_Rp_size 1 (some .int) ∈ Gw ∧ Cond.initialized y_Rp_size.cls ∈ Gw := ⟨gm 768 rfl (by decide), gm 3 (by decide +kernel) (by decide)⟩
theorem m_Rp_size : Cond.instanceMethod y_Rp_size ∈ Gw ∧ Cond.selects R_Rp y_Rp_size y_Rp_size ∈ Gw := ⟨gm 766 (by decide +kernel) (by decide), gm 767 (by decide +kernel) (by decide)⟩
set_option maxRecDepth 100000 in
theorem gc_Rp_has : Cond.code y_Rp_has b_Rp_has 2 (some .boolean) ∈ Gw ∧ Cond.initialized y_Rp_has.cls ∈ Gw := ⟨gm 647 rfl (by decide), gm 3 (by decide +kernel) (by decide)⟩
theorem m_Rp_has : Cond.instanceMethod y_Rp_has ∈ Gw ∧ Cond.selects R_Rp y_Rp_has y_Rp_has ∈ Gw := ⟨gm 645 (by decide +kernel) (by decide), gm 646 (by decide +kernel) (by decide)⟩
set_option maxRecDepth 100000 in
theorem gc_Rp_expected : Cond.code y_Rp_expected b_Rp_expected 2 (some .int) ∈ Gw ∧ Cond.initialized y_Rp_expected.cls ∈ Gw := ⟨gm 652 rfl (by decide), gm 3 (by decide +kernel) (by decide)⟩
theorem m_Rp_expected : Cond.instanceMethod y_Rp_expected ∈ Gw ∧ Cond.selects R_Rp y_Rp_expected y_Rp_expected ∈ Gw := ⟨gm 650 (by decide +kernel) (by decide), gm 651 (by decide +kernel) (by decide)⟩
set_option maxRecDepth 100000 in
theorem gc_Rp_again : Cond.code y_Rp_again b_Rp_again 2 (some .boolean) ∈ Gw ∧ Cond.initialized y_Rp_again.cls ∈ Gw := ⟨gm 656 rfl (by decide), gm 3 (by decide +kernel) (by decide)⟩
theorem m_Rp_again : Cond.instanceMethod y_Rp_again ∈ Gw ∧ Cond.selects R_Rp y_Rp_again y_Rp_again ∈ Gw := ⟨gm 654 (by decide +kernel) (by decide), gm 655 (by decide +kernel) (by decide)⟩
set_option maxRecDepth 100000 in
theorem gc_Rp_gate : Cond.code y_Rp_gate b_Rp_gate 2 (some .int) ∈ Gw ∧ Cond.initialized y_Rp_gate.cls ∈ Gw := ⟨gm 660 rfl (by decide), gm 3 (by decide +kernel) (by decide)⟩
theorem m_Rp_gate : Cond.instanceMethod y_Rp_gate ∈ Gw ∧ Cond.selects R_Rp y_Rp_gate y_Rp_gate ∈ Gw := ⟨gm 658 (by decide +kernel) (by decide), gm 659 (by decide +kernel) (by decide)⟩
set_option maxRecDepth 100000 in
theorem gc_Rp_add : Cond.code y_Rp_add b_Rp_add 2 (some .boolean) ∈ Gw ∧ Cond.initialized y_Rp_add.cls ∈ Gw := ⟨gm 368 rfl (by decide), gm 3 (by decide +kernel) (by decide)⟩
theorem m_Rp_add : Cond.instanceMethod y_Rp_add ∈ Gw ∧ Cond.selects R_Rp y_Rp_add y_Rp_add ∈ Gw := ⟨gm 366 (by decide +kernel) (by decide), gm 367 (by decide +kernel) (by decide)⟩
set_option maxRecDepth 100000 in
theorem gc_Rp_remove : Cond.code y_Rp_remove b_Rp_remove 3 none ∈ Gw ∧ Cond.initialized y_Rp_remove.cls ∈ Gw := ⟨gm 693 rfl (by decide), gm 3 (by decide +kernel) (by decide)⟩
theorem m_Rp_remove : Cond.instanceMethod y_Rp_remove ∈ Gw ∧ Cond.selects R_Rp y_Rp_remove y_Rp_remove ∈ Gw := ⟨gm 691 (by decide +kernel) (by decide), gm 692 (by decide +kernel) (by decide)⟩
set_option maxRecDepth 100000 in
theorem gc_St_init : Cond.code y_St_init b_St_init 1 none ∈ Gw ∧ Cond.initialized y_St_init.cls ∈ Gw := ⟨gm 168 rfl (by decide), gm 7 (by decide +kernel) (by decide)⟩
set_option maxRecDepth 100000 in
theorem gc_St_size : Cond.code y_St_size b_St_size 1 (some .int) ∈ Gw ∧ Cond.initialized y_St_size.cls ∈ Gw := ⟨gm 788 rfl (by decide), gm 7 (by decide +kernel) (by decide)⟩
theorem m_St_size : Cond.instanceMethod y_St_size ∈ Gw ∧ Cond.selects R_St y_St_size y_St_size ∈ Gw := ⟨gm 786 (by decide +kernel) (by decide), gm 787 (by decide +kernel) (by decide)⟩
set_option maxRecDepth 100000 in
theorem gc_St_write : Cond.code y_St_write b_St_write 4 (some .boolean) ∈ Gw ∧ Cond.initialized y_St_write.cls ∈ Gw := ⟨gm 708 rfl (by decide), gm 7 (by decide +kernel) (by decide)⟩
theorem m_St_write : Cond.instanceMethod y_St_write ∈ Gw ∧ Cond.selects R_St y_St_write y_St_write ∈ Gw := ⟨gm 706 (by decide +kernel) (by decide), gm 707 (by decide +kernel) (by decide)⟩
set_option maxRecDepth 100000 in
theorem gc_St_fill : Cond.code y_St_fill b_St_fill 3 none ∈ Gw ∧ Cond.initialized y_St_fill.cls ∈ Gw := ⟨gm 728 rfl (by decide), gm 7 (by decide +kernel) (by decide)⟩
theorem m_St_fill : Cond.instanceMethod y_St_fill ∈ Gw ∧ Cond.selects R_St y_St_fill y_St_fill ∈ Gw := ⟨gm 726 (by decide +kernel) (by decide), gm 727 (by decide +kernel) (by decide)⟩
set_option maxRecDepth 100000 in
theorem gc_St_writeIdle : Cond.code y_St_writeIdle b_St_writeIdle 3 none ∈ Gw ∧ Cond.initialized y_St_writeIdle.cls ∈ Gw := ⟨gm 732 rfl (by decide), gm 7 (by decide +kernel) (by decide)⟩
theorem m_St_writeIdle : Cond.instanceMethod y_St_writeIdle ∈ Gw ∧ Cond.selects R_St y_St_writeIdle y_St_writeIdle ∈ Gw := ⟨gm 731 (by decide +kernel) (by decide), gs (by decide +kernel) (by decide)⟩
set_option maxRecDepth 100000 in
theorem gc_St_writeHead : Cond.code y_St_writeHead b_St_writeHead 3 none ∈ Gw ∧ Cond.initialized y_St_writeHead.cls ∈ Gw := ⟨gm 712 rfl (by decide), gm 7 (by decide +kernel) (by decide)⟩
theorem m_St_writeHead : Cond.instanceMethod y_St_writeHead ∈ Gw ∧ Cond.selects R_St y_St_writeHead y_St_writeHead ∈ Gw := ⟨gm 711 (by decide +kernel) (by decide), gs (by decide +kernel) (by decide)⟩
set_option maxRecDepth 100000 in
theorem gc_St_put : Cond.code y_St_put b_St_put 3 none ∈ Gw ∧ Cond.initialized y_St_put.cls ∈ Gw := ⟨gm 716 rfl (by decide), gm 7 (by decide +kernel) (by decide)⟩
theorem m_St_put : Cond.instanceMethod y_St_put ∈ Gw ∧ Cond.selects R_St y_St_put y_St_put ∈ Gw := ⟨gm 715 (by decide +kernel) (by decide), gs (by decide +kernel) (by decide)⟩
set_option maxRecDepth 100000 in
theorem gc_St_removeFrame : Cond.code y_St_removeFrame b_St_removeFrame 2 none ∈ Gw ∧ Cond.initialized y_St_removeFrame.cls ∈ Gw := ⟨gm 740 rfl (by decide), gm 7 (by decide +kernel) (by decide)⟩
theorem m_St_removeFrame : Cond.instanceMethod y_St_removeFrame ∈ Gw ∧ Cond.selects R_St y_St_removeFrame y_St_removeFrame ∈ Gw := ⟨gm 739 (by decide +kernel) (by decide), gs (by decide +kernel) (by decide)⟩
set_option maxRecDepth 100000 in
theorem gc_Un_init : Cond.code y_Un_init b_Un_init 1 none ∈ Gw ∧ Cond.initialized y_Un_init.cls ∈ Gw := ⟨gm 78 rfl (by decide), gm 5 (by decide +kernel) (by decide)⟩
set_option maxRecDepth 100000 in
theorem gc_Un_size : Cond.code y_Un_size b_Un_size 1 (some .int) ∈ Gw ∧ Cond.initialized y_Un_size.cls ∈ Gw := ⟨gm 349 rfl (by decide), gm 5 (by decide +kernel) (by decide)⟩
theorem m_Un_size : Cond.instanceMethod y_Un_size ∈ Gw ∧ Cond.selects R_Un y_Un_size y_Un_size ∈ Gw := ⟨gm 347 (by decide +kernel) (by decide), gm 348 (by decide +kernel) (by decide)⟩
set_option maxRecDepth 100000 in
theorem gc_Un_numberOf : Cond.code y_Un_numberOf b_Un_numberOf 2 (some .int) ∈ Gw ∧ Cond.initialized y_Un_numberOf.cls ∈ Gw := ⟨gm 341 rfl (by decide), gm 5 (by decide +kernel) (by decide)⟩
theorem m_Un_numberOf : Cond.instanceMethod y_Un_numberOf ∈ Gw ∧ Cond.selects R_Un y_Un_numberOf y_Un_numberOf ∈ Gw := ⟨gm 339 (by decide +kernel) (by decide), gm 340 (by decide +kernel) (by decide)⟩
set_option maxRecDepth 100000 in
theorem gc_Un_commandOf : Cond.code y_Un_commandOf b_Un_commandOf 2 (some .int) ∈ Gw ∧ Cond.initialized y_Un_commandOf.cls ∈ Gw := ⟨gm 345 rfl (by decide), gm 5 (by decide +kernel) (by decide)⟩
theorem m_Un_commandOf : Cond.instanceMethod y_Un_commandOf ∈ Gw ∧ Cond.selects R_Un y_Un_commandOf y_Un_commandOf ∈ Gw := ⟨gm 343 (by decide +kernel) (by decide), gm 344 (by decide +kernel) (by decide)⟩
set_option maxRecDepth 100000 in
theorem gc_Un_add : Cond.code y_Un_add b_Un_add 3 none ∈ Gw ∧ Cond.initialized y_Un_add.cls ∈ Gw := ⟨gm 357 rfl (by decide), gm 5 (by decide +kernel) (by decide)⟩
theorem m_Un_add : Cond.instanceMethod y_Un_add ∈ Gw ∧ Cond.selects R_Un y_Un_add y_Un_add ∈ Gw := ⟨gm 355 (by decide +kernel) (by decide), gm 356 (by decide +kernel) (by decide)⟩
set_option maxRecDepth 100000 in
theorem gc_Un_removeFirst : Cond.code y_Un_removeFirst b_Un_removeFirst 3 none ∈ Gw ∧ Cond.initialized y_Un_removeFirst.cls ∈ Gw := ⟨gm 677 rfl (by decide), gm 5 (by decide +kernel) (by decide)⟩
theorem m_Un_removeFirst : Cond.instanceMethod y_Un_removeFirst ∈ Gw ∧ Cond.selects R_Un y_Un_removeFirst y_Un_removeFirst ∈ Gw := ⟨gm 675 (by decide +kernel) (by decide), gm 676 (by decide +kernel) (by decide)⟩
set_option maxRecDepth 100000 in
theorem gc_Un_clear : Cond.code y_Un_clear b_Un_clear 1 none ∈ Gw ∧ Cond.initialized y_Un_clear.cls ∈ Gw := ⟨gm 301 rfl (by decide), gm 5 (by decide +kernel) (by decide)⟩
theorem m_Un_clear : Cond.instanceMethod y_Un_clear ∈ Gw ∧ Cond.selects R_Un y_Un_clear y_Un_clear ∈ Gw := ⟨gm 299 (by decide +kernel) (by decide), gm 300 (by decide +kernel) (by decide)⟩
set_option maxRecDepth 100000 in
theorem gc_Un_markAll : Cond.code y_Un_markAll b_Un_markAll 2 none ∈ Gw ∧ Cond.initialized y_Un_markAll.cls ∈ Gw := ⟨gm 313 rfl (by decide), gm 5 (by decide +kernel) (by decide)⟩
theorem m_Un_markAll : Cond.instanceMethod y_Un_markAll ∈ Gw ∧ Cond.selects R_Un y_Un_markAll y_Un_markAll ∈ Gw := ⟨gm 311 (by decide +kernel) (by decide), gm 312 (by decide +kernel) (by decide)⟩
set_option maxRecDepth 100000 in
theorem gc_Un_unmark : Cond.code y_Un_unmark b_Un_unmark 2 none ∈ Gw ∧ Cond.initialized y_Un_unmark.cls ∈ Gw := ⟨gm 337 rfl (by decide), gm 5 (by decide +kernel) (by decide)⟩
theorem m_Un_unmark : Cond.instanceMethod y_Un_unmark ∈ Gw ∧ Cond.selects R_Un y_Un_unmark y_Un_unmark ∈ Gw := ⟨gm 335 (by decide +kernel) (by decide), gm 336 (by decide +kernel) (by decide)⟩
set_option maxRecDepth 100000 in
theorem gc_Un_firstMarked : Cond.code y_Un_firstMarked b_Un_firstMarked 2 (some .int) ∈ Gw ∧ Cond.initialized y_Un_firstMarked.cls ∈ Gw := ⟨gm 333 rfl (by decide), gm 5 (by decide +kernel) (by decide)⟩
theorem m_Un_firstMarked : Cond.instanceMethod y_Un_firstMarked ∈ Gw ∧ Cond.selects R_Un y_Un_firstMarked y_Un_firstMarked ∈ Gw := ⟨gm 331 (by decide +kernel) (by decide), gm 332 (by decide +kernel) (by decide)⟩
set_option maxRecDepth 100000 in
theorem gc_Un_countMarked : Cond.code y_Un_countMarked b_Un_countMarked 3 (some .int) ∈ Gw ∧ Cond.initialized y_Un_countMarked.cls ∈ Gw := ⟨gm 777 rfl (by decide), gm 5 (by decide +kernel) (by decide)⟩
theorem m_Un_countMarked : Cond.instanceMethod y_Un_countMarked ∈ Gw ∧ Cond.selects R_Un y_Un_countMarked y_Un_countMarked ∈ Gw := ⟨gm 775 (by decide +kernel) (by decide), gm 776 (by decide +kernel) (by decide)⟩
set_option maxRecDepth 100000 in
theorem gc_Uf_init : Cond.code y_Uf_init b_Uf_init 1 none ∈ Gw ∧ Cond.initialized y_Uf_init.cls ∈ Gw := ⟨gm 32 rfl (by decide), gm 2 (by decide +kernel) (by decide)⟩
set_option maxRecDepth 100000 in
theorem gc_Uf_size : Cond.code y_Uf_size b_Uf_size 1 (some .int) ∈ Gw ∧ Cond.initialized y_Uf_size.cls ∈ Gw := ⟨gm 764 rfl (by decide), gm 2 (by decide +kernel) (by decide)⟩
theorem m_Uf_size : Cond.instanceMethod y_Uf_size ∈ Gw ∧ Cond.selects R_Uf y_Uf_size y_Uf_size ∈ Gw := ⟨gm 762 (by decide +kernel) (by decide), gm 763 (by decide +kernel) (by decide)⟩
set_option maxRecDepth 100000 in
theorem gc_Uf_has : Cond.code y_Uf_has b_Uf_has 2 (some .boolean) ∈ Gw ∧ Cond.initialized y_Uf_has.cls ∈ Gw := ⟨gm 542 rfl (by decide), gm 2 (by decide +kernel) (by decide)⟩
theorem m_Uf_has : Cond.instanceMethod y_Uf_has ∈ Gw ∧ Cond.selects R_Uf y_Uf_has y_Uf_has ∈ Gw := ⟨gm 540 (by decide +kernel) (by decide), gm 541 (by decide +kernel) (by decide)⟩
set_option maxRecDepth 100000 in
theorem gc_Uf_kind : Cond.code y_Uf_kind b_Uf_kind 2 (some .int) ∈ Gw ∧ Cond.initialized y_Uf_kind.cls ∈ Gw := ⟨gm 562 rfl (by decide), gm 2 (by decide +kernel) (by decide)⟩
theorem m_Uf_kind : Cond.instanceMethod y_Uf_kind ∈ Gw ∧ Cond.selects R_Uf y_Uf_kind y_Uf_kind ∈ Gw := ⟨gm 560 (by decide +kernel) (by decide), gm 561 (by decide +kernel) (by decide)⟩
set_option maxRecDepth 100000 in
theorem gc_Uf_numberOf : Cond.code y_Uf_numberOf b_Uf_numberOf 2 (some .int) ∈ Gw ∧ Cond.initialized y_Uf_numberOf.cls ∈ Gw := ⟨gm 566 rfl (by decide), gm 2 (by decide +kernel) (by decide)⟩
theorem m_Uf_numberOf : Cond.instanceMethod y_Uf_numberOf ∈ Gw ∧ Cond.selects R_Uf y_Uf_numberOf y_Uf_numberOf ∈ Gw := ⟨gm 564 (by decide +kernel) (by decide), gm 565 (by decide +kernel) (by decide)⟩
set_option maxRecDepth 100000 in
theorem gc_Uf_commandOf : Cond.code y_Uf_commandOf b_Uf_commandOf 2 (some .int) ∈ Gw ∧ Cond.initialized y_Uf_commandOf.cls ∈ Gw := ⟨gm 570 rfl (by decide), gm 2 (by decide +kernel) (by decide)⟩
theorem m_Uf_commandOf : Cond.instanceMethod y_Uf_commandOf ∈ Gw ∧ Cond.selects R_Uf y_Uf_commandOf y_Uf_commandOf ∈ Gw := ⟨gm 568 (by decide +kernel) (by decide), gm 569 (by decide +kernel) (by decide)⟩
set_option maxRecDepth 100000 in
theorem gc_Uf_tell : Cond.code y_Uf_tell b_Uf_tell 3 (some .int) ∈ Gw ∧ Cond.initialized y_Uf_tell.cls ∈ Gw := ⟨gm 803 rfl (by decide), gm 2 (by decide +kernel) (by decide)⟩
theorem m_Uf_tell : Cond.instanceMethod y_Uf_tell ∈ Gw ∧ Cond.selects R_Uf y_Uf_tell y_Uf_tell ∈ Gw := ⟨gm 801 (by decide +kernel) (by decide), gm 802 (by decide +kernel) (by decide)⟩
set_option maxRecDepth 100000 in
theorem gc_Uf_add : Cond.code y_Uf_add b_Uf_add 4 none ∈ Gw ∧ Cond.initialized y_Uf_add.cls ∈ Gw := ⟨gm 325 rfl (by decide), gm 2 (by decide +kernel) (by decide)⟩
theorem m_Uf_add : Cond.instanceMethod y_Uf_add ∈ Gw ∧ Cond.selects R_Uf y_Uf_add y_Uf_add ∈ Gw := ⟨gm 323 (by decide +kernel) (by decide), gm 324 (by decide +kernel) (by decide)⟩
set_option maxRecDepth 100000 in
theorem gc_Uf_remove : Cond.code y_Uf_remove b_Uf_remove 3 none ∈ Gw ∧ Cond.initialized y_Uf_remove.cls ∈ Gw := ⟨gm 597 rfl (by decide), gm 2 (by decide +kernel) (by decide)⟩
theorem m_Uf_remove : Cond.instanceMethod y_Uf_remove ∈ Gw ∧ Cond.selects R_Uf y_Uf_remove y_Uf_remove ∈ Gw := ⟨gm 595 (by decide +kernel) (by decide), gm 596 (by decide +kernel) (by decide)⟩
set_option maxRecDepth 100000 in
theorem gc_Ma_floorMod : Cond.code y_Ma_floorMod b_Ma_floorMod 3 (some .int) ∈ Gw ∧ Cond.initialized y_Ma_floorMod.cls ∈ Gw := ⟨gm 580 rfl (by decide), gm 18 (by decide +kernel) (by decide)⟩
theorem m_Ma_floorMod : Cond.static y_Ma_floorMod ∈ Gw := gm 579 (by decide +kernel) (by decide)
set_option maxRecDepth 100000 in
theorem gc_Ma_max : Cond.code y_Ma_max b_Ma_max 2 (some .int) ∈ Gw ∧ Cond.initialized y_Ma_max.cls ∈ Gw := ⟨gm 735 rfl (by decide), gm 18 (by decide +kernel) (by decide)⟩
theorem m_Ma_max : Cond.static y_Ma_max ∈ Gw := gm 734 (by decide +kernel) (by decide)
