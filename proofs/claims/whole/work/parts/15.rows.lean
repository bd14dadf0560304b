theorem ta_71 : ∀ w ∈ Bundle.ownAtoms R_T 75 "java/lang/IllegalStateException" excN, w ∈ Gw ∨ w ∈ nwL ∨ w ∈ stL := by decide +kernel
theorem at_71 {sz : Nat} {U : State} {args : Array Value} (h : NwT sz U) (hG : ∀ w ∈ Gw, w.before args U = true) : (∀ w ∈ Bundle.ownAtoms R_T 75 "java/lang/IllegalStateException" excN, w.before args U = true) ∧ (Cond.classLink R_T 71 "java/lang/IllegalStateException").before args U = true ∧ (Cond.initialized "java/lang/IllegalStateException").before args U = true :=
  ⟨fun w hw => (ta_71 w hw).elim (hG w) fun z => z.elim (nwL_use h w) (stL_ok h w), hG _ (gm 390 (by decide +kernel) (by decide)), hG _ (gm 15 (by decide +kernel) (by decide))⟩
theorem ta_82 : ∀ w ∈ Bundle.ownAtoms R_T 86 "java/lang/IllegalArgumentException" excN, w ∈ Gw ∨ w ∈ nwL ∨ w ∈ stL := by decide +kernel
theorem at_82 {sz : Nat} {U : State} {args : Array Value} (h : NwT sz U) (hG : ∀ w ∈ Gw, w.before args U = true) : (∀ w ∈ Bundle.ownAtoms R_T 86 "java/lang/IllegalArgumentException" excN, w.before args U = true) ∧ (Cond.classLink R_T 82 "java/lang/IllegalArgumentException").before args U = true ∧ (Cond.initialized "java/lang/IllegalArgumentException").before args U = true :=
  ⟨fun w hw => (ta_82 w hw).elim (hG w) fun z => z.elim (nwL_use h w) (stL_ok h w), hG _ (gm 462 (by decide +kernel) (by decide)), hG _ (gm 16 (by decide +kernel) (by decide))⟩
theorem ta_122 : ∀ w ∈ Bundle.ownAtoms R_T 126 "java/lang/IndexOutOfBoundsException" excN, w ∈ Gw ∨ w ∈ nwL ∨ w ∈ stL := by decide +kernel
theorem at_122 {sz : Nat} {U : State} {args : Array Value} (h : NwT sz U) (hG : ∀ w ∈ Gw, w.before args U = true) : (∀ w ∈ Bundle.ownAtoms R_T 126 "java/lang/IndexOutOfBoundsException" excN, w.before args U = true) ∧ (Cond.classLink R_T 122 "java/lang/IndexOutOfBoundsException").before args U = true ∧ (Cond.initialized "java/lang/IndexOutOfBoundsException").before args U = true :=
  ⟨fun w hw => (ta_122 w hw).elim (hG w) fun z => z.elim (nwL_use h w) (stL_ok h w), hG _ (gm 543 (by decide +kernel) (by decide)), hG _ (gm 17 (by decide +kernel) (by decide))⟩
theorem ta_147 : ∀ w ∈ atN R_T 151, w ∈ Gw ∨ w ∈ nwL ∨ w ∈ stL := by decide +kernel
theorem at_147 {sz : Nat} {U : State} {args : Array Value} (h : NwT sz U) (hG : ∀ w ∈ Gw, w.before args U = true) : (∀ w ∈ atN R_T 151, w.before args U = true) ∧ (Cond.classLink R_T 147 "java/util/NoSuchElementException").before args U = true ∧ (Cond.initialized "java/util/NoSuchElementException").before args U = true :=
  ⟨fun w hw => (ta_147 w hw).elim (hG w) fun z => z.elim (nwL_use h w) (stL_ok h w), hG _ (gm 617 (by decide +kernel) (by decide)), hG _ (gm 19 (by decide +kernel) (by decide))⟩
theorem k_L_13 : Cond.classLink R_L 13 "java/lang/IllegalStateException" ∈ Gw := gm 380 (by decide +kernel) (by decide)
theorem k_L_15 : Cond.classLink R_L 15 "java/lang/IllegalArgumentException" ∈ Gw := gm 381 (by decide +kernel) (by decide)
theorem k_L_34 : Cond.classLink R_L 34 "java/lang/IndexOutOfBoundsException" ∈ Gw := gm 534 (by decide +kernel) (by decide)
theorem k_L_43 : Cond.classLink R_L 43 "java/util/NoSuchElementException" ∈ Gw := gm 608 (by decide +kernel) (by decide)
abbrev hh_L_tune : List (Nat × Nat × Nat × Nat) := [(0, 7, 10, 13), (0, 7, 14, 15)]
set_option maxRecDepth 100000 in
theorem gc_L_tune : Cond.codeWith y_L_tune b_L_tune 5 (some .int) hh_L_tune ∈ Gw ∧ Cond.initialized y_L_tune.cls ∈ Gw ∧ Cond.static y_L_tune ∈ Gw := ⟨gm 379 rfl (by decide), gm 0 (by decide +kernel) (by decide), gm 378 (by decide +kernel) (by decide)⟩
abbrev hh_L_number : List (Nat × Nat × Nat × Nat) := [(0, 5, 8, 13), (0, 5, 11, 15)]
set_option maxRecDepth 100000 in
theorem gc_L_number : Cond.codeWith y_L_number b_L_number 3 (some .int) hh_L_number ∈ Gw ∧ Cond.initialized y_L_number.cls ∈ Gw ∧ Cond.static y_L_number ∈ Gw := ⟨gm 484 rfl (by decide), gm 0 (by decide +kernel) (by decide), gm 483 (by decide +kernel) (by decide)⟩
abbrev hh_L_begin : List (Nat × Nat × Nat × Nat) := [(0, 5, 8, 13), (0, 5, 11, 15)]
set_option maxRecDepth 100000 in
theorem gc_L_begin : Cond.codeWith y_L_begin b_L_begin 3 (some .int) hh_L_begin ∈ Gw ∧ Cond.initialized y_L_begin.cls ∈ Gw ∧ Cond.static y_L_begin ∈ Gw := ⟨gm 496 rfl (by decide), gm 0 (by decide +kernel) (by decide), gm 495 (by decide +kernel) (by decide)⟩
abbrev hh_L_end : List (Nat × Nat × Nat × Nat) := [(0, 4, 7, 13)]
set_option maxRecDepth 100000 in
theorem gc_L_end : Cond.codeWith y_L_end b_L_end 2 (some .int) hh_L_end ∈ Gw ∧ Cond.initialized y_L_end.cls ∈ Gw ∧ Cond.static y_L_end ∈ Gw := ⟨gm 508 rfl (by decide), gm 0 (by decide +kernel) (by decide), gm 507 (by decide +kernel) (by decide)⟩
abbrev hh_L_command : List (Nat × Nat × Nat × Nat) := [(0, 16, 19, 13)]
set_option maxRecDepth 100000 in
theorem gc_L_command : Cond.codeWith y_L_command b_L_command 4 (some .int) hh_L_command ∈ Gw ∧ Cond.initialized y_L_command.cls ∈ Gw ∧ Cond.static y_L_command ∈ Gw := ⟨gm 517 rfl (by decide), gm 0 (by decide +kernel) (by decide), gm 516 (by decide +kernel) (by decide)⟩
abbrev hh_L_raise : List (Nat × Nat × Nat × Nat) := [(0, 5, 8, 34)]
set_option maxRecDepth 100000 in
theorem gc_L_raise : Cond.codeWith y_L_raise b_L_raise 3 (some .int) hh_L_raise ∈ Gw ∧ Cond.initialized y_L_raise.cls ∈ Gw ∧ Cond.static y_L_raise ∈ Gw := ⟨gm 533 rfl (by decide), gm 0 (by decide +kernel) (by decide), gm 532 (by decide +kernel) (by decide)⟩
abbrev hh_L_drop : List (Nat × Nat × Nat × Nat) := [(0, 5, 8, 34)]
set_option maxRecDepth 100000 in
theorem gc_L_drop : Cond.codeWith y_L_drop b_L_drop 3 (some .int) hh_L_drop ∈ Gw ∧ Cond.initialized y_L_drop.cls ∈ Gw ∧ Cond.static y_L_drop ∈ Gw := ⟨gm 600 rfl (by decide), gm 0 (by decide +kernel) (by decide), gm 599 (by decide +kernel) (by decide)⟩
abbrev hh_L_take : List (Nat × Nat × Nat × Nat) := [(0, 8, 11, 43)]
set_option maxRecDepth 100000 in
theorem gc_L_take : Cond.codeWith y_L_take b_L_take 3 (some .int) hh_L_take ∈ Gw ∧ Cond.initialized y_L_take.cls ∈ Gw ∧ Cond.static y_L_take ∈ Gw := ⟨gm 607 rfl (by decide), gm 0 (by decide +kernel) (by decide), gm 606 (by decide +kernel) (by decide)⟩
abbrev hh_L_answer : List (Nat × Nat × Nat × Nat) := [(0, 6, 9, 34)]
set_option maxRecDepth 100000 in
theorem gc_L_answer : Cond.codeWith y_L_answer b_L_answer 4 (some .int) hh_L_answer ∈ Gw ∧ Cond.initialized y_L_answer.cls ∈ Gw ∧ Cond.static y_L_answer ∈ Gw := ⟨gm 639 rfl (by decide), gm 0 (by decide +kernel) (by decide), gm 638 (by decide +kernel) (by decide)⟩
abbrev hh_L_packet : List (Nat × Nat × Nat × Nat) := [(0, 19, 22, 15)]
set_option maxRecDepth 100000 in
theorem gc_L_packet : Cond.codeWith y_L_packet b_L_packet 6 (some .int) hh_L_packet ∈ Gw ∧ Cond.initialized y_L_packet.cls ∈ Gw ∧ Cond.static y_L_packet ∈ Gw := ⟨gm 696 rfl (by decide), gm 0 (by decide +kernel) (by decide), gm 695 (by decide +kernel) (by decide)⟩
abbrev hh_L_frame : List (Nat × Nat × Nat × Nat) := [(0, 10, 13, 15)]
set_option maxRecDepth 100000 in
theorem gc_L_frame : Cond.codeWith y_L_frame b_L_frame 5 (some .int) hh_L_frame ∈ Gw ∧ Cond.initialized y_L_frame.cls ∈ Gw ∧ Cond.static y_L_frame ∈ Gw := ⟨gm 719 rfl (by decide), gm 0 (by decide +kernel) (by decide), gm 718 (by decide +kernel) (by decide)⟩
abbrev hh_L_ground : List (Nat × Nat × Nat × Nat) := [(0, 9, 12, 34)]
set_option maxRecDepth 100000 in
theorem gc_L_ground : Cond.codeWith y_L_ground b_L_ground 4 (some .int) hh_L_ground ∈ Gw ∧ Cond.initialized y_L_ground.cls ∈ Gw ∧ Cond.static y_L_ground ∈ Gw := ⟨gm 756 rfl (by decide), gm 0 (by decide +kernel) (by decide), gm 755 (by decide +kernel) (by decide)⟩
abbrev hh_L_craft : List (Nat × Nat × Nat × Nat) := [(0, 9, 12, 34)]
set_option maxRecDepth 100000 in
theorem gc_L_craft : Cond.codeWith y_L_craft b_L_craft 4 (some .int) hh_L_craft ∈ Gw ∧ Cond.initialized y_L_craft.cls ∈ Gw ∧ Cond.static y_L_craft ∈ Gw := ⟨gm 780 rfl (by decide), gm 0 (by decide +kernel) (by decide), gm 779 (by decide +kernel) (by decide)⟩
abbrev hh_L_flight : List (Nat × Nat × Nat × Nat) := [(0, 10, 13, 34)]
set_option maxRecDepth 100000 in
theorem gc_L_flight : Cond.codeWith y_L_flight b_L_flight 5 (some .int) hh_L_flight ∈ Gw ∧ Cond.initialized y_L_flight.cls ∈ Gw ∧ Cond.static y_L_flight ∈ Gw := ⟨gm 795 rfl (by decide), gm 0 (by decide +kernel) (by decide), gm 794 (by decide +kernel) (by decide)⟩
abbrev hh_L_got : List (Nat × Nat × Nat × Nat) := [(0, 10, 13, 43)]
set_option maxRecDepth 100000 in
theorem gc_L_got : Cond.codeWith y_L_got b_L_got 5 (some .int) hh_L_got ∈ Gw ∧ Cond.initialized y_L_got.cls ∈ Gw ∧ Cond.static y_L_got ∈ Gw := ⟨gm 806 rfl (by decide), gm 0 (by decide +kernel) (by decide), gm 805 (by decide +kernel) (by decide)⟩
theorem d_L_tune_0 : decode b_L_tune 0 = .ok (.aload_n 0, 1) := by decide +kernel
theorem d_L_tune_1 : decode b_L_tune 1 = .ok (.iload_n 1, 1) := by decide +kernel
theorem d_L_tune_2 : decode b_L_tune 2 = .ok (.iload_n 2, 1) := by decide +kernel
theorem d_L_tune_3 : decode b_L_tune 3 = .ok (.iload_n 3, 1) := by decide +kernel
theorem d_L_tune_4 : decode b_L_tune 4 = .ok (.invokevirtual 7, 3) := by decide +kernel
theorem d_L_tune_7 : decode b_L_tune 7 = .ok (.goto 11, 3) := by decide +kernel
theorem d_L_tune_10 : decode b_L_tune 10 = .ok (.astore 4, 2) := by decide +kernel
theorem d_L_tune_12 : decode b_L_tune 12 = .ok (.iconst 1, 1) := by decide +kernel
theorem d_L_tune_13 : decode b_L_tune 13 = .ok (.ireturn, 1) := by decide +kernel
theorem d_L_tune_14 : decode b_L_tune 14 = .ok (.astore 4, 2) := by decide +kernel
theorem d_L_tune_16 : decode b_L_tune 16 = .ok (.iconst 2, 1) := by decide +kernel
theorem d_L_tune_17 : decode b_L_tune 17 = .ok (.ireturn, 1) := by decide +kernel
theorem d_L_tune_18 : decode b_L_tune 18 = .ok (.iconst 0, 1) := by decide +kernel
theorem d_L_tune_19 : decode b_L_tune 19 = .ok (.ireturn, 1) := by decide +kernel
theorem d_L_number_0 : decode b_L_number 0 = .ok (.aload_n 0, 1) := by decide +kernel
theorem d_L_number_1 : decode b_L_number 1 = .ok (.iload_n 1, 1) := by decide +kernel
theorem d_L_number_2 : decode b_L_number 2 = .ok (.invokevirtual 17, 3) := by decide +kernel
theorem d_L_number_5 : decode b_L_number 5 = .ok (.goto 9, 3) := by decide +kernel
theorem d_L_number_8 : decode b_L_number 8 = .ok (.astore_n 2, 1) := by decide +kernel
theorem d_L_number_9 : decode b_L_number 9 = .ok (.iconst 1, 1) := by decide +kernel
theorem d_L_number_10 : decode b_L_number 10 = .ok (.ireturn, 1) := by decide +kernel
theorem d_L_number_11 : decode b_L_number 11 = .ok (.astore_n 2, 1) := by decide +kernel
theorem d_L_number_12 : decode b_L_number 12 = .ok (.iconst 2, 1) := by decide +kernel
theorem d_L_number_13 : decode b_L_number 13 = .ok (.ireturn, 1) := by decide +kernel
theorem d_L_number_14 : decode b_L_number 14 = .ok (.iconst 0, 1) := by decide +kernel
theorem d_L_number_15 : decode b_L_number 15 = .ok (.ireturn, 1) := by decide +kernel
theorem d_L_begin_0 : decode b_L_begin 0 = .ok (.aload_n 0, 1) := by decide +kernel
theorem d_L_begin_1 : decode b_L_begin 1 = .ok (.iload_n 1, 1) := by decide +kernel
theorem d_L_begin_2 : decode b_L_begin 2 = .ok (.invokevirtual 21, 3) := by decide +kernel
theorem d_L_begin_5 : decode b_L_begin 5 = .ok (.goto 9, 3) := by decide +kernel
theorem d_L_begin_8 : decode b_L_begin 8 = .ok (.astore_n 2, 1) := by decide +kernel
theorem d_L_begin_9 : decode b_L_begin 9 = .ok (.iconst 1, 1) := by decide +kernel
theorem d_L_begin_10 : decode b_L_begin 10 = .ok (.ireturn, 1) := by decide +kernel
theorem d_L_begin_11 : decode b_L_begin 11 = .ok (.astore_n 2, 1) := by decide +kernel
theorem d_L_begin_12 : decode b_L_begin 12 = .ok (.iconst 2, 1) := by decide +kernel
theorem d_L_begin_13 : decode b_L_begin 13 = .ok (.ireturn, 1) := by decide +kernel
theorem d_L_begin_14 : decode b_L_begin 14 = .ok (.iconst 0, 1) := by decide +kernel
theorem d_L_begin_15 : decode b_L_begin 15 = .ok (.ireturn, 1) := by decide +kernel
theorem d_L_end_0 : decode b_L_end 0 = .ok (.aload_n 0, 1) := by decide +kernel
theorem d_L_end_1 : decode b_L_end 1 = .ok (.invokevirtual 24, 3) := by decide +kernel
theorem d_L_end_4 : decode b_L_end 4 = .ok (.goto 6, 3) := by decide +kernel
theorem d_L_end_7 : decode b_L_end 7 = .ok (.astore_n 1, 1) := by decide +kernel
theorem d_L_end_8 : decode b_L_end 8 = .ok (.iconst 1, 1) := by decide +kernel
theorem d_L_end_9 : decode b_L_end 9 = .ok (.ireturn, 1) := by decide +kernel
theorem d_L_end_10 : decode b_L_end 10 = .ok (.iconst 0, 1) := by decide +kernel
theorem d_L_end_11 : decode b_L_end 11 = .ok (.ireturn, 1) := by decide +kernel
theorem d_L_command_0 : decode b_L_command 0 = .ok (.aload_n 2, 1) := by decide +kernel
theorem d_L_command_1 : decode b_L_command 1 = .ok (.iconst 0, 1) := by decide +kernel
theorem d_L_command_2 : decode b_L_command 2 = .ok (.aload_n 0, 1) := by decide +kernel
theorem d_L_command_3 : decode b_L_command 3 = .ok (.iload_n 1, 1) := by decide +kernel
theorem d_L_command_4 : decode b_L_command 4 = .ok (.invokevirtual 27, 3) := by decide +kernel
theorem d_L_command_7 : decode b_L_command 7 = .ok (.ifCond .eq 7, 3) := by decide +kernel
theorem d_L_command_10 : decode b_L_command 10 = .ok (.lconst 1, 1) := by decide +kernel
theorem d_L_command_11 : decode b_L_command 11 = .ok (.goto 4, 3) := by decide +kernel
theorem d_L_command_14 : decode b_L_command 14 = .ok (.lconst 0, 1) := by decide +kernel
theorem d_L_command_15 : decode b_L_command 15 = .ok (.lastore, 1) := by decide +kernel
theorem d_L_command_16 : decode b_L_command 16 = .ok (.goto 6, 3) := by decide +kernel
theorem d_L_command_19 : decode b_L_command 19 = .ok (.astore_n 3, 1) := by decide +kernel
theorem d_L_command_20 : decode b_L_command 20 = .ok (.iconst 1, 1) := by decide +kernel
theorem d_L_command_21 : decode b_L_command 21 = .ok (.ireturn, 1) := by decide +kernel
theorem d_L_command_22 : decode b_L_command 22 = .ok (.iconst 0, 1) := by decide +kernel
theorem d_L_command_23 : decode b_L_command 23 = .ok (.ireturn, 1) := by decide +kernel
theorem d_L_raise_0 : decode b_L_raise 0 = .ok (.aload_n 0, 1) := by decide +kernel
theorem d_L_raise_1 : decode b_L_raise 1 = .ok (.iload_n 1, 1) := by decide +kernel
theorem d_L_raise_2 : decode b_L_raise 2 = .ok (.invokevirtual 31, 3) := by decide +kernel
theorem d_L_raise_5 : decode b_L_raise 5 = .ok (.goto 6, 3) := by decide +kernel
theorem d_L_raise_8 : decode b_L_raise 8 = .ok (.astore_n 2, 1) := by decide +kernel
theorem d_L_raise_9 : decode b_L_raise 9 = .ok (.iconst 1, 1) := by decide +kernel
theorem d_L_raise_10 : decode b_L_raise 10 = .ok (.ireturn, 1) := by decide +kernel
theorem d_L_raise_11 : decode b_L_raise 11 = .ok (.iconst 0, 1) := by decide +kernel
theorem d_L_raise_12 : decode b_L_raise 12 = .ok (.ireturn, 1) := by decide +kernel
theorem d_L_drop_0 : decode b_L_drop 0 = .ok (.aload_n 0, 1) := by decide +kernel
theorem d_L_drop_1 : decode b_L_drop 1 = .ok (.iload_n 1, 1) := by decide +kernel
theorem d_L_drop_2 : decode b_L_drop 2 = .ok (.invokevirtual 36, 3) := by decide +kernel
theorem d_L_drop_5 : decode b_L_drop 5 = .ok (.goto 6, 3) := by decide +kernel
theorem d_L_drop_8 : decode b_L_drop 8 = .ok (.astore_n 2, 1) := by decide +kernel
theorem d_L_drop_9 : decode b_L_drop 9 = .ok (.iconst 1, 1) := by decide +kernel
theorem d_L_drop_10 : decode b_L_drop 10 = .ok (.ireturn, 1) := by decide +kernel
theorem d_L_drop_11 : decode b_L_drop 11 = .ok (.iconst 0, 1) := by decide +kernel
theorem d_L_drop_12 : decode b_L_drop 12 = .ok (.ireturn, 1) := by decide +kernel
theorem d_L_take_0 : decode b_L_take 0 = .ok (.aload_n 1, 1) := by decide +kernel
theorem d_L_take_1 : decode b_L_take 1 = .ok (.iconst 0, 1) := by decide +kernel
theorem d_L_take_2 : decode b_L_take 2 = .ok (.aload_n 0, 1) := by decide +kernel
theorem d_L_take_3 : decode b_L_take 3 = .ok (.invokevirtual 39, 3) := by decide +kernel
theorem d_L_take_6 : decode b_L_take 6 = .ok (.i2l, 1) := by decide +kernel
theorem d_L_take_7 : decode b_L_take 7 = .ok (.lastore, 1) := by decide +kernel
theorem d_L_take_8 : decode b_L_take 8 = .ok (.goto 6, 3) := by decide +kernel
theorem d_L_take_11 : decode b_L_take 11 = .ok (.astore_n 2, 1) := by decide +kernel
theorem d_L_take_12 : decode b_L_take 12 = .ok (.iconst 1, 1) := by decide +kernel
theorem d_L_take_13 : decode b_L_take 13 = .ok (.ireturn, 1) := by decide +kernel
theorem d_L_take_14 : decode b_L_take 14 = .ok (.iconst 0, 1) := by decide +kernel
theorem d_L_take_15 : decode b_L_take 15 = .ok (.ireturn, 1) := by decide +kernel
theorem d_L_answer_0 : decode b_L_answer 0 = .ok (.aload_n 0, 1) := by decide +kernel
theorem d_L_answer_1 : decode b_L_answer 1 = .ok (.iload_n 1, 1) := by decide +kernel
theorem d_L_answer_2 : decode b_L_answer 2 = .ok (.iload_n 2, 1) := by decide +kernel
theorem d_L_answer_3 : decode b_L_answer 3 = .ok (.invokevirtual 45, 3) := by decide +kernel
theorem d_L_answer_6 : decode b_L_answer 6 = .ok (.goto 6, 3) := by decide +kernel
theorem d_L_answer_9 : decode b_L_answer 9 = .ok (.astore_n 3, 1) := by decide +kernel
theorem d_L_answer_10 : decode b_L_answer 10 = .ok (.iconst 1, 1) := by decide +kernel
theorem d_L_answer_11 : decode b_L_answer 11 = .ok (.ireturn, 1) := by decide +kernel
theorem d_L_answer_12 : decode b_L_answer 12 = .ok (.iconst 0, 1) := by decide +kernel
theorem d_L_answer_13 : decode b_L_answer 13 = .ok (.ireturn, 1) := by decide +kernel
theorem d_L_packet_0 : decode b_L_packet 0 = .ok (.aload 4, 2) := by decide +kernel
theorem d_L_packet_2 : decode b_L_packet 2 = .ok (.iconst 0, 1) := by decide +kernel
theorem d_L_packet_3 : decode b_L_packet 3 = .ok (.aload_n 0, 1) := by decide +kernel
theorem d_L_packet_4 : decode b_L_packet 4 = .ok (.iload_n 1, 1) := by decide +kernel
theorem d_L_packet_5 : decode b_L_packet 5 = .ok (.iload_n 2, 1) := by decide +kernel
theorem d_L_packet_6 : decode b_L_packet 6 = .ok (.iload_n 3, 1) := by decide +kernel
theorem d_L_packet_7 : decode b_L_packet 7 = .ok (.invokevirtual 49, 3) := by decide +kernel
theorem d_L_packet_10 : decode b_L_packet 10 = .ok (.ifCond .eq 7, 3) := by decide +kernel
theorem d_L_packet_13 : decode b_L_packet 13 = .ok (.lconst 1, 1) := by decide +kernel
theorem d_L_packet_14 : decode b_L_packet 14 = .ok (.goto 4, 3) := by decide +kernel
theorem d_L_packet_17 : decode b_L_packet 17 = .ok (.lconst 0, 1) := by decide +kernel
theorem d_L_packet_18 : decode b_L_packet 18 = .ok (.lastore, 1) := by decide +kernel
theorem d_L_packet_19 : decode b_L_packet 19 = .ok (.goto 7, 3) := by decide +kernel
theorem d_L_packet_22 : decode b_L_packet 22 = .ok (.astore 5, 2) := by decide +kernel
theorem d_L_packet_24 : decode b_L_packet 24 = .ok (.iconst 1, 1) := by decide +kernel
theorem d_L_packet_25 : decode b_L_packet 25 = .ok (.ireturn, 1) := by decide +kernel
theorem d_L_packet_26 : decode b_L_packet 26 = .ok (.iconst 0, 1) := by decide +kernel
theorem d_L_packet_27 : decode b_L_packet 27 = .ok (.ireturn, 1) := by decide +kernel
theorem d_L_frame_0 : decode b_L_frame 0 = .ok (.aload_n 3, 1) := by decide +kernel
theorem d_L_frame_1 : decode b_L_frame 1 = .ok (.iconst 0, 1) := by decide +kernel
theorem d_L_frame_2 : decode b_L_frame 2 = .ok (.aload_n 0, 1) := by decide +kernel
theorem d_L_frame_3 : decode b_L_frame 3 = .ok (.iload_n 1, 1) := by decide +kernel
theorem d_L_frame_4 : decode b_L_frame 4 = .ok (.iload_n 2, 1) := by decide +kernel
theorem d_L_frame_5 : decode b_L_frame 5 = .ok (.invokevirtual 53, 3) := by decide +kernel
theorem d_L_frame_8 : decode b_L_frame 8 = .ok (.i2l, 1) := by decide +kernel
theorem d_L_frame_9 : decode b_L_frame 9 = .ok (.lastore, 1) := by decide +kernel
theorem d_L_frame_10 : decode b_L_frame 10 = .ok (.goto 7, 3) := by decide +kernel
theorem d_L_frame_13 : decode b_L_frame 13 = .ok (.astore 4, 2) := by decide +kernel
theorem d_L_frame_15 : decode b_L_frame 15 = .ok (.iconst 1, 1) := by decide +kernel
theorem d_L_frame_16 : decode b_L_frame 16 = .ok (.ireturn, 1) := by decide +kernel
theorem d_L_frame_17 : decode b_L_frame 17 = .ok (.iconst 0, 1) := by decide +kernel
theorem d_L_frame_18 : decode b_L_frame 18 = .ok (.ireturn, 1) := by decide +kernel
theorem d_L_ground_0 : decode b_L_ground 0 = .ok (.aload_n 2, 1) := by decide +kernel
theorem d_L_ground_1 : decode b_L_ground 1 = .ok (.iconst 0, 1) := by decide +kernel
theorem d_L_ground_2 : decode b_L_ground 2 = .ok (.aload_n 0, 1) := by decide +kernel
theorem d_L_ground_3 : decode b_L_ground 3 = .ok (.iload_n 1, 1) := by decide +kernel
theorem d_L_ground_4 : decode b_L_ground 4 = .ok (.invokevirtual 57, 3) := by decide +kernel
theorem d_L_ground_7 : decode b_L_ground 7 = .ok (.i2l, 1) := by decide +kernel
theorem d_L_ground_8 : decode b_L_ground 8 = .ok (.lastore, 1) := by decide +kernel
theorem d_L_ground_9 : decode b_L_ground 9 = .ok (.goto 6, 3) := by decide +kernel
theorem d_L_ground_12 : decode b_L_ground 12 = .ok (.astore_n 3, 1) := by decide +kernel
theorem d_L_ground_13 : decode b_L_ground 13 = .ok (.iconst 1, 1) := by decide +kernel
theorem d_L_ground_14 : decode b_L_ground 14 = .ok (.ireturn, 1) := by decide +kernel
theorem d_L_ground_15 : decode b_L_ground 15 = .ok (.iconst 0, 1) := by decide +kernel
theorem d_L_ground_16 : decode b_L_ground 16 = .ok (.ireturn, 1) := by decide +kernel
theorem d_L_craft_0 : decode b_L_craft 0 = .ok (.aload_n 2, 1) := by decide +kernel
theorem d_L_craft_1 : decode b_L_craft 1 = .ok (.iconst 0, 1) := by decide +kernel
theorem d_L_craft_2 : decode b_L_craft 2 = .ok (.aload_n 0, 1) := by decide +kernel
theorem d_L_craft_3 : decode b_L_craft 3 = .ok (.iload_n 1, 1) := by decide +kernel
theorem d_L_craft_4 : decode b_L_craft 4 = .ok (.invokevirtual 61, 3) := by decide +kernel
theorem d_L_craft_7 : decode b_L_craft 7 = .ok (.i2l, 1) := by decide +kernel
theorem d_L_craft_8 : decode b_L_craft 8 = .ok (.lastore, 1) := by decide +kernel
theorem d_L_craft_9 : decode b_L_craft 9 = .ok (.goto 6, 3) := by decide +kernel
theorem d_L_craft_12 : decode b_L_craft 12 = .ok (.astore_n 3, 1) := by decide +kernel
theorem d_L_craft_13 : decode b_L_craft 13 = .ok (.iconst 1, 1) := by decide +kernel
theorem d_L_craft_14 : decode b_L_craft 14 = .ok (.ireturn, 1) := by decide +kernel
theorem d_L_craft_15 : decode b_L_craft 15 = .ok (.iconst 0, 1) := by decide +kernel
theorem d_L_craft_16 : decode b_L_craft 16 = .ok (.ireturn, 1) := by decide +kernel
theorem d_L_flight_0 : decode b_L_flight 0 = .ok (.aload_n 3, 1) := by decide +kernel
theorem d_L_flight_1 : decode b_L_flight 1 = .ok (.iconst 0, 1) := by decide +kernel
theorem d_L_flight_2 : decode b_L_flight 2 = .ok (.aload_n 0, 1) := by decide +kernel
theorem d_L_flight_3 : decode b_L_flight 3 = .ok (.iload_n 1, 1) := by decide +kernel
theorem d_L_flight_4 : decode b_L_flight 4 = .ok (.iload_n 2, 1) := by decide +kernel
theorem d_L_flight_5 : decode b_L_flight 5 = .ok (.invokevirtual 64, 3) := by decide +kernel
theorem d_L_flight_8 : decode b_L_flight 8 = .ok (.i2l, 1) := by decide +kernel
theorem d_L_flight_9 : decode b_L_flight 9 = .ok (.lastore, 1) := by decide +kernel
theorem d_L_flight_10 : decode b_L_flight 10 = .ok (.goto 7, 3) := by decide +kernel
theorem d_L_flight_13 : decode b_L_flight 13 = .ok (.astore 4, 2) := by decide +kernel
theorem d_L_flight_15 : decode b_L_flight 15 = .ok (.iconst 1, 1) := by decide +kernel
theorem d_L_flight_16 : decode b_L_flight 16 = .ok (.ireturn, 1) := by decide +kernel
theorem d_L_flight_17 : decode b_L_flight 17 = .ok (.iconst 0, 1) := by decide +kernel
theorem d_L_flight_18 : decode b_L_flight 18 = .ok (.ireturn, 1) := by decide +kernel
theorem d_L_got_0 : decode b_L_got 0 = .ok (.aload_n 3, 1) := by decide +kernel
theorem d_L_got_1 : decode b_L_got 1 = .ok (.iconst 0, 1) := by decide +kernel
theorem d_L_got_2 : decode b_L_got 2 = .ok (.aload_n 0, 1) := by decide +kernel
theorem d_L_got_3 : decode b_L_got 3 = .ok (.iload_n 1, 1) := by decide +kernel
theorem d_L_got_4 : decode b_L_got 4 = .ok (.iload_n 2, 1) := by decide +kernel
theorem d_L_got_5 : decode b_L_got 5 = .ok (.invokevirtual 68, 3) := by decide +kernel
theorem d_L_got_8 : decode b_L_got 8 = .ok (.i2l, 1) := by decide +kernel
theorem d_L_got_9 : decode b_L_got 9 = .ok (.lastore, 1) := by decide +kernel
theorem d_L_got_10 : decode b_L_got 10 = .ok (.goto 7, 3) := by decide +kernel
theorem d_L_got_13 : decode b_L_got 13 = .ok (.astore 4, 2) := by decide +kernel
theorem d_L_got_15 : decode b_L_got 15 = .ok (.iconst 1, 1) := by decide +kernel
theorem d_L_got_16 : decode b_L_got 16 = .ok (.ireturn, 1) := by decide +kernel
theorem d_L_got_17 : decode b_L_got 17 = .ok (.iconst 0, 1) := by decide +kernel
theorem d_L_got_18 : decode b_L_got 18 = .ok (.ireturn, 1) := by decide +kernel
section XD
variable {p : Program} {l : Launch} {e : Env} {R : Room} {s : State} {m : MethodId} {args : Array Value} {below : List Frame} {meth : Method} {c : Code} {cells slots : Nat} {Q : State → Prop}
variable {cc : ByteArray} {pc nL idx : Nat} {rest : List Value} {loc loc' : List (Nat × Value)} {wl : Jst → va_W} {D : va_G} {cl : List vw_C} {tys : List (ClassId × FieldType)} {A : Nat → Prop} {N0 : State → Prop} {σ : Jst} {own : String}
variable {mc ms : Nat}
abbrev Hx (p : Program) (l : Launch) (e : Env) (R : Room) (s : State) (m : MethodId) (args : Array Value) (below : List Frame) (meth : Method) (c : Code) (D : va_G) (cl : List vw_C) (wl : Jst → va_W) (A : Nat → Prop) (nL cells slots : Nat) (Q : State → Prop) (own : String) (pc : Nat) (loc : List (Nat × Value)) (E : String) (σ1 : Jst) : Prop :=
  ∃ (pre : List ExceptionTableEntry) (x : ExceptionTableEntry) (suf : List ExceptionTableEntry), c.exceptionTable.toList = pre ++ x :: suf ∧ (∀ z ∈ pre, z.catchType ≠ 0 ∧ ∃ nm : String, (Cond.classLink own z.catchType nm).before args s = true ∧ va_Nc E nm s) ∧ covers x pc = true ∧ x.catchType ≠ 0 ∧
      (∃ nm : String, (Cond.classLink own x.catchType nm).before args s = true ∧ va_Nw (.castable E nm) s) ∧ ∀ q : Addr, J p l e R s m args below meth c D cl wl A nL cells slots Q x.handlerPc loc [.ref q] σ1
theorem x_h1 (X : Cx p s m args c cc nL own Gw D cl tys wl A N0) {a b h t : Nat} (hm : c.exceptionTable.toList.map (fun h => (h.startPc, h.endPc, h.handlerPc, h.catchType)) = [(a, b, h, t)]) {E : String} (h1 : a ≤ pc) (h2 : pc < b) (ht : t ≠ 0) (hl : Cond.classLink own t E ∈ Gw) (hc : ∀ s : State, N0 s → va_Nw (.castable E E) s) (k : ∀ q : Addr, J p l e R s m args below meth c D cl wl A nL cells slots Q h loc [.ref q] σ) : Hx p l e R s m args below meth c D cl wl A nL cells slots Q own pc loc E σ := by
  obtain ⟨x, hx, rfl, rfl, rfl, rfl⟩ := tab1 hm
  exact ⟨[], x, [], hx, (fun z hz => nomatch hz), by simp [covers, h1, h2], ht, ⟨E, X.2.2.2.2.1 _ hl, hc s X.2.2.2.2.2.2.2.1⟩, k⟩
theorem x_h2a (X : Cx p s m args c cc nL own Gw D cl tys wl A N0) {a b h t a2 b2 h2 t2 : Nat} (hm : c.exceptionTable.toList.map (fun h => (h.startPc, h.endPc, h.handlerPc, h.catchType)) = [(a, b, h, t), (a2, b2, h2, t2)]) {E : String} (h1 : a ≤ pc) (h2 : pc < b) (ht : t ≠ 0) (hl : Cond.classLink own t E ∈ Gw) (hc : ∀ s : State, N0 s → va_Nw (.castable E E) s) (k : ∀ q : Addr, J p l e R s m args below meth c D cl wl A nL cells slots Q h loc [.ref q] σ) : Hx p l e R s m args below meth c D cl wl A nL cells slots Q own pc loc E σ := by
  obtain ⟨x, y, hx, ⟨rfl, rfl, rfl, rfl⟩, -⟩ := tab2 hm
  exact ⟨[], x, [y], hx, (fun z hz => nomatch hz), by simp [covers, h1, h2], ht, ⟨E, X.2.2.2.2.1 _ hl, hc s X.2.2.2.2.2.2.2.1⟩, k⟩
theorem x_h2b (X : Cx p s m args c cc nL own Gw D cl tys wl A N0) {a b h t a2 b2 h2 t2 : Nat} (hm : c.exceptionTable.toList.map (fun h => (h.startPc, h.endPc, h.handlerPc, h.catchType)) = [(a, b, h, t), (a2, b2, h2, t2)]) {E E0 : String} (h1 : a2 ≤ pc) (h3 : pc < b2) (ht : t2 ≠ 0) (hl : Cond.classLink own t2 E ∈ Gw) (hc : ∀ s : State, N0 s → va_Nw (.castable E E) s) (ht0 : t ≠ 0) (hl0 : Cond.classLink own t E0 ∈ Gw) (hn : ∀ s : State, N0 s → va_Nc E E0 s) (k : ∀ q : Addr, J p l e R s m args below meth c D cl wl A nL cells slots Q h2 loc [.ref q] σ) : Hx p l e R s m args below meth c D cl wl A nL cells slots Q own pc loc E σ := by
  obtain ⟨x, y, hx, ⟨rfl, rfl, rfl, rfl⟩, ⟨rfl, rfl, rfl, rfl⟩⟩ := tab2 hm
  exact ⟨[x], y, [], hx, (fun z hz => (by rw [List.mem_singleton.mp hz]; exact ⟨ht0, E0, X.2.2.2.2.1 _ hl0, hn s X.2.2.2.2.2.2.2.1⟩)), by simp [covers, h1, h3], ht, ⟨E, X.2.2.2.2.1 _ hl, hc s X.2.2.2.2.2.2.2.1⟩, k⟩
theorem gcX (X : Cx p s m args c cc nL own Gw D cl tys wl A N0) {y : MethodName} {bytes : ByteArray} {maxL n : Nat} {ret : Option FieldType} {ws : List Cond} {rm : Room} {C : String} (hw : ws = wG y bytes maxL ret) (hrc : rm.cells = mc) (hrs : rm.slots = ms) (hm : Cond.code y bytes maxL ret ∈ Gw ∧ Cond.initialized y.cls ∈ Gw) (hs : Cond.instanceMethod y ∈ Gw ∧ Cond.selects C y y ∈ Gw) (hl : Cond.methodLink own idx y ∈ Gw) (hd : y.cls ≠ "java/lang/invoke/MethodHandle" ∧ y.cls ≠ "java/lang/invoke/VarHandle" ∧ (parseMethodDescriptor y.desc).map (fun d => d.parameters.length) = some n) (hR : rm.frames + 1 ≤ R.frames ∧ 8 + (maxL + 11) + rm.locals ≤ R.locals) : CallW R s args own C idx y bytes maxL ret ws rm mc ms n :=
  ⟨callB_of n X.2.2.2.2.1 (gw_call hw hm.1) hw hrc hrs (X.2.2.2.2.1 _ hm.2) (X.2.2.2.2.1 _ hl) hd hR, X.2.2.2.2.1 _ hs.1, X.2.2.2.2.1 _ hs.2⟩
set_option maxHeartbeats 1000000 in
/-- a static call of a method with a table of its own that returns -/
theorem j_callSWi (X : Cx p s m args c cc nL own Gw D cl tys wl A N0) {y : MethodName} {ws : List Cond} {rm : Room} {bytes : ByteArray} {maxL n : Nat} {ret : Option FieldType} {hh : List (Nat × Nat × Nat × Nat)} {As st0 : List Value} {K : Int32 → Jst → Prop} (hM : Met l y ws rm (va_Pc As (Jw D cl tys wl N0 σ)) (va_Qi K (Jq D cl wl) A) mc ms A) (hw : ws = Cond.codeWith y bytes maxL ret hh :: Gw) (hrc : rm.cells = mc) (hrs : rm.slots = ms) (hm : Cond.codeWith y bytes maxL ret hh ∈ Gw ∧ Cond.initialized y.cls ∈ Gw ∧ Cond.static y ∈ Gw) (hl : Cond.methodLink own idx y ∈ Gw) (hd : y.cls ≠ "java/lang/invoke/MethodHandle" ∧ y.cls ≠ "java/lang/invoke/VarHandle" ∧ (parseMethodDescriptor y.desc).map (fun d => d.parameters.length) = some n) (hR : rm.frames + 1 ≤ R.frames ∧ 8 + (maxL + 11) + rm.locals ≤ R.locals) (hst : st0 = As.reverse ++ rest) (hn : As.length = n) (hro : (rest.map fun v => v.category).sum ≤ 8) (hcs : cells + mc ≤ R.cells ∧ slots + ms ≤ R.slots) (d : decode cc pc = .ok (.invokestatic idx, 3))
    (k : ∀ (r : Int32) (σ1 : Jst), K r σ1 → J p l e R s m args below meth c D cl wl A nL (cells + mc) (slots + ms) Q (pc + 3) loc (.int r :: rest) σ1) : J p l e R s m args below meth c D cl wl A nL cells slots Q pc loc st0 σ := by
  intro H locs ls hl9 hP hS T hT XT
  obtain ⟨hx, hb, hml, hown, hts, hK, hD, hN, hJk⟩ := X
  have hGI : GoodIn Gw ws := by
    subst hw
    intro w h
    rcases List.mem_cons.mp h with rfl | h
    · exact ⟨hm.1, gw_good hm.1⟩
    · exact ⟨h, gw_good h⟩
  have hBack : Back l R p e below s args y 3 8 (PreOf R mc ms (va_Pc As (Jw D cl tys wl N0 σ))) (PostOf (va_Qi K (Jq D cl wl) A) mc ms A) :=
    va_backW (bytes := bytes) (maxL := maxL) (ret := ret) (hh := hh) hM (j_blind hJk) hrc hrs hR.1 hR.2 (pay_in hts hGI) (by rw [hw]; exact List.mem_cons_self) (fun a' U hW => word_at hW (gw_good hm.2.1) (hts _ hm.2.1))
  obtain ⟨m9, methM, cM, hnamed, hmethM, hcM, -, hlM, -, -, -, hsigM⟩ := Cond.codeWith_spec (hts _ hm.1)
  have hstatic : methM.isStatic = true := Cond.static_spec hnamed hmethM (hts _ hm.2.2)
  obtain ⟨kP, hkP, -⟩ := className_of_methodNamed hnamed
  have hinitP : kP.init = .initialized := Cond.initialized_spec (findClass_of_methodNamed hnamed) hkP (hts _ hm.2.1)
  have dg : decode c.code pc = .ok (.invokestatic idx, 3) := by rw [hb]; exact d
  have hlen : As.length = methM.sig.parameters.length := by
    have h2 := hd.2.2
    rw [hsigM] at h2
    exact hn.trans (Option.some.inj h2).symm
  obtain ⟨vm1, X1, hstep1⟩ := XT.invokestatic hx hown (hts _ hl) hnamed hmethM hstatic hkP hinitP ⟨hd.1, hd.2.1⟩ (g := F0 m pc ls st0) rfl (argsL := As) (rest := rest) hlen hst dg
  have hJw : Jw D cl tys wl N0 σ (T.setVm vm1) := ⟨by show va_P D cl (wl σ) T.heap; rw [hT]; exact hP, va_K.moved X1.warmed.alike hK, hJk s _ X1.warmed (by show s.heap.size ≤ T.heap.size; rw [hT]; exact hS.1) (by show ∀ q : Nat, q < s.heap.size → ¬ A q → T.heap[q]? = s.heap[q]?; rw [hT]; exact hS.2.1) hN⟩
  obtain ⟨v, ⟨U2, l2, c2, s2⟩, X2, hpost, hsteps⟩ := hBack m meth c ⟨T.setVm vm1, locs, cells, slots⟩ (F0 m pc ls rest) (.invokestatic idx) m9 As.toArray X1 rfl (hl9.1.trans hml.symm) dg (lv_room hro) (X1.named hnamed) ⟨hcs.1, hcs.2, rfl, hJw⟩
  obtain ⟨g9, mk9, t9, L, e1, e2, ⟨⟨r, u, hv, hk, hp⟩, hF⟩, h1, hL, h2, h3⟩ := hpost
  dsimp only [Pt.U, Pt.locs, Pt.cells, Pt.slots] at X2 e1 e2 h1 h2 h3 hsteps
  subst h1; subst h2; subst h3
  cases hv
  have hF1 : H.size ≤ t9.heap.size := by have := hF.1; rw [show ((T.setVm vm1).calling g9 mk9 As.toArray).heap = T.heap from rfl, hT] at this; exact this
  have hF2 : ∀ q : Nat, q < H.size → ¬ A q → t9.heap[q]? = H[q]? := by have := hF.2; rw [show ((T.setVm vm1).calling g9 mk9 As.toArray).heap = T.heap from rfl, hT] at this; exact this
  obtain ⟨t, a1, b1⟩ := k r u hk U2.heap (locs ++ L) ls hl9 (by rw [e1]; exact hp) (by rw [e1]; exact ⟨Nat.le_trans hS.1 hF1, fun q h1 h2 => (hF2 q (Nat.lt_of_lt_of_le h1 hS.1) h2).trans (hS.2.1 q h1 h2), fun q hq => (List.mem_append.mp hq).elim (hS.2.2 q) (hL q)⟩) U2 rfl X2
  refine ⟨t, hstep1 _ fun acts => ?_, b1⟩
  rw [doInvoke_state]
  exact hsteps.trans a1
end XD
section XL
variable {p : Program} {l : Launch} {e : Env} {R : Room} {s : State} {m : MethodId} {args : Array Value} {below : List Frame} {meth : Method} {c : Code} {cells slots : Nat} {Q : State → Prop}
variable {cc : ByteArray} {pc nL idx : Nat} {rest : List Value} {loc : List (Nat × Value)} {D : va_G} {ca ad : Nat → Nat} {A : Nat → Prop} {N0 : State → Prop} {σ : Jst} {own : String}
theorem ws_53 (i : Nat) (x : Int32) : (wlT ad ca σ).set 53 (ad 53, .inl (ca 53, 1, .inr (.inl (vp_updL (fun j => (σ 53 j).toInt64) i x.toInt64)))) = wlT ad ca (jup σ 53 i x) := by
  have h : (vp_updL (fun j => (σ 53 j).toInt64) i x.toInt64) = fun j => ((jup σ 53 i x) 53 j).toInt64 := by
    funext j
    show (if j = i then x.toInt64 else (σ 53 j).toInt64) = (if j = i then x else σ 53 j).toInt64
    by_cases hj : j = i <;> simp [hj]
  rw [h]
  rfl
theorem ll_53 (X : Cx p s m args c cc nL own Gw D vwCl (tysT ca) (wlT ad ca) A N0) {i : Int32} {v : Int64} (hin : vp_in i 1) (hv : (σ 53 i.toNatClampNeg).toInt64 = v) (d : decode cc pc = .ok (.laload, 1)) (k : J p l e R s m args below meth c D vwCl (wlT ad ca) A nL cells slots Q (pc + 1) loc (.long v :: rest) σ) : J p l e R s m args below meth c D vwCl (wlT ad ca) A nL cells slots Q pc loc (.int i :: .ref (ad 53) :: rest) σ := by subst hv; exact j_lald X 53 40 rfl rfl hin d k
theorem sl_53 (X : Cx p s m args c cc nL own Gw D vwCl (tysT ca) (wlT ad ca) A N0) {i x : Int32} {v : Int64} (hin : vp_in i 1) (hv : v = x.toInt64) (d : decode cc pc = .ok (.lastore, 1)) (k : J p l e R s m args below meth c D vwCl (wlT ad ca) A nL cells slots Q (pc + 1) loc rest (jup σ 53 i.toNatClampNeg x)) : J p l e R s m args below meth c D vwCl (wlT ad ca) A nL cells slots Q pc loc (.long v :: .int i :: .ref (ad 53) :: rest) σ := by subst hv; exact j_last X 53 40 rfl rfl hin (ws_53 _ _) d k
end XL
