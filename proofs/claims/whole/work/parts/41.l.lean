def w_L_tune (a1 : Int32) (a2 : Int32) (a3 : Int32) (σ : Jst) (K : Int32 → Jst → Prop) : Prop := w_T_tune a1 a2 a3 σ (fun r2o u1 => r2o = none ∧ K (0 : Int32) u1) (fun E u1 => (E = "java/lang/IllegalStateException" ∧ K (1 : Int32) u1) ∨ (E = "java/lang/IllegalArgumentException" ∧ K (2 : Int32) u1))
abbrev rm_L_tune : Room := { frames := 7, cells := 1, slots := 6, locals := 113 }
set_option maxRecDepth 100000 in
set_option maxHeartbeats 4000000 in
theorem c_L_tune (l : Launch) (hlt : l.stackTraces = false) (D : va_G) (ca ad : Nat → Nat) (sz : Nat) (hD : Jd ca ad sz) {a1 a2 a3 : Int32} {σ : Jst} {K : Int32 → Jst → Prop} (hw : w_L_tune a1 a2 a3 σ K) : Met l y_L_tune (Cond.codeWith y_L_tune b_L_tune 5 (some .int) hh_L_tune :: Gw) rm_L_tune (va_Pc [.ref (ad 0), .int a1, .int a2, .int a3] (Jw D vwCl (tysT ca) (wlT ad ca) (NwT sz) σ)) (va_Qi K (Jq D vwCl (wlT ad ca)) (Aw sz)) 1 6 (Aw sz) := by
  refine x_metW (cc := b_L_tune) (own := R_L) (by decide +kernel) rfl (Nat.le_of_ble_eq_true rfl) rfl hD (nwT_k sz) ?_
  intro p e s m args below meth c X hlk hr htab
  have hX : J p l e rm_L_tune s m args below meth c D vwCl (wlT ad ca) (Aw sz) 5 0 0 (MQ below (va_Qi K (Jq D vwCl (wlT ad ca)) (Aw sz)) args s 1 6 (Aw sz)) 0 [(0, .ref (ad 0)), (1, .int a1), (2, .int a2), (3, .int a3)] [] σ := by
    unfold w_L_tune at hw
    refine j_aload_n X d_L_tune_0 rfl 0 rfl ?_
    refine j_iload_n X d_L_tune_1 rfl 1 rfl ?_
    refine j_iload_n X d_L_tune_2 rfl 2 rfl ?_
    refine j_iload_n X d_L_tune_3 rfl 3 rfl ?_
    refine x_callV (q0 := 0) (As := [.int a1, .int a2, .int a3]) (rest := []) X (c_T_tune l hlt D ca ad sz hD hw) (gcX (n := 3) X rfl rfl rfl gc_T_tune m_T_tune l_L_7 (by decide +kernel) ⟨by decide, by decide⟩) rfl rfl rfl rfl (Nat.le_of_ble_eq_true rfl) ⟨by decide, by decide⟩ d_L_tune_4 (fun r2o u1 h => ?_) (fun E u1 h => ?_)
    · obtain ⟨rfl, hw⟩ := h
      refine j_st (st2 := []) rfl ?_
      refine j_goto X d_L_tune_7 (tgt := 18) (by decide) ?_
      refine j_iconst X (v := (0 : Int32)) d_L_tune_18 (by decide) ?_
      exact j_iret X hlk hr d_L_tune_19 hw
    · rcases h with ⟨rfl, hw⟩ | ⟨rfl, hw⟩
      · refine x_h2a X htab (by decide) (by decide) (by decide) k_L_13 (fun s h => h.1 _ (by decide +kernel)) (fun q => ?_)
        refine j_astore X d_L_tune_10 (by decide) rfl ?_
        refine j_iconst X (v := (1 : Int32)) d_L_tune_12 (by decide) ?_
        exact j_iret X hlk hr d_L_tune_13 hw
      · refine x_h2b X htab (by decide) (by decide) (by decide) k_L_15 (fun s h => h.1 _ (by decide +kernel)) (by decide) k_L_13 (fun s h => h.2.2.2.2.2 ("java/lang/IllegalArgumentException", "java/lang/IllegalStateException") (by decide)) (fun q => ?_)
        refine j_astore X d_L_tune_14 (by decide) rfl ?_
        refine j_iconst X (v := (2 : Int32)) d_L_tune_16 (by decide) ?_
        exact j_iret X hlk hr d_L_tune_17 hw
  exact hX
def w_L_number (a1 : Int32) (σ : Jst) (K : Int32 → Jst → Prop) : Prop := w_T_number a1 σ (fun r2o u1 => r2o = none ∧ K (0 : Int32) u1) (fun E u1 => (E = "java/lang/IllegalStateException" ∧ K (1 : Int32) u1) ∨ (E = "java/lang/IllegalArgumentException" ∧ K (2 : Int32) u1))
abbrev rm_L_number : Room := { frames := 7, cells := 1, slots := 6, locals := 111 }
set_option maxRecDepth 100000 in
set_option maxHeartbeats 4000000 in
theorem c_L_number (l : Launch) (hlt : l.stackTraces = false) (D : va_G) (ca ad : Nat → Nat) (sz : Nat) (hD : Jd ca ad sz) {a1 : Int32} {σ : Jst} {K : Int32 → Jst → Prop} (hw : w_L_number a1 σ K) : Met l y_L_number (Cond.codeWith y_L_number b_L_number 3 (some .int) hh_L_number :: Gw) rm_L_number (va_Pc [.ref (ad 0), .int a1] (Jw D vwCl (tysT ca) (wlT ad ca) (NwT sz) σ)) (va_Qi K (Jq D vwCl (wlT ad ca)) (Aw sz)) 1 6 (Aw sz) := by
  refine x_metW (cc := b_L_number) (own := R_L) (by decide +kernel) rfl (Nat.le_of_ble_eq_true rfl) rfl hD (nwT_k sz) ?_
  intro p e s m args below meth c X hlk hr htab
  have hX : J p l e rm_L_number s m args below meth c D vwCl (wlT ad ca) (Aw sz) 3 0 0 (MQ below (va_Qi K (Jq D vwCl (wlT ad ca)) (Aw sz)) args s 1 6 (Aw sz)) 0 [(0, .ref (ad 0)), (1, .int a1)] [] σ := by
    unfold w_L_number at hw
    refine j_aload_n X d_L_number_0 rfl 0 rfl ?_
    refine j_iload_n X d_L_number_1 rfl 1 rfl ?_
    refine x_callV (q0 := 0) (As := [.int a1]) (rest := []) X (c_T_number l hlt D ca ad sz hD hw) (gcX (n := 1) X rfl rfl rfl gc_T_number m_T_number l_L_17 (by decide +kernel) ⟨by decide, by decide⟩) rfl rfl rfl rfl (Nat.le_of_ble_eq_true rfl) ⟨by decide, by decide⟩ d_L_number_2 (fun r2o u1 h => ?_) (fun E u1 h => ?_)
    · obtain ⟨rfl, hw⟩ := h
      refine j_st (st2 := []) rfl ?_
      refine j_goto X d_L_number_5 (tgt := 14) (by decide) ?_
      refine j_iconst X (v := (0 : Int32)) d_L_number_14 (by decide) ?_
      exact j_iret X hlk hr d_L_number_15 hw
    · rcases h with ⟨rfl, hw⟩ | ⟨rfl, hw⟩
      · refine x_h2a X htab (by decide) (by decide) (by decide) k_L_13 (fun s h => h.1 _ (by decide +kernel)) (fun q => ?_)
        refine j_astore_n X d_L_number_8 rfl (by decide) rfl ?_
        refine j_iconst X (v := (1 : Int32)) d_L_number_9 (by decide) ?_
        exact j_iret X hlk hr d_L_number_10 hw
      · refine x_h2b X htab (by decide) (by decide) (by decide) k_L_15 (fun s h => h.1 _ (by decide +kernel)) (by decide) k_L_13 (fun s h => h.2.2.2.2.2 ("java/lang/IllegalArgumentException", "java/lang/IllegalStateException") (by decide)) (fun q => ?_)
        refine j_astore_n X d_L_number_11 rfl (by decide) rfl ?_
        refine j_iconst X (v := (2 : Int32)) d_L_number_12 (by decide) ?_
        exact j_iret X hlk hr d_L_number_13 hw
  exact hX
def w_L_begin (a1 : Int32) (σ : Jst) (K : Int32 → Jst → Prop) : Prop := w_T_begin a1 σ (fun r2o u1 => r2o = none ∧ K (0 : Int32) u1) (fun E u1 => (E = "java/lang/IllegalStateException" ∧ K (1 : Int32) u1) ∨ (E = "java/lang/IllegalArgumentException" ∧ K (2 : Int32) u1))
abbrev rm_L_begin : Room := { frames := 7, cells := 1, slots := 6, locals := 111 }
set_option maxRecDepth 100000 in
set_option maxHeartbeats 4000000 in
theorem c_L_begin (l : Launch) (hlt : l.stackTraces = false) (D : va_G) (ca ad : Nat → Nat) (sz : Nat) (hD : Jd ca ad sz) {a1 : Int32} {σ : Jst} {K : Int32 → Jst → Prop} (hw : w_L_begin a1 σ K) : Met l y_L_begin (Cond.codeWith y_L_begin b_L_begin 3 (some .int) hh_L_begin :: Gw) rm_L_begin (va_Pc [.ref (ad 0), .int a1] (Jw D vwCl (tysT ca) (wlT ad ca) (NwT sz) σ)) (va_Qi K (Jq D vwCl (wlT ad ca)) (Aw sz)) 1 6 (Aw sz) := by
  refine x_metW (cc := b_L_begin) (own := R_L) (by decide +kernel) rfl (Nat.le_of_ble_eq_true rfl) rfl hD (nwT_k sz) ?_
  intro p e s m args below meth c X hlk hr htab
  have hX : J p l e rm_L_begin s m args below meth c D vwCl (wlT ad ca) (Aw sz) 3 0 0 (MQ below (va_Qi K (Jq D vwCl (wlT ad ca)) (Aw sz)) args s 1 6 (Aw sz)) 0 [(0, .ref (ad 0)), (1, .int a1)] [] σ := by
    unfold w_L_begin at hw
    refine j_aload_n X d_L_begin_0 rfl 0 rfl ?_
    refine j_iload_n X d_L_begin_1 rfl 1 rfl ?_
    refine x_callV (q0 := 0) (As := [.int a1]) (rest := []) X (c_T_begin l hlt D ca ad sz hD hw) (gcX (n := 1) X rfl rfl rfl gc_T_begin m_T_begin l_L_21 (by decide +kernel) ⟨by decide, by decide⟩) rfl rfl rfl rfl (Nat.le_of_ble_eq_true rfl) ⟨by decide, by decide⟩ d_L_begin_2 (fun r2o u1 h => ?_) (fun E u1 h => ?_)
    · obtain ⟨rfl, hw⟩ := h
      refine j_st (st2 := []) rfl ?_
      refine j_goto X d_L_begin_5 (tgt := 14) (by decide) ?_
      refine j_iconst X (v := (0 : Int32)) d_L_begin_14 (by decide) ?_
      exact j_iret X hlk hr d_L_begin_15 hw
    · rcases h with ⟨rfl, hw⟩ | ⟨rfl, hw⟩
      · refine x_h2a X htab (by decide) (by decide) (by decide) k_L_13 (fun s h => h.1 _ (by decide +kernel)) (fun q => ?_)
        refine j_astore_n X d_L_begin_8 rfl (by decide) rfl ?_
        refine j_iconst X (v := (1 : Int32)) d_L_begin_9 (by decide) ?_
        exact j_iret X hlk hr d_L_begin_10 hw
      · refine x_h2b X htab (by decide) (by decide) (by decide) k_L_15 (fun s h => h.1 _ (by decide +kernel)) (by decide) k_L_13 (fun s h => h.2.2.2.2.2 ("java/lang/IllegalArgumentException", "java/lang/IllegalStateException") (by decide)) (fun q => ?_)
        refine j_astore_n X d_L_begin_11 rfl (by decide) rfl ?_
        refine j_iconst X (v := (2 : Int32)) d_L_begin_12 (by decide) ?_
        exact j_iret X hlk hr d_L_begin_13 hw
  exact hX
def w_L_end (σ : Jst) (K : Int32 → Jst → Prop) : Prop := w_T_end σ (fun r2o u1 => r2o = none ∧ K (0 : Int32) u1) (fun E u1 => (E = "java/lang/IllegalStateException" ∧ K (1 : Int32) u1))
abbrev rm_L_end : Room := { frames := 7, cells := 1, slots := 6, locals := 110 }
set_option maxRecDepth 100000 in
set_option maxHeartbeats 4000000 in
theorem c_L_end (l : Launch) (hlt : l.stackTraces = false) (D : va_G) (ca ad : Nat → Nat) (sz : Nat) (hD : Jd ca ad sz) {σ : Jst} {K : Int32 → Jst → Prop} (hw : w_L_end σ K) : Met l y_L_end (Cond.codeWith y_L_end b_L_end 2 (some .int) hh_L_end :: Gw) rm_L_end (va_Pc [.ref (ad 0)] (Jw D vwCl (tysT ca) (wlT ad ca) (NwT sz) σ)) (va_Qi K (Jq D vwCl (wlT ad ca)) (Aw sz)) 1 6 (Aw sz) := by
  refine x_metW (cc := b_L_end) (own := R_L) (by decide +kernel) rfl (Nat.le_of_ble_eq_true rfl) rfl hD (nwT_k sz) ?_
  intro p e s m args below meth c X hlk hr htab
  have hX : J p l e rm_L_end s m args below meth c D vwCl (wlT ad ca) (Aw sz) 2 0 0 (MQ below (va_Qi K (Jq D vwCl (wlT ad ca)) (Aw sz)) args s 1 6 (Aw sz)) 0 [(0, .ref (ad 0))] [] σ := by
    unfold w_L_end at hw
    refine j_aload_n X d_L_end_0 rfl 0 rfl ?_
    refine x_callV (q0 := 0) (As := []) (rest := []) X (c_T_end l hlt D ca ad sz hD hw) (gcX (n := 0) X rfl rfl rfl gc_T_end m_T_end l_L_24 (by decide +kernel) ⟨by decide, by decide⟩) rfl rfl rfl rfl (Nat.le_of_ble_eq_true rfl) ⟨by decide, by decide⟩ d_L_end_1 (fun r2o u1 h => ?_) (fun E u1 h => ?_)
    · obtain ⟨rfl, hw⟩ := h
      refine j_st (st2 := []) rfl ?_
      refine j_goto X d_L_end_4 (tgt := 10) (by decide) ?_
      refine j_iconst X (v := (0 : Int32)) d_L_end_10 (by decide) ?_
      exact j_iret X hlk hr d_L_end_11 hw
    · obtain ⟨rfl, hw⟩ := h
      refine x_h1 X htab (by decide) (by decide) (by decide) k_L_13 (fun s h => h.1 _ (by decide +kernel)) (fun q => ?_)
      refine j_astore_n X d_L_end_7 rfl (by decide) rfl ?_
      refine j_iconst X (v := (1 : Int32)) d_L_end_8 (by decide) ?_
      exact j_iret X hlk hr d_L_end_9 hw
  exact hX
def w_L_command (a1 : Int32) (σ : Jst) (K : Int32 → Jst → Prop) : Prop := w_T_command a1 σ (fun r2o u1 => ∃ r2 : Int32, r2o = some r2 ∧ ((r2 = (0 : Int32) → K (0 : Int32) (jup u1 53 (Int32.toNatClampNeg (0 : Int32)) (0 : Int32))) ∧ (¬ r2 = (0 : Int32) → K (0 : Int32) (jup u1 53 (Int32.toNatClampNeg (0 : Int32)) (1 : Int32))))) (fun E u1 => (E = "java/lang/IllegalStateException" ∧ K (1 : Int32) u1))
abbrev rm_L_command : Room := { frames := 7, cells := 1, slots := 6, locals := 111 }
set_option maxRecDepth 100000 in
set_option maxHeartbeats 4000000 in
theorem c_L_command (l : Launch) (hlt : l.stackTraces = false) (D : va_G) (ca ad : Nat → Nat) (sz : Nat) (hD : Jd ca ad sz) {a1 : Int32} {σ : Jst} {K : Int32 → Jst → Prop} (hw : w_L_command a1 σ K) : Met l y_L_command (Cond.codeWith y_L_command b_L_command 4 (some .int) hh_L_command :: Gw) rm_L_command (va_Pc [.ref (ad 0), .int a1, .ref (ad 53)] (Jw D vwCl (tysT ca) (wlT ad ca) (NwT sz) σ)) (va_Qi K (Jq D vwCl (wlT ad ca)) (Aw sz)) 1 6 (Aw sz) := by
  refine x_metW (cc := b_L_command) (own := R_L) (by decide +kernel) rfl (Nat.le_of_ble_eq_true rfl) rfl hD (nwT_k sz) ?_
  intro p e s m args below meth c X hlk hr htab
  have hX : J p l e rm_L_command s m args below meth c D vwCl (wlT ad ca) (Aw sz) 4 0 0 (MQ below (va_Qi K (Jq D vwCl (wlT ad ca)) (Aw sz)) args s 1 6 (Aw sz)) 0 [(0, .ref (ad 0)), (1, .int a1), (2, .ref (ad 53))] [] σ := by
    unfold w_L_command at hw
    refine j_aload_n X d_L_command_0 rfl 2 rfl ?_
    refine j_iconst X (v := (0 : Int32)) d_L_command_1 (by decide) ?_
    refine j_aload_n X d_L_command_2 rfl 0 rfl ?_
    refine j_iload_n X d_L_command_3 rfl 1 rfl ?_
    refine x_callV (q0 := 0) (As := [.int a1]) (rest := [.int (0 : Int32), .ref (ad 53)]) X (c_T_command l hlt D ca ad sz hD hw) (gcX (n := 1) X rfl rfl rfl gc_T_command m_T_command l_L_27 (by decide +kernel) ⟨by decide, by decide⟩) rfl rfl rfl rfl (Nat.le_of_ble_eq_true rfl) ⟨by decide, by decide⟩ d_L_command_4 (fun r2o u1 h => ?_) (fun E u1 h => ?_)
    · obtain ⟨r2, rfl, hw⟩ := h
      refine j_st (st2 := [.int r2, .int (0 : Int32), .ref (ad 53)]) rfl ?_
      refine j_if_eq X d_L_command_7 (tgt := 14) (by decide) (fun h => ?_) (fun h => ?_)
      · have hw := hw.1 h
        refine j_lconst X (v := (0 : Int64)) d_L_command_14 (by decide) ?_
        refine sl_53 X (x := (0 : Int32)) (vin_lit (0 : Int32) 1 (by decide)) (by decide) d_L_command_15 ?_
        refine j_goto X d_L_command_16 (tgt := 22) (by decide) ?_
        refine j_iconst X (v := (0 : Int32)) d_L_command_22 (by decide) ?_
        exact j_iret X hlk hr d_L_command_23 hw
      · have hw := hw.2 h
        refine j_lconst X (v := (1 : Int64)) d_L_command_10 (by decide) ?_
        refine j_goto X d_L_command_11 (tgt := 15) (by decide) ?_
        refine sl_53 X (x := (1 : Int32)) (vin_lit (0 : Int32) 1 (by decide)) (by decide) d_L_command_15 ?_
        refine j_goto X d_L_command_16 (tgt := 22) (by decide) ?_
        refine j_iconst X (v := (0 : Int32)) d_L_command_22 (by decide) ?_
        exact j_iret X hlk hr d_L_command_23 hw
    · obtain ⟨rfl, hw⟩ := h
      refine x_h1 X htab (by decide) (by decide) (by decide) k_L_13 (fun s h => h.1 _ (by decide +kernel)) (fun q => ?_)
      refine j_astore_n X d_L_command_19 rfl (by decide) rfl ?_
      refine j_iconst X (v := (1 : Int32)) d_L_command_20 (by decide) ?_
      exact j_iret X hlk hr d_L_command_21 hw
  exact hX
def w_L_raise (a1 : Int32) (σ : Jst) (K : Int32 → Jst → Prop) : Prop := w_T_raise a1 σ (fun r2o u1 => r2o = none ∧ K (0 : Int32) u1) (fun E u1 => (E = "java/lang/IndexOutOfBoundsException" ∧ K (1 : Int32) u1))
abbrev rm_L_raise : Room := { frames := 7, cells := 1, slots := 6, locals := 111 }
set_option maxRecDepth 100000 in
set_option maxHeartbeats 4000000 in
theorem c_L_raise (l : Launch) (hlt : l.stackTraces = false) (D : va_G) (ca ad : Nat → Nat) (sz : Nat) (hD : Jd ca ad sz) {a1 : Int32} {σ : Jst} {K : Int32 → Jst → Prop} (hw : w_L_raise a1 σ K) : Met l y_L_raise (Cond.codeWith y_L_raise b_L_raise 3 (some .int) hh_L_raise :: Gw) rm_L_raise (va_Pc [.ref (ad 0), .int a1] (Jw D vwCl (tysT ca) (wlT ad ca) (NwT sz) σ)) (va_Qi K (Jq D vwCl (wlT ad ca)) (Aw sz)) 1 6 (Aw sz) := by
  refine x_metW (cc := b_L_raise) (own := R_L) (by decide +kernel) rfl (Nat.le_of_ble_eq_true rfl) rfl hD (nwT_k sz) ?_
  intro p e s m args below meth c X hlk hr htab
  have hX : J p l e rm_L_raise s m args below meth c D vwCl (wlT ad ca) (Aw sz) 3 0 0 (MQ below (va_Qi K (Jq D vwCl (wlT ad ca)) (Aw sz)) args s 1 6 (Aw sz)) 0 [(0, .ref (ad 0)), (1, .int a1)] [] σ := by
    unfold w_L_raise at hw
    refine j_aload_n X d_L_raise_0 rfl 0 rfl ?_
    refine j_iload_n X d_L_raise_1 rfl 1 rfl ?_
    refine x_callV (q0 := 0) (As := [.int a1]) (rest := []) X (c_T_raise l hlt D ca ad sz hD hw) (gcX (n := 1) X rfl rfl rfl gc_T_raise m_T_raise l_L_31 (by decide +kernel) ⟨by decide, by decide⟩) rfl rfl rfl rfl (Nat.le_of_ble_eq_true rfl) ⟨by decide, by decide⟩ d_L_raise_2 (fun r2o u1 h => ?_) (fun E u1 h => ?_)
    · obtain ⟨rfl, hw⟩ := h
      refine j_st (st2 := []) rfl ?_
      refine j_goto X d_L_raise_5 (tgt := 11) (by decide) ?_
      refine j_iconst X (v := (0 : Int32)) d_L_raise_11 (by decide) ?_
      exact j_iret X hlk hr d_L_raise_12 hw
    · obtain ⟨rfl, hw⟩ := h
      refine x_h1 X htab (by decide) (by decide) (by decide) k_L_34 (fun s h => h.1 _ (by decide +kernel)) (fun q => ?_)
      refine j_astore_n X d_L_raise_8 rfl (by decide) rfl ?_
      refine j_iconst X (v := (1 : Int32)) d_L_raise_9 (by decide) ?_
      exact j_iret X hlk hr d_L_raise_10 hw
  exact hX
def w_L_drop (a1 : Int32) (σ : Jst) (K : Int32 → Jst → Prop) : Prop := w_T_drop a1 σ (fun r2o u1 => r2o = none ∧ K (0 : Int32) u1) (fun E u1 => (E = "java/lang/IndexOutOfBoundsException" ∧ K (1 : Int32) u1))
abbrev rm_L_drop : Room := { frames := 7, cells := 1, slots := 6, locals := 111 }
set_option maxRecDepth 100000 in
set_option maxHeartbeats 4000000 in
theorem c_L_drop (l : Launch) (hlt : l.stackTraces = false) (D : va_G) (ca ad : Nat → Nat) (sz : Nat) (hD : Jd ca ad sz) {a1 : Int32} {σ : Jst} {K : Int32 → Jst → Prop} (hw : w_L_drop a1 σ K) : Met l y_L_drop (Cond.codeWith y_L_drop b_L_drop 3 (some .int) hh_L_drop :: Gw) rm_L_drop (va_Pc [.ref (ad 0), .int a1] (Jw D vwCl (tysT ca) (wlT ad ca) (NwT sz) σ)) (va_Qi K (Jq D vwCl (wlT ad ca)) (Aw sz)) 1 6 (Aw sz) := by
  refine x_metW (cc := b_L_drop) (own := R_L) (by decide +kernel) rfl (Nat.le_of_ble_eq_true rfl) rfl hD (nwT_k sz) ?_
  intro p e s m args below meth c X hlk hr htab
  have hX : J p l e rm_L_drop s m args below meth c D vwCl (wlT ad ca) (Aw sz) 3 0 0 (MQ below (va_Qi K (Jq D vwCl (wlT ad ca)) (Aw sz)) args s 1 6 (Aw sz)) 0 [(0, .ref (ad 0)), (1, .int a1)] [] σ := by
    unfold w_L_drop at hw
    refine j_aload_n X d_L_drop_0 rfl 0 rfl ?_
    refine j_iload_n X d_L_drop_1 rfl 1 rfl ?_
    refine x_callV (q0 := 0) (As := [.int a1]) (rest := []) X (c_T_drop l hlt D ca ad sz hD hw) (gcX (n := 1) X rfl rfl rfl gc_T_drop m_T_drop l_L_36 (by decide +kernel) ⟨by decide, by decide⟩) rfl rfl rfl rfl (Nat.le_of_ble_eq_true rfl) ⟨by decide, by decide⟩ d_L_drop_2 (fun r2o u1 h => ?_) (fun E u1 h => ?_)
    · obtain ⟨rfl, hw⟩ := h
      refine j_st (st2 := []) rfl ?_
      refine j_goto X d_L_drop_5 (tgt := 11) (by decide) ?_
      refine j_iconst X (v := (0 : Int32)) d_L_drop_11 (by decide) ?_
      exact j_iret X hlk hr d_L_drop_12 hw
    · obtain ⟨rfl, hw⟩ := h
      refine x_h1 X htab (by decide) (by decide) (by decide) k_L_34 (fun s h => h.1 _ (by decide +kernel)) (fun q => ?_)
      refine j_astore_n X d_L_drop_8 rfl (by decide) rfl ?_
      refine j_iconst X (v := (1 : Int32)) d_L_drop_9 (by decide) ?_
      exact j_iret X hlk hr d_L_drop_10 hw
  exact hX
def w_L_take (σ : Jst) (K : Int32 → Jst → Prop) : Prop := w_T_take σ (fun r2o u1 => ∃ r2 : Int32, r2o = some r2 ∧ K (0 : Int32) (jup u1 53 (Int32.toNatClampNeg (0 : Int32)) r2)) (fun E u1 => (E = "java/util/NoSuchElementException" ∧ K (1 : Int32) u1))
abbrev rm_L_take : Room := { frames := 7, cells := 1, slots := 6, locals := 110 }
set_option maxRecDepth 100000 in
set_option maxHeartbeats 4000000 in
theorem c_L_take (l : Launch) (hlt : l.stackTraces = false) (D : va_G) (ca ad : Nat → Nat) (sz : Nat) (hD : Jd ca ad sz) {σ : Jst} {K : Int32 → Jst → Prop} (hw : w_L_take σ K) : Met l y_L_take (Cond.codeWith y_L_take b_L_take 3 (some .int) hh_L_take :: Gw) rm_L_take (va_Pc [.ref (ad 0), .ref (ad 53)] (Jw D vwCl (tysT ca) (wlT ad ca) (NwT sz) σ)) (va_Qi K (Jq D vwCl (wlT ad ca)) (Aw sz)) 1 6 (Aw sz) := by
  refine x_metW (cc := b_L_take) (own := R_L) (by decide +kernel) rfl (Nat.le_of_ble_eq_true rfl) rfl hD (nwT_k sz) ?_
  intro p e s m args below meth c X hlk hr htab
  have hX : J p l e rm_L_take s m args below meth c D vwCl (wlT ad ca) (Aw sz) 3 0 0 (MQ below (va_Qi K (Jq D vwCl (wlT ad ca)) (Aw sz)) args s 1 6 (Aw sz)) 0 [(0, .ref (ad 0)), (1, .ref (ad 53))] [] σ := by
    unfold w_L_take at hw
    refine j_aload_n X d_L_take_0 rfl 1 rfl ?_
    refine j_iconst X (v := (0 : Int32)) d_L_take_1 (by decide) ?_
    refine j_aload_n X d_L_take_2 rfl 0 rfl ?_
    refine x_callV (q0 := 0) (As := []) (rest := [.int (0 : Int32), .ref (ad 53)]) X (c_T_take l hlt D ca ad sz hD hw) (gcX (n := 0) X rfl rfl rfl gc_T_take m_T_take l_L_39 (by decide +kernel) ⟨by decide, by decide⟩) rfl rfl rfl rfl (Nat.le_of_ble_eq_true rfl) ⟨by decide, by decide⟩ d_L_take_3 (fun r2o u1 h => ?_) (fun E u1 h => ?_)
    · obtain ⟨r2, rfl, hw⟩ := h
      refine j_st (st2 := [.int r2, .int (0 : Int32), .ref (ad 53)]) rfl ?_
      refine j_i2l X d_L_take_6 ?_
      refine sl_53 X (x := r2) (vin_lit (0 : Int32) 1 (by decide)) rfl d_L_take_7 ?_
      refine j_goto X d_L_take_8 (tgt := 14) (by decide) ?_
      refine j_iconst X (v := (0 : Int32)) d_L_take_14 (by decide) ?_
      exact j_iret X hlk hr d_L_take_15 hw
    · obtain ⟨rfl, hw⟩ := h
      refine x_h1 X htab (by decide) (by decide) (by decide) k_L_43 (fun s h => h.1 _ (by decide +kernel)) (fun q => ?_)
      refine j_astore_n X d_L_take_11 rfl (by decide) rfl ?_
      refine j_iconst X (v := (1 : Int32)) d_L_take_12 (by decide) ?_
      exact j_iret X hlk hr d_L_take_13 hw
  exact hX
def w_L_answer (a1 : Int32) (a2 : Int32) (σ : Jst) (K : Int32 → Jst → Prop) : Prop := w_T_answer a1 a2 σ (fun r2o u1 => r2o = none ∧ K (0 : Int32) u1) (fun E u1 => (E = "java/lang/IndexOutOfBoundsException" ∧ K (1 : Int32) u1))
abbrev rm_L_answer : Room := { frames := 7, cells := 1, slots := 6, locals := 150 }
set_option maxRecDepth 100000 in
set_option maxHeartbeats 4000000 in
theorem c_L_answer (l : Launch) (hlt : l.stackTraces = false) (D : va_G) (ca ad : Nat → Nat) (sz : Nat) (hD : Jd ca ad sz) {a1 a2 : Int32} {σ : Jst} {K : Int32 → Jst → Prop} (hw : w_L_answer a1 a2 σ K) : Met l y_L_answer (Cond.codeWith y_L_answer b_L_answer 4 (some .int) hh_L_answer :: Gw) rm_L_answer (va_Pc [.ref (ad 0), .int a1, .int a2] (Jw D vwCl (tysT ca) (wlT ad ca) (NwT sz) σ)) (va_Qi K (Jq D vwCl (wlT ad ca)) (Aw sz)) 1 6 (Aw sz) := by
  refine x_metW (cc := b_L_answer) (own := R_L) (by decide +kernel) rfl (Nat.le_of_ble_eq_true rfl) rfl hD (nwT_k sz) ?_
  intro p e s m args below meth c X hlk hr htab
  have hX : J p l e rm_L_answer s m args below meth c D vwCl (wlT ad ca) (Aw sz) 4 0 0 (MQ below (va_Qi K (Jq D vwCl (wlT ad ca)) (Aw sz)) args s 1 6 (Aw sz)) 0 [(0, .ref (ad 0)), (1, .int a1), (2, .int a2)] [] σ := by
    unfold w_L_answer at hw
    refine j_aload_n X d_L_answer_0 rfl 0 rfl ?_
    refine j_iload_n X d_L_answer_1 rfl 1 rfl ?_
    refine j_iload_n X d_L_answer_2 rfl 2 rfl ?_
    refine x_callV (q0 := 0) (As := [.int a1, .int a2]) (rest := []) X (c_T_answer l hlt D ca ad sz hD hw) (gcX (n := 2) X rfl rfl rfl gc_T_answer m_T_answer l_L_45 (by decide +kernel) ⟨by decide, by decide⟩) rfl rfl rfl rfl (Nat.le_of_ble_eq_true rfl) ⟨by decide, by decide⟩ d_L_answer_3 (fun r2o u1 h => ?_) (fun E u1 h => ?_)
    · obtain ⟨rfl, hw⟩ := h
      refine j_st (st2 := []) rfl ?_
      refine j_goto X d_L_answer_6 (tgt := 12) (by decide) ?_
      refine j_iconst X (v := (0 : Int32)) d_L_answer_12 (by decide) ?_
      exact j_iret X hlk hr d_L_answer_13 hw
    · obtain ⟨rfl, hw⟩ := h
      refine x_h1 X htab (by decide) (by decide) (by decide) k_L_34 (fun s h => h.1 _ (by decide +kernel)) (fun q => ?_)
      refine j_astore_n X d_L_answer_9 rfl (by decide) rfl ?_
      refine j_iconst X (v := (1 : Int32)) d_L_answer_10 (by decide) ?_
      exact j_iret X hlk hr d_L_answer_11 hw
  exact hX
def w_L_packet (a1 : Int32) (a2 : Int32) (a3 : Int32) (σ : Jst) (K : Int32 → Jst → Prop) : Prop := w_T_packet a1 a2 a3 σ (fun r2o u1 => ∃ r2 : Int32, r2o = some r2 ∧ ((r2 = (0 : Int32) → K (0 : Int32) (jup u1 53 (Int32.toNatClampNeg (0 : Int32)) (0 : Int32))) ∧ (¬ r2 = (0 : Int32) → K (0 : Int32) (jup u1 53 (Int32.toNatClampNeg (0 : Int32)) (1 : Int32))))) (fun E u1 => (E = "java/lang/IllegalArgumentException" ∧ K (1 : Int32) u1))
abbrev rm_L_packet : Room := { frames := 7, cells := 1, slots := 6, locals := 113 }
set_option maxRecDepth 100000 in
set_option maxHeartbeats 4000000 in
theorem c_L_packet (l : Launch) (hlt : l.stackTraces = false) (D : va_G) (ca ad : Nat → Nat) (sz : Nat) (hD : Jd ca ad sz) {a1 a2 a3 : Int32} {σ : Jst} {K : Int32 → Jst → Prop} (hw : w_L_packet a1 a2 a3 σ K) : Met l y_L_packet (Cond.codeWith y_L_packet b_L_packet 6 (some .int) hh_L_packet :: Gw) rm_L_packet (va_Pc [.ref (ad 0), .int a1, .int a2, .int a3, .ref (ad 53)] (Jw D vwCl (tysT ca) (wlT ad ca) (NwT sz) σ)) (va_Qi K (Jq D vwCl (wlT ad ca)) (Aw sz)) 1 6 (Aw sz) := by
  refine x_metW (cc := b_L_packet) (own := R_L) (by decide +kernel) rfl (Nat.le_of_ble_eq_true rfl) rfl hD (nwT_k sz) ?_
  intro p e s m args below meth c X hlk hr htab
  have hX : J p l e rm_L_packet s m args below meth c D vwCl (wlT ad ca) (Aw sz) 6 0 0 (MQ below (va_Qi K (Jq D vwCl (wlT ad ca)) (Aw sz)) args s 1 6 (Aw sz)) 0 [(0, .ref (ad 0)), (1, .int a1), (2, .int a2), (3, .int a3), (4, .ref (ad 53))] [] σ := by
    unfold w_L_packet at hw
    refine j_aload X d_L_packet_0 4 rfl ?_
    refine j_iconst X (v := (0 : Int32)) d_L_packet_2 (by decide) ?_
    refine j_aload_n X d_L_packet_3 rfl 0 rfl ?_
    refine j_iload_n X d_L_packet_4 rfl 1 rfl ?_
    refine j_iload_n X d_L_packet_5 rfl 2 rfl ?_
    refine j_iload_n X d_L_packet_6 rfl 3 rfl ?_
    refine x_callV (q0 := 0) (As := [.int a1, .int a2, .int a3]) (rest := [.int (0 : Int32), .ref (ad 53)]) X (c_T_packet l hlt D ca ad sz hD hw) (gcX (n := 3) X rfl rfl rfl gc_T_packet m_T_packet l_L_49 (by decide +kernel) ⟨by decide, by decide⟩) rfl rfl rfl rfl (Nat.le_of_ble_eq_true rfl) ⟨by decide, by decide⟩ d_L_packet_7 (fun r2o u1 h => ?_) (fun E u1 h => ?_)
    · obtain ⟨r2, rfl, hw⟩ := h
      refine j_st (st2 := [.int r2, .int (0 : Int32), .ref (ad 53)]) rfl ?_
      refine j_if_eq X d_L_packet_10 (tgt := 17) (by decide) (fun h => ?_) (fun h => ?_)
      · have hw := hw.1 h
        refine j_lconst X (v := (0 : Int64)) d_L_packet_17 (by decide) ?_
        refine sl_53 X (x := (0 : Int32)) (vin_lit (0 : Int32) 1 (by decide)) (by decide) d_L_packet_18 ?_
        refine j_goto X d_L_packet_19 (tgt := 26) (by decide) ?_
        refine j_iconst X (v := (0 : Int32)) d_L_packet_26 (by decide) ?_
        exact j_iret X hlk hr d_L_packet_27 hw
      · have hw := hw.2 h
        refine j_lconst X (v := (1 : Int64)) d_L_packet_13 (by decide) ?_
        refine j_goto X d_L_packet_14 (tgt := 18) (by decide) ?_
        refine sl_53 X (x := (1 : Int32)) (vin_lit (0 : Int32) 1 (by decide)) (by decide) d_L_packet_18 ?_
        refine j_goto X d_L_packet_19 (tgt := 26) (by decide) ?_
        refine j_iconst X (v := (0 : Int32)) d_L_packet_26 (by decide) ?_
        exact j_iret X hlk hr d_L_packet_27 hw
    · obtain ⟨rfl, hw⟩ := h
      refine x_h1 X htab (by decide) (by decide) (by decide) k_L_15 (fun s h => h.1 _ (by decide +kernel)) (fun q => ?_)
      refine j_astore X d_L_packet_22 (by decide) rfl ?_
      refine j_iconst X (v := (1 : Int32)) d_L_packet_24 (by decide) ?_
      exact j_iret X hlk hr d_L_packet_25 hw
  exact hX
def w_L_frame (a1 : Int32) (a2 : Int32) (σ : Jst) (K : Int32 → Jst → Prop) : Prop := w_T_frame a1 a2 σ (fun r2o u1 => ∃ r2 : Int32, r2o = some r2 ∧ K (0 : Int32) (jup u1 53 (Int32.toNatClampNeg (0 : Int32)) r2)) (fun E u1 => (E = "java/lang/IllegalArgumentException" ∧ K (1 : Int32) u1))
abbrev rm_L_frame : Room := { frames := 7, cells := 1, slots := 6, locals := 112 }
set_option maxRecDepth 100000 in
set_option maxHeartbeats 4000000 in
theorem c_L_frame (l : Launch) (hlt : l.stackTraces = false) (D : va_G) (ca ad : Nat → Nat) (sz : Nat) (hD : Jd ca ad sz) {a1 a2 : Int32} {σ : Jst} {K : Int32 → Jst → Prop} (hw : w_L_frame a1 a2 σ K) : Met l y_L_frame (Cond.codeWith y_L_frame b_L_frame 5 (some .int) hh_L_frame :: Gw) rm_L_frame (va_Pc [.ref (ad 0), .int a1, .int a2, .ref (ad 53)] (Jw D vwCl (tysT ca) (wlT ad ca) (NwT sz) σ)) (va_Qi K (Jq D vwCl (wlT ad ca)) (Aw sz)) 1 6 (Aw sz) := by
  refine x_metW (cc := b_L_frame) (own := R_L) (by decide +kernel) rfl (Nat.le_of_ble_eq_true rfl) rfl hD (nwT_k sz) ?_
  intro p e s m args below meth c X hlk hr htab
  have hX : J p l e rm_L_frame s m args below meth c D vwCl (wlT ad ca) (Aw sz) 5 0 0 (MQ below (va_Qi K (Jq D vwCl (wlT ad ca)) (Aw sz)) args s 1 6 (Aw sz)) 0 [(0, .ref (ad 0)), (1, .int a1), (2, .int a2), (3, .ref (ad 53))] [] σ := by
    unfold w_L_frame at hw
    refine j_aload_n X d_L_frame_0 rfl 3 rfl ?_
    refine j_iconst X (v := (0 : Int32)) d_L_frame_1 (by decide) ?_
    refine j_aload_n X d_L_frame_2 rfl 0 rfl ?_
    refine j_iload_n X d_L_frame_3 rfl 1 rfl ?_
    refine j_iload_n X d_L_frame_4 rfl 2 rfl ?_
    refine x_callV (q0 := 0) (As := [.int a1, .int a2]) (rest := [.int (0 : Int32), .ref (ad 53)]) X (c_T_frame l hlt D ca ad sz hD hw) (gcX (n := 2) X rfl rfl rfl gc_T_frame m_T_frame l_L_53 (by decide +kernel) ⟨by decide, by decide⟩) rfl rfl rfl rfl (Nat.le_of_ble_eq_true rfl) ⟨by decide, by decide⟩ d_L_frame_5 (fun r2o u1 h => ?_) (fun E u1 h => ?_)
    · obtain ⟨r2, rfl, hw⟩ := h
      refine j_st (st2 := [.int r2, .int (0 : Int32), .ref (ad 53)]) rfl ?_
      refine j_i2l X d_L_frame_8 ?_
      refine sl_53 X (x := r2) (vin_lit (0 : Int32) 1 (by decide)) rfl d_L_frame_9 ?_
      refine j_goto X d_L_frame_10 (tgt := 17) (by decide) ?_
      refine j_iconst X (v := (0 : Int32)) d_L_frame_17 (by decide) ?_
      exact j_iret X hlk hr d_L_frame_18 hw
    · obtain ⟨rfl, hw⟩ := h
      refine x_h1 X htab (by decide) (by decide) (by decide) k_L_15 (fun s h => h.1 _ (by decide +kernel)) (fun q => ?_)
      refine j_astore X d_L_frame_13 (by decide) rfl ?_
      refine j_iconst X (v := (1 : Int32)) d_L_frame_15 (by decide) ?_
      exact j_iret X hlk hr d_L_frame_16 hw
  exact hX
def w_L_ground (a1 : Int32) (σ : Jst) (K : Int32 → Jst → Prop) : Prop := w_T_ground a1 σ (fun r2o u1 => ∃ r2 : Int32, r2o = some r2 ∧ K (0 : Int32) (jup u1 53 (Int32.toNatClampNeg (0 : Int32)) r2)) (fun E u1 => (E = "java/lang/IndexOutOfBoundsException" ∧ K (1 : Int32) u1))
abbrev rm_L_ground : Room := { frames := 7, cells := 1, slots := 6, locals := 111 }
set_option maxRecDepth 100000 in
set_option maxHeartbeats 4000000 in
theorem c_L_ground (l : Launch) (hlt : l.stackTraces = false) (D : va_G) (ca ad : Nat → Nat) (sz : Nat) (hD : Jd ca ad sz) {a1 : Int32} {σ : Jst} {K : Int32 → Jst → Prop} (hw : w_L_ground a1 σ K) : Met l y_L_ground (Cond.codeWith y_L_ground b_L_ground 4 (some .int) hh_L_ground :: Gw) rm_L_ground (va_Pc [.ref (ad 0), .int a1, .ref (ad 53)] (Jw D vwCl (tysT ca) (wlT ad ca) (NwT sz) σ)) (va_Qi K (Jq D vwCl (wlT ad ca)) (Aw sz)) 1 6 (Aw sz) := by
  refine x_metW (cc := b_L_ground) (own := R_L) (by decide +kernel) rfl (Nat.le_of_ble_eq_true rfl) rfl hD (nwT_k sz) ?_
  intro p e s m args below meth c X hlk hr htab
  have hX : J p l e rm_L_ground s m args below meth c D vwCl (wlT ad ca) (Aw sz) 4 0 0 (MQ below (va_Qi K (Jq D vwCl (wlT ad ca)) (Aw sz)) args s 1 6 (Aw sz)) 0 [(0, .ref (ad 0)), (1, .int a1), (2, .ref (ad 53))] [] σ := by
    unfold w_L_ground at hw
    refine j_aload_n X d_L_ground_0 rfl 2 rfl ?_
    refine j_iconst X (v := (0 : Int32)) d_L_ground_1 (by decide) ?_
    refine j_aload_n X d_L_ground_2 rfl 0 rfl ?_
    refine j_iload_n X d_L_ground_3 rfl 1 rfl ?_
    refine x_callV (q0 := 0) (As := [.int a1]) (rest := [.int (0 : Int32), .ref (ad 53)]) X (c_T_ground l hlt D ca ad sz hD hw) (gcX (n := 1) X rfl rfl rfl gc_T_ground m_T_ground l_L_57 (by decide +kernel) ⟨by decide, by decide⟩) rfl rfl rfl rfl (Nat.le_of_ble_eq_true rfl) ⟨by decide, by decide⟩ d_L_ground_4 (fun r2o u1 h => ?_) (fun E u1 h => ?_)
    · obtain ⟨r2, rfl, hw⟩ := h
      refine j_st (st2 := [.int r2, .int (0 : Int32), .ref (ad 53)]) rfl ?_
      refine j_i2l X d_L_ground_7 ?_
      refine sl_53 X (x := r2) (vin_lit (0 : Int32) 1 (by decide)) rfl d_L_ground_8 ?_
      refine j_goto X d_L_ground_9 (tgt := 15) (by decide) ?_
      refine j_iconst X (v := (0 : Int32)) d_L_ground_15 (by decide) ?_
      exact j_iret X hlk hr d_L_ground_16 hw
    · obtain ⟨rfl, hw⟩ := h
      refine x_h1 X htab (by decide) (by decide) (by decide) k_L_34 (fun s h => h.1 _ (by decide +kernel)) (fun q => ?_)
      refine j_astore_n X d_L_ground_12 rfl (by decide) rfl ?_
      refine j_iconst X (v := (1 : Int32)) d_L_ground_13 (by decide) ?_
      exact j_iret X hlk hr d_L_ground_14 hw
  exact hX
def w_L_craft (a1 : Int32) (σ : Jst) (K : Int32 → Jst → Prop) : Prop := w_T_craft a1 σ (fun r2o u1 => ∃ r2 : Int32, r2o = some r2 ∧ K (0 : Int32) (jup u1 53 (Int32.toNatClampNeg (0 : Int32)) r2)) (fun E u1 => (E = "java/lang/IndexOutOfBoundsException" ∧ K (1 : Int32) u1))
abbrev rm_L_craft : Room := { frames := 7, cells := 1, slots := 6, locals := 111 }
set_option maxRecDepth 100000 in
set_option maxHeartbeats 4000000 in
theorem c_L_craft (l : Launch) (hlt : l.stackTraces = false) (D : va_G) (ca ad : Nat → Nat) (sz : Nat) (hD : Jd ca ad sz) {a1 : Int32} {σ : Jst} {K : Int32 → Jst → Prop} (hw : w_L_craft a1 σ K) : Met l y_L_craft (Cond.codeWith y_L_craft b_L_craft 4 (some .int) hh_L_craft :: Gw) rm_L_craft (va_Pc [.ref (ad 0), .int a1, .ref (ad 53)] (Jw D vwCl (tysT ca) (wlT ad ca) (NwT sz) σ)) (va_Qi K (Jq D vwCl (wlT ad ca)) (Aw sz)) 1 6 (Aw sz) := by
  refine x_metW (cc := b_L_craft) (own := R_L) (by decide +kernel) rfl (Nat.le_of_ble_eq_true rfl) rfl hD (nwT_k sz) ?_
  intro p e s m args below meth c X hlk hr htab
  have hX : J p l e rm_L_craft s m args below meth c D vwCl (wlT ad ca) (Aw sz) 4 0 0 (MQ below (va_Qi K (Jq D vwCl (wlT ad ca)) (Aw sz)) args s 1 6 (Aw sz)) 0 [(0, .ref (ad 0)), (1, .int a1), (2, .ref (ad 53))] [] σ := by
    unfold w_L_craft at hw
    refine j_aload_n X d_L_craft_0 rfl 2 rfl ?_
    refine j_iconst X (v := (0 : Int32)) d_L_craft_1 (by decide) ?_
    refine j_aload_n X d_L_craft_2 rfl 0 rfl ?_
    refine j_iload_n X d_L_craft_3 rfl 1 rfl ?_
    refine x_callV (q0 := 0) (As := [.int a1]) (rest := [.int (0 : Int32), .ref (ad 53)]) X (c_T_craft l hlt D ca ad sz hD hw) (gcX (n := 1) X rfl rfl rfl gc_T_craft m_T_craft l_L_61 (by decide +kernel) ⟨by decide, by decide⟩) rfl rfl rfl rfl (Nat.le_of_ble_eq_true rfl) ⟨by decide, by decide⟩ d_L_craft_4 (fun r2o u1 h => ?_) (fun E u1 h => ?_)
    · obtain ⟨r2, rfl, hw⟩ := h
      refine j_st (st2 := [.int r2, .int (0 : Int32), .ref (ad 53)]) rfl ?_
      refine j_i2l X d_L_craft_7 ?_
      refine sl_53 X (x := r2) (vin_lit (0 : Int32) 1 (by decide)) rfl d_L_craft_8 ?_
      refine j_goto X d_L_craft_9 (tgt := 15) (by decide) ?_
      refine j_iconst X (v := (0 : Int32)) d_L_craft_15 (by decide) ?_
      exact j_iret X hlk hr d_L_craft_16 hw
    · obtain ⟨rfl, hw⟩ := h
      refine x_h1 X htab (by decide) (by decide) (by decide) k_L_34 (fun s h => h.1 _ (by decide +kernel)) (fun q => ?_)
      refine j_astore_n X d_L_craft_12 rfl (by decide) rfl ?_
      refine j_iconst X (v := (1 : Int32)) d_L_craft_13 (by decide) ?_
      exact j_iret X hlk hr d_L_craft_14 hw
  exact hX
def w_L_flight (a1 : Int32) (a2 : Int32) (σ : Jst) (K : Int32 → Jst → Prop) : Prop := w_T_flight a1 a2 σ (fun r2o u1 => ∃ r2 : Int32, r2o = some r2 ∧ K (0 : Int32) (jup u1 53 (Int32.toNatClampNeg (0 : Int32)) r2)) (fun E u1 => (E = "java/lang/IndexOutOfBoundsException" ∧ K (1 : Int32) u1))
abbrev rm_L_flight : Room := { frames := 7, cells := 1, slots := 6, locals := 112 }
set_option maxRecDepth 100000 in
set_option maxHeartbeats 4000000 in
theorem c_L_flight (l : Launch) (hlt : l.stackTraces = false) (D : va_G) (ca ad : Nat → Nat) (sz : Nat) (hD : Jd ca ad sz) {a1 a2 : Int32} {σ : Jst} {K : Int32 → Jst → Prop} (hw : w_L_flight a1 a2 σ K) : Met l y_L_flight (Cond.codeWith y_L_flight b_L_flight 5 (some .int) hh_L_flight :: Gw) rm_L_flight (va_Pc [.ref (ad 0), .int a1, .int a2, .ref (ad 53)] (Jw D vwCl (tysT ca) (wlT ad ca) (NwT sz) σ)) (va_Qi K (Jq D vwCl (wlT ad ca)) (Aw sz)) 1 6 (Aw sz) := by
  refine x_metW (cc := b_L_flight) (own := R_L) (by decide +kernel) rfl (Nat.le_of_ble_eq_true rfl) rfl hD (nwT_k sz) ?_
  intro p e s m args below meth c X hlk hr htab
  have hX : J p l e rm_L_flight s m args below meth c D vwCl (wlT ad ca) (Aw sz) 5 0 0 (MQ below (va_Qi K (Jq D vwCl (wlT ad ca)) (Aw sz)) args s 1 6 (Aw sz)) 0 [(0, .ref (ad 0)), (1, .int a1), (2, .int a2), (3, .ref (ad 53))] [] σ := by
    unfold w_L_flight at hw
    refine j_aload_n X d_L_flight_0 rfl 3 rfl ?_
    refine j_iconst X (v := (0 : Int32)) d_L_flight_1 (by decide) ?_
    refine j_aload_n X d_L_flight_2 rfl 0 rfl ?_
    refine j_iload_n X d_L_flight_3 rfl 1 rfl ?_
    refine j_iload_n X d_L_flight_4 rfl 2 rfl ?_
    refine x_callV (q0 := 0) (As := [.int a1, .int a2]) (rest := [.int (0 : Int32), .ref (ad 53)]) X (c_T_flight l hlt D ca ad sz hD hw) (gcX (n := 2) X rfl rfl rfl gc_T_flight m_T_flight l_L_64 (by decide +kernel) ⟨by decide, by decide⟩) rfl rfl rfl rfl (Nat.le_of_ble_eq_true rfl) ⟨by decide, by decide⟩ d_L_flight_5 (fun r2o u1 h => ?_) (fun E u1 h => ?_)
    · obtain ⟨r2, rfl, hw⟩ := h
      refine j_st (st2 := [.int r2, .int (0 : Int32), .ref (ad 53)]) rfl ?_
      refine j_i2l X d_L_flight_8 ?_
      refine sl_53 X (x := r2) (vin_lit (0 : Int32) 1 (by decide)) rfl d_L_flight_9 ?_
      refine j_goto X d_L_flight_10 (tgt := 17) (by decide) ?_
      refine j_iconst X (v := (0 : Int32)) d_L_flight_17 (by decide) ?_
      exact j_iret X hlk hr d_L_flight_18 hw
    · obtain ⟨rfl, hw⟩ := h
      refine x_h1 X htab (by decide) (by decide) (by decide) k_L_34 (fun s h => h.1 _ (by decide +kernel)) (fun q => ?_)
      refine j_astore X d_L_flight_13 (by decide) rfl ?_
      refine j_iconst X (v := (1 : Int32)) d_L_flight_15 (by decide) ?_
      exact j_iret X hlk hr d_L_flight_16 hw
  exact hX
def w_L_got (a1 : Int32) (a2 : Int32) (σ : Jst) (K : Int32 → Jst → Prop) : Prop := w_T_got a1 a2 σ (fun r2o u1 => ∃ r2 : Int32, r2o = some r2 ∧ K (0 : Int32) (jup u1 53 (Int32.toNatClampNeg (0 : Int32)) r2)) (fun E u1 => (E = "java/util/NoSuchElementException" ∧ K (1 : Int32) u1))
abbrev rm_L_got : Room := { frames := 7, cells := 1, slots := 6, locals := 112 }
set_option maxRecDepth 100000 in
set_option maxHeartbeats 4000000 in
theorem c_L_got (l : Launch) (hlt : l.stackTraces = false) (D : va_G) (ca ad : Nat → Nat) (sz : Nat) (hD : Jd ca ad sz) {a1 a2 : Int32} {σ : Jst} {K : Int32 → Jst → Prop} (hw : w_L_got a1 a2 σ K) : Met l y_L_got (Cond.codeWith y_L_got b_L_got 5 (some .int) hh_L_got :: Gw) rm_L_got (va_Pc [.ref (ad 0), .int a1, .int a2, .ref (ad 53)] (Jw D vwCl (tysT ca) (wlT ad ca) (NwT sz) σ)) (va_Qi K (Jq D vwCl (wlT ad ca)) (Aw sz)) 1 6 (Aw sz) := by
  refine x_metW (cc := b_L_got) (own := R_L) (by decide +kernel) rfl (Nat.le_of_ble_eq_true rfl) rfl hD (nwT_k sz) ?_
  intro p e s m args below meth c X hlk hr htab
  have hX : J p l e rm_L_got s m args below meth c D vwCl (wlT ad ca) (Aw sz) 5 0 0 (MQ below (va_Qi K (Jq D vwCl (wlT ad ca)) (Aw sz)) args s 1 6 (Aw sz)) 0 [(0, .ref (ad 0)), (1, .int a1), (2, .int a2), (3, .ref (ad 53))] [] σ := by
    unfold w_L_got at hw
    refine j_aload_n X d_L_got_0 rfl 3 rfl ?_
    refine j_iconst X (v := (0 : Int32)) d_L_got_1 (by decide) ?_
    refine j_aload_n X d_L_got_2 rfl 0 rfl ?_
    refine j_iload_n X d_L_got_3 rfl 1 rfl ?_
    refine j_iload_n X d_L_got_4 rfl 2 rfl ?_
    refine x_callV (q0 := 0) (As := [.int a1, .int a2]) (rest := [.int (0 : Int32), .ref (ad 53)]) X (c_T_got l hlt D ca ad sz hD hw) (gcX (n := 2) X rfl rfl rfl gc_T_got m_T_got l_L_68 (by decide +kernel) ⟨by decide, by decide⟩) rfl rfl rfl rfl (Nat.le_of_ble_eq_true rfl) ⟨by decide, by decide⟩ d_L_got_5 (fun r2o u1 h => ?_) (fun E u1 h => ?_)
    · obtain ⟨r2, rfl, hw⟩ := h
      refine j_st (st2 := [.int r2, .int (0 : Int32), .ref (ad 53)]) rfl ?_
      refine j_i2l X d_L_got_8 ?_
      refine sl_53 X (x := r2) (vin_lit (0 : Int32) 1 (by decide)) rfl d_L_got_9 ?_
      refine j_goto X d_L_got_10 (tgt := 17) (by decide) ?_
      refine j_iconst X (v := (0 : Int32)) d_L_got_17 (by decide) ?_
      exact j_iret X hlk hr d_L_got_18 hw
    · obtain ⟨rfl, hw⟩ := h
      refine x_h1 X htab (by decide) (by decide) (by decide) k_L_43 (fun s h => h.1 _ (by decide +kernel)) (fun q => ?_)
      refine j_astore X d_L_got_13 (by decide) rfl ?_
      refine j_iconst X (v := (1 : Int32)) d_L_got_15 (by decide) ?_
      exact j_iret X hlk hr d_L_got_16 hw
  exact hX
