def w_Gr_isIdle (σ : Jst) (K : Int32 → Jst → Prop) : Prop := ((¬ (σ 9 1) = (0 : Int32) → K (0 : Int32) σ) ∧ ((σ 9 1) = (0 : Int32) → K (1 : Int32) σ))
abbrev rm_Gr_isIdle : Room := { frames := 0, cells := 0, slots := 0, locals := 0 }
set_option maxRecDepth 100000 in
set_option maxHeartbeats 4000000 in
theorem c_Gr_isIdle (l : Launch) (D : va_G) (ca ad : Nat → Nat) (sz : Nat) (hD : Jd ca ad sz) {σ : Jst} {K : Int32 → Jst → Prop} (hw : w_Gr_isIdle σ K) : Met l y_Gr_isIdle (wG y_Gr_isIdle b_Gr_isIdle 1 (some .boolean)) rm_Gr_isIdle (va_Pc [.ref (ad 9)] (Jw D vwCl (tysT ca) (wlT ad ca) (NwT sz) σ)) (va_Qi K (Jq D vwCl (wlT ad ca)) (Aw sz)) 0 0 (Aw sz) := by
  refine j_met (cc := b_Gr_isIdle) (own := R_Gr) (by decide +kernel) rfl (Nat.le_of_ble_eq_true rfl) rfl hD (nwT_k sz) ?_
  intro p e s m args below meth c X hlk hr
  have hX : J p l e rm_Gr_isIdle s m args below meth c D vwCl (wlT ad ca) (Aw sz) 1 0 0 (MQ below (va_Qi K (Jq D vwCl (wlT ad ca)) (Aw sz)) args s 0 0 (Aw sz)) 0 [(0, .ref (ad 9))] [] σ := by
    unfold w_Gr_isIdle at hw
    refine j_aload_n X d_Gr_isIdle_0 rfl 0 rfl ?_
    refine g_9_1 X f_Gr_18 (v := (σ 9 1)) rfl d_Gr_isIdle_1 ?_
    refine j_if_ne X d_Gr_isIdle_4 (tgt := 11) (by decide) (fun h => ?_) (fun h => ?_)
    · have hw := hw.1 h
      refine j_iconst X (v := (0 : Int32)) d_Gr_isIdle_11 (by decide) ?_
      exact j_zret X hlk hr rfl d_Gr_isIdle_12 hw
    · have hw := hw.2 h
      refine j_iconst X (v := (1 : Int32)) d_Gr_isIdle_7 (by decide) ?_
      refine j_goto X d_Gr_isIdle_8 (tgt := 12) (by decide) ?_
      exact j_zret X hlk hr rfl d_Gr_isIdle_12 hw
  exact hX
def w_Gr_isSending (σ : Jst) (K : Int32 → Jst → Prop) : Prop := (((σ 9 1) = (1 : Int32) → K (1 : Int32) σ) ∧ (¬ (σ 9 1) = (1 : Int32) → ((¬ (σ 9 1) = (2 : Int32) → K (0 : Int32) σ) ∧ ((σ 9 1) = (2 : Int32) → K (1 : Int32) σ))))
abbrev rm_Gr_isSending : Room := { frames := 0, cells := 0, slots := 0, locals := 0 }
set_option maxRecDepth 100000 in
set_option maxHeartbeats 4000000 in
theorem c_Gr_isSending (l : Launch) (D : va_G) (ca ad : Nat → Nat) (sz : Nat) (hD : Jd ca ad sz) {σ : Jst} {K : Int32 → Jst → Prop} (hw : w_Gr_isSending σ K) : Met l y_Gr_isSending (wG y_Gr_isSending b_Gr_isSending 1 (some .boolean)) rm_Gr_isSending (va_Pc [.ref (ad 9)] (Jw D vwCl (tysT ca) (wlT ad ca) (NwT sz) σ)) (va_Qi K (Jq D vwCl (wlT ad ca)) (Aw sz)) 0 0 (Aw sz) := by
  refine j_met (cc := b_Gr_isSending) (own := R_Gr) (by decide +kernel) rfl (Nat.le_of_ble_eq_true rfl) rfl hD (nwT_k sz) ?_
  intro p e s m args below meth c X hlk hr
  have hX : J p l e rm_Gr_isSending s m args below meth c D vwCl (wlT ad ca) (Aw sz) 1 0 0 (MQ below (va_Qi K (Jq D vwCl (wlT ad ca)) (Aw sz)) args s 0 0 (Aw sz)) 0 [(0, .ref (ad 9))] [] σ := by
    unfold w_Gr_isSending at hw
    refine j_aload_n X d_Gr_isSending_0 rfl 0 rfl ?_
    refine g_9_1 X f_Gr_18 (v := (σ 9 1)) rfl d_Gr_isSending_1 ?_
    refine j_iconst X (v := (1 : Int32)) d_Gr_isSending_4 (by decide) ?_
    refine j_icmp_eq X d_Gr_isSending_5 (tgt := 16) (by decide) (fun h => ?_) (fun h => ?_)
    · have hw := hw.1 h
      refine j_iconst X (v := (1 : Int32)) d_Gr_isSending_16 (by decide) ?_
      refine j_goto X d_Gr_isSending_17 (tgt := 21) (by decide) ?_
      exact j_zret X hlk hr rfl d_Gr_isSending_21 hw
    · have hw := hw.2 h
      refine j_aload_n X d_Gr_isSending_8 rfl 0 rfl ?_
      refine g_9_1 X f_Gr_18 (v := (σ 9 1)) rfl d_Gr_isSending_9 ?_
      refine j_iconst X (v := (2 : Int32)) d_Gr_isSending_12 (by decide) ?_
      refine j_icmp_ne X d_Gr_isSending_13 (tgt := 20) (by decide) (fun h => ?_) (fun h => ?_)
      · have hw := hw.1 h
        refine j_iconst X (v := (0 : Int32)) d_Gr_isSending_20 (by decide) ?_
        exact j_zret X hlk hr rfl d_Gr_isSending_21 hw
      · have hw := hw.2 h
        refine j_iconst X (v := (1 : Int32)) d_Gr_isSending_16 (by decide) ?_
        refine j_goto X d_Gr_isSending_17 (tgt := 21) (by decide) ?_
        exact j_zret X hlk hr rfl d_Gr_isSending_21 hw
  exact hX
def w_Gr_takesCommands (σ : Jst) (K : Int32 → Jst → Prop) : Prop := w_Gr_isSending σ (fun r2 u1 => ((¬ r2 = (0 : Int32) → K (1 : Int32) u1) ∧ (r2 = (0 : Int32) → ((¬ (u1 9 1) = (3 : Int32) → K (0 : Int32) u1) ∧ ((u1 9 1) = (3 : Int32) → K (1 : Int32) u1)))))
abbrev rm_Gr_takesCommands : Room := { frames := 1, cells := 0, slots := 0, locals := 20 }
set_option maxRecDepth 100000 in
set_option maxHeartbeats 4000000 in
theorem c_Gr_takesCommands (l : Launch) (D : va_G) (ca ad : Nat → Nat) (sz : Nat) (hD : Jd ca ad sz) {σ : Jst} {K : Int32 → Jst → Prop} (hw : w_Gr_takesCommands σ K) : Met l y_Gr_takesCommands (wG y_Gr_takesCommands b_Gr_takesCommands 1 (some .boolean)) rm_Gr_takesCommands (va_Pc [.ref (ad 9)] (Jw D vwCl (tysT ca) (wlT ad ca) (NwT sz) σ)) (va_Qi K (Jq D vwCl (wlT ad ca)) (Aw sz)) 0 0 (Aw sz) := by
  refine j_met (cc := b_Gr_takesCommands) (own := R_Gr) (by decide +kernel) rfl (Nat.le_of_ble_eq_true rfl) rfl hD (nwT_k sz) ?_
  intro p e s m args below meth c X hlk hr
  have hX : J p l e rm_Gr_takesCommands s m args below meth c D vwCl (wlT ad ca) (Aw sz) 1 0 0 (MQ below (va_Qi K (Jq D vwCl (wlT ad ca)) (Aw sz)) args s 0 0 (Aw sz)) 0 [(0, .ref (ad 9))] [] σ := by
    unfold w_Gr_takesCommands at hw
    refine j_aload_n X d_Gr_takesCommands_0 rfl 0 rfl ?_
    refine j_callVi (As := []) X (c_Gr_isSending l D ca ad sz hD hw) (gcV (n := 0) X rfl rfl rfl gc_Gr_isSending m_Gr_isSending l_Gr_31 (by decide +kernel) ⟨by decide, by decide⟩) (q0 := 9) rfl rfl (fun _ h => h) rfl rfl (Nat.le_of_ble_eq_true rfl) ⟨by decide, by decide⟩ d_Gr_takesCommands_1 (fun r2 u1 hw => ?_)
    refine j_if_ne X d_Gr_takesCommands_4 (tgt := 15) (by decide) (fun h => ?_) (fun h => ?_)
    · have hw := hw.1 h
      refine j_iconst X (v := (1 : Int32)) d_Gr_takesCommands_15 (by decide) ?_
      refine j_goto X d_Gr_takesCommands_16 (tgt := 20) (by decide) ?_
      exact j_zret X hlk hr rfl d_Gr_takesCommands_20 hw
    · have hw := hw.2 h
      refine j_aload_n X d_Gr_takesCommands_7 rfl 0 rfl ?_
      refine g_9_1 X f_Gr_18 (v := (u1 9 1)) rfl d_Gr_takesCommands_8 ?_
      refine j_iconst X (v := (3 : Int32)) d_Gr_takesCommands_11 (by decide) ?_
      refine j_icmp_ne X d_Gr_takesCommands_12 (tgt := 19) (by decide) (fun h => ?_) (fun h => ?_)
      · have hw := hw.1 h
        refine j_iconst X (v := (0 : Int32)) d_Gr_takesCommands_19 (by decide) ?_
        exact j_zret X hlk hr rfl d_Gr_takesCommands_20 hw
      · have hw := hw.2 h
        refine j_iconst X (v := (1 : Int32)) d_Gr_takesCommands_15 (by decide) ?_
        refine j_goto X d_Gr_takesCommands_16 (tgt := 20) (by decide) ?_
        exact j_zret X hlk hr rfl d_Gr_takesCommands_20 hw
  exact hX
def w_Gr_adjust (a1 : Int32) (a2 : Int32) (a3 : Int32) (σ : Jst) (K : Jst → Prop) : Prop := K (jup (jup (jup σ 9 9 a1) 9 10 a2) 9 11 a3)
abbrev rm_Gr_adjust : Room := { frames := 0, cells := 0, slots := 0, locals := 0 }
set_option maxRecDepth 100000 in
set_option maxHeartbeats 4000000 in
theorem c_Gr_adjust (l : Launch) (D : va_G) (ca ad : Nat → Nat) (sz : Nat) (hD : Jd ca ad sz) {a1 a2 a3 : Int32} {σ : Jst} {K : Jst → Prop} (hw : w_Gr_adjust a1 a2 a3 σ K) : Met l y_Gr_adjust (wG y_Gr_adjust b_Gr_adjust 4 none) rm_Gr_adjust (va_Pc [.ref (ad 9), .int a1, .int a2, .int a3] (Jw D vwCl (tysT ca) (wlT ad ca) (NwT sz) σ)) (va_Qv K (Jq D vwCl (wlT ad ca)) (Aw sz)) 0 0 (Aw sz) := by
  refine j_met (cc := b_Gr_adjust) (own := R_Gr) (by decide +kernel) rfl (Nat.le_of_ble_eq_true rfl) rfl hD (nwT_k sz) ?_
  intro p e s m args below meth c X hlk hr
  have hX : J p l e rm_Gr_adjust s m args below meth c D vwCl (wlT ad ca) (Aw sz) 4 0 0 (MQ below (va_Qv K (Jq D vwCl (wlT ad ca)) (Aw sz)) args s 0 0 (Aw sz)) 0 [(0, .ref (ad 9)), (1, .int a1), (2, .int a2), (3, .int a3)] [] σ := by
    unfold w_Gr_adjust at hw
    refine j_aload_n X d_Gr_adjust_0 rfl 0 rfl ?_
    refine j_iload_n X d_Gr_adjust_1 rfl 1 rfl ?_
    refine p_9_9 X f_Gr_22 d_Gr_adjust_2 ?_
    refine j_aload_n X d_Gr_adjust_5 rfl 0 rfl ?_
    refine j_iload_n X d_Gr_adjust_6 rfl 2 rfl ?_
    refine p_9_10 X f_Gr_25 d_Gr_adjust_7 ?_
    refine j_aload_n X d_Gr_adjust_10 rfl 0 rfl ?_
    refine j_iload_n X d_Gr_adjust_11 rfl 3 rfl ?_
    refine p_9_11 X f_Gr_28 d_Gr_adjust_12 ?_
    exact j_vret X hlk hr d_Gr_adjust_15 hw
  exact hX
def w_Gr_renumber (a1 : Int32) (σ : Jst) (K : Jst → Prop) : Prop := K (jup (jup σ 9 2 a1) 9 3 a1)
abbrev rm_Gr_renumber : Room := { frames := 0, cells := 0, slots := 0, locals := 0 }
set_option maxRecDepth 100000 in
set_option maxHeartbeats 4000000 in
theorem c_Gr_renumber (l : Launch) (D : va_G) (ca ad : Nat → Nat) (sz : Nat) (hD : Jd ca ad sz) {a1 : Int32} {σ : Jst} {K : Jst → Prop} (hw : w_Gr_renumber a1 σ K) : Met l y_Gr_renumber (wG y_Gr_renumber b_Gr_renumber 2 none) rm_Gr_renumber (va_Pc [.ref (ad 9), .int a1] (Jw D vwCl (tysT ca) (wlT ad ca) (NwT sz) σ)) (va_Qv K (Jq D vwCl (wlT ad ca)) (Aw sz)) 0 0 (Aw sz) := by
  refine j_met (cc := b_Gr_renumber) (own := R_Gr) (by decide +kernel) rfl (Nat.le_of_ble_eq_true rfl) rfl hD (nwT_k sz) ?_
  intro p e s m args below meth c X hlk hr
  have hX : J p l e rm_Gr_renumber s m args below meth c D vwCl (wlT ad ca) (Aw sz) 2 0 0 (MQ below (va_Qv K (Jq D vwCl (wlT ad ca)) (Aw sz)) args s 0 0 (Aw sz)) 0 [(0, .ref (ad 9)), (1, .int a1)] [] σ := by
    unfold w_Gr_renumber at hw
    refine j_aload_n X d_Gr_renumber_0 rfl 0 rfl ?_
    refine j_iload_n X d_Gr_renumber_1 rfl 1 rfl ?_
    refine p_9_2 X f_Gr_35 d_Gr_renumber_2 ?_
    refine j_aload_n X d_Gr_renumber_5 rfl 0 rfl ?_
    refine j_iload_n X d_Gr_renumber_6 rfl 1 rfl ?_
    refine p_9_3 X f_Gr_38 d_Gr_renumber_7 ?_
    exact j_vret X hlk hr d_Gr_renumber_10 hw
  exact hX
def w_Gr_start (a1 : Int32) (σ : Jst) (K : Jst → Prop) : Prop := ((a1 = (0 : Int32) → K (jup (jup (jup σ 9 6 (1 : Int32)) 9 8 (0 : Int32)) 9 1 (1 : Int32))) ∧ ((a1 = (1 : Int32) → K (jup (jup (jup (jup σ 9 6 (1 : Int32)) 9 8 (0 : Int32)) 9 1 (4 : Int32)) 9 7 (σ 9 11))) ∧ (¬ a1 = (0 : Int32) → ¬ a1 = (1 : Int32) → ((¬ a1 = (2 : Int32) → K (jup (jup (jup (jup (jup σ 9 6 (1 : Int32)) 9 8 (0 : Int32)) 9 1 (5 : Int32)) 9 12 (2 : Int32)) 9 13 (1 : Int32))) ∧ (a1 = (2 : Int32) → K (jup (jup (jup (jup (jup σ 9 6 (1 : Int32)) 9 8 (0 : Int32)) 9 1 (5 : Int32)) 9 12 (1 : Int32)) 9 13 (1 : Int32)))))))
abbrev rm_Gr_start : Room := { frames := 0, cells := 0, slots := 0, locals := 0 }
set_option maxRecDepth 100000 in
set_option maxHeartbeats 4000000 in
theorem c_Gr_start (l : Launch) (D : va_G) (ca ad : Nat → Nat) (sz : Nat) (hD : Jd ca ad sz) {a1 : Int32} {σ : Jst} {K : Jst → Prop} (hw : w_Gr_start a1 σ K) : Met l y_Gr_start (wG y_Gr_start b_Gr_start 2 none) rm_Gr_start (va_Pc [.ref (ad 9), .int a1] (Jw D vwCl (tysT ca) (wlT ad ca) (NwT sz) σ)) (va_Qv K (Jq D vwCl (wlT ad ca)) (Aw sz)) 0 0 (Aw sz) := by
  refine j_met (cc := b_Gr_start) (own := R_Gr) (by decide +kernel) rfl (Nat.le_of_ble_eq_true rfl) rfl hD (nwT_k sz) ?_
  intro p e s m args below meth c X hlk hr
  have hX : J p l e rm_Gr_start s m args below meth c D vwCl (wlT ad ca) (Aw sz) 2 0 0 (MQ below (va_Qv K (Jq D vwCl (wlT ad ca)) (Aw sz)) args s 0 0 (Aw sz)) 0 [(0, .ref (ad 9)), (1, .int a1)] [] σ := by
    unfold w_Gr_start at hw
    refine j_aload_n X d_Gr_start_0 rfl 0 rfl ?_
    refine j_iconst X (v := (1 : Int32)) d_Gr_start_1 (by decide) ?_
    refine p_9_6 X f_Gr_41 d_Gr_start_2 ?_
    refine j_aload_n X d_Gr_start_5 rfl 0 rfl ?_
    refine j_iconst X (v := (0 : Int32)) d_Gr_start_6 (by decide) ?_
    refine p_9_8 X f_Gr_44 d_Gr_start_7 ?_
    refine j_iload_n X d_Gr_start_10 rfl 1 rfl ?_
    by_cases h0 : a1 = (0 : Int32)
    · refine j_lookup X d_Gr_start_11 (by decide) (off := 25) (by rw [h0]; decide) (tgt := 36) (by decide) ?_
      have hw := hw.1 h0
      refine j_aload_n X d_Gr_start_36 rfl 0 rfl ?_
      refine j_iconst X (v := (1 : Int32)) d_Gr_start_37 (by decide) ?_
      refine p_9_1 X f_Gr_18 d_Gr_start_38 ?_
      refine j_goto X d_Gr_start_41 (tgt := 84) (by decide) ?_
      exact j_vret X hlk hr d_Gr_start_84 hw
    have hw := hw.2
    by_cases h1 : a1 = (1 : Int32)
    · refine j_lookup X d_Gr_start_11 (by decide) (off := 33) (by rw [h1]; decide) (tgt := 44) (by decide) ?_
      have hw := hw.1 h1
      refine j_aload_n X d_Gr_start_44 rfl 0 rfl ?_
      refine j_iconst X (v := (4 : Int32)) d_Gr_start_45 (by decide) ?_
      refine p_9_1 X f_Gr_18 d_Gr_start_46 ?_
      refine j_aload_n X d_Gr_start_49 rfl 0 rfl ?_
      refine j_aload_n X d_Gr_start_50 rfl 0 rfl ?_
      refine g_9_11 X f_Gr_28 (v := (σ 9 11)) rfl d_Gr_start_51 ?_
      refine p_9_7 X f_Gr_47 d_Gr_start_54 ?_
      refine j_goto X d_Gr_start_57 (tgt := 84) (by decide) ?_
      exact j_vret X hlk hr d_Gr_start_84 hw
    have hw := hw.2
    refine j_lookup X d_Gr_start_11 (by decide) (off := 49) (by simp only [Array.toList]; rw [lv_osw h0 (by decide)]; rw [lv_osw h1 (by decide)]; rfl) (tgt := 60) (by decide) ?_
    have hw := hw h0 h1
    refine j_aload_n X d_Gr_start_60 rfl 0 rfl ?_
    refine j_iconst X (v := (5 : Int32)) d_Gr_start_61 (by decide) ?_
    refine p_9_1 X f_Gr_18 d_Gr_start_62 ?_
    refine j_aload_n X d_Gr_start_65 rfl 0 rfl ?_
    refine j_iload_n X d_Gr_start_66 rfl 1 rfl ?_
    refine j_iconst X (v := (2 : Int32)) d_Gr_start_67 (by decide) ?_
    refine j_icmp_ne X d_Gr_start_68 (tgt := 75) (by decide) (fun h => ?_) (fun h => ?_)
    · have hw := hw.1 h
      refine j_iconst X (v := (2 : Int32)) d_Gr_start_75 (by decide) ?_
      refine p_9_12 X f_Gr_50 d_Gr_start_76 ?_
      refine j_aload_n X d_Gr_start_79 rfl 0 rfl ?_
      refine j_iconst X (v := (1 : Int32)) d_Gr_start_80 (by decide) ?_
      refine p_9_13 X f_Gr_53 rfl rfl d_Gr_start_81 ?_
      exact j_vret X hlk hr d_Gr_start_84 hw
    · have hw := hw.2 h
      refine j_iconst X (v := (1 : Int32)) d_Gr_start_71 (by decide) ?_
      refine j_goto X d_Gr_start_72 (tgt := 76) (by decide) ?_
      refine p_9_12 X f_Gr_50 d_Gr_start_76 ?_
      refine j_aload_n X d_Gr_start_79 rfl 0 rfl ?_
      refine j_iconst X (v := (1 : Int32)) d_Gr_start_80 (by decide) ?_
      refine p_9_13 X f_Gr_53 rfl rfl d_Gr_start_81 ?_
      exact j_vret X hlk hr d_Gr_start_84 hw
  exact hX
def w_Gr_finish (σ : Jst) (K : Jst → Prop) : Prop := w_Un_clear (jup σ 9 1 (0 : Int32)) (fun u1 => K (jup (jup (jup u1 9 4 (0 : Int32)) 9 3 (u1 9 2)) 9 7 (0 : Int32)))
abbrev rm_Gr_finish : Room := { frames := 1, cells := 0, slots := 0, locals := 20 }
set_option maxRecDepth 100000 in
set_option maxHeartbeats 4000000 in
theorem c_Gr_finish (l : Launch) (D : va_G) (ca ad : Nat → Nat) (sz : Nat) (hD : Jd ca ad sz) {σ : Jst} {K : Jst → Prop} (hw : w_Gr_finish σ K) : Met l y_Gr_finish (wG y_Gr_finish b_Gr_finish 1 none) rm_Gr_finish (va_Pc [.ref (ad 9)] (Jw D vwCl (tysT ca) (wlT ad ca) (NwT sz) σ)) (va_Qv K (Jq D vwCl (wlT ad ca)) (Aw sz)) 0 0 (Aw sz) := by
  refine j_met (cc := b_Gr_finish) (own := R_Gr) (by decide +kernel) rfl (Nat.le_of_ble_eq_true rfl) rfl hD (nwT_k sz) ?_
  intro p e s m args below meth c X hlk hr
  have hX : J p l e rm_Gr_finish s m args below meth c D vwCl (wlT ad ca) (Aw sz) 1 0 0 (MQ below (va_Qv K (Jq D vwCl (wlT ad ca)) (Aw sz)) args s 0 0 (Aw sz)) 0 [(0, .ref (ad 9))] [] σ := by
    unfold w_Gr_finish at hw
    refine j_aload_n X d_Gr_finish_0 rfl 0 rfl ?_
    refine j_iconst X (v := (0 : Int32)) d_Gr_finish_1 (by decide) ?_
    refine p_9_1 X f_Gr_18 d_Gr_finish_2 ?_
    refine j_aload_n X d_Gr_finish_5 rfl 0 rfl ?_
    refine g_9_0 X f_Gr_12 d_Gr_finish_6 ?_
    refine j_callVv (As := []) X (c_Un_clear l D ca ad sz hD hw) (gcV (n := 0) X rfl rfl rfl gc_Un_clear m_Un_clear l_Gr_57 (by decide +kernel) ⟨by decide, by decide⟩) (q0 := 10) rfl rfl (fun _ h => h) rfl rfl (Nat.le_of_ble_eq_true rfl) ⟨by decide, by decide⟩ d_Gr_finish_9 (fun u1 hw => ?_)
    refine j_aload_n X d_Gr_finish_12 rfl 0 rfl ?_
    refine j_iconst X (v := (0 : Int32)) d_Gr_finish_13 (by decide) ?_
    refine p_9_4 X f_Gr_60 rfl rfl d_Gr_finish_14 ?_
    refine j_aload_n X d_Gr_finish_17 rfl 0 rfl ?_
    refine j_aload_n X d_Gr_finish_18 rfl 0 rfl ?_
    refine g_9_2 X f_Gr_35 (v := (u1 9 2)) rfl d_Gr_finish_19 ?_
    refine p_9_3 X f_Gr_38 d_Gr_finish_22 ?_
    refine j_aload_n X d_Gr_finish_25 rfl 0 rfl ?_
    refine j_iconst X (v := (0 : Int32)) d_Gr_finish_26 (by decide) ?_
    refine p_9_7 X f_Gr_47 d_Gr_finish_27 ?_
    exact j_vret X hlk hr d_Gr_finish_30 hw
  exact hX
def w_Gr_offer (a1 : Int32) (σ : Jst) (K : Int32 → Jst → Prop) : Prop := (((σ 9 4) = (0 : Int32) → K (1 : Int32) (jup (jup σ 9 5 a1) 9 4 (1 : Int32))) ∧ (¬ (σ 9 4) = (0 : Int32) → K (0 : Int32) σ))
abbrev rm_Gr_offer : Room := { frames := 0, cells := 0, slots := 0, locals := 0 }
set_option maxRecDepth 100000 in
set_option maxHeartbeats 4000000 in
theorem c_Gr_offer (l : Launch) (D : va_G) (ca ad : Nat → Nat) (sz : Nat) (hD : Jd ca ad sz) {a1 : Int32} {σ : Jst} {K : Int32 → Jst → Prop} (hw : w_Gr_offer a1 σ K) : Met l y_Gr_offer (wG y_Gr_offer b_Gr_offer 2 (some .boolean)) rm_Gr_offer (va_Pc [.ref (ad 9), .int a1] (Jw D vwCl (tysT ca) (wlT ad ca) (NwT sz) σ)) (va_Qi K (Jq D vwCl (wlT ad ca)) (Aw sz)) 0 0 (Aw sz) := by
  refine j_met (cc := b_Gr_offer) (own := R_Gr) (by decide +kernel) rfl (Nat.le_of_ble_eq_true rfl) rfl hD (nwT_k sz) ?_
  intro p e s m args below meth c X hlk hr
  have hX : J p l e rm_Gr_offer s m args below meth c D vwCl (wlT ad ca) (Aw sz) 2 0 0 (MQ below (va_Qi K (Jq D vwCl (wlT ad ca)) (Aw sz)) args s 0 0 (Aw sz)) 0 [(0, .ref (ad 9)), (1, .int a1)] [] σ := by
    unfold w_Gr_offer at hw
    refine j_aload_n X d_Gr_offer_0 rfl 0 rfl ?_
    refine g_9_4 X f_Gr_60 (v := (σ 9 4)) rfl d_Gr_offer_1 ?_
    refine j_if_eq X d_Gr_offer_4 (tgt := 9) (by decide) (fun h => ?_) (fun h => ?_)
    · have hw := hw.1 h
      refine j_aload_n X d_Gr_offer_9 rfl 0 rfl ?_
      refine j_iload_n X d_Gr_offer_10 rfl 1 rfl ?_
      refine p_9_5 X f_Gr_63 d_Gr_offer_11 ?_
      refine j_aload_n X d_Gr_offer_14 rfl 0 rfl ?_
      refine j_iconst X (v := (1 : Int32)) d_Gr_offer_15 (by decide) ?_
      refine p_9_4 X f_Gr_60 rfl rfl d_Gr_offer_16 ?_
      refine j_iconst X (v := (1 : Int32)) d_Gr_offer_19 (by decide) ?_
      exact j_zret X hlk hr rfl d_Gr_offer_20 hw
    · have hw := hw.2 h
      refine j_iconst X (v := (0 : Int32)) d_Gr_offer_7 (by decide) ?_
      exact j_zret X hlk hr rfl d_Gr_offer_8 hw
  exact hX
def w_Gr_send (a1 : Int32) (a2 : Int32) (a3 : Int32) (σ : Jst) (K : Int32 → Jst → Prop) : Prop := w_Uf_add a1 a2 a3 σ (fun u1 => K a1 (jup u1 9 7 (u1 9 11)))
abbrev rm_Gr_send : Room := { frames := 1, cells := 0, slots := 0, locals := 23 }
set_option maxRecDepth 100000 in
set_option maxHeartbeats 4000000 in
theorem c_Gr_send (l : Launch) (D : va_G) (ca ad : Nat → Nat) (sz : Nat) (hD : Jd ca ad sz) {a1 a2 a3 : Int32} {σ : Jst} {K : Int32 → Jst → Prop} (hw : w_Gr_send a1 a2 a3 σ K) : Met l y_Gr_send (wG y_Gr_send b_Gr_send 5 (some .int)) rm_Gr_send (va_Pc [.ref (ad 9), .ref (ad 1), .int a1, .int a2, .int a3] (Jw D vwCl (tysT ca) (wlT ad ca) (NwT sz) σ)) (va_Qi K (Jq D vwCl (wlT ad ca)) (Aw sz)) 0 0 (Aw sz) := by
  refine j_met (cc := b_Gr_send) (own := R_Gr) (by decide +kernel) rfl (Nat.le_of_ble_eq_true rfl) rfl hD (nwT_k sz) ?_
  intro p e s m args below meth c X hlk hr
  have hX : J p l e rm_Gr_send s m args below meth c D vwCl (wlT ad ca) (Aw sz) 5 0 0 (MQ below (va_Qi K (Jq D vwCl (wlT ad ca)) (Aw sz)) args s 0 0 (Aw sz)) 0 [(0, .ref (ad 9)), (1, .ref (ad 1)), (2, .int a1), (3, .int a2), (4, .int a3)] [] σ := by
    unfold w_Gr_send at hw
    refine j_aload_n X d_Gr_send_0 rfl 1 rfl ?_
    refine j_iload_n X d_Gr_send_1 rfl 2 rfl ?_
    refine j_iload_n X d_Gr_send_2 rfl 3 rfl ?_
    refine j_iload X d_Gr_send_3 4 rfl ?_
    refine j_callVv (As := [.int a1, .int a2, .int a3]) X (c_Uf_add l D ca ad sz hD hw) (gcV (n := 3) X rfl rfl rfl gc_Uf_add m_Uf_add l_Gr_142 (by decide +kernel) ⟨by decide, by decide⟩) (q0 := 1) rfl rfl (fun _ h => h) rfl rfl (Nat.le_of_ble_eq_true rfl) ⟨by decide, by decide⟩ d_Gr_send_5 (fun u1 hw => ?_)
    refine j_aload_n X d_Gr_send_8 rfl 0 rfl ?_
    refine j_aload_n X d_Gr_send_9 rfl 0 rfl ?_
    refine g_9_11 X f_Gr_28 (v := (u1 9 11)) rfl d_Gr_send_10 ?_
    refine p_9_7 X f_Gr_47 d_Gr_send_13 ?_
    refine j_iload_n X d_Gr_send_16 rfl 2 rfl ?_
    exact j_iret X hlk hr d_Gr_send_17 hw
  exact hX
def w_Gr_sendSlot (σ : Jst) (K : Int32 → Jst → Prop) : Prop := w_Un_add (σ 9 2) (σ 9 5) σ (fun u1 => w_T_following (u1 9 2) u1 (fun r3 u2 => w_Un_size (jup (jup u2 9 2 r3) 9 4 (0 : Int32)) (fun r5 u4 => ((¬ r5 = (1 : Int32) → w_Gr_send (0 : Int32) (σ 9 2) (u4 9 5) u4 (fun r7 u6 => K r7 u6)) ∧ (r5 = (1 : Int32) → w_Gr_send (0 : Int32) (σ 9 2) (u4 9 5) (jup u4 9 6 (1 : Int32)) (fun r9 u8 => K r9 u8))))))
abbrev rm_Gr_sendSlot : Room := { frames := 2, cells := 0, slots := 0, locals := 47 }
set_option maxRecDepth 100000 in
set_option maxHeartbeats 4000000 in
theorem c_Gr_sendSlot (l : Launch) (D : va_G) (ca ad : Nat → Nat) (sz : Nat) (hD : Jd ca ad sz) {σ : Jst} {K : Int32 → Jst → Prop} (hw : w_Gr_sendSlot σ K) : Met l y_Gr_sendSlot (wG y_Gr_sendSlot b_Gr_sendSlot 3 (some .int)) rm_Gr_sendSlot (va_Pc [.ref (ad 9), .ref (ad 1)] (Jw D vwCl (tysT ca) (wlT ad ca) (NwT sz) σ)) (va_Qi K (Jq D vwCl (wlT ad ca)) (Aw sz)) 0 0 (Aw sz) := by
  refine j_met (cc := b_Gr_sendSlot) (own := R_Gr) (by decide +kernel) rfl (Nat.le_of_ble_eq_true rfl) rfl hD (nwT_k sz) ?_
  intro p e s m args below meth c X hlk hr
  have hX : J p l e rm_Gr_sendSlot s m args below meth c D vwCl (wlT ad ca) (Aw sz) 3 0 0 (MQ below (va_Qi K (Jq D vwCl (wlT ad ca)) (Aw sz)) args s 0 0 (Aw sz)) 0 [(0, .ref (ad 9)), (1, .ref (ad 1))] [] σ := by
    unfold w_Gr_sendSlot at hw
    refine j_aload_n X d_Gr_sendSlot_0 rfl 0 rfl ?_
    refine g_9_2 X f_Gr_35 (v := (σ 9 2)) rfl d_Gr_sendSlot_1 ?_
    refine j_istore_n X d_Gr_sendSlot_4 rfl (by decide) rfl ?_
    refine j_aload_n X d_Gr_sendSlot_5 rfl 1 rfl ?_
    refine g_9_0 X f_Gr_12 d_Gr_sendSlot_6 ?_
    refine j_iload_n X d_Gr_sendSlot_9 rfl 0 rfl ?_
    refine j_aload_n X d_Gr_sendSlot_10 rfl 1 rfl ?_
    refine g_9_5 X f_Gr_63 (v := (σ 9 5)) rfl d_Gr_sendSlot_11 ?_
    refine j_callVv (As := [.int (σ 9 2), .int (σ 9 5)]) X (c_Un_add l D ca ad sz hD hw) (gcV (n := 2) X rfl rfl rfl gc_Un_add m_Un_add l_Gr_136 (by decide +kernel) ⟨by decide, by decide⟩) (q0 := 10) rfl rfl (fun _ h => h) rfl rfl (Nat.le_of_ble_eq_true rfl) ⟨by decide, by decide⟩ d_Gr_sendSlot_14 (fun u1 hw => ?_)
    refine j_aload_n X d_Gr_sendSlot_17 rfl 1 rfl ?_
    refine j_aload_n X d_Gr_sendSlot_18 rfl 1 rfl ?_
    refine g_9_2 X f_Gr_35 (v := (u1 9 2)) rfl d_Gr_sendSlot_19 ?_
    refine j_callSNi (As := [.int (u1 9 2)]) X (c_T_following l D ca ad sz hD hw) (gcSN (n := 1) X rfl rfl rfl gc_T_following m_T_following (n_Gr_139 sz) (by decide +kernel) ⟨by decide, by decide⟩) (fun _ h => h) rfl rfl (Nat.le_of_ble_eq_true rfl) ⟨by decide, by decide⟩ d_Gr_sendSlot_22 (fun r3 u2 hw => ?_)
    refine p_9_2 X f_Gr_35 d_Gr_sendSlot_25 ?_
    refine j_aload_n X d_Gr_sendSlot_28 rfl 1 rfl ?_
    refine j_iconst X (v := (0 : Int32)) d_Gr_sendSlot_29 (by decide) ?_
    refine p_9_4 X f_Gr_60 rfl rfl d_Gr_sendSlot_30 ?_
    refine j_aload_n X d_Gr_sendSlot_33 rfl 1 rfl ?_
    refine g_9_0 X f_Gr_12 d_Gr_sendSlot_34 ?_
    refine j_callVi (As := []) X (c_Un_size l D ca ad sz hD hw) (gcV (n := 0) X rfl rfl rfl gc_Un_size m_Un_size l_Gr_88 (by decide +kernel) ⟨by decide, by decide⟩) (q0 := 10) rfl rfl (fun _ h => h) rfl rfl (Nat.le_of_ble_eq_true rfl) ⟨by decide, by decide⟩ d_Gr_sendSlot_37 (fun r5 u4 hw => ?_)
    refine j_iconst X (v := (1 : Int32)) d_Gr_sendSlot_40 (by decide) ?_
    refine j_icmp_ne X d_Gr_sendSlot_41 (tgt := 49) (by decide) (fun h => ?_) (fun h => ?_)
    · have hw := hw.1 h
      refine j_aload_n X d_Gr_sendSlot_49 rfl 1 rfl ?_
      refine j_aload_n X d_Gr_sendSlot_50 rfl 2 rfl ?_
      refine j_iconst X (v := (0 : Int32)) d_Gr_sendSlot_51 (by decide) ?_
      refine j_iload_n X d_Gr_sendSlot_52 rfl 0 rfl ?_
      refine j_aload_n X d_Gr_sendSlot_53 rfl 1 rfl ?_
      refine g_9_5 X f_Gr_63 (v := (u4 9 5)) rfl d_Gr_sendSlot_54 ?_
      refine j_callVi (As := [.ref (ad 1), .int (0 : Int32), .int (σ 9 2), .int (u4 9 5)]) X (c_Gr_send l D ca ad sz hD hw) (gcV (n := 4) X rfl rfl rfl gc_Gr_send m_Gr_send l_Gr_116 (by decide +kernel) ⟨by decide, by decide⟩) (q0 := 9) rfl rfl (fun _ h => h) rfl rfl (Nat.le_of_ble_eq_true rfl) ⟨by decide, by decide⟩ d_Gr_sendSlot_57 (fun r7 u6 hw => ?_)
      exact j_iret X hlk hr d_Gr_sendSlot_60 hw
    · have hw := hw.2 h
      refine j_aload_n X d_Gr_sendSlot_44 rfl 1 rfl ?_
      refine j_iconst X (v := (1 : Int32)) d_Gr_sendSlot_45 (by decide) ?_
      refine p_9_6 X f_Gr_41 d_Gr_sendSlot_46 ?_
      refine j_aload_n X d_Gr_sendSlot_49 rfl 1 rfl ?_
      refine j_aload_n X d_Gr_sendSlot_50 rfl 2 rfl ?_
      refine j_iconst X (v := (0 : Int32)) d_Gr_sendSlot_51 (by decide) ?_
      refine j_iload_n X d_Gr_sendSlot_52 rfl 0 rfl ?_
      refine j_aload_n X d_Gr_sendSlot_53 rfl 1 rfl ?_
      refine g_9_5 X f_Gr_63 (v := (u4 9 5)) rfl d_Gr_sendSlot_54 ?_
      refine j_callVi (As := [.ref (ad 1), .int (0 : Int32), .int (σ 9 2), .int (u4 9 5)]) X (c_Gr_send l D ca ad sz hD hw) (gcV (n := 4) X rfl rfl rfl gc_Gr_send m_Gr_send l_Gr_116 (by decide +kernel) ⟨by decide, by decide⟩) (q0 := 9) rfl rfl (fun _ h => h) rfl rfl (Nat.le_of_ble_eq_true rfl) ⟨by decide, by decide⟩ d_Gr_sendSlot_57 (fun r9 u8 hw => ?_)
      exact j_iret X hlk hr d_Gr_sendSlot_60 hw
  exact hX
def w_Gr_sendCommand (σ : Jst) (K : Int32 → Jst → Prop) : Prop := w_Un_firstMarked σ (fun r2 u1 => ((r2 < (0 : Int32) → (((u1 9 4) = (0 : Int32) → K (-1 : Int32) u1) ∧ (¬ (u1 9 4) = (0 : Int32) → w_Un_size u1 (fun r4 u3 => (((u3 9 9) ≤ r4 → K (-1 : Int32) u3) ∧ (¬ (u3 9 9) ≤ r4 → w_Gr_sendSlot u3 (fun r6 u5 => K r6 u5))))))) ∧ (¬ r2 < (0 : Int32) → w_Un_unmark r2 u1 (fun u7 => w_Un_numberOf r2 u7 (fun r9 u8 => w_Un_commandOf r2 u8 (fun r11 u10 => w_Gr_send (0 : Int32) r9 r11 u10 (fun r13 u12 => K r13 u12)))))))
abbrev rm_Gr_sendCommand : Room := { frames := 3, cells := 0, slots := 0, locals := 69 }
set_option maxRecDepth 100000 in
set_option maxHeartbeats 4000000 in
theorem c_Gr_sendCommand (l : Launch) (D : va_G) (ca ad : Nat → Nat) (sz : Nat) (hD : Jd ca ad sz) {σ : Jst} {K : Int32 → Jst → Prop} (hw : w_Gr_sendCommand σ K) : Met l y_Gr_sendCommand (wG y_Gr_sendCommand b_Gr_sendCommand 3 (some .int)) rm_Gr_sendCommand (va_Pc [.ref (ad 9), .ref (ad 1)] (Jw D vwCl (tysT ca) (wlT ad ca) (NwT sz) σ)) (va_Qi K (Jq D vwCl (wlT ad ca)) (Aw sz)) 0 0 (Aw sz) := by
  refine j_met (cc := b_Gr_sendCommand) (own := R_Gr) (by decide +kernel) rfl (Nat.le_of_ble_eq_true rfl) rfl hD (nwT_k sz) ?_
  intro p e s m args below meth c X hlk hr
  have hX : J p l e rm_Gr_sendCommand s m args below meth c D vwCl (wlT ad ca) (Aw sz) 3 0 0 (MQ below (va_Qi K (Jq D vwCl (wlT ad ca)) (Aw sz)) args s 0 0 (Aw sz)) 0 [(0, .ref (ad 9)), (1, .ref (ad 1))] [] σ := by
    unfold w_Gr_sendCommand at hw
    refine j_aload_n X d_Gr_sendCommand_0 rfl 0 rfl ?_
    refine g_9_0 X f_Gr_12 d_Gr_sendCommand_1 ?_
    refine j_callVi (As := []) X (c_Un_firstMarked l D ca ad sz hD hw) (gcV (n := 0) X rfl rfl rfl gc_Un_firstMarked m_Un_firstMarked l_Gr_120 (by decide +kernel) ⟨by decide, by decide⟩) (q0 := 10) rfl rfl (fun _ h => h) rfl rfl (Nat.le_of_ble_eq_true rfl) ⟨by decide, by decide⟩ d_Gr_sendCommand_4 (fun r2 u1 hw => ?_)
    refine j_istore_n X d_Gr_sendCommand_7 rfl (by decide) rfl ?_
    refine j_iload_n X d_Gr_sendCommand_8 rfl 0 rfl ?_
    refine j_if_lt X d_Gr_sendCommand_9 (tgt := 43) (by decide) (fun h => ?_) (fun h => ?_)
    · have hw := hw.1 h
      refine j_aload_n X d_Gr_sendCommand_43 rfl 1 rfl ?_
      refine g_9_4 X f_Gr_60 (v := (u1 9 4)) rfl d_Gr_sendCommand_44 ?_
      refine j_if_eq X d_Gr_sendCommand_47 (tgt := 70) (by decide) (fun h => ?_) (fun h => ?_)
      · have hw := hw.1 h
        refine j_iconst X (v := (-1 : Int32)) d_Gr_sendCommand_70 (by decide) ?_
        exact j_iret X hlk hr d_Gr_sendCommand_71 hw
      · have hw := hw.2 h
        refine j_aload_n X d_Gr_sendCommand_50 rfl 1 rfl ?_
        refine g_9_0 X f_Gr_12 d_Gr_sendCommand_51 ?_
        refine j_callVi (As := []) X (c_Un_size l D ca ad sz hD hw) (gcV (n := 0) X rfl rfl rfl gc_Un_size m_Un_size l_Gr_88 (by decide +kernel) ⟨by decide, by decide⟩) (q0 := 10) rfl rfl (fun _ h => h) rfl rfl (Nat.le_of_ble_eq_true rfl) ⟨by decide, by decide⟩ d_Gr_sendCommand_54 (fun r4 u3 hw => ?_)
        refine j_aload_n X d_Gr_sendCommand_57 rfl 1 rfl ?_
        refine g_9_9 X f_Gr_22 (v := (u3 9 9)) rfl d_Gr_sendCommand_58 ?_
        refine j_icmp_ge X d_Gr_sendCommand_61 (tgt := 70) (by decide) (fun h => ?_) (fun h => ?_)
        · have hw := hw.1 h
          refine j_iconst X (v := (-1 : Int32)) d_Gr_sendCommand_70 (by decide) ?_
          exact j_iret X hlk hr d_Gr_sendCommand_71 hw
        · have hw := hw.2 h
          refine j_aload_n X d_Gr_sendCommand_64 rfl 1 rfl ?_
          refine j_aload_n X d_Gr_sendCommand_65 rfl 2 rfl ?_
          refine j_callVi (As := [.ref (ad 1)]) X (c_Gr_sendSlot l D ca ad sz hD hw) (gcV (n := 1) X rfl rfl rfl gc_Gr_sendSlot m_Gr_sendSlot l_Gr_133 (by decide +kernel) ⟨by decide, by decide⟩) (q0 := 9) rfl rfl (fun _ h => h) rfl rfl (Nat.le_of_ble_eq_true rfl) ⟨by decide, by decide⟩ d_Gr_sendCommand_66 (fun r6 u5 hw => ?_)
          exact j_iret X hlk hr d_Gr_sendCommand_69 hw
    · have hw := hw.2 h
      refine j_aload_n X d_Gr_sendCommand_12 rfl 1 rfl ?_
      refine g_9_0 X f_Gr_12 d_Gr_sendCommand_13 ?_
      refine j_iload_n X d_Gr_sendCommand_16 rfl 0 rfl ?_
      refine j_callVv (As := [.int r2]) X (c_Un_unmark l D ca ad sz hD hw) (gcV (n := 1) X rfl rfl rfl gc_Un_unmark m_Un_unmark l_Gr_123 (by decide +kernel) ⟨by decide, by decide⟩) (q0 := 10) rfl rfl (fun _ h => h) rfl rfl (Nat.le_of_ble_eq_true rfl) ⟨by decide, by decide⟩ d_Gr_sendCommand_17 (fun u7 hw => ?_)
      refine j_aload_n X d_Gr_sendCommand_20 rfl 1 rfl ?_
      refine j_aload_n X d_Gr_sendCommand_21 rfl 2 rfl ?_
      refine j_iconst X (v := (0 : Int32)) d_Gr_sendCommand_22 (by decide) ?_
      refine j_aload_n X d_Gr_sendCommand_23 rfl 1 rfl ?_
      refine g_9_0 X f_Gr_12 d_Gr_sendCommand_24 ?_
      refine j_iload_n X d_Gr_sendCommand_27 rfl 0 rfl ?_
      refine j_callVi (As := [.int r2]) X (c_Un_numberOf l D ca ad sz hD hw) (gcV (n := 1) X rfl rfl rfl gc_Un_numberOf m_Un_numberOf l_Gr_126 (by decide +kernel) ⟨by decide, by decide⟩) (q0 := 10) rfl rfl (fun _ h => h) rfl rfl (Nat.le_of_ble_eq_true rfl) ⟨by decide, by decide⟩ d_Gr_sendCommand_28 (fun r9 u8 hw => ?_)
      refine j_aload_n X d_Gr_sendCommand_31 rfl 1 rfl ?_
      refine g_9_0 X f_Gr_12 d_Gr_sendCommand_32 ?_
      refine j_iload_n X d_Gr_sendCommand_35 rfl 0 rfl ?_
      refine j_callVi (As := [.int r2]) X (c_Un_commandOf l D ca ad sz hD hw) (gcV (n := 1) X rfl rfl rfl gc_Un_commandOf m_Un_commandOf l_Gr_130 (by decide +kernel) ⟨by decide, by decide⟩) (q0 := 10) rfl rfl (fun _ h => h) rfl rfl (Nat.le_of_ble_eq_true rfl) ⟨by decide, by decide⟩ d_Gr_sendCommand_36 (fun r11 u10 hw => ?_)
      refine j_callVi (As := [.ref (ad 1), .int (0 : Int32), .int r9, .int r11]) X (c_Gr_send l D ca ad sz hD hw) (gcV (n := 4) X rfl rfl rfl gc_Gr_send m_Gr_send l_Gr_116 (by decide +kernel) ⟨by decide, by decide⟩) (q0 := 9) rfl rfl (fun _ h => h) rfl rfl (Nat.le_of_ble_eq_true rfl) ⟨by decide, by decide⟩ d_Gr_sendCommand_39 (fun r13 u12 hw => ?_)
      exact j_iret X hlk hr d_Gr_sendCommand_42 hw
  exact hX
def w_Gr_sendStart (σ : Jst) (K : Int32 → Jst → Prop) : Prop := ((¬ (σ 9 12) = (2 : Int32) → w_Gr_send (σ 9 12) (0 : Int32) (0 : Int32) (jup σ 9 13 (0 : Int32)) (fun r2 u1 => K r2 u1)) ∧ ((σ 9 12) = (2 : Int32) → w_Gr_send (σ 9 12) (σ 9 2) (0 : Int32) (jup σ 9 13 (0 : Int32)) (fun r4 u3 => K r4 u3)))
abbrev rm_Gr_sendStart : Room := { frames := 2, cells := 0, slots := 0, locals := 47 }
set_option maxRecDepth 100000 in
set_option maxHeartbeats 4000000 in
theorem c_Gr_sendStart (l : Launch) (D : va_G) (ca ad : Nat → Nat) (sz : Nat) (hD : Jd ca ad sz) {σ : Jst} {K : Int32 → Jst → Prop} (hw : w_Gr_sendStart σ K) : Met l y_Gr_sendStart (wG y_Gr_sendStart b_Gr_sendStart 2 (some .int)) rm_Gr_sendStart (va_Pc [.ref (ad 9), .ref (ad 1)] (Jw D vwCl (tysT ca) (wlT ad ca) (NwT sz) σ)) (va_Qi K (Jq D vwCl (wlT ad ca)) (Aw sz)) 0 0 (Aw sz) := by
  refine j_met (cc := b_Gr_sendStart) (own := R_Gr) (by decide +kernel) rfl (Nat.le_of_ble_eq_true rfl) rfl hD (nwT_k sz) ?_
  intro p e s m args below meth c X hlk hr
  have hX : J p l e rm_Gr_sendStart s m args below meth c D vwCl (wlT ad ca) (Aw sz) 2 0 0 (MQ below (va_Qi K (Jq D vwCl (wlT ad ca)) (Aw sz)) args s 0 0 (Aw sz)) 0 [(0, .ref (ad 9)), (1, .ref (ad 1))] [] σ := by
    unfold w_Gr_sendStart at hw
    refine j_aload_n X d_Gr_sendStart_0 rfl 0 rfl ?_
    refine j_iconst X (v := (0 : Int32)) d_Gr_sendStart_1 (by decide) ?_
    refine p_9_13 X f_Gr_53 rfl rfl d_Gr_sendStart_2 ?_
    refine j_aload_n X d_Gr_sendStart_5 rfl 0 rfl ?_
    refine j_aload_n X d_Gr_sendStart_6 rfl 1 rfl ?_
    refine j_aload_n X d_Gr_sendStart_7 rfl 0 rfl ?_
    refine g_9_12 X f_Gr_50 (v := (σ 9 12)) rfl d_Gr_sendStart_8 ?_
    refine j_aload_n X d_Gr_sendStart_11 rfl 0 rfl ?_
    refine g_9_12 X f_Gr_50 (v := (σ 9 12)) rfl d_Gr_sendStart_12 ?_
    refine j_iconst X (v := (2 : Int32)) d_Gr_sendStart_15 (by decide) ?_
    refine j_icmp_ne X d_Gr_sendStart_16 (tgt := 26) (by decide) (fun h => ?_) (fun h => ?_)
    · have hw := hw.1 h
      refine j_iconst X (v := (0 : Int32)) d_Gr_sendStart_26 (by decide) ?_
      refine j_iconst X (v := (0 : Int32)) d_Gr_sendStart_27 (by decide) ?_
      refine j_callVi (As := [.ref (ad 1), .int (σ 9 12), .int (0 : Int32), .int (0 : Int32)]) X (c_Gr_send l D ca ad sz hD hw) (gcV (n := 4) X rfl rfl rfl gc_Gr_send m_Gr_send l_Gr_116 (by decide +kernel) ⟨by decide, by decide⟩) (q0 := 9) rfl rfl (fun _ h => h) rfl rfl (Nat.le_of_ble_eq_true rfl) ⟨by decide, by decide⟩ d_Gr_sendStart_28 (fun r2 u1 hw => ?_)
      exact j_iret X hlk hr d_Gr_sendStart_31 hw
    · have hw := hw.2 h
      refine j_aload_n X d_Gr_sendStart_19 rfl 0 rfl ?_
      refine g_9_2 X f_Gr_35 (v := (σ 9 2)) rfl d_Gr_sendStart_20 ?_
      refine j_goto X d_Gr_sendStart_23 (tgt := 27) (by decide) ?_
      refine j_iconst X (v := (0 : Int32)) d_Gr_sendStart_27 (by decide) ?_
      refine j_callVi (As := [.ref (ad 1), .int (σ 9 12), .int (σ 9 2), .int (0 : Int32)]) X (c_Gr_send l D ca ad sz hD hw) (gcV (n := 4) X rfl rfl rfl gc_Gr_send m_Gr_send l_Gr_116 (by decide +kernel) ⟨by decide, by decide⟩) (q0 := 9) rfl rfl (fun _ h => h) rfl rfl (Nat.le_of_ble_eq_true rfl) ⟨by decide, by decide⟩ d_Gr_sendStart_28 (fun r4 u3 hw => ?_)
      exact j_iret X hlk hr d_Gr_sendStart_31 hw
  exact hX
def w_Gr_alarm (a1 : Int32) (σ : Jst) (K : Jst → Prop) : Prop := w_Gr_finish (jup σ 9 8 a1) (fun u1 => K u1)
abbrev rm_Gr_alarm : Room := { frames := 2, cells := 0, slots := 0, locals := 40 }
set_option maxRecDepth 100000 in
set_option maxHeartbeats 4000000 in
theorem c_Gr_alarm (l : Launch) (D : va_G) (ca ad : Nat → Nat) (sz : Nat) (hD : Jd ca ad sz) {a1 : Int32} {σ : Jst} {K : Jst → Prop} (hw : w_Gr_alarm a1 σ K) : Met l y_Gr_alarm (wG y_Gr_alarm b_Gr_alarm 2 none) rm_Gr_alarm (va_Pc [.ref (ad 9), .int a1] (Jw D vwCl (tysT ca) (wlT ad ca) (NwT sz) σ)) (va_Qv K (Jq D vwCl (wlT ad ca)) (Aw sz)) 0 0 (Aw sz) := by
  refine j_met (cc := b_Gr_alarm) (own := R_Gr) (by decide +kernel) rfl (Nat.le_of_ble_eq_true rfl) rfl hD (nwT_k sz) ?_
  intro p e s m args below meth c X hlk hr
  have hX : J p l e rm_Gr_alarm s m args below meth c D vwCl (wlT ad ca) (Aw sz) 2 0 0 (MQ below (va_Qv K (Jq D vwCl (wlT ad ca)) (Aw sz)) args s 0 0 (Aw sz)) 0 [(0, .ref (ad 9)), (1, .int a1)] [] σ := by
    unfold w_Gr_alarm at hw
    refine j_aload_n X d_Gr_alarm_0 rfl 0 rfl ?_
    refine j_iload_n X d_Gr_alarm_1 rfl 1 rfl ?_
    refine p_9_8 X f_Gr_44 d_Gr_alarm_2 ?_
    refine j_aload_n X d_Gr_alarm_5 rfl 0 rfl ?_
    refine j_callVv (As := []) X (c_Gr_finish l D ca ad sz hD hw) (gcV (n := 0) X rfl rfl rfl gc_Gr_finish m_Gr_finish l_Gr_107 (by decide +kernel) ⟨by decide, by decide⟩) (q0 := 9) rfl rfl (fun _ h => h) rfl rfl (Nat.le_of_ble_eq_true rfl) ⟨by decide, by decide⟩ d_Gr_alarm_6 (fun u1 hw => ?_)
    exact j_vret X hlk hr d_Gr_alarm_9 hw
  exact hX
def w_Gr_tryAgain (σ : Jst) (K : Jst → Prop) : Prop := w_Un_markAll (jup σ 9 6 ((σ 9 6) + (1 : Int32))) (fun u1 => K u1)
abbrev rm_Gr_tryAgain : Room := { frames := 1, cells := 0, slots := 0, locals := 21 }
set_option maxRecDepth 100000 in
set_option maxHeartbeats 4000000 in
theorem c_Gr_tryAgain (l : Launch) (D : va_G) (ca ad : Nat → Nat) (sz : Nat) (hD : Jd ca ad sz) {σ : Jst} {K : Jst → Prop} (hw : w_Gr_tryAgain σ K) : Met l y_Gr_tryAgain (wG y_Gr_tryAgain b_Gr_tryAgain 1 none) rm_Gr_tryAgain (va_Pc [.ref (ad 9)] (Jw D vwCl (tysT ca) (wlT ad ca) (NwT sz) σ)) (va_Qv K (Jq D vwCl (wlT ad ca)) (Aw sz)) 0 0 (Aw sz) := by
  refine j_met (cc := b_Gr_tryAgain) (own := R_Gr) (by decide +kernel) rfl (Nat.le_of_ble_eq_true rfl) rfl hD (nwT_k sz) ?_
  intro p e s m args below meth c X hlk hr
  have hX : J p l e rm_Gr_tryAgain s m args below meth c D vwCl (wlT ad ca) (Aw sz) 1 0 0 (MQ below (va_Qv K (Jq D vwCl (wlT ad ca)) (Aw sz)) args s 0 0 (Aw sz)) 0 [(0, .ref (ad 9))] [] σ := by
    unfold w_Gr_tryAgain at hw
    refine j_aload_n X d_Gr_tryAgain_0 rfl 0 rfl ?_
    refine j_dup X d_Gr_tryAgain_1 rfl ?_
    refine g_9_6 X f_Gr_41 (v := (σ 9 6)) rfl d_Gr_tryAgain_2 ?_
    refine j_iconst X (v := (1 : Int32)) d_Gr_tryAgain_5 (by decide) ?_
    refine j_iadd X d_Gr_tryAgain_6 ?_
    refine p_9_6 X f_Gr_41 d_Gr_tryAgain_7 ?_
    refine j_aload_n X d_Gr_tryAgain_10 rfl 0 rfl ?_
    refine g_9_0 X f_Gr_12 d_Gr_tryAgain_11 ?_
    refine j_callVv (As := []) X (c_Un_markAll l D ca ad sz hD hw) (gcV (n := 0) X rfl rfl rfl gc_Un_markAll m_Un_markAll l_Gr_110 (by decide +kernel) ⟨by decide, by decide⟩) (q0 := 10) rfl rfl (fun _ h => h) rfl rfl (Nat.le_of_ble_eq_true rfl) ⟨by decide, by decide⟩ d_Gr_tryAgain_14 (fun u1 hw => ?_)
    exact j_vret X hlk hr d_Gr_tryAgain_17 hw
  exact hX
def w_Gr_runOut (σ : Jst) (K : Jst → Prop) : Prop := (((σ 9 1) = (4 : Int32) → w_Gr_alarm (5 : Int32) σ (fun u1 => K u1)) ∧ (¬ (σ 9 1) = (4 : Int32) → (((σ 9 6) < (σ 9 10) → ((¬ (σ 9 1) = (5 : Int32) → w_Gr_isSending σ (fun r3 u2 => ((r3 = (0 : Int32) → K u2) ∧ (¬ r3 = (0 : Int32) → w_Gr_tryAgain u2 (fun u4 => K u4))))) ∧ ((σ 9 1) = (5 : Int32) → K (jup (jup σ 9 6 ((σ 9 6) + (1 : Int32))) 9 13 (1 : Int32))))) ∧ (¬ (σ 9 6) < (σ 9 10) → w_Gr_alarm (5 : Int32) σ (fun u5 => K u5)))))
abbrev rm_Gr_runOut : Room := { frames := 3, cells := 0, slots := 0, locals := 61 }
set_option maxRecDepth 100000 in
set_option maxHeartbeats 4000000 in
theorem c_Gr_runOut (l : Launch) (D : va_G) (ca ad : Nat → Nat) (sz : Nat) (hD : Jd ca ad sz) {σ : Jst} {K : Jst → Prop} (hw : w_Gr_runOut σ K) : Met l y_Gr_runOut (wG y_Gr_runOut b_Gr_runOut 1 none) rm_Gr_runOut (va_Pc [.ref (ad 9)] (Jw D vwCl (tysT ca) (wlT ad ca) (NwT sz) σ)) (va_Qv K (Jq D vwCl (wlT ad ca)) (Aw sz)) 0 0 (Aw sz) := by
  refine j_met (cc := b_Gr_runOut) (own := R_Gr) (by decide +kernel) rfl (Nat.le_of_ble_eq_true rfl) rfl hD (nwT_k sz) ?_
  intro p e s m args below meth c X hlk hr
  have hX : J p l e rm_Gr_runOut s m args below meth c D vwCl (wlT ad ca) (Aw sz) 1 0 0 (MQ below (va_Qv K (Jq D vwCl (wlT ad ca)) (Aw sz)) args s 0 0 (Aw sz)) 0 [(0, .ref (ad 9))] [] σ := by
    unfold w_Gr_runOut at hw
    refine j_aload_n X d_Gr_runOut_0 rfl 0 rfl ?_
    refine g_9_1 X f_Gr_18 (v := (σ 9 1)) rfl d_Gr_runOut_1 ?_
    refine j_iconst X (v := (4 : Int32)) d_Gr_runOut_4 (by decide) ?_
    refine j_icmp_eq X d_Gr_runOut_5 (tgt := 19) (by decide) (fun h => ?_) (fun h => ?_)
    · have hw := hw.1 h
      refine j_aload_n X d_Gr_runOut_19 rfl 0 rfl ?_
      refine j_iconst X (v := (5 : Int32)) d_Gr_runOut_20 (by decide) ?_
      refine j_callVv (As := [.int (5 : Int32)]) X (c_Gr_alarm l D ca ad sz hD hw) (gcV (n := 1) X rfl rfl rfl gc_Gr_alarm m_Gr_alarm l_Gr_84 (by decide +kernel) ⟨by decide, by decide⟩) (q0 := 9) rfl rfl (fun _ h => h) rfl rfl (Nat.le_of_ble_eq_true rfl) ⟨by decide, by decide⟩ d_Gr_runOut_21 (fun u1 hw => ?_)
      refine j_goto X d_Gr_runOut_24 (tgt := 64) (by decide) ?_
      exact j_vret X hlk hr d_Gr_runOut_64 hw
    · have hw := hw.2 h
      refine j_aload_n X d_Gr_runOut_8 rfl 0 rfl ?_
      refine g_9_6 X f_Gr_41 (v := (σ 9 6)) rfl d_Gr_runOut_9 ?_
      refine j_aload_n X d_Gr_runOut_12 rfl 0 rfl ?_
      refine g_9_10 X f_Gr_25 (v := (σ 9 10)) rfl d_Gr_runOut_13 ?_
      refine j_icmp_lt X d_Gr_runOut_16 (tgt := 27) (by decide) (fun h => ?_) (fun h => ?_)
      · have hw := hw.1 h
        refine j_aload_n X d_Gr_runOut_27 rfl 0 rfl ?_
        refine g_9_1 X f_Gr_18 (v := (σ 9 1)) rfl d_Gr_runOut_28 ?_
        refine j_iconst X (v := (5 : Int32)) d_Gr_runOut_31 (by decide) ?_
        refine j_icmp_ne X d_Gr_runOut_32 (tgt := 53) (by decide) (fun h => ?_) (fun h => ?_)
        · have hw := hw.1 h
          refine j_aload_n X d_Gr_runOut_53 rfl 0 rfl ?_
          refine j_callVi (As := []) X (c_Gr_isSending l D ca ad sz hD hw) (gcV (n := 0) X rfl rfl rfl gc_Gr_isSending m_Gr_isSending l_Gr_31 (by decide +kernel) ⟨by decide, by decide⟩) (q0 := 9) rfl rfl (fun _ h => h) rfl rfl (Nat.le_of_ble_eq_true rfl) ⟨by decide, by decide⟩ d_Gr_runOut_54 (fun r3 u2 hw => ?_)
          refine j_if_eq X d_Gr_runOut_57 (tgt := 64) (by decide) (fun h => ?_) (fun h => ?_)
          · have hw := hw.1 h
            exact j_vret X hlk hr d_Gr_runOut_64 hw
          · have hw := hw.2 h
            refine j_aload_n X d_Gr_runOut_60 rfl 0 rfl ?_
            refine j_callVv (As := []) X (c_Gr_tryAgain l D ca ad sz hD hw) (gcV (n := 0) X rfl rfl rfl gc_Gr_tryAgain m_Gr_tryAgain l_Gr_113 (by decide +kernel) ⟨by decide, by decide⟩) (q0 := 9) rfl rfl (fun _ h => h) rfl rfl (Nat.le_of_ble_eq_true rfl) ⟨by decide, by decide⟩ d_Gr_runOut_61 (fun u4 hw => ?_)
            exact j_vret X hlk hr d_Gr_runOut_64 hw
        · have hw := hw.2 h
          refine j_aload_n X d_Gr_runOut_35 rfl 0 rfl ?_
          refine j_dup X d_Gr_runOut_36 rfl ?_
          refine g_9_6 X f_Gr_41 (v := (σ 9 6)) rfl d_Gr_runOut_37 ?_
          refine j_iconst X (v := (1 : Int32)) d_Gr_runOut_40 (by decide) ?_
          refine j_iadd X d_Gr_runOut_41 ?_
          refine p_9_6 X f_Gr_41 d_Gr_runOut_42 ?_
          refine j_aload_n X d_Gr_runOut_45 rfl 0 rfl ?_
          refine j_iconst X (v := (1 : Int32)) d_Gr_runOut_46 (by decide) ?_
          refine p_9_13 X f_Gr_53 rfl rfl d_Gr_runOut_47 ?_
          refine j_goto X d_Gr_runOut_50 (tgt := 64) (by decide) ?_
          exact j_vret X hlk hr d_Gr_runOut_64 hw
      · have hw := hw.2 h
        refine j_aload_n X d_Gr_runOut_19 rfl 0 rfl ?_
        refine j_iconst X (v := (5 : Int32)) d_Gr_runOut_20 (by decide) ?_
        refine j_callVv (As := [.int (5 : Int32)]) X (c_Gr_alarm l D ca ad sz hD hw) (gcV (n := 1) X rfl rfl rfl gc_Gr_alarm m_Gr_alarm l_Gr_84 (by decide +kernel) ⟨by decide, by decide⟩) (q0 := 9) rfl rfl (fun _ h => h) rfl rfl (Nat.le_of_ble_eq_true rfl) ⟨by decide, by decide⟩ d_Gr_runOut_21 (fun u5 hw => ?_)
        refine j_goto X d_Gr_runOut_24 (tgt := 64) (by decide) ?_
        exact j_vret X hlk hr d_Gr_runOut_64 hw
  exact hX
def w_Gr_pass (σ : Jst) (K : Int32 → Jst → Prop) : Prop := (((σ 9 7) ≤ (0 : Int32) → ((¬ (σ 9 1) = (5 : Int32) → w_Gr_isSending σ (fun r2 u1 => ((r2 = (0 : Int32) → K (-1 : Int32) u1) ∧ (¬ r2 = (0 : Int32) → w_Gr_sendCommand u1 (fun r4 u3 => K r4 u3))))) ∧ ((σ 9 1) = (5 : Int32) → (((σ 9 13) = (0 : Int32) → w_Gr_isSending σ (fun r6 u5 => ((r6 = (0 : Int32) → K (-1 : Int32) u5) ∧ (¬ r6 = (0 : Int32) → w_Gr_sendCommand u5 (fun r8 u7 => K r8 u7))))) ∧ (¬ (σ 9 13) = (0 : Int32) → w_Gr_sendStart σ (fun r10 u9 => K r10 u9)))))) ∧ (¬ (σ 9 7) ≤ (0 : Int32) → ((¬ ((σ 9 7) - (1 : Int32)) = (0 : Int32) → ((¬ (σ 9 1) = (5 : Int32) → w_Gr_isSending (jup σ 9 7 ((σ 9 7) - (1 : Int32))) (fun r12 u11 => ((r12 = (0 : Int32) → K (-1 : Int32) u11) ∧ (¬ r12 = (0 : Int32) → w_Gr_sendCommand u11 (fun r14 u13 => K r14 u13))))) ∧ ((σ 9 1) = (5 : Int32) → (((σ 9 13) = (0 : Int32) → w_Gr_isSending (jup σ 9 7 ((σ 9 7) - (1 : Int32))) (fun r16 u15 => ((r16 = (0 : Int32) → K (-1 : Int32) u15) ∧ (¬ r16 = (0 : Int32) → w_Gr_sendCommand u15 (fun r18 u17 => K r18 u17))))) ∧ (¬ (σ 9 13) = (0 : Int32) → w_Gr_sendStart (jup σ 9 7 ((σ 9 7) - (1 : Int32))) (fun r20 u19 => K r20 u19)))))) ∧ (((σ 9 7) - (1 : Int32)) = (0 : Int32) → w_Gr_runOut (jup σ 9 7 ((σ 9 7) - (1 : Int32))) (fun u21 => ((¬ (u21 9 1) = (5 : Int32) → w_Gr_isSending u21 (fun r23 u22 => ((r23 = (0 : Int32) → K (-1 : Int32) u22) ∧ (¬ r23 = (0 : Int32) → w_Gr_sendCommand u22 (fun r25 u24 => K r25 u24))))) ∧ ((u21 9 1) = (5 : Int32) → (((u21 9 13) = (0 : Int32) → w_Gr_isSending u21 (fun r27 u26 => ((r27 = (0 : Int32) → K (-1 : Int32) u26) ∧ (¬ r27 = (0 : Int32) → w_Gr_sendCommand u26 (fun r29 u28 => K r29 u28))))) ∧ (¬ (u21 9 13) = (0 : Int32) → w_Gr_sendStart u21 (fun r31 u30 => K r31 u30))))))))))
abbrev rm_Gr_pass : Room := { frames := 4, cells := 0, slots := 0, locals := 91 }
set_option maxRecDepth 100000 in
set_option maxHeartbeats 4000000 in
theorem c_Gr_pass (l : Launch) (D : va_G) (ca ad : Nat → Nat) (sz : Nat) (hD : Jd ca ad sz) {σ : Jst} {K : Int32 → Jst → Prop} (hw : w_Gr_pass σ K) : Met l y_Gr_pass (wG y_Gr_pass b_Gr_pass 2 (some .int)) rm_Gr_pass (va_Pc [.ref (ad 9), .ref (ad 1)] (Jw D vwCl (tysT ca) (wlT ad ca) (NwT sz) σ)) (va_Qi K (Jq D vwCl (wlT ad ca)) (Aw sz)) 0 0 (Aw sz) := by
  refine j_met (cc := b_Gr_pass) (own := R_Gr) (by decide +kernel) rfl (Nat.le_of_ble_eq_true rfl) rfl hD (nwT_k sz) ?_
  intro p e s m args below meth c X hlk hr
  have hX : J p l e rm_Gr_pass s m args below meth c D vwCl (wlT ad ca) (Aw sz) 2 0 0 (MQ below (va_Qi K (Jq D vwCl (wlT ad ca)) (Aw sz)) args s 0 0 (Aw sz)) 0 [(0, .ref (ad 9)), (1, .ref (ad 1))] [] σ := by
    unfold w_Gr_pass at hw
    refine j_aload_n X d_Gr_pass_0 rfl 0 rfl ?_
    refine g_9_7 X f_Gr_47 (v := (σ 9 7)) rfl d_Gr_pass_1 ?_
    refine j_if_le X d_Gr_pass_4 (tgt := 28) (by decide) (fun h => ?_) (fun h => ?_)
    · have hw := hw.1 h
      refine j_aload_n X d_Gr_pass_28 rfl 0 rfl ?_
      refine g_9_1 X f_Gr_18 (v := (σ 9 1)) rfl d_Gr_pass_29 ?_
      refine j_iconst X (v := (5 : Int32)) d_Gr_pass_32 (by decide) ?_
      refine j_icmp_ne X d_Gr_pass_33 (tgt := 49) (by decide) (fun h => ?_) (fun h => ?_)
      · have hw := hw.1 h
        refine j_aload_n X d_Gr_pass_49 rfl 0 rfl ?_
        refine j_callVi (As := []) X (c_Gr_isSending l D ca ad sz hD hw) (gcV (n := 0) X rfl rfl rfl gc_Gr_isSending m_Gr_isSending l_Gr_31 (by decide +kernel) ⟨by decide, by decide⟩) (q0 := 9) rfl rfl (fun _ h => h) rfl rfl (Nat.le_of_ble_eq_true rfl) ⟨by decide, by decide⟩ d_Gr_pass_50 (fun r2 u1 hw => ?_)
        refine j_if_eq X d_Gr_pass_53 (tgt := 64) (by decide) (fun h => ?_) (fun h => ?_)
        · have hw := hw.1 h
          refine j_iconst X (v := (-1 : Int32)) d_Gr_pass_64 (by decide) ?_
          exact j_iret X hlk hr d_Gr_pass_65 hw
        · have hw := hw.2 h
          refine j_aload_n X d_Gr_pass_56 rfl 0 rfl ?_
          refine j_aload_n X d_Gr_pass_57 rfl 1 rfl ?_
          refine j_callVi (As := [.ref (ad 1)]) X (c_Gr_sendCommand l D ca ad sz hD hw) (gcV (n := 1) X rfl rfl rfl gc_Gr_sendCommand m_Gr_sendCommand l_Gr_73 (by decide +kernel) ⟨by decide, by decide⟩) (q0 := 9) rfl rfl (fun _ h => h) rfl rfl (Nat.le_of_ble_eq_true rfl) ⟨by decide, by decide⟩ d_Gr_pass_58 (fun r4 u3 hw => ?_)
          refine j_goto X d_Gr_pass_61 (tgt := 65) (by decide) ?_
          exact j_iret X hlk hr d_Gr_pass_65 hw
      · have hw := hw.2 h
        refine j_aload_n X d_Gr_pass_36 rfl 0 rfl ?_
        refine g_9_13 X f_Gr_53 (v := (σ 9 13)) rfl d_Gr_pass_37 ?_
        refine j_if_eq X d_Gr_pass_40 (tgt := 49) (by decide) (fun h => ?_) (fun h => ?_)
        · have hw := hw.1 h
          refine j_aload_n X d_Gr_pass_49 rfl 0 rfl ?_
          refine j_callVi (As := []) X (c_Gr_isSending l D ca ad sz hD hw) (gcV (n := 0) X rfl rfl rfl gc_Gr_isSending m_Gr_isSending l_Gr_31 (by decide +kernel) ⟨by decide, by decide⟩) (q0 := 9) rfl rfl (fun _ h => h) rfl rfl (Nat.le_of_ble_eq_true rfl) ⟨by decide, by decide⟩ d_Gr_pass_50 (fun r6 u5 hw => ?_)
          refine j_if_eq X d_Gr_pass_53 (tgt := 64) (by decide) (fun h => ?_) (fun h => ?_)
          · have hw := hw.1 h
            refine j_iconst X (v := (-1 : Int32)) d_Gr_pass_64 (by decide) ?_
            exact j_iret X hlk hr d_Gr_pass_65 hw
          · have hw := hw.2 h
            refine j_aload_n X d_Gr_pass_56 rfl 0 rfl ?_
            refine j_aload_n X d_Gr_pass_57 rfl 1 rfl ?_
            refine j_callVi (As := [.ref (ad 1)]) X (c_Gr_sendCommand l D ca ad sz hD hw) (gcV (n := 1) X rfl rfl rfl gc_Gr_sendCommand m_Gr_sendCommand l_Gr_73 (by decide +kernel) ⟨by decide, by decide⟩) (q0 := 9) rfl rfl (fun _ h => h) rfl rfl (Nat.le_of_ble_eq_true rfl) ⟨by decide, by decide⟩ d_Gr_pass_58 (fun r8 u7 hw => ?_)
            refine j_goto X d_Gr_pass_61 (tgt := 65) (by decide) ?_
            exact j_iret X hlk hr d_Gr_pass_65 hw
        · have hw := hw.2 h
          refine j_aload_n X d_Gr_pass_43 rfl 0 rfl ?_
          refine j_aload_n X d_Gr_pass_44 rfl 1 rfl ?_
          refine j_callVi (As := [.ref (ad 1)]) X (c_Gr_sendStart l D ca ad sz hD hw) (gcV (n := 1) X rfl rfl rfl gc_Gr_sendStart m_Gr_sendStart l_Gr_69 (by decide +kernel) ⟨by decide, by decide⟩) (q0 := 9) rfl rfl (fun _ h => h) rfl rfl (Nat.le_of_ble_eq_true rfl) ⟨by decide, by decide⟩ d_Gr_pass_45 (fun r10 u9 hw => ?_)
          exact j_iret X hlk hr d_Gr_pass_48 hw
    · have hw := hw.2 h
      refine j_aload_n X d_Gr_pass_7 rfl 0 rfl ?_
      refine j_dup X d_Gr_pass_8 rfl ?_
      refine g_9_7 X f_Gr_47 (v := (σ 9 7)) rfl d_Gr_pass_9 ?_
      refine j_iconst X (v := (1 : Int32)) d_Gr_pass_12 (by decide) ?_
      refine j_isub X d_Gr_pass_13 ?_
      refine p_9_7 X f_Gr_47 d_Gr_pass_14 ?_
      refine j_aload_n X d_Gr_pass_17 rfl 0 rfl ?_
      refine g_9_7 X f_Gr_47 (v := ((σ 9 7) - (1 : Int32))) rfl d_Gr_pass_18 ?_
      refine j_if_ne X d_Gr_pass_21 (tgt := 28) (by decide) (fun h => ?_) (fun h => ?_)
      · have hw := hw.1 h
        refine j_aload_n X d_Gr_pass_28 rfl 0 rfl ?_
        refine g_9_1 X f_Gr_18 (v := (σ 9 1)) rfl d_Gr_pass_29 ?_
        refine j_iconst X (v := (5 : Int32)) d_Gr_pass_32 (by decide) ?_
        refine j_icmp_ne X d_Gr_pass_33 (tgt := 49) (by decide) (fun h => ?_) (fun h => ?_)
        · have hw := hw.1 h
          refine j_aload_n X d_Gr_pass_49 rfl 0 rfl ?_
          refine j_callVi (As := []) X (c_Gr_isSending l D ca ad sz hD hw) (gcV (n := 0) X rfl rfl rfl gc_Gr_isSending m_Gr_isSending l_Gr_31 (by decide +kernel) ⟨by decide, by decide⟩) (q0 := 9) rfl rfl (fun _ h => h) rfl rfl (Nat.le_of_ble_eq_true rfl) ⟨by decide, by decide⟩ d_Gr_pass_50 (fun r12 u11 hw => ?_)
          refine j_if_eq X d_Gr_pass_53 (tgt := 64) (by decide) (fun h => ?_) (fun h => ?_)
          · have hw := hw.1 h
            refine j_iconst X (v := (-1 : Int32)) d_Gr_pass_64 (by decide) ?_
            exact j_iret X hlk hr d_Gr_pass_65 hw
          · have hw := hw.2 h
            refine j_aload_n X d_Gr_pass_56 rfl 0 rfl ?_
            refine j_aload_n X d_Gr_pass_57 rfl 1 rfl ?_
            refine j_callVi (As := [.ref (ad 1)]) X (c_Gr_sendCommand l D ca ad sz hD hw) (gcV (n := 1) X rfl rfl rfl gc_Gr_sendCommand m_Gr_sendCommand l_Gr_73 (by decide +kernel) ⟨by decide, by decide⟩) (q0 := 9) rfl rfl (fun _ h => h) rfl rfl (Nat.le_of_ble_eq_true rfl) ⟨by decide, by decide⟩ d_Gr_pass_58 (fun r14 u13 hw => ?_)
            refine j_goto X d_Gr_pass_61 (tgt := 65) (by decide) ?_
            exact j_iret X hlk hr d_Gr_pass_65 hw
        · have hw := hw.2 h
          refine j_aload_n X d_Gr_pass_36 rfl 0 rfl ?_
          refine g_9_13 X f_Gr_53 (v := (σ 9 13)) rfl d_Gr_pass_37 ?_
          refine j_if_eq X d_Gr_pass_40 (tgt := 49) (by decide) (fun h => ?_) (fun h => ?_)
          · have hw := hw.1 h
            refine j_aload_n X d_Gr_pass_49 rfl 0 rfl ?_
            refine j_callVi (As := []) X (c_Gr_isSending l D ca ad sz hD hw) (gcV (n := 0) X rfl rfl rfl gc_Gr_isSending m_Gr_isSending l_Gr_31 (by decide +kernel) ⟨by decide, by decide⟩) (q0 := 9) rfl rfl (fun _ h => h) rfl rfl (Nat.le_of_ble_eq_true rfl) ⟨by decide, by decide⟩ d_Gr_pass_50 (fun r16 u15 hw => ?_)
            refine j_if_eq X d_Gr_pass_53 (tgt := 64) (by decide) (fun h => ?_) (fun h => ?_)
            · have hw := hw.1 h
              refine j_iconst X (v := (-1 : Int32)) d_Gr_pass_64 (by decide) ?_
              exact j_iret X hlk hr d_Gr_pass_65 hw
            · have hw := hw.2 h
              refine j_aload_n X d_Gr_pass_56 rfl 0 rfl ?_
              refine j_aload_n X d_Gr_pass_57 rfl 1 rfl ?_
              refine j_callVi (As := [.ref (ad 1)]) X (c_Gr_sendCommand l D ca ad sz hD hw) (gcV (n := 1) X rfl rfl rfl gc_Gr_sendCommand m_Gr_sendCommand l_Gr_73 (by decide +kernel) ⟨by decide, by decide⟩) (q0 := 9) rfl rfl (fun _ h => h) rfl rfl (Nat.le_of_ble_eq_true rfl) ⟨by decide, by decide⟩ d_Gr_pass_58 (fun r18 u17 hw => ?_)
              refine j_goto X d_Gr_pass_61 (tgt := 65) (by decide) ?_
              exact j_iret X hlk hr d_Gr_pass_65 hw
          · have hw := hw.2 h
            refine j_aload_n X d_Gr_pass_43 rfl 0 rfl ?_
            refine j_aload_n X d_Gr_pass_44 rfl 1 rfl ?_
            refine j_callVi (As := [.ref (ad 1)]) X (c_Gr_sendStart l D ca ad sz hD hw) (gcV (n := 1) X rfl rfl rfl gc_Gr_sendStart m_Gr_sendStart l_Gr_69 (by decide +kernel) ⟨by decide, by decide⟩) (q0 := 9) rfl rfl (fun _ h => h) rfl rfl (Nat.le_of_ble_eq_true rfl) ⟨by decide, by decide⟩ d_Gr_pass_45 (fun r20 u19 hw => ?_)
            exact j_iret X hlk hr d_Gr_pass_48 hw
      · have hw := hw.2 h
        refine j_aload_n X d_Gr_pass_24 rfl 0 rfl ?_
        refine j_callVv (As := []) X (c_Gr_runOut l D ca ad sz hD hw) (gcV (n := 0) X rfl rfl rfl gc_Gr_runOut m_Gr_runOut l_Gr_66 (by decide +kernel) ⟨by decide, by decide⟩) (q0 := 9) rfl rfl (fun _ h => h) rfl rfl (Nat.le_of_ble_eq_true rfl) ⟨by decide, by decide⟩ d_Gr_pass_25 (fun u21 hw => ?_)
        refine j_aload_n X d_Gr_pass_28 rfl 0 rfl ?_
        refine g_9_1 X f_Gr_18 (v := (u21 9 1)) rfl d_Gr_pass_29 ?_
        refine j_iconst X (v := (5 : Int32)) d_Gr_pass_32 (by decide) ?_
        refine j_icmp_ne X d_Gr_pass_33 (tgt := 49) (by decide) (fun h => ?_) (fun h => ?_)
        · have hw := hw.1 h
          refine j_aload_n X d_Gr_pass_49 rfl 0 rfl ?_
          refine j_callVi (As := []) X (c_Gr_isSending l D ca ad sz hD hw) (gcV (n := 0) X rfl rfl rfl gc_Gr_isSending m_Gr_isSending l_Gr_31 (by decide +kernel) ⟨by decide, by decide⟩) (q0 := 9) rfl rfl (fun _ h => h) rfl rfl (Nat.le_of_ble_eq_true rfl) ⟨by decide, by decide⟩ d_Gr_pass_50 (fun r23 u22 hw => ?_)
          refine j_if_eq X d_Gr_pass_53 (tgt := 64) (by decide) (fun h => ?_) (fun h => ?_)
          · have hw := hw.1 h
            refine j_iconst X (v := (-1 : Int32)) d_Gr_pass_64 (by decide) ?_
            exact j_iret X hlk hr d_Gr_pass_65 hw
          · have hw := hw.2 h
            refine j_aload_n X d_Gr_pass_56 rfl 0 rfl ?_
            refine j_aload_n X d_Gr_pass_57 rfl 1 rfl ?_
            refine j_callVi (As := [.ref (ad 1)]) X (c_Gr_sendCommand l D ca ad sz hD hw) (gcV (n := 1) X rfl rfl rfl gc_Gr_sendCommand m_Gr_sendCommand l_Gr_73 (by decide +kernel) ⟨by decide, by decide⟩) (q0 := 9) rfl rfl (fun _ h => h) rfl rfl (Nat.le_of_ble_eq_true rfl) ⟨by decide, by decide⟩ d_Gr_pass_58 (fun r25 u24 hw => ?_)
            refine j_goto X d_Gr_pass_61 (tgt := 65) (by decide) ?_
            exact j_iret X hlk hr d_Gr_pass_65 hw
        · have hw := hw.2 h
          refine j_aload_n X d_Gr_pass_36 rfl 0 rfl ?_
          refine g_9_13 X f_Gr_53 (v := (u21 9 13)) rfl d_Gr_pass_37 ?_
          refine j_if_eq X d_Gr_pass_40 (tgt := 49) (by decide) (fun h => ?_) (fun h => ?_)
          · have hw := hw.1 h
            refine j_aload_n X d_Gr_pass_49 rfl 0 rfl ?_
            refine j_callVi (As := []) X (c_Gr_isSending l D ca ad sz hD hw) (gcV (n := 0) X rfl rfl rfl gc_Gr_isSending m_Gr_isSending l_Gr_31 (by decide +kernel) ⟨by decide, by decide⟩) (q0 := 9) rfl rfl (fun _ h => h) rfl rfl (Nat.le_of_ble_eq_true rfl) ⟨by decide, by decide⟩ d_Gr_pass_50 (fun r27 u26 hw => ?_)
            refine j_if_eq X d_Gr_pass_53 (tgt := 64) (by decide) (fun h => ?_) (fun h => ?_)
            · have hw := hw.1 h
              refine j_iconst X (v := (-1 : Int32)) d_Gr_pass_64 (by decide) ?_
              exact j_iret X hlk hr d_Gr_pass_65 hw
            · have hw := hw.2 h
              refine j_aload_n X d_Gr_pass_56 rfl 0 rfl ?_
              refine j_aload_n X d_Gr_pass_57 rfl 1 rfl ?_
              refine j_callVi (As := [.ref (ad 1)]) X (c_Gr_sendCommand l D ca ad sz hD hw) (gcV (n := 1) X rfl rfl rfl gc_Gr_sendCommand m_Gr_sendCommand l_Gr_73 (by decide +kernel) ⟨by decide, by decide⟩) (q0 := 9) rfl rfl (fun _ h => h) rfl rfl (Nat.le_of_ble_eq_true rfl) ⟨by decide, by decide⟩ d_Gr_pass_58 (fun r29 u28 hw => ?_)
              refine j_goto X d_Gr_pass_61 (tgt := 65) (by decide) ?_
              exact j_iret X hlk hr d_Gr_pass_65 hw
          · have hw := hw.2 h
            refine j_aload_n X d_Gr_pass_43 rfl 0 rfl ?_
            refine j_aload_n X d_Gr_pass_44 rfl 1 rfl ?_
            refine j_callVi (As := [.ref (ad 1)]) X (c_Gr_sendStart l D ca ad sz hD hw) (gcV (n := 1) X rfl rfl rfl gc_Gr_sendStart m_Gr_sendStart l_Gr_69 (by decide +kernel) ⟨by decide, by decide⟩) (q0 := 9) rfl rfl (fun _ h => h) rfl rfl (Nat.le_of_ble_eq_true rfl) ⟨by decide, by decide⟩ d_Gr_pass_45 (fun r31 u30 hw => ?_)
            exact j_iret X hlk hr d_Gr_pass_48 hw
  exact hX
def w_Gr_acknowledge (a1 : Int32) (a2 : Int32) (σ : Jst) (K : Jst → Prop) : Prop := w_Un_removeFirst a1 σ (fun u1 => ((a1 ≤ (0 : Int32) → K (jup u1 9 3 a2)) ∧ (¬ a1 ≤ (0 : Int32) → K (jup (jup u1 9 3 a2) 9 6 (1 : Int32)))))
abbrev rm_Gr_acknowledge : Room := { frames := 1, cells := 0, slots := 0, locals := 22 }
set_option maxRecDepth 100000 in
set_option maxHeartbeats 4000000 in
theorem c_Gr_acknowledge (l : Launch) (D : va_G) (ca ad : Nat → Nat) (sz : Nat) (hD : Jd ca ad sz) {a1 a2 : Int32} {σ : Jst} {K : Jst → Prop} (hw : w_Gr_acknowledge a1 a2 σ K) : Met l y_Gr_acknowledge (wG y_Gr_acknowledge b_Gr_acknowledge 3 none) rm_Gr_acknowledge (va_Pc [.ref (ad 9), .int a1, .int a2] (Jw D vwCl (tysT ca) (wlT ad ca) (NwT sz) σ)) (va_Qv K (Jq D vwCl (wlT ad ca)) (Aw sz)) 0 0 (Aw sz) := by
  refine j_met (cc := b_Gr_acknowledge) (own := R_Gr) (by decide +kernel) rfl (Nat.le_of_ble_eq_true rfl) rfl hD (nwT_k sz) ?_
  intro p e s m args below meth c X hlk hr
  have hX : J p l e rm_Gr_acknowledge s m args below meth c D vwCl (wlT ad ca) (Aw sz) 3 0 0 (MQ below (va_Qv K (Jq D vwCl (wlT ad ca)) (Aw sz)) args s 0 0 (Aw sz)) 0 [(0, .ref (ad 9)), (1, .int a1), (2, .int a2)] [] σ := by
    unfold w_Gr_acknowledge at hw
    refine j_aload_n X d_Gr_acknowledge_0 rfl 0 rfl ?_
    refine g_9_0 X f_Gr_12 d_Gr_acknowledge_1 ?_
    refine j_iload_n X d_Gr_acknowledge_4 rfl 1 rfl ?_
    refine j_callVv (As := [.int a1]) X (c_Un_removeFirst l D ca ad sz hD hw) (gcV (n := 1) X rfl rfl rfl gc_Un_removeFirst m_Un_removeFirst l_Gr_147 (by decide +kernel) ⟨by decide, by decide⟩) (q0 := 10) rfl rfl (fun _ h => h) rfl rfl (Nat.le_of_ble_eq_true rfl) ⟨by decide, by decide⟩ d_Gr_acknowledge_5 (fun u1 hw => ?_)
    refine j_aload_n X d_Gr_acknowledge_8 rfl 0 rfl ?_
    refine j_iload_n X d_Gr_acknowledge_9 rfl 2 rfl ?_
    refine p_9_3 X f_Gr_38 d_Gr_acknowledge_10 ?_
    refine j_iload_n X d_Gr_acknowledge_13 rfl 1 rfl ?_
    refine j_if_le X d_Gr_acknowledge_14 (tgt := 22) (by decide) (fun h => ?_) (fun h => ?_)
    · have hw := hw.1 h
      exact j_vret X hlk hr d_Gr_acknowledge_22 hw
    · have hw := hw.2 h
      refine j_aload_n X d_Gr_acknowledge_17 rfl 0 rfl ?_
      refine j_iconst X (v := (1 : Int32)) d_Gr_acknowledge_18 (by decide) ?_
      refine p_9_6 X f_Gr_41 d_Gr_acknowledge_19 ?_
      exact j_vret X hlk hr d_Gr_acknowledge_22 hw
  exact hX
def w_Gr_resend (σ : Jst) (K : Jst → Prop) : Prop := (((σ 9 6) < (σ 9 10) → w_Gr_tryAgain σ (fun u1 => K (jup u1 9 1 (2 : Int32)))) ∧ (¬ (σ 9 6) < (σ 9 10) → w_Gr_alarm (1 : Int32) σ (fun u2 => K u2)))
abbrev rm_Gr_resend : Room := { frames := 3, cells := 0, slots := 0, locals := 61 }
set_option maxRecDepth 100000 in
set_option maxHeartbeats 4000000 in
theorem c_Gr_resend (l : Launch) (D : va_G) (ca ad : Nat → Nat) (sz : Nat) (hD : Jd ca ad sz) {σ : Jst} {K : Jst → Prop} (hw : w_Gr_resend σ K) : Met l y_Gr_resend (wG y_Gr_resend b_Gr_resend 1 none) rm_Gr_resend (va_Pc [.ref (ad 9)] (Jw D vwCl (tysT ca) (wlT ad ca) (NwT sz) σ)) (va_Qv K (Jq D vwCl (wlT ad ca)) (Aw sz)) 0 0 (Aw sz) := by
  refine j_met (cc := b_Gr_resend) (own := R_Gr) (by decide +kernel) rfl (Nat.le_of_ble_eq_true rfl) rfl hD (nwT_k sz) ?_
  intro p e s m args below meth c X hlk hr
  have hX : J p l e rm_Gr_resend s m args below meth c D vwCl (wlT ad ca) (Aw sz) 1 0 0 (MQ below (va_Qv K (Jq D vwCl (wlT ad ca)) (Aw sz)) args s 0 0 (Aw sz)) 0 [(0, .ref (ad 9))] [] σ := by
    unfold w_Gr_resend at hw
    refine j_aload_n X d_Gr_resend_0 rfl 0 rfl ?_
    refine g_9_6 X f_Gr_41 (v := (σ 9 6)) rfl d_Gr_resend_1 ?_
    refine j_aload_n X d_Gr_resend_4 rfl 0 rfl ?_
    refine g_9_10 X f_Gr_25 (v := (σ 9 10)) rfl d_Gr_resend_5 ?_
    refine j_icmp_lt X d_Gr_resend_8 (tgt := 19) (by decide) (fun h => ?_) (fun h => ?_)
    · have hw := hw.1 h
      refine j_aload_n X d_Gr_resend_19 rfl 0 rfl ?_
      refine j_callVv (As := []) X (c_Gr_tryAgain l D ca ad sz hD hw) (gcV (n := 0) X rfl rfl rfl gc_Gr_tryAgain m_Gr_tryAgain l_Gr_113 (by decide +kernel) ⟨by decide, by decide⟩) (q0 := 9) rfl rfl (fun _ h => h) rfl rfl (Nat.le_of_ble_eq_true rfl) ⟨by decide, by decide⟩ d_Gr_resend_20 (fun u1 hw => ?_)
      refine j_aload_n X d_Gr_resend_23 rfl 0 rfl ?_
      refine j_iconst X (v := (2 : Int32)) d_Gr_resend_24 (by decide) ?_
      refine p_9_1 X f_Gr_18 d_Gr_resend_25 ?_
      exact j_vret X hlk hr d_Gr_resend_28 hw
    · have hw := hw.2 h
      refine j_aload_n X d_Gr_resend_11 rfl 0 rfl ?_
      refine j_iconst X (v := (1 : Int32)) d_Gr_resend_12 (by decide) ?_
      refine j_callVv (As := [.int (1 : Int32)]) X (c_Gr_alarm l D ca ad sz hD hw) (gcV (n := 1) X rfl rfl rfl gc_Gr_alarm m_Gr_alarm l_Gr_84 (by decide +kernel) ⟨by decide, by decide⟩) (q0 := 9) rfl rfl (fun _ h => h) rfl rfl (Nat.le_of_ble_eq_true rfl) ⟨by decide, by decide⟩ d_Gr_resend_13 (fun u2 hw => ?_)
      refine j_goto X d_Gr_resend_16 (tgt := 28) (by decide) ?_
      exact j_vret X hlk hr d_Gr_resend_28 hw
  exact hX
def w_Gr_hearWithSomePending (a1 : Int32) (a2 : Int32) (a3 : Int32) (σ : Jst) (K : Jst → Prop) : Prop := ((¬ a1 = (0 : Int32) → ((¬ a1 = (0 : Int32) → ((¬ a2 = (1 : Int32) → ((¬ a2 = (1 : Int32) → ((¬ (σ 9 1) = (2 : Int32) → w_Gr_resend σ (fun u1 => K u1)) ∧ ((σ 9 1) = (2 : Int32) → ((a3 = (0 : Int32) → K σ) ∧ (¬ a3 = (0 : Int32) → w_Gr_resend σ (fun u2 => K u2)))))) ∧ (a2 = (1 : Int32) → K (jup σ 9 1 (3 : Int32))))) ∧ (a2 = (1 : Int32) → ((¬ (σ 9 10) = (1 : Int32) → ((¬ a2 = (1 : Int32) → ((¬ (σ 9 1) = (2 : Int32) → w_Gr_resend σ (fun u3 => K u3)) ∧ ((σ 9 1) = (2 : Int32) → ((a3 = (0 : Int32) → K σ) ∧ (¬ a3 = (0 : Int32) → w_Gr_resend σ (fun u4 => K u4)))))) ∧ (a2 = (1 : Int32) → K (jup σ 9 1 (3 : Int32))))) ∧ ((σ 9 10) = (1 : Int32) → ((a3 = (0 : Int32) → ((¬ a2 = (1 : Int32) → ((¬ (σ 9 1) = (2 : Int32) → w_Gr_resend σ (fun u5 => K u5)) ∧ ((σ 9 1) = (2 : Int32) → ((a3 = (0 : Int32) → K σ) ∧ (¬ a3 = (0 : Int32) → w_Gr_resend σ (fun u6 => K u6)))))) ∧ (a2 = (1 : Int32) → K (jup σ 9 1 (3 : Int32))))) ∧ (¬ a3 = (0 : Int32) → w_Gr_alarm (1 : Int32) σ (fun u7 => K u7)))))))) ∧ (a1 = (0 : Int32) → K (jup σ 9 1 (1 : Int32))))) ∧ (a1 = (0 : Int32) → ((¬ a2 = (1 : Int32) → ((¬ a1 = (0 : Int32) → ((¬ a2 = (1 : Int32) → ((¬ a2 = (1 : Int32) → ((¬ (σ 9 1) = (2 : Int32) → w_Gr_resend σ (fun u8 => K u8)) ∧ ((σ 9 1) = (2 : Int32) → ((a3 = (0 : Int32) → K σ) ∧ (¬ a3 = (0 : Int32) → w_Gr_resend σ (fun u9 => K u9)))))) ∧ (a2 = (1 : Int32) → K (jup σ 9 1 (3 : Int32))))) ∧ (a2 = (1 : Int32) → ((¬ (σ 9 10) = (1 : Int32) → ((¬ a2 = (1 : Int32) → ((¬ (σ 9 1) = (2 : Int32) → w_Gr_resend σ (fun u10 => K u10)) ∧ ((σ 9 1) = (2 : Int32) → ((a3 = (0 : Int32) → K σ) ∧ (¬ a3 = (0 : Int32) → w_Gr_resend σ (fun u11 => K u11)))))) ∧ (a2 = (1 : Int32) → K (jup σ 9 1 (3 : Int32))))) ∧ ((σ 9 10) = (1 : Int32) → ((a3 = (0 : Int32) → ((¬ a2 = (1 : Int32) → ((¬ (σ 9 1) = (2 : Int32) → w_Gr_resend σ (fun u12 => K u12)) ∧ ((σ 9 1) = (2 : Int32) → ((a3 = (0 : Int32) → K σ) ∧ (¬ a3 = (0 : Int32) → w_Gr_resend σ (fun u13 => K u13)))))) ∧ (a2 = (1 : Int32) → K (jup σ 9 1 (3 : Int32))))) ∧ (¬ a3 = (0 : Int32) → w_Gr_alarm (1 : Int32) σ (fun u14 => K u14)))))))) ∧ (a1 = (0 : Int32) → K (jup σ 9 1 (1 : Int32))))) ∧ (a2 = (1 : Int32) → w_Gr_alarm (6 : Int32) σ (fun u15 => K u15)))))
abbrev rm_Gr_hearWithSomePending : Room := { frames := 4, cells := 0, slots := 0, locals := 81 }
set_option maxRecDepth 100000 in
set_option maxHeartbeats 4000000 in
theorem c_Gr_hearWithSomePending (l : Launch) (D : va_G) (ca ad : Nat → Nat) (sz : Nat) (hD : Jd ca ad sz) {a1 a2 a3 : Int32} {σ : Jst} {K : Jst → Prop} (hw : w_Gr_hearWithSomePending a1 a2 a3 σ K) : Met l y_Gr_hearWithSomePending (wG y_Gr_hearWithSomePending b_Gr_hearWithSomePending 4 none) rm_Gr_hearWithSomePending (va_Pc [.ref (ad 9), .int a1, .int a2, .int a3] (Jw D vwCl (tysT ca) (wlT ad ca) (NwT sz) σ)) (va_Qv K (Jq D vwCl (wlT ad ca)) (Aw sz)) 0 0 (Aw sz) := by
  refine j_met (cc := b_Gr_hearWithSomePending) (own := R_Gr) (by decide +kernel) rfl (Nat.le_of_ble_eq_true rfl) rfl hD (nwT_k sz) ?_
  intro p e s m args below meth c X hlk hr
  have hX : J p l e rm_Gr_hearWithSomePending s m args below meth c D vwCl (wlT ad ca) (Aw sz) 4 0 0 (MQ below (va_Qv K (Jq D vwCl (wlT ad ca)) (Aw sz)) args s 0 0 (Aw sz)) 0 [(0, .ref (ad 9)), (1, .int a1), (2, .int a2), (3, .int a3)] [] σ := by
    unfold w_Gr_hearWithSomePending at hw
    refine j_iload_n X d_Gr_hearWithSomePending_0 rfl 1 rfl ?_
    refine j_if_ne X d_Gr_hearWithSomePending_1 (tgt := 18) (by decide) (fun h => ?_) (fun h => ?_)
    · have hw := hw.1 h
      refine j_iload_n X d_Gr_hearWithSomePending_18 rfl 1 rfl ?_
      refine j_if_ne X d_Gr_hearWithSomePending_19 (tgt := 30) (by decide) (fun h => ?_) (fun h => ?_)
      · have hw := hw.1 h
        refine j_iload_n X d_Gr_hearWithSomePending_30 rfl 2 rfl ?_
        refine j_iconst X (v := (1 : Int32)) d_Gr_hearWithSomePending_31 (by decide) ?_
        refine j_icmp_ne X d_Gr_hearWithSomePending_32 (tgt := 55) (by decide) (fun h => ?_) (fun h => ?_)
        · have hw := hw.1 h
          refine j_iload_n X d_Gr_hearWithSomePending_55 rfl 2 rfl ?_
          refine j_iconst X (v := (1 : Int32)) d_Gr_hearWithSomePending_56 (by decide) ?_
          refine j_icmp_ne X d_Gr_hearWithSomePending_57 (tgt := 68) (by decide) (fun h => ?_) (fun h => ?_)
          · have hw := hw.1 h
            refine j_aload_n X d_Gr_hearWithSomePending_68 rfl 0 rfl ?_
            refine g_9_1 X f_Gr_18 (v := (σ 9 1)) rfl d_Gr_hearWithSomePending_69 ?_
            refine j_iconst X (v := (2 : Int32)) d_Gr_hearWithSomePending_72 (by decide) ?_
            refine j_icmp_ne X d_Gr_hearWithSomePending_73 (tgt := 80) (by decide) (fun h => ?_) (fun h => ?_)
            · have hw := hw.1 h
              refine j_aload_n X d_Gr_hearWithSomePending_80 rfl 0 rfl ?_
              refine j_callVv (As := []) X (c_Gr_resend l D ca ad sz hD hw) (gcV (n := 0) X rfl rfl rfl gc_Gr_resend m_Gr_resend l_Gr_150 (by decide +kernel) ⟨by decide, by decide⟩) (q0 := 9) rfl rfl (fun _ h => h) rfl rfl (Nat.le_of_ble_eq_true rfl) ⟨by decide, by decide⟩ d_Gr_hearWithSomePending_81 (fun u1 hw => ?_)
              exact j_vret X hlk hr d_Gr_hearWithSomePending_84 hw
            · have hw := hw.2 h
              refine j_iload_n X d_Gr_hearWithSomePending_76 rfl 3 rfl ?_
              refine j_if_eq X d_Gr_hearWithSomePending_77 (tgt := 84) (by decide) (fun h => ?_) (fun h => ?_)
              · have hw := hw.1 h
                exact j_vret X hlk hr d_Gr_hearWithSomePending_84 hw
              · have hw := hw.2 h
                refine j_aload_n X d_Gr_hearWithSomePending_80 rfl 0 rfl ?_
                refine j_callVv (As := []) X (c_Gr_resend l D ca ad sz hD hw) (gcV (n := 0) X rfl rfl rfl gc_Gr_resend m_Gr_resend l_Gr_150 (by decide +kernel) ⟨by decide, by decide⟩) (q0 := 9) rfl rfl (fun _ h => h) rfl rfl (Nat.le_of_ble_eq_true rfl) ⟨by decide, by decide⟩ d_Gr_hearWithSomePending_81 (fun u2 hw => ?_)
                exact j_vret X hlk hr d_Gr_hearWithSomePending_84 hw
          · have hw := hw.2 h
            refine j_aload_n X d_Gr_hearWithSomePending_60 rfl 0 rfl ?_
            refine j_iconst X (v := (3 : Int32)) d_Gr_hearWithSomePending_61 (by decide) ?_
            refine p_9_1 X f_Gr_18 d_Gr_hearWithSomePending_62 ?_
            refine j_goto X d_Gr_hearWithSomePending_65 (tgt := 84) (by decide) ?_
            exact j_vret X hlk hr d_Gr_hearWithSomePending_84 hw
        · have hw := hw.2 h
          refine j_aload_n X d_Gr_hearWithSomePending_35 rfl 0 rfl ?_
          refine g_9_10 X f_Gr_25 (v := (σ 9 10)) rfl d_Gr_hearWithSomePending_36 ?_
          refine j_iconst X (v := (1 : Int32)) d_Gr_hearWithSomePending_39 (by decide) ?_
          refine j_icmp_ne X d_Gr_hearWithSomePending_40 (tgt := 55) (by decide) (fun h => ?_) (fun h => ?_)
          · have hw := hw.1 h
            refine j_iload_n X d_Gr_hearWithSomePending_55 rfl 2 rfl ?_
            refine j_iconst X (v := (1 : Int32)) d_Gr_hearWithSomePending_56 (by decide) ?_
            refine j_icmp_ne X d_Gr_hearWithSomePending_57 (tgt := 68) (by decide) (fun h => ?_) (fun h => ?_)
            · have hw := hw.1 h
              refine j_aload_n X d_Gr_hearWithSomePending_68 rfl 0 rfl ?_
              refine g_9_1 X f_Gr_18 (v := (σ 9 1)) rfl d_Gr_hearWithSomePending_69 ?_
              refine j_iconst X (v := (2 : Int32)) d_Gr_hearWithSomePending_72 (by decide) ?_
              refine j_icmp_ne X d_Gr_hearWithSomePending_73 (tgt := 80) (by decide) (fun h => ?_) (fun h => ?_)
              · have hw := hw.1 h
                refine j_aload_n X d_Gr_hearWithSomePending_80 rfl 0 rfl ?_
                refine j_callVv (As := []) X (c_Gr_resend l D ca ad sz hD hw) (gcV (n := 0) X rfl rfl rfl gc_Gr_resend m_Gr_resend l_Gr_150 (by decide +kernel) ⟨by decide, by decide⟩) (q0 := 9) rfl rfl (fun _ h => h) rfl rfl (Nat.le_of_ble_eq_true rfl) ⟨by decide, by decide⟩ d_Gr_hearWithSomePending_81 (fun u3 hw => ?_)
                exact j_vret X hlk hr d_Gr_hearWithSomePending_84 hw
              · have hw := hw.2 h
                refine j_iload_n X d_Gr_hearWithSomePending_76 rfl 3 rfl ?_
                refine j_if_eq X d_Gr_hearWithSomePending_77 (tgt := 84) (by decide) (fun h => ?_) (fun h => ?_)
                · have hw := hw.1 h
                  exact j_vret X hlk hr d_Gr_hearWithSomePending_84 hw
                · have hw := hw.2 h
                  refine j_aload_n X d_Gr_hearWithSomePending_80 rfl 0 rfl ?_
                  refine j_callVv (As := []) X (c_Gr_resend l D ca ad sz hD hw) (gcV (n := 0) X rfl rfl rfl gc_Gr_resend m_Gr_resend l_Gr_150 (by decide +kernel) ⟨by decide, by decide⟩) (q0 := 9) rfl rfl (fun _ h => h) rfl rfl (Nat.le_of_ble_eq_true rfl) ⟨by decide, by decide⟩ d_Gr_hearWithSomePending_81 (fun u4 hw => ?_)
                  exact j_vret X hlk hr d_Gr_hearWithSomePending_84 hw
            · have hw := hw.2 h
              refine j_aload_n X d_Gr_hearWithSomePending_60 rfl 0 rfl ?_
              refine j_iconst X (v := (3 : Int32)) d_Gr_hearWithSomePending_61 (by decide) ?_
              refine p_9_1 X f_Gr_18 d_Gr_hearWithSomePending_62 ?_
              refine j_goto X d_Gr_hearWithSomePending_65 (tgt := 84) (by decide) ?_
              exact j_vret X hlk hr d_Gr_hearWithSomePending_84 hw
          · have hw := hw.2 h
            refine j_iload_n X d_Gr_hearWithSomePending_43 rfl 3 rfl ?_
            refine j_if_eq X d_Gr_hearWithSomePending_44 (tgt := 55) (by decide) (fun h => ?_) (fun h => ?_)
            · have hw := hw.1 h
              refine j_iload_n X d_Gr_hearWithSomePending_55 rfl 2 rfl ?_
              refine j_iconst X (v := (1 : Int32)) d_Gr_hearWithSomePending_56 (by decide) ?_
              refine j_icmp_ne X d_Gr_hearWithSomePending_57 (tgt := 68) (by decide) (fun h => ?_) (fun h => ?_)
              · have hw := hw.1 h
                refine j_aload_n X d_Gr_hearWithSomePending_68 rfl 0 rfl ?_
                refine g_9_1 X f_Gr_18 (v := (σ 9 1)) rfl d_Gr_hearWithSomePending_69 ?_
                refine j_iconst X (v := (2 : Int32)) d_Gr_hearWithSomePending_72 (by decide) ?_
                refine j_icmp_ne X d_Gr_hearWithSomePending_73 (tgt := 80) (by decide) (fun h => ?_) (fun h => ?_)
                · have hw := hw.1 h
                  refine j_aload_n X d_Gr_hearWithSomePending_80 rfl 0 rfl ?_
                  refine j_callVv (As := []) X (c_Gr_resend l D ca ad sz hD hw) (gcV (n := 0) X rfl rfl rfl gc_Gr_resend m_Gr_resend l_Gr_150 (by decide +kernel) ⟨by decide, by decide⟩) (q0 := 9) rfl rfl (fun _ h => h) rfl rfl (Nat.le_of_ble_eq_true rfl) ⟨by decide, by decide⟩ d_Gr_hearWithSomePending_81 (fun u5 hw => ?_)
                  exact j_vret X hlk hr d_Gr_hearWithSomePending_84 hw
                · have hw := hw.2 h
                  refine j_iload_n X d_Gr_hearWithSomePending_76 rfl 3 rfl ?_
                  refine j_if_eq X d_Gr_hearWithSomePending_77 (tgt := 84) (by decide) (fun h => ?_) (fun h => ?_)
                  · have hw := hw.1 h
                    exact j_vret X hlk hr d_Gr_hearWithSomePending_84 hw
                  · have hw := hw.2 h
                    refine j_aload_n X d_Gr_hearWithSomePending_80 rfl 0 rfl ?_
                    refine j_callVv (As := []) X (c_Gr_resend l D ca ad sz hD hw) (gcV (n := 0) X rfl rfl rfl gc_Gr_resend m_Gr_resend l_Gr_150 (by decide +kernel) ⟨by decide, by decide⟩) (q0 := 9) rfl rfl (fun _ h => h) rfl rfl (Nat.le_of_ble_eq_true rfl) ⟨by decide, by decide⟩ d_Gr_hearWithSomePending_81 (fun u6 hw => ?_)
                    exact j_vret X hlk hr d_Gr_hearWithSomePending_84 hw
              · have hw := hw.2 h
                refine j_aload_n X d_Gr_hearWithSomePending_60 rfl 0 rfl ?_
                refine j_iconst X (v := (3 : Int32)) d_Gr_hearWithSomePending_61 (by decide) ?_
                refine p_9_1 X f_Gr_18 d_Gr_hearWithSomePending_62 ?_
                refine j_goto X d_Gr_hearWithSomePending_65 (tgt := 84) (by decide) ?_
                exact j_vret X hlk hr d_Gr_hearWithSomePending_84 hw
            · have hw := hw.2 h
              refine j_aload_n X d_Gr_hearWithSomePending_47 rfl 0 rfl ?_
              refine j_iconst X (v := (1 : Int32)) d_Gr_hearWithSomePending_48 (by decide) ?_
              refine j_callVv (As := [.int (1 : Int32)]) X (c_Gr_alarm l D ca ad sz hD hw) (gcV (n := 1) X rfl rfl rfl gc_Gr_alarm m_Gr_alarm l_Gr_84 (by decide +kernel) ⟨by decide, by decide⟩) (q0 := 9) rfl rfl (fun _ h => h) rfl rfl (Nat.le_of_ble_eq_true rfl) ⟨by decide, by decide⟩ d_Gr_hearWithSomePending_49 (fun u7 hw => ?_)
              refine j_goto X d_Gr_hearWithSomePending_52 (tgt := 84) (by decide) ?_
              exact j_vret X hlk hr d_Gr_hearWithSomePending_84 hw
      · have hw := hw.2 h
        refine j_aload_n X d_Gr_hearWithSomePending_22 rfl 0 rfl ?_
        refine j_iconst X (v := (1 : Int32)) d_Gr_hearWithSomePending_23 (by decide) ?_
        refine p_9_1 X f_Gr_18 d_Gr_hearWithSomePending_24 ?_
        refine j_goto X d_Gr_hearWithSomePending_27 (tgt := 84) (by decide) ?_
        exact j_vret X hlk hr d_Gr_hearWithSomePending_84 hw
    · have hw := hw.2 h
      refine j_iload_n X d_Gr_hearWithSomePending_4 rfl 2 rfl ?_
      refine j_iconst X (v := (1 : Int32)) d_Gr_hearWithSomePending_5 (by decide) ?_
      refine j_icmp_ne X d_Gr_hearWithSomePending_6 (tgt := 18) (by decide) (fun h => ?_) (fun h => ?_)
      · have hw := hw.1 h
        refine j_iload_n X d_Gr_hearWithSomePending_18 rfl 1 rfl ?_
        refine j_if_ne X d_Gr_hearWithSomePending_19 (tgt := 30) (by decide) (fun h => ?_) (fun h => ?_)
        · have hw := hw.1 h
          refine j_iload_n X d_Gr_hearWithSomePending_30 rfl 2 rfl ?_
          refine j_iconst X (v := (1 : Int32)) d_Gr_hearWithSomePending_31 (by decide) ?_
          refine j_icmp_ne X d_Gr_hearWithSomePending_32 (tgt := 55) (by decide) (fun h => ?_) (fun h => ?_)
          · have hw := hw.1 h
            refine j_iload_n X d_Gr_hearWithSomePending_55 rfl 2 rfl ?_
            refine j_iconst X (v := (1 : Int32)) d_Gr_hearWithSomePending_56 (by decide) ?_
            refine j_icmp_ne X d_Gr_hearWithSomePending_57 (tgt := 68) (by decide) (fun h => ?_) (fun h => ?_)
            · have hw := hw.1 h
              refine j_aload_n X d_Gr_hearWithSomePending_68 rfl 0 rfl ?_
              refine g_9_1 X f_Gr_18 (v := (σ 9 1)) rfl d_Gr_hearWithSomePending_69 ?_
              refine j_iconst X (v := (2 : Int32)) d_Gr_hearWithSomePending_72 (by decide) ?_
              refine j_icmp_ne X d_Gr_hearWithSomePending_73 (tgt := 80) (by decide) (fun h => ?_) (fun h => ?_)
              · have hw := hw.1 h
                refine j_aload_n X d_Gr_hearWithSomePending_80 rfl 0 rfl ?_
                refine j_callVv (As := []) X (c_Gr_resend l D ca ad sz hD hw) (gcV (n := 0) X rfl rfl rfl gc_Gr_resend m_Gr_resend l_Gr_150 (by decide +kernel) ⟨by decide, by decide⟩) (q0 := 9) rfl rfl (fun _ h => h) rfl rfl (Nat.le_of_ble_eq_true rfl) ⟨by decide, by decide⟩ d_Gr_hearWithSomePending_81 (fun u8 hw => ?_)
                exact j_vret X hlk hr d_Gr_hearWithSomePending_84 hw
              · have hw := hw.2 h
                refine j_iload_n X d_Gr_hearWithSomePending_76 rfl 3 rfl ?_
                refine j_if_eq X d_Gr_hearWithSomePending_77 (tgt := 84) (by decide) (fun h => ?_) (fun h => ?_)
                · have hw := hw.1 h
                  exact j_vret X hlk hr d_Gr_hearWithSomePending_84 hw
                · have hw := hw.2 h
                  refine j_aload_n X d_Gr_hearWithSomePending_80 rfl 0 rfl ?_
                  refine j_callVv (As := []) X (c_Gr_resend l D ca ad sz hD hw) (gcV (n := 0) X rfl rfl rfl gc_Gr_resend m_Gr_resend l_Gr_150 (by decide +kernel) ⟨by decide, by decide⟩) (q0 := 9) rfl rfl (fun _ h => h) rfl rfl (Nat.le_of_ble_eq_true rfl) ⟨by decide, by decide⟩ d_Gr_hearWithSomePending_81 (fun u9 hw => ?_)
                  exact j_vret X hlk hr d_Gr_hearWithSomePending_84 hw
            · have hw := hw.2 h
              refine j_aload_n X d_Gr_hearWithSomePending_60 rfl 0 rfl ?_
              refine j_iconst X (v := (3 : Int32)) d_Gr_hearWithSomePending_61 (by decide) ?_
              refine p_9_1 X f_Gr_18 d_Gr_hearWithSomePending_62 ?_
              refine j_goto X d_Gr_hearWithSomePending_65 (tgt := 84) (by decide) ?_
              exact j_vret X hlk hr d_Gr_hearWithSomePending_84 hw
          · have hw := hw.2 h
            refine j_aload_n X d_Gr_hearWithSomePending_35 rfl 0 rfl ?_
            refine g_9_10 X f_Gr_25 (v := (σ 9 10)) rfl d_Gr_hearWithSomePending_36 ?_
            refine j_iconst X (v := (1 : Int32)) d_Gr_hearWithSomePending_39 (by decide) ?_
            refine j_icmp_ne X d_Gr_hearWithSomePending_40 (tgt := 55) (by decide) (fun h => ?_) (fun h => ?_)
            · have hw := hw.1 h
              refine j_iload_n X d_Gr_hearWithSomePending_55 rfl 2 rfl ?_
              refine j_iconst X (v := (1 : Int32)) d_Gr_hearWithSomePending_56 (by decide) ?_
              refine j_icmp_ne X d_Gr_hearWithSomePending_57 (tgt := 68) (by decide) (fun h => ?_) (fun h => ?_)
              · have hw := hw.1 h
                refine j_aload_n X d_Gr_hearWithSomePending_68 rfl 0 rfl ?_
                refine g_9_1 X f_Gr_18 (v := (σ 9 1)) rfl d_Gr_hearWithSomePending_69 ?_
                refine j_iconst X (v := (2 : Int32)) d_Gr_hearWithSomePending_72 (by decide) ?_
                refine j_icmp_ne X d_Gr_hearWithSomePending_73 (tgt := 80) (by decide) (fun h => ?_) (fun h => ?_)
                · have hw := hw.1 h
                  refine j_aload_n X d_Gr_hearWithSomePending_80 rfl 0 rfl ?_
                  refine j_callVv (As := []) X (c_Gr_resend l D ca ad sz hD hw) (gcV (n := 0) X rfl rfl rfl gc_Gr_resend m_Gr_resend l_Gr_150 (by decide +kernel) ⟨by decide, by decide⟩) (q0 := 9) rfl rfl (fun _ h => h) rfl rfl (Nat.le_of_ble_eq_true rfl) ⟨by decide, by decide⟩ d_Gr_hearWithSomePending_81 (fun u10 hw => ?_)
                  exact j_vret X hlk hr d_Gr_hearWithSomePending_84 hw
                · have hw := hw.2 h
                  refine j_iload_n X d_Gr_hearWithSomePending_76 rfl 3 rfl ?_
                  refine j_if_eq X d_Gr_hearWithSomePending_77 (tgt := 84) (by decide) (fun h => ?_) (fun h => ?_)
                  · have hw := hw.1 h
                    exact j_vret X hlk hr d_Gr_hearWithSomePending_84 hw
                  · have hw := hw.2 h
                    refine j_aload_n X d_Gr_hearWithSomePending_80 rfl 0 rfl ?_
                    refine j_callVv (As := []) X (c_Gr_resend l D ca ad sz hD hw) (gcV (n := 0) X rfl rfl rfl gc_Gr_resend m_Gr_resend l_Gr_150 (by decide +kernel) ⟨by decide, by decide⟩) (q0 := 9) rfl rfl (fun _ h => h) rfl rfl (Nat.le_of_ble_eq_true rfl) ⟨by decide, by decide⟩ d_Gr_hearWithSomePending_81 (fun u11 hw => ?_)
                    exact j_vret X hlk hr d_Gr_hearWithSomePending_84 hw
              · have hw := hw.2 h
                refine j_aload_n X d_Gr_hearWithSomePending_60 rfl 0 rfl ?_
                refine j_iconst X (v := (3 : Int32)) d_Gr_hearWithSomePending_61 (by decide) ?_
                refine p_9_1 X f_Gr_18 d_Gr_hearWithSomePending_62 ?_
                refine j_goto X d_Gr_hearWithSomePending_65 (tgt := 84) (by decide) ?_
                exact j_vret X hlk hr d_Gr_hearWithSomePending_84 hw
            · have hw := hw.2 h
              refine j_iload_n X d_Gr_hearWithSomePending_43 rfl 3 rfl ?_
              refine j_if_eq X d_Gr_hearWithSomePending_44 (tgt := 55) (by decide) (fun h => ?_) (fun h => ?_)
              · have hw := hw.1 h
                refine j_iload_n X d_Gr_hearWithSomePending_55 rfl 2 rfl ?_
                refine j_iconst X (v := (1 : Int32)) d_Gr_hearWithSomePending_56 (by decide) ?_
                refine j_icmp_ne X d_Gr_hearWithSomePending_57 (tgt := 68) (by decide) (fun h => ?_) (fun h => ?_)
                · have hw := hw.1 h
                  refine j_aload_n X d_Gr_hearWithSomePending_68 rfl 0 rfl ?_
                  refine g_9_1 X f_Gr_18 (v := (σ 9 1)) rfl d_Gr_hearWithSomePending_69 ?_
                  refine j_iconst X (v := (2 : Int32)) d_Gr_hearWithSomePending_72 (by decide) ?_
                  refine j_icmp_ne X d_Gr_hearWithSomePending_73 (tgt := 80) (by decide) (fun h => ?_) (fun h => ?_)
                  · have hw := hw.1 h
                    refine j_aload_n X d_Gr_hearWithSomePending_80 rfl 0 rfl ?_
                    refine j_callVv (As := []) X (c_Gr_resend l D ca ad sz hD hw) (gcV (n := 0) X rfl rfl rfl gc_Gr_resend m_Gr_resend l_Gr_150 (by decide +kernel) ⟨by decide, by decide⟩) (q0 := 9) rfl rfl (fun _ h => h) rfl rfl (Nat.le_of_ble_eq_true rfl) ⟨by decide, by decide⟩ d_Gr_hearWithSomePending_81 (fun u12 hw => ?_)
                    exact j_vret X hlk hr d_Gr_hearWithSomePending_84 hw
                  · have hw := hw.2 h
                    refine j_iload_n X d_Gr_hearWithSomePending_76 rfl 3 rfl ?_
                    refine j_if_eq X d_Gr_hearWithSomePending_77 (tgt := 84) (by decide) (fun h => ?_) (fun h => ?_)
                    · have hw := hw.1 h
                      exact j_vret X hlk hr d_Gr_hearWithSomePending_84 hw
                    · have hw := hw.2 h
                      refine j_aload_n X d_Gr_hearWithSomePending_80 rfl 0 rfl ?_
                      refine j_callVv (As := []) X (c_Gr_resend l D ca ad sz hD hw) (gcV (n := 0) X rfl rfl rfl gc_Gr_resend m_Gr_resend l_Gr_150 (by decide +kernel) ⟨by decide, by decide⟩) (q0 := 9) rfl rfl (fun _ h => h) rfl rfl (Nat.le_of_ble_eq_true rfl) ⟨by decide, by decide⟩ d_Gr_hearWithSomePending_81 (fun u13 hw => ?_)
                      exact j_vret X hlk hr d_Gr_hearWithSomePending_84 hw
                · have hw := hw.2 h
                  refine j_aload_n X d_Gr_hearWithSomePending_60 rfl 0 rfl ?_
                  refine j_iconst X (v := (3 : Int32)) d_Gr_hearWithSomePending_61 (by decide) ?_
                  refine p_9_1 X f_Gr_18 d_Gr_hearWithSomePending_62 ?_
                  refine j_goto X d_Gr_hearWithSomePending_65 (tgt := 84) (by decide) ?_
                  exact j_vret X hlk hr d_Gr_hearWithSomePending_84 hw
              · have hw := hw.2 h
                refine j_aload_n X d_Gr_hearWithSomePending_47 rfl 0 rfl ?_
                refine j_iconst X (v := (1 : Int32)) d_Gr_hearWithSomePending_48 (by decide) ?_
                refine j_callVv (As := [.int (1 : Int32)]) X (c_Gr_alarm l D ca ad sz hD hw) (gcV (n := 1) X rfl rfl rfl gc_Gr_alarm m_Gr_alarm l_Gr_84 (by decide +kernel) ⟨by decide, by decide⟩) (q0 := 9) rfl rfl (fun _ h => h) rfl rfl (Nat.le_of_ble_eq_true rfl) ⟨by decide, by decide⟩ d_Gr_hearWithSomePending_49 (fun u14 hw => ?_)
                refine j_goto X d_Gr_hearWithSomePending_52 (tgt := 84) (by decide) ?_
                exact j_vret X hlk hr d_Gr_hearWithSomePending_84 hw
        · have hw := hw.2 h
          refine j_aload_n X d_Gr_hearWithSomePending_22 rfl 0 rfl ?_
          refine j_iconst X (v := (1 : Int32)) d_Gr_hearWithSomePending_23 (by decide) ?_
          refine p_9_1 X f_Gr_18 d_Gr_hearWithSomePending_24 ?_
          refine j_goto X d_Gr_hearWithSomePending_27 (tgt := 84) (by decide) ?_
          exact j_vret X hlk hr d_Gr_hearWithSomePending_84 hw
      · have hw := hw.2 h
        refine j_aload_n X d_Gr_hearWithSomePending_9 rfl 0 rfl ?_
        refine j_bipush X (v := (6 : Int32)) d_Gr_hearWithSomePending_10 (by decide) ?_
        refine j_callVv (As := [.int (6 : Int32)]) X (c_Gr_alarm l D ca ad sz hD hw) (gcV (n := 1) X rfl rfl rfl gc_Gr_alarm m_Gr_alarm l_Gr_84 (by decide +kernel) ⟨by decide, by decide⟩) (q0 := 9) rfl rfl (fun _ h => h) rfl rfl (Nat.le_of_ble_eq_true rfl) ⟨by decide, by decide⟩ d_Gr_hearWithSomePending_12 (fun u15 hw => ?_)
        refine j_goto X d_Gr_hearWithSomePending_15 (tgt := 84) (by decide) ?_
        exact j_vret X hlk hr d_Gr_hearWithSomePending_84 hw
  exact hX
def w_Gr_hearWithNonePending (a1 : Int32) (a2 : Int32) (σ : Jst) (K : Jst → Prop) : Prop := ((a1 = (0 : Int32) → ((¬ a2 = (1 : Int32) → K (jup (jup σ 9 1 (1 : Int32)) 9 7 (0 : Int32))) ∧ (a2 = (1 : Int32) → w_Gr_alarm (6 : Int32) σ (fun u1 => K u1)))) ∧ (¬ a1 = (0 : Int32) → w_Gr_alarm (3 : Int32) σ (fun u2 => K u2)))
abbrev rm_Gr_hearWithNonePending : Room := { frames := 3, cells := 0, slots := 0, locals := 61 }
set_option maxRecDepth 100000 in
set_option maxHeartbeats 4000000 in
theorem c_Gr_hearWithNonePending (l : Launch) (D : va_G) (ca ad : Nat → Nat) (sz : Nat) (hD : Jd ca ad sz) {a1 a2 : Int32} {σ : Jst} {K : Jst → Prop} (hw : w_Gr_hearWithNonePending a1 a2 σ K) : Met l y_Gr_hearWithNonePending (wG y_Gr_hearWithNonePending b_Gr_hearWithNonePending 3 none) rm_Gr_hearWithNonePending (va_Pc [.ref (ad 9), .int a1, .int a2] (Jw D vwCl (tysT ca) (wlT ad ca) (NwT sz) σ)) (va_Qv K (Jq D vwCl (wlT ad ca)) (Aw sz)) 0 0 (Aw sz) := by
  refine j_met (cc := b_Gr_hearWithNonePending) (own := R_Gr) (by decide +kernel) rfl (Nat.le_of_ble_eq_true rfl) rfl hD (nwT_k sz) ?_
  intro p e s m args below meth c X hlk hr
  have hX : J p l e rm_Gr_hearWithNonePending s m args below meth c D vwCl (wlT ad ca) (Aw sz) 3 0 0 (MQ below (va_Qv K (Jq D vwCl (wlT ad ca)) (Aw sz)) args s 0 0 (Aw sz)) 0 [(0, .ref (ad 9)), (1, .int a1), (2, .int a2)] [] σ := by
    unfold w_Gr_hearWithNonePending at hw
    refine j_iload_n X d_Gr_hearWithNonePending_0 rfl 1 rfl ?_
    refine j_if_eq X d_Gr_hearWithNonePending_1 (tgt := 12) (by decide) (fun h => ?_) (fun h => ?_)
    · have hw := hw.1 h
      refine j_iload_n X d_Gr_hearWithNonePending_12 rfl 2 rfl ?_
      refine j_iconst X (v := (1 : Int32)) d_Gr_hearWithNonePending_13 (by decide) ?_
      refine j_icmp_ne X d_Gr_hearWithNonePending_14 (tgt := 26) (by decide) (fun h => ?_) (fun h => ?_)
      · have hw := hw.1 h
        refine j_aload_n X d_Gr_hearWithNonePending_26 rfl 0 rfl ?_
        refine j_iconst X (v := (1 : Int32)) d_Gr_hearWithNonePending_27 (by decide) ?_
        refine p_9_1 X f_Gr_18 d_Gr_hearWithNonePending_28 ?_
        refine j_aload_n X d_Gr_hearWithNonePending_31 rfl 0 rfl ?_
        refine j_iconst X (v := (0 : Int32)) d_Gr_hearWithNonePending_32 (by decide) ?_
        refine p_9_7 X f_Gr_47 d_Gr_hearWithNonePending_33 ?_
        exact j_vret X hlk hr d_Gr_hearWithNonePending_36 hw
      · have hw := hw.2 h
        refine j_aload_n X d_Gr_hearWithNonePending_17 rfl 0 rfl ?_
        refine j_bipush X (v := (6 : Int32)) d_Gr_hearWithNonePending_18 (by decide) ?_
        refine j_callVv (As := [.int (6 : Int32)]) X (c_Gr_alarm l D ca ad sz hD hw) (gcV (n := 1) X rfl rfl rfl gc_Gr_alarm m_Gr_alarm l_Gr_84 (by decide +kernel) ⟨by decide, by decide⟩) (q0 := 9) rfl rfl (fun _ h => h) rfl rfl (Nat.le_of_ble_eq_true rfl) ⟨by decide, by decide⟩ d_Gr_hearWithNonePending_20 (fun u1 hw => ?_)
        refine j_goto X d_Gr_hearWithNonePending_23 (tgt := 36) (by decide) ?_
        exact j_vret X hlk hr d_Gr_hearWithNonePending_36 hw
    · have hw := hw.2 h
      refine j_aload_n X d_Gr_hearWithNonePending_4 rfl 0 rfl ?_
      refine j_iconst X (v := (3 : Int32)) d_Gr_hearWithNonePending_5 (by decide) ?_
      refine j_callVv (As := [.int (3 : Int32)]) X (c_Gr_alarm l D ca ad sz hD hw) (gcV (n := 1) X rfl rfl rfl gc_Gr_alarm m_Gr_alarm l_Gr_84 (by decide +kernel) ⟨by decide, by decide⟩) (q0 := 9) rfl rfl (fun _ h => h) rfl rfl (Nat.le_of_ble_eq_true rfl) ⟨by decide, by decide⟩ d_Gr_hearWithNonePending_6 (fun u2 hw => ?_)
      refine j_goto X d_Gr_hearWithNonePending_9 (tgt := 36) (by decide) ?_
      exact j_vret X hlk hr d_Gr_hearWithNonePending_36 hw
  exact hX
def w_Gr_hearAtStart (a1 : Int32) (a2 : Int32) (a3 : Int32) (σ : Jst) (K : Jst → Prop) : Prop := ((¬ a3 = (0 : Int32) → K σ) ∧ (a3 = (0 : Int32) → ((¬ a2 = (0 : Int32) → K σ) ∧ (a2 = (0 : Int32) → ((¬ a1 = (σ 9 2) → K σ) ∧ (a1 = (σ 9 2) → K (jup (jup (jup σ 9 1 (1 : Int32)) 9 6 (1 : Int32)) 9 7 (0 : Int32))))))))
abbrev rm_Gr_hearAtStart : Room := { frames := 0, cells := 0, slots := 0, locals := 0 }
set_option maxRecDepth 100000 in
set_option maxHeartbeats 4000000 in
theorem c_Gr_hearAtStart (l : Launch) (D : va_G) (ca ad : Nat → Nat) (sz : Nat) (hD : Jd ca ad sz) {a1 a2 a3 : Int32} {σ : Jst} {K : Jst → Prop} (hw : w_Gr_hearAtStart a1 a2 a3 σ K) : Met l y_Gr_hearAtStart (wG y_Gr_hearAtStart b_Gr_hearAtStart 4 none) rm_Gr_hearAtStart (va_Pc [.ref (ad 9), .int a1, .int a2, .int a3] (Jw D vwCl (tysT ca) (wlT ad ca) (NwT sz) σ)) (va_Qv K (Jq D vwCl (wlT ad ca)) (Aw sz)) 0 0 (Aw sz) := by
  refine j_met (cc := b_Gr_hearAtStart) (own := R_Gr) (by decide +kernel) rfl (Nat.le_of_ble_eq_true rfl) rfl hD (nwT_k sz) ?_
  intro p e s m args below meth c X hlk hr
  have hX : J p l e rm_Gr_hearAtStart s m args below meth c D vwCl (wlT ad ca) (Aw sz) 4 0 0 (MQ below (va_Qv K (Jq D vwCl (wlT ad ca)) (Aw sz)) args s 0 0 (Aw sz)) 0 [(0, .ref (ad 9)), (1, .int a1), (2, .int a2), (3, .int a3)] [] σ := by
    unfold w_Gr_hearAtStart at hw
    refine j_iload_n X d_Gr_hearAtStart_0 rfl 3 rfl ?_
    refine j_if_ne X d_Gr_hearAtStart_1 (tgt := 31) (by decide) (fun h => ?_) (fun h => ?_)
    · have hw := hw.1 h
      exact j_vret X hlk hr d_Gr_hearAtStart_31 hw
    · have hw := hw.2 h
      refine j_iload_n X d_Gr_hearAtStart_4 rfl 2 rfl ?_
      refine j_if_ne X d_Gr_hearAtStart_5 (tgt := 31) (by decide) (fun h => ?_) (fun h => ?_)
      · have hw := hw.1 h
        exact j_vret X hlk hr d_Gr_hearAtStart_31 hw
      · have hw := hw.2 h
        refine j_iload_n X d_Gr_hearAtStart_8 rfl 1 rfl ?_
        refine j_aload_n X d_Gr_hearAtStart_9 rfl 0 rfl ?_
        refine g_9_2 X f_Gr_35 (v := (σ 9 2)) rfl d_Gr_hearAtStart_10 ?_
        refine j_icmp_ne X d_Gr_hearAtStart_13 (tgt := 31) (by decide) (fun h => ?_) (fun h => ?_)
        · have hw := hw.1 h
          exact j_vret X hlk hr d_Gr_hearAtStart_31 hw
        · have hw := hw.2 h
          refine j_aload_n X d_Gr_hearAtStart_16 rfl 0 rfl ?_
          refine j_iconst X (v := (1 : Int32)) d_Gr_hearAtStart_17 (by decide) ?_
          refine p_9_1 X f_Gr_18 d_Gr_hearAtStart_18 ?_
          refine j_aload_n X d_Gr_hearAtStart_21 rfl 0 rfl ?_
          refine j_iconst X (v := (1 : Int32)) d_Gr_hearAtStart_22 (by decide) ?_
          refine p_9_6 X f_Gr_41 d_Gr_hearAtStart_23 ?_
          refine j_aload_n X d_Gr_hearAtStart_26 rfl 0 rfl ?_
          refine j_iconst X (v := (0 : Int32)) d_Gr_hearAtStart_27 (by decide) ?_
          refine p_9_7 X f_Gr_47 d_Gr_hearAtStart_28 ?_
          exact j_vret X hlk hr d_Gr_hearAtStart_31 hw
  exact hX
def w_Gr_hear (a1 : Int32) (a2 : Int32) (a3 : Int32) (σ : Jst) (K : Jst → Prop) : Prop := ((¬ (σ 9 1) = (0 : Int32) → ((¬ (σ 9 1) = (5 : Int32) → w_T_distance (σ 9 3) a1 σ (fun r2 u1 => ((¬ a3 = (2 : Int32) → w_Un_size u1 (fun r4 u3 => ((r2 ≤ r4 → w_Gr_acknowledge r2 a1 u3 (fun u5 => w_Un_size u5 (fun r7 u6 => ((¬ r7 = (0 : Int32) → ((r2 ≤ (0 : Int32) → w_Gr_hearWithSomePending a2 a3 (0 : Int32) u6 (fun u8 => K u8)) ∧ (¬ r2 ≤ (0 : Int32) → w_Gr_hearWithSomePending a2 a3 (1 : Int32) u6 (fun u9 => K u9)))) ∧ (r7 = (0 : Int32) → w_Gr_hearWithNonePending a2 a3 u6 (fun u10 => K u10)))))) ∧ (¬ r2 ≤ r4 → w_Gr_alarm (4 : Int32) u3 (fun u11 => K u11))))) ∧ (a3 = (2 : Int32) → w_Gr_alarm (2 : Int32) u1 (fun u12 => K u12))))) ∧ ((σ 9 1) = (5 : Int32) → w_Gr_hearAtStart a1 a2 a3 σ (fun u13 => K u13)))) ∧ ((σ 9 1) = (0 : Int32) → K σ))
abbrev rm_Gr_hear : Room := { frames := 5, cells := 0, slots := 0, locals := 104 }
set_option maxRecDepth 100000 in
set_option maxHeartbeats 4000000 in
theorem c_Gr_hear (l : Launch) (D : va_G) (ca ad : Nat → Nat) (sz : Nat) (hD : Jd ca ad sz) {a1 a2 a3 : Int32} {σ : Jst} {K : Jst → Prop} (hw : w_Gr_hear a1 a2 a3 σ K) : Met l y_Gr_hear (wG y_Gr_hear b_Gr_hear 5 none) rm_Gr_hear (va_Pc [.ref (ad 9), .int a1, .int a2, .int a3] (Jw D vwCl (tysT ca) (wlT ad ca) (NwT sz) σ)) (va_Qv K (Jq D vwCl (wlT ad ca)) (Aw sz)) 0 0 (Aw sz) := by
  refine j_met (cc := b_Gr_hear) (own := R_Gr) (by decide +kernel) rfl (Nat.le_of_ble_eq_true rfl) rfl hD (nwT_k sz) ?_
  intro p e s m args below meth c X hlk hr
  have hX : J p l e rm_Gr_hear s m args below meth c D vwCl (wlT ad ca) (Aw sz) 5 0 0 (MQ below (va_Qv K (Jq D vwCl (wlT ad ca)) (Aw sz)) args s 0 0 (Aw sz)) 0 [(0, .ref (ad 9)), (1, .int a1), (2, .int a2), (3, .int a3)] [] σ := by
    unfold w_Gr_hear at hw
    refine j_aload_n X d_Gr_hear_0 rfl 0 rfl ?_
    refine g_9_1 X f_Gr_18 (v := (σ 9 1)) rfl d_Gr_hear_1 ?_
    refine j_if_ne X d_Gr_hear_4 (tgt := 8) (by decide) (fun h => ?_) (fun h => ?_)
    · have hw := hw.1 h
      refine j_aload_n X d_Gr_hear_8 rfl 0 rfl ?_
      refine g_9_1 X f_Gr_18 (v := (σ 9 1)) rfl d_Gr_hear_9 ?_
      refine j_iconst X (v := (5 : Int32)) d_Gr_hear_12 (by decide) ?_
      refine j_icmp_ne X d_Gr_hear_13 (tgt := 24) (by decide) (fun h => ?_) (fun h => ?_)
      · have hw := hw.1 h
        refine j_aload_n X d_Gr_hear_24 rfl 0 rfl ?_
        refine g_9_3 X f_Gr_38 (v := (σ 9 3)) rfl d_Gr_hear_25 ?_
        refine j_iload_n X d_Gr_hear_28 rfl 1 rfl ?_
        refine j_callSNi (As := [.int (σ 9 3), .int a1]) X (c_T_distance l D ca ad sz hD hw) (gcSN (n := 2) X rfl rfl rfl gc_T_distance m_T_distance (n_Gr_80 sz) (by decide +kernel) ⟨by decide, by decide⟩) (fun _ h => h) rfl rfl (Nat.le_of_ble_eq_true rfl) ⟨by decide, by decide⟩ d_Gr_hear_29 (fun r2 u1 hw => ?_)
        refine j_istore X d_Gr_hear_32 (by decide) rfl ?_
        refine j_iload_n X d_Gr_hear_34 rfl 4 rfl ?_
        refine j_iconst X (v := (2 : Int32)) d_Gr_hear_35 (by decide) ?_
        refine j_icmp_ne X d_Gr_hear_36 (tgt := 47) (by decide) (fun h => ?_) (fun h => ?_)
        · have hw := hw.1 h
          refine j_iload X d_Gr_hear_47 0 rfl ?_
          refine j_aload_n X d_Gr_hear_49 rfl 1 rfl ?_
          refine g_9_0 X f_Gr_12 d_Gr_hear_50 ?_
          refine j_callVi (As := []) X (c_Un_size l D ca ad sz hD hw) (gcV (n := 0) X rfl rfl rfl gc_Un_size m_Un_size l_Gr_88 (by decide +kernel) ⟨by decide, by decide⟩) (q0 := 10) rfl rfl (fun _ h => h) rfl rfl (Nat.le_of_ble_eq_true rfl) ⟨by decide, by decide⟩ d_Gr_hear_53 (fun r4 u3 hw => ?_)
          refine j_icmp_le X d_Gr_hear_56 (tgt := 67) (by decide) (fun h => ?_) (fun h => ?_)
          · have hw := hw.1 h
            refine j_aload_n X d_Gr_hear_67 rfl 1 rfl ?_
            refine j_iload X d_Gr_hear_68 0 rfl ?_
            refine j_iload_n X d_Gr_hear_70 rfl 2 rfl ?_
            refine j_callVv (As := [.int r2, .int a1]) X (c_Gr_acknowledge l D ca ad sz hD hw) (gcV (n := 2) X rfl rfl rfl gc_Gr_acknowledge m_Gr_acknowledge l_Gr_92 (by decide +kernel) ⟨by decide, by decide⟩) (q0 := 9) rfl rfl (fun _ h => h) rfl rfl (Nat.le_of_ble_eq_true rfl) ⟨by decide, by decide⟩ d_Gr_hear_71 (fun u5 hw => ?_)
            refine j_aload_n X d_Gr_hear_74 rfl 1 rfl ?_
            refine g_9_0 X f_Gr_12 d_Gr_hear_75 ?_
            refine j_callVi (As := []) X (c_Un_size l D ca ad sz hD hw) (gcV (n := 0) X rfl rfl rfl gc_Un_size m_Un_size l_Gr_88 (by decide +kernel) ⟨by decide, by decide⟩) (q0 := 10) rfl rfl (fun _ h => h) rfl rfl (Nat.le_of_ble_eq_true rfl) ⟨by decide, by decide⟩ d_Gr_hear_78 (fun r7 u6 hw => ?_)
            refine j_if_ne X d_Gr_hear_81 (tgt := 93) (by decide) (fun h => ?_) (fun h => ?_)
            · have hw := hw.1 h
              refine j_aload_n X d_Gr_hear_93 rfl 1 rfl ?_
              refine j_iload_n X d_Gr_hear_94 rfl 3 rfl ?_
              refine j_iload_n X d_Gr_hear_95 rfl 4 rfl ?_
              refine j_iload X d_Gr_hear_96 0 rfl ?_
              refine j_if_le X d_Gr_hear_98 (tgt := 105) (by decide) (fun h => ?_) (fun h => ?_)
              · have hw := hw.1 h
                refine j_iconst X (v := (0 : Int32)) d_Gr_hear_105 (by decide) ?_
                refine j_callVv (As := [.int a2, .int a3, .int (0 : Int32)]) X (c_Gr_hearWithSomePending l D ca ad sz hD hw) (gcV (n := 3) X rfl rfl rfl gc_Gr_hearWithSomePending m_Gr_hearWithSomePending l_Gr_100 (by decide +kernel) ⟨by decide, by decide⟩) (q0 := 9) rfl rfl (fun _ h => h) rfl rfl (Nat.le_of_ble_eq_true rfl) ⟨by decide, by decide⟩ d_Gr_hear_106 (fun u8 hw => ?_)
                exact j_vret X hlk hr d_Gr_hear_109 hw
              · have hw := hw.2 h
                refine j_iconst X (v := (1 : Int32)) d_Gr_hear_101 (by decide) ?_
                refine j_goto X d_Gr_hear_102 (tgt := 106) (by decide) ?_
                refine j_callVv (As := [.int a2, .int a3, .int (1 : Int32)]) X (c_Gr_hearWithSomePending l D ca ad sz hD hw) (gcV (n := 3) X rfl rfl rfl gc_Gr_hearWithSomePending m_Gr_hearWithSomePending l_Gr_100 (by decide +kernel) ⟨by decide, by decide⟩) (q0 := 9) rfl rfl (fun _ h => h) rfl rfl (Nat.le_of_ble_eq_true rfl) ⟨by decide, by decide⟩ d_Gr_hear_106 (fun u9 hw => ?_)
                exact j_vret X hlk hr d_Gr_hear_109 hw
            · have hw := hw.2 h
              refine j_aload_n X d_Gr_hear_84 rfl 1 rfl ?_
              refine j_iload_n X d_Gr_hear_85 rfl 3 rfl ?_
              refine j_iload_n X d_Gr_hear_86 rfl 4 rfl ?_
              refine j_callVv (As := [.int a2, .int a3]) X (c_Gr_hearWithNonePending l D ca ad sz hD hw) (gcV (n := 2) X rfl rfl rfl gc_Gr_hearWithNonePending m_Gr_hearWithNonePending l_Gr_96 (by decide +kernel) ⟨by decide, by decide⟩) (q0 := 9) rfl rfl (fun _ h => h) rfl rfl (Nat.le_of_ble_eq_true rfl) ⟨by decide, by decide⟩ d_Gr_hear_87 (fun u10 hw => ?_)
              refine j_goto X d_Gr_hear_90 (tgt := 109) (by decide) ?_
              exact j_vret X hlk hr d_Gr_hear_109 hw
          · have hw := hw.2 h
            refine j_aload_n X d_Gr_hear_59 rfl 1 rfl ?_
            refine j_iconst X (v := (4 : Int32)) d_Gr_hear_60 (by decide) ?_
            refine j_callVv (As := [.int (4 : Int32)]) X (c_Gr_alarm l D ca ad sz hD hw) (gcV (n := 1) X rfl rfl rfl gc_Gr_alarm m_Gr_alarm l_Gr_84 (by decide +kernel) ⟨by decide, by decide⟩) (q0 := 9) rfl rfl (fun _ h => h) rfl rfl (Nat.le_of_ble_eq_true rfl) ⟨by decide, by decide⟩ d_Gr_hear_61 (fun u11 hw => ?_)
            refine j_goto X d_Gr_hear_64 (tgt := 109) (by decide) ?_
            exact j_vret X hlk hr d_Gr_hear_109 hw
        · have hw := hw.2 h
          refine j_aload_n X d_Gr_hear_39 rfl 1 rfl ?_
          refine j_iconst X (v := (2 : Int32)) d_Gr_hear_40 (by decide) ?_
          refine j_callVv (As := [.int (2 : Int32)]) X (c_Gr_alarm l D ca ad sz hD hw) (gcV (n := 1) X rfl rfl rfl gc_Gr_alarm m_Gr_alarm l_Gr_84 (by decide +kernel) ⟨by decide, by decide⟩) (q0 := 9) rfl rfl (fun _ h => h) rfl rfl (Nat.le_of_ble_eq_true rfl) ⟨by decide, by decide⟩ d_Gr_hear_41 (fun u12 hw => ?_)
          refine j_goto X d_Gr_hear_44 (tgt := 109) (by decide) ?_
          exact j_vret X hlk hr d_Gr_hear_109 hw
      · have hw := hw.2 h
        refine j_aload_n X d_Gr_hear_16 rfl 0 rfl ?_
        refine j_iload_n X d_Gr_hear_17 rfl 1 rfl ?_
        refine j_iload_n X d_Gr_hear_18 rfl 2 rfl ?_
        refine j_iload_n X d_Gr_hear_19 rfl 3 rfl ?_
        refine j_callVv (As := [.int a1, .int a2, .int a3]) X (c_Gr_hearAtStart l D ca ad sz hD hw) (gcV (n := 3) X rfl rfl rfl gc_Gr_hearAtStart m_Gr_hearAtStart l_Gr_76 (by decide +kernel) ⟨by decide, by decide⟩) (q0 := 9) rfl rfl (fun _ h => h) rfl rfl (Nat.le_of_ble_eq_true rfl) ⟨by decide, by decide⟩ d_Gr_hear_20 (fun u13 hw => ?_)
        exact j_vret X hlk hr d_Gr_hear_23 hw
    · have hw := hw.2 h
      exact j_vret X hlk hr d_Gr_hear_7 hw
  exact hX
def w_Gr_tell (a1 : Int32) (σ : Jst) (K : Int32 → Jst → Prop) : Prop := ((a1 = (0 : Int32) → K (σ 9 1) σ) ∧ ((a1 = (1 : Int32) → K (σ 9 2) σ) ∧ ((a1 = (2 : Int32) → K (σ 9 3) σ) ∧ ((a1 = (3 : Int32) → w_Un_size σ (fun r2 u1 => K r2 u1)) ∧ ((a1 = (4 : Int32) → w_Un_countMarked σ (fun r4 u3 => K r4 u3)) ∧ ((a1 = (5 : Int32) → (((σ 9 4) = (0 : Int32) → K (0 : Int32) σ) ∧ (¬ (σ 9 4) = (0 : Int32) → K (1 : Int32) σ))) ∧ ((a1 = (6 : Int32) → K (σ 9 6) σ) ∧ ((a1 = (7 : Int32) → K (σ 9 7) σ) ∧ ((Int32.toInt a1 < 0 ∨ 7 < Int32.toInt a1) → K (σ 9 8) σ)))))))))
abbrev rm_Gr_tell : Room := { frames := 1, cells := 0, slots := 0, locals := 22 }
set_option maxRecDepth 100000 in
set_option maxHeartbeats 4000000 in
theorem c_Gr_tell (l : Launch) (D : va_G) (ca ad : Nat → Nat) (sz : Nat) (hD : Jd ca ad sz) {a1 : Int32} {σ : Jst} {K : Int32 → Jst → Prop} (hw : w_Gr_tell a1 σ K) : Met l y_Gr_tell (wG y_Gr_tell b_Gr_tell 2 (some .int)) rm_Gr_tell (va_Pc [.ref (ad 9), .int a1] (Jw D vwCl (tysT ca) (wlT ad ca) (NwT sz) σ)) (va_Qi K (Jq D vwCl (wlT ad ca)) (Aw sz)) 0 0 (Aw sz) := by
  refine j_met (cc := b_Gr_tell) (own := R_Gr) (by decide +kernel) rfl (Nat.le_of_ble_eq_true rfl) rfl hD (nwT_k sz) ?_
  intro p e s m args below meth c X hlk hr
  have hX : J p l e rm_Gr_tell s m args below meth c D vwCl (wlT ad ca) (Aw sz) 2 0 0 (MQ below (va_Qi K (Jq D vwCl (wlT ad ca)) (Aw sz)) args s 0 0 (Aw sz)) 0 [(0, .ref (ad 9)), (1, .int a1)] [] σ := by
    unfold w_Gr_tell at hw
    refine j_iload_n X d_Gr_tell_0 rfl 1 rfl ?_
    by_cases h0 : a1 = (0 : Int32)
    · refine j_tin X d_Gr_tell_1 (0 : Int32) h0 (by decide) (by decide) (off := 47) (by decide) (tgt := 48) (by decide) ?_
      have hw := hw.1 h0
      refine j_aload_n X d_Gr_tell_48 rfl 0 rfl ?_
      refine g_9_1 X f_Gr_18 (v := (σ 9 1)) rfl d_Gr_tell_49 ?_
      exact j_iret X hlk hr d_Gr_tell_52 hw
    have hw := hw.2
    by_cases h1 : a1 = (1 : Int32)
    · refine j_tin X d_Gr_tell_1 (1 : Int32) h1 (by decide) (by decide) (off := 52) (by decide) (tgt := 53) (by decide) ?_
      have hw := hw.1 h1
      refine j_aload_n X d_Gr_tell_53 rfl 0 rfl ?_
      refine g_9_2 X f_Gr_35 (v := (σ 9 2)) rfl d_Gr_tell_54 ?_
      exact j_iret X hlk hr d_Gr_tell_57 hw
    have hw := hw.2
    by_cases h2 : a1 = (2 : Int32)
    · refine j_tin X d_Gr_tell_1 (2 : Int32) h2 (by decide) (by decide) (off := 57) (by decide) (tgt := 58) (by decide) ?_
      have hw := hw.1 h2
      refine j_aload_n X d_Gr_tell_58 rfl 0 rfl ?_
      refine g_9_3 X f_Gr_38 (v := (σ 9 3)) rfl d_Gr_tell_59 ?_
      exact j_iret X hlk hr d_Gr_tell_62 hw
    have hw := hw.2
    by_cases h3 : a1 = (3 : Int32)
    · refine j_tin X d_Gr_tell_1 (3 : Int32) h3 (by decide) (by decide) (off := 62) (by decide) (tgt := 63) (by decide) ?_
      have hw := hw.1 h3
      refine j_aload_n X d_Gr_tell_63 rfl 0 rfl ?_
      refine g_9_0 X f_Gr_12 d_Gr_tell_64 ?_
      refine j_callVi (As := []) X (c_Un_size l D ca ad sz hD hw) (gcV (n := 0) X rfl rfl rfl gc_Un_size m_Un_size l_Gr_88 (by decide +kernel) ⟨by decide, by decide⟩) (q0 := 10) rfl rfl (fun _ h => h) rfl rfl (Nat.le_of_ble_eq_true rfl) ⟨by decide, by decide⟩ d_Gr_tell_67 (fun r2 u1 hw => ?_)
      exact j_iret X hlk hr d_Gr_tell_70 hw
    have hw := hw.2
    by_cases h4 : a1 = (4 : Int32)
    · refine j_tin X d_Gr_tell_1 (4 : Int32) h4 (by decide) (by decide) (off := 70) (by decide) (tgt := 71) (by decide) ?_
      have hw := hw.1 h4
      refine j_aload_n X d_Gr_tell_71 rfl 0 rfl ?_
      refine g_9_0 X f_Gr_12 d_Gr_tell_72 ?_
      refine j_callVi (As := []) X (c_Un_countMarked l D ca ad sz hD hw) (gcV (n := 0) X rfl rfl rfl gc_Un_countMarked m_Un_countMarked l_Gr_104 (by decide +kernel) ⟨by decide, by decide⟩) (q0 := 10) rfl rfl (fun _ h => h) rfl rfl (Nat.le_of_ble_eq_true rfl) ⟨by decide, by decide⟩ d_Gr_tell_75 (fun r4 u3 hw => ?_)
      exact j_iret X hlk hr d_Gr_tell_78 hw
    have hw := hw.2
    by_cases h5 : a1 = (5 : Int32)
    · refine j_tin X d_Gr_tell_1 (5 : Int32) h5 (by decide) (by decide) (off := 78) (by decide) (tgt := 79) (by decide) ?_
      have hw := hw.1 h5
      refine j_aload_n X d_Gr_tell_79 rfl 0 rfl ?_
      refine g_9_4 X f_Gr_60 (v := (σ 9 4)) rfl d_Gr_tell_80 ?_
      refine j_if_eq X d_Gr_tell_83 (tgt := 90) (by decide) (fun h => ?_) (fun h => ?_)
      · have hw := hw.1 h
        refine j_iconst X (v := (0 : Int32)) d_Gr_tell_90 (by decide) ?_
        exact j_iret X hlk hr d_Gr_tell_91 hw
      · have hw := hw.2 h
        refine j_iconst X (v := (1 : Int32)) d_Gr_tell_86 (by decide) ?_
        refine j_goto X d_Gr_tell_87 (tgt := 91) (by decide) ?_
        exact j_iret X hlk hr d_Gr_tell_91 hw
    have hw := hw.2
    by_cases h6 : a1 = (6 : Int32)
    · refine j_tin X d_Gr_tell_1 (6 : Int32) h6 (by decide) (by decide) (off := 91) (by decide) (tgt := 92) (by decide) ?_
      have hw := hw.1 h6
      refine j_aload_n X d_Gr_tell_92 rfl 0 rfl ?_
      refine g_9_6 X f_Gr_41 (v := (σ 9 6)) rfl d_Gr_tell_93 ?_
      exact j_iret X hlk hr d_Gr_tell_96 hw
    have hw := hw.2
    by_cases h7 : a1 = (7 : Int32)
    · refine j_tin X d_Gr_tell_1 (7 : Int32) h7 (by decide) (by decide) (off := 96) (by decide) (tgt := 97) (by decide) ?_
      have hw := hw.1 h7
      refine j_aload_n X d_Gr_tell_97 rfl 0 rfl ?_
      refine g_9_7 X f_Gr_47 (v := (σ 9 7)) rfl d_Gr_tell_98 ?_
      exact j_iret X hlk hr d_Gr_tell_101 hw
    have hw := hw.2
    have ho : Int32.toInt a1 < 0 ∨ 7 < Int32.toInt a1 := by
      have eh0 := lv_neT h0 (a := 0) (by decide)
      have eh1 := lv_neT h1 (a := 1) (by decide)
      have eh2 := lv_neT h2 (a := 2) (by decide)
      have eh3 := lv_neT h3 (a := 3) (by decide)
      have eh4 := lv_neT h4 (a := 4) (by decide)
      have eh5 := lv_neT h5 (a := 5) (by decide)
      have eh6 := lv_neT h6 (a := 6) (by decide)
      have eh7 := lv_neT h7 (a := 7) (by decide)
      omega
    refine j_tout X d_Gr_tell_1 ho (tgt := 102) (by decide) ?_
    have hw := hw ho
    refine j_aload_n X d_Gr_tell_102 rfl 0 rfl ?_
    refine g_9_8 X f_Gr_44 (v := (σ 9 8)) rfl d_Gr_tell_103 ?_
    exact j_iret X hlk hr d_Gr_tell_106 hw
  exact hX
