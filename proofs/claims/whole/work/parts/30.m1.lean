def w_M_thrown (σ : Jst) (K : Int32 → Jst → Prop) : Prop := K (σ 33 0) σ
abbrev rm_M_thrown : Room := { frames := 0, cells := 0, slots := 0, locals := 0 }
set_option maxRecDepth 100000 in
set_option maxHeartbeats 4000000 in
theorem c_M_thrown (l : Launch) (D : va_G) (ca ad : Nat → Nat) (sz : Nat) (hD : Jd ca ad sz) {σ : Jst} {K : Int32 → Jst → Prop} (hw : w_M_thrown σ K) : Met l y_M_thrown (wG y_M_thrown b_M_thrown 1 (some .int)) rm_M_thrown (va_Pc [.ref (ad 33)] (Jw D vwCl (tysT ca) (wlT ad ca) (NwT sz) σ)) (va_Qi K (Jq D vwCl (wlT ad ca)) (Aw sz)) 0 0 (Aw sz) := by
  refine j_met (cc := b_M_thrown) (own := R_M) (by decide +kernel) rfl (Nat.le_of_ble_eq_true rfl) rfl hD (nwT_k sz) ?_
  intro p e s m args below meth c X hlk hr
  have hX : J p l e rm_M_thrown s m args below meth c D vwCl (wlT ad ca) (Aw sz) 1 0 0 (MQ below (va_Qi K (Jq D vwCl (wlT ad ca)) (Aw sz)) args s 0 0 (Aw sz)) 0 [(0, .ref (ad 33))] [] σ := by
    unfold w_M_thrown at hw
    refine j_aload_n X d_M_thrown_0 rfl 0 rfl ?_
    refine g_33_0 X f_M_78 (v := (σ 33 0)) rfl d_M_thrown_1 ?_
    exact j_iret X hlk hr d_M_thrown_4 hw
  exact hX
def w_M_outside (a1 : Int32) (a2 : Int32) (a3 : Int32) (σ : Jst) (K : Int32 → Jst → Prop) : Prop := ((a1 < a2 → K (1 : Int32) σ) ∧ (¬ a1 < a2 → ((a1 ≤ a3 → K (0 : Int32) σ) ∧ (¬ a1 ≤ a3 → K (1 : Int32) σ))))
abbrev rm_M_outside : Room := { frames := 0, cells := 0, slots := 0, locals := 0 }
set_option maxRecDepth 100000 in
set_option maxHeartbeats 4000000 in
theorem c_M_outside (l : Launch) (D : va_G) (ca ad : Nat → Nat) (sz : Nat) (hD : Jd ca ad sz) {a1 a2 a3 : Int32} {σ : Jst} {K : Int32 → Jst → Prop} (hw : w_M_outside a1 a2 a3 σ K) : Met l y_M_outside (wG y_M_outside b_M_outside 3 (some .boolean)) rm_M_outside (va_Pc [.int a1, .int a2, .int a3] (Jw D vwCl (tysT ca) (wlT ad ca) (NwT sz) σ)) (va_Qi K (Jq D vwCl (wlT ad ca)) (Aw sz)) 0 0 (Aw sz) := by
  refine j_met (cc := b_M_outside) (own := R_M) (by decide +kernel) rfl (Nat.le_of_ble_eq_true rfl) rfl hD (nwT_k sz) ?_
  intro p e s m args below meth c X hlk hr
  have hX : J p l e rm_M_outside s m args below meth c D vwCl (wlT ad ca) (Aw sz) 3 0 0 (MQ below (va_Qi K (Jq D vwCl (wlT ad ca)) (Aw sz)) args s 0 0 (Aw sz)) 0 [(0, .int a1), (1, .int a2), (2, .int a3)] [] σ := by
    unfold w_M_outside at hw
    refine j_iload_n X d_M_outside_0 rfl 0 rfl ?_
    refine j_iload_n X d_M_outside_1 rfl 1 rfl ?_
    refine j_icmp_lt X d_M_outside_2 (tgt := 10) (by decide) (fun h => ?_) (fun h => ?_)
    · have hw := hw.1 h
      refine j_iconst X (v := (1 : Int32)) d_M_outside_10 (by decide) ?_
      refine j_goto X d_M_outside_11 (tgt := 15) (by decide) ?_
      exact j_zret X hlk hr rfl d_M_outside_15 hw
    · have hw := hw.2 h
      refine j_iload_n X d_M_outside_5 rfl 0 rfl ?_
      refine j_iload_n X d_M_outside_6 rfl 2 rfl ?_
      refine j_icmp_le X d_M_outside_7 (tgt := 14) (by decide) (fun h => ?_) (fun h => ?_)
      · have hw := hw.1 h
        refine j_iconst X (v := (0 : Int32)) d_M_outside_14 (by decide) ?_
        exact j_zret X hlk hr rfl d_M_outside_15 hw
      · have hw := hw.2 h
        refine j_iconst X (v := (1 : Int32)) d_M_outside_10 (by decide) ?_
        refine j_goto X d_M_outside_11 (tgt := 15) (by decide) ?_
        exact j_zret X hlk hr rfl d_M_outside_15 hw
  exact hX
def w_M_fails (a1 : Int32) (a2 : Int32) (σ : Jst) (K : Int32 → Jst → Prop) : Prop := ((a1 = (0 : Int32) → ((a2 = (0 : Int32) → K (0 : Int32) (jup σ 33 0 (0 : Int32))) ∧ (¬ a2 = (0 : Int32) → K (1 : Int32) (jup σ 33 0 (2 : Int32))))) ∧ (¬ a1 = (0 : Int32) → K (1 : Int32) (jup σ 33 0 (1 : Int32))))
abbrev rm_M_fails : Room := { frames := 0, cells := 0, slots := 0, locals := 0 }
set_option maxRecDepth 100000 in
set_option maxHeartbeats 4000000 in
theorem c_M_fails (l : Launch) (D : va_G) (ca ad : Nat → Nat) (sz : Nat) (hD : Jd ca ad sz) {a1 a2 : Int32} {σ : Jst} {K : Int32 → Jst → Prop} (hw : w_M_fails a1 a2 σ K) : Met l y_M_fails (wG y_M_fails b_M_fails 3 (some .boolean)) rm_M_fails (va_Pc [.ref (ad 33), .int a1, .int a2] (Jw D vwCl (tysT ca) (wlT ad ca) (NwT sz) σ)) (va_Qi K (Jq D vwCl (wlT ad ca)) (Aw sz)) 0 0 (Aw sz) := by
  refine j_met (cc := b_M_fails) (own := R_M) (by decide +kernel) rfl (Nat.le_of_ble_eq_true rfl) rfl hD (nwT_k sz) ?_
  intro p e s m args below meth c X hlk hr
  have hX : J p l e rm_M_fails s m args below meth c D vwCl (wlT ad ca) (Aw sz) 3 0 0 (MQ below (va_Qi K (Jq D vwCl (wlT ad ca)) (Aw sz)) args s 0 0 (Aw sz)) 0 [(0, .ref (ad 33)), (1, .int a1), (2, .int a2)] [] σ := by
    unfold w_M_fails at hw
    refine j_aload_n X d_M_fails_0 rfl 0 rfl ?_
    refine j_iload_n X d_M_fails_1 rfl 1 rfl ?_
    refine j_if_eq X d_M_fails_2 (tgt := 9) (by decide) (fun h => ?_) (fun h => ?_)
    · have hw := hw.1 h
      refine j_iload_n X d_M_fails_9 rfl 2 rfl ?_
      refine j_if_eq X d_M_fails_10 (tgt := 17) (by decide) (fun h => ?_) (fun h => ?_)
      · have hw := hw.1 h
        refine j_iconst X (v := (0 : Int32)) d_M_fails_17 (by decide) ?_
        refine p_33_0 X f_M_78 d_M_fails_18 ?_
        refine j_aload_n X d_M_fails_21 rfl 0 rfl ?_
        refine g_33_0 X f_M_78 (v := (0 : Int32)) rfl d_M_fails_22 ?_
        refine j_if_le X d_M_fails_25 (tgt := 32) (by decide) (fun _ => ?_) (fun h => absurd h (by decide))
        refine j_iconst X (v := (0 : Int32)) d_M_fails_32 (by decide) ?_
        exact j_zret X hlk hr rfl d_M_fails_33 hw
      · have hw := hw.2 h
        refine j_iconst X (v := (2 : Int32)) d_M_fails_13 (by decide) ?_
        refine j_goto X d_M_fails_14 (tgt := 18) (by decide) ?_
        refine p_33_0 X f_M_78 d_M_fails_18 ?_
        refine j_aload_n X d_M_fails_21 rfl 0 rfl ?_
        refine g_33_0 X f_M_78 (v := (2 : Int32)) rfl d_M_fails_22 ?_
        refine j_if_le X d_M_fails_25 (tgt := 32) (by decide) (fun h => absurd h (by decide)) (fun _ => ?_)
        refine j_iconst X (v := (1 : Int32)) d_M_fails_28 (by decide) ?_
        refine j_goto X d_M_fails_29 (tgt := 33) (by decide) ?_
        exact j_zret X hlk hr rfl d_M_fails_33 hw
    · have hw := hw.2 h
      refine j_iconst X (v := (1 : Int32)) d_M_fails_5 (by decide) ?_
      refine j_goto X d_M_fails_6 (tgt := 18) (by decide) ?_
      refine p_33_0 X f_M_78 d_M_fails_18 ?_
      refine j_aload_n X d_M_fails_21 rfl 0 rfl ?_
      refine g_33_0 X f_M_78 (v := (1 : Int32)) rfl d_M_fails_22 ?_
      refine j_if_le X d_M_fails_25 (tgt := 32) (by decide) (fun h => absurd h (by decide)) (fun _ => ?_)
      refine j_iconst X (v := (1 : Int32)) d_M_fails_28 (by decide) ?_
      refine j_goto X d_M_fails_29 (tgt := 33) (by decide) ?_
      exact j_zret X hlk hr rfl d_M_fails_33 hw
  exact hX
def w_M_tune (a1 : Int32) (a2 : Int32) (a3 : Int32) (σ : Jst) (K : Jst → Prop) : Prop := (((σ 33 1) = (0 : Int32) → w_M_outside a1 (1 : Int32) (4 : Int32) σ (fun r2 u1 => ((¬ r2 = (0 : Int32) → w_M_fails (0 : Int32) (1 : Int32) u1 (fun r4 u3 => ((r4 = (0 : Int32) → K (jup (jup (jup u3 33 7 a1) 33 8 a2) 33 9 a3)) ∧ (¬ r4 = (0 : Int32) → K u3)))) ∧ (r2 = (0 : Int32) → w_M_outside a2 (1 : Int32) (9 : Int32) u1 (fun r6 u5 => ((¬ r6 = (0 : Int32) → w_M_fails (0 : Int32) (1 : Int32) u5 (fun r8 u7 => ((r8 = (0 : Int32) → K (jup (jup (jup u7 33 7 a1) 33 8 a2) 33 9 a3)) ∧ (¬ r8 = (0 : Int32) → K u7)))) ∧ (r6 = (0 : Int32) → w_M_outside a3 (1 : Int32) (20 : Int32) u5 (fun r10 u9 => ((r10 = (0 : Int32) → w_M_fails (0 : Int32) (0 : Int32) u9 (fun r12 u11 => ((r12 = (0 : Int32) → K (jup (jup (jup u11 33 7 a1) 33 8 a2) 33 9 a3)) ∧ (¬ r12 = (0 : Int32) → K u11)))) ∧ (¬ r10 = (0 : Int32) → w_M_fails (0 : Int32) (1 : Int32) u9 (fun r14 u13 => ((r14 = (0 : Int32) → K (jup (jup (jup u13 33 7 a1) 33 8 a2) 33 9 a3)) ∧ (¬ r14 = (0 : Int32) → K u13))))))))))))) ∧ (¬ (σ 33 1) = (0 : Int32) → w_M_outside a1 (1 : Int32) (4 : Int32) σ (fun r16 u15 => ((¬ r16 = (0 : Int32) → w_M_fails (1 : Int32) (1 : Int32) u15 (fun r18 u17 => ((r18 = (0 : Int32) → K (jup (jup (jup u17 33 7 a1) 33 8 a2) 33 9 a3)) ∧ (¬ r18 = (0 : Int32) → K u17)))) ∧ (r16 = (0 : Int32) → w_M_outside a2 (1 : Int32) (9 : Int32) u15 (fun r20 u19 => ((¬ r20 = (0 : Int32) → w_M_fails (1 : Int32) (1 : Int32) u19 (fun r22 u21 => ((r22 = (0 : Int32) → K (jup (jup (jup u21 33 7 a1) 33 8 a2) 33 9 a3)) ∧ (¬ r22 = (0 : Int32) → K u21)))) ∧ (r20 = (0 : Int32) → w_M_outside a3 (1 : Int32) (20 : Int32) u19 (fun r24 u23 => ((r24 = (0 : Int32) → w_M_fails (1 : Int32) (0 : Int32) u23 (fun r26 u25 => ((r26 = (0 : Int32) → K (jup (jup (jup u25 33 7 a1) 33 8 a2) 33 9 a3)) ∧ (¬ r26 = (0 : Int32) → K u25)))) ∧ (¬ r24 = (0 : Int32) → w_M_fails (1 : Int32) (1 : Int32) u23 (fun r28 u27 => ((r28 = (0 : Int32) → K (jup (jup (jup u27 33 7 a1) 33 8 a2) 33 9 a3)) ∧ (¬ r28 = (0 : Int32) → K u27))))))))))))))
abbrev rm_M_tune : Room := { frames := 1, cells := 0, slots := 0, locals := 22 }
set_option maxRecDepth 100000 in
set_option maxHeartbeats 4000000 in
theorem c_M_tune (l : Launch) (D : va_G) (ca ad : Nat → Nat) (sz : Nat) (hD : Jd ca ad sz) {a1 a2 a3 : Int32} {σ : Jst} {K : Jst → Prop} (hw : w_M_tune a1 a2 a3 σ K) : Met l y_M_tune (wG y_M_tune b_M_tune 4 none) rm_M_tune (va_Pc [.ref (ad 33), .int a1, .int a2, .int a3] (Jw D vwCl (tysT ca) (wlT ad ca) (NwT sz) σ)) (va_Qv K (Jq D vwCl (wlT ad ca)) (Aw sz)) 0 0 (Aw sz) := by
  refine j_met (cc := b_M_tune) (own := R_M) (by decide +kernel) rfl (Nat.le_of_ble_eq_true rfl) rfl hD (nwT_k sz) ?_
  intro p e s m args below meth c X hlk hr
  have hX : J p l e rm_M_tune s m args below meth c D vwCl (wlT ad ca) (Aw sz) 4 0 0 (MQ below (va_Qv K (Jq D vwCl (wlT ad ca)) (Aw sz)) args s 0 0 (Aw sz)) 0 [(0, .ref (ad 33)), (1, .int a1), (2, .int a2), (3, .int a3)] [] σ := by
    unfold w_M_tune at hw
    refine j_aload_n X d_M_tune_0 rfl 0 rfl ?_
    refine j_aload_n X d_M_tune_1 rfl 0 rfl ?_
    refine g_33_1 X f_M_81 (v := (σ 33 1)) rfl d_M_tune_2 ?_
    refine j_if_eq X d_M_tune_5 (tgt := 12) (by decide) (fun h => ?_) (fun h => ?_)
    · have hw := hw.1 h
      refine j_iconst X (v := (0 : Int32)) d_M_tune_12 (by decide) ?_
      refine j_iload_n X d_M_tune_13 rfl 1 rfl ?_
      refine j_iconst X (v := (1 : Int32)) d_M_tune_14 (by decide) ?_
      refine j_iconst X (v := (4 : Int32)) d_M_tune_15 (by decide) ?_
      refine j_callSi (As := [.int a1, .int (1 : Int32), .int (4 : Int32)]) X (c_M_outside l D ca ad sz hD hw) (gcS (n := 3) X rfl rfl rfl gc_M_outside m_M_outside l_M_84 (by decide +kernel) ⟨by decide, by decide⟩) (fun _ h => h) rfl rfl (Nat.le_of_ble_eq_true rfl) ⟨by decide, by decide⟩ d_M_tune_16 (fun r2 u1 hw => ?_)
      refine j_if_ne X d_M_tune_19 (tgt := 42) (by decide) (fun h => ?_) (fun h => ?_)
      · have hw := hw.1 h
        refine j_iconst X (v := (1 : Int32)) d_M_tune_42 (by decide) ?_
        refine j_goto X d_M_tune_43 (tgt := 47) (by decide) ?_
        refine j_callVi (As := [.int (0 : Int32), .int (1 : Int32)]) X (c_M_fails l D ca ad sz hD hw) (gcV (n := 2) X rfl rfl rfl gc_M_fails m_M_fails l_M_88 (by decide +kernel) ⟨by decide, by decide⟩) (q0 := 33) rfl rfl (fun _ h => h) rfl rfl (Nat.le_of_ble_eq_true rfl) ⟨by decide, by decide⟩ d_M_tune_47 (fun r4 u3 hw => ?_)
        refine j_if_eq X d_M_tune_50 (tgt := 54) (by decide) (fun h => ?_) (fun h => ?_)
        · have hw := hw.1 h
          refine j_aload_n X d_M_tune_54 rfl 0 rfl ?_
          refine j_iload_n X d_M_tune_55 rfl 1 rfl ?_
          refine p_33_7 X f_M_7 d_M_tune_56 ?_
          refine j_aload_n X d_M_tune_59 rfl 0 rfl ?_
          refine j_iload_n X d_M_tune_60 rfl 2 rfl ?_
          refine p_33_8 X f_M_13 d_M_tune_61 ?_
          refine j_aload_n X d_M_tune_64 rfl 0 rfl ?_
          refine j_iload_n X d_M_tune_65 rfl 3 rfl ?_
          refine p_33_9 X f_M_16 d_M_tune_66 ?_
          exact j_vret X hlk hr d_M_tune_69 hw
        · have hw := hw.2 h
          exact j_vret X hlk hr d_M_tune_53 hw
      · have hw := hw.2 h
        refine j_iload_n X d_M_tune_22 rfl 2 rfl ?_
        refine j_iconst X (v := (1 : Int32)) d_M_tune_23 (by decide) ?_
        refine j_bipush X (v := (9 : Int32)) d_M_tune_24 (by decide) ?_
        refine j_callSi (As := [.int a2, .int (1 : Int32), .int (9 : Int32)]) X (c_M_outside l D ca ad sz hD hw) (gcS (n := 3) X rfl rfl rfl gc_M_outside m_M_outside l_M_84 (by decide +kernel) ⟨by decide, by decide⟩) (fun _ h => h) rfl rfl (Nat.le_of_ble_eq_true rfl) ⟨by decide, by decide⟩ d_M_tune_26 (fun r6 u5 hw => ?_)
        refine j_if_ne X d_M_tune_29 (tgt := 42) (by decide) (fun h => ?_) (fun h => ?_)
        · have hw := hw.1 h
          refine j_iconst X (v := (1 : Int32)) d_M_tune_42 (by decide) ?_
          refine j_goto X d_M_tune_43 (tgt := 47) (by decide) ?_
          refine j_callVi (As := [.int (0 : Int32), .int (1 : Int32)]) X (c_M_fails l D ca ad sz hD hw) (gcV (n := 2) X rfl rfl rfl gc_M_fails m_M_fails l_M_88 (by decide +kernel) ⟨by decide, by decide⟩) (q0 := 33) rfl rfl (fun _ h => h) rfl rfl (Nat.le_of_ble_eq_true rfl) ⟨by decide, by decide⟩ d_M_tune_47 (fun r8 u7 hw => ?_)
          refine j_if_eq X d_M_tune_50 (tgt := 54) (by decide) (fun h => ?_) (fun h => ?_)
          · have hw := hw.1 h
            refine j_aload_n X d_M_tune_54 rfl 0 rfl ?_
            refine j_iload_n X d_M_tune_55 rfl 1 rfl ?_
            refine p_33_7 X f_M_7 d_M_tune_56 ?_
            refine j_aload_n X d_M_tune_59 rfl 0 rfl ?_
            refine j_iload_n X d_M_tune_60 rfl 2 rfl ?_
            refine p_33_8 X f_M_13 d_M_tune_61 ?_
            refine j_aload_n X d_M_tune_64 rfl 0 rfl ?_
            refine j_iload_n X d_M_tune_65 rfl 3 rfl ?_
            refine p_33_9 X f_M_16 d_M_tune_66 ?_
            exact j_vret X hlk hr d_M_tune_69 hw
          · have hw := hw.2 h
            exact j_vret X hlk hr d_M_tune_53 hw
        · have hw := hw.2 h
          refine j_iload_n X d_M_tune_32 rfl 3 rfl ?_
          refine j_iconst X (v := (1 : Int32)) d_M_tune_33 (by decide) ?_
          refine j_bipush X (v := (20 : Int32)) d_M_tune_34 (by decide) ?_
          refine j_callSi (As := [.int a3, .int (1 : Int32), .int (20 : Int32)]) X (c_M_outside l D ca ad sz hD hw) (gcS (n := 3) X rfl rfl rfl gc_M_outside m_M_outside l_M_84 (by decide +kernel) ⟨by decide, by decide⟩) (fun _ h => h) rfl rfl (Nat.le_of_ble_eq_true rfl) ⟨by decide, by decide⟩ d_M_tune_36 (fun r10 u9 hw => ?_)
          refine j_if_eq X d_M_tune_39 (tgt := 46) (by decide) (fun h => ?_) (fun h => ?_)
          · have hw := hw.1 h
            refine j_iconst X (v := (0 : Int32)) d_M_tune_46 (by decide) ?_
            refine j_callVi (As := [.int (0 : Int32), .int (0 : Int32)]) X (c_M_fails l D ca ad sz hD hw) (gcV (n := 2) X rfl rfl rfl gc_M_fails m_M_fails l_M_88 (by decide +kernel) ⟨by decide, by decide⟩) (q0 := 33) rfl rfl (fun _ h => h) rfl rfl (Nat.le_of_ble_eq_true rfl) ⟨by decide, by decide⟩ d_M_tune_47 (fun r12 u11 hw => ?_)
            refine j_if_eq X d_M_tune_50 (tgt := 54) (by decide) (fun h => ?_) (fun h => ?_)
            · have hw := hw.1 h
              refine j_aload_n X d_M_tune_54 rfl 0 rfl ?_
              refine j_iload_n X d_M_tune_55 rfl 1 rfl ?_
              refine p_33_7 X f_M_7 d_M_tune_56 ?_
              refine j_aload_n X d_M_tune_59 rfl 0 rfl ?_
              refine j_iload_n X d_M_tune_60 rfl 2 rfl ?_
              refine p_33_8 X f_M_13 d_M_tune_61 ?_
              refine j_aload_n X d_M_tune_64 rfl 0 rfl ?_
              refine j_iload_n X d_M_tune_65 rfl 3 rfl ?_
              refine p_33_9 X f_M_16 d_M_tune_66 ?_
              exact j_vret X hlk hr d_M_tune_69 hw
            · have hw := hw.2 h
              exact j_vret X hlk hr d_M_tune_53 hw
          · have hw := hw.2 h
            refine j_iconst X (v := (1 : Int32)) d_M_tune_42 (by decide) ?_
            refine j_goto X d_M_tune_43 (tgt := 47) (by decide) ?_
            refine j_callVi (As := [.int (0 : Int32), .int (1 : Int32)]) X (c_M_fails l D ca ad sz hD hw) (gcV (n := 2) X rfl rfl rfl gc_M_fails m_M_fails l_M_88 (by decide +kernel) ⟨by decide, by decide⟩) (q0 := 33) rfl rfl (fun _ h => h) rfl rfl (Nat.le_of_ble_eq_true rfl) ⟨by decide, by decide⟩ d_M_tune_47 (fun r14 u13 hw => ?_)
            refine j_if_eq X d_M_tune_50 (tgt := 54) (by decide) (fun h => ?_) (fun h => ?_)
            · have hw := hw.1 h
              refine j_aload_n X d_M_tune_54 rfl 0 rfl ?_
              refine j_iload_n X d_M_tune_55 rfl 1 rfl ?_
              refine p_33_7 X f_M_7 d_M_tune_56 ?_
              refine j_aload_n X d_M_tune_59 rfl 0 rfl ?_
              refine j_iload_n X d_M_tune_60 rfl 2 rfl ?_
              refine p_33_8 X f_M_13 d_M_tune_61 ?_
              refine j_aload_n X d_M_tune_64 rfl 0 rfl ?_
              refine j_iload_n X d_M_tune_65 rfl 3 rfl ?_
              refine p_33_9 X f_M_16 d_M_tune_66 ?_
              exact j_vret X hlk hr d_M_tune_69 hw
            · have hw := hw.2 h
              exact j_vret X hlk hr d_M_tune_53 hw
    · have hw := hw.2 h
      refine j_iconst X (v := (1 : Int32)) d_M_tune_8 (by decide) ?_
      refine j_goto X d_M_tune_9 (tgt := 13) (by decide) ?_
      refine j_iload_n X d_M_tune_13 rfl 1 rfl ?_
      refine j_iconst X (v := (1 : Int32)) d_M_tune_14 (by decide) ?_
      refine j_iconst X (v := (4 : Int32)) d_M_tune_15 (by decide) ?_
      refine j_callSi (As := [.int a1, .int (1 : Int32), .int (4 : Int32)]) X (c_M_outside l D ca ad sz hD hw) (gcS (n := 3) X rfl rfl rfl gc_M_outside m_M_outside l_M_84 (by decide +kernel) ⟨by decide, by decide⟩) (fun _ h => h) rfl rfl (Nat.le_of_ble_eq_true rfl) ⟨by decide, by decide⟩ d_M_tune_16 (fun r16 u15 hw => ?_)
      refine j_if_ne X d_M_tune_19 (tgt := 42) (by decide) (fun h => ?_) (fun h => ?_)
      · have hw := hw.1 h
        refine j_iconst X (v := (1 : Int32)) d_M_tune_42 (by decide) ?_
        refine j_goto X d_M_tune_43 (tgt := 47) (by decide) ?_
        refine j_callVi (As := [.int (1 : Int32), .int (1 : Int32)]) X (c_M_fails l D ca ad sz hD hw) (gcV (n := 2) X rfl rfl rfl gc_M_fails m_M_fails l_M_88 (by decide +kernel) ⟨by decide, by decide⟩) (q0 := 33) rfl rfl (fun _ h => h) rfl rfl (Nat.le_of_ble_eq_true rfl) ⟨by decide, by decide⟩ d_M_tune_47 (fun r18 u17 hw => ?_)
        refine j_if_eq X d_M_tune_50 (tgt := 54) (by decide) (fun h => ?_) (fun h => ?_)
        · have hw := hw.1 h
          refine j_aload_n X d_M_tune_54 rfl 0 rfl ?_
          refine j_iload_n X d_M_tune_55 rfl 1 rfl ?_
          refine p_33_7 X f_M_7 d_M_tune_56 ?_
          refine j_aload_n X d_M_tune_59 rfl 0 rfl ?_
          refine j_iload_n X d_M_tune_60 rfl 2 rfl ?_
          refine p_33_8 X f_M_13 d_M_tune_61 ?_
          refine j_aload_n X d_M_tune_64 rfl 0 rfl ?_
          refine j_iload_n X d_M_tune_65 rfl 3 rfl ?_
          refine p_33_9 X f_M_16 d_M_tune_66 ?_
          exact j_vret X hlk hr d_M_tune_69 hw
        · have hw := hw.2 h
          exact j_vret X hlk hr d_M_tune_53 hw
      · have hw := hw.2 h
        refine j_iload_n X d_M_tune_22 rfl 2 rfl ?_
        refine j_iconst X (v := (1 : Int32)) d_M_tune_23 (by decide) ?_
        refine j_bipush X (v := (9 : Int32)) d_M_tune_24 (by decide) ?_
        refine j_callSi (As := [.int a2, .int (1 : Int32), .int (9 : Int32)]) X (c_M_outside l D ca ad sz hD hw) (gcS (n := 3) X rfl rfl rfl gc_M_outside m_M_outside l_M_84 (by decide +kernel) ⟨by decide, by decide⟩) (fun _ h => h) rfl rfl (Nat.le_of_ble_eq_true rfl) ⟨by decide, by decide⟩ d_M_tune_26 (fun r20 u19 hw => ?_)
        refine j_if_ne X d_M_tune_29 (tgt := 42) (by decide) (fun h => ?_) (fun h => ?_)
        · have hw := hw.1 h
          refine j_iconst X (v := (1 : Int32)) d_M_tune_42 (by decide) ?_
          refine j_goto X d_M_tune_43 (tgt := 47) (by decide) ?_
          refine j_callVi (As := [.int (1 : Int32), .int (1 : Int32)]) X (c_M_fails l D ca ad sz hD hw) (gcV (n := 2) X rfl rfl rfl gc_M_fails m_M_fails l_M_88 (by decide +kernel) ⟨by decide, by decide⟩) (q0 := 33) rfl rfl (fun _ h => h) rfl rfl (Nat.le_of_ble_eq_true rfl) ⟨by decide, by decide⟩ d_M_tune_47 (fun r22 u21 hw => ?_)
          refine j_if_eq X d_M_tune_50 (tgt := 54) (by decide) (fun h => ?_) (fun h => ?_)
          · have hw := hw.1 h
            refine j_aload_n X d_M_tune_54 rfl 0 rfl ?_
            refine j_iload_n X d_M_tune_55 rfl 1 rfl ?_
            refine p_33_7 X f_M_7 d_M_tune_56 ?_
            refine j_aload_n X d_M_tune_59 rfl 0 rfl ?_
            refine j_iload_n X d_M_tune_60 rfl 2 rfl ?_
            refine p_33_8 X f_M_13 d_M_tune_61 ?_
            refine j_aload_n X d_M_tune_64 rfl 0 rfl ?_
            refine j_iload_n X d_M_tune_65 rfl 3 rfl ?_
            refine p_33_9 X f_M_16 d_M_tune_66 ?_
            exact j_vret X hlk hr d_M_tune_69 hw
          · have hw := hw.2 h
            exact j_vret X hlk hr d_M_tune_53 hw
        · have hw := hw.2 h
          refine j_iload_n X d_M_tune_32 rfl 3 rfl ?_
          refine j_iconst X (v := (1 : Int32)) d_M_tune_33 (by decide) ?_
          refine j_bipush X (v := (20 : Int32)) d_M_tune_34 (by decide) ?_
          refine j_callSi (As := [.int a3, .int (1 : Int32), .int (20 : Int32)]) X (c_M_outside l D ca ad sz hD hw) (gcS (n := 3) X rfl rfl rfl gc_M_outside m_M_outside l_M_84 (by decide +kernel) ⟨by decide, by decide⟩) (fun _ h => h) rfl rfl (Nat.le_of_ble_eq_true rfl) ⟨by decide, by decide⟩ d_M_tune_36 (fun r24 u23 hw => ?_)
          refine j_if_eq X d_M_tune_39 (tgt := 46) (by decide) (fun h => ?_) (fun h => ?_)
          · have hw := hw.1 h
            refine j_iconst X (v := (0 : Int32)) d_M_tune_46 (by decide) ?_
            refine j_callVi (As := [.int (1 : Int32), .int (0 : Int32)]) X (c_M_fails l D ca ad sz hD hw) (gcV (n := 2) X rfl rfl rfl gc_M_fails m_M_fails l_M_88 (by decide +kernel) ⟨by decide, by decide⟩) (q0 := 33) rfl rfl (fun _ h => h) rfl rfl (Nat.le_of_ble_eq_true rfl) ⟨by decide, by decide⟩ d_M_tune_47 (fun r26 u25 hw => ?_)
            refine j_if_eq X d_M_tune_50 (tgt := 54) (by decide) (fun h => ?_) (fun h => ?_)
            · have hw := hw.1 h
              refine j_aload_n X d_M_tune_54 rfl 0 rfl ?_
              refine j_iload_n X d_M_tune_55 rfl 1 rfl ?_
              refine p_33_7 X f_M_7 d_M_tune_56 ?_
              refine j_aload_n X d_M_tune_59 rfl 0 rfl ?_
              refine j_iload_n X d_M_tune_60 rfl 2 rfl ?_
              refine p_33_8 X f_M_13 d_M_tune_61 ?_
              refine j_aload_n X d_M_tune_64 rfl 0 rfl ?_
              refine j_iload_n X d_M_tune_65 rfl 3 rfl ?_
              refine p_33_9 X f_M_16 d_M_tune_66 ?_
              exact j_vret X hlk hr d_M_tune_69 hw
            · have hw := hw.2 h
              exact j_vret X hlk hr d_M_tune_53 hw
          · have hw := hw.2 h
            refine j_iconst X (v := (1 : Int32)) d_M_tune_42 (by decide) ?_
            refine j_goto X d_M_tune_43 (tgt := 47) (by decide) ?_
            refine j_callVi (As := [.int (1 : Int32), .int (1 : Int32)]) X (c_M_fails l D ca ad sz hD hw) (gcV (n := 2) X rfl rfl rfl gc_M_fails m_M_fails l_M_88 (by decide +kernel) ⟨by decide, by decide⟩) (q0 := 33) rfl rfl (fun _ h => h) rfl rfl (Nat.le_of_ble_eq_true rfl) ⟨by decide, by decide⟩ d_M_tune_47 (fun r28 u27 hw => ?_)
            refine j_if_eq X d_M_tune_50 (tgt := 54) (by decide) (fun h => ?_) (fun h => ?_)
            · have hw := hw.1 h
              refine j_aload_n X d_M_tune_54 rfl 0 rfl ?_
              refine j_iload_n X d_M_tune_55 rfl 1 rfl ?_
              refine p_33_7 X f_M_7 d_M_tune_56 ?_
              refine j_aload_n X d_M_tune_59 rfl 0 rfl ?_
              refine j_iload_n X d_M_tune_60 rfl 2 rfl ?_
              refine p_33_8 X f_M_13 d_M_tune_61 ?_
              refine j_aload_n X d_M_tune_64 rfl 0 rfl ?_
              refine j_iload_n X d_M_tune_65 rfl 3 rfl ?_
              refine p_33_9 X f_M_16 d_M_tune_66 ?_
              exact j_vret X hlk hr d_M_tune_69 hw
            · have hw := hw.2 h
              exact j_vret X hlk hr d_M_tune_53 hw
  exact hX
def w_M_number (a1 : Int32) (σ : Jst) (K : Jst → Prop) : Prop := (((σ 33 1) = (0 : Int32) → w_M_outside a1 (0 : Int32) (15 : Int32) σ (fun r2 u1 => w_M_fails (0 : Int32) r2 u1 (fun r4 u3 => ((r4 = (0 : Int32) → K (jup (jup u3 33 2 a1) 33 3 a1)) ∧ (¬ r4 = (0 : Int32) → K u3))))) ∧ (¬ (σ 33 1) = (0 : Int32) → w_M_outside a1 (0 : Int32) (15 : Int32) σ (fun r6 u5 => w_M_fails (1 : Int32) r6 u5 (fun r8 u7 => ((r8 = (0 : Int32) → K (jup (jup u7 33 2 a1) 33 3 a1)) ∧ (¬ r8 = (0 : Int32) → K u7))))))
abbrev rm_M_number : Room := { frames := 1, cells := 0, slots := 0, locals := 22 }
set_option maxRecDepth 100000 in
set_option maxHeartbeats 4000000 in
theorem c_M_number (l : Launch) (D : va_G) (ca ad : Nat → Nat) (sz : Nat) (hD : Jd ca ad sz) {a1 : Int32} {σ : Jst} {K : Jst → Prop} (hw : w_M_number a1 σ K) : Met l y_M_number (wG y_M_number b_M_number 2 none) rm_M_number (va_Pc [.ref (ad 33), .int a1] (Jw D vwCl (tysT ca) (wlT ad ca) (NwT sz) σ)) (va_Qv K (Jq D vwCl (wlT ad ca)) (Aw sz)) 0 0 (Aw sz) := by
  refine j_met (cc := b_M_number) (own := R_M) (by decide +kernel) rfl (Nat.le_of_ble_eq_true rfl) rfl hD (nwT_k sz) ?_
  intro p e s m args below meth c X hlk hr
  have hX : J p l e rm_M_number s m args below meth c D vwCl (wlT ad ca) (Aw sz) 2 0 0 (MQ below (va_Qv K (Jq D vwCl (wlT ad ca)) (Aw sz)) args s 0 0 (Aw sz)) 0 [(0, .ref (ad 33)), (1, .int a1)] [] σ := by
    unfold w_M_number at hw
    refine j_aload_n X d_M_number_0 rfl 0 rfl ?_
    refine j_aload_n X d_M_number_1 rfl 0 rfl ?_
    refine g_33_1 X f_M_81 (v := (σ 33 1)) rfl d_M_number_2 ?_
    refine j_if_eq X d_M_number_5 (tgt := 12) (by decide) (fun h => ?_) (fun h => ?_)
    · have hw := hw.1 h
      refine j_iconst X (v := (0 : Int32)) d_M_number_12 (by decide) ?_
      refine j_iload_n X d_M_number_13 rfl 1 rfl ?_
      refine j_iconst X (v := (0 : Int32)) d_M_number_14 (by decide) ?_
      refine j_bipush X (v := (15 : Int32)) d_M_number_15 (by decide) ?_
      refine j_callSi (As := [.int a1, .int (0 : Int32), .int (15 : Int32)]) X (c_M_outside l D ca ad sz hD hw) (gcS (n := 3) X rfl rfl rfl gc_M_outside m_M_outside l_M_84 (by decide +kernel) ⟨by decide, by decide⟩) (fun _ h => h) rfl rfl (Nat.le_of_ble_eq_true rfl) ⟨by decide, by decide⟩ d_M_number_17 (fun r2 u1 hw => ?_)
      refine j_callVi (As := [.int (0 : Int32), .int r2]) X (c_M_fails l D ca ad sz hD hw) (gcV (n := 2) X rfl rfl rfl gc_M_fails m_M_fails l_M_88 (by decide +kernel) ⟨by decide, by decide⟩) (q0 := 33) rfl rfl (fun _ h => h) rfl rfl (Nat.le_of_ble_eq_true rfl) ⟨by decide, by decide⟩ d_M_number_20 (fun r4 u3 hw => ?_)
      refine j_if_eq X d_M_number_23 (tgt := 27) (by decide) (fun h => ?_) (fun h => ?_)
      · have hw := hw.1 h
        refine j_aload_n X d_M_number_27 rfl 0 rfl ?_
        refine j_iload_n X d_M_number_28 rfl 1 rfl ?_
        refine p_33_2 X f_M_92 d_M_number_29 ?_
        refine j_aload_n X d_M_number_32 rfl 0 rfl ?_
        refine j_iload_n X d_M_number_33 rfl 1 rfl ?_
        refine p_33_3 X f_M_95 d_M_number_34 ?_
        exact j_vret X hlk hr d_M_number_37 hw
      · have hw := hw.2 h
        exact j_vret X hlk hr d_M_number_26 hw
    · have hw := hw.2 h
      refine j_iconst X (v := (1 : Int32)) d_M_number_8 (by decide) ?_
      refine j_goto X d_M_number_9 (tgt := 13) (by decide) ?_
      refine j_iload_n X d_M_number_13 rfl 1 rfl ?_
      refine j_iconst X (v := (0 : Int32)) d_M_number_14 (by decide) ?_
      refine j_bipush X (v := (15 : Int32)) d_M_number_15 (by decide) ?_
      refine j_callSi (As := [.int a1, .int (0 : Int32), .int (15 : Int32)]) X (c_M_outside l D ca ad sz hD hw) (gcS (n := 3) X rfl rfl rfl gc_M_outside m_M_outside l_M_84 (by decide +kernel) ⟨by decide, by decide⟩) (fun _ h => h) rfl rfl (Nat.le_of_ble_eq_true rfl) ⟨by decide, by decide⟩ d_M_number_17 (fun r6 u5 hw => ?_)
      refine j_callVi (As := [.int (1 : Int32), .int r6]) X (c_M_fails l D ca ad sz hD hw) (gcV (n := 2) X rfl rfl rfl gc_M_fails m_M_fails l_M_88 (by decide +kernel) ⟨by decide, by decide⟩) (q0 := 33) rfl rfl (fun _ h => h) rfl rfl (Nat.le_of_ble_eq_true rfl) ⟨by decide, by decide⟩ d_M_number_20 (fun r8 u7 hw => ?_)
      refine j_if_eq X d_M_number_23 (tgt := 27) (by decide) (fun h => ?_) (fun h => ?_)
      · have hw := hw.1 h
        refine j_aload_n X d_M_number_27 rfl 0 rfl ?_
        refine j_iload_n X d_M_number_28 rfl 1 rfl ?_
        refine p_33_2 X f_M_92 d_M_number_29 ?_
        refine j_aload_n X d_M_number_32 rfl 0 rfl ?_
        refine j_iload_n X d_M_number_33 rfl 1 rfl ?_
        refine p_33_3 X f_M_95 d_M_number_34 ?_
        exact j_vret X hlk hr d_M_number_37 hw
      · have hw := hw.2 h
        exact j_vret X hlk hr d_M_number_26 hw
  exact hX
def w_M_begin (a1 : Int32) (σ : Jst) (K : Jst → Prop) : Prop := (((σ 33 1) = (0 : Int32) → w_M_outside a1 (0 : Int32) (3 : Int32) σ (fun r2 u1 => w_M_fails (0 : Int32) r2 u1 (fun r4 u3 => ((r4 = (0 : Int32) → ((¬ a1 = (0 : Int32) → ((¬ a1 = (1 : Int32) → ((¬ a1 = (1 : Int32) → ((a1 ≤ (1 : Int32) → K (jup (jup (jup (jup (jup (jup u3 33 1 (5 : Int32)) 33 5 (0 : Int32)) 33 12 (0 : Int32)) 33 13 (a1 - (1 : Int32))) 33 4 (1 : Int32)) 33 6 (0 : Int32))) ∧ (¬ a1 ≤ (1 : Int32) → K (jup (jup (jup (jup (jup (jup u3 33 1 (5 : Int32)) 33 5 (0 : Int32)) 33 12 (1 : Int32)) 33 13 (a1 - (1 : Int32))) 33 4 (1 : Int32)) 33 6 (0 : Int32))))) ∧ (a1 = (1 : Int32) → ((a1 ≤ (1 : Int32) → K (jup (jup (jup (jup (jup (jup u3 33 1 (5 : Int32)) 33 5 (u3 33 9)) 33 12 (0 : Int32)) 33 13 (a1 - (1 : Int32))) 33 4 (1 : Int32)) 33 6 (0 : Int32))) ∧ (¬ a1 ≤ (1 : Int32) → K (jup (jup (jup (jup (jup (jup u3 33 1 (5 : Int32)) 33 5 (u3 33 9)) 33 12 (1 : Int32)) 33 13 (a1 - (1 : Int32))) 33 4 (1 : Int32)) 33 6 (0 : Int32))))))) ∧ (a1 = (1 : Int32) → ((¬ a1 = (1 : Int32) → ((a1 ≤ (1 : Int32) → K (jup (jup (jup (jup (jup (jup u3 33 1 (4 : Int32)) 33 5 (0 : Int32)) 33 12 (0 : Int32)) 33 13 (a1 - (1 : Int32))) 33 4 (1 : Int32)) 33 6 (0 : Int32))) ∧ (¬ a1 ≤ (1 : Int32) → K (jup (jup (jup (jup (jup (jup u3 33 1 (4 : Int32)) 33 5 (0 : Int32)) 33 12 (1 : Int32)) 33 13 (a1 - (1 : Int32))) 33 4 (1 : Int32)) 33 6 (0 : Int32))))) ∧ (a1 = (1 : Int32) → ((a1 ≤ (1 : Int32) → K (jup (jup (jup (jup (jup (jup u3 33 1 (4 : Int32)) 33 5 (u3 33 9)) 33 12 (0 : Int32)) 33 13 (a1 - (1 : Int32))) 33 4 (1 : Int32)) 33 6 (0 : Int32))) ∧ (¬ a1 ≤ (1 : Int32) → K (jup (jup (jup (jup (jup (jup u3 33 1 (4 : Int32)) 33 5 (u3 33 9)) 33 12 (1 : Int32)) 33 13 (a1 - (1 : Int32))) 33 4 (1 : Int32)) 33 6 (0 : Int32))))))))) ∧ (a1 = (0 : Int32) → ((¬ a1 = (1 : Int32) → ((a1 ≤ (1 : Int32) → K (jup (jup (jup (jup (jup (jup u3 33 1 (1 : Int32)) 33 5 (0 : Int32)) 33 12 (0 : Int32)) 33 13 (a1 - (1 : Int32))) 33 4 (1 : Int32)) 33 6 (0 : Int32))) ∧ (¬ a1 ≤ (1 : Int32) → K (jup (jup (jup (jup (jup (jup u3 33 1 (1 : Int32)) 33 5 (0 : Int32)) 33 12 (1 : Int32)) 33 13 (a1 - (1 : Int32))) 33 4 (1 : Int32)) 33 6 (0 : Int32))))) ∧ (a1 = (1 : Int32) → ((a1 ≤ (1 : Int32) → K (jup (jup (jup (jup (jup (jup u3 33 1 (1 : Int32)) 33 5 (u3 33 9)) 33 12 (0 : Int32)) 33 13 (a1 - (1 : Int32))) 33 4 (1 : Int32)) 33 6 (0 : Int32))) ∧ (¬ a1 ≤ (1 : Int32) → K (jup (jup (jup (jup (jup (jup u3 33 1 (1 : Int32)) 33 5 (u3 33 9)) 33 12 (1 : Int32)) 33 13 (a1 - (1 : Int32))) 33 4 (1 : Int32)) 33 6 (0 : Int32))))))))) ∧ (¬ r4 = (0 : Int32) → K u3))))) ∧ (¬ (σ 33 1) = (0 : Int32) → w_M_outside a1 (0 : Int32) (3 : Int32) σ (fun r6 u5 => w_M_fails (1 : Int32) r6 u5 (fun r8 u7 => ((r8 = (0 : Int32) → ((¬ a1 = (0 : Int32) → ((¬ a1 = (1 : Int32) → ((¬ a1 = (1 : Int32) → ((a1 ≤ (1 : Int32) → K (jup (jup (jup (jup (jup (jup u7 33 1 (5 : Int32)) 33 5 (0 : Int32)) 33 12 (0 : Int32)) 33 13 (a1 - (1 : Int32))) 33 4 (1 : Int32)) 33 6 (0 : Int32))) ∧ (¬ a1 ≤ (1 : Int32) → K (jup (jup (jup (jup (jup (jup u7 33 1 (5 : Int32)) 33 5 (0 : Int32)) 33 12 (1 : Int32)) 33 13 (a1 - (1 : Int32))) 33 4 (1 : Int32)) 33 6 (0 : Int32))))) ∧ (a1 = (1 : Int32) → ((a1 ≤ (1 : Int32) → K (jup (jup (jup (jup (jup (jup u7 33 1 (5 : Int32)) 33 5 (u7 33 9)) 33 12 (0 : Int32)) 33 13 (a1 - (1 : Int32))) 33 4 (1 : Int32)) 33 6 (0 : Int32))) ∧ (¬ a1 ≤ (1 : Int32) → K (jup (jup (jup (jup (jup (jup u7 33 1 (5 : Int32)) 33 5 (u7 33 9)) 33 12 (1 : Int32)) 33 13 (a1 - (1 : Int32))) 33 4 (1 : Int32)) 33 6 (0 : Int32))))))) ∧ (a1 = (1 : Int32) → ((¬ a1 = (1 : Int32) → ((a1 ≤ (1 : Int32) → K (jup (jup (jup (jup (jup (jup u7 33 1 (4 : Int32)) 33 5 (0 : Int32)) 33 12 (0 : Int32)) 33 13 (a1 - (1 : Int32))) 33 4 (1 : Int32)) 33 6 (0 : Int32))) ∧ (¬ a1 ≤ (1 : Int32) → K (jup (jup (jup (jup (jup (jup u7 33 1 (4 : Int32)) 33 5 (0 : Int32)) 33 12 (1 : Int32)) 33 13 (a1 - (1 : Int32))) 33 4 (1 : Int32)) 33 6 (0 : Int32))))) ∧ (a1 = (1 : Int32) → ((a1 ≤ (1 : Int32) → K (jup (jup (jup (jup (jup (jup u7 33 1 (4 : Int32)) 33 5 (u7 33 9)) 33 12 (0 : Int32)) 33 13 (a1 - (1 : Int32))) 33 4 (1 : Int32)) 33 6 (0 : Int32))) ∧ (¬ a1 ≤ (1 : Int32) → K (jup (jup (jup (jup (jup (jup u7 33 1 (4 : Int32)) 33 5 (u7 33 9)) 33 12 (1 : Int32)) 33 13 (a1 - (1 : Int32))) 33 4 (1 : Int32)) 33 6 (0 : Int32))))))))) ∧ (a1 = (0 : Int32) → ((¬ a1 = (1 : Int32) → ((a1 ≤ (1 : Int32) → K (jup (jup (jup (jup (jup (jup u7 33 1 (1 : Int32)) 33 5 (0 : Int32)) 33 12 (0 : Int32)) 33 13 (a1 - (1 : Int32))) 33 4 (1 : Int32)) 33 6 (0 : Int32))) ∧ (¬ a1 ≤ (1 : Int32) → K (jup (jup (jup (jup (jup (jup u7 33 1 (1 : Int32)) 33 5 (0 : Int32)) 33 12 (1 : Int32)) 33 13 (a1 - (1 : Int32))) 33 4 (1 : Int32)) 33 6 (0 : Int32))))) ∧ (a1 = (1 : Int32) → ((a1 ≤ (1 : Int32) → K (jup (jup (jup (jup (jup (jup u7 33 1 (1 : Int32)) 33 5 (u7 33 9)) 33 12 (0 : Int32)) 33 13 (a1 - (1 : Int32))) 33 4 (1 : Int32)) 33 6 (0 : Int32))) ∧ (¬ a1 ≤ (1 : Int32) → K (jup (jup (jup (jup (jup (jup u7 33 1 (1 : Int32)) 33 5 (u7 33 9)) 33 12 (1 : Int32)) 33 13 (a1 - (1 : Int32))) 33 4 (1 : Int32)) 33 6 (0 : Int32))))))))) ∧ (¬ r8 = (0 : Int32) → K u7))))))
abbrev rm_M_begin : Room := { frames := 1, cells := 0, slots := 0, locals := 22 }
set_option maxRecDepth 100000 in
set_option maxHeartbeats 4000000 in
theorem c_M_begin (l : Launch) (D : va_G) (ca ad : Nat → Nat) (sz : Nat) (hD : Jd ca ad sz) {a1 : Int32} {σ : Jst} {K : Jst → Prop} (hw : w_M_begin a1 σ K) : Met l y_M_begin (wG y_M_begin b_M_begin 2 none) rm_M_begin (va_Pc [.ref (ad 33), .int a1] (Jw D vwCl (tysT ca) (wlT ad ca) (NwT sz) σ)) (va_Qv K (Jq D vwCl (wlT ad ca)) (Aw sz)) 0 0 (Aw sz) := by
  refine j_met (cc := b_M_begin) (own := R_M) (by decide +kernel) rfl (Nat.le_of_ble_eq_true rfl) rfl hD (nwT_k sz) ?_
  intro p e s m args below meth c X hlk hr
  have hX : J p l e rm_M_begin s m args below meth c D vwCl (wlT ad ca) (Aw sz) 2 0 0 (MQ below (va_Qv K (Jq D vwCl (wlT ad ca)) (Aw sz)) args s 0 0 (Aw sz)) 0 [(0, .ref (ad 33)), (1, .int a1)] [] σ := by
    unfold w_M_begin at hw
    refine j_aload_n X d_M_begin_0 rfl 0 rfl ?_
    refine j_aload_n X d_M_begin_1 rfl 0 rfl ?_
    refine g_33_1 X f_M_81 (v := (σ 33 1)) rfl d_M_begin_2 ?_
    refine j_if_eq X d_M_begin_5 (tgt := 12) (by decide) (fun h => ?_) (fun h => ?_)
    · have hw := hw.1 h
      refine j_iconst X (v := (0 : Int32)) d_M_begin_12 (by decide) ?_
      refine j_iload_n X d_M_begin_13 rfl 1 rfl ?_
      refine j_iconst X (v := (0 : Int32)) d_M_begin_14 (by decide) ?_
      refine j_iconst X (v := (3 : Int32)) d_M_begin_15 (by decide) ?_
      refine j_callSi (As := [.int a1, .int (0 : Int32), .int (3 : Int32)]) X (c_M_outside l D ca ad sz hD hw) (gcS (n := 3) X rfl rfl rfl gc_M_outside m_M_outside l_M_84 (by decide +kernel) ⟨by decide, by decide⟩) (fun _ h => h) rfl rfl (Nat.le_of_ble_eq_true rfl) ⟨by decide, by decide⟩ d_M_begin_16 (fun r2 u1 hw => ?_)
      refine j_callVi (As := [.int (0 : Int32), .int r2]) X (c_M_fails l D ca ad sz hD hw) (gcV (n := 2) X rfl rfl rfl gc_M_fails m_M_fails l_M_88 (by decide +kernel) ⟨by decide, by decide⟩) (q0 := 33) rfl rfl (fun _ h => h) rfl rfl (Nat.le_of_ble_eq_true rfl) ⟨by decide, by decide⟩ d_M_begin_19 (fun r4 u3 hw => ?_)
      refine j_if_eq X d_M_begin_22 (tgt := 26) (by decide) (fun h => ?_) (fun h => ?_)
      · have hw := hw.1 h
        refine j_aload_n X d_M_begin_26 rfl 0 rfl ?_
        refine j_iload_n X d_M_begin_27 rfl 1 rfl ?_
        refine j_if_ne X d_M_begin_28 (tgt := 35) (by decide) (fun h => ?_) (fun h => ?_)
        · have hw := hw.1 h
          refine j_iload_n X d_M_begin_35 rfl 1 rfl ?_
          refine j_iconst X (v := (1 : Int32)) d_M_begin_36 (by decide) ?_
          refine j_icmp_ne X d_M_begin_37 (tgt := 44) (by decide) (fun h => ?_) (fun h => ?_)
          · have hw := hw.1 h
            refine j_iconst X (v := (5 : Int32)) d_M_begin_44 (by decide) ?_
            refine p_33_1 X f_M_81 d_M_begin_45 ?_
            refine j_aload_n X d_M_begin_48 rfl 0 rfl ?_
            refine j_iload_n X d_M_begin_49 rfl 1 rfl ?_
            refine j_iconst X (v := (1 : Int32)) d_M_begin_50 (by decide) ?_
            refine j_icmp_ne X d_M_begin_51 (tgt := 61) (by decide) (fun h => ?_) (fun h => ?_)
            · have hw := hw.1 h
              refine j_iconst X (v := (0 : Int32)) d_M_begin_61 (by decide) ?_
              refine p_33_5 X f_M_98 d_M_begin_62 ?_
              refine j_aload_n X d_M_begin_65 rfl 0 rfl ?_
              refine j_iload_n X d_M_begin_66 rfl 1 rfl ?_
              refine j_iconst X (v := (1 : Int32)) d_M_begin_67 (by decide) ?_
              refine j_icmp_le X d_M_begin_68 (tgt := 75) (by decide) (fun h => ?_) (fun h => ?_)
              · have hw := hw.1 h
                refine j_iconst X (v := (0 : Int32)) d_M_begin_75 (by decide) ?_
                refine p_33_12 X f_M_101 rfl rfl d_M_begin_76 ?_
                refine j_aload_n X d_M_begin_79 rfl 0 rfl ?_
                refine j_iload_n X d_M_begin_80 rfl 1 rfl ?_
                refine j_iconst X (v := (1 : Int32)) d_M_begin_81 (by decide) ?_
                refine j_isub X d_M_begin_82 ?_
                refine p_33_13 X f_M_105 d_M_begin_83 ?_
                refine j_aload_n X d_M_begin_86 rfl 0 rfl ?_
                refine j_iconst X (v := (1 : Int32)) d_M_begin_87 (by decide) ?_
                refine p_33_4 X f_M_108 d_M_begin_88 ?_
                refine j_aload_n X d_M_begin_91 rfl 0 rfl ?_
                refine j_iconst X (v := (0 : Int32)) d_M_begin_92 (by decide) ?_
                refine p_33_6 X f_M_111 d_M_begin_93 ?_
                exact j_vret X hlk hr d_M_begin_96 hw
              · have hw := hw.2 h
                refine j_iconst X (v := (1 : Int32)) d_M_begin_71 (by decide) ?_
                refine j_goto X d_M_begin_72 (tgt := 76) (by decide) ?_
                refine p_33_12 X f_M_101 rfl rfl d_M_begin_76 ?_
                refine j_aload_n X d_M_begin_79 rfl 0 rfl ?_
                refine j_iload_n X d_M_begin_80 rfl 1 rfl ?_
                refine j_iconst X (v := (1 : Int32)) d_M_begin_81 (by decide) ?_
                refine j_isub X d_M_begin_82 ?_
                refine p_33_13 X f_M_105 d_M_begin_83 ?_
                refine j_aload_n X d_M_begin_86 rfl 0 rfl ?_
                refine j_iconst X (v := (1 : Int32)) d_M_begin_87 (by decide) ?_
                refine p_33_4 X f_M_108 d_M_begin_88 ?_
                refine j_aload_n X d_M_begin_91 rfl 0 rfl ?_
                refine j_iconst X (v := (0 : Int32)) d_M_begin_92 (by decide) ?_
                refine p_33_6 X f_M_111 d_M_begin_93 ?_
                exact j_vret X hlk hr d_M_begin_96 hw
            · have hw := hw.2 h
              refine j_aload_n X d_M_begin_54 rfl 0 rfl ?_
              refine g_33_9 X f_M_16 (v := (u3 33 9)) rfl d_M_begin_55 ?_
              refine j_goto X d_M_begin_58 (tgt := 62) (by decide) ?_
              refine p_33_5 X f_M_98 d_M_begin_62 ?_
              refine j_aload_n X d_M_begin_65 rfl 0 rfl ?_
              refine j_iload_n X d_M_begin_66 rfl 1 rfl ?_
              refine j_iconst X (v := (1 : Int32)) d_M_begin_67 (by decide) ?_
              refine j_icmp_le X d_M_begin_68 (tgt := 75) (by decide) (fun h => ?_) (fun h => ?_)
              · have hw := hw.1 h
                refine j_iconst X (v := (0 : Int32)) d_M_begin_75 (by decide) ?_
                refine p_33_12 X f_M_101 rfl rfl d_M_begin_76 ?_
                refine j_aload_n X d_M_begin_79 rfl 0 rfl ?_
                refine j_iload_n X d_M_begin_80 rfl 1 rfl ?_
                refine j_iconst X (v := (1 : Int32)) d_M_begin_81 (by decide) ?_
                refine j_isub X d_M_begin_82 ?_
                refine p_33_13 X f_M_105 d_M_begin_83 ?_
                refine j_aload_n X d_M_begin_86 rfl 0 rfl ?_
                refine j_iconst X (v := (1 : Int32)) d_M_begin_87 (by decide) ?_
                refine p_33_4 X f_M_108 d_M_begin_88 ?_
                refine j_aload_n X d_M_begin_91 rfl 0 rfl ?_
                refine j_iconst X (v := (0 : Int32)) d_M_begin_92 (by decide) ?_
                refine p_33_6 X f_M_111 d_M_begin_93 ?_
                exact j_vret X hlk hr d_M_begin_96 hw
              · have hw := hw.2 h
                refine j_iconst X (v := (1 : Int32)) d_M_begin_71 (by decide) ?_
                refine j_goto X d_M_begin_72 (tgt := 76) (by decide) ?_
                refine p_33_12 X f_M_101 rfl rfl d_M_begin_76 ?_
                refine j_aload_n X d_M_begin_79 rfl 0 rfl ?_
                refine j_iload_n X d_M_begin_80 rfl 1 rfl ?_
                refine j_iconst X (v := (1 : Int32)) d_M_begin_81 (by decide) ?_
                refine j_isub X d_M_begin_82 ?_
                refine p_33_13 X f_M_105 d_M_begin_83 ?_
                refine j_aload_n X d_M_begin_86 rfl 0 rfl ?_
                refine j_iconst X (v := (1 : Int32)) d_M_begin_87 (by decide) ?_
                refine p_33_4 X f_M_108 d_M_begin_88 ?_
                refine j_aload_n X d_M_begin_91 rfl 0 rfl ?_
                refine j_iconst X (v := (0 : Int32)) d_M_begin_92 (by decide) ?_
                refine p_33_6 X f_M_111 d_M_begin_93 ?_
                exact j_vret X hlk hr d_M_begin_96 hw
          · have hw := hw.2 h
            refine j_iconst X (v := (4 : Int32)) d_M_begin_40 (by decide) ?_
            refine j_goto X d_M_begin_41 (tgt := 45) (by decide) ?_
            refine p_33_1 X f_M_81 d_M_begin_45 ?_
            refine j_aload_n X d_M_begin_48 rfl 0 rfl ?_
            refine j_iload_n X d_M_begin_49 rfl 1 rfl ?_
            refine j_iconst X (v := (1 : Int32)) d_M_begin_50 (by decide) ?_
            refine j_icmp_ne X d_M_begin_51 (tgt := 61) (by decide) (fun h => ?_) (fun h => ?_)
            · have hw := hw.1 h
              refine j_iconst X (v := (0 : Int32)) d_M_begin_61 (by decide) ?_
              refine p_33_5 X f_M_98 d_M_begin_62 ?_
              refine j_aload_n X d_M_begin_65 rfl 0 rfl ?_
              refine j_iload_n X d_M_begin_66 rfl 1 rfl ?_
              refine j_iconst X (v := (1 : Int32)) d_M_begin_67 (by decide) ?_
              refine j_icmp_le X d_M_begin_68 (tgt := 75) (by decide) (fun h => ?_) (fun h => ?_)
              · have hw := hw.1 h
                refine j_iconst X (v := (0 : Int32)) d_M_begin_75 (by decide) ?_
                refine p_33_12 X f_M_101 rfl rfl d_M_begin_76 ?_
                refine j_aload_n X d_M_begin_79 rfl 0 rfl ?_
                refine j_iload_n X d_M_begin_80 rfl 1 rfl ?_
                refine j_iconst X (v := (1 : Int32)) d_M_begin_81 (by decide) ?_
                refine j_isub X d_M_begin_82 ?_
                refine p_33_13 X f_M_105 d_M_begin_83 ?_
                refine j_aload_n X d_M_begin_86 rfl 0 rfl ?_
                refine j_iconst X (v := (1 : Int32)) d_M_begin_87 (by decide) ?_
                refine p_33_4 X f_M_108 d_M_begin_88 ?_
                refine j_aload_n X d_M_begin_91 rfl 0 rfl ?_
                refine j_iconst X (v := (0 : Int32)) d_M_begin_92 (by decide) ?_
                refine p_33_6 X f_M_111 d_M_begin_93 ?_
                exact j_vret X hlk hr d_M_begin_96 hw
              · have hw := hw.2 h
                refine j_iconst X (v := (1 : Int32)) d_M_begin_71 (by decide) ?_
                refine j_goto X d_M_begin_72 (tgt := 76) (by decide) ?_
                refine p_33_12 X f_M_101 rfl rfl d_M_begin_76 ?_
                refine j_aload_n X d_M_begin_79 rfl 0 rfl ?_
                refine j_iload_n X d_M_begin_80 rfl 1 rfl ?_
                refine j_iconst X (v := (1 : Int32)) d_M_begin_81 (by decide) ?_
                refine j_isub X d_M_begin_82 ?_
                refine p_33_13 X f_M_105 d_M_begin_83 ?_
                refine j_aload_n X d_M_begin_86 rfl 0 rfl ?_
                refine j_iconst X (v := (1 : Int32)) d_M_begin_87 (by decide) ?_
                refine p_33_4 X f_M_108 d_M_begin_88 ?_
                refine j_aload_n X d_M_begin_91 rfl 0 rfl ?_
                refine j_iconst X (v := (0 : Int32)) d_M_begin_92 (by decide) ?_
                refine p_33_6 X f_M_111 d_M_begin_93 ?_
                exact j_vret X hlk hr d_M_begin_96 hw
            · have hw := hw.2 h
              refine j_aload_n X d_M_begin_54 rfl 0 rfl ?_
              refine g_33_9 X f_M_16 (v := (u3 33 9)) rfl d_M_begin_55 ?_
              refine j_goto X d_M_begin_58 (tgt := 62) (by decide) ?_
              refine p_33_5 X f_M_98 d_M_begin_62 ?_
              refine j_aload_n X d_M_begin_65 rfl 0 rfl ?_
              refine j_iload_n X d_M_begin_66 rfl 1 rfl ?_
              refine j_iconst X (v := (1 : Int32)) d_M_begin_67 (by decide) ?_
              refine j_icmp_le X d_M_begin_68 (tgt := 75) (by decide) (fun h => ?_) (fun h => ?_)
              · have hw := hw.1 h
                refine j_iconst X (v := (0 : Int32)) d_M_begin_75 (by decide) ?_
                refine p_33_12 X f_M_101 rfl rfl d_M_begin_76 ?_
                refine j_aload_n X d_M_begin_79 rfl 0 rfl ?_
                refine j_iload_n X d_M_begin_80 rfl 1 rfl ?_
                refine j_iconst X (v := (1 : Int32)) d_M_begin_81 (by decide) ?_
                refine j_isub X d_M_begin_82 ?_
                refine p_33_13 X f_M_105 d_M_begin_83 ?_
                refine j_aload_n X d_M_begin_86 rfl 0 rfl ?_
                refine j_iconst X (v := (1 : Int32)) d_M_begin_87 (by decide) ?_
                refine p_33_4 X f_M_108 d_M_begin_88 ?_
                refine j_aload_n X d_M_begin_91 rfl 0 rfl ?_
                refine j_iconst X (v := (0 : Int32)) d_M_begin_92 (by decide) ?_
                refine p_33_6 X f_M_111 d_M_begin_93 ?_
                exact j_vret X hlk hr d_M_begin_96 hw
              · have hw := hw.2 h
                refine j_iconst X (v := (1 : Int32)) d_M_begin_71 (by decide) ?_
                refine j_goto X d_M_begin_72 (tgt := 76) (by decide) ?_
                refine p_33_12 X f_M_101 rfl rfl d_M_begin_76 ?_
                refine j_aload_n X d_M_begin_79 rfl 0 rfl ?_
                refine j_iload_n X d_M_begin_80 rfl 1 rfl ?_
                refine j_iconst X (v := (1 : Int32)) d_M_begin_81 (by decide) ?_
                refine j_isub X d_M_begin_82 ?_
                refine p_33_13 X f_M_105 d_M_begin_83 ?_
                refine j_aload_n X d_M_begin_86 rfl 0 rfl ?_
                refine j_iconst X (v := (1 : Int32)) d_M_begin_87 (by decide) ?_
                refine p_33_4 X f_M_108 d_M_begin_88 ?_
                refine j_aload_n X d_M_begin_91 rfl 0 rfl ?_
                refine j_iconst X (v := (0 : Int32)) d_M_begin_92 (by decide) ?_
                refine p_33_6 X f_M_111 d_M_begin_93 ?_
                exact j_vret X hlk hr d_M_begin_96 hw
        · have hw := hw.2 h
          refine j_iconst X (v := (1 : Int32)) d_M_begin_31 (by decide) ?_
          refine j_goto X d_M_begin_32 (tgt := 45) (by decide) ?_
          refine p_33_1 X f_M_81 d_M_begin_45 ?_
          refine j_aload_n X d_M_begin_48 rfl 0 rfl ?_
          refine j_iload_n X d_M_begin_49 rfl 1 rfl ?_
          refine j_iconst X (v := (1 : Int32)) d_M_begin_50 (by decide) ?_
          refine j_icmp_ne X d_M_begin_51 (tgt := 61) (by decide) (fun h => ?_) (fun h => ?_)
          · have hw := hw.1 h
            refine j_iconst X (v := (0 : Int32)) d_M_begin_61 (by decide) ?_
            refine p_33_5 X f_M_98 d_M_begin_62 ?_
            refine j_aload_n X d_M_begin_65 rfl 0 rfl ?_
            refine j_iload_n X d_M_begin_66 rfl 1 rfl ?_
            refine j_iconst X (v := (1 : Int32)) d_M_begin_67 (by decide) ?_
            refine j_icmp_le X d_M_begin_68 (tgt := 75) (by decide) (fun h => ?_) (fun h => ?_)
            · have hw := hw.1 h
              refine j_iconst X (v := (0 : Int32)) d_M_begin_75 (by decide) ?_
              refine p_33_12 X f_M_101 rfl rfl d_M_begin_76 ?_
              refine j_aload_n X d_M_begin_79 rfl 0 rfl ?_
              refine j_iload_n X d_M_begin_80 rfl 1 rfl ?_
              refine j_iconst X (v := (1 : Int32)) d_M_begin_81 (by decide) ?_
              refine j_isub X d_M_begin_82 ?_
              refine p_33_13 X f_M_105 d_M_begin_83 ?_
              refine j_aload_n X d_M_begin_86 rfl 0 rfl ?_
              refine j_iconst X (v := (1 : Int32)) d_M_begin_87 (by decide) ?_
              refine p_33_4 X f_M_108 d_M_begin_88 ?_
              refine j_aload_n X d_M_begin_91 rfl 0 rfl ?_
              refine j_iconst X (v := (0 : Int32)) d_M_begin_92 (by decide) ?_
              refine p_33_6 X f_M_111 d_M_begin_93 ?_
              exact j_vret X hlk hr d_M_begin_96 hw
            · have hw := hw.2 h
              refine j_iconst X (v := (1 : Int32)) d_M_begin_71 (by decide) ?_
              refine j_goto X d_M_begin_72 (tgt := 76) (by decide) ?_
              refine p_33_12 X f_M_101 rfl rfl d_M_begin_76 ?_
              refine j_aload_n X d_M_begin_79 rfl 0 rfl ?_
              refine j_iload_n X d_M_begin_80 rfl 1 rfl ?_
              refine j_iconst X (v := (1 : Int32)) d_M_begin_81 (by decide) ?_
              refine j_isub X d_M_begin_82 ?_
              refine p_33_13 X f_M_105 d_M_begin_83 ?_
              refine j_aload_n X d_M_begin_86 rfl 0 rfl ?_
              refine j_iconst X (v := (1 : Int32)) d_M_begin_87 (by decide) ?_
              refine p_33_4 X f_M_108 d_M_begin_88 ?_
              refine j_aload_n X d_M_begin_91 rfl 0 rfl ?_
              refine j_iconst X (v := (0 : Int32)) d_M_begin_92 (by decide) ?_
              refine p_33_6 X f_M_111 d_M_begin_93 ?_
              exact j_vret X hlk hr d_M_begin_96 hw
          · have hw := hw.2 h
            refine j_aload_n X d_M_begin_54 rfl 0 rfl ?_
            refine g_33_9 X f_M_16 (v := (u3 33 9)) rfl d_M_begin_55 ?_
            refine j_goto X d_M_begin_58 (tgt := 62) (by decide) ?_
            refine p_33_5 X f_M_98 d_M_begin_62 ?_
            refine j_aload_n X d_M_begin_65 rfl 0 rfl ?_
            refine j_iload_n X d_M_begin_66 rfl 1 rfl ?_
            refine j_iconst X (v := (1 : Int32)) d_M_begin_67 (by decide) ?_
            refine j_icmp_le X d_M_begin_68 (tgt := 75) (by decide) (fun h => ?_) (fun h => ?_)
            · have hw := hw.1 h
              refine j_iconst X (v := (0 : Int32)) d_M_begin_75 (by decide) ?_
              refine p_33_12 X f_M_101 rfl rfl d_M_begin_76 ?_
              refine j_aload_n X d_M_begin_79 rfl 0 rfl ?_
              refine j_iload_n X d_M_begin_80 rfl 1 rfl ?_
              refine j_iconst X (v := (1 : Int32)) d_M_begin_81 (by decide) ?_
              refine j_isub X d_M_begin_82 ?_
              refine p_33_13 X f_M_105 d_M_begin_83 ?_
              refine j_aload_n X d_M_begin_86 rfl 0 rfl ?_
              refine j_iconst X (v := (1 : Int32)) d_M_begin_87 (by decide) ?_
              refine p_33_4 X f_M_108 d_M_begin_88 ?_
              refine j_aload_n X d_M_begin_91 rfl 0 rfl ?_
              refine j_iconst X (v := (0 : Int32)) d_M_begin_92 (by decide) ?_
              refine p_33_6 X f_M_111 d_M_begin_93 ?_
              exact j_vret X hlk hr d_M_begin_96 hw
            · have hw := hw.2 h
              refine j_iconst X (v := (1 : Int32)) d_M_begin_71 (by decide) ?_
              refine j_goto X d_M_begin_72 (tgt := 76) (by decide) ?_
              refine p_33_12 X f_M_101 rfl rfl d_M_begin_76 ?_
              refine j_aload_n X d_M_begin_79 rfl 0 rfl ?_
              refine j_iload_n X d_M_begin_80 rfl 1 rfl ?_
              refine j_iconst X (v := (1 : Int32)) d_M_begin_81 (by decide) ?_
              refine j_isub X d_M_begin_82 ?_
              refine p_33_13 X f_M_105 d_M_begin_83 ?_
              refine j_aload_n X d_M_begin_86 rfl 0 rfl ?_
              refine j_iconst X (v := (1 : Int32)) d_M_begin_87 (by decide) ?_
              refine p_33_4 X f_M_108 d_M_begin_88 ?_
              refine j_aload_n X d_M_begin_91 rfl 0 rfl ?_
              refine j_iconst X (v := (0 : Int32)) d_M_begin_92 (by decide) ?_
              refine p_33_6 X f_M_111 d_M_begin_93 ?_
              exact j_vret X hlk hr d_M_begin_96 hw
      · have hw := hw.2 h
        exact j_vret X hlk hr d_M_begin_25 hw
    · have hw := hw.2 h
      refine j_iconst X (v := (1 : Int32)) d_M_begin_8 (by decide) ?_
      refine j_goto X d_M_begin_9 (tgt := 13) (by decide) ?_
      refine j_iload_n X d_M_begin_13 rfl 1 rfl ?_
      refine j_iconst X (v := (0 : Int32)) d_M_begin_14 (by decide) ?_
      refine j_iconst X (v := (3 : Int32)) d_M_begin_15 (by decide) ?_
      refine j_callSi (As := [.int a1, .int (0 : Int32), .int (3 : Int32)]) X (c_M_outside l D ca ad sz hD hw) (gcS (n := 3) X rfl rfl rfl gc_M_outside m_M_outside l_M_84 (by decide +kernel) ⟨by decide, by decide⟩) (fun _ h => h) rfl rfl (Nat.le_of_ble_eq_true rfl) ⟨by decide, by decide⟩ d_M_begin_16 (fun r6 u5 hw => ?_)
      refine j_callVi (As := [.int (1 : Int32), .int r6]) X (c_M_fails l D ca ad sz hD hw) (gcV (n := 2) X rfl rfl rfl gc_M_fails m_M_fails l_M_88 (by decide +kernel) ⟨by decide, by decide⟩) (q0 := 33) rfl rfl (fun _ h => h) rfl rfl (Nat.le_of_ble_eq_true rfl) ⟨by decide, by decide⟩ d_M_begin_19 (fun r8 u7 hw => ?_)
      refine j_if_eq X d_M_begin_22 (tgt := 26) (by decide) (fun h => ?_) (fun h => ?_)
      · have hw := hw.1 h
        refine j_aload_n X d_M_begin_26 rfl 0 rfl ?_
        refine j_iload_n X d_M_begin_27 rfl 1 rfl ?_
        refine j_if_ne X d_M_begin_28 (tgt := 35) (by decide) (fun h => ?_) (fun h => ?_)
        · have hw := hw.1 h
          refine j_iload_n X d_M_begin_35 rfl 1 rfl ?_
          refine j_iconst X (v := (1 : Int32)) d_M_begin_36 (by decide) ?_
          refine j_icmp_ne X d_M_begin_37 (tgt := 44) (by decide) (fun h => ?_) (fun h => ?_)
          · have hw := hw.1 h
            refine j_iconst X (v := (5 : Int32)) d_M_begin_44 (by decide) ?_
            refine p_33_1 X f_M_81 d_M_begin_45 ?_
            refine j_aload_n X d_M_begin_48 rfl 0 rfl ?_
            refine j_iload_n X d_M_begin_49 rfl 1 rfl ?_
            refine j_iconst X (v := (1 : Int32)) d_M_begin_50 (by decide) ?_
            refine j_icmp_ne X d_M_begin_51 (tgt := 61) (by decide) (fun h => ?_) (fun h => ?_)
            · have hw := hw.1 h
              refine j_iconst X (v := (0 : Int32)) d_M_begin_61 (by decide) ?_
              refine p_33_5 X f_M_98 d_M_begin_62 ?_
              refine j_aload_n X d_M_begin_65 rfl 0 rfl ?_
              refine j_iload_n X d_M_begin_66 rfl 1 rfl ?_
              refine j_iconst X (v := (1 : Int32)) d_M_begin_67 (by decide) ?_
              refine j_icmp_le X d_M_begin_68 (tgt := 75) (by decide) (fun h => ?_) (fun h => ?_)
              · have hw := hw.1 h
                refine j_iconst X (v := (0 : Int32)) d_M_begin_75 (by decide) ?_
                refine p_33_12 X f_M_101 rfl rfl d_M_begin_76 ?_
                refine j_aload_n X d_M_begin_79 rfl 0 rfl ?_
                refine j_iload_n X d_M_begin_80 rfl 1 rfl ?_
                refine j_iconst X (v := (1 : Int32)) d_M_begin_81 (by decide) ?_
                refine j_isub X d_M_begin_82 ?_
                refine p_33_13 X f_M_105 d_M_begin_83 ?_
                refine j_aload_n X d_M_begin_86 rfl 0 rfl ?_
                refine j_iconst X (v := (1 : Int32)) d_M_begin_87 (by decide) ?_
                refine p_33_4 X f_M_108 d_M_begin_88 ?_
                refine j_aload_n X d_M_begin_91 rfl 0 rfl ?_
                refine j_iconst X (v := (0 : Int32)) d_M_begin_92 (by decide) ?_
                refine p_33_6 X f_M_111 d_M_begin_93 ?_
                exact j_vret X hlk hr d_M_begin_96 hw
              · have hw := hw.2 h
                refine j_iconst X (v := (1 : Int32)) d_M_begin_71 (by decide) ?_
                refine j_goto X d_M_begin_72 (tgt := 76) (by decide) ?_
                refine p_33_12 X f_M_101 rfl rfl d_M_begin_76 ?_
                refine j_aload_n X d_M_begin_79 rfl 0 rfl ?_
                refine j_iload_n X d_M_begin_80 rfl 1 rfl ?_
                refine j_iconst X (v := (1 : Int32)) d_M_begin_81 (by decide) ?_
                refine j_isub X d_M_begin_82 ?_
                refine p_33_13 X f_M_105 d_M_begin_83 ?_
                refine j_aload_n X d_M_begin_86 rfl 0 rfl ?_
                refine j_iconst X (v := (1 : Int32)) d_M_begin_87 (by decide) ?_
                refine p_33_4 X f_M_108 d_M_begin_88 ?_
                refine j_aload_n X d_M_begin_91 rfl 0 rfl ?_
                refine j_iconst X (v := (0 : Int32)) d_M_begin_92 (by decide) ?_
                refine p_33_6 X f_M_111 d_M_begin_93 ?_
                exact j_vret X hlk hr d_M_begin_96 hw
            · have hw := hw.2 h
              refine j_aload_n X d_M_begin_54 rfl 0 rfl ?_
              refine g_33_9 X f_M_16 (v := (u7 33 9)) rfl d_M_begin_55 ?_
              refine j_goto X d_M_begin_58 (tgt := 62) (by decide) ?_
              refine p_33_5 X f_M_98 d_M_begin_62 ?_
              refine j_aload_n X d_M_begin_65 rfl 0 rfl ?_
              refine j_iload_n X d_M_begin_66 rfl 1 rfl ?_
              refine j_iconst X (v := (1 : Int32)) d_M_begin_67 (by decide) ?_
              refine j_icmp_le X d_M_begin_68 (tgt := 75) (by decide) (fun h => ?_) (fun h => ?_)
              · have hw := hw.1 h
                refine j_iconst X (v := (0 : Int32)) d_M_begin_75 (by decide) ?_
                refine p_33_12 X f_M_101 rfl rfl d_M_begin_76 ?_
                refine j_aload_n X d_M_begin_79 rfl 0 rfl ?_
                refine j_iload_n X d_M_begin_80 rfl 1 rfl ?_
                refine j_iconst X (v := (1 : Int32)) d_M_begin_81 (by decide) ?_
                refine j_isub X d_M_begin_82 ?_
                refine p_33_13 X f_M_105 d_M_begin_83 ?_
                refine j_aload_n X d_M_begin_86 rfl 0 rfl ?_
                refine j_iconst X (v := (1 : Int32)) d_M_begin_87 (by decide) ?_
                refine p_33_4 X f_M_108 d_M_begin_88 ?_
                refine j_aload_n X d_M_begin_91 rfl 0 rfl ?_
                refine j_iconst X (v := (0 : Int32)) d_M_begin_92 (by decide) ?_
                refine p_33_6 X f_M_111 d_M_begin_93 ?_
                exact j_vret X hlk hr d_M_begin_96 hw
              · have hw := hw.2 h
                refine j_iconst X (v := (1 : Int32)) d_M_begin_71 (by decide) ?_
                refine j_goto X d_M_begin_72 (tgt := 76) (by decide) ?_
                refine p_33_12 X f_M_101 rfl rfl d_M_begin_76 ?_
                refine j_aload_n X d_M_begin_79 rfl 0 rfl ?_
                refine j_iload_n X d_M_begin_80 rfl 1 rfl ?_
                refine j_iconst X (v := (1 : Int32)) d_M_begin_81 (by decide) ?_
                refine j_isub X d_M_begin_82 ?_
                refine p_33_13 X f_M_105 d_M_begin_83 ?_
                refine j_aload_n X d_M_begin_86 rfl 0 rfl ?_
                refine j_iconst X (v := (1 : Int32)) d_M_begin_87 (by decide) ?_
                refine p_33_4 X f_M_108 d_M_begin_88 ?_
                refine j_aload_n X d_M_begin_91 rfl 0 rfl ?_
                refine j_iconst X (v := (0 : Int32)) d_M_begin_92 (by decide) ?_
                refine p_33_6 X f_M_111 d_M_begin_93 ?_
                exact j_vret X hlk hr d_M_begin_96 hw
          · have hw := hw.2 h
            refine j_iconst X (v := (4 : Int32)) d_M_begin_40 (by decide) ?_
            refine j_goto X d_M_begin_41 (tgt := 45) (by decide) ?_
            refine p_33_1 X f_M_81 d_M_begin_45 ?_
            refine j_aload_n X d_M_begin_48 rfl 0 rfl ?_
            refine j_iload_n X d_M_begin_49 rfl 1 rfl ?_
            refine j_iconst X (v := (1 : Int32)) d_M_begin_50 (by decide) ?_
            refine j_icmp_ne X d_M_begin_51 (tgt := 61) (by decide) (fun h => ?_) (fun h => ?_)
            · have hw := hw.1 h
              refine j_iconst X (v := (0 : Int32)) d_M_begin_61 (by decide) ?_
              refine p_33_5 X f_M_98 d_M_begin_62 ?_
              refine j_aload_n X d_M_begin_65 rfl 0 rfl ?_
              refine j_iload_n X d_M_begin_66 rfl 1 rfl ?_
              refine j_iconst X (v := (1 : Int32)) d_M_begin_67 (by decide) ?_
              refine j_icmp_le X d_M_begin_68 (tgt := 75) (by decide) (fun h => ?_) (fun h => ?_)
              · have hw := hw.1 h
                refine j_iconst X (v := (0 : Int32)) d_M_begin_75 (by decide) ?_
                refine p_33_12 X f_M_101 rfl rfl d_M_begin_76 ?_
                refine j_aload_n X d_M_begin_79 rfl 0 rfl ?_
                refine j_iload_n X d_M_begin_80 rfl 1 rfl ?_
                refine j_iconst X (v := (1 : Int32)) d_M_begin_81 (by decide) ?_
                refine j_isub X d_M_begin_82 ?_
                refine p_33_13 X f_M_105 d_M_begin_83 ?_
                refine j_aload_n X d_M_begin_86 rfl 0 rfl ?_
                refine j_iconst X (v := (1 : Int32)) d_M_begin_87 (by decide) ?_
                refine p_33_4 X f_M_108 d_M_begin_88 ?_
                refine j_aload_n X d_M_begin_91 rfl 0 rfl ?_
                refine j_iconst X (v := (0 : Int32)) d_M_begin_92 (by decide) ?_
                refine p_33_6 X f_M_111 d_M_begin_93 ?_
                exact j_vret X hlk hr d_M_begin_96 hw
              · have hw := hw.2 h
                refine j_iconst X (v := (1 : Int32)) d_M_begin_71 (by decide) ?_
                refine j_goto X d_M_begin_72 (tgt := 76) (by decide) ?_
                refine p_33_12 X f_M_101 rfl rfl d_M_begin_76 ?_
                refine j_aload_n X d_M_begin_79 rfl 0 rfl ?_
                refine j_iload_n X d_M_begin_80 rfl 1 rfl ?_
                refine j_iconst X (v := (1 : Int32)) d_M_begin_81 (by decide) ?_
                refine j_isub X d_M_begin_82 ?_
                refine p_33_13 X f_M_105 d_M_begin_83 ?_
                refine j_aload_n X d_M_begin_86 rfl 0 rfl ?_
                refine j_iconst X (v := (1 : Int32)) d_M_begin_87 (by decide) ?_
                refine p_33_4 X f_M_108 d_M_begin_88 ?_
                refine j_aload_n X d_M_begin_91 rfl 0 rfl ?_
                refine j_iconst X (v := (0 : Int32)) d_M_begin_92 (by decide) ?_
                refine p_33_6 X f_M_111 d_M_begin_93 ?_
                exact j_vret X hlk hr d_M_begin_96 hw
            · have hw := hw.2 h
              refine j_aload_n X d_M_begin_54 rfl 0 rfl ?_
              refine g_33_9 X f_M_16 (v := (u7 33 9)) rfl d_M_begin_55 ?_
              refine j_goto X d_M_begin_58 (tgt := 62) (by decide) ?_
              refine p_33_5 X f_M_98 d_M_begin_62 ?_
              refine j_aload_n X d_M_begin_65 rfl 0 rfl ?_
              refine j_iload_n X d_M_begin_66 rfl 1 rfl ?_
              refine j_iconst X (v := (1 : Int32)) d_M_begin_67 (by decide) ?_
              refine j_icmp_le X d_M_begin_68 (tgt := 75) (by decide) (fun h => ?_) (fun h => ?_)
              · have hw := hw.1 h
                refine j_iconst X (v := (0 : Int32)) d_M_begin_75 (by decide) ?_
                refine p_33_12 X f_M_101 rfl rfl d_M_begin_76 ?_
                refine j_aload_n X d_M_begin_79 rfl 0 rfl ?_
                refine j_iload_n X d_M_begin_80 rfl 1 rfl ?_
                refine j_iconst X (v := (1 : Int32)) d_M_begin_81 (by decide) ?_
                refine j_isub X d_M_begin_82 ?_
                refine p_33_13 X f_M_105 d_M_begin_83 ?_
                refine j_aload_n X d_M_begin_86 rfl 0 rfl ?_
                refine j_iconst X (v := (1 : Int32)) d_M_begin_87 (by decide) ?_
                refine p_33_4 X f_M_108 d_M_begin_88 ?_
                refine j_aload_n X d_M_begin_91 rfl 0 rfl ?_
                refine j_iconst X (v := (0 : Int32)) d_M_begin_92 (by decide) ?_
                refine p_33_6 X f_M_111 d_M_begin_93 ?_
                exact j_vret X hlk hr d_M_begin_96 hw
              · have hw := hw.2 h
                refine j_iconst X (v := (1 : Int32)) d_M_begin_71 (by decide) ?_
                refine j_goto X d_M_begin_72 (tgt := 76) (by decide) ?_
                refine p_33_12 X f_M_101 rfl rfl d_M_begin_76 ?_
                refine j_aload_n X d_M_begin_79 rfl 0 rfl ?_
                refine j_iload_n X d_M_begin_80 rfl 1 rfl ?_
                refine j_iconst X (v := (1 : Int32)) d_M_begin_81 (by decide) ?_
                refine j_isub X d_M_begin_82 ?_
                refine p_33_13 X f_M_105 d_M_begin_83 ?_
                refine j_aload_n X d_M_begin_86 rfl 0 rfl ?_
                refine j_iconst X (v := (1 : Int32)) d_M_begin_87 (by decide) ?_
                refine p_33_4 X f_M_108 d_M_begin_88 ?_
                refine j_aload_n X d_M_begin_91 rfl 0 rfl ?_
                refine j_iconst X (v := (0 : Int32)) d_M_begin_92 (by decide) ?_
                refine p_33_6 X f_M_111 d_M_begin_93 ?_
                exact j_vret X hlk hr d_M_begin_96 hw
        · have hw := hw.2 h
          refine j_iconst X (v := (1 : Int32)) d_M_begin_31 (by decide) ?_
          refine j_goto X d_M_begin_32 (tgt := 45) (by decide) ?_
          refine p_33_1 X f_M_81 d_M_begin_45 ?_
          refine j_aload_n X d_M_begin_48 rfl 0 rfl ?_
          refine j_iload_n X d_M_begin_49 rfl 1 rfl ?_
          refine j_iconst X (v := (1 : Int32)) d_M_begin_50 (by decide) ?_
          refine j_icmp_ne X d_M_begin_51 (tgt := 61) (by decide) (fun h => ?_) (fun h => ?_)
          · have hw := hw.1 h
            refine j_iconst X (v := (0 : Int32)) d_M_begin_61 (by decide) ?_
            refine p_33_5 X f_M_98 d_M_begin_62 ?_
            refine j_aload_n X d_M_begin_65 rfl 0 rfl ?_
            refine j_iload_n X d_M_begin_66 rfl 1 rfl ?_
            refine j_iconst X (v := (1 : Int32)) d_M_begin_67 (by decide) ?_
            refine j_icmp_le X d_M_begin_68 (tgt := 75) (by decide) (fun h => ?_) (fun h => ?_)
            · have hw := hw.1 h
              refine j_iconst X (v := (0 : Int32)) d_M_begin_75 (by decide) ?_
              refine p_33_12 X f_M_101 rfl rfl d_M_begin_76 ?_
              refine j_aload_n X d_M_begin_79 rfl 0 rfl ?_
              refine j_iload_n X d_M_begin_80 rfl 1 rfl ?_
              refine j_iconst X (v := (1 : Int32)) d_M_begin_81 (by decide) ?_
              refine j_isub X d_M_begin_82 ?_
              refine p_33_13 X f_M_105 d_M_begin_83 ?_
              refine j_aload_n X d_M_begin_86 rfl 0 rfl ?_
              refine j_iconst X (v := (1 : Int32)) d_M_begin_87 (by decide) ?_
              refine p_33_4 X f_M_108 d_M_begin_88 ?_
              refine j_aload_n X d_M_begin_91 rfl 0 rfl ?_
              refine j_iconst X (v := (0 : Int32)) d_M_begin_92 (by decide) ?_
              refine p_33_6 X f_M_111 d_M_begin_93 ?_
              exact j_vret X hlk hr d_M_begin_96 hw
            · have hw := hw.2 h
              refine j_iconst X (v := (1 : Int32)) d_M_begin_71 (by decide) ?_
              refine j_goto X d_M_begin_72 (tgt := 76) (by decide) ?_
              refine p_33_12 X f_M_101 rfl rfl d_M_begin_76 ?_
              refine j_aload_n X d_M_begin_79 rfl 0 rfl ?_
              refine j_iload_n X d_M_begin_80 rfl 1 rfl ?_
              refine j_iconst X (v := (1 : Int32)) d_M_begin_81 (by decide) ?_
              refine j_isub X d_M_begin_82 ?_
              refine p_33_13 X f_M_105 d_M_begin_83 ?_
              refine j_aload_n X d_M_begin_86 rfl 0 rfl ?_
              refine j_iconst X (v := (1 : Int32)) d_M_begin_87 (by decide) ?_
              refine p_33_4 X f_M_108 d_M_begin_88 ?_
              refine j_aload_n X d_M_begin_91 rfl 0 rfl ?_
              refine j_iconst X (v := (0 : Int32)) d_M_begin_92 (by decide) ?_
              refine p_33_6 X f_M_111 d_M_begin_93 ?_
              exact j_vret X hlk hr d_M_begin_96 hw
          · have hw := hw.2 h
            refine j_aload_n X d_M_begin_54 rfl 0 rfl ?_
            refine g_33_9 X f_M_16 (v := (u7 33 9)) rfl d_M_begin_55 ?_
            refine j_goto X d_M_begin_58 (tgt := 62) (by decide) ?_
            refine p_33_5 X f_M_98 d_M_begin_62 ?_
            refine j_aload_n X d_M_begin_65 rfl 0 rfl ?_
            refine j_iload_n X d_M_begin_66 rfl 1 rfl ?_
            refine j_iconst X (v := (1 : Int32)) d_M_begin_67 (by decide) ?_
            refine j_icmp_le X d_M_begin_68 (tgt := 75) (by decide) (fun h => ?_) (fun h => ?_)
            · have hw := hw.1 h
              refine j_iconst X (v := (0 : Int32)) d_M_begin_75 (by decide) ?_
              refine p_33_12 X f_M_101 rfl rfl d_M_begin_76 ?_
              refine j_aload_n X d_M_begin_79 rfl 0 rfl ?_
              refine j_iload_n X d_M_begin_80 rfl 1 rfl ?_
              refine j_iconst X (v := (1 : Int32)) d_M_begin_81 (by decide) ?_
              refine j_isub X d_M_begin_82 ?_
              refine p_33_13 X f_M_105 d_M_begin_83 ?_
              refine j_aload_n X d_M_begin_86 rfl 0 rfl ?_
              refine j_iconst X (v := (1 : Int32)) d_M_begin_87 (by decide) ?_
              refine p_33_4 X f_M_108 d_M_begin_88 ?_
              refine j_aload_n X d_M_begin_91 rfl 0 rfl ?_
              refine j_iconst X (v := (0 : Int32)) d_M_begin_92 (by decide) ?_
              refine p_33_6 X f_M_111 d_M_begin_93 ?_
              exact j_vret X hlk hr d_M_begin_96 hw
            · have hw := hw.2 h
              refine j_iconst X (v := (1 : Int32)) d_M_begin_71 (by decide) ?_
              refine j_goto X d_M_begin_72 (tgt := 76) (by decide) ?_
              refine p_33_12 X f_M_101 rfl rfl d_M_begin_76 ?_
              refine j_aload_n X d_M_begin_79 rfl 0 rfl ?_
              refine j_iload_n X d_M_begin_80 rfl 1 rfl ?_
              refine j_iconst X (v := (1 : Int32)) d_M_begin_81 (by decide) ?_
              refine j_isub X d_M_begin_82 ?_
              refine p_33_13 X f_M_105 d_M_begin_83 ?_
              refine j_aload_n X d_M_begin_86 rfl 0 rfl ?_
              refine j_iconst X (v := (1 : Int32)) d_M_begin_87 (by decide) ?_
              refine p_33_4 X f_M_108 d_M_begin_88 ?_
              refine j_aload_n X d_M_begin_91 rfl 0 rfl ?_
              refine j_iconst X (v := (0 : Int32)) d_M_begin_92 (by decide) ?_
              refine p_33_6 X f_M_111 d_M_begin_93 ?_
              exact j_vret X hlk hr d_M_begin_96 hw
      · have hw := hw.2 h
        exact j_vret X hlk hr d_M_begin_25 hw
  exact hX
def w_M_ends (σ : Jst) (K : Jst → Prop) : Prop := K (jup (jup (jup (jup (jup σ 33 1 (0 : Int32)) 33 14 (0 : Int32)) 33 10 (0 : Int32)) 33 3 (σ 33 2)) 33 5 (0 : Int32))
abbrev rm_M_ends : Room := { frames := 0, cells := 0, slots := 0, locals := 0 }
set_option maxRecDepth 100000 in
set_option maxHeartbeats 4000000 in
theorem c_M_ends (l : Launch) (D : va_G) (ca ad : Nat → Nat) (sz : Nat) (hD : Jd ca ad sz) {σ : Jst} {K : Jst → Prop} (hw : w_M_ends σ K) : Met l y_M_ends (wG y_M_ends b_M_ends 1 none) rm_M_ends (va_Pc [.ref (ad 33)] (Jw D vwCl (tysT ca) (wlT ad ca) (NwT sz) σ)) (va_Qv K (Jq D vwCl (wlT ad ca)) (Aw sz)) 0 0 (Aw sz) := by
  refine j_met (cc := b_M_ends) (own := R_M) (by decide +kernel) rfl (Nat.le_of_ble_eq_true rfl) rfl hD (nwT_k sz) ?_
  intro p e s m args below meth c X hlk hr
  have hX : J p l e rm_M_ends s m args below meth c D vwCl (wlT ad ca) (Aw sz) 1 0 0 (MQ below (va_Qv K (Jq D vwCl (wlT ad ca)) (Aw sz)) args s 0 0 (Aw sz)) 0 [(0, .ref (ad 33))] [] σ := by
    unfold w_M_ends at hw
    refine j_aload_n X d_M_ends_0 rfl 0 rfl ?_
    refine j_iconst X (v := (0 : Int32)) d_M_ends_1 (by decide) ?_
    refine p_33_1 X f_M_81 d_M_ends_2 ?_
    refine j_aload_n X d_M_ends_5 rfl 0 rfl ?_
    refine j_iconst X (v := (0 : Int32)) d_M_ends_6 (by decide) ?_
    refine p_33_14 X f_M_114 d_M_ends_7 ?_
    refine j_aload_n X d_M_ends_10 rfl 0 rfl ?_
    refine j_iconst X (v := (0 : Int32)) d_M_ends_11 (by decide) ?_
    refine p_33_10 X f_M_117 rfl rfl d_M_ends_12 ?_
    refine j_aload_n X d_M_ends_15 rfl 0 rfl ?_
    refine j_aload_n X d_M_ends_16 rfl 0 rfl ?_
    refine g_33_2 X f_M_92 (v := (σ 33 2)) rfl d_M_ends_17 ?_
    refine p_33_3 X f_M_95 d_M_ends_20 ?_
    refine j_aload_n X d_M_ends_23 rfl 0 rfl ?_
    refine j_iconst X (v := (0 : Int32)) d_M_ends_24 (by decide) ?_
    refine p_33_5 X f_M_98 d_M_ends_25 ?_
    exact j_vret X hlk hr d_M_ends_28 hw
  exact hX
def w_M_alarm (a1 : Int32) (σ : Jst) (K : Jst → Prop) : Prop := w_M_ends (jup σ 33 6 a1) (fun u1 => K u1)
abbrev rm_M_alarm : Room := { frames := 1, cells := 0, slots := 0, locals := 20 }
set_option maxRecDepth 100000 in
set_option maxHeartbeats 4000000 in
theorem c_M_alarm (l : Launch) (D : va_G) (ca ad : Nat → Nat) (sz : Nat) (hD : Jd ca ad sz) {a1 : Int32} {σ : Jst} {K : Jst → Prop} (hw : w_M_alarm a1 σ K) : Met l y_M_alarm (wG y_M_alarm b_M_alarm 2 none) rm_M_alarm (va_Pc [.ref (ad 33), .int a1] (Jw D vwCl (tysT ca) (wlT ad ca) (NwT sz) σ)) (va_Qv K (Jq D vwCl (wlT ad ca)) (Aw sz)) 0 0 (Aw sz) := by
  refine j_met (cc := b_M_alarm) (own := R_M) (by decide +kernel) rfl (Nat.le_of_ble_eq_true rfl) rfl hD (nwT_k sz) ?_
  intro p e s m args below meth c X hlk hr
  have hX : J p l e rm_M_alarm s m args below meth c D vwCl (wlT ad ca) (Aw sz) 2 0 0 (MQ below (va_Qv K (Jq D vwCl (wlT ad ca)) (Aw sz)) args s 0 0 (Aw sz)) 0 [(0, .ref (ad 33)), (1, .int a1)] [] σ := by
    unfold w_M_alarm at hw
    refine j_aload_n X d_M_alarm_0 rfl 0 rfl ?_
    refine j_iload_n X d_M_alarm_1 rfl 1 rfl ?_
    refine p_33_6 X f_M_111 d_M_alarm_2 ?_
    refine j_aload_n X d_M_alarm_5 rfl 0 rfl ?_
    refine j_callVv (As := []) X (c_M_ends l D ca ad sz hD hw) (gcV (n := 0) X rfl rfl rfl gc_M_ends m_M_ends l_M_120 (by decide +kernel) ⟨by decide, by decide⟩) (q0 := 33) rfl rfl (fun _ h => h) rfl rfl (Nat.le_of_ble_eq_true rfl) ⟨by decide, by decide⟩ d_M_alarm_6 (fun u1 hw => ?_)
    exact j_vret X hlk hr d_M_alarm_9 hw
  exact hX
def w_M_end (σ : Jst) (K : Jst → Prop) : Prop := ((¬ (σ 33 1) = (0 : Int32) → w_M_fails (0 : Int32) (0 : Int32) σ (fun r2 u1 => ((¬ r2 = (0 : Int32) → K u1) ∧ (r2 = (0 : Int32) → w_M_ends u1 (fun u3 => K u3))))) ∧ ((σ 33 1) = (0 : Int32) → w_M_fails (1 : Int32) (0 : Int32) σ (fun r5 u4 => ((¬ r5 = (0 : Int32) → K u4) ∧ (r5 = (0 : Int32) → w_M_ends u4 (fun u6 => K u6))))))
abbrev rm_M_end : Room := { frames := 1, cells := 0, slots := 0, locals := 22 }
set_option maxRecDepth 100000 in
set_option maxHeartbeats 4000000 in
theorem c_M_end (l : Launch) (D : va_G) (ca ad : Nat → Nat) (sz : Nat) (hD : Jd ca ad sz) {σ : Jst} {K : Jst → Prop} (hw : w_M_end σ K) : Met l y_M_end (wG y_M_end b_M_end 1 none) rm_M_end (va_Pc [.ref (ad 33)] (Jw D vwCl (tysT ca) (wlT ad ca) (NwT sz) σ)) (va_Qv K (Jq D vwCl (wlT ad ca)) (Aw sz)) 0 0 (Aw sz) := by
  refine j_met (cc := b_M_end) (own := R_M) (by decide +kernel) rfl (Nat.le_of_ble_eq_true rfl) rfl hD (nwT_k sz) ?_
  intro p e s m args below meth c X hlk hr
  have hX : J p l e rm_M_end s m args below meth c D vwCl (wlT ad ca) (Aw sz) 1 0 0 (MQ below (va_Qv K (Jq D vwCl (wlT ad ca)) (Aw sz)) args s 0 0 (Aw sz)) 0 [(0, .ref (ad 33))] [] σ := by
    unfold w_M_end at hw
    refine j_aload_n X d_M_end_0 rfl 0 rfl ?_
    refine j_aload_n X d_M_end_1 rfl 0 rfl ?_
    refine g_33_1 X f_M_81 (v := (σ 33 1)) rfl d_M_end_2 ?_
    refine j_if_ne X d_M_end_5 (tgt := 12) (by decide) (fun h => ?_) (fun h => ?_)
    · have hw := hw.1 h
      refine j_iconst X (v := (0 : Int32)) d_M_end_12 (by decide) ?_
      refine j_iconst X (v := (0 : Int32)) d_M_end_13 (by decide) ?_
      refine j_callVi (As := [.int (0 : Int32), .int (0 : Int32)]) X (c_M_fails l D ca ad sz hD hw) (gcV (n := 2) X rfl rfl rfl gc_M_fails m_M_fails l_M_88 (by decide +kernel) ⟨by decide, by decide⟩) (q0 := 33) rfl rfl (fun _ h => h) rfl rfl (Nat.le_of_ble_eq_true rfl) ⟨by decide, by decide⟩ d_M_end_14 (fun r2 u1 hw => ?_)
      refine j_if_ne X d_M_end_17 (tgt := 24) (by decide) (fun h => ?_) (fun h => ?_)
      · have hw := hw.1 h
        exact j_vret X hlk hr d_M_end_24 hw
      · have hw := hw.2 h
        refine j_aload_n X d_M_end_20 rfl 0 rfl ?_
        refine j_callVv (As := []) X (c_M_ends l D ca ad sz hD hw) (gcV (n := 0) X rfl rfl rfl gc_M_ends m_M_ends l_M_120 (by decide +kernel) ⟨by decide, by decide⟩) (q0 := 33) rfl rfl (fun _ h => h) rfl rfl (Nat.le_of_ble_eq_true rfl) ⟨by decide, by decide⟩ d_M_end_21 (fun u3 hw => ?_)
        exact j_vret X hlk hr d_M_end_24 hw
    · have hw := hw.2 h
      refine j_iconst X (v := (1 : Int32)) d_M_end_8 (by decide) ?_
      refine j_goto X d_M_end_9 (tgt := 13) (by decide) ?_
      refine j_iconst X (v := (0 : Int32)) d_M_end_13 (by decide) ?_
      refine j_callVi (As := [.int (1 : Int32), .int (0 : Int32)]) X (c_M_fails l D ca ad sz hD hw) (gcV (n := 2) X rfl rfl rfl gc_M_fails m_M_fails l_M_88 (by decide +kernel) ⟨by decide, by decide⟩) (q0 := 33) rfl rfl (fun _ h => h) rfl rfl (Nat.le_of_ble_eq_true rfl) ⟨by decide, by decide⟩ d_M_end_14 (fun r5 u4 hw => ?_)
      refine j_if_ne X d_M_end_17 (tgt := 24) (by decide) (fun h => ?_) (fun h => ?_)
      · have hw := hw.1 h
        exact j_vret X hlk hr d_M_end_24 hw
      · have hw := hw.2 h
        refine j_aload_n X d_M_end_20 rfl 0 rfl ?_
        refine j_callVv (As := []) X (c_M_ends l D ca ad sz hD hw) (gcV (n := 0) X rfl rfl rfl gc_M_ends m_M_ends l_M_120 (by decide +kernel) ⟨by decide, by decide⟩) (q0 := 33) rfl rfl (fun _ h => h) rfl rfl (Nat.le_of_ble_eq_true rfl) ⟨by decide, by decide⟩ d_M_end_21 (fun u6 hw => ?_)
        exact j_vret X hlk hr d_M_end_24 hw
  exact hX
def w_M_command (a1 : Int32) (σ : Jst) (K : Int32 → Jst → Prop) : Prop := w_M_outside (σ 33 1) (1 : Int32) (3 : Int32) σ (fun r2 u1 => w_M_fails r2 (0 : Int32) u1 (fun r4 u3 => ((¬ r4 = (0 : Int32) → K (0 : Int32) u3) ∧ (r4 = (0 : Int32) → (((u3 33 10) = (0 : Int32) → K (1 : Int32) (jup (jup u3 33 10 (1 : Int32)) 33 11 a1)) ∧ (¬ (u3 33 10) = (0 : Int32) → K (0 : Int32) u3))))))
abbrev rm_M_command : Room := { frames := 1, cells := 0, slots := 0, locals := 22 }
set_option maxRecDepth 100000 in
set_option maxHeartbeats 4000000 in
theorem c_M_command (l : Launch) (D : va_G) (ca ad : Nat → Nat) (sz : Nat) (hD : Jd ca ad sz) {a1 : Int32} {σ : Jst} {K : Int32 → Jst → Prop} (hw : w_M_command a1 σ K) : Met l y_M_command (wG y_M_command b_M_command 2 (some .boolean)) rm_M_command (va_Pc [.ref (ad 33), .int a1] (Jw D vwCl (tysT ca) (wlT ad ca) (NwT sz) σ)) (va_Qi K (Jq D vwCl (wlT ad ca)) (Aw sz)) 0 0 (Aw sz) := by
  refine j_met (cc := b_M_command) (own := R_M) (by decide +kernel) rfl (Nat.le_of_ble_eq_true rfl) rfl hD (nwT_k sz) ?_
  intro p e s m args below meth c X hlk hr
  have hX : J p l e rm_M_command s m args below meth c D vwCl (wlT ad ca) (Aw sz) 2 0 0 (MQ below (va_Qi K (Jq D vwCl (wlT ad ca)) (Aw sz)) args s 0 0 (Aw sz)) 0 [(0, .ref (ad 33)), (1, .int a1)] [] σ := by
    unfold w_M_command at hw
    refine j_aload_n X d_M_command_0 rfl 0 rfl ?_
    refine j_aload_n X d_M_command_1 rfl 0 rfl ?_
    refine g_33_1 X f_M_81 (v := (σ 33 1)) rfl d_M_command_2 ?_
    refine j_iconst X (v := (1 : Int32)) d_M_command_5 (by decide) ?_
    refine j_iconst X (v := (3 : Int32)) d_M_command_6 (by decide) ?_
    refine j_callSi (As := [.int (σ 33 1), .int (1 : Int32), .int (3 : Int32)]) X (c_M_outside l D ca ad sz hD hw) (gcS (n := 3) X rfl rfl rfl gc_M_outside m_M_outside l_M_84 (by decide +kernel) ⟨by decide, by decide⟩) (fun _ h => h) rfl rfl (Nat.le_of_ble_eq_true rfl) ⟨by decide, by decide⟩ d_M_command_7 (fun r2 u1 hw => ?_)
    refine j_iconst X (v := (0 : Int32)) d_M_command_10 (by decide) ?_
    refine j_callVi (As := [.int r2, .int (0 : Int32)]) X (c_M_fails l D ca ad sz hD hw) (gcV (n := 2) X rfl rfl rfl gc_M_fails m_M_fails l_M_88 (by decide +kernel) ⟨by decide, by decide⟩) (q0 := 33) rfl rfl (fun _ h => h) rfl rfl (Nat.le_of_ble_eq_true rfl) ⟨by decide, by decide⟩ d_M_command_11 (fun r4 u3 hw => ?_)
    refine j_if_ne X d_M_command_14 (tgt := 24) (by decide) (fun h => ?_) (fun h => ?_)
    · have hw := hw.1 h
      refine j_iconst X (v := (0 : Int32)) d_M_command_24 (by decide) ?_
      exact j_zret X hlk hr rfl d_M_command_25 hw
    · have hw := hw.2 h
      refine j_aload_n X d_M_command_17 rfl 0 rfl ?_
      refine g_33_10 X f_M_117 (v := (u3 33 10)) rfl d_M_command_18 ?_
      refine j_if_eq X d_M_command_21 (tgt := 26) (by decide) (fun h => ?_) (fun h => ?_)
      · have hw := hw.1 h
        refine j_aload_n X d_M_command_26 rfl 0 rfl ?_
        refine j_iconst X (v := (1 : Int32)) d_M_command_27 (by decide) ?_
        refine p_33_10 X f_M_117 rfl rfl d_M_command_28 ?_
        refine j_aload_n X d_M_command_31 rfl 0 rfl ?_
        refine j_iload_n X d_M_command_32 rfl 1 rfl ?_
        refine p_33_11 X f_M_123 d_M_command_33 ?_
        refine j_iconst X (v := (1 : Int32)) d_M_command_36 (by decide) ?_
        exact j_zret X hlk hr rfl d_M_command_37 hw
      · have hw := hw.2 h
        refine j_iconst X (v := (0 : Int32)) d_M_command_24 (by decide) ?_
        exact j_zret X hlk hr rfl d_M_command_25 hw
  exact hX
def w_M_resend_L34 (K : Jst → Prop) : Nat → Int32 → Int32 → Jst → Prop
  | 0, _, _, _ => False
  | n + 1, v1, v2, s34 => (((s34 33 14) ≤ v2 → K s34) ∧ (¬ (s34 33 14) ≤ v2 → (vp_in v2 4 ∧ w_M_resend_L34 K n v1 (v2 + (1 : Int32)) (jup s34 35 (Int32.toNatClampNeg v2) (vp_nar .boolean (1 : Int32))))))
def w_M_resend (a1 : Int32) (σ : Jst) (K : Jst → Prop) : Prop := (((σ 33 4) < (σ 33 8) → (∃ n, w_M_resend_L34 K n a1 (0 : Int32) (jup (jup σ 33 4 ((σ 33 4) + (1 : Int32))) 33 1 a1))) ∧ (¬ (σ 33 4) < (σ 33 8) → w_M_alarm (1 : Int32) σ (fun u1 => K u1)))
abbrev rm_M_resend : Room := { frames := 2, cells := 0, slots := 0, locals := 41 }
set_option maxRecDepth 100000 in
set_option maxHeartbeats 4000000 in
theorem c_M_resend (l : Launch) (D : va_G) (ca ad : Nat → Nat) (sz : Nat) (hD : Jd ca ad sz) {a1 : Int32} {σ : Jst} {K : Jst → Prop} (hw : w_M_resend a1 σ K) : Met l y_M_resend (wG y_M_resend b_M_resend 3 none) rm_M_resend (va_Pc [.ref (ad 33), .int a1] (Jw D vwCl (tysT ca) (wlT ad ca) (NwT sz) σ)) (va_Qv K (Jq D vwCl (wlT ad ca)) (Aw sz)) 0 0 (Aw sz) := by
  refine j_met (cc := b_M_resend) (own := R_M) (by decide +kernel) rfl (Nat.le_of_ble_eq_true rfl) rfl hD (nwT_k sz) ?_
  intro p e s m args below meth c X hlk hr
  have hX : J p l e rm_M_resend s m args below meth c D vwCl (wlT ad ca) (Aw sz) 3 0 0 (MQ below (va_Qv K (Jq D vwCl (wlT ad ca)) (Aw sz)) args s 0 0 (Aw sz)) 0 [(0, .ref (ad 33)), (1, .int a1)] [] σ := by
    unfold w_M_resend at hw
    refine j_aload_n X d_M_resend_0 rfl 0 rfl ?_
    refine g_33_4 X f_M_108 (v := (σ 33 4)) rfl d_M_resend_1 ?_
    refine j_aload_n X d_M_resend_4 rfl 0 rfl ?_
    refine g_33_8 X f_M_13 (v := (σ 33 8)) rfl d_M_resend_5 ?_
    refine j_icmp_lt X d_M_resend_8 (tgt := 17) (by decide) (fun h => ?_) (fun h => ?_)
    · have hw := hw.1 h
      refine j_aload_n X d_M_resend_17 rfl 0 rfl ?_
      refine j_dup X d_M_resend_18 rfl ?_
      refine g_33_4 X f_M_108 (v := (σ 33 4)) rfl d_M_resend_19 ?_
      refine j_iconst X (v := (1 : Int32)) d_M_resend_22 (by decide) ?_
      refine j_iadd X d_M_resend_23 ?_
      refine p_33_4 X f_M_108 d_M_resend_24 ?_
      refine j_aload_n X d_M_resend_27 rfl 0 rfl ?_
      refine j_iload_n X d_M_resend_28 rfl 1 rfl ?_
      refine p_33_1 X f_M_81 d_M_resend_29 ?_
      refine j_iconst X (v := (0 : Int32)) d_M_resend_32 (by decide) ?_
      refine j_istore_n X d_M_resend_33 rfl (by decide) rfl ?_
      have lp34 : ∀ (n : Nat) (v1 v2 : Int32) (s34 : Jst), w_M_resend_L34 K n v1 v2 s34 → J p l e rm_M_resend s m args below meth c D vwCl (wlT ad ca) (Aw sz) 3 0 0 (MQ below (va_Qv K (Jq D vwCl (wlT ad ca)) (Aw sz)) args s 0 0 (Aw sz)) 34 [(0, .ref (ad 33)), (1, .int v1), (2, .int v2)] [] s34 := by
        intro n
        induction n with
        | zero => intro v1 v2 s34 hw; exact (show False from hw).elim
        | succ n ih34 =>
          intro v1 v2 s34 hw
          rw [w_M_resend_L34] at hw
          refine j_iload_n X d_M_resend_34 rfl 2 rfl ?_
          refine j_aload_n X d_M_resend_35 rfl 0 rfl ?_
          refine g_33_14 X f_M_114 (v := (s34 33 14)) rfl d_M_resend_36 ?_
          refine j_icmp_ge X d_M_resend_39 (tgt := 55) (by decide) (fun h => ?_) (fun h => ?_)
          · have hw := hw.1 h
            exact j_vret X hlk hr d_M_resend_55 hw
          · have hw := hw.2 h
            refine j_aload_n X d_M_resend_42 rfl 0 rfl ?_
            refine g_33_16 X f_M_23 d_M_resend_43 ?_
            refine j_iload_n X d_M_resend_46 rfl 2 rfl ?_
            refine j_iconst X (v := (1 : Int32)) d_M_resend_47 (by decide) ?_
            refine sr_35 X hw.1 d_M_resend_48 ?_
            have hw := hw.2
            refine j_iinc X (v := (1 : Int32)) d_M_resend_49 2 rfl (by decide) (by decide) rfl ?_
            refine j_goto X d_M_resend_52 (tgt := 34) (by decide) ?_
            refine j_locs [1, 2, 0] rfl ?_
            exact ih34 _ _ _ hw
      obtain ⟨n, hw⟩ := hw
      refine j_locs [1, 2, 0] rfl ?_
      exact lp34 n _ _ _ hw
    · have hw := hw.2 h
      refine j_aload_n X d_M_resend_11 rfl 0 rfl ?_
      refine j_iconst X (v := (1 : Int32)) d_M_resend_12 (by decide) ?_
      refine j_callVv (As := [.int (1 : Int32)]) X (c_M_alarm l D ca ad sz hD hw) (gcV (n := 1) X rfl rfl rfl gc_M_alarm m_M_alarm l_M_126 (by decide +kernel) ⟨by decide, by decide⟩) (q0 := 33) rfl rfl (fun _ h => h) rfl rfl (Nat.le_of_ble_eq_true rfl) ⟨by decide, by decide⟩ d_M_resend_13 (fun u1 hw => ?_)
      exact j_vret X hlk hr d_M_resend_16 hw
  exact hX
def w_M_sends (a1 : Int32) (a2 : Int32) (a3 : Int32) (σ : Jst) (K : Int32 → Jst → Prop) : Prop := (((20 : Int32) ≤ (σ 33 17) → K a1 (jup σ 33 5 (σ 33 9))) ∧ (¬ (20 : Int32) ≤ (σ 33 17) → (vp_in (σ 33 17) 20 ∧ (vp_in (σ 33 17) 20 ∧ (vp_in (σ 33 17) 20 ∧ K a1 (jup (jup (jup (jup (jup σ 33 5 (σ 33 9)) 36 (Int32.toNatClampNeg (σ 33 17)) a1) 37 (Int32.toNatClampNeg (σ 33 17)) a2) 38 (Int32.toNatClampNeg (σ 33 17)) a3) 33 17 ((σ 33 17) + (1 : Int32))))))))
abbrev rm_M_sends : Room := { frames := 0, cells := 0, slots := 0, locals := 0 }
set_option maxRecDepth 100000 in
set_option maxHeartbeats 4000000 in
theorem c_M_sends (l : Launch) (D : va_G) (ca ad : Nat → Nat) (sz : Nat) (hD : Jd ca ad sz) {a1 a2 a3 : Int32} {σ : Jst} {K : Int32 → Jst → Prop} (hw : w_M_sends a1 a2 a3 σ K) : Met l y_M_sends (wG y_M_sends b_M_sends 4 (some .int)) rm_M_sends (va_Pc [.ref (ad 33), .int a1, .int a2, .int a3] (Jw D vwCl (tysT ca) (wlT ad ca) (NwT sz) σ)) (va_Qi K (Jq D vwCl (wlT ad ca)) (Aw sz)) 0 0 (Aw sz) := by
  refine j_met (cc := b_M_sends) (own := R_M) (by decide +kernel) rfl (Nat.le_of_ble_eq_true rfl) rfl hD (nwT_k sz) ?_
  intro p e s m args below meth c X hlk hr
  have hX : J p l e rm_M_sends s m args below meth c D vwCl (wlT ad ca) (Aw sz) 4 0 0 (MQ below (va_Qi K (Jq D vwCl (wlT ad ca)) (Aw sz)) args s 0 0 (Aw sz)) 0 [(0, .ref (ad 33)), (1, .int a1), (2, .int a2), (3, .int a3)] [] σ := by
    unfold w_M_sends at hw
    refine j_aload_n X d_M_sends_0 rfl 0 rfl ?_
    refine j_aload_n X d_M_sends_1 rfl 0 rfl ?_
    refine g_33_9 X f_M_16 (v := (σ 33 9)) rfl d_M_sends_2 ?_
    refine p_33_5 X f_M_98 d_M_sends_5 ?_
    refine j_aload_n X d_M_sends_8 rfl 0 rfl ?_
    refine g_33_17 X f_M_130 (v := (σ 33 17)) rfl d_M_sends_9 ?_
    refine j_bipush X (v := (20 : Int32)) d_M_sends_12 (by decide) ?_
    refine j_icmp_ge X d_M_sends_14 (tgt := 57) (by decide) (fun h => ?_) (fun h => ?_)
    · have hw := hw.1 h
      refine j_iload_n X d_M_sends_57 rfl 1 rfl ?_
      exact j_iret X hlk hr d_M_sends_58 hw
    · have hw := hw.2 h
      refine j_aload_n X d_M_sends_17 rfl 0 rfl ?_
      refine g_33_18 X f_M_27 d_M_sends_18 ?_
      refine j_aload_n X d_M_sends_21 rfl 0 rfl ?_
      refine g_33_17 X f_M_130 (v := (σ 33 17)) rfl d_M_sends_22 ?_
      refine j_iload_n X d_M_sends_25 rfl 1 rfl ?_
      refine sr_36 X hw.1 d_M_sends_26 ?_
      have hw := hw.2
      refine j_aload_n X d_M_sends_27 rfl 0 rfl ?_
      refine g_33_19 X f_M_30 d_M_sends_28 ?_
      refine j_aload_n X d_M_sends_31 rfl 0 rfl ?_
      refine g_33_17 X f_M_130 (v := (σ 33 17)) rfl d_M_sends_32 ?_
      refine j_iload_n X d_M_sends_35 rfl 2 rfl ?_
      refine sr_37 X hw.1 d_M_sends_36 ?_
      have hw := hw.2
      refine j_aload_n X d_M_sends_37 rfl 0 rfl ?_
      refine g_33_20 X f_M_33 d_M_sends_38 ?_
      refine j_aload_n X d_M_sends_41 rfl 0 rfl ?_
      refine g_33_17 X f_M_130 (v := (σ 33 17)) rfl d_M_sends_42 ?_
      refine j_iload_n X d_M_sends_45 rfl 3 rfl ?_
      refine sr_38 X hw.1 d_M_sends_46 ?_
      have hw := hw.2
      refine j_aload_n X d_M_sends_47 rfl 0 rfl ?_
      refine j_dup X d_M_sends_48 rfl ?_
      refine g_33_17 X f_M_130 (v := (σ 33 17)) rfl d_M_sends_49 ?_
      refine j_iconst X (v := (1 : Int32)) d_M_sends_52 (by decide) ?_
      refine j_iadd X d_M_sends_53 ?_
      refine p_33_17 X f_M_130 d_M_sends_54 ?_
      refine j_iload_n X d_M_sends_57 rfl 1 rfl ?_
      exact j_iret X hlk hr d_M_sends_58 hw
  exact hX
def w_M_rings (σ : Jst) (K : Jst → Prop) : Prop := (((σ 33 8) ≤ (σ 33 4) → (((σ 33 1) = (4 : Int32) → w_M_alarm (5 : Int32) σ (fun u1 => K u1)) ∧ (¬ (σ 33 1) = (4 : Int32) → (((σ 33 1) ≤ (0 : Int32) → (((σ 33 1) = (1 : Int32) → w_M_resend (σ 33 1) σ (fun u2 => K u2)) ∧ (¬ (σ 33 1) = (1 : Int32) → ((¬ (σ 33 1) = (2 : Int32) → ((¬ (σ 33 1) = (5 : Int32) → K σ) ∧ ((σ 33 1) = (5 : Int32) → K (jup (jup σ 33 4 ((σ 33 4) + (1 : Int32))) 33 12 (1 : Int32))))) ∧ ((σ 33 1) = (2 : Int32) → w_M_resend (σ 33 1) σ (fun u3 => K u3)))))) ∧ (¬ (σ 33 1) ≤ (0 : Int32) → w_M_alarm (5 : Int32) σ (fun u4 => K u4)))))) ∧ (¬ (σ 33 8) ≤ (σ 33 4) → (((σ 33 1) = (4 : Int32) → w_M_alarm (5 : Int32) σ (fun u5 => K u5)) ∧ (¬ (σ 33 1) = (4 : Int32) → (((σ 33 1) ≤ (0 : Int32) → (((σ 33 1) = (1 : Int32) → w_M_resend (σ 33 1) σ (fun u6 => K u6)) ∧ (¬ (σ 33 1) = (1 : Int32) → ((¬ (σ 33 1) = (2 : Int32) → ((¬ (σ 33 1) = (5 : Int32) → K σ) ∧ ((σ 33 1) = (5 : Int32) → K (jup (jup σ 33 4 ((σ 33 4) + (1 : Int32))) 33 12 (1 : Int32))))) ∧ ((σ 33 1) = (2 : Int32) → w_M_resend (σ 33 1) σ (fun u7 => K u7)))))) ∧ (¬ (σ 33 1) ≤ (0 : Int32) → (((σ 33 1) = (1 : Int32) → w_M_resend (σ 33 1) σ (fun u8 => K u8)) ∧ (¬ (σ 33 1) = (1 : Int32) → ((¬ (σ 33 1) = (2 : Int32) → ((¬ (σ 33 1) = (5 : Int32) → K σ) ∧ ((σ 33 1) = (5 : Int32) → K (jup (jup σ 33 4 ((σ 33 4) + (1 : Int32))) 33 12 (1 : Int32))))) ∧ ((σ 33 1) = (2 : Int32) → w_M_resend (σ 33 1) σ (fun u9 => K u9)))))))))))
abbrev rm_M_rings : Room := { frames := 3, cells := 0, slots := 0, locals := 63 }
set_option maxRecDepth 100000 in
set_option maxHeartbeats 4000000 in
theorem c_M_rings (l : Launch) (D : va_G) (ca ad : Nat → Nat) (sz : Nat) (hD : Jd ca ad sz) {σ : Jst} {K : Jst → Prop} (hw : w_M_rings σ K) : Met l y_M_rings (wG y_M_rings b_M_rings 2 none) rm_M_rings (va_Pc [.ref (ad 33)] (Jw D vwCl (tysT ca) (wlT ad ca) (NwT sz) σ)) (va_Qv K (Jq D vwCl (wlT ad ca)) (Aw sz)) 0 0 (Aw sz) := by
  refine j_met (cc := b_M_rings) (own := R_M) (by decide +kernel) rfl (Nat.le_of_ble_eq_true rfl) rfl hD (nwT_k sz) ?_
  intro p e s m args below meth c X hlk hr
  have hX : J p l e rm_M_rings s m args below meth c D vwCl (wlT ad ca) (Aw sz) 2 0 0 (MQ below (va_Qv K (Jq D vwCl (wlT ad ca)) (Aw sz)) args s 0 0 (Aw sz)) 0 [(0, .ref (ad 33))] [] σ := by
    unfold w_M_rings at hw
    refine j_aload_n X d_M_rings_0 rfl 0 rfl ?_
    refine g_33_4 X f_M_108 (v := (σ 33 4)) rfl d_M_rings_1 ?_
    refine j_aload_n X d_M_rings_4 rfl 0 rfl ?_
    refine g_33_8 X f_M_13 (v := (σ 33 8)) rfl d_M_rings_5 ?_
    refine j_icmp_ge X d_M_rings_8 (tgt := 15) (by decide) (fun h => ?_) (fun h => ?_)
    · have hw := hw.1 h
      refine j_iconst X (v := (0 : Int32)) d_M_rings_15 (by decide) ?_
      refine j_istore_n X d_M_rings_16 rfl (by decide) rfl ?_
      refine j_aload_n X d_M_rings_17 rfl 1 rfl ?_
      refine g_33_1 X f_M_81 (v := (σ 33 1)) rfl d_M_rings_18 ?_
      refine j_iconst X (v := (4 : Int32)) d_M_rings_21 (by decide) ?_
      refine j_icmp_eq X d_M_rings_22 (tgt := 36) (by decide) (fun h => ?_) (fun h => ?_)
      · have hw := hw.1 h
        refine j_aload_n X d_M_rings_36 rfl 1 rfl ?_
        refine j_iconst X (v := (5 : Int32)) d_M_rings_37 (by decide) ?_
        refine j_callVv (As := [.int (5 : Int32)]) X (c_M_alarm l D ca ad sz hD hw) (gcV (n := 1) X rfl rfl rfl gc_M_alarm m_M_alarm l_M_126 (by decide +kernel) ⟨by decide, by decide⟩) (q0 := 33) rfl rfl (fun _ h => h) rfl rfl (Nat.le_of_ble_eq_true rfl) ⟨by decide, by decide⟩ d_M_rings_38 (fun u1 hw => ?_)
        refine j_goto X d_M_rings_41 (tgt := 94) (by decide) ?_
        exact j_vret X hlk hr d_M_rings_94 hw
      · have hw := hw.2 h
        refine j_aload_n X d_M_rings_25 rfl 1 rfl ?_
        refine g_33_1 X f_M_81 (v := (σ 33 1)) rfl d_M_rings_26 ?_
        refine j_if_le X d_M_rings_29 (tgt := 44) (by decide) (fun h => ?_) (fun h => ?_)
        · have hw := hw.1 h
          refine j_aload_n X d_M_rings_44 rfl 1 rfl ?_
          refine g_33_1 X f_M_81 (v := (σ 33 1)) rfl d_M_rings_45 ?_
          refine j_iconst X (v := (1 : Int32)) d_M_rings_48 (by decide) ?_
          refine j_icmp_eq X d_M_rings_49 (tgt := 60) (by decide) (fun h => ?_) (fun h => ?_)
          · have hw := hw.1 h
            refine j_aload_n X d_M_rings_60 rfl 1 rfl ?_
            refine j_aload_n X d_M_rings_61 rfl 1 rfl ?_
            refine g_33_1 X f_M_81 (v := (σ 33 1)) rfl d_M_rings_62 ?_
            refine j_callVv (As := [.int (σ 33 1)]) X (c_M_resend l D ca ad sz hD hw) (gcV (n := 1) X rfl rfl rfl gc_M_resend m_M_resend l_M_133 (by decide +kernel) ⟨by decide, by decide⟩) (q0 := 33) rfl rfl (fun _ h => h) rfl rfl (Nat.le_of_ble_eq_true rfl) ⟨by decide, by decide⟩ d_M_rings_65 (fun u2 hw => ?_)
            refine j_goto X d_M_rings_68 (tgt := 94) (by decide) ?_
            exact j_vret X hlk hr d_M_rings_94 hw
          · have hw := hw.2 h
            refine j_aload_n X d_M_rings_52 rfl 1 rfl ?_
            refine g_33_1 X f_M_81 (v := (σ 33 1)) rfl d_M_rings_53 ?_
            refine j_iconst X (v := (2 : Int32)) d_M_rings_56 (by decide) ?_
            refine j_icmp_ne X d_M_rings_57 (tgt := 71) (by decide) (fun h => ?_) (fun h => ?_)
            · have hw := hw.1 h
              refine j_aload_n X d_M_rings_71 rfl 1 rfl ?_
              refine g_33_1 X f_M_81 (v := (σ 33 1)) rfl d_M_rings_72 ?_
              refine j_iconst X (v := (5 : Int32)) d_M_rings_75 (by decide) ?_
              refine j_icmp_ne X d_M_rings_76 (tgt := 94) (by decide) (fun h => ?_) (fun h => ?_)
              · have hw := hw.1 h
                exact j_vret X hlk hr d_M_rings_94 hw
              · have hw := hw.2 h
                refine j_aload_n X d_M_rings_79 rfl 1 rfl ?_
                refine j_dup X d_M_rings_80 rfl ?_
                refine g_33_4 X f_M_108 (v := (σ 33 4)) rfl d_M_rings_81 ?_
                refine j_iconst X (v := (1 : Int32)) d_M_rings_84 (by decide) ?_
                refine j_iadd X d_M_rings_85 ?_
                refine p_33_4 X f_M_108 d_M_rings_86 ?_
                refine j_aload_n X d_M_rings_89 rfl 1 rfl ?_
                refine j_iconst X (v := (1 : Int32)) d_M_rings_90 (by decide) ?_
                refine p_33_12 X f_M_101 rfl rfl d_M_rings_91 ?_
                exact j_vret X hlk hr d_M_rings_94 hw
            · have hw := hw.2 h
              refine j_aload_n X d_M_rings_60 rfl 1 rfl ?_
              refine j_aload_n X d_M_rings_61 rfl 1 rfl ?_
              refine g_33_1 X f_M_81 (v := (σ 33 1)) rfl d_M_rings_62 ?_
              refine j_callVv (As := [.int (σ 33 1)]) X (c_M_resend l D ca ad sz hD hw) (gcV (n := 1) X rfl rfl rfl gc_M_resend m_M_resend l_M_133 (by decide +kernel) ⟨by decide, by decide⟩) (q0 := 33) rfl rfl (fun _ h => h) rfl rfl (Nat.le_of_ble_eq_true rfl) ⟨by decide, by decide⟩ d_M_rings_65 (fun u3 hw => ?_)
              refine j_goto X d_M_rings_68 (tgt := 94) (by decide) ?_
              exact j_vret X hlk hr d_M_rings_94 hw
        · have hw := hw.2 h
          refine j_iload_n X d_M_rings_32 rfl 0 rfl ?_
          refine j_if_ne X d_M_rings_33 (tgt := 44) (by decide) (fun h => absurd h (by decide)) (fun _ => ?_)
          refine j_aload_n X d_M_rings_36 rfl 1 rfl ?_
          refine j_iconst X (v := (5 : Int32)) d_M_rings_37 (by decide) ?_
          refine j_callVv (As := [.int (5 : Int32)]) X (c_M_alarm l D ca ad sz hD hw) (gcV (n := 1) X rfl rfl rfl gc_M_alarm m_M_alarm l_M_126 (by decide +kernel) ⟨by decide, by decide⟩) (q0 := 33) rfl rfl (fun _ h => h) rfl rfl (Nat.le_of_ble_eq_true rfl) ⟨by decide, by decide⟩ d_M_rings_38 (fun u4 hw => ?_)
          refine j_goto X d_M_rings_41 (tgt := 94) (by decide) ?_
          exact j_vret X hlk hr d_M_rings_94 hw
    · have hw := hw.2 h
      refine j_iconst X (v := (1 : Int32)) d_M_rings_11 (by decide) ?_
      refine j_goto X d_M_rings_12 (tgt := 16) (by decide) ?_
      refine j_istore_n X d_M_rings_16 rfl (by decide) rfl ?_
      refine j_aload_n X d_M_rings_17 rfl 1 rfl ?_
      refine g_33_1 X f_M_81 (v := (σ 33 1)) rfl d_M_rings_18 ?_
      refine j_iconst X (v := (4 : Int32)) d_M_rings_21 (by decide) ?_
      refine j_icmp_eq X d_M_rings_22 (tgt := 36) (by decide) (fun h => ?_) (fun h => ?_)
      · have hw := hw.1 h
        refine j_aload_n X d_M_rings_36 rfl 1 rfl ?_
        refine j_iconst X (v := (5 : Int32)) d_M_rings_37 (by decide) ?_
        refine j_callVv (As := [.int (5 : Int32)]) X (c_M_alarm l D ca ad sz hD hw) (gcV (n := 1) X rfl rfl rfl gc_M_alarm m_M_alarm l_M_126 (by decide +kernel) ⟨by decide, by decide⟩) (q0 := 33) rfl rfl (fun _ h => h) rfl rfl (Nat.le_of_ble_eq_true rfl) ⟨by decide, by decide⟩ d_M_rings_38 (fun u5 hw => ?_)
        refine j_goto X d_M_rings_41 (tgt := 94) (by decide) ?_
        exact j_vret X hlk hr d_M_rings_94 hw
      · have hw := hw.2 h
        refine j_aload_n X d_M_rings_25 rfl 1 rfl ?_
        refine g_33_1 X f_M_81 (v := (σ 33 1)) rfl d_M_rings_26 ?_
        refine j_if_le X d_M_rings_29 (tgt := 44) (by decide) (fun h => ?_) (fun h => ?_)
        · have hw := hw.1 h
          refine j_aload_n X d_M_rings_44 rfl 1 rfl ?_
          refine g_33_1 X f_M_81 (v := (σ 33 1)) rfl d_M_rings_45 ?_
          refine j_iconst X (v := (1 : Int32)) d_M_rings_48 (by decide) ?_
          refine j_icmp_eq X d_M_rings_49 (tgt := 60) (by decide) (fun h => ?_) (fun h => ?_)
          · have hw := hw.1 h
            refine j_aload_n X d_M_rings_60 rfl 1 rfl ?_
            refine j_aload_n X d_M_rings_61 rfl 1 rfl ?_
            refine g_33_1 X f_M_81 (v := (σ 33 1)) rfl d_M_rings_62 ?_
            refine j_callVv (As := [.int (σ 33 1)]) X (c_M_resend l D ca ad sz hD hw) (gcV (n := 1) X rfl rfl rfl gc_M_resend m_M_resend l_M_133 (by decide +kernel) ⟨by decide, by decide⟩) (q0 := 33) rfl rfl (fun _ h => h) rfl rfl (Nat.le_of_ble_eq_true rfl) ⟨by decide, by decide⟩ d_M_rings_65 (fun u6 hw => ?_)
            refine j_goto X d_M_rings_68 (tgt := 94) (by decide) ?_
            exact j_vret X hlk hr d_M_rings_94 hw
          · have hw := hw.2 h
            refine j_aload_n X d_M_rings_52 rfl 1 rfl ?_
            refine g_33_1 X f_M_81 (v := (σ 33 1)) rfl d_M_rings_53 ?_
            refine j_iconst X (v := (2 : Int32)) d_M_rings_56 (by decide) ?_
            refine j_icmp_ne X d_M_rings_57 (tgt := 71) (by decide) (fun h => ?_) (fun h => ?_)
            · have hw := hw.1 h
              refine j_aload_n X d_M_rings_71 rfl 1 rfl ?_
              refine g_33_1 X f_M_81 (v := (σ 33 1)) rfl d_M_rings_72 ?_
              refine j_iconst X (v := (5 : Int32)) d_M_rings_75 (by decide) ?_
              refine j_icmp_ne X d_M_rings_76 (tgt := 94) (by decide) (fun h => ?_) (fun h => ?_)
              · have hw := hw.1 h
                exact j_vret X hlk hr d_M_rings_94 hw
              · have hw := hw.2 h
                refine j_aload_n X d_M_rings_79 rfl 1 rfl ?_
                refine j_dup X d_M_rings_80 rfl ?_
                refine g_33_4 X f_M_108 (v := (σ 33 4)) rfl d_M_rings_81 ?_
                refine j_iconst X (v := (1 : Int32)) d_M_rings_84 (by decide) ?_
                refine j_iadd X d_M_rings_85 ?_
                refine p_33_4 X f_M_108 d_M_rings_86 ?_
                refine j_aload_n X d_M_rings_89 rfl 1 rfl ?_
                refine j_iconst X (v := (1 : Int32)) d_M_rings_90 (by decide) ?_
                refine p_33_12 X f_M_101 rfl rfl d_M_rings_91 ?_
                exact j_vret X hlk hr d_M_rings_94 hw
            · have hw := hw.2 h
              refine j_aload_n X d_M_rings_60 rfl 1 rfl ?_
              refine j_aload_n X d_M_rings_61 rfl 1 rfl ?_
              refine g_33_1 X f_M_81 (v := (σ 33 1)) rfl d_M_rings_62 ?_
              refine j_callVv (As := [.int (σ 33 1)]) X (c_M_resend l D ca ad sz hD hw) (gcV (n := 1) X rfl rfl rfl gc_M_resend m_M_resend l_M_133 (by decide +kernel) ⟨by decide, by decide⟩) (q0 := 33) rfl rfl (fun _ h => h) rfl rfl (Nat.le_of_ble_eq_true rfl) ⟨by decide, by decide⟩ d_M_rings_65 (fun u7 hw => ?_)
              refine j_goto X d_M_rings_68 (tgt := 94) (by decide) ?_
              exact j_vret X hlk hr d_M_rings_94 hw
        · have hw := hw.2 h
          refine j_iload_n X d_M_rings_32 rfl 0 rfl ?_
          refine j_if_ne X d_M_rings_33 (tgt := 44) (by decide) (fun _ => ?_) (fun h => absurd h (by decide))
          refine j_aload_n X d_M_rings_44 rfl 1 rfl ?_
          refine g_33_1 X f_M_81 (v := (σ 33 1)) rfl d_M_rings_45 ?_
          refine j_iconst X (v := (1 : Int32)) d_M_rings_48 (by decide) ?_
          refine j_icmp_eq X d_M_rings_49 (tgt := 60) (by decide) (fun h => ?_) (fun h => ?_)
          · have hw := hw.1 h
            refine j_aload_n X d_M_rings_60 rfl 1 rfl ?_
            refine j_aload_n X d_M_rings_61 rfl 1 rfl ?_
            refine g_33_1 X f_M_81 (v := (σ 33 1)) rfl d_M_rings_62 ?_
            refine j_callVv (As := [.int (σ 33 1)]) X (c_M_resend l D ca ad sz hD hw) (gcV (n := 1) X rfl rfl rfl gc_M_resend m_M_resend l_M_133 (by decide +kernel) ⟨by decide, by decide⟩) (q0 := 33) rfl rfl (fun _ h => h) rfl rfl (Nat.le_of_ble_eq_true rfl) ⟨by decide, by decide⟩ d_M_rings_65 (fun u8 hw => ?_)
            refine j_goto X d_M_rings_68 (tgt := 94) (by decide) ?_
            exact j_vret X hlk hr d_M_rings_94 hw
          · have hw := hw.2 h
            refine j_aload_n X d_M_rings_52 rfl 1 rfl ?_
            refine g_33_1 X f_M_81 (v := (σ 33 1)) rfl d_M_rings_53 ?_
            refine j_iconst X (v := (2 : Int32)) d_M_rings_56 (by decide) ?_
            refine j_icmp_ne X d_M_rings_57 (tgt := 71) (by decide) (fun h => ?_) (fun h => ?_)
            · have hw := hw.1 h
              refine j_aload_n X d_M_rings_71 rfl 1 rfl ?_
              refine g_33_1 X f_M_81 (v := (σ 33 1)) rfl d_M_rings_72 ?_
              refine j_iconst X (v := (5 : Int32)) d_M_rings_75 (by decide) ?_
              refine j_icmp_ne X d_M_rings_76 (tgt := 94) (by decide) (fun h => ?_) (fun h => ?_)
              · have hw := hw.1 h
                exact j_vret X hlk hr d_M_rings_94 hw
              · have hw := hw.2 h
                refine j_aload_n X d_M_rings_79 rfl 1 rfl ?_
                refine j_dup X d_M_rings_80 rfl ?_
                refine g_33_4 X f_M_108 (v := (σ 33 4)) rfl d_M_rings_81 ?_
                refine j_iconst X (v := (1 : Int32)) d_M_rings_84 (by decide) ?_
                refine j_iadd X d_M_rings_85 ?_
                refine p_33_4 X f_M_108 d_M_rings_86 ?_
                refine j_aload_n X d_M_rings_89 rfl 1 rfl ?_
                refine j_iconst X (v := (1 : Int32)) d_M_rings_90 (by decide) ?_
                refine p_33_12 X f_M_101 rfl rfl d_M_rings_91 ?_
                exact j_vret X hlk hr d_M_rings_94 hw
            · have hw := hw.2 h
              refine j_aload_n X d_M_rings_60 rfl 1 rfl ?_
              refine j_aload_n X d_M_rings_61 rfl 1 rfl ?_
              refine g_33_1 X f_M_81 (v := (σ 33 1)) rfl d_M_rings_62 ?_
              refine j_callVv (As := [.int (σ 33 1)]) X (c_M_resend l D ca ad sz hD hw) (gcV (n := 1) X rfl rfl rfl gc_M_resend m_M_resend l_M_133 (by decide +kernel) ⟨by decide, by decide⟩) (q0 := 33) rfl rfl (fun _ h => h) rfl rfl (Nat.le_of_ble_eq_true rfl) ⟨by decide, by decide⟩ d_M_rings_65 (fun u9 hw => ?_)
              refine j_goto X d_M_rings_68 (tgt := 94) (by decide) ?_
              exact j_vret X hlk hr d_M_rings_94 hw
  exact hX
def w_M_tick_L99 (K : Int32 → Jst → Prop) : Nat → Int32 → Jst → Prop
  | 0, _, _ => False
  | n + 1, v1, s99 => (((s99 33 14) ≤ v1 → (((s99 33 10) = (0 : Int32) → K (-1 : Int32) s99) ∧ (¬ (s99 33 10) = (0 : Int32) → (((s99 33 14) < (s99 33 7) → (vp_in (s99 33 14) 4 ∧ (vp_in (s99 33 14) 4 ∧ ((¬ ((s99 33 14) + (1 : Int32)) = (1 : Int32) → w_M_sends (0 : Int32) (((((s99 33 2) + (1 : Int32)) - ((s99 33 2) + (1 : Int32)) / (16 : Int32) * (16 : Int32)) + (15 : Int32)) - ((((s99 33 2) + (1 : Int32)) - ((s99 33 2) + (1 : Int32)) / (16 : Int32) * (16 : Int32)) + (15 : Int32)) / (16 : Int32) * (16 : Int32)) (s99 33 11) (jup (jup (jup (jup (jup (jup s99 34 (Int32.toNatClampNeg (s99 33 14)) (s99 33 11)) 35 (Int32.toNatClampNeg (s99 33 14)) (vp_nar .boolean (0 : Int32))) 33 14 ((s99 33 14) + (1 : Int32))) 33 10 (0 : Int32)) 33 4 (s99 33 4)) 33 2 (((s99 33 2) + (1 : Int32)) - ((s99 33 2) + (1 : Int32)) / (16 : Int32) * (16 : Int32))) (fun r2 u1 => K r2 u1)) ∧ (((s99 33 14) + (1 : Int32)) = (1 : Int32) → w_M_sends (0 : Int32) (((((s99 33 2) + (1 : Int32)) - ((s99 33 2) + (1 : Int32)) / (16 : Int32) * (16 : Int32)) + (15 : Int32)) - ((((s99 33 2) + (1 : Int32)) - ((s99 33 2) + (1 : Int32)) / (16 : Int32) * (16 : Int32)) + (15 : Int32)) / (16 : Int32) * (16 : Int32)) (s99 33 11) (jup (jup (jup (jup (jup (jup s99 34 (Int32.toNatClampNeg (s99 33 14)) (s99 33 11)) 35 (Int32.toNatClampNeg (s99 33 14)) (vp_nar .boolean (0 : Int32))) 33 14 ((s99 33 14) + (1 : Int32))) 33 10 (0 : Int32)) 33 4 (1 : Int32)) 33 2 (((s99 33 2) + (1 : Int32)) - ((s99 33 2) + (1 : Int32)) / (16 : Int32) * (16 : Int32))) (fun r4 u3 => K r4 u3)))))) ∧ (¬ (s99 33 14) < (s99 33 7) → K (-1 : Int32) s99))))) ∧ (¬ (s99 33 14) ≤ v1 → (vp_in v1 4 ∧ (((s99 35 (Int32.toNatClampNeg v1)) = (0 : Int32) → w_M_tick_L99 K n (v1 + (1 : Int32)) s99) ∧ (¬ (s99 35 (Int32.toNatClampNeg v1)) = (0 : Int32) → (vp_in v1 4 ∧ (vp_in v1 4 ∧ w_M_sends (0 : Int32) (((s99 33 3) + v1) - ((s99 33 3) + v1) / (16 : Int32) * (16 : Int32)) (s99 34 (Int32.toNatClampNeg v1)) (jup s99 35 (Int32.toNatClampNeg v1) (vp_nar .boolean (0 : Int32))) (fun r6 u5 => K r6 u5))))))))
def w_M_tick (σ : Jst) (K : Int32 → Jst → Prop) : Prop := (((σ 33 5) ≤ (0 : Int32) → ((¬ (σ 33 1) = (5 : Int32) → (((σ 33 1) = (1 : Int32) → (∃ n, w_M_tick_L99 K n (0 : Int32) (jup σ 33 0 (0 : Int32)))) ∧ (¬ (σ 33 1) = (1 : Int32) → (((σ 33 1) = (2 : Int32) → (∃ n, w_M_tick_L99 K n (0 : Int32) (jup σ 33 0 (0 : Int32)))) ∧ (¬ (σ 33 1) = (2 : Int32) → K (-1 : Int32) (jup σ 33 0 (0 : Int32))))))) ∧ ((σ 33 1) = (5 : Int32) → (((σ 33 12) = (0 : Int32) → (((σ 33 1) = (1 : Int32) → (∃ n, w_M_tick_L99 K n (0 : Int32) (jup σ 33 0 (0 : Int32)))) ∧ (¬ (σ 33 1) = (1 : Int32) → (((σ 33 1) = (2 : Int32) → (∃ n, w_M_tick_L99 K n (0 : Int32) (jup σ 33 0 (0 : Int32)))) ∧ (¬ (σ 33 1) = (2 : Int32) → K (-1 : Int32) (jup σ 33 0 (0 : Int32))))))) ∧ (¬ (σ 33 12) = (0 : Int32) → ((¬ (σ 33 13) = (2 : Int32) → w_M_sends (σ 33 13) (0 : Int32) (0 : Int32) (jup (jup σ 33 0 (0 : Int32)) 33 12 (0 : Int32)) (fun r2 u1 => K r2 u1)) ∧ ((σ 33 13) = (2 : Int32) → w_M_sends (σ 33 13) (σ 33 2) (0 : Int32) (jup (jup σ 33 0 (0 : Int32)) 33 12 (0 : Int32)) (fun r4 u3 => K r4 u3)))))))) ∧ (¬ (σ 33 5) ≤ (0 : Int32) → ((¬ ((σ 33 5) - (1 : Int32)) = (0 : Int32) → ((¬ (σ 33 1) = (5 : Int32) → (((σ 33 1) = (1 : Int32) → (∃ n, w_M_tick_L99 K n (0 : Int32) (jup (jup σ 33 0 (0 : Int32)) 33 5 ((σ 33 5) - (1 : Int32))))) ∧ (¬ (σ 33 1) = (1 : Int32) → (((σ 33 1) = (2 : Int32) → (∃ n, w_M_tick_L99 K n (0 : Int32) (jup (jup σ 33 0 (0 : Int32)) 33 5 ((σ 33 5) - (1 : Int32))))) ∧ (¬ (σ 33 1) = (2 : Int32) → K (-1 : Int32) (jup (jup σ 33 0 (0 : Int32)) 33 5 ((σ 33 5) - (1 : Int32)))))))) ∧ ((σ 33 1) = (5 : Int32) → (((σ 33 12) = (0 : Int32) → (((σ 33 1) = (1 : Int32) → (∃ n, w_M_tick_L99 K n (0 : Int32) (jup (jup σ 33 0 (0 : Int32)) 33 5 ((σ 33 5) - (1 : Int32))))) ∧ (¬ (σ 33 1) = (1 : Int32) → (((σ 33 1) = (2 : Int32) → (∃ n, w_M_tick_L99 K n (0 : Int32) (jup (jup σ 33 0 (0 : Int32)) 33 5 ((σ 33 5) - (1 : Int32))))) ∧ (¬ (σ 33 1) = (2 : Int32) → K (-1 : Int32) (jup (jup σ 33 0 (0 : Int32)) 33 5 ((σ 33 5) - (1 : Int32)))))))) ∧ (¬ (σ 33 12) = (0 : Int32) → ((¬ (σ 33 13) = (2 : Int32) → w_M_sends (σ 33 13) (0 : Int32) (0 : Int32) (jup (jup (jup σ 33 0 (0 : Int32)) 33 5 ((σ 33 5) - (1 : Int32))) 33 12 (0 : Int32)) (fun r6 u5 => K r6 u5)) ∧ ((σ 33 13) = (2 : Int32) → w_M_sends (σ 33 13) (σ 33 2) (0 : Int32) (jup (jup (jup σ 33 0 (0 : Int32)) 33 5 ((σ 33 5) - (1 : Int32))) 33 12 (0 : Int32)) (fun r8 u7 => K r8 u7)))))))) ∧ (((σ 33 5) - (1 : Int32)) = (0 : Int32) → w_M_rings (jup (jup σ 33 0 (0 : Int32)) 33 5 ((σ 33 5) - (1 : Int32))) (fun u9 => ((¬ (u9 33 1) = (5 : Int32) → (((u9 33 1) = (1 : Int32) → (∃ n, w_M_tick_L99 K n (0 : Int32) u9)) ∧ (¬ (u9 33 1) = (1 : Int32) → (((u9 33 1) = (2 : Int32) → (∃ n, w_M_tick_L99 K n (0 : Int32) u9)) ∧ (¬ (u9 33 1) = (2 : Int32) → K (-1 : Int32) u9))))) ∧ ((u9 33 1) = (5 : Int32) → (((u9 33 12) = (0 : Int32) → (((u9 33 1) = (1 : Int32) → (∃ n, w_M_tick_L99 K n (0 : Int32) u9)) ∧ (¬ (u9 33 1) = (1 : Int32) → (((u9 33 1) = (2 : Int32) → (∃ n, w_M_tick_L99 K n (0 : Int32) u9)) ∧ (¬ (u9 33 1) = (2 : Int32) → K (-1 : Int32) u9))))) ∧ (¬ (u9 33 12) = (0 : Int32) → ((¬ (u9 33 13) = (2 : Int32) → w_M_sends (u9 33 13) (0 : Int32) (0 : Int32) (jup u9 33 12 (0 : Int32)) (fun r11 u10 => K r11 u10)) ∧ ((u9 33 13) = (2 : Int32) → w_M_sends (u9 33 13) (u9 33 2) (0 : Int32) (jup u9 33 12 (0 : Int32)) (fun r13 u12 => K r13 u12))))))))))))
abbrev rm_M_tick : Room := { frames := 4, cells := 0, slots := 0, locals := 84 }
set_option maxRecDepth 100000 in
set_option maxHeartbeats 4000000 in
theorem c_M_tick (l : Launch) (D : va_G) (ca ad : Nat → Nat) (sz : Nat) (hD : Jd ca ad sz) {σ : Jst} {K : Int32 → Jst → Prop} (hw : w_M_tick σ K) : Met l y_M_tick (wG y_M_tick b_M_tick 2 (some .int)) rm_M_tick (va_Pc [.ref (ad 33)] (Jw D vwCl (tysT ca) (wlT ad ca) (NwT sz) σ)) (va_Qi K (Jq D vwCl (wlT ad ca)) (Aw sz)) 0 0 (Aw sz) := by
  refine j_met (cc := b_M_tick) (own := R_M) (by decide +kernel) rfl (Nat.le_of_ble_eq_true rfl) rfl hD (nwT_k sz) ?_
  intro p e s m args below meth c X hlk hr
  have hX : J p l e rm_M_tick s m args below meth c D vwCl (wlT ad ca) (Aw sz) 2 0 0 (MQ below (va_Qi K (Jq D vwCl (wlT ad ca)) (Aw sz)) args s 0 0 (Aw sz)) 0 [(0, .ref (ad 33))] [] σ := by
    unfold w_M_tick at hw
    refine j_aload_n X d_M_tick_0 rfl 0 rfl ?_
    refine j_iconst X (v := (0 : Int32)) d_M_tick_1 (by decide) ?_
    refine p_33_0 X f_M_78 d_M_tick_2 ?_
    refine j_aload_n X d_M_tick_5 rfl 0 rfl ?_
    refine g_33_5 X f_M_98 (v := (σ 33 5)) rfl d_M_tick_6 ?_
    refine j_if_le X d_M_tick_9 (tgt := 33) (by decide) (fun h => ?_) (fun h => ?_)
    · have hw := hw.1 h
      refine j_aload_n X d_M_tick_33 rfl 0 rfl ?_
      refine g_33_1 X f_M_81 (v := (σ 33 1)) rfl d_M_tick_34 ?_
      refine j_iconst X (v := (5 : Int32)) d_M_tick_37 (by decide) ?_
      refine j_icmp_ne X d_M_tick_38 (tgt := 79) (by decide) (fun h => ?_) (fun h => ?_)
      · have hw := hw.1 h
        refine j_aload_n X d_M_tick_79 rfl 0 rfl ?_
        refine g_33_1 X f_M_81 (v := (σ 33 1)) rfl d_M_tick_80 ?_
        refine j_iconst X (v := (1 : Int32)) d_M_tick_83 (by decide) ?_
        refine j_icmp_eq X d_M_tick_84 (tgt := 97) (by decide) (fun h => ?_) (fun h => ?_)
        · have hw := hw.1 h
          refine j_iconst X (v := (0 : Int32)) d_M_tick_97 (by decide) ?_
          refine j_istore_n X d_M_tick_98 rfl (by decide) rfl ?_
          have lp99 : ∀ (n : Nat) (v1 : Int32) (s99 : Jst), w_M_tick_L99 K n v1 s99 → J p l e rm_M_tick s m args below meth c D vwCl (wlT ad ca) (Aw sz) 2 0 0 (MQ below (va_Qi K (Jq D vwCl (wlT ad ca)) (Aw sz)) args s 0 0 (Aw sz)) 99 [(0, .ref (ad 33)), (1, .int v1)] [] s99 := by
            intro n
            induction n with
            | zero => intro v1 s99 hw; exact (show False from hw).elim
            | succ n ih99 =>
              intro v1 s99 hw
              rw [w_M_tick_L99] at hw
              refine j_iload_n X d_M_tick_99 rfl 1 rfl ?_
              refine j_aload_n X d_M_tick_100 rfl 0 rfl ?_
              refine g_33_14 X f_M_114 (v := (s99 33 14)) rfl d_M_tick_101 ?_
              refine j_icmp_ge X d_M_tick_104 (tgt := 150) (by decide) (fun h => ?_) (fun h => ?_)
              · have hw := hw.1 h
                refine j_aload_n X d_M_tick_150 rfl 0 rfl ?_
                refine g_33_10 X f_M_117 (v := (s99 33 10)) rfl d_M_tick_151 ?_
                refine j_if_eq X d_M_tick_154 (tgt := 168) (by decide) (fun h => ?_) (fun h => ?_)
                · have hw := hw.1 h
                  refine j_iconst X (v := (-1 : Int32)) d_M_tick_168 (by decide) ?_
                  exact j_iret X hlk hr d_M_tick_169 hw
                · have hw := hw.2 h
                  refine j_aload_n X d_M_tick_157 rfl 0 rfl ?_
                  refine g_33_14 X f_M_114 (v := (s99 33 14)) rfl d_M_tick_158 ?_
                  refine j_aload_n X d_M_tick_161 rfl 0 rfl ?_
                  refine g_33_7 X f_M_7 (v := (s99 33 7)) rfl d_M_tick_162 ?_
                  refine j_icmp_lt X d_M_tick_165 (tgt := 170) (by decide) (fun h => ?_) (fun h => ?_)
                  · have hw := hw.1 h
                    refine j_aload_n X d_M_tick_170 rfl 0 rfl ?_
                    refine g_33_15 X f_M_19 d_M_tick_171 ?_
                    refine j_aload_n X d_M_tick_174 rfl 0 rfl ?_
                    refine g_33_14 X f_M_114 (v := (s99 33 14)) rfl d_M_tick_175 ?_
                    refine j_aload_n X d_M_tick_178 rfl 0 rfl ?_
                    refine g_33_11 X f_M_123 (v := (s99 33 11)) rfl d_M_tick_179 ?_
                    refine sr_34 X hw.1 d_M_tick_182 ?_
                    have hw := hw.2
                    refine j_aload_n X d_M_tick_183 rfl 0 rfl ?_
                    refine g_33_16 X f_M_23 d_M_tick_184 ?_
                    refine j_aload_n X d_M_tick_187 rfl 0 rfl ?_
                    refine g_33_14 X f_M_114 (v := (s99 33 14)) rfl d_M_tick_188 ?_
                    refine j_iconst X (v := (0 : Int32)) d_M_tick_191 (by decide) ?_
                    refine sr_35 X hw.1 d_M_tick_192 ?_
                    have hw := hw.2
                    refine j_aload_n X d_M_tick_193 rfl 0 rfl ?_
                    refine j_dup X d_M_tick_194 rfl ?_
                    refine g_33_14 X f_M_114 (v := (s99 33 14)) rfl d_M_tick_195 ?_
                    refine j_iconst X (v := (1 : Int32)) d_M_tick_198 (by decide) ?_
                    refine j_iadd X d_M_tick_199 ?_
                    refine p_33_14 X f_M_114 d_M_tick_200 ?_
                    refine j_aload_n X d_M_tick_203 rfl 0 rfl ?_
                    refine j_iconst X (v := (0 : Int32)) d_M_tick_204 (by decide) ?_
                    refine p_33_10 X f_M_117 rfl rfl d_M_tick_205 ?_
                    refine j_aload_n X d_M_tick_208 rfl 0 rfl ?_
                    refine j_aload_n X d_M_tick_209 rfl 0 rfl ?_
                    refine g_33_14 X f_M_114 (v := ((s99 33 14) + (1 : Int32))) rfl d_M_tick_210 ?_
                    refine j_iconst X (v := (1 : Int32)) d_M_tick_213 (by decide) ?_
                    refine j_icmp_ne X d_M_tick_214 (tgt := 221) (by decide) (fun h => ?_) (fun h => ?_)
                    · have hw := hw.1 h
                      refine j_aload_n X d_M_tick_221 rfl 0 rfl ?_
                      refine g_33_4 X f_M_108 (v := (s99 33 4)) rfl d_M_tick_222 ?_
                      refine p_33_4 X f_M_108 d_M_tick_225 ?_
                      refine j_aload_n X d_M_tick_228 rfl 0 rfl ?_
                      refine j_aload_n X d_M_tick_229 rfl 0 rfl ?_
                      refine g_33_2 X f_M_92 (v := (s99 33 2)) rfl d_M_tick_230 ?_
                      refine j_iconst X (v := (1 : Int32)) d_M_tick_233 (by decide) ?_
                      refine j_iadd X d_M_tick_234 ?_
                      refine j_bipush X (v := (16 : Int32)) d_M_tick_235 (by decide) ?_
                      refine j_irem X d_M_tick_237 (by decide) ?_
                      refine p_33_2 X f_M_92 d_M_tick_238 ?_
                      refine j_aload_n X d_M_tick_241 rfl 0 rfl ?_
                      refine j_iconst X (v := (0 : Int32)) d_M_tick_242 (by decide) ?_
                      refine j_aload_n X d_M_tick_243 rfl 0 rfl ?_
                      refine g_33_2 X f_M_92 (v := (((s99 33 2) + (1 : Int32)) - ((s99 33 2) + (1 : Int32)) / (16 : Int32) * (16 : Int32))) rfl d_M_tick_244 ?_
                      refine j_bipush X (v := (15 : Int32)) d_M_tick_247 (by decide) ?_
                      refine j_iadd X d_M_tick_249 ?_
                      refine j_bipush X (v := (16 : Int32)) d_M_tick_250 (by decide) ?_
                      refine j_irem X d_M_tick_252 (by decide) ?_
                      refine j_aload_n X d_M_tick_253 rfl 0 rfl ?_
                      refine g_33_11 X f_M_123 (v := (s99 33 11)) rfl d_M_tick_254 ?_
                      refine j_callVi (As := [.int (0 : Int32), .int (((((s99 33 2) + (1 : Int32)) - ((s99 33 2) + (1 : Int32)) / (16 : Int32) * (16 : Int32)) + (15 : Int32)) - ((((s99 33 2) + (1 : Int32)) - ((s99 33 2) + (1 : Int32)) / (16 : Int32) * (16 : Int32)) + (15 : Int32)) / (16 : Int32) * (16 : Int32)), .int (s99 33 11)]) X (c_M_sends l D ca ad sz hD hw) (gcV (n := 3) X rfl rfl rfl gc_M_sends m_M_sends l_M_139 (by decide +kernel) ⟨by decide, by decide⟩) (q0 := 33) rfl rfl (fun _ h => h) rfl rfl (Nat.le_of_ble_eq_true rfl) ⟨by decide, by decide⟩ d_M_tick_257 (fun r2 u1 hw => ?_)
                      exact j_iret X hlk hr d_M_tick_260 hw
                    · have hw := hw.2 h
                      refine j_iconst X (v := (1 : Int32)) d_M_tick_217 (by decide) ?_
                      refine j_goto X d_M_tick_218 (tgt := 225) (by decide) ?_
                      refine p_33_4 X f_M_108 d_M_tick_225 ?_
                      refine j_aload_n X d_M_tick_228 rfl 0 rfl ?_
                      refine j_aload_n X d_M_tick_229 rfl 0 rfl ?_
                      refine g_33_2 X f_M_92 (v := (s99 33 2)) rfl d_M_tick_230 ?_
                      refine j_iconst X (v := (1 : Int32)) d_M_tick_233 (by decide) ?_
                      refine j_iadd X d_M_tick_234 ?_
                      refine j_bipush X (v := (16 : Int32)) d_M_tick_235 (by decide) ?_
                      refine j_irem X d_M_tick_237 (by decide) ?_
                      refine p_33_2 X f_M_92 d_M_tick_238 ?_
                      refine j_aload_n X d_M_tick_241 rfl 0 rfl ?_
                      refine j_iconst X (v := (0 : Int32)) d_M_tick_242 (by decide) ?_
                      refine j_aload_n X d_M_tick_243 rfl 0 rfl ?_
                      refine g_33_2 X f_M_92 (v := (((s99 33 2) + (1 : Int32)) - ((s99 33 2) + (1 : Int32)) / (16 : Int32) * (16 : Int32))) rfl d_M_tick_244 ?_
                      refine j_bipush X (v := (15 : Int32)) d_M_tick_247 (by decide) ?_
                      refine j_iadd X d_M_tick_249 ?_
                      refine j_bipush X (v := (16 : Int32)) d_M_tick_250 (by decide) ?_
                      refine j_irem X d_M_tick_252 (by decide) ?_
                      refine j_aload_n X d_M_tick_253 rfl 0 rfl ?_
                      refine g_33_11 X f_M_123 (v := (s99 33 11)) rfl d_M_tick_254 ?_
                      refine j_callVi (As := [.int (0 : Int32), .int (((((s99 33 2) + (1 : Int32)) - ((s99 33 2) + (1 : Int32)) / (16 : Int32) * (16 : Int32)) + (15 : Int32)) - ((((s99 33 2) + (1 : Int32)) - ((s99 33 2) + (1 : Int32)) / (16 : Int32) * (16 : Int32)) + (15 : Int32)) / (16 : Int32) * (16 : Int32)), .int (s99 33 11)]) X (c_M_sends l D ca ad sz hD hw) (gcV (n := 3) X rfl rfl rfl gc_M_sends m_M_sends l_M_139 (by decide +kernel) ⟨by decide, by decide⟩) (q0 := 33) rfl rfl (fun _ h => h) rfl rfl (Nat.le_of_ble_eq_true rfl) ⟨by decide, by decide⟩ d_M_tick_257 (fun r4 u3 hw => ?_)
                      exact j_iret X hlk hr d_M_tick_260 hw
                  · have hw := hw.2 h
                    refine j_iconst X (v := (-1 : Int32)) d_M_tick_168 (by decide) ?_
                    exact j_iret X hlk hr d_M_tick_169 hw
              · have hw := hw.2 h
                refine j_aload_n X d_M_tick_107 rfl 0 rfl ?_
                refine g_33_16 X f_M_23 d_M_tick_108 ?_
                refine j_iload_n X d_M_tick_111 rfl 1 rfl ?_
                refine ld_35 X hw.1 (v := (s99 35 (Int32.toNatClampNeg v1))) rfl d_M_tick_112 ?_
                have hw := hw.2
                refine j_if_eq X d_M_tick_113 (tgt := 144) (by decide) (fun h => ?_) (fun h => ?_)
                · have hw := hw.1 h
                  refine j_iinc X (v := (1 : Int32)) d_M_tick_144 1 rfl (by decide) (by decide) rfl ?_
                  refine j_goto X d_M_tick_147 (tgt := 99) (by decide) ?_
                  refine j_locs [1, 0] rfl ?_
                  exact ih99 _ _ hw
                · have hw := hw.2 h
                  refine j_aload_n X d_M_tick_116 rfl 0 rfl ?_
                  refine g_33_16 X f_M_23 d_M_tick_117 ?_
                  refine j_iload_n X d_M_tick_120 rfl 1 rfl ?_
                  refine j_iconst X (v := (0 : Int32)) d_M_tick_121 (by decide) ?_
                  refine sr_35 X hw.1 d_M_tick_122 ?_
                  have hw := hw.2
                  refine j_aload_n X d_M_tick_123 rfl 0 rfl ?_
                  refine j_iconst X (v := (0 : Int32)) d_M_tick_124 (by decide) ?_
                  refine j_aload_n X d_M_tick_125 rfl 0 rfl ?_
                  refine g_33_3 X f_M_95 (v := (s99 33 3)) rfl d_M_tick_126 ?_
                  refine j_iload_n X d_M_tick_129 rfl 1 rfl ?_
                  refine j_iadd X d_M_tick_130 ?_
                  refine j_bipush X (v := (16 : Int32)) d_M_tick_131 (by decide) ?_
                  refine j_irem X d_M_tick_133 (by decide) ?_
                  refine j_aload_n X d_M_tick_134 rfl 0 rfl ?_
                  refine g_33_15 X f_M_19 d_M_tick_135 ?_
                  refine j_iload_n X d_M_tick_138 rfl 1 rfl ?_
                  refine ld_34 X hw.1 (v := (s99 34 (Int32.toNatClampNeg v1))) rfl d_M_tick_139 ?_
                  have hw := hw.2
                  refine j_callVi (As := [.int (0 : Int32), .int (((s99 33 3) + v1) - ((s99 33 3) + v1) / (16 : Int32) * (16 : Int32)), .int (s99 34 (Int32.toNatClampNeg v1))]) X (c_M_sends l D ca ad sz hD hw) (gcV (n := 3) X rfl rfl rfl gc_M_sends m_M_sends l_M_139 (by decide +kernel) ⟨by decide, by decide⟩) (q0 := 33) rfl rfl (fun _ h => h) rfl rfl (Nat.le_of_ble_eq_true rfl) ⟨by decide, by decide⟩ d_M_tick_140 (fun r6 u5 hw => ?_)
                  exact j_iret X hlk hr d_M_tick_143 hw
          obtain ⟨n, hw⟩ := hw
          refine j_locs [1, 0] rfl ?_
          exact lp99 n _ _ hw
        · have hw := hw.2 h
          refine j_aload_n X d_M_tick_87 rfl 0 rfl ?_
          refine g_33_1 X f_M_81 (v := (σ 33 1)) rfl d_M_tick_88 ?_
          refine j_iconst X (v := (2 : Int32)) d_M_tick_91 (by decide) ?_
          refine j_icmp_eq X d_M_tick_92 (tgt := 97) (by decide) (fun h => ?_) (fun h => ?_)
          · have hw := hw.1 h
            refine j_iconst X (v := (0 : Int32)) d_M_tick_97 (by decide) ?_
            refine j_istore_n X d_M_tick_98 rfl (by decide) rfl ?_
            have lp99 : ∀ (n : Nat) (v1 : Int32) (s99 : Jst), w_M_tick_L99 K n v1 s99 → J p l e rm_M_tick s m args below meth c D vwCl (wlT ad ca) (Aw sz) 2 0 0 (MQ below (va_Qi K (Jq D vwCl (wlT ad ca)) (Aw sz)) args s 0 0 (Aw sz)) 99 [(0, .ref (ad 33)), (1, .int v1)] [] s99 := by
              intro n
              induction n with
              | zero => intro v1 s99 hw; exact (show False from hw).elim
              | succ n ih99 =>
                intro v1 s99 hw
                rw [w_M_tick_L99] at hw
                refine j_iload_n X d_M_tick_99 rfl 1 rfl ?_
                refine j_aload_n X d_M_tick_100 rfl 0 rfl ?_
                refine g_33_14 X f_M_114 (v := (s99 33 14)) rfl d_M_tick_101 ?_
                refine j_icmp_ge X d_M_tick_104 (tgt := 150) (by decide) (fun h => ?_) (fun h => ?_)
                · have hw := hw.1 h
                  refine j_aload_n X d_M_tick_150 rfl 0 rfl ?_
                  refine g_33_10 X f_M_117 (v := (s99 33 10)) rfl d_M_tick_151 ?_
                  refine j_if_eq X d_M_tick_154 (tgt := 168) (by decide) (fun h => ?_) (fun h => ?_)
                  · have hw := hw.1 h
                    refine j_iconst X (v := (-1 : Int32)) d_M_tick_168 (by decide) ?_
                    exact j_iret X hlk hr d_M_tick_169 hw
                  · have hw := hw.2 h
                    refine j_aload_n X d_M_tick_157 rfl 0 rfl ?_
                    refine g_33_14 X f_M_114 (v := (s99 33 14)) rfl d_M_tick_158 ?_
                    refine j_aload_n X d_M_tick_161 rfl 0 rfl ?_
                    refine g_33_7 X f_M_7 (v := (s99 33 7)) rfl d_M_tick_162 ?_
                    refine j_icmp_lt X d_M_tick_165 (tgt := 170) (by decide) (fun h => ?_) (fun h => ?_)
                    · have hw := hw.1 h
                      refine j_aload_n X d_M_tick_170 rfl 0 rfl ?_
                      refine g_33_15 X f_M_19 d_M_tick_171 ?_
                      refine j_aload_n X d_M_tick_174 rfl 0 rfl ?_
                      refine g_33_14 X f_M_114 (v := (s99 33 14)) rfl d_M_tick_175 ?_
                      refine j_aload_n X d_M_tick_178 rfl 0 rfl ?_
                      refine g_33_11 X f_M_123 (v := (s99 33 11)) rfl d_M_tick_179 ?_
                      refine sr_34 X hw.1 d_M_tick_182 ?_
                      have hw := hw.2
                      refine j_aload_n X d_M_tick_183 rfl 0 rfl ?_
                      refine g_33_16 X f_M_23 d_M_tick_184 ?_
                      refine j_aload_n X d_M_tick_187 rfl 0 rfl ?_
                      refine g_33_14 X f_M_114 (v := (s99 33 14)) rfl d_M_tick_188 ?_
                      refine j_iconst X (v := (0 : Int32)) d_M_tick_191 (by decide) ?_
                      refine sr_35 X hw.1 d_M_tick_192 ?_
                      have hw := hw.2
                      refine j_aload_n X d_M_tick_193 rfl 0 rfl ?_
                      refine j_dup X d_M_tick_194 rfl ?_
                      refine g_33_14 X f_M_114 (v := (s99 33 14)) rfl d_M_tick_195 ?_
                      refine j_iconst X (v := (1 : Int32)) d_M_tick_198 (by decide) ?_
                      refine j_iadd X d_M_tick_199 ?_
                      refine p_33_14 X f_M_114 d_M_tick_200 ?_
                      refine j_aload_n X d_M_tick_203 rfl 0 rfl ?_
                      refine j_iconst X (v := (0 : Int32)) d_M_tick_204 (by decide) ?_
                      refine p_33_10 X f_M_117 rfl rfl d_M_tick_205 ?_
                      refine j_aload_n X d_M_tick_208 rfl 0 rfl ?_
                      refine j_aload_n X d_M_tick_209 rfl 0 rfl ?_
                      refine g_33_14 X f_M_114 (v := ((s99 33 14) + (1 : Int32))) rfl d_M_tick_210 ?_
                      refine j_iconst X (v := (1 : Int32)) d_M_tick_213 (by decide) ?_
                      refine j_icmp_ne X d_M_tick_214 (tgt := 221) (by decide) (fun h => ?_) (fun h => ?_)
                      · have hw := hw.1 h
                        refine j_aload_n X d_M_tick_221 rfl 0 rfl ?_
                        refine g_33_4 X f_M_108 (v := (s99 33 4)) rfl d_M_tick_222 ?_
                        refine p_33_4 X f_M_108 d_M_tick_225 ?_
                        refine j_aload_n X d_M_tick_228 rfl 0 rfl ?_
                        refine j_aload_n X d_M_tick_229 rfl 0 rfl ?_
                        refine g_33_2 X f_M_92 (v := (s99 33 2)) rfl d_M_tick_230 ?_
                        refine j_iconst X (v := (1 : Int32)) d_M_tick_233 (by decide) ?_
                        refine j_iadd X d_M_tick_234 ?_
                        refine j_bipush X (v := (16 : Int32)) d_M_tick_235 (by decide) ?_
                        refine j_irem X d_M_tick_237 (by decide) ?_
                        refine p_33_2 X f_M_92 d_M_tick_238 ?_
                        refine j_aload_n X d_M_tick_241 rfl 0 rfl ?_
                        refine j_iconst X (v := (0 : Int32)) d_M_tick_242 (by decide) ?_
                        refine j_aload_n X d_M_tick_243 rfl 0 rfl ?_
                        refine g_33_2 X f_M_92 (v := (((s99 33 2) + (1 : Int32)) - ((s99 33 2) + (1 : Int32)) / (16 : Int32) * (16 : Int32))) rfl d_M_tick_244 ?_
                        refine j_bipush X (v := (15 : Int32)) d_M_tick_247 (by decide) ?_
                        refine j_iadd X d_M_tick_249 ?_
                        refine j_bipush X (v := (16 : Int32)) d_M_tick_250 (by decide) ?_
                        refine j_irem X d_M_tick_252 (by decide) ?_
                        refine j_aload_n X d_M_tick_253 rfl 0 rfl ?_
                        refine g_33_11 X f_M_123 (v := (s99 33 11)) rfl d_M_tick_254 ?_
                        refine j_callVi (As := [.int (0 : Int32), .int (((((s99 33 2) + (1 : Int32)) - ((s99 33 2) + (1 : Int32)) / (16 : Int32) * (16 : Int32)) + (15 : Int32)) - ((((s99 33 2) + (1 : Int32)) - ((s99 33 2) + (1 : Int32)) / (16 : Int32) * (16 : Int32)) + (15 : Int32)) / (16 : Int32) * (16 : Int32)), .int (s99 33 11)]) X (c_M_sends l D ca ad sz hD hw) (gcV (n := 3) X rfl rfl rfl gc_M_sends m_M_sends l_M_139 (by decide +kernel) ⟨by decide, by decide⟩) (q0 := 33) rfl rfl (fun _ h => h) rfl rfl (Nat.le_of_ble_eq_true rfl) ⟨by decide, by decide⟩ d_M_tick_257 (fun r2 u1 hw => ?_)
                        exact j_iret X hlk hr d_M_tick_260 hw
                      · have hw := hw.2 h
                        refine j_iconst X (v := (1 : Int32)) d_M_tick_217 (by decide) ?_
                        refine j_goto X d_M_tick_218 (tgt := 225) (by decide) ?_
                        refine p_33_4 X f_M_108 d_M_tick_225 ?_
                        refine j_aload_n X d_M_tick_228 rfl 0 rfl ?_
                        refine j_aload_n X d_M_tick_229 rfl 0 rfl ?_
                        refine g_33_2 X f_M_92 (v := (s99 33 2)) rfl d_M_tick_230 ?_
                        refine j_iconst X (v := (1 : Int32)) d_M_tick_233 (by decide) ?_
                        refine j_iadd X d_M_tick_234 ?_
                        refine j_bipush X (v := (16 : Int32)) d_M_tick_235 (by decide) ?_
                        refine j_irem X d_M_tick_237 (by decide) ?_
                        refine p_33_2 X f_M_92 d_M_tick_238 ?_
                        refine j_aload_n X d_M_tick_241 rfl 0 rfl ?_
                        refine j_iconst X (v := (0 : Int32)) d_M_tick_242 (by decide) ?_
                        refine j_aload_n X d_M_tick_243 rfl 0 rfl ?_
                        refine g_33_2 X f_M_92 (v := (((s99 33 2) + (1 : Int32)) - ((s99 33 2) + (1 : Int32)) / (16 : Int32) * (16 : Int32))) rfl d_M_tick_244 ?_
                        refine j_bipush X (v := (15 : Int32)) d_M_tick_247 (by decide) ?_
                        refine j_iadd X d_M_tick_249 ?_
                        refine j_bipush X (v := (16 : Int32)) d_M_tick_250 (by decide) ?_
                        refine j_irem X d_M_tick_252 (by decide) ?_
                        refine j_aload_n X d_M_tick_253 rfl 0 rfl ?_
                        refine g_33_11 X f_M_123 (v := (s99 33 11)) rfl d_M_tick_254 ?_
                        refine j_callVi (As := [.int (0 : Int32), .int (((((s99 33 2) + (1 : Int32)) - ((s99 33 2) + (1 : Int32)) / (16 : Int32) * (16 : Int32)) + (15 : Int32)) - ((((s99 33 2) + (1 : Int32)) - ((s99 33 2) + (1 : Int32)) / (16 : Int32) * (16 : Int32)) + (15 : Int32)) / (16 : Int32) * (16 : Int32)), .int (s99 33 11)]) X (c_M_sends l D ca ad sz hD hw) (gcV (n := 3) X rfl rfl rfl gc_M_sends m_M_sends l_M_139 (by decide +kernel) ⟨by decide, by decide⟩) (q0 := 33) rfl rfl (fun _ h => h) rfl rfl (Nat.le_of_ble_eq_true rfl) ⟨by decide, by decide⟩ d_M_tick_257 (fun r4 u3 hw => ?_)
                        exact j_iret X hlk hr d_M_tick_260 hw
                    · have hw := hw.2 h
                      refine j_iconst X (v := (-1 : Int32)) d_M_tick_168 (by decide) ?_
                      exact j_iret X hlk hr d_M_tick_169 hw
                · have hw := hw.2 h
                  refine j_aload_n X d_M_tick_107 rfl 0 rfl ?_
                  refine g_33_16 X f_M_23 d_M_tick_108 ?_
                  refine j_iload_n X d_M_tick_111 rfl 1 rfl ?_
                  refine ld_35 X hw.1 (v := (s99 35 (Int32.toNatClampNeg v1))) rfl d_M_tick_112 ?_
                  have hw := hw.2
                  refine j_if_eq X d_M_tick_113 (tgt := 144) (by decide) (fun h => ?_) (fun h => ?_)
                  · have hw := hw.1 h
                    refine j_iinc X (v := (1 : Int32)) d_M_tick_144 1 rfl (by decide) (by decide) rfl ?_
                    refine j_goto X d_M_tick_147 (tgt := 99) (by decide) ?_
                    refine j_locs [1, 0] rfl ?_
                    exact ih99 _ _ hw
                  · have hw := hw.2 h
                    refine j_aload_n X d_M_tick_116 rfl 0 rfl ?_
                    refine g_33_16 X f_M_23 d_M_tick_117 ?_
                    refine j_iload_n X d_M_tick_120 rfl 1 rfl ?_
                    refine j_iconst X (v := (0 : Int32)) d_M_tick_121 (by decide) ?_
                    refine sr_35 X hw.1 d_M_tick_122 ?_
                    have hw := hw.2
                    refine j_aload_n X d_M_tick_123 rfl 0 rfl ?_
                    refine j_iconst X (v := (0 : Int32)) d_M_tick_124 (by decide) ?_
                    refine j_aload_n X d_M_tick_125 rfl 0 rfl ?_
                    refine g_33_3 X f_M_95 (v := (s99 33 3)) rfl d_M_tick_126 ?_
                    refine j_iload_n X d_M_tick_129 rfl 1 rfl ?_
                    refine j_iadd X d_M_tick_130 ?_
                    refine j_bipush X (v := (16 : Int32)) d_M_tick_131 (by decide) ?_
                    refine j_irem X d_M_tick_133 (by decide) ?_
                    refine j_aload_n X d_M_tick_134 rfl 0 rfl ?_
                    refine g_33_15 X f_M_19 d_M_tick_135 ?_
                    refine j_iload_n X d_M_tick_138 rfl 1 rfl ?_
                    refine ld_34 X hw.1 (v := (s99 34 (Int32.toNatClampNeg v1))) rfl d_M_tick_139 ?_
                    have hw := hw.2
                    refine j_callVi (As := [.int (0 : Int32), .int (((s99 33 3) + v1) - ((s99 33 3) + v1) / (16 : Int32) * (16 : Int32)), .int (s99 34 (Int32.toNatClampNeg v1))]) X (c_M_sends l D ca ad sz hD hw) (gcV (n := 3) X rfl rfl rfl gc_M_sends m_M_sends l_M_139 (by decide +kernel) ⟨by decide, by decide⟩) (q0 := 33) rfl rfl (fun _ h => h) rfl rfl (Nat.le_of_ble_eq_true rfl) ⟨by decide, by decide⟩ d_M_tick_140 (fun r6 u5 hw => ?_)
                    exact j_iret X hlk hr d_M_tick_143 hw
            obtain ⟨n, hw⟩ := hw
            refine j_locs [1, 0] rfl ?_
            exact lp99 n _ _ hw
          · have hw := hw.2 h
            refine j_iconst X (v := (-1 : Int32)) d_M_tick_95 (by decide) ?_
            exact j_iret X hlk hr d_M_tick_96 hw
      · have hw := hw.2 h
        refine j_aload_n X d_M_tick_41 rfl 0 rfl ?_
        refine g_33_12 X f_M_101 (v := (σ 33 12)) rfl d_M_tick_42 ?_
        refine j_if_eq X d_M_tick_45 (tgt := 79) (by decide) (fun h => ?_) (fun h => ?_)
        · have hw := hw.1 h
          refine j_aload_n X d_M_tick_79 rfl 0 rfl ?_
          refine g_33_1 X f_M_81 (v := (σ 33 1)) rfl d_M_tick_80 ?_
          refine j_iconst X (v := (1 : Int32)) d_M_tick_83 (by decide) ?_
          refine j_icmp_eq X d_M_tick_84 (tgt := 97) (by decide) (fun h => ?_) (fun h => ?_)
          · have hw := hw.1 h
            refine j_iconst X (v := (0 : Int32)) d_M_tick_97 (by decide) ?_
            refine j_istore_n X d_M_tick_98 rfl (by decide) rfl ?_
            have lp99 : ∀ (n : Nat) (v1 : Int32) (s99 : Jst), w_M_tick_L99 K n v1 s99 → J p l e rm_M_tick s m args below meth c D vwCl (wlT ad ca) (Aw sz) 2 0 0 (MQ below (va_Qi K (Jq D vwCl (wlT ad ca)) (Aw sz)) args s 0 0 (Aw sz)) 99 [(0, .ref (ad 33)), (1, .int v1)] [] s99 := by
              intro n
              induction n with
              | zero => intro v1 s99 hw; exact (show False from hw).elim
              | succ n ih99 =>
                intro v1 s99 hw
                rw [w_M_tick_L99] at hw
                refine j_iload_n X d_M_tick_99 rfl 1 rfl ?_
                refine j_aload_n X d_M_tick_100 rfl 0 rfl ?_
                refine g_33_14 X f_M_114 (v := (s99 33 14)) rfl d_M_tick_101 ?_
                refine j_icmp_ge X d_M_tick_104 (tgt := 150) (by decide) (fun h => ?_) (fun h => ?_)
                · have hw := hw.1 h
                  refine j_aload_n X d_M_tick_150 rfl 0 rfl ?_
                  refine g_33_10 X f_M_117 (v := (s99 33 10)) rfl d_M_tick_151 ?_
                  refine j_if_eq X d_M_tick_154 (tgt := 168) (by decide) (fun h => ?_) (fun h => ?_)
                  · have hw := hw.1 h
                    refine j_iconst X (v := (-1 : Int32)) d_M_tick_168 (by decide) ?_
                    exact j_iret X hlk hr d_M_tick_169 hw
                  · have hw := hw.2 h
                    refine j_aload_n X d_M_tick_157 rfl 0 rfl ?_
                    refine g_33_14 X f_M_114 (v := (s99 33 14)) rfl d_M_tick_158 ?_
                    refine j_aload_n X d_M_tick_161 rfl 0 rfl ?_
                    refine g_33_7 X f_M_7 (v := (s99 33 7)) rfl d_M_tick_162 ?_
                    refine j_icmp_lt X d_M_tick_165 (tgt := 170) (by decide) (fun h => ?_) (fun h => ?_)
                    · have hw := hw.1 h
                      refine j_aload_n X d_M_tick_170 rfl 0 rfl ?_
                      refine g_33_15 X f_M_19 d_M_tick_171 ?_
                      refine j_aload_n X d_M_tick_174 rfl 0 rfl ?_
                      refine g_33_14 X f_M_114 (v := (s99 33 14)) rfl d_M_tick_175 ?_
                      refine j_aload_n X d_M_tick_178 rfl 0 rfl ?_
                      refine g_33_11 X f_M_123 (v := (s99 33 11)) rfl d_M_tick_179 ?_
                      refine sr_34 X hw.1 d_M_tick_182 ?_
                      have hw := hw.2
                      refine j_aload_n X d_M_tick_183 rfl 0 rfl ?_
                      refine g_33_16 X f_M_23 d_M_tick_184 ?_
                      refine j_aload_n X d_M_tick_187 rfl 0 rfl ?_
                      refine g_33_14 X f_M_114 (v := (s99 33 14)) rfl d_M_tick_188 ?_
                      refine j_iconst X (v := (0 : Int32)) d_M_tick_191 (by decide) ?_
                      refine sr_35 X hw.1 d_M_tick_192 ?_
                      have hw := hw.2
                      refine j_aload_n X d_M_tick_193 rfl 0 rfl ?_
                      refine j_dup X d_M_tick_194 rfl ?_
                      refine g_33_14 X f_M_114 (v := (s99 33 14)) rfl d_M_tick_195 ?_
                      refine j_iconst X (v := (1 : Int32)) d_M_tick_198 (by decide) ?_
                      refine j_iadd X d_M_tick_199 ?_
                      refine p_33_14 X f_M_114 d_M_tick_200 ?_
                      refine j_aload_n X d_M_tick_203 rfl 0 rfl ?_
                      refine j_iconst X (v := (0 : Int32)) d_M_tick_204 (by decide) ?_
                      refine p_33_10 X f_M_117 rfl rfl d_M_tick_205 ?_
                      refine j_aload_n X d_M_tick_208 rfl 0 rfl ?_
                      refine j_aload_n X d_M_tick_209 rfl 0 rfl ?_
                      refine g_33_14 X f_M_114 (v := ((s99 33 14) + (1 : Int32))) rfl d_M_tick_210 ?_
                      refine j_iconst X (v := (1 : Int32)) d_M_tick_213 (by decide) ?_
                      refine j_icmp_ne X d_M_tick_214 (tgt := 221) (by decide) (fun h => ?_) (fun h => ?_)
                      · have hw := hw.1 h
                        refine j_aload_n X d_M_tick_221 rfl 0 rfl ?_
                        refine g_33_4 X f_M_108 (v := (s99 33 4)) rfl d_M_tick_222 ?_
                        refine p_33_4 X f_M_108 d_M_tick_225 ?_
                        refine j_aload_n X d_M_tick_228 rfl 0 rfl ?_
                        refine j_aload_n X d_M_tick_229 rfl 0 rfl ?_
                        refine g_33_2 X f_M_92 (v := (s99 33 2)) rfl d_M_tick_230 ?_
                        refine j_iconst X (v := (1 : Int32)) d_M_tick_233 (by decide) ?_
                        refine j_iadd X d_M_tick_234 ?_
                        refine j_bipush X (v := (16 : Int32)) d_M_tick_235 (by decide) ?_
                        refine j_irem X d_M_tick_237 (by decide) ?_
                        refine p_33_2 X f_M_92 d_M_tick_238 ?_
                        refine j_aload_n X d_M_tick_241 rfl 0 rfl ?_
                        refine j_iconst X (v := (0 : Int32)) d_M_tick_242 (by decide) ?_
                        refine j_aload_n X d_M_tick_243 rfl 0 rfl ?_
                        refine g_33_2 X f_M_92 (v := (((s99 33 2) + (1 : Int32)) - ((s99 33 2) + (1 : Int32)) / (16 : Int32) * (16 : Int32))) rfl d_M_tick_244 ?_
                        refine j_bipush X (v := (15 : Int32)) d_M_tick_247 (by decide) ?_
                        refine j_iadd X d_M_tick_249 ?_
                        refine j_bipush X (v := (16 : Int32)) d_M_tick_250 (by decide) ?_
                        refine j_irem X d_M_tick_252 (by decide) ?_
                        refine j_aload_n X d_M_tick_253 rfl 0 rfl ?_
                        refine g_33_11 X f_M_123 (v := (s99 33 11)) rfl d_M_tick_254 ?_
                        refine j_callVi (As := [.int (0 : Int32), .int (((((s99 33 2) + (1 : Int32)) - ((s99 33 2) + (1 : Int32)) / (16 : Int32) * (16 : Int32)) + (15 : Int32)) - ((((s99 33 2) + (1 : Int32)) - ((s99 33 2) + (1 : Int32)) / (16 : Int32) * (16 : Int32)) + (15 : Int32)) / (16 : Int32) * (16 : Int32)), .int (s99 33 11)]) X (c_M_sends l D ca ad sz hD hw) (gcV (n := 3) X rfl rfl rfl gc_M_sends m_M_sends l_M_139 (by decide +kernel) ⟨by decide, by decide⟩) (q0 := 33) rfl rfl (fun _ h => h) rfl rfl (Nat.le_of_ble_eq_true rfl) ⟨by decide, by decide⟩ d_M_tick_257 (fun r2 u1 hw => ?_)
                        exact j_iret X hlk hr d_M_tick_260 hw
                      · have hw := hw.2 h
                        refine j_iconst X (v := (1 : Int32)) d_M_tick_217 (by decide) ?_
                        refine j_goto X d_M_tick_218 (tgt := 225) (by decide) ?_
                        refine p_33_4 X f_M_108 d_M_tick_225 ?_
                        refine j_aload_n X d_M_tick_228 rfl 0 rfl ?_
                        refine j_aload_n X d_M_tick_229 rfl 0 rfl ?_
                        refine g_33_2 X f_M_92 (v := (s99 33 2)) rfl d_M_tick_230 ?_
                        refine j_iconst X (v := (1 : Int32)) d_M_tick_233 (by decide) ?_
                        refine j_iadd X d_M_tick_234 ?_
                        refine j_bipush X (v := (16 : Int32)) d_M_tick_235 (by decide) ?_
                        refine j_irem X d_M_tick_237 (by decide) ?_
                        refine p_33_2 X f_M_92 d_M_tick_238 ?_
                        refine j_aload_n X d_M_tick_241 rfl 0 rfl ?_
                        refine j_iconst X (v := (0 : Int32)) d_M_tick_242 (by decide) ?_
                        refine j_aload_n X d_M_tick_243 rfl 0 rfl ?_
                        refine g_33_2 X f_M_92 (v := (((s99 33 2) + (1 : Int32)) - ((s99 33 2) + (1 : Int32)) / (16 : Int32) * (16 : Int32))) rfl d_M_tick_244 ?_
                        refine j_bipush X (v := (15 : Int32)) d_M_tick_247 (by decide) ?_
                        refine j_iadd X d_M_tick_249 ?_
                        refine j_bipush X (v := (16 : Int32)) d_M_tick_250 (by decide) ?_
                        refine j_irem X d_M_tick_252 (by decide) ?_
                        refine j_aload_n X d_M_tick_253 rfl 0 rfl ?_
                        refine g_33_11 X f_M_123 (v := (s99 33 11)) rfl d_M_tick_254 ?_
                        refine j_callVi (As := [.int (0 : Int32), .int (((((s99 33 2) + (1 : Int32)) - ((s99 33 2) + (1 : Int32)) / (16 : Int32) * (16 : Int32)) + (15 : Int32)) - ((((s99 33 2) + (1 : Int32)) - ((s99 33 2) + (1 : Int32)) / (16 : Int32) * (16 : Int32)) + (15 : Int32)) / (16 : Int32) * (16 : Int32)), .int (s99 33 11)]) X (c_M_sends l D ca ad sz hD hw) (gcV (n := 3) X rfl rfl rfl gc_M_sends m_M_sends l_M_139 (by decide +kernel) ⟨by decide, by decide⟩) (q0 := 33) rfl rfl (fun _ h => h) rfl rfl (Nat.le_of_ble_eq_true rfl) ⟨by decide, by decide⟩ d_M_tick_257 (fun r4 u3 hw => ?_)
                        exact j_iret X hlk hr d_M_tick_260 hw
                    · have hw := hw.2 h
                      refine j_iconst X (v := (-1 : Int32)) d_M_tick_168 (by decide) ?_
                      exact j_iret X hlk hr d_M_tick_169 hw
                · have hw := hw.2 h
                  refine j_aload_n X d_M_tick_107 rfl 0 rfl ?_
                  refine g_33_16 X f_M_23 d_M_tick_108 ?_
                  refine j_iload_n X d_M_tick_111 rfl 1 rfl ?_
                  refine ld_35 X hw.1 (v := (s99 35 (Int32.toNatClampNeg v1))) rfl d_M_tick_112 ?_
                  have hw := hw.2
                  refine j_if_eq X d_M_tick_113 (tgt := 144) (by decide) (fun h => ?_) (fun h => ?_)
                  · have hw := hw.1 h
                    refine j_iinc X (v := (1 : Int32)) d_M_tick_144 1 rfl (by decide) (by decide) rfl ?_
                    refine j_goto X d_M_tick_147 (tgt := 99) (by decide) ?_
                    refine j_locs [1, 0] rfl ?_
                    exact ih99 _ _ hw
                  · have hw := hw.2 h
                    refine j_aload_n X d_M_tick_116 rfl 0 rfl ?_
                    refine g_33_16 X f_M_23 d_M_tick_117 ?_
                    refine j_iload_n X d_M_tick_120 rfl 1 rfl ?_
                    refine j_iconst X (v := (0 : Int32)) d_M_tick_121 (by decide) ?_
                    refine sr_35 X hw.1 d_M_tick_122 ?_
                    have hw := hw.2
                    refine j_aload_n X d_M_tick_123 rfl 0 rfl ?_
                    refine j_iconst X (v := (0 : Int32)) d_M_tick_124 (by decide) ?_
                    refine j_aload_n X d_M_tick_125 rfl 0 rfl ?_
                    refine g_33_3 X f_M_95 (v := (s99 33 3)) rfl d_M_tick_126 ?_
                    refine j_iload_n X d_M_tick_129 rfl 1 rfl ?_
                    refine j_iadd X d_M_tick_130 ?_
                    refine j_bipush X (v := (16 : Int32)) d_M_tick_131 (by decide) ?_
                    refine j_irem X d_M_tick_133 (by decide) ?_
                    refine j_aload_n X d_M_tick_134 rfl 0 rfl ?_
                    refine g_33_15 X f_M_19 d_M_tick_135 ?_
                    refine j_iload_n X d_M_tick_138 rfl 1 rfl ?_
                    refine ld_34 X hw.1 (v := (s99 34 (Int32.toNatClampNeg v1))) rfl d_M_tick_139 ?_
                    have hw := hw.2
                    refine j_callVi (As := [.int (0 : Int32), .int (((s99 33 3) + v1) - ((s99 33 3) + v1) / (16 : Int32) * (16 : Int32)), .int (s99 34 (Int32.toNatClampNeg v1))]) X (c_M_sends l D ca ad sz hD hw) (gcV (n := 3) X rfl rfl rfl gc_M_sends m_M_sends l_M_139 (by decide +kernel) ⟨by decide, by decide⟩) (q0 := 33) rfl rfl (fun _ h => h) rfl rfl (Nat.le_of_ble_eq_true rfl) ⟨by decide, by decide⟩ d_M_tick_140 (fun r6 u5 hw => ?_)
                    exact j_iret X hlk hr d_M_tick_143 hw
            obtain ⟨n, hw⟩ := hw
            refine j_locs [1, 0] rfl ?_
            exact lp99 n _ _ hw
          · have hw := hw.2 h
            refine j_aload_n X d_M_tick_87 rfl 0 rfl ?_
            refine g_33_1 X f_M_81 (v := (σ 33 1)) rfl d_M_tick_88 ?_
            refine j_iconst X (v := (2 : Int32)) d_M_tick_91 (by decide) ?_
            refine j_icmp_eq X d_M_tick_92 (tgt := 97) (by decide) (fun h => ?_) (fun h => ?_)
            · have hw := hw.1 h
              refine j_iconst X (v := (0 : Int32)) d_M_tick_97 (by decide) ?_
              refine j_istore_n X d_M_tick_98 rfl (by decide) rfl ?_
              have lp99 : ∀ (n : Nat) (v1 : Int32) (s99 : Jst), w_M_tick_L99 K n v1 s99 → J p l e rm_M_tick s m args below meth c D vwCl (wlT ad ca) (Aw sz) 2 0 0 (MQ below (va_Qi K (Jq D vwCl (wlT ad ca)) (Aw sz)) args s 0 0 (Aw sz)) 99 [(0, .ref (ad 33)), (1, .int v1)] [] s99 := by
                intro n
                induction n with
                | zero => intro v1 s99 hw; exact (show False from hw).elim
                | succ n ih99 =>
                  intro v1 s99 hw
                  rw [w_M_tick_L99] at hw
                  refine j_iload_n X d_M_tick_99 rfl 1 rfl ?_
                  refine j_aload_n X d_M_tick_100 rfl 0 rfl ?_
                  refine g_33_14 X f_M_114 (v := (s99 33 14)) rfl d_M_tick_101 ?_
                  refine j_icmp_ge X d_M_tick_104 (tgt := 150) (by decide) (fun h => ?_) (fun h => ?_)
                  · have hw := hw.1 h
                    refine j_aload_n X d_M_tick_150 rfl 0 rfl ?_
                    refine g_33_10 X f_M_117 (v := (s99 33 10)) rfl d_M_tick_151 ?_
                    refine j_if_eq X d_M_tick_154 (tgt := 168) (by decide) (fun h => ?_) (fun h => ?_)
                    · have hw := hw.1 h
                      refine j_iconst X (v := (-1 : Int32)) d_M_tick_168 (by decide) ?_
                      exact j_iret X hlk hr d_M_tick_169 hw
                    · have hw := hw.2 h
                      refine j_aload_n X d_M_tick_157 rfl 0 rfl ?_
                      refine g_33_14 X f_M_114 (v := (s99 33 14)) rfl d_M_tick_158 ?_
                      refine j_aload_n X d_M_tick_161 rfl 0 rfl ?_
                      refine g_33_7 X f_M_7 (v := (s99 33 7)) rfl d_M_tick_162 ?_
                      refine j_icmp_lt X d_M_tick_165 (tgt := 170) (by decide) (fun h => ?_) (fun h => ?_)
                      · have hw := hw.1 h
                        refine j_aload_n X d_M_tick_170 rfl 0 rfl ?_
                        refine g_33_15 X f_M_19 d_M_tick_171 ?_
                        refine j_aload_n X d_M_tick_174 rfl 0 rfl ?_
                        refine g_33_14 X f_M_114 (v := (s99 33 14)) rfl d_M_tick_175 ?_
                        refine j_aload_n X d_M_tick_178 rfl 0 rfl ?_
                        refine g_33_11 X f_M_123 (v := (s99 33 11)) rfl d_M_tick_179 ?_
                        refine sr_34 X hw.1 d_M_tick_182 ?_
                        have hw := hw.2
                        refine j_aload_n X d_M_tick_183 rfl 0 rfl ?_
                        refine g_33_16 X f_M_23 d_M_tick_184 ?_
                        refine j_aload_n X d_M_tick_187 rfl 0 rfl ?_
                        refine g_33_14 X f_M_114 (v := (s99 33 14)) rfl d_M_tick_188 ?_
                        refine j_iconst X (v := (0 : Int32)) d_M_tick_191 (by decide) ?_
                        refine sr_35 X hw.1 d_M_tick_192 ?_
                        have hw := hw.2
                        refine j_aload_n X d_M_tick_193 rfl 0 rfl ?_
                        refine j_dup X d_M_tick_194 rfl ?_
                        refine g_33_14 X f_M_114 (v := (s99 33 14)) rfl d_M_tick_195 ?_
                        refine j_iconst X (v := (1 : Int32)) d_M_tick_198 (by decide) ?_
                        refine j_iadd X d_M_tick_199 ?_
                        refine p_33_14 X f_M_114 d_M_tick_200 ?_
                        refine j_aload_n X d_M_tick_203 rfl 0 rfl ?_
                        refine j_iconst X (v := (0 : Int32)) d_M_tick_204 (by decide) ?_
                        refine p_33_10 X f_M_117 rfl rfl d_M_tick_205 ?_
                        refine j_aload_n X d_M_tick_208 rfl 0 rfl ?_
                        refine j_aload_n X d_M_tick_209 rfl 0 rfl ?_
                        refine g_33_14 X f_M_114 (v := ((s99 33 14) + (1 : Int32))) rfl d_M_tick_210 ?_
                        refine j_iconst X (v := (1 : Int32)) d_M_tick_213 (by decide) ?_
                        refine j_icmp_ne X d_M_tick_214 (tgt := 221) (by decide) (fun h => ?_) (fun h => ?_)
                        · have hw := hw.1 h
                          refine j_aload_n X d_M_tick_221 rfl 0 rfl ?_
                          refine g_33_4 X f_M_108 (v := (s99 33 4)) rfl d_M_tick_222 ?_
                          refine p_33_4 X f_M_108 d_M_tick_225 ?_
                          refine j_aload_n X d_M_tick_228 rfl 0 rfl ?_
                          refine j_aload_n X d_M_tick_229 rfl 0 rfl ?_
                          refine g_33_2 X f_M_92 (v := (s99 33 2)) rfl d_M_tick_230 ?_
                          refine j_iconst X (v := (1 : Int32)) d_M_tick_233 (by decide) ?_
                          refine j_iadd X d_M_tick_234 ?_
                          refine j_bipush X (v := (16 : Int32)) d_M_tick_235 (by decide) ?_
                          refine j_irem X d_M_tick_237 (by decide) ?_
                          refine p_33_2 X f_M_92 d_M_tick_238 ?_
                          refine j_aload_n X d_M_tick_241 rfl 0 rfl ?_
                          refine j_iconst X (v := (0 : Int32)) d_M_tick_242 (by decide) ?_
                          refine j_aload_n X d_M_tick_243 rfl 0 rfl ?_
                          refine g_33_2 X f_M_92 (v := (((s99 33 2) + (1 : Int32)) - ((s99 33 2) + (1 : Int32)) / (16 : Int32) * (16 : Int32))) rfl d_M_tick_244 ?_
                          refine j_bipush X (v := (15 : Int32)) d_M_tick_247 (by decide) ?_
                          refine j_iadd X d_M_tick_249 ?_
                          refine j_bipush X (v := (16 : Int32)) d_M_tick_250 (by decide) ?_
                          refine j_irem X d_M_tick_252 (by decide) ?_
                          refine j_aload_n X d_M_tick_253 rfl 0 rfl ?_
                          refine g_33_11 X f_M_123 (v := (s99 33 11)) rfl d_M_tick_254 ?_
                          refine j_callVi (As := [.int (0 : Int32), .int (((((s99 33 2) + (1 : Int32)) - ((s99 33 2) + (1 : Int32)) / (16 : Int32) * (16 : Int32)) + (15 : Int32)) - ((((s99 33 2) + (1 : Int32)) - ((s99 33 2) + (1 : Int32)) / (16 : Int32) * (16 : Int32)) + (15 : Int32)) / (16 : Int32) * (16 : Int32)), .int (s99 33 11)]) X (c_M_sends l D ca ad sz hD hw) (gcV (n := 3) X rfl rfl rfl gc_M_sends m_M_sends l_M_139 (by decide +kernel) ⟨by decide, by decide⟩) (q0 := 33) rfl rfl (fun _ h => h) rfl rfl (Nat.le_of_ble_eq_true rfl) ⟨by decide, by decide⟩ d_M_tick_257 (fun r2 u1 hw => ?_)
                          exact j_iret X hlk hr d_M_tick_260 hw
                        · have hw := hw.2 h
                          refine j_iconst X (v := (1 : Int32)) d_M_tick_217 (by decide) ?_
                          refine j_goto X d_M_tick_218 (tgt := 225) (by decide) ?_
                          refine p_33_4 X f_M_108 d_M_tick_225 ?_
                          refine j_aload_n X d_M_tick_228 rfl 0 rfl ?_
                          refine j_aload_n X d_M_tick_229 rfl 0 rfl ?_
                          refine g_33_2 X f_M_92 (v := (s99 33 2)) rfl d_M_tick_230 ?_
                          refine j_iconst X (v := (1 : Int32)) d_M_tick_233 (by decide) ?_
                          refine j_iadd X d_M_tick_234 ?_
                          refine j_bipush X (v := (16 : Int32)) d_M_tick_235 (by decide) ?_
                          refine j_irem X d_M_tick_237 (by decide) ?_
                          refine p_33_2 X f_M_92 d_M_tick_238 ?_
                          refine j_aload_n X d_M_tick_241 rfl 0 rfl ?_
                          refine j_iconst X (v := (0 : Int32)) d_M_tick_242 (by decide) ?_
                          refine j_aload_n X d_M_tick_243 rfl 0 rfl ?_
                          refine g_33_2 X f_M_92 (v := (((s99 33 2) + (1 : Int32)) - ((s99 33 2) + (1 : Int32)) / (16 : Int32) * (16 : Int32))) rfl d_M_tick_244 ?_
                          refine j_bipush X (v := (15 : Int32)) d_M_tick_247 (by decide) ?_
                          refine j_iadd X d_M_tick_249 ?_
                          refine j_bipush X (v := (16 : Int32)) d_M_tick_250 (by decide) ?_
                          refine j_irem X d_M_tick_252 (by decide) ?_
                          refine j_aload_n X d_M_tick_253 rfl 0 rfl ?_
                          refine g_33_11 X f_M_123 (v := (s99 33 11)) rfl d_M_tick_254 ?_
                          refine j_callVi (As := [.int (0 : Int32), .int (((((s99 33 2) + (1 : Int32)) - ((s99 33 2) + (1 : Int32)) / (16 : Int32) * (16 : Int32)) + (15 : Int32)) - ((((s99 33 2) + (1 : Int32)) - ((s99 33 2) + (1 : Int32)) / (16 : Int32) * (16 : Int32)) + (15 : Int32)) / (16 : Int32) * (16 : Int32)), .int (s99 33 11)]) X (c_M_sends l D ca ad sz hD hw) (gcV (n := 3) X rfl rfl rfl gc_M_sends m_M_sends l_M_139 (by decide +kernel) ⟨by decide, by decide⟩) (q0 := 33) rfl rfl (fun _ h => h) rfl rfl (Nat.le_of_ble_eq_true rfl) ⟨by decide, by decide⟩ d_M_tick_257 (fun r4 u3 hw => ?_)
                          exact j_iret X hlk hr d_M_tick_260 hw
                      · have hw := hw.2 h
                        refine j_iconst X (v := (-1 : Int32)) d_M_tick_168 (by decide) ?_
                        exact j_iret X hlk hr d_M_tick_169 hw
                  · have hw := hw.2 h
                    refine j_aload_n X d_M_tick_107 rfl 0 rfl ?_
                    refine g_33_16 X f_M_23 d_M_tick_108 ?_
                    refine j_iload_n X d_M_tick_111 rfl 1 rfl ?_
                    refine ld_35 X hw.1 (v := (s99 35 (Int32.toNatClampNeg v1))) rfl d_M_tick_112 ?_
                    have hw := hw.2
                    refine j_if_eq X d_M_tick_113 (tgt := 144) (by decide) (fun h => ?_) (fun h => ?_)
                    · have hw := hw.1 h
                      refine j_iinc X (v := (1 : Int32)) d_M_tick_144 1 rfl (by decide) (by decide) rfl ?_
                      refine j_goto X d_M_tick_147 (tgt := 99) (by decide) ?_
                      refine j_locs [1, 0] rfl ?_
                      exact ih99 _ _ hw
                    · have hw := hw.2 h
                      refine j_aload_n X d_M_tick_116 rfl 0 rfl ?_
                      refine g_33_16 X f_M_23 d_M_tick_117 ?_
                      refine j_iload_n X d_M_tick_120 rfl 1 rfl ?_
                      refine j_iconst X (v := (0 : Int32)) d_M_tick_121 (by decide) ?_
                      refine sr_35 X hw.1 d_M_tick_122 ?_
                      have hw := hw.2
                      refine j_aload_n X d_M_tick_123 rfl 0 rfl ?_
                      refine j_iconst X (v := (0 : Int32)) d_M_tick_124 (by decide) ?_
                      refine j_aload_n X d_M_tick_125 rfl 0 rfl ?_
                      refine g_33_3 X f_M_95 (v := (s99 33 3)) rfl d_M_tick_126 ?_
                      refine j_iload_n X d_M_tick_129 rfl 1 rfl ?_
                      refine j_iadd X d_M_tick_130 ?_
                      refine j_bipush X (v := (16 : Int32)) d_M_tick_131 (by decide) ?_
                      refine j_irem X d_M_tick_133 (by decide) ?_
                      refine j_aload_n X d_M_tick_134 rfl 0 rfl ?_
                      refine g_33_15 X f_M_19 d_M_tick_135 ?_
                      refine j_iload_n X d_M_tick_138 rfl 1 rfl ?_
                      refine ld_34 X hw.1 (v := (s99 34 (Int32.toNatClampNeg v1))) rfl d_M_tick_139 ?_
                      have hw := hw.2
                      refine j_callVi (As := [.int (0 : Int32), .int (((s99 33 3) + v1) - ((s99 33 3) + v1) / (16 : Int32) * (16 : Int32)), .int (s99 34 (Int32.toNatClampNeg v1))]) X (c_M_sends l D ca ad sz hD hw) (gcV (n := 3) X rfl rfl rfl gc_M_sends m_M_sends l_M_139 (by decide +kernel) ⟨by decide, by decide⟩) (q0 := 33) rfl rfl (fun _ h => h) rfl rfl (Nat.le_of_ble_eq_true rfl) ⟨by decide, by decide⟩ d_M_tick_140 (fun r6 u5 hw => ?_)
                      exact j_iret X hlk hr d_M_tick_143 hw
              obtain ⟨n, hw⟩ := hw
              refine j_locs [1, 0] rfl ?_
              exact lp99 n _ _ hw
            · have hw := hw.2 h
              refine j_iconst X (v := (-1 : Int32)) d_M_tick_95 (by decide) ?_
              exact j_iret X hlk hr d_M_tick_96 hw
        · have hw := hw.2 h
          refine j_aload_n X d_M_tick_48 rfl 0 rfl ?_
          refine j_iconst X (v := (0 : Int32)) d_M_tick_49 (by decide) ?_
          refine p_33_12 X f_M_101 rfl rfl d_M_tick_50 ?_
          refine j_aload_n X d_M_tick_53 rfl 0 rfl ?_
          refine j_aload_n X d_M_tick_54 rfl 0 rfl ?_
          refine g_33_13 X f_M_105 (v := (σ 33 13)) rfl d_M_tick_55 ?_
          refine j_aload_n X d_M_tick_58 rfl 0 rfl ?_
          refine g_33_13 X f_M_105 (v := (σ 33 13)) rfl d_M_tick_59 ?_
          refine j_iconst X (v := (2 : Int32)) d_M_tick_62 (by decide) ?_
          refine j_icmp_ne X d_M_tick_63 (tgt := 73) (by decide) (fun h => ?_) (fun h => ?_)
          · have hw := hw.1 h
            refine j_iconst X (v := (0 : Int32)) d_M_tick_73 (by decide) ?_
            refine j_iconst X (v := (0 : Int32)) d_M_tick_74 (by decide) ?_
            refine j_callVi (As := [.int (σ 33 13), .int (0 : Int32), .int (0 : Int32)]) X (c_M_sends l D ca ad sz hD hw) (gcV (n := 3) X rfl rfl rfl gc_M_sends m_M_sends l_M_139 (by decide +kernel) ⟨by decide, by decide⟩) (q0 := 33) rfl rfl (fun _ h => h) rfl rfl (Nat.le_of_ble_eq_true rfl) ⟨by decide, by decide⟩ d_M_tick_75 (fun r2 u1 hw => ?_)
            exact j_iret X hlk hr d_M_tick_78 hw
          · have hw := hw.2 h
            refine j_aload_n X d_M_tick_66 rfl 0 rfl ?_
            refine g_33_2 X f_M_92 (v := (σ 33 2)) rfl d_M_tick_67 ?_
            refine j_goto X d_M_tick_70 (tgt := 74) (by decide) ?_
            refine j_iconst X (v := (0 : Int32)) d_M_tick_74 (by decide) ?_
            refine j_callVi (As := [.int (σ 33 13), .int (σ 33 2), .int (0 : Int32)]) X (c_M_sends l D ca ad sz hD hw) (gcV (n := 3) X rfl rfl rfl gc_M_sends m_M_sends l_M_139 (by decide +kernel) ⟨by decide, by decide⟩) (q0 := 33) rfl rfl (fun _ h => h) rfl rfl (Nat.le_of_ble_eq_true rfl) ⟨by decide, by decide⟩ d_M_tick_75 (fun r4 u3 hw => ?_)
            exact j_iret X hlk hr d_M_tick_78 hw
    · have hw := hw.2 h
      refine j_aload_n X d_M_tick_12 rfl 0 rfl ?_
      refine j_dup X d_M_tick_13 rfl ?_
      refine g_33_5 X f_M_98 (v := (σ 33 5)) rfl d_M_tick_14 ?_
      refine j_iconst X (v := (1 : Int32)) d_M_tick_17 (by decide) ?_
      refine j_isub X d_M_tick_18 ?_
      refine p_33_5 X f_M_98 d_M_tick_19 ?_
      refine j_aload_n X d_M_tick_22 rfl 0 rfl ?_
      refine g_33_5 X f_M_98 (v := ((σ 33 5) - (1 : Int32))) rfl d_M_tick_23 ?_
      refine j_if_ne X d_M_tick_26 (tgt := 33) (by decide) (fun h => ?_) (fun h => ?_)
      · have hw := hw.1 h
        refine j_aload_n X d_M_tick_33 rfl 0 rfl ?_
        refine g_33_1 X f_M_81 (v := (σ 33 1)) rfl d_M_tick_34 ?_
        refine j_iconst X (v := (5 : Int32)) d_M_tick_37 (by decide) ?_
        refine j_icmp_ne X d_M_tick_38 (tgt := 79) (by decide) (fun h => ?_) (fun h => ?_)
        · have hw := hw.1 h
          refine j_aload_n X d_M_tick_79 rfl 0 rfl ?_
          refine g_33_1 X f_M_81 (v := (σ 33 1)) rfl d_M_tick_80 ?_
          refine j_iconst X (v := (1 : Int32)) d_M_tick_83 (by decide) ?_
          refine j_icmp_eq X d_M_tick_84 (tgt := 97) (by decide) (fun h => ?_) (fun h => ?_)
          · have hw := hw.1 h
            refine j_iconst X (v := (0 : Int32)) d_M_tick_97 (by decide) ?_
            refine j_istore_n X d_M_tick_98 rfl (by decide) rfl ?_
            have lp99 : ∀ (n : Nat) (v1 : Int32) (s99 : Jst), w_M_tick_L99 K n v1 s99 → J p l e rm_M_tick s m args below meth c D vwCl (wlT ad ca) (Aw sz) 2 0 0 (MQ below (va_Qi K (Jq D vwCl (wlT ad ca)) (Aw sz)) args s 0 0 (Aw sz)) 99 [(0, .ref (ad 33)), (1, .int v1)] [] s99 := by
              intro n
              induction n with
              | zero => intro v1 s99 hw; exact (show False from hw).elim
              | succ n ih99 =>
                intro v1 s99 hw
                rw [w_M_tick_L99] at hw
                refine j_iload_n X d_M_tick_99 rfl 1 rfl ?_
                refine j_aload_n X d_M_tick_100 rfl 0 rfl ?_
                refine g_33_14 X f_M_114 (v := (s99 33 14)) rfl d_M_tick_101 ?_
                refine j_icmp_ge X d_M_tick_104 (tgt := 150) (by decide) (fun h => ?_) (fun h => ?_)
                · have hw := hw.1 h
                  refine j_aload_n X d_M_tick_150 rfl 0 rfl ?_
                  refine g_33_10 X f_M_117 (v := (s99 33 10)) rfl d_M_tick_151 ?_
                  refine j_if_eq X d_M_tick_154 (tgt := 168) (by decide) (fun h => ?_) (fun h => ?_)
                  · have hw := hw.1 h
                    refine j_iconst X (v := (-1 : Int32)) d_M_tick_168 (by decide) ?_
                    exact j_iret X hlk hr d_M_tick_169 hw
                  · have hw := hw.2 h
                    refine j_aload_n X d_M_tick_157 rfl 0 rfl ?_
                    refine g_33_14 X f_M_114 (v := (s99 33 14)) rfl d_M_tick_158 ?_
                    refine j_aload_n X d_M_tick_161 rfl 0 rfl ?_
                    refine g_33_7 X f_M_7 (v := (s99 33 7)) rfl d_M_tick_162 ?_
                    refine j_icmp_lt X d_M_tick_165 (tgt := 170) (by decide) (fun h => ?_) (fun h => ?_)
                    · have hw := hw.1 h
                      refine j_aload_n X d_M_tick_170 rfl 0 rfl ?_
                      refine g_33_15 X f_M_19 d_M_tick_171 ?_
                      refine j_aload_n X d_M_tick_174 rfl 0 rfl ?_
                      refine g_33_14 X f_M_114 (v := (s99 33 14)) rfl d_M_tick_175 ?_
                      refine j_aload_n X d_M_tick_178 rfl 0 rfl ?_
                      refine g_33_11 X f_M_123 (v := (s99 33 11)) rfl d_M_tick_179 ?_
                      refine sr_34 X hw.1 d_M_tick_182 ?_
                      have hw := hw.2
                      refine j_aload_n X d_M_tick_183 rfl 0 rfl ?_
                      refine g_33_16 X f_M_23 d_M_tick_184 ?_
                      refine j_aload_n X d_M_tick_187 rfl 0 rfl ?_
                      refine g_33_14 X f_M_114 (v := (s99 33 14)) rfl d_M_tick_188 ?_
                      refine j_iconst X (v := (0 : Int32)) d_M_tick_191 (by decide) ?_
                      refine sr_35 X hw.1 d_M_tick_192 ?_
                      have hw := hw.2
                      refine j_aload_n X d_M_tick_193 rfl 0 rfl ?_
                      refine j_dup X d_M_tick_194 rfl ?_
                      refine g_33_14 X f_M_114 (v := (s99 33 14)) rfl d_M_tick_195 ?_
                      refine j_iconst X (v := (1 : Int32)) d_M_tick_198 (by decide) ?_
                      refine j_iadd X d_M_tick_199 ?_
                      refine p_33_14 X f_M_114 d_M_tick_200 ?_
                      refine j_aload_n X d_M_tick_203 rfl 0 rfl ?_
                      refine j_iconst X (v := (0 : Int32)) d_M_tick_204 (by decide) ?_
                      refine p_33_10 X f_M_117 rfl rfl d_M_tick_205 ?_
                      refine j_aload_n X d_M_tick_208 rfl 0 rfl ?_
                      refine j_aload_n X d_M_tick_209 rfl 0 rfl ?_
                      refine g_33_14 X f_M_114 (v := ((s99 33 14) + (1 : Int32))) rfl d_M_tick_210 ?_
                      refine j_iconst X (v := (1 : Int32)) d_M_tick_213 (by decide) ?_
                      refine j_icmp_ne X d_M_tick_214 (tgt := 221) (by decide) (fun h => ?_) (fun h => ?_)
                      · have hw := hw.1 h
                        refine j_aload_n X d_M_tick_221 rfl 0 rfl ?_
                        refine g_33_4 X f_M_108 (v := (s99 33 4)) rfl d_M_tick_222 ?_
                        refine p_33_4 X f_M_108 d_M_tick_225 ?_
                        refine j_aload_n X d_M_tick_228 rfl 0 rfl ?_
                        refine j_aload_n X d_M_tick_229 rfl 0 rfl ?_
                        refine g_33_2 X f_M_92 (v := (s99 33 2)) rfl d_M_tick_230 ?_
                        refine j_iconst X (v := (1 : Int32)) d_M_tick_233 (by decide) ?_
                        refine j_iadd X d_M_tick_234 ?_
                        refine j_bipush X (v := (16 : Int32)) d_M_tick_235 (by decide) ?_
                        refine j_irem X d_M_tick_237 (by decide) ?_
                        refine p_33_2 X f_M_92 d_M_tick_238 ?_
                        refine j_aload_n X d_M_tick_241 rfl 0 rfl ?_
                        refine j_iconst X (v := (0 : Int32)) d_M_tick_242 (by decide) ?_
                        refine j_aload_n X d_M_tick_243 rfl 0 rfl ?_
                        refine g_33_2 X f_M_92 (v := (((s99 33 2) + (1 : Int32)) - ((s99 33 2) + (1 : Int32)) / (16 : Int32) * (16 : Int32))) rfl d_M_tick_244 ?_
                        refine j_bipush X (v := (15 : Int32)) d_M_tick_247 (by decide) ?_
                        refine j_iadd X d_M_tick_249 ?_
                        refine j_bipush X (v := (16 : Int32)) d_M_tick_250 (by decide) ?_
                        refine j_irem X d_M_tick_252 (by decide) ?_
                        refine j_aload_n X d_M_tick_253 rfl 0 rfl ?_
                        refine g_33_11 X f_M_123 (v := (s99 33 11)) rfl d_M_tick_254 ?_
                        refine j_callVi (As := [.int (0 : Int32), .int (((((s99 33 2) + (1 : Int32)) - ((s99 33 2) + (1 : Int32)) / (16 : Int32) * (16 : Int32)) + (15 : Int32)) - ((((s99 33 2) + (1 : Int32)) - ((s99 33 2) + (1 : Int32)) / (16 : Int32) * (16 : Int32)) + (15 : Int32)) / (16 : Int32) * (16 : Int32)), .int (s99 33 11)]) X (c_M_sends l D ca ad sz hD hw) (gcV (n := 3) X rfl rfl rfl gc_M_sends m_M_sends l_M_139 (by decide +kernel) ⟨by decide, by decide⟩) (q0 := 33) rfl rfl (fun _ h => h) rfl rfl (Nat.le_of_ble_eq_true rfl) ⟨by decide, by decide⟩ d_M_tick_257 (fun r2 u1 hw => ?_)
                        exact j_iret X hlk hr d_M_tick_260 hw
                      · have hw := hw.2 h
                        refine j_iconst X (v := (1 : Int32)) d_M_tick_217 (by decide) ?_
                        refine j_goto X d_M_tick_218 (tgt := 225) (by decide) ?_
                        refine p_33_4 X f_M_108 d_M_tick_225 ?_
                        refine j_aload_n X d_M_tick_228 rfl 0 rfl ?_
                        refine j_aload_n X d_M_tick_229 rfl 0 rfl ?_
                        refine g_33_2 X f_M_92 (v := (s99 33 2)) rfl d_M_tick_230 ?_
                        refine j_iconst X (v := (1 : Int32)) d_M_tick_233 (by decide) ?_
                        refine j_iadd X d_M_tick_234 ?_
                        refine j_bipush X (v := (16 : Int32)) d_M_tick_235 (by decide) ?_
                        refine j_irem X d_M_tick_237 (by decide) ?_
                        refine p_33_2 X f_M_92 d_M_tick_238 ?_
                        refine j_aload_n X d_M_tick_241 rfl 0 rfl ?_
                        refine j_iconst X (v := (0 : Int32)) d_M_tick_242 (by decide) ?_
                        refine j_aload_n X d_M_tick_243 rfl 0 rfl ?_
                        refine g_33_2 X f_M_92 (v := (((s99 33 2) + (1 : Int32)) - ((s99 33 2) + (1 : Int32)) / (16 : Int32) * (16 : Int32))) rfl d_M_tick_244 ?_
                        refine j_bipush X (v := (15 : Int32)) d_M_tick_247 (by decide) ?_
                        refine j_iadd X d_M_tick_249 ?_
                        refine j_bipush X (v := (16 : Int32)) d_M_tick_250 (by decide) ?_
                        refine j_irem X d_M_tick_252 (by decide) ?_
                        refine j_aload_n X d_M_tick_253 rfl 0 rfl ?_
                        refine g_33_11 X f_M_123 (v := (s99 33 11)) rfl d_M_tick_254 ?_
                        refine j_callVi (As := [.int (0 : Int32), .int (((((s99 33 2) + (1 : Int32)) - ((s99 33 2) + (1 : Int32)) / (16 : Int32) * (16 : Int32)) + (15 : Int32)) - ((((s99 33 2) + (1 : Int32)) - ((s99 33 2) + (1 : Int32)) / (16 : Int32) * (16 : Int32)) + (15 : Int32)) / (16 : Int32) * (16 : Int32)), .int (s99 33 11)]) X (c_M_sends l D ca ad sz hD hw) (gcV (n := 3) X rfl rfl rfl gc_M_sends m_M_sends l_M_139 (by decide +kernel) ⟨by decide, by decide⟩) (q0 := 33) rfl rfl (fun _ h => h) rfl rfl (Nat.le_of_ble_eq_true rfl) ⟨by decide, by decide⟩ d_M_tick_257 (fun r4 u3 hw => ?_)
                        exact j_iret X hlk hr d_M_tick_260 hw
                    · have hw := hw.2 h
                      refine j_iconst X (v := (-1 : Int32)) d_M_tick_168 (by decide) ?_
                      exact j_iret X hlk hr d_M_tick_169 hw
                · have hw := hw.2 h
                  refine j_aload_n X d_M_tick_107 rfl 0 rfl ?_
                  refine g_33_16 X f_M_23 d_M_tick_108 ?_
                  refine j_iload_n X d_M_tick_111 rfl 1 rfl ?_
                  refine ld_35 X hw.1 (v := (s99 35 (Int32.toNatClampNeg v1))) rfl d_M_tick_112 ?_
                  have hw := hw.2
                  refine j_if_eq X d_M_tick_113 (tgt := 144) (by decide) (fun h => ?_) (fun h => ?_)
                  · have hw := hw.1 h
                    refine j_iinc X (v := (1 : Int32)) d_M_tick_144 1 rfl (by decide) (by decide) rfl ?_
                    refine j_goto X d_M_tick_147 (tgt := 99) (by decide) ?_
                    refine j_locs [1, 0] rfl ?_
                    exact ih99 _ _ hw
                  · have hw := hw.2 h
                    refine j_aload_n X d_M_tick_116 rfl 0 rfl ?_
                    refine g_33_16 X f_M_23 d_M_tick_117 ?_
                    refine j_iload_n X d_M_tick_120 rfl 1 rfl ?_
                    refine j_iconst X (v := (0 : Int32)) d_M_tick_121 (by decide) ?_
                    refine sr_35 X hw.1 d_M_tick_122 ?_
                    have hw := hw.2
                    refine j_aload_n X d_M_tick_123 rfl 0 rfl ?_
                    refine j_iconst X (v := (0 : Int32)) d_M_tick_124 (by decide) ?_
                    refine j_aload_n X d_M_tick_125 rfl 0 rfl ?_
                    refine g_33_3 X f_M_95 (v := (s99 33 3)) rfl d_M_tick_126 ?_
                    refine j_iload_n X d_M_tick_129 rfl 1 rfl ?_
                    refine j_iadd X d_M_tick_130 ?_
                    refine j_bipush X (v := (16 : Int32)) d_M_tick_131 (by decide) ?_
                    refine j_irem X d_M_tick_133 (by decide) ?_
                    refine j_aload_n X d_M_tick_134 rfl 0 rfl ?_
                    refine g_33_15 X f_M_19 d_M_tick_135 ?_
                    refine j_iload_n X d_M_tick_138 rfl 1 rfl ?_
                    refine ld_34 X hw.1 (v := (s99 34 (Int32.toNatClampNeg v1))) rfl d_M_tick_139 ?_
                    have hw := hw.2
                    refine j_callVi (As := [.int (0 : Int32), .int (((s99 33 3) + v1) - ((s99 33 3) + v1) / (16 : Int32) * (16 : Int32)), .int (s99 34 (Int32.toNatClampNeg v1))]) X (c_M_sends l D ca ad sz hD hw) (gcV (n := 3) X rfl rfl rfl gc_M_sends m_M_sends l_M_139 (by decide +kernel) ⟨by decide, by decide⟩) (q0 := 33) rfl rfl (fun _ h => h) rfl rfl (Nat.le_of_ble_eq_true rfl) ⟨by decide, by decide⟩ d_M_tick_140 (fun r6 u5 hw => ?_)
                    exact j_iret X hlk hr d_M_tick_143 hw
            obtain ⟨n, hw⟩ := hw
            refine j_locs [1, 0] rfl ?_
            exact lp99 n _ _ hw
          · have hw := hw.2 h
            refine j_aload_n X d_M_tick_87 rfl 0 rfl ?_
            refine g_33_1 X f_M_81 (v := (σ 33 1)) rfl d_M_tick_88 ?_
            refine j_iconst X (v := (2 : Int32)) d_M_tick_91 (by decide) ?_
            refine j_icmp_eq X d_M_tick_92 (tgt := 97) (by decide) (fun h => ?_) (fun h => ?_)
            · have hw := hw.1 h
              refine j_iconst X (v := (0 : Int32)) d_M_tick_97 (by decide) ?_
              refine j_istore_n X d_M_tick_98 rfl (by decide) rfl ?_
              have lp99 : ∀ (n : Nat) (v1 : Int32) (s99 : Jst), w_M_tick_L99 K n v1 s99 → J p l e rm_M_tick s m args below meth c D vwCl (wlT ad ca) (Aw sz) 2 0 0 (MQ below (va_Qi K (Jq D vwCl (wlT ad ca)) (Aw sz)) args s 0 0 (Aw sz)) 99 [(0, .ref (ad 33)), (1, .int v1)] [] s99 := by
                intro n
                induction n with
                | zero => intro v1 s99 hw; exact (show False from hw).elim
                | succ n ih99 =>
                  intro v1 s99 hw
                  rw [w_M_tick_L99] at hw
                  refine j_iload_n X d_M_tick_99 rfl 1 rfl ?_
                  refine j_aload_n X d_M_tick_100 rfl 0 rfl ?_
                  refine g_33_14 X f_M_114 (v := (s99 33 14)) rfl d_M_tick_101 ?_
                  refine j_icmp_ge X d_M_tick_104 (tgt := 150) (by decide) (fun h => ?_) (fun h => ?_)
                  · have hw := hw.1 h
                    refine j_aload_n X d_M_tick_150 rfl 0 rfl ?_
                    refine g_33_10 X f_M_117 (v := (s99 33 10)) rfl d_M_tick_151 ?_
                    refine j_if_eq X d_M_tick_154 (tgt := 168) (by decide) (fun h => ?_) (fun h => ?_)
                    · have hw := hw.1 h
                      refine j_iconst X (v := (-1 : Int32)) d_M_tick_168 (by decide) ?_
                      exact j_iret X hlk hr d_M_tick_169 hw
                    · have hw := hw.2 h
                      refine j_aload_n X d_M_tick_157 rfl 0 rfl ?_
                      refine g_33_14 X f_M_114 (v := (s99 33 14)) rfl d_M_tick_158 ?_
                      refine j_aload_n X d_M_tick_161 rfl 0 rfl ?_
                      refine g_33_7 X f_M_7 (v := (s99 33 7)) rfl d_M_tick_162 ?_
                      refine j_icmp_lt X d_M_tick_165 (tgt := 170) (by decide) (fun h => ?_) (fun h => ?_)
                      · have hw := hw.1 h
                        refine j_aload_n X d_M_tick_170 rfl 0 rfl ?_
                        refine g_33_15 X f_M_19 d_M_tick_171 ?_
                        refine j_aload_n X d_M_tick_174 rfl 0 rfl ?_
                        refine g_33_14 X f_M_114 (v := (s99 33 14)) rfl d_M_tick_175 ?_
                        refine j_aload_n X d_M_tick_178 rfl 0 rfl ?_
                        refine g_33_11 X f_M_123 (v := (s99 33 11)) rfl d_M_tick_179 ?_
                        refine sr_34 X hw.1 d_M_tick_182 ?_
                        have hw := hw.2
                        refine j_aload_n X d_M_tick_183 rfl 0 rfl ?_
                        refine g_33_16 X f_M_23 d_M_tick_184 ?_
                        refine j_aload_n X d_M_tick_187 rfl 0 rfl ?_
                        refine g_33_14 X f_M_114 (v := (s99 33 14)) rfl d_M_tick_188 ?_
                        refine j_iconst X (v := (0 : Int32)) d_M_tick_191 (by decide) ?_
                        refine sr_35 X hw.1 d_M_tick_192 ?_
                        have hw := hw.2
                        refine j_aload_n X d_M_tick_193 rfl 0 rfl ?_
                        refine j_dup X d_M_tick_194 rfl ?_
                        refine g_33_14 X f_M_114 (v := (s99 33 14)) rfl d_M_tick_195 ?_
                        refine j_iconst X (v := (1 : Int32)) d_M_tick_198 (by decide) ?_
                        refine j_iadd X d_M_tick_199 ?_
                        refine p_33_14 X f_M_114 d_M_tick_200 ?_
                        refine j_aload_n X d_M_tick_203 rfl 0 rfl ?_
                        refine j_iconst X (v := (0 : Int32)) d_M_tick_204 (by decide) ?_
                        refine p_33_10 X f_M_117 rfl rfl d_M_tick_205 ?_
                        refine j_aload_n X d_M_tick_208 rfl 0 rfl ?_
                        refine j_aload_n X d_M_tick_209 rfl 0 rfl ?_
                        refine g_33_14 X f_M_114 (v := ((s99 33 14) + (1 : Int32))) rfl d_M_tick_210 ?_
                        refine j_iconst X (v := (1 : Int32)) d_M_tick_213 (by decide) ?_
                        refine j_icmp_ne X d_M_tick_214 (tgt := 221) (by decide) (fun h => ?_) (fun h => ?_)
                        · have hw := hw.1 h
                          refine j_aload_n X d_M_tick_221 rfl 0 rfl ?_
                          refine g_33_4 X f_M_108 (v := (s99 33 4)) rfl d_M_tick_222 ?_
                          refine p_33_4 X f_M_108 d_M_tick_225 ?_
                          refine j_aload_n X d_M_tick_228 rfl 0 rfl ?_
                          refine j_aload_n X d_M_tick_229 rfl 0 rfl ?_
                          refine g_33_2 X f_M_92 (v := (s99 33 2)) rfl d_M_tick_230 ?_
                          refine j_iconst X (v := (1 : Int32)) d_M_tick_233 (by decide) ?_
                          refine j_iadd X d_M_tick_234 ?_
                          refine j_bipush X (v := (16 : Int32)) d_M_tick_235 (by decide) ?_
                          refine j_irem X d_M_tick_237 (by decide) ?_
                          refine p_33_2 X f_M_92 d_M_tick_238 ?_
                          refine j_aload_n X d_M_tick_241 rfl 0 rfl ?_
                          refine j_iconst X (v := (0 : Int32)) d_M_tick_242 (by decide) ?_
                          refine j_aload_n X d_M_tick_243 rfl 0 rfl ?_
                          refine g_33_2 X f_M_92 (v := (((s99 33 2) + (1 : Int32)) - ((s99 33 2) + (1 : Int32)) / (16 : Int32) * (16 : Int32))) rfl d_M_tick_244 ?_
                          refine j_bipush X (v := (15 : Int32)) d_M_tick_247 (by decide) ?_
                          refine j_iadd X d_M_tick_249 ?_
                          refine j_bipush X (v := (16 : Int32)) d_M_tick_250 (by decide) ?_
                          refine j_irem X d_M_tick_252 (by decide) ?_
                          refine j_aload_n X d_M_tick_253 rfl 0 rfl ?_
                          refine g_33_11 X f_M_123 (v := (s99 33 11)) rfl d_M_tick_254 ?_
                          refine j_callVi (As := [.int (0 : Int32), .int (((((s99 33 2) + (1 : Int32)) - ((s99 33 2) + (1 : Int32)) / (16 : Int32) * (16 : Int32)) + (15 : Int32)) - ((((s99 33 2) + (1 : Int32)) - ((s99 33 2) + (1 : Int32)) / (16 : Int32) * (16 : Int32)) + (15 : Int32)) / (16 : Int32) * (16 : Int32)), .int (s99 33 11)]) X (c_M_sends l D ca ad sz hD hw) (gcV (n := 3) X rfl rfl rfl gc_M_sends m_M_sends l_M_139 (by decide +kernel) ⟨by decide, by decide⟩) (q0 := 33) rfl rfl (fun _ h => h) rfl rfl (Nat.le_of_ble_eq_true rfl) ⟨by decide, by decide⟩ d_M_tick_257 (fun r2 u1 hw => ?_)
                          exact j_iret X hlk hr d_M_tick_260 hw
                        · have hw := hw.2 h
                          refine j_iconst X (v := (1 : Int32)) d_M_tick_217 (by decide) ?_
                          refine j_goto X d_M_tick_218 (tgt := 225) (by decide) ?_
                          refine p_33_4 X f_M_108 d_M_tick_225 ?_
                          refine j_aload_n X d_M_tick_228 rfl 0 rfl ?_
                          refine j_aload_n X d_M_tick_229 rfl 0 rfl ?_
                          refine g_33_2 X f_M_92 (v := (s99 33 2)) rfl d_M_tick_230 ?_
                          refine j_iconst X (v := (1 : Int32)) d_M_tick_233 (by decide) ?_
                          refine j_iadd X d_M_tick_234 ?_
                          refine j_bipush X (v := (16 : Int32)) d_M_tick_235 (by decide) ?_
                          refine j_irem X d_M_tick_237 (by decide) ?_
                          refine p_33_2 X f_M_92 d_M_tick_238 ?_
                          refine j_aload_n X d_M_tick_241 rfl 0 rfl ?_
                          refine j_iconst X (v := (0 : Int32)) d_M_tick_242 (by decide) ?_
                          refine j_aload_n X d_M_tick_243 rfl 0 rfl ?_
                          refine g_33_2 X f_M_92 (v := (((s99 33 2) + (1 : Int32)) - ((s99 33 2) + (1 : Int32)) / (16 : Int32) * (16 : Int32))) rfl d_M_tick_244 ?_
                          refine j_bipush X (v := (15 : Int32)) d_M_tick_247 (by decide) ?_
                          refine j_iadd X d_M_tick_249 ?_
                          refine j_bipush X (v := (16 : Int32)) d_M_tick_250 (by decide) ?_
                          refine j_irem X d_M_tick_252 (by decide) ?_
                          refine j_aload_n X d_M_tick_253 rfl 0 rfl ?_
                          refine g_33_11 X f_M_123 (v := (s99 33 11)) rfl d_M_tick_254 ?_
                          refine j_callVi (As := [.int (0 : Int32), .int (((((s99 33 2) + (1 : Int32)) - ((s99 33 2) + (1 : Int32)) / (16 : Int32) * (16 : Int32)) + (15 : Int32)) - ((((s99 33 2) + (1 : Int32)) - ((s99 33 2) + (1 : Int32)) / (16 : Int32) * (16 : Int32)) + (15 : Int32)) / (16 : Int32) * (16 : Int32)), .int (s99 33 11)]) X (c_M_sends l D ca ad sz hD hw) (gcV (n := 3) X rfl rfl rfl gc_M_sends m_M_sends l_M_139 (by decide +kernel) ⟨by decide, by decide⟩) (q0 := 33) rfl rfl (fun _ h => h) rfl rfl (Nat.le_of_ble_eq_true rfl) ⟨by decide, by decide⟩ d_M_tick_257 (fun r4 u3 hw => ?_)
                          exact j_iret X hlk hr d_M_tick_260 hw
                      · have hw := hw.2 h
                        refine j_iconst X (v := (-1 : Int32)) d_M_tick_168 (by decide) ?_
                        exact j_iret X hlk hr d_M_tick_169 hw
                  · have hw := hw.2 h
                    refine j_aload_n X d_M_tick_107 rfl 0 rfl ?_
                    refine g_33_16 X f_M_23 d_M_tick_108 ?_
                    refine j_iload_n X d_M_tick_111 rfl 1 rfl ?_
                    refine ld_35 X hw.1 (v := (s99 35 (Int32.toNatClampNeg v1))) rfl d_M_tick_112 ?_
                    have hw := hw.2
                    refine j_if_eq X d_M_tick_113 (tgt := 144) (by decide) (fun h => ?_) (fun h => ?_)
                    · have hw := hw.1 h
                      refine j_iinc X (v := (1 : Int32)) d_M_tick_144 1 rfl (by decide) (by decide) rfl ?_
                      refine j_goto X d_M_tick_147 (tgt := 99) (by decide) ?_
                      refine j_locs [1, 0] rfl ?_
                      exact ih99 _ _ hw
                    · have hw := hw.2 h
                      refine j_aload_n X d_M_tick_116 rfl 0 rfl ?_
                      refine g_33_16 X f_M_23 d_M_tick_117 ?_
                      refine j_iload_n X d_M_tick_120 rfl 1 rfl ?_
                      refine j_iconst X (v := (0 : Int32)) d_M_tick_121 (by decide) ?_
                      refine sr_35 X hw.1 d_M_tick_122 ?_
                      have hw := hw.2
                      refine j_aload_n X d_M_tick_123 rfl 0 rfl ?_
                      refine j_iconst X (v := (0 : Int32)) d_M_tick_124 (by decide) ?_
                      refine j_aload_n X d_M_tick_125 rfl 0 rfl ?_
                      refine g_33_3 X f_M_95 (v := (s99 33 3)) rfl d_M_tick_126 ?_
                      refine j_iload_n X d_M_tick_129 rfl 1 rfl ?_
                      refine j_iadd X d_M_tick_130 ?_
                      refine j_bipush X (v := (16 : Int32)) d_M_tick_131 (by decide) ?_
                      refine j_irem X d_M_tick_133 (by decide) ?_
                      refine j_aload_n X d_M_tick_134 rfl 0 rfl ?_
                      refine g_33_15 X f_M_19 d_M_tick_135 ?_
                      refine j_iload_n X d_M_tick_138 rfl 1 rfl ?_
                      refine ld_34 X hw.1 (v := (s99 34 (Int32.toNatClampNeg v1))) rfl d_M_tick_139 ?_
                      have hw := hw.2
                      refine j_callVi (As := [.int (0 : Int32), .int (((s99 33 3) + v1) - ((s99 33 3) + v1) / (16 : Int32) * (16 : Int32)), .int (s99 34 (Int32.toNatClampNeg v1))]) X (c_M_sends l D ca ad sz hD hw) (gcV (n := 3) X rfl rfl rfl gc_M_sends m_M_sends l_M_139 (by decide +kernel) ⟨by decide, by decide⟩) (q0 := 33) rfl rfl (fun _ h => h) rfl rfl (Nat.le_of_ble_eq_true rfl) ⟨by decide, by decide⟩ d_M_tick_140 (fun r6 u5 hw => ?_)
                      exact j_iret X hlk hr d_M_tick_143 hw
              obtain ⟨n, hw⟩ := hw
              refine j_locs [1, 0] rfl ?_
              exact lp99 n _ _ hw
            · have hw := hw.2 h
              refine j_iconst X (v := (-1 : Int32)) d_M_tick_95 (by decide) ?_
              exact j_iret X hlk hr d_M_tick_96 hw
        · have hw := hw.2 h
          refine j_aload_n X d_M_tick_41 rfl 0 rfl ?_
          refine g_33_12 X f_M_101 (v := (σ 33 12)) rfl d_M_tick_42 ?_
          refine j_if_eq X d_M_tick_45 (tgt := 79) (by decide) (fun h => ?_) (fun h => ?_)
          · have hw := hw.1 h
            refine j_aload_n X d_M_tick_79 rfl 0 rfl ?_
            refine g_33_1 X f_M_81 (v := (σ 33 1)) rfl d_M_tick_80 ?_
            refine j_iconst X (v := (1 : Int32)) d_M_tick_83 (by decide) ?_
            refine j_icmp_eq X d_M_tick_84 (tgt := 97) (by decide) (fun h => ?_) (fun h => ?_)
            · have hw := hw.1 h
              refine j_iconst X (v := (0 : Int32)) d_M_tick_97 (by decide) ?_
              refine j_istore_n X d_M_tick_98 rfl (by decide) rfl ?_
              have lp99 : ∀ (n : Nat) (v1 : Int32) (s99 : Jst), w_M_tick_L99 K n v1 s99 → J p l e rm_M_tick s m args below meth c D vwCl (wlT ad ca) (Aw sz) 2 0 0 (MQ below (va_Qi K (Jq D vwCl (wlT ad ca)) (Aw sz)) args s 0 0 (Aw sz)) 99 [(0, .ref (ad 33)), (1, .int v1)] [] s99 := by
                intro n
                induction n with
                | zero => intro v1 s99 hw; exact (show False from hw).elim
                | succ n ih99 =>
                  intro v1 s99 hw
                  rw [w_M_tick_L99] at hw
                  refine j_iload_n X d_M_tick_99 rfl 1 rfl ?_
                  refine j_aload_n X d_M_tick_100 rfl 0 rfl ?_
                  refine g_33_14 X f_M_114 (v := (s99 33 14)) rfl d_M_tick_101 ?_
                  refine j_icmp_ge X d_M_tick_104 (tgt := 150) (by decide) (fun h => ?_) (fun h => ?_)
                  · have hw := hw.1 h
                    refine j_aload_n X d_M_tick_150 rfl 0 rfl ?_
                    refine g_33_10 X f_M_117 (v := (s99 33 10)) rfl d_M_tick_151 ?_
                    refine j_if_eq X d_M_tick_154 (tgt := 168) (by decide) (fun h => ?_) (fun h => ?_)
                    · have hw := hw.1 h
                      refine j_iconst X (v := (-1 : Int32)) d_M_tick_168 (by decide) ?_
                      exact j_iret X hlk hr d_M_tick_169 hw
                    · have hw := hw.2 h
                      refine j_aload_n X d_M_tick_157 rfl 0 rfl ?_
                      refine g_33_14 X f_M_114 (v := (s99 33 14)) rfl d_M_tick_158 ?_
                      refine j_aload_n X d_M_tick_161 rfl 0 rfl ?_
                      refine g_33_7 X f_M_7 (v := (s99 33 7)) rfl d_M_tick_162 ?_
                      refine j_icmp_lt X d_M_tick_165 (tgt := 170) (by decide) (fun h => ?_) (fun h => ?_)
                      · have hw := hw.1 h
                        refine j_aload_n X d_M_tick_170 rfl 0 rfl ?_
                        refine g_33_15 X f_M_19 d_M_tick_171 ?_
                        refine j_aload_n X d_M_tick_174 rfl 0 rfl ?_
                        refine g_33_14 X f_M_114 (v := (s99 33 14)) rfl d_M_tick_175 ?_
                        refine j_aload_n X d_M_tick_178 rfl 0 rfl ?_
                        refine g_33_11 X f_M_123 (v := (s99 33 11)) rfl d_M_tick_179 ?_
                        refine sr_34 X hw.1 d_M_tick_182 ?_
                        have hw := hw.2
                        refine j_aload_n X d_M_tick_183 rfl 0 rfl ?_
                        refine g_33_16 X f_M_23 d_M_tick_184 ?_
                        refine j_aload_n X d_M_tick_187 rfl 0 rfl ?_
                        refine g_33_14 X f_M_114 (v := (s99 33 14)) rfl d_M_tick_188 ?_
                        refine j_iconst X (v := (0 : Int32)) d_M_tick_191 (by decide) ?_
                        refine sr_35 X hw.1 d_M_tick_192 ?_
                        have hw := hw.2
                        refine j_aload_n X d_M_tick_193 rfl 0 rfl ?_
                        refine j_dup X d_M_tick_194 rfl ?_
                        refine g_33_14 X f_M_114 (v := (s99 33 14)) rfl d_M_tick_195 ?_
                        refine j_iconst X (v := (1 : Int32)) d_M_tick_198 (by decide) ?_
                        refine j_iadd X d_M_tick_199 ?_
                        refine p_33_14 X f_M_114 d_M_tick_200 ?_
                        refine j_aload_n X d_M_tick_203 rfl 0 rfl ?_
                        refine j_iconst X (v := (0 : Int32)) d_M_tick_204 (by decide) ?_
                        refine p_33_10 X f_M_117 rfl rfl d_M_tick_205 ?_
                        refine j_aload_n X d_M_tick_208 rfl 0 rfl ?_
                        refine j_aload_n X d_M_tick_209 rfl 0 rfl ?_
                        refine g_33_14 X f_M_114 (v := ((s99 33 14) + (1 : Int32))) rfl d_M_tick_210 ?_
                        refine j_iconst X (v := (1 : Int32)) d_M_tick_213 (by decide) ?_
                        refine j_icmp_ne X d_M_tick_214 (tgt := 221) (by decide) (fun h => ?_) (fun h => ?_)
                        · have hw := hw.1 h
                          refine j_aload_n X d_M_tick_221 rfl 0 rfl ?_
                          refine g_33_4 X f_M_108 (v := (s99 33 4)) rfl d_M_tick_222 ?_
                          refine p_33_4 X f_M_108 d_M_tick_225 ?_
                          refine j_aload_n X d_M_tick_228 rfl 0 rfl ?_
                          refine j_aload_n X d_M_tick_229 rfl 0 rfl ?_
                          refine g_33_2 X f_M_92 (v := (s99 33 2)) rfl d_M_tick_230 ?_
                          refine j_iconst X (v := (1 : Int32)) d_M_tick_233 (by decide) ?_
                          refine j_iadd X d_M_tick_234 ?_
                          refine j_bipush X (v := (16 : Int32)) d_M_tick_235 (by decide) ?_
                          refine j_irem X d_M_tick_237 (by decide) ?_
                          refine p_33_2 X f_M_92 d_M_tick_238 ?_
                          refine j_aload_n X d_M_tick_241 rfl 0 rfl ?_
                          refine j_iconst X (v := (0 : Int32)) d_M_tick_242 (by decide) ?_
                          refine j_aload_n X d_M_tick_243 rfl 0 rfl ?_
                          refine g_33_2 X f_M_92 (v := (((s99 33 2) + (1 : Int32)) - ((s99 33 2) + (1 : Int32)) / (16 : Int32) * (16 : Int32))) rfl d_M_tick_244 ?_
                          refine j_bipush X (v := (15 : Int32)) d_M_tick_247 (by decide) ?_
                          refine j_iadd X d_M_tick_249 ?_
                          refine j_bipush X (v := (16 : Int32)) d_M_tick_250 (by decide) ?_
                          refine j_irem X d_M_tick_252 (by decide) ?_
                          refine j_aload_n X d_M_tick_253 rfl 0 rfl ?_
                          refine g_33_11 X f_M_123 (v := (s99 33 11)) rfl d_M_tick_254 ?_
                          refine j_callVi (As := [.int (0 : Int32), .int (((((s99 33 2) + (1 : Int32)) - ((s99 33 2) + (1 : Int32)) / (16 : Int32) * (16 : Int32)) + (15 : Int32)) - ((((s99 33 2) + (1 : Int32)) - ((s99 33 2) + (1 : Int32)) / (16 : Int32) * (16 : Int32)) + (15 : Int32)) / (16 : Int32) * (16 : Int32)), .int (s99 33 11)]) X (c_M_sends l D ca ad sz hD hw) (gcV (n := 3) X rfl rfl rfl gc_M_sends m_M_sends l_M_139 (by decide +kernel) ⟨by decide, by decide⟩) (q0 := 33) rfl rfl (fun _ h => h) rfl rfl (Nat.le_of_ble_eq_true rfl) ⟨by decide, by decide⟩ d_M_tick_257 (fun r2 u1 hw => ?_)
                          exact j_iret X hlk hr d_M_tick_260 hw
                        · have hw := hw.2 h
                          refine j_iconst X (v := (1 : Int32)) d_M_tick_217 (by decide) ?_
                          refine j_goto X d_M_tick_218 (tgt := 225) (by decide) ?_
                          refine p_33_4 X f_M_108 d_M_tick_225 ?_
                          refine j_aload_n X d_M_tick_228 rfl 0 rfl ?_
                          refine j_aload_n X d_M_tick_229 rfl 0 rfl ?_
                          refine g_33_2 X f_M_92 (v := (s99 33 2)) rfl d_M_tick_230 ?_
                          refine j_iconst X (v := (1 : Int32)) d_M_tick_233 (by decide) ?_
                          refine j_iadd X d_M_tick_234 ?_
                          refine j_bipush X (v := (16 : Int32)) d_M_tick_235 (by decide) ?_
                          refine j_irem X d_M_tick_237 (by decide) ?_
                          refine p_33_2 X f_M_92 d_M_tick_238 ?_
                          refine j_aload_n X d_M_tick_241 rfl 0 rfl ?_
                          refine j_iconst X (v := (0 : Int32)) d_M_tick_242 (by decide) ?_
                          refine j_aload_n X d_M_tick_243 rfl 0 rfl ?_
                          refine g_33_2 X f_M_92 (v := (((s99 33 2) + (1 : Int32)) - ((s99 33 2) + (1 : Int32)) / (16 : Int32) * (16 : Int32))) rfl d_M_tick_244 ?_
                          refine j_bipush X (v := (15 : Int32)) d_M_tick_247 (by decide) ?_
                          refine j_iadd X d_M_tick_249 ?_
                          refine j_bipush X (v := (16 : Int32)) d_M_tick_250 (by decide) ?_
                          refine j_irem X d_M_tick_252 (by decide) ?_
                          refine j_aload_n X d_M_tick_253 rfl 0 rfl ?_
                          refine g_33_11 X f_M_123 (v := (s99 33 11)) rfl d_M_tick_254 ?_
                          refine j_callVi (As := [.int (0 : Int32), .int (((((s99 33 2) + (1 : Int32)) - ((s99 33 2) + (1 : Int32)) / (16 : Int32) * (16 : Int32)) + (15 : Int32)) - ((((s99 33 2) + (1 : Int32)) - ((s99 33 2) + (1 : Int32)) / (16 : Int32) * (16 : Int32)) + (15 : Int32)) / (16 : Int32) * (16 : Int32)), .int (s99 33 11)]) X (c_M_sends l D ca ad sz hD hw) (gcV (n := 3) X rfl rfl rfl gc_M_sends m_M_sends l_M_139 (by decide +kernel) ⟨by decide, by decide⟩) (q0 := 33) rfl rfl (fun _ h => h) rfl rfl (Nat.le_of_ble_eq_true rfl) ⟨by decide, by decide⟩ d_M_tick_257 (fun r4 u3 hw => ?_)
                          exact j_iret X hlk hr d_M_tick_260 hw
                      · have hw := hw.2 h
                        refine j_iconst X (v := (-1 : Int32)) d_M_tick_168 (by decide) ?_
                        exact j_iret X hlk hr d_M_tick_169 hw
                  · have hw := hw.2 h
                    refine j_aload_n X d_M_tick_107 rfl 0 rfl ?_
                    refine g_33_16 X f_M_23 d_M_tick_108 ?_
                    refine j_iload_n X d_M_tick_111 rfl 1 rfl ?_
                    refine ld_35 X hw.1 (v := (s99 35 (Int32.toNatClampNeg v1))) rfl d_M_tick_112 ?_
                    have hw := hw.2
                    refine j_if_eq X d_M_tick_113 (tgt := 144) (by decide) (fun h => ?_) (fun h => ?_)
                    · have hw := hw.1 h
                      refine j_iinc X (v := (1 : Int32)) d_M_tick_144 1 rfl (by decide) (by decide) rfl ?_
                      refine j_goto X d_M_tick_147 (tgt := 99) (by decide) ?_
                      refine j_locs [1, 0] rfl ?_
                      exact ih99 _ _ hw
                    · have hw := hw.2 h
                      refine j_aload_n X d_M_tick_116 rfl 0 rfl ?_
                      refine g_33_16 X f_M_23 d_M_tick_117 ?_
                      refine j_iload_n X d_M_tick_120 rfl 1 rfl ?_
                      refine j_iconst X (v := (0 : Int32)) d_M_tick_121 (by decide) ?_
                      refine sr_35 X hw.1 d_M_tick_122 ?_
                      have hw := hw.2
                      refine j_aload_n X d_M_tick_123 rfl 0 rfl ?_
                      refine j_iconst X (v := (0 : Int32)) d_M_tick_124 (by decide) ?_
                      refine j_aload_n X d_M_tick_125 rfl 0 rfl ?_
                      refine g_33_3 X f_M_95 (v := (s99 33 3)) rfl d_M_tick_126 ?_
                      refine j_iload_n X d_M_tick_129 rfl 1 rfl ?_
                      refine j_iadd X d_M_tick_130 ?_
                      refine j_bipush X (v := (16 : Int32)) d_M_tick_131 (by decide) ?_
                      refine j_irem X d_M_tick_133 (by decide) ?_
                      refine j_aload_n X d_M_tick_134 rfl 0 rfl ?_
                      refine g_33_15 X f_M_19 d_M_tick_135 ?_
                      refine j_iload_n X d_M_tick_138 rfl 1 rfl ?_
                      refine ld_34 X hw.1 (v := (s99 34 (Int32.toNatClampNeg v1))) rfl d_M_tick_139 ?_
                      have hw := hw.2
                      refine j_callVi (As := [.int (0 : Int32), .int (((s99 33 3) + v1) - ((s99 33 3) + v1) / (16 : Int32) * (16 : Int32)), .int (s99 34 (Int32.toNatClampNeg v1))]) X (c_M_sends l D ca ad sz hD hw) (gcV (n := 3) X rfl rfl rfl gc_M_sends m_M_sends l_M_139 (by decide +kernel) ⟨by decide, by decide⟩) (q0 := 33) rfl rfl (fun _ h => h) rfl rfl (Nat.le_of_ble_eq_true rfl) ⟨by decide, by decide⟩ d_M_tick_140 (fun r6 u5 hw => ?_)
                      exact j_iret X hlk hr d_M_tick_143 hw
              obtain ⟨n, hw⟩ := hw
              refine j_locs [1, 0] rfl ?_
              exact lp99 n _ _ hw
            · have hw := hw.2 h
              refine j_aload_n X d_M_tick_87 rfl 0 rfl ?_
              refine g_33_1 X f_M_81 (v := (σ 33 1)) rfl d_M_tick_88 ?_
              refine j_iconst X (v := (2 : Int32)) d_M_tick_91 (by decide) ?_
              refine j_icmp_eq X d_M_tick_92 (tgt := 97) (by decide) (fun h => ?_) (fun h => ?_)
              · have hw := hw.1 h
                refine j_iconst X (v := (0 : Int32)) d_M_tick_97 (by decide) ?_
                refine j_istore_n X d_M_tick_98 rfl (by decide) rfl ?_
                have lp99 : ∀ (n : Nat) (v1 : Int32) (s99 : Jst), w_M_tick_L99 K n v1 s99 → J p l e rm_M_tick s m args below meth c D vwCl (wlT ad ca) (Aw sz) 2 0 0 (MQ below (va_Qi K (Jq D vwCl (wlT ad ca)) (Aw sz)) args s 0 0 (Aw sz)) 99 [(0, .ref (ad 33)), (1, .int v1)] [] s99 := by
                  intro n
                  induction n with
                  | zero => intro v1 s99 hw; exact (show False from hw).elim
                  | succ n ih99 =>
                    intro v1 s99 hw
                    rw [w_M_tick_L99] at hw
                    refine j_iload_n X d_M_tick_99 rfl 1 rfl ?_
                    refine j_aload_n X d_M_tick_100 rfl 0 rfl ?_
                    refine g_33_14 X f_M_114 (v := (s99 33 14)) rfl d_M_tick_101 ?_
                    refine j_icmp_ge X d_M_tick_104 (tgt := 150) (by decide) (fun h => ?_) (fun h => ?_)
                    · have hw := hw.1 h
                      refine j_aload_n X d_M_tick_150 rfl 0 rfl ?_
                      refine g_33_10 X f_M_117 (v := (s99 33 10)) rfl d_M_tick_151 ?_
                      refine j_if_eq X d_M_tick_154 (tgt := 168) (by decide) (fun h => ?_) (fun h => ?_)
                      · have hw := hw.1 h
                        refine j_iconst X (v := (-1 : Int32)) d_M_tick_168 (by decide) ?_
                        exact j_iret X hlk hr d_M_tick_169 hw
                      · have hw := hw.2 h
                        refine j_aload_n X d_M_tick_157 rfl 0 rfl ?_
                        refine g_33_14 X f_M_114 (v := (s99 33 14)) rfl d_M_tick_158 ?_
                        refine j_aload_n X d_M_tick_161 rfl 0 rfl ?_
                        refine g_33_7 X f_M_7 (v := (s99 33 7)) rfl d_M_tick_162 ?_
                        refine j_icmp_lt X d_M_tick_165 (tgt := 170) (by decide) (fun h => ?_) (fun h => ?_)
                        · have hw := hw.1 h
                          refine j_aload_n X d_M_tick_170 rfl 0 rfl ?_
                          refine g_33_15 X f_M_19 d_M_tick_171 ?_
                          refine j_aload_n X d_M_tick_174 rfl 0 rfl ?_
                          refine g_33_14 X f_M_114 (v := (s99 33 14)) rfl d_M_tick_175 ?_
                          refine j_aload_n X d_M_tick_178 rfl 0 rfl ?_
                          refine g_33_11 X f_M_123 (v := (s99 33 11)) rfl d_M_tick_179 ?_
                          refine sr_34 X hw.1 d_M_tick_182 ?_
                          have hw := hw.2
                          refine j_aload_n X d_M_tick_183 rfl 0 rfl ?_
                          refine g_33_16 X f_M_23 d_M_tick_184 ?_
                          refine j_aload_n X d_M_tick_187 rfl 0 rfl ?_
                          refine g_33_14 X f_M_114 (v := (s99 33 14)) rfl d_M_tick_188 ?_
                          refine j_iconst X (v := (0 : Int32)) d_M_tick_191 (by decide) ?_
                          refine sr_35 X hw.1 d_M_tick_192 ?_
                          have hw := hw.2
                          refine j_aload_n X d_M_tick_193 rfl 0 rfl ?_
                          refine j_dup X d_M_tick_194 rfl ?_
                          refine g_33_14 X f_M_114 (v := (s99 33 14)) rfl d_M_tick_195 ?_
                          refine j_iconst X (v := (1 : Int32)) d_M_tick_198 (by decide) ?_
                          refine j_iadd X d_M_tick_199 ?_
                          refine p_33_14 X f_M_114 d_M_tick_200 ?_
                          refine j_aload_n X d_M_tick_203 rfl 0 rfl ?_
                          refine j_iconst X (v := (0 : Int32)) d_M_tick_204 (by decide) ?_
                          refine p_33_10 X f_M_117 rfl rfl d_M_tick_205 ?_
                          refine j_aload_n X d_M_tick_208 rfl 0 rfl ?_
                          refine j_aload_n X d_M_tick_209 rfl 0 rfl ?_
                          refine g_33_14 X f_M_114 (v := ((s99 33 14) + (1 : Int32))) rfl d_M_tick_210 ?_
                          refine j_iconst X (v := (1 : Int32)) d_M_tick_213 (by decide) ?_
                          refine j_icmp_ne X d_M_tick_214 (tgt := 221) (by decide) (fun h => ?_) (fun h => ?_)
                          · have hw := hw.1 h
                            refine j_aload_n X d_M_tick_221 rfl 0 rfl ?_
                            refine g_33_4 X f_M_108 (v := (s99 33 4)) rfl d_M_tick_222 ?_
                            refine p_33_4 X f_M_108 d_M_tick_225 ?_
                            refine j_aload_n X d_M_tick_228 rfl 0 rfl ?_
                            refine j_aload_n X d_M_tick_229 rfl 0 rfl ?_
                            refine g_33_2 X f_M_92 (v := (s99 33 2)) rfl d_M_tick_230 ?_
                            refine j_iconst X (v := (1 : Int32)) d_M_tick_233 (by decide) ?_
                            refine j_iadd X d_M_tick_234 ?_
                            refine j_bipush X (v := (16 : Int32)) d_M_tick_235 (by decide) ?_
                            refine j_irem X d_M_tick_237 (by decide) ?_
                            refine p_33_2 X f_M_92 d_M_tick_238 ?_
                            refine j_aload_n X d_M_tick_241 rfl 0 rfl ?_
                            refine j_iconst X (v := (0 : Int32)) d_M_tick_242 (by decide) ?_
                            refine j_aload_n X d_M_tick_243 rfl 0 rfl ?_
                            refine g_33_2 X f_M_92 (v := (((s99 33 2) + (1 : Int32)) - ((s99 33 2) + (1 : Int32)) / (16 : Int32) * (16 : Int32))) rfl d_M_tick_244 ?_
                            refine j_bipush X (v := (15 : Int32)) d_M_tick_247 (by decide) ?_
                            refine j_iadd X d_M_tick_249 ?_
                            refine j_bipush X (v := (16 : Int32)) d_M_tick_250 (by decide) ?_
                            refine j_irem X d_M_tick_252 (by decide) ?_
                            refine j_aload_n X d_M_tick_253 rfl 0 rfl ?_
                            refine g_33_11 X f_M_123 (v := (s99 33 11)) rfl d_M_tick_254 ?_
                            refine j_callVi (As := [.int (0 : Int32), .int (((((s99 33 2) + (1 : Int32)) - ((s99 33 2) + (1 : Int32)) / (16 : Int32) * (16 : Int32)) + (15 : Int32)) - ((((s99 33 2) + (1 : Int32)) - ((s99 33 2) + (1 : Int32)) / (16 : Int32) * (16 : Int32)) + (15 : Int32)) / (16 : Int32) * (16 : Int32)), .int (s99 33 11)]) X (c_M_sends l D ca ad sz hD hw) (gcV (n := 3) X rfl rfl rfl gc_M_sends m_M_sends l_M_139 (by decide +kernel) ⟨by decide, by decide⟩) (q0 := 33) rfl rfl (fun _ h => h) rfl rfl (Nat.le_of_ble_eq_true rfl) ⟨by decide, by decide⟩ d_M_tick_257 (fun r2 u1 hw => ?_)
                            exact j_iret X hlk hr d_M_tick_260 hw
                          · have hw := hw.2 h
                            refine j_iconst X (v := (1 : Int32)) d_M_tick_217 (by decide) ?_
                            refine j_goto X d_M_tick_218 (tgt := 225) (by decide) ?_
                            refine p_33_4 X f_M_108 d_M_tick_225 ?_
                            refine j_aload_n X d_M_tick_228 rfl 0 rfl ?_
                            refine j_aload_n X d_M_tick_229 rfl 0 rfl ?_
                            refine g_33_2 X f_M_92 (v := (s99 33 2)) rfl d_M_tick_230 ?_
                            refine j_iconst X (v := (1 : Int32)) d_M_tick_233 (by decide) ?_
                            refine j_iadd X d_M_tick_234 ?_
                            refine j_bipush X (v := (16 : Int32)) d_M_tick_235 (by decide) ?_
                            refine j_irem X d_M_tick_237 (by decide) ?_
                            refine p_33_2 X f_M_92 d_M_tick_238 ?_
                            refine j_aload_n X d_M_tick_241 rfl 0 rfl ?_
                            refine j_iconst X (v := (0 : Int32)) d_M_tick_242 (by decide) ?_
                            refine j_aload_n X d_M_tick_243 rfl 0 rfl ?_
                            refine g_33_2 X f_M_92 (v := (((s99 33 2) + (1 : Int32)) - ((s99 33 2) + (1 : Int32)) / (16 : Int32) * (16 : Int32))) rfl d_M_tick_244 ?_
                            refine j_bipush X (v := (15 : Int32)) d_M_tick_247 (by decide) ?_
                            refine j_iadd X d_M_tick_249 ?_
                            refine j_bipush X (v := (16 : Int32)) d_M_tick_250 (by decide) ?_
                            refine j_irem X d_M_tick_252 (by decide) ?_
                            refine j_aload_n X d_M_tick_253 rfl 0 rfl ?_
                            refine g_33_11 X f_M_123 (v := (s99 33 11)) rfl d_M_tick_254 ?_
                            refine j_callVi (As := [.int (0 : Int32), .int (((((s99 33 2) + (1 : Int32)) - ((s99 33 2) + (1 : Int32)) / (16 : Int32) * (16 : Int32)) + (15 : Int32)) - ((((s99 33 2) + (1 : Int32)) - ((s99 33 2) + (1 : Int32)) / (16 : Int32) * (16 : Int32)) + (15 : Int32)) / (16 : Int32) * (16 : Int32)), .int (s99 33 11)]) X (c_M_sends l D ca ad sz hD hw) (gcV (n := 3) X rfl rfl rfl gc_M_sends m_M_sends l_M_139 (by decide +kernel) ⟨by decide, by decide⟩) (q0 := 33) rfl rfl (fun _ h => h) rfl rfl (Nat.le_of_ble_eq_true rfl) ⟨by decide, by decide⟩ d_M_tick_257 (fun r4 u3 hw => ?_)
                            exact j_iret X hlk hr d_M_tick_260 hw
                        · have hw := hw.2 h
                          refine j_iconst X (v := (-1 : Int32)) d_M_tick_168 (by decide) ?_
                          exact j_iret X hlk hr d_M_tick_169 hw
                    · have hw := hw.2 h
                      refine j_aload_n X d_M_tick_107 rfl 0 rfl ?_
                      refine g_33_16 X f_M_23 d_M_tick_108 ?_
                      refine j_iload_n X d_M_tick_111 rfl 1 rfl ?_
                      refine ld_35 X hw.1 (v := (s99 35 (Int32.toNatClampNeg v1))) rfl d_M_tick_112 ?_
                      have hw := hw.2
                      refine j_if_eq X d_M_tick_113 (tgt := 144) (by decide) (fun h => ?_) (fun h => ?_)
                      · have hw := hw.1 h
                        refine j_iinc X (v := (1 : Int32)) d_M_tick_144 1 rfl (by decide) (by decide) rfl ?_
                        refine j_goto X d_M_tick_147 (tgt := 99) (by decide) ?_
                        refine j_locs [1, 0] rfl ?_
                        exact ih99 _ _ hw
                      · have hw := hw.2 h
                        refine j_aload_n X d_M_tick_116 rfl 0 rfl ?_
                        refine g_33_16 X f_M_23 d_M_tick_117 ?_
                        refine j_iload_n X d_M_tick_120 rfl 1 rfl ?_
                        refine j_iconst X (v := (0 : Int32)) d_M_tick_121 (by decide) ?_
                        refine sr_35 X hw.1 d_M_tick_122 ?_
                        have hw := hw.2
                        refine j_aload_n X d_M_tick_123 rfl 0 rfl ?_
                        refine j_iconst X (v := (0 : Int32)) d_M_tick_124 (by decide) ?_
                        refine j_aload_n X d_M_tick_125 rfl 0 rfl ?_
                        refine g_33_3 X f_M_95 (v := (s99 33 3)) rfl d_M_tick_126 ?_
                        refine j_iload_n X d_M_tick_129 rfl 1 rfl ?_
                        refine j_iadd X d_M_tick_130 ?_
                        refine j_bipush X (v := (16 : Int32)) d_M_tick_131 (by decide) ?_
                        refine j_irem X d_M_tick_133 (by decide) ?_
                        refine j_aload_n X d_M_tick_134 rfl 0 rfl ?_
                        refine g_33_15 X f_M_19 d_M_tick_135 ?_
                        refine j_iload_n X d_M_tick_138 rfl 1 rfl ?_
                        refine ld_34 X hw.1 (v := (s99 34 (Int32.toNatClampNeg v1))) rfl d_M_tick_139 ?_
                        have hw := hw.2
                        refine j_callVi (As := [.int (0 : Int32), .int (((s99 33 3) + v1) - ((s99 33 3) + v1) / (16 : Int32) * (16 : Int32)), .int (s99 34 (Int32.toNatClampNeg v1))]) X (c_M_sends l D ca ad sz hD hw) (gcV (n := 3) X rfl rfl rfl gc_M_sends m_M_sends l_M_139 (by decide +kernel) ⟨by decide, by decide⟩) (q0 := 33) rfl rfl (fun _ h => h) rfl rfl (Nat.le_of_ble_eq_true rfl) ⟨by decide, by decide⟩ d_M_tick_140 (fun r6 u5 hw => ?_)
                        exact j_iret X hlk hr d_M_tick_143 hw
                obtain ⟨n, hw⟩ := hw
                refine j_locs [1, 0] rfl ?_
                exact lp99 n _ _ hw
              · have hw := hw.2 h
                refine j_iconst X (v := (-1 : Int32)) d_M_tick_95 (by decide) ?_
                exact j_iret X hlk hr d_M_tick_96 hw
          · have hw := hw.2 h
            refine j_aload_n X d_M_tick_48 rfl 0 rfl ?_
            refine j_iconst X (v := (0 : Int32)) d_M_tick_49 (by decide) ?_
            refine p_33_12 X f_M_101 rfl rfl d_M_tick_50 ?_
            refine j_aload_n X d_M_tick_53 rfl 0 rfl ?_
            refine j_aload_n X d_M_tick_54 rfl 0 rfl ?_
            refine g_33_13 X f_M_105 (v := (σ 33 13)) rfl d_M_tick_55 ?_
            refine j_aload_n X d_M_tick_58 rfl 0 rfl ?_
            refine g_33_13 X f_M_105 (v := (σ 33 13)) rfl d_M_tick_59 ?_
            refine j_iconst X (v := (2 : Int32)) d_M_tick_62 (by decide) ?_
            refine j_icmp_ne X d_M_tick_63 (tgt := 73) (by decide) (fun h => ?_) (fun h => ?_)
            · have hw := hw.1 h
              refine j_iconst X (v := (0 : Int32)) d_M_tick_73 (by decide) ?_
              refine j_iconst X (v := (0 : Int32)) d_M_tick_74 (by decide) ?_
              refine j_callVi (As := [.int (σ 33 13), .int (0 : Int32), .int (0 : Int32)]) X (c_M_sends l D ca ad sz hD hw) (gcV (n := 3) X rfl rfl rfl gc_M_sends m_M_sends l_M_139 (by decide +kernel) ⟨by decide, by decide⟩) (q0 := 33) rfl rfl (fun _ h => h) rfl rfl (Nat.le_of_ble_eq_true rfl) ⟨by decide, by decide⟩ d_M_tick_75 (fun r6 u5 hw => ?_)
              exact j_iret X hlk hr d_M_tick_78 hw
            · have hw := hw.2 h
              refine j_aload_n X d_M_tick_66 rfl 0 rfl ?_
              refine g_33_2 X f_M_92 (v := (σ 33 2)) rfl d_M_tick_67 ?_
              refine j_goto X d_M_tick_70 (tgt := 74) (by decide) ?_
              refine j_iconst X (v := (0 : Int32)) d_M_tick_74 (by decide) ?_
              refine j_callVi (As := [.int (σ 33 13), .int (σ 33 2), .int (0 : Int32)]) X (c_M_sends l D ca ad sz hD hw) (gcV (n := 3) X rfl rfl rfl gc_M_sends m_M_sends l_M_139 (by decide +kernel) ⟨by decide, by decide⟩) (q0 := 33) rfl rfl (fun _ h => h) rfl rfl (Nat.le_of_ble_eq_true rfl) ⟨by decide, by decide⟩ d_M_tick_75 (fun r8 u7 hw => ?_)
              exact j_iret X hlk hr d_M_tick_78 hw
      · have hw := hw.2 h
        refine j_aload_n X d_M_tick_29 rfl 0 rfl ?_
        refine j_callVv (As := []) X (c_M_rings l D ca ad sz hD hw) (gcV (n := 0) X rfl rfl rfl gc_M_rings m_M_rings l_M_136 (by decide +kernel) ⟨by decide, by decide⟩) (q0 := 33) rfl rfl (fun _ h => h) rfl rfl (Nat.le_of_ble_eq_true rfl) ⟨by decide, by decide⟩ d_M_tick_30 (fun u9 hw => ?_)
        refine j_aload_n X d_M_tick_33 rfl 0 rfl ?_
        refine g_33_1 X f_M_81 (v := (u9 33 1)) rfl d_M_tick_34 ?_
        refine j_iconst X (v := (5 : Int32)) d_M_tick_37 (by decide) ?_
        refine j_icmp_ne X d_M_tick_38 (tgt := 79) (by decide) (fun h => ?_) (fun h => ?_)
        · have hw := hw.1 h
          refine j_aload_n X d_M_tick_79 rfl 0 rfl ?_
          refine g_33_1 X f_M_81 (v := (u9 33 1)) rfl d_M_tick_80 ?_
          refine j_iconst X (v := (1 : Int32)) d_M_tick_83 (by decide) ?_
          refine j_icmp_eq X d_M_tick_84 (tgt := 97) (by decide) (fun h => ?_) (fun h => ?_)
          · have hw := hw.1 h
            refine j_iconst X (v := (0 : Int32)) d_M_tick_97 (by decide) ?_
            refine j_istore_n X d_M_tick_98 rfl (by decide) rfl ?_
            have lp99 : ∀ (n : Nat) (v1 : Int32) (s99 : Jst), w_M_tick_L99 K n v1 s99 → J p l e rm_M_tick s m args below meth c D vwCl (wlT ad ca) (Aw sz) 2 0 0 (MQ below (va_Qi K (Jq D vwCl (wlT ad ca)) (Aw sz)) args s 0 0 (Aw sz)) 99 [(0, .ref (ad 33)), (1, .int v1)] [] s99 := by
              intro n
              induction n with
              | zero => intro v1 s99 hw; exact (show False from hw).elim
              | succ n ih99 =>
                intro v1 s99 hw
                rw [w_M_tick_L99] at hw
                refine j_iload_n X d_M_tick_99 rfl 1 rfl ?_
                refine j_aload_n X d_M_tick_100 rfl 0 rfl ?_
                refine g_33_14 X f_M_114 (v := (s99 33 14)) rfl d_M_tick_101 ?_
                refine j_icmp_ge X d_M_tick_104 (tgt := 150) (by decide) (fun h => ?_) (fun h => ?_)
                · have hw := hw.1 h
                  refine j_aload_n X d_M_tick_150 rfl 0 rfl ?_
                  refine g_33_10 X f_M_117 (v := (s99 33 10)) rfl d_M_tick_151 ?_
                  refine j_if_eq X d_M_tick_154 (tgt := 168) (by decide) (fun h => ?_) (fun h => ?_)
                  · have hw := hw.1 h
                    refine j_iconst X (v := (-1 : Int32)) d_M_tick_168 (by decide) ?_
                    exact j_iret X hlk hr d_M_tick_169 hw
                  · have hw := hw.2 h
                    refine j_aload_n X d_M_tick_157 rfl 0 rfl ?_
                    refine g_33_14 X f_M_114 (v := (s99 33 14)) rfl d_M_tick_158 ?_
                    refine j_aload_n X d_M_tick_161 rfl 0 rfl ?_
                    refine g_33_7 X f_M_7 (v := (s99 33 7)) rfl d_M_tick_162 ?_
                    refine j_icmp_lt X d_M_tick_165 (tgt := 170) (by decide) (fun h => ?_) (fun h => ?_)
                    · have hw := hw.1 h
                      refine j_aload_n X d_M_tick_170 rfl 0 rfl ?_
                      refine g_33_15 X f_M_19 d_M_tick_171 ?_
                      refine j_aload_n X d_M_tick_174 rfl 0 rfl ?_
                      refine g_33_14 X f_M_114 (v := (s99 33 14)) rfl d_M_tick_175 ?_
                      refine j_aload_n X d_M_tick_178 rfl 0 rfl ?_
                      refine g_33_11 X f_M_123 (v := (s99 33 11)) rfl d_M_tick_179 ?_
                      refine sr_34 X hw.1 d_M_tick_182 ?_
                      have hw := hw.2
                      refine j_aload_n X d_M_tick_183 rfl 0 rfl ?_
                      refine g_33_16 X f_M_23 d_M_tick_184 ?_
                      refine j_aload_n X d_M_tick_187 rfl 0 rfl ?_
                      refine g_33_14 X f_M_114 (v := (s99 33 14)) rfl d_M_tick_188 ?_
                      refine j_iconst X (v := (0 : Int32)) d_M_tick_191 (by decide) ?_
                      refine sr_35 X hw.1 d_M_tick_192 ?_
                      have hw := hw.2
                      refine j_aload_n X d_M_tick_193 rfl 0 rfl ?_
                      refine j_dup X d_M_tick_194 rfl ?_
                      refine g_33_14 X f_M_114 (v := (s99 33 14)) rfl d_M_tick_195 ?_
                      refine j_iconst X (v := (1 : Int32)) d_M_tick_198 (by decide) ?_
                      refine j_iadd X d_M_tick_199 ?_
                      refine p_33_14 X f_M_114 d_M_tick_200 ?_
                      refine j_aload_n X d_M_tick_203 rfl 0 rfl ?_
                      refine j_iconst X (v := (0 : Int32)) d_M_tick_204 (by decide) ?_
                      refine p_33_10 X f_M_117 rfl rfl d_M_tick_205 ?_
                      refine j_aload_n X d_M_tick_208 rfl 0 rfl ?_
                      refine j_aload_n X d_M_tick_209 rfl 0 rfl ?_
                      refine g_33_14 X f_M_114 (v := ((s99 33 14) + (1 : Int32))) rfl d_M_tick_210 ?_
                      refine j_iconst X (v := (1 : Int32)) d_M_tick_213 (by decide) ?_
                      refine j_icmp_ne X d_M_tick_214 (tgt := 221) (by decide) (fun h => ?_) (fun h => ?_)
                      · have hw := hw.1 h
                        refine j_aload_n X d_M_tick_221 rfl 0 rfl ?_
                        refine g_33_4 X f_M_108 (v := (s99 33 4)) rfl d_M_tick_222 ?_
                        refine p_33_4 X f_M_108 d_M_tick_225 ?_
                        refine j_aload_n X d_M_tick_228 rfl 0 rfl ?_
                        refine j_aload_n X d_M_tick_229 rfl 0 rfl ?_
                        refine g_33_2 X f_M_92 (v := (s99 33 2)) rfl d_M_tick_230 ?_
                        refine j_iconst X (v := (1 : Int32)) d_M_tick_233 (by decide) ?_
                        refine j_iadd X d_M_tick_234 ?_
                        refine j_bipush X (v := (16 : Int32)) d_M_tick_235 (by decide) ?_
                        refine j_irem X d_M_tick_237 (by decide) ?_
                        refine p_33_2 X f_M_92 d_M_tick_238 ?_
                        refine j_aload_n X d_M_tick_241 rfl 0 rfl ?_
                        refine j_iconst X (v := (0 : Int32)) d_M_tick_242 (by decide) ?_
                        refine j_aload_n X d_M_tick_243 rfl 0 rfl ?_
                        refine g_33_2 X f_M_92 (v := (((s99 33 2) + (1 : Int32)) - ((s99 33 2) + (1 : Int32)) / (16 : Int32) * (16 : Int32))) rfl d_M_tick_244 ?_
                        refine j_bipush X (v := (15 : Int32)) d_M_tick_247 (by decide) ?_
                        refine j_iadd X d_M_tick_249 ?_
                        refine j_bipush X (v := (16 : Int32)) d_M_tick_250 (by decide) ?_
                        refine j_irem X d_M_tick_252 (by decide) ?_
                        refine j_aload_n X d_M_tick_253 rfl 0 rfl ?_
                        refine g_33_11 X f_M_123 (v := (s99 33 11)) rfl d_M_tick_254 ?_
                        refine j_callVi (As := [.int (0 : Int32), .int (((((s99 33 2) + (1 : Int32)) - ((s99 33 2) + (1 : Int32)) / (16 : Int32) * (16 : Int32)) + (15 : Int32)) - ((((s99 33 2) + (1 : Int32)) - ((s99 33 2) + (1 : Int32)) / (16 : Int32) * (16 : Int32)) + (15 : Int32)) / (16 : Int32) * (16 : Int32)), .int (s99 33 11)]) X (c_M_sends l D ca ad sz hD hw) (gcV (n := 3) X rfl rfl rfl gc_M_sends m_M_sends l_M_139 (by decide +kernel) ⟨by decide, by decide⟩) (q0 := 33) rfl rfl (fun _ h => h) rfl rfl (Nat.le_of_ble_eq_true rfl) ⟨by decide, by decide⟩ d_M_tick_257 (fun r2 u1 hw => ?_)
                        exact j_iret X hlk hr d_M_tick_260 hw
                      · have hw := hw.2 h
                        refine j_iconst X (v := (1 : Int32)) d_M_tick_217 (by decide) ?_
                        refine j_goto X d_M_tick_218 (tgt := 225) (by decide) ?_
                        refine p_33_4 X f_M_108 d_M_tick_225 ?_
                        refine j_aload_n X d_M_tick_228 rfl 0 rfl ?_
                        refine j_aload_n X d_M_tick_229 rfl 0 rfl ?_
                        refine g_33_2 X f_M_92 (v := (s99 33 2)) rfl d_M_tick_230 ?_
                        refine j_iconst X (v := (1 : Int32)) d_M_tick_233 (by decide) ?_
                        refine j_iadd X d_M_tick_234 ?_
                        refine j_bipush X (v := (16 : Int32)) d_M_tick_235 (by decide) ?_
                        refine j_irem X d_M_tick_237 (by decide) ?_
                        refine p_33_2 X f_M_92 d_M_tick_238 ?_
                        refine j_aload_n X d_M_tick_241 rfl 0 rfl ?_
                        refine j_iconst X (v := (0 : Int32)) d_M_tick_242 (by decide) ?_
                        refine j_aload_n X d_M_tick_243 rfl 0 rfl ?_
                        refine g_33_2 X f_M_92 (v := (((s99 33 2) + (1 : Int32)) - ((s99 33 2) + (1 : Int32)) / (16 : Int32) * (16 : Int32))) rfl d_M_tick_244 ?_
                        refine j_bipush X (v := (15 : Int32)) d_M_tick_247 (by decide) ?_
                        refine j_iadd X d_M_tick_249 ?_
                        refine j_bipush X (v := (16 : Int32)) d_M_tick_250 (by decide) ?_
                        refine j_irem X d_M_tick_252 (by decide) ?_
                        refine j_aload_n X d_M_tick_253 rfl 0 rfl ?_
                        refine g_33_11 X f_M_123 (v := (s99 33 11)) rfl d_M_tick_254 ?_
                        refine j_callVi (As := [.int (0 : Int32), .int (((((s99 33 2) + (1 : Int32)) - ((s99 33 2) + (1 : Int32)) / (16 : Int32) * (16 : Int32)) + (15 : Int32)) - ((((s99 33 2) + (1 : Int32)) - ((s99 33 2) + (1 : Int32)) / (16 : Int32) * (16 : Int32)) + (15 : Int32)) / (16 : Int32) * (16 : Int32)), .int (s99 33 11)]) X (c_M_sends l D ca ad sz hD hw) (gcV (n := 3) X rfl rfl rfl gc_M_sends m_M_sends l_M_139 (by decide +kernel) ⟨by decide, by decide⟩) (q0 := 33) rfl rfl (fun _ h => h) rfl rfl (Nat.le_of_ble_eq_true rfl) ⟨by decide, by decide⟩ d_M_tick_257 (fun r4 u3 hw => ?_)
                        exact j_iret X hlk hr d_M_tick_260 hw
                    · have hw := hw.2 h
                      refine j_iconst X (v := (-1 : Int32)) d_M_tick_168 (by decide) ?_
                      exact j_iret X hlk hr d_M_tick_169 hw
                · have hw := hw.2 h
                  refine j_aload_n X d_M_tick_107 rfl 0 rfl ?_
                  refine g_33_16 X f_M_23 d_M_tick_108 ?_
                  refine j_iload_n X d_M_tick_111 rfl 1 rfl ?_
                  refine ld_35 X hw.1 (v := (s99 35 (Int32.toNatClampNeg v1))) rfl d_M_tick_112 ?_
                  have hw := hw.2
                  refine j_if_eq X d_M_tick_113 (tgt := 144) (by decide) (fun h => ?_) (fun h => ?_)
                  · have hw := hw.1 h
                    refine j_iinc X (v := (1 : Int32)) d_M_tick_144 1 rfl (by decide) (by decide) rfl ?_
                    refine j_goto X d_M_tick_147 (tgt := 99) (by decide) ?_
                    refine j_locs [1, 0] rfl ?_
                    exact ih99 _ _ hw
                  · have hw := hw.2 h
                    refine j_aload_n X d_M_tick_116 rfl 0 rfl ?_
                    refine g_33_16 X f_M_23 d_M_tick_117 ?_
                    refine j_iload_n X d_M_tick_120 rfl 1 rfl ?_
                    refine j_iconst X (v := (0 : Int32)) d_M_tick_121 (by decide) ?_
                    refine sr_35 X hw.1 d_M_tick_122 ?_
                    have hw := hw.2
                    refine j_aload_n X d_M_tick_123 rfl 0 rfl ?_
                    refine j_iconst X (v := (0 : Int32)) d_M_tick_124 (by decide) ?_
                    refine j_aload_n X d_M_tick_125 rfl 0 rfl ?_
                    refine g_33_3 X f_M_95 (v := (s99 33 3)) rfl d_M_tick_126 ?_
                    refine j_iload_n X d_M_tick_129 rfl 1 rfl ?_
                    refine j_iadd X d_M_tick_130 ?_
                    refine j_bipush X (v := (16 : Int32)) d_M_tick_131 (by decide) ?_
                    refine j_irem X d_M_tick_133 (by decide) ?_
                    refine j_aload_n X d_M_tick_134 rfl 0 rfl ?_
                    refine g_33_15 X f_M_19 d_M_tick_135 ?_
                    refine j_iload_n X d_M_tick_138 rfl 1 rfl ?_
                    refine ld_34 X hw.1 (v := (s99 34 (Int32.toNatClampNeg v1))) rfl d_M_tick_139 ?_
                    have hw := hw.2
                    refine j_callVi (As := [.int (0 : Int32), .int (((s99 33 3) + v1) - ((s99 33 3) + v1) / (16 : Int32) * (16 : Int32)), .int (s99 34 (Int32.toNatClampNeg v1))]) X (c_M_sends l D ca ad sz hD hw) (gcV (n := 3) X rfl rfl rfl gc_M_sends m_M_sends l_M_139 (by decide +kernel) ⟨by decide, by decide⟩) (q0 := 33) rfl rfl (fun _ h => h) rfl rfl (Nat.le_of_ble_eq_true rfl) ⟨by decide, by decide⟩ d_M_tick_140 (fun r6 u5 hw => ?_)
                    exact j_iret X hlk hr d_M_tick_143 hw
            obtain ⟨n, hw⟩ := hw
            refine j_locs [1, 0] rfl ?_
            exact lp99 n _ _ hw
          · have hw := hw.2 h
            refine j_aload_n X d_M_tick_87 rfl 0 rfl ?_
            refine g_33_1 X f_M_81 (v := (u9 33 1)) rfl d_M_tick_88 ?_
            refine j_iconst X (v := (2 : Int32)) d_M_tick_91 (by decide) ?_
            refine j_icmp_eq X d_M_tick_92 (tgt := 97) (by decide) (fun h => ?_) (fun h => ?_)
            · have hw := hw.1 h
              refine j_iconst X (v := (0 : Int32)) d_M_tick_97 (by decide) ?_
              refine j_istore_n X d_M_tick_98 rfl (by decide) rfl ?_
              have lp99 : ∀ (n : Nat) (v1 : Int32) (s99 : Jst), w_M_tick_L99 K n v1 s99 → J p l e rm_M_tick s m args below meth c D vwCl (wlT ad ca) (Aw sz) 2 0 0 (MQ below (va_Qi K (Jq D vwCl (wlT ad ca)) (Aw sz)) args s 0 0 (Aw sz)) 99 [(0, .ref (ad 33)), (1, .int v1)] [] s99 := by
                intro n
                induction n with
                | zero => intro v1 s99 hw; exact (show False from hw).elim
                | succ n ih99 =>
                  intro v1 s99 hw
                  rw [w_M_tick_L99] at hw
                  refine j_iload_n X d_M_tick_99 rfl 1 rfl ?_
                  refine j_aload_n X d_M_tick_100 rfl 0 rfl ?_
                  refine g_33_14 X f_M_114 (v := (s99 33 14)) rfl d_M_tick_101 ?_
                  refine j_icmp_ge X d_M_tick_104 (tgt := 150) (by decide) (fun h => ?_) (fun h => ?_)
                  · have hw := hw.1 h
                    refine j_aload_n X d_M_tick_150 rfl 0 rfl ?_
                    refine g_33_10 X f_M_117 (v := (s99 33 10)) rfl d_M_tick_151 ?_
                    refine j_if_eq X d_M_tick_154 (tgt := 168) (by decide) (fun h => ?_) (fun h => ?_)
                    · have hw := hw.1 h
                      refine j_iconst X (v := (-1 : Int32)) d_M_tick_168 (by decide) ?_
                      exact j_iret X hlk hr d_M_tick_169 hw
                    · have hw := hw.2 h
                      refine j_aload_n X d_M_tick_157 rfl 0 rfl ?_
                      refine g_33_14 X f_M_114 (v := (s99 33 14)) rfl d_M_tick_158 ?_
                      refine j_aload_n X d_M_tick_161 rfl 0 rfl ?_
                      refine g_33_7 X f_M_7 (v := (s99 33 7)) rfl d_M_tick_162 ?_
                      refine j_icmp_lt X d_M_tick_165 (tgt := 170) (by decide) (fun h => ?_) (fun h => ?_)
                      · have hw := hw.1 h
                        refine j_aload_n X d_M_tick_170 rfl 0 rfl ?_
                        refine g_33_15 X f_M_19 d_M_tick_171 ?_
                        refine j_aload_n X d_M_tick_174 rfl 0 rfl ?_
                        refine g_33_14 X f_M_114 (v := (s99 33 14)) rfl d_M_tick_175 ?_
                        refine j_aload_n X d_M_tick_178 rfl 0 rfl ?_
                        refine g_33_11 X f_M_123 (v := (s99 33 11)) rfl d_M_tick_179 ?_
                        refine sr_34 X hw.1 d_M_tick_182 ?_
                        have hw := hw.2
                        refine j_aload_n X d_M_tick_183 rfl 0 rfl ?_
                        refine g_33_16 X f_M_23 d_M_tick_184 ?_
                        refine j_aload_n X d_M_tick_187 rfl 0 rfl ?_
                        refine g_33_14 X f_M_114 (v := (s99 33 14)) rfl d_M_tick_188 ?_
                        refine j_iconst X (v := (0 : Int32)) d_M_tick_191 (by decide) ?_
                        refine sr_35 X hw.1 d_M_tick_192 ?_
                        have hw := hw.2
                        refine j_aload_n X d_M_tick_193 rfl 0 rfl ?_
                        refine j_dup X d_M_tick_194 rfl ?_
                        refine g_33_14 X f_M_114 (v := (s99 33 14)) rfl d_M_tick_195 ?_
                        refine j_iconst X (v := (1 : Int32)) d_M_tick_198 (by decide) ?_
                        refine j_iadd X d_M_tick_199 ?_
                        refine p_33_14 X f_M_114 d_M_tick_200 ?_
                        refine j_aload_n X d_M_tick_203 rfl 0 rfl ?_
                        refine j_iconst X (v := (0 : Int32)) d_M_tick_204 (by decide) ?_
                        refine p_33_10 X f_M_117 rfl rfl d_M_tick_205 ?_
                        refine j_aload_n X d_M_tick_208 rfl 0 rfl ?_
                        refine j_aload_n X d_M_tick_209 rfl 0 rfl ?_
                        refine g_33_14 X f_M_114 (v := ((s99 33 14) + (1 : Int32))) rfl d_M_tick_210 ?_
                        refine j_iconst X (v := (1 : Int32)) d_M_tick_213 (by decide) ?_
                        refine j_icmp_ne X d_M_tick_214 (tgt := 221) (by decide) (fun h => ?_) (fun h => ?_)
                        · have hw := hw.1 h
                          refine j_aload_n X d_M_tick_221 rfl 0 rfl ?_
                          refine g_33_4 X f_M_108 (v := (s99 33 4)) rfl d_M_tick_222 ?_
                          refine p_33_4 X f_M_108 d_M_tick_225 ?_
                          refine j_aload_n X d_M_tick_228 rfl 0 rfl ?_
                          refine j_aload_n X d_M_tick_229 rfl 0 rfl ?_
                          refine g_33_2 X f_M_92 (v := (s99 33 2)) rfl d_M_tick_230 ?_
                          refine j_iconst X (v := (1 : Int32)) d_M_tick_233 (by decide) ?_
                          refine j_iadd X d_M_tick_234 ?_
                          refine j_bipush X (v := (16 : Int32)) d_M_tick_235 (by decide) ?_
                          refine j_irem X d_M_tick_237 (by decide) ?_
                          refine p_33_2 X f_M_92 d_M_tick_238 ?_
                          refine j_aload_n X d_M_tick_241 rfl 0 rfl ?_
                          refine j_iconst X (v := (0 : Int32)) d_M_tick_242 (by decide) ?_
                          refine j_aload_n X d_M_tick_243 rfl 0 rfl ?_
                          refine g_33_2 X f_M_92 (v := (((s99 33 2) + (1 : Int32)) - ((s99 33 2) + (1 : Int32)) / (16 : Int32) * (16 : Int32))) rfl d_M_tick_244 ?_
                          refine j_bipush X (v := (15 : Int32)) d_M_tick_247 (by decide) ?_
                          refine j_iadd X d_M_tick_249 ?_
                          refine j_bipush X (v := (16 : Int32)) d_M_tick_250 (by decide) ?_
                          refine j_irem X d_M_tick_252 (by decide) ?_
                          refine j_aload_n X d_M_tick_253 rfl 0 rfl ?_
                          refine g_33_11 X f_M_123 (v := (s99 33 11)) rfl d_M_tick_254 ?_
                          refine j_callVi (As := [.int (0 : Int32), .int (((((s99 33 2) + (1 : Int32)) - ((s99 33 2) + (1 : Int32)) / (16 : Int32) * (16 : Int32)) + (15 : Int32)) - ((((s99 33 2) + (1 : Int32)) - ((s99 33 2) + (1 : Int32)) / (16 : Int32) * (16 : Int32)) + (15 : Int32)) / (16 : Int32) * (16 : Int32)), .int (s99 33 11)]) X (c_M_sends l D ca ad sz hD hw) (gcV (n := 3) X rfl rfl rfl gc_M_sends m_M_sends l_M_139 (by decide +kernel) ⟨by decide, by decide⟩) (q0 := 33) rfl rfl (fun _ h => h) rfl rfl (Nat.le_of_ble_eq_true rfl) ⟨by decide, by decide⟩ d_M_tick_257 (fun r2 u1 hw => ?_)
                          exact j_iret X hlk hr d_M_tick_260 hw
                        · have hw := hw.2 h
                          refine j_iconst X (v := (1 : Int32)) d_M_tick_217 (by decide) ?_
                          refine j_goto X d_M_tick_218 (tgt := 225) (by decide) ?_
                          refine p_33_4 X f_M_108 d_M_tick_225 ?_
                          refine j_aload_n X d_M_tick_228 rfl 0 rfl ?_
                          refine j_aload_n X d_M_tick_229 rfl 0 rfl ?_
                          refine g_33_2 X f_M_92 (v := (s99 33 2)) rfl d_M_tick_230 ?_
                          refine j_iconst X (v := (1 : Int32)) d_M_tick_233 (by decide) ?_
                          refine j_iadd X d_M_tick_234 ?_
                          refine j_bipush X (v := (16 : Int32)) d_M_tick_235 (by decide) ?_
                          refine j_irem X d_M_tick_237 (by decide) ?_
                          refine p_33_2 X f_M_92 d_M_tick_238 ?_
                          refine j_aload_n X d_M_tick_241 rfl 0 rfl ?_
                          refine j_iconst X (v := (0 : Int32)) d_M_tick_242 (by decide) ?_
                          refine j_aload_n X d_M_tick_243 rfl 0 rfl ?_
                          refine g_33_2 X f_M_92 (v := (((s99 33 2) + (1 : Int32)) - ((s99 33 2) + (1 : Int32)) / (16 : Int32) * (16 : Int32))) rfl d_M_tick_244 ?_
                          refine j_bipush X (v := (15 : Int32)) d_M_tick_247 (by decide) ?_
                          refine j_iadd X d_M_tick_249 ?_
                          refine j_bipush X (v := (16 : Int32)) d_M_tick_250 (by decide) ?_
                          refine j_irem X d_M_tick_252 (by decide) ?_
                          refine j_aload_n X d_M_tick_253 rfl 0 rfl ?_
                          refine g_33_11 X f_M_123 (v := (s99 33 11)) rfl d_M_tick_254 ?_
                          refine j_callVi (As := [.int (0 : Int32), .int (((((s99 33 2) + (1 : Int32)) - ((s99 33 2) + (1 : Int32)) / (16 : Int32) * (16 : Int32)) + (15 : Int32)) - ((((s99 33 2) + (1 : Int32)) - ((s99 33 2) + (1 : Int32)) / (16 : Int32) * (16 : Int32)) + (15 : Int32)) / (16 : Int32) * (16 : Int32)), .int (s99 33 11)]) X (c_M_sends l D ca ad sz hD hw) (gcV (n := 3) X rfl rfl rfl gc_M_sends m_M_sends l_M_139 (by decide +kernel) ⟨by decide, by decide⟩) (q0 := 33) rfl rfl (fun _ h => h) rfl rfl (Nat.le_of_ble_eq_true rfl) ⟨by decide, by decide⟩ d_M_tick_257 (fun r4 u3 hw => ?_)
                          exact j_iret X hlk hr d_M_tick_260 hw
                      · have hw := hw.2 h
                        refine j_iconst X (v := (-1 : Int32)) d_M_tick_168 (by decide) ?_
                        exact j_iret X hlk hr d_M_tick_169 hw
                  · have hw := hw.2 h
                    refine j_aload_n X d_M_tick_107 rfl 0 rfl ?_
                    refine g_33_16 X f_M_23 d_M_tick_108 ?_
                    refine j_iload_n X d_M_tick_111 rfl 1 rfl ?_
                    refine ld_35 X hw.1 (v := (s99 35 (Int32.toNatClampNeg v1))) rfl d_M_tick_112 ?_
                    have hw := hw.2
                    refine j_if_eq X d_M_tick_113 (tgt := 144) (by decide) (fun h => ?_) (fun h => ?_)
                    · have hw := hw.1 h
                      refine j_iinc X (v := (1 : Int32)) d_M_tick_144 1 rfl (by decide) (by decide) rfl ?_
                      refine j_goto X d_M_tick_147 (tgt := 99) (by decide) ?_
                      refine j_locs [1, 0] rfl ?_
                      exact ih99 _ _ hw
                    · have hw := hw.2 h
                      refine j_aload_n X d_M_tick_116 rfl 0 rfl ?_
                      refine g_33_16 X f_M_23 d_M_tick_117 ?_
                      refine j_iload_n X d_M_tick_120 rfl 1 rfl ?_
                      refine j_iconst X (v := (0 : Int32)) d_M_tick_121 (by decide) ?_
                      refine sr_35 X hw.1 d_M_tick_122 ?_
                      have hw := hw.2
                      refine j_aload_n X d_M_tick_123 rfl 0 rfl ?_
                      refine j_iconst X (v := (0 : Int32)) d_M_tick_124 (by decide) ?_
                      refine j_aload_n X d_M_tick_125 rfl 0 rfl ?_
                      refine g_33_3 X f_M_95 (v := (s99 33 3)) rfl d_M_tick_126 ?_
                      refine j_iload_n X d_M_tick_129 rfl 1 rfl ?_
                      refine j_iadd X d_M_tick_130 ?_
                      refine j_bipush X (v := (16 : Int32)) d_M_tick_131 (by decide) ?_
                      refine j_irem X d_M_tick_133 (by decide) ?_
                      refine j_aload_n X d_M_tick_134 rfl 0 rfl ?_
                      refine g_33_15 X f_M_19 d_M_tick_135 ?_
                      refine j_iload_n X d_M_tick_138 rfl 1 rfl ?_
                      refine ld_34 X hw.1 (v := (s99 34 (Int32.toNatClampNeg v1))) rfl d_M_tick_139 ?_
                      have hw := hw.2
                      refine j_callVi (As := [.int (0 : Int32), .int (((s99 33 3) + v1) - ((s99 33 3) + v1) / (16 : Int32) * (16 : Int32)), .int (s99 34 (Int32.toNatClampNeg v1))]) X (c_M_sends l D ca ad sz hD hw) (gcV (n := 3) X rfl rfl rfl gc_M_sends m_M_sends l_M_139 (by decide +kernel) ⟨by decide, by decide⟩) (q0 := 33) rfl rfl (fun _ h => h) rfl rfl (Nat.le_of_ble_eq_true rfl) ⟨by decide, by decide⟩ d_M_tick_140 (fun r6 u5 hw => ?_)
                      exact j_iret X hlk hr d_M_tick_143 hw
              obtain ⟨n, hw⟩ := hw
              refine j_locs [1, 0] rfl ?_
              exact lp99 n _ _ hw
            · have hw := hw.2 h
              refine j_iconst X (v := (-1 : Int32)) d_M_tick_95 (by decide) ?_
              exact j_iret X hlk hr d_M_tick_96 hw
        · have hw := hw.2 h
          refine j_aload_n X d_M_tick_41 rfl 0 rfl ?_
          refine g_33_12 X f_M_101 (v := (u9 33 12)) rfl d_M_tick_42 ?_
          refine j_if_eq X d_M_tick_45 (tgt := 79) (by decide) (fun h => ?_) (fun h => ?_)
          · have hw := hw.1 h
            refine j_aload_n X d_M_tick_79 rfl 0 rfl ?_
            refine g_33_1 X f_M_81 (v := (u9 33 1)) rfl d_M_tick_80 ?_
            refine j_iconst X (v := (1 : Int32)) d_M_tick_83 (by decide) ?_
            refine j_icmp_eq X d_M_tick_84 (tgt := 97) (by decide) (fun h => ?_) (fun h => ?_)
            · have hw := hw.1 h
              refine j_iconst X (v := (0 : Int32)) d_M_tick_97 (by decide) ?_
              refine j_istore_n X d_M_tick_98 rfl (by decide) rfl ?_
              have lp99 : ∀ (n : Nat) (v1 : Int32) (s99 : Jst), w_M_tick_L99 K n v1 s99 → J p l e rm_M_tick s m args below meth c D vwCl (wlT ad ca) (Aw sz) 2 0 0 (MQ below (va_Qi K (Jq D vwCl (wlT ad ca)) (Aw sz)) args s 0 0 (Aw sz)) 99 [(0, .ref (ad 33)), (1, .int v1)] [] s99 := by
                intro n
                induction n with
                | zero => intro v1 s99 hw; exact (show False from hw).elim
                | succ n ih99 =>
                  intro v1 s99 hw
                  rw [w_M_tick_L99] at hw
                  refine j_iload_n X d_M_tick_99 rfl 1 rfl ?_
                  refine j_aload_n X d_M_tick_100 rfl 0 rfl ?_
                  refine g_33_14 X f_M_114 (v := (s99 33 14)) rfl d_M_tick_101 ?_
                  refine j_icmp_ge X d_M_tick_104 (tgt := 150) (by decide) (fun h => ?_) (fun h => ?_)
                  · have hw := hw.1 h
                    refine j_aload_n X d_M_tick_150 rfl 0 rfl ?_
                    refine g_33_10 X f_M_117 (v := (s99 33 10)) rfl d_M_tick_151 ?_
                    refine j_if_eq X d_M_tick_154 (tgt := 168) (by decide) (fun h => ?_) (fun h => ?_)
                    · have hw := hw.1 h
                      refine j_iconst X (v := (-1 : Int32)) d_M_tick_168 (by decide) ?_
                      exact j_iret X hlk hr d_M_tick_169 hw
                    · have hw := hw.2 h
                      refine j_aload_n X d_M_tick_157 rfl 0 rfl ?_
                      refine g_33_14 X f_M_114 (v := (s99 33 14)) rfl d_M_tick_158 ?_
                      refine j_aload_n X d_M_tick_161 rfl 0 rfl ?_
                      refine g_33_7 X f_M_7 (v := (s99 33 7)) rfl d_M_tick_162 ?_
                      refine j_icmp_lt X d_M_tick_165 (tgt := 170) (by decide) (fun h => ?_) (fun h => ?_)
                      · have hw := hw.1 h
                        refine j_aload_n X d_M_tick_170 rfl 0 rfl ?_
                        refine g_33_15 X f_M_19 d_M_tick_171 ?_
                        refine j_aload_n X d_M_tick_174 rfl 0 rfl ?_
                        refine g_33_14 X f_M_114 (v := (s99 33 14)) rfl d_M_tick_175 ?_
                        refine j_aload_n X d_M_tick_178 rfl 0 rfl ?_
                        refine g_33_11 X f_M_123 (v := (s99 33 11)) rfl d_M_tick_179 ?_
                        refine sr_34 X hw.1 d_M_tick_182 ?_
                        have hw := hw.2
                        refine j_aload_n X d_M_tick_183 rfl 0 rfl ?_
                        refine g_33_16 X f_M_23 d_M_tick_184 ?_
                        refine j_aload_n X d_M_tick_187 rfl 0 rfl ?_
                        refine g_33_14 X f_M_114 (v := (s99 33 14)) rfl d_M_tick_188 ?_
                        refine j_iconst X (v := (0 : Int32)) d_M_tick_191 (by decide) ?_
                        refine sr_35 X hw.1 d_M_tick_192 ?_
                        have hw := hw.2
                        refine j_aload_n X d_M_tick_193 rfl 0 rfl ?_
                        refine j_dup X d_M_tick_194 rfl ?_
                        refine g_33_14 X f_M_114 (v := (s99 33 14)) rfl d_M_tick_195 ?_
                        refine j_iconst X (v := (1 : Int32)) d_M_tick_198 (by decide) ?_
                        refine j_iadd X d_M_tick_199 ?_
                        refine p_33_14 X f_M_114 d_M_tick_200 ?_
                        refine j_aload_n X d_M_tick_203 rfl 0 rfl ?_
                        refine j_iconst X (v := (0 : Int32)) d_M_tick_204 (by decide) ?_
                        refine p_33_10 X f_M_117 rfl rfl d_M_tick_205 ?_
                        refine j_aload_n X d_M_tick_208 rfl 0 rfl ?_
                        refine j_aload_n X d_M_tick_209 rfl 0 rfl ?_
                        refine g_33_14 X f_M_114 (v := ((s99 33 14) + (1 : Int32))) rfl d_M_tick_210 ?_
                        refine j_iconst X (v := (1 : Int32)) d_M_tick_213 (by decide) ?_
                        refine j_icmp_ne X d_M_tick_214 (tgt := 221) (by decide) (fun h => ?_) (fun h => ?_)
                        · have hw := hw.1 h
                          refine j_aload_n X d_M_tick_221 rfl 0 rfl ?_
                          refine g_33_4 X f_M_108 (v := (s99 33 4)) rfl d_M_tick_222 ?_
                          refine p_33_4 X f_M_108 d_M_tick_225 ?_
                          refine j_aload_n X d_M_tick_228 rfl 0 rfl ?_
                          refine j_aload_n X d_M_tick_229 rfl 0 rfl ?_
                          refine g_33_2 X f_M_92 (v := (s99 33 2)) rfl d_M_tick_230 ?_
                          refine j_iconst X (v := (1 : Int32)) d_M_tick_233 (by decide) ?_
                          refine j_iadd X d_M_tick_234 ?_
                          refine j_bipush X (v := (16 : Int32)) d_M_tick_235 (by decide) ?_
                          refine j_irem X d_M_tick_237 (by decide) ?_
                          refine p_33_2 X f_M_92 d_M_tick_238 ?_
                          refine j_aload_n X d_M_tick_241 rfl 0 rfl ?_
                          refine j_iconst X (v := (0 : Int32)) d_M_tick_242 (by decide) ?_
                          refine j_aload_n X d_M_tick_243 rfl 0 rfl ?_
                          refine g_33_2 X f_M_92 (v := (((s99 33 2) + (1 : Int32)) - ((s99 33 2) + (1 : Int32)) / (16 : Int32) * (16 : Int32))) rfl d_M_tick_244 ?_
                          refine j_bipush X (v := (15 : Int32)) d_M_tick_247 (by decide) ?_
                          refine j_iadd X d_M_tick_249 ?_
                          refine j_bipush X (v := (16 : Int32)) d_M_tick_250 (by decide) ?_
                          refine j_irem X d_M_tick_252 (by decide) ?_
                          refine j_aload_n X d_M_tick_253 rfl 0 rfl ?_
                          refine g_33_11 X f_M_123 (v := (s99 33 11)) rfl d_M_tick_254 ?_
                          refine j_callVi (As := [.int (0 : Int32), .int (((((s99 33 2) + (1 : Int32)) - ((s99 33 2) + (1 : Int32)) / (16 : Int32) * (16 : Int32)) + (15 : Int32)) - ((((s99 33 2) + (1 : Int32)) - ((s99 33 2) + (1 : Int32)) / (16 : Int32) * (16 : Int32)) + (15 : Int32)) / (16 : Int32) * (16 : Int32)), .int (s99 33 11)]) X (c_M_sends l D ca ad sz hD hw) (gcV (n := 3) X rfl rfl rfl gc_M_sends m_M_sends l_M_139 (by decide +kernel) ⟨by decide, by decide⟩) (q0 := 33) rfl rfl (fun _ h => h) rfl rfl (Nat.le_of_ble_eq_true rfl) ⟨by decide, by decide⟩ d_M_tick_257 (fun r2 u1 hw => ?_)
                          exact j_iret X hlk hr d_M_tick_260 hw
                        · have hw := hw.2 h
                          refine j_iconst X (v := (1 : Int32)) d_M_tick_217 (by decide) ?_
                          refine j_goto X d_M_tick_218 (tgt := 225) (by decide) ?_
                          refine p_33_4 X f_M_108 d_M_tick_225 ?_
                          refine j_aload_n X d_M_tick_228 rfl 0 rfl ?_
                          refine j_aload_n X d_M_tick_229 rfl 0 rfl ?_
                          refine g_33_2 X f_M_92 (v := (s99 33 2)) rfl d_M_tick_230 ?_
                          refine j_iconst X (v := (1 : Int32)) d_M_tick_233 (by decide) ?_
                          refine j_iadd X d_M_tick_234 ?_
                          refine j_bipush X (v := (16 : Int32)) d_M_tick_235 (by decide) ?_
                          refine j_irem X d_M_tick_237 (by decide) ?_
                          refine p_33_2 X f_M_92 d_M_tick_238 ?_
                          refine j_aload_n X d_M_tick_241 rfl 0 rfl ?_
                          refine j_iconst X (v := (0 : Int32)) d_M_tick_242 (by decide) ?_
                          refine j_aload_n X d_M_tick_243 rfl 0 rfl ?_
                          refine g_33_2 X f_M_92 (v := (((s99 33 2) + (1 : Int32)) - ((s99 33 2) + (1 : Int32)) / (16 : Int32) * (16 : Int32))) rfl d_M_tick_244 ?_
                          refine j_bipush X (v := (15 : Int32)) d_M_tick_247 (by decide) ?_
                          refine j_iadd X d_M_tick_249 ?_
                          refine j_bipush X (v := (16 : Int32)) d_M_tick_250 (by decide) ?_
                          refine j_irem X d_M_tick_252 (by decide) ?_
                          refine j_aload_n X d_M_tick_253 rfl 0 rfl ?_
                          refine g_33_11 X f_M_123 (v := (s99 33 11)) rfl d_M_tick_254 ?_
                          refine j_callVi (As := [.int (0 : Int32), .int (((((s99 33 2) + (1 : Int32)) - ((s99 33 2) + (1 : Int32)) / (16 : Int32) * (16 : Int32)) + (15 : Int32)) - ((((s99 33 2) + (1 : Int32)) - ((s99 33 2) + (1 : Int32)) / (16 : Int32) * (16 : Int32)) + (15 : Int32)) / (16 : Int32) * (16 : Int32)), .int (s99 33 11)]) X (c_M_sends l D ca ad sz hD hw) (gcV (n := 3) X rfl rfl rfl gc_M_sends m_M_sends l_M_139 (by decide +kernel) ⟨by decide, by decide⟩) (q0 := 33) rfl rfl (fun _ h => h) rfl rfl (Nat.le_of_ble_eq_true rfl) ⟨by decide, by decide⟩ d_M_tick_257 (fun r4 u3 hw => ?_)
                          exact j_iret X hlk hr d_M_tick_260 hw
                      · have hw := hw.2 h
                        refine j_iconst X (v := (-1 : Int32)) d_M_tick_168 (by decide) ?_
                        exact j_iret X hlk hr d_M_tick_169 hw
                  · have hw := hw.2 h
                    refine j_aload_n X d_M_tick_107 rfl 0 rfl ?_
                    refine g_33_16 X f_M_23 d_M_tick_108 ?_
                    refine j_iload_n X d_M_tick_111 rfl 1 rfl ?_
                    refine ld_35 X hw.1 (v := (s99 35 (Int32.toNatClampNeg v1))) rfl d_M_tick_112 ?_
                    have hw := hw.2
                    refine j_if_eq X d_M_tick_113 (tgt := 144) (by decide) (fun h => ?_) (fun h => ?_)
                    · have hw := hw.1 h
                      refine j_iinc X (v := (1 : Int32)) d_M_tick_144 1 rfl (by decide) (by decide) rfl ?_
                      refine j_goto X d_M_tick_147 (tgt := 99) (by decide) ?_
                      refine j_locs [1, 0] rfl ?_
                      exact ih99 _ _ hw
                    · have hw := hw.2 h
                      refine j_aload_n X d_M_tick_116 rfl 0 rfl ?_
                      refine g_33_16 X f_M_23 d_M_tick_117 ?_
                      refine j_iload_n X d_M_tick_120 rfl 1 rfl ?_
                      refine j_iconst X (v := (0 : Int32)) d_M_tick_121 (by decide) ?_
                      refine sr_35 X hw.1 d_M_tick_122 ?_
                      have hw := hw.2
                      refine j_aload_n X d_M_tick_123 rfl 0 rfl ?_
                      refine j_iconst X (v := (0 : Int32)) d_M_tick_124 (by decide) ?_
                      refine j_aload_n X d_M_tick_125 rfl 0 rfl ?_
                      refine g_33_3 X f_M_95 (v := (s99 33 3)) rfl d_M_tick_126 ?_
                      refine j_iload_n X d_M_tick_129 rfl 1 rfl ?_
                      refine j_iadd X d_M_tick_130 ?_
                      refine j_bipush X (v := (16 : Int32)) d_M_tick_131 (by decide) ?_
                      refine j_irem X d_M_tick_133 (by decide) ?_
                      refine j_aload_n X d_M_tick_134 rfl 0 rfl ?_
                      refine g_33_15 X f_M_19 d_M_tick_135 ?_
                      refine j_iload_n X d_M_tick_138 rfl 1 rfl ?_
                      refine ld_34 X hw.1 (v := (s99 34 (Int32.toNatClampNeg v1))) rfl d_M_tick_139 ?_
                      have hw := hw.2
                      refine j_callVi (As := [.int (0 : Int32), .int (((s99 33 3) + v1) - ((s99 33 3) + v1) / (16 : Int32) * (16 : Int32)), .int (s99 34 (Int32.toNatClampNeg v1))]) X (c_M_sends l D ca ad sz hD hw) (gcV (n := 3) X rfl rfl rfl gc_M_sends m_M_sends l_M_139 (by decide +kernel) ⟨by decide, by decide⟩) (q0 := 33) rfl rfl (fun _ h => h) rfl rfl (Nat.le_of_ble_eq_true rfl) ⟨by decide, by decide⟩ d_M_tick_140 (fun r6 u5 hw => ?_)
                      exact j_iret X hlk hr d_M_tick_143 hw
              obtain ⟨n, hw⟩ := hw
              refine j_locs [1, 0] rfl ?_
              exact lp99 n _ _ hw
            · have hw := hw.2 h
              refine j_aload_n X d_M_tick_87 rfl 0 rfl ?_
              refine g_33_1 X f_M_81 (v := (u9 33 1)) rfl d_M_tick_88 ?_
              refine j_iconst X (v := (2 : Int32)) d_M_tick_91 (by decide) ?_
              refine j_icmp_eq X d_M_tick_92 (tgt := 97) (by decide) (fun h => ?_) (fun h => ?_)
              · have hw := hw.1 h
                refine j_iconst X (v := (0 : Int32)) d_M_tick_97 (by decide) ?_
                refine j_istore_n X d_M_tick_98 rfl (by decide) rfl ?_
                have lp99 : ∀ (n : Nat) (v1 : Int32) (s99 : Jst), w_M_tick_L99 K n v1 s99 → J p l e rm_M_tick s m args below meth c D vwCl (wlT ad ca) (Aw sz) 2 0 0 (MQ below (va_Qi K (Jq D vwCl (wlT ad ca)) (Aw sz)) args s 0 0 (Aw sz)) 99 [(0, .ref (ad 33)), (1, .int v1)] [] s99 := by
                  intro n
                  induction n with
                  | zero => intro v1 s99 hw; exact (show False from hw).elim
                  | succ n ih99 =>
                    intro v1 s99 hw
                    rw [w_M_tick_L99] at hw
                    refine j_iload_n X d_M_tick_99 rfl 1 rfl ?_
                    refine j_aload_n X d_M_tick_100 rfl 0 rfl ?_
                    refine g_33_14 X f_M_114 (v := (s99 33 14)) rfl d_M_tick_101 ?_
                    refine j_icmp_ge X d_M_tick_104 (tgt := 150) (by decide) (fun h => ?_) (fun h => ?_)
                    · have hw := hw.1 h
                      refine j_aload_n X d_M_tick_150 rfl 0 rfl ?_
                      refine g_33_10 X f_M_117 (v := (s99 33 10)) rfl d_M_tick_151 ?_
                      refine j_if_eq X d_M_tick_154 (tgt := 168) (by decide) (fun h => ?_) (fun h => ?_)
                      · have hw := hw.1 h
                        refine j_iconst X (v := (-1 : Int32)) d_M_tick_168 (by decide) ?_
                        exact j_iret X hlk hr d_M_tick_169 hw
                      · have hw := hw.2 h
                        refine j_aload_n X d_M_tick_157 rfl 0 rfl ?_
                        refine g_33_14 X f_M_114 (v := (s99 33 14)) rfl d_M_tick_158 ?_
                        refine j_aload_n X d_M_tick_161 rfl 0 rfl ?_
                        refine g_33_7 X f_M_7 (v := (s99 33 7)) rfl d_M_tick_162 ?_
                        refine j_icmp_lt X d_M_tick_165 (tgt := 170) (by decide) (fun h => ?_) (fun h => ?_)
                        · have hw := hw.1 h
                          refine j_aload_n X d_M_tick_170 rfl 0 rfl ?_
                          refine g_33_15 X f_M_19 d_M_tick_171 ?_
                          refine j_aload_n X d_M_tick_174 rfl 0 rfl ?_
                          refine g_33_14 X f_M_114 (v := (s99 33 14)) rfl d_M_tick_175 ?_
                          refine j_aload_n X d_M_tick_178 rfl 0 rfl ?_
                          refine g_33_11 X f_M_123 (v := (s99 33 11)) rfl d_M_tick_179 ?_
                          refine sr_34 X hw.1 d_M_tick_182 ?_
                          have hw := hw.2
                          refine j_aload_n X d_M_tick_183 rfl 0 rfl ?_
                          refine g_33_16 X f_M_23 d_M_tick_184 ?_
                          refine j_aload_n X d_M_tick_187 rfl 0 rfl ?_
                          refine g_33_14 X f_M_114 (v := (s99 33 14)) rfl d_M_tick_188 ?_
                          refine j_iconst X (v := (0 : Int32)) d_M_tick_191 (by decide) ?_
                          refine sr_35 X hw.1 d_M_tick_192 ?_
                          have hw := hw.2
                          refine j_aload_n X d_M_tick_193 rfl 0 rfl ?_
                          refine j_dup X d_M_tick_194 rfl ?_
                          refine g_33_14 X f_M_114 (v := (s99 33 14)) rfl d_M_tick_195 ?_
                          refine j_iconst X (v := (1 : Int32)) d_M_tick_198 (by decide) ?_
                          refine j_iadd X d_M_tick_199 ?_
                          refine p_33_14 X f_M_114 d_M_tick_200 ?_
                          refine j_aload_n X d_M_tick_203 rfl 0 rfl ?_
                          refine j_iconst X (v := (0 : Int32)) d_M_tick_204 (by decide) ?_
                          refine p_33_10 X f_M_117 rfl rfl d_M_tick_205 ?_
                          refine j_aload_n X d_M_tick_208 rfl 0 rfl ?_
                          refine j_aload_n X d_M_tick_209 rfl 0 rfl ?_
                          refine g_33_14 X f_M_114 (v := ((s99 33 14) + (1 : Int32))) rfl d_M_tick_210 ?_
                          refine j_iconst X (v := (1 : Int32)) d_M_tick_213 (by decide) ?_
                          refine j_icmp_ne X d_M_tick_214 (tgt := 221) (by decide) (fun h => ?_) (fun h => ?_)
                          · have hw := hw.1 h
                            refine j_aload_n X d_M_tick_221 rfl 0 rfl ?_
                            refine g_33_4 X f_M_108 (v := (s99 33 4)) rfl d_M_tick_222 ?_
                            refine p_33_4 X f_M_108 d_M_tick_225 ?_
                            refine j_aload_n X d_M_tick_228 rfl 0 rfl ?_
                            refine j_aload_n X d_M_tick_229 rfl 0 rfl ?_
                            refine g_33_2 X f_M_92 (v := (s99 33 2)) rfl d_M_tick_230 ?_
                            refine j_iconst X (v := (1 : Int32)) d_M_tick_233 (by decide) ?_
                            refine j_iadd X d_M_tick_234 ?_
                            refine j_bipush X (v := (16 : Int32)) d_M_tick_235 (by decide) ?_
                            refine j_irem X d_M_tick_237 (by decide) ?_
                            refine p_33_2 X f_M_92 d_M_tick_238 ?_
                            refine j_aload_n X d_M_tick_241 rfl 0 rfl ?_
                            refine j_iconst X (v := (0 : Int32)) d_M_tick_242 (by decide) ?_
                            refine j_aload_n X d_M_tick_243 rfl 0 rfl ?_
                            refine g_33_2 X f_M_92 (v := (((s99 33 2) + (1 : Int32)) - ((s99 33 2) + (1 : Int32)) / (16 : Int32) * (16 : Int32))) rfl d_M_tick_244 ?_
                            refine j_bipush X (v := (15 : Int32)) d_M_tick_247 (by decide) ?_
                            refine j_iadd X d_M_tick_249 ?_
                            refine j_bipush X (v := (16 : Int32)) d_M_tick_250 (by decide) ?_
                            refine j_irem X d_M_tick_252 (by decide) ?_
                            refine j_aload_n X d_M_tick_253 rfl 0 rfl ?_
                            refine g_33_11 X f_M_123 (v := (s99 33 11)) rfl d_M_tick_254 ?_
                            refine j_callVi (As := [.int (0 : Int32), .int (((((s99 33 2) + (1 : Int32)) - ((s99 33 2) + (1 : Int32)) / (16 : Int32) * (16 : Int32)) + (15 : Int32)) - ((((s99 33 2) + (1 : Int32)) - ((s99 33 2) + (1 : Int32)) / (16 : Int32) * (16 : Int32)) + (15 : Int32)) / (16 : Int32) * (16 : Int32)), .int (s99 33 11)]) X (c_M_sends l D ca ad sz hD hw) (gcV (n := 3) X rfl rfl rfl gc_M_sends m_M_sends l_M_139 (by decide +kernel) ⟨by decide, by decide⟩) (q0 := 33) rfl rfl (fun _ h => h) rfl rfl (Nat.le_of_ble_eq_true rfl) ⟨by decide, by decide⟩ d_M_tick_257 (fun r2 u1 hw => ?_)
                            exact j_iret X hlk hr d_M_tick_260 hw
                          · have hw := hw.2 h
                            refine j_iconst X (v := (1 : Int32)) d_M_tick_217 (by decide) ?_
                            refine j_goto X d_M_tick_218 (tgt := 225) (by decide) ?_
                            refine p_33_4 X f_M_108 d_M_tick_225 ?_
                            refine j_aload_n X d_M_tick_228 rfl 0 rfl ?_
                            refine j_aload_n X d_M_tick_229 rfl 0 rfl ?_
                            refine g_33_2 X f_M_92 (v := (s99 33 2)) rfl d_M_tick_230 ?_
                            refine j_iconst X (v := (1 : Int32)) d_M_tick_233 (by decide) ?_
                            refine j_iadd X d_M_tick_234 ?_
                            refine j_bipush X (v := (16 : Int32)) d_M_tick_235 (by decide) ?_
                            refine j_irem X d_M_tick_237 (by decide) ?_
                            refine p_33_2 X f_M_92 d_M_tick_238 ?_
                            refine j_aload_n X d_M_tick_241 rfl 0 rfl ?_
                            refine j_iconst X (v := (0 : Int32)) d_M_tick_242 (by decide) ?_
                            refine j_aload_n X d_M_tick_243 rfl 0 rfl ?_
                            refine g_33_2 X f_M_92 (v := (((s99 33 2) + (1 : Int32)) - ((s99 33 2) + (1 : Int32)) / (16 : Int32) * (16 : Int32))) rfl d_M_tick_244 ?_
                            refine j_bipush X (v := (15 : Int32)) d_M_tick_247 (by decide) ?_
                            refine j_iadd X d_M_tick_249 ?_
                            refine j_bipush X (v := (16 : Int32)) d_M_tick_250 (by decide) ?_
                            refine j_irem X d_M_tick_252 (by decide) ?_
                            refine j_aload_n X d_M_tick_253 rfl 0 rfl ?_
                            refine g_33_11 X f_M_123 (v := (s99 33 11)) rfl d_M_tick_254 ?_
                            refine j_callVi (As := [.int (0 : Int32), .int (((((s99 33 2) + (1 : Int32)) - ((s99 33 2) + (1 : Int32)) / (16 : Int32) * (16 : Int32)) + (15 : Int32)) - ((((s99 33 2) + (1 : Int32)) - ((s99 33 2) + (1 : Int32)) / (16 : Int32) * (16 : Int32)) + (15 : Int32)) / (16 : Int32) * (16 : Int32)), .int (s99 33 11)]) X (c_M_sends l D ca ad sz hD hw) (gcV (n := 3) X rfl rfl rfl gc_M_sends m_M_sends l_M_139 (by decide +kernel) ⟨by decide, by decide⟩) (q0 := 33) rfl rfl (fun _ h => h) rfl rfl (Nat.le_of_ble_eq_true rfl) ⟨by decide, by decide⟩ d_M_tick_257 (fun r4 u3 hw => ?_)
                            exact j_iret X hlk hr d_M_tick_260 hw
                        · have hw := hw.2 h
                          refine j_iconst X (v := (-1 : Int32)) d_M_tick_168 (by decide) ?_
                          exact j_iret X hlk hr d_M_tick_169 hw
                    · have hw := hw.2 h
                      refine j_aload_n X d_M_tick_107 rfl 0 rfl ?_
                      refine g_33_16 X f_M_23 d_M_tick_108 ?_
                      refine j_iload_n X d_M_tick_111 rfl 1 rfl ?_
                      refine ld_35 X hw.1 (v := (s99 35 (Int32.toNatClampNeg v1))) rfl d_M_tick_112 ?_
                      have hw := hw.2
                      refine j_if_eq X d_M_tick_113 (tgt := 144) (by decide) (fun h => ?_) (fun h => ?_)
                      · have hw := hw.1 h
                        refine j_iinc X (v := (1 : Int32)) d_M_tick_144 1 rfl (by decide) (by decide) rfl ?_
                        refine j_goto X d_M_tick_147 (tgt := 99) (by decide) ?_
                        refine j_locs [1, 0] rfl ?_
                        exact ih99 _ _ hw
                      · have hw := hw.2 h
                        refine j_aload_n X d_M_tick_116 rfl 0 rfl ?_
                        refine g_33_16 X f_M_23 d_M_tick_117 ?_
                        refine j_iload_n X d_M_tick_120 rfl 1 rfl ?_
                        refine j_iconst X (v := (0 : Int32)) d_M_tick_121 (by decide) ?_
                        refine sr_35 X hw.1 d_M_tick_122 ?_
                        have hw := hw.2
                        refine j_aload_n X d_M_tick_123 rfl 0 rfl ?_
                        refine j_iconst X (v := (0 : Int32)) d_M_tick_124 (by decide) ?_
                        refine j_aload_n X d_M_tick_125 rfl 0 rfl ?_
                        refine g_33_3 X f_M_95 (v := (s99 33 3)) rfl d_M_tick_126 ?_
                        refine j_iload_n X d_M_tick_129 rfl 1 rfl ?_
                        refine j_iadd X d_M_tick_130 ?_
                        refine j_bipush X (v := (16 : Int32)) d_M_tick_131 (by decide) ?_
                        refine j_irem X d_M_tick_133 (by decide) ?_
                        refine j_aload_n X d_M_tick_134 rfl 0 rfl ?_
                        refine g_33_15 X f_M_19 d_M_tick_135 ?_
                        refine j_iload_n X d_M_tick_138 rfl 1 rfl ?_
                        refine ld_34 X hw.1 (v := (s99 34 (Int32.toNatClampNeg v1))) rfl d_M_tick_139 ?_
                        have hw := hw.2
                        refine j_callVi (As := [.int (0 : Int32), .int (((s99 33 3) + v1) - ((s99 33 3) + v1) / (16 : Int32) * (16 : Int32)), .int (s99 34 (Int32.toNatClampNeg v1))]) X (c_M_sends l D ca ad sz hD hw) (gcV (n := 3) X rfl rfl rfl gc_M_sends m_M_sends l_M_139 (by decide +kernel) ⟨by decide, by decide⟩) (q0 := 33) rfl rfl (fun _ h => h) rfl rfl (Nat.le_of_ble_eq_true rfl) ⟨by decide, by decide⟩ d_M_tick_140 (fun r6 u5 hw => ?_)
                        exact j_iret X hlk hr d_M_tick_143 hw
                obtain ⟨n, hw⟩ := hw
                refine j_locs [1, 0] rfl ?_
                exact lp99 n _ _ hw
              · have hw := hw.2 h
                refine j_iconst X (v := (-1 : Int32)) d_M_tick_95 (by decide) ?_
                exact j_iret X hlk hr d_M_tick_96 hw
          · have hw := hw.2 h
            refine j_aload_n X d_M_tick_48 rfl 0 rfl ?_
            refine j_iconst X (v := (0 : Int32)) d_M_tick_49 (by decide) ?_
            refine p_33_12 X f_M_101 rfl rfl d_M_tick_50 ?_
            refine j_aload_n X d_M_tick_53 rfl 0 rfl ?_
            refine j_aload_n X d_M_tick_54 rfl 0 rfl ?_
            refine g_33_13 X f_M_105 (v := (u9 33 13)) rfl d_M_tick_55 ?_
            refine j_aload_n X d_M_tick_58 rfl 0 rfl ?_
            refine g_33_13 X f_M_105 (v := (u9 33 13)) rfl d_M_tick_59 ?_
            refine j_iconst X (v := (2 : Int32)) d_M_tick_62 (by decide) ?_
            refine j_icmp_ne X d_M_tick_63 (tgt := 73) (by decide) (fun h => ?_) (fun h => ?_)
            · have hw := hw.1 h
              refine j_iconst X (v := (0 : Int32)) d_M_tick_73 (by decide) ?_
              refine j_iconst X (v := (0 : Int32)) d_M_tick_74 (by decide) ?_
              refine j_callVi (As := [.int (u9 33 13), .int (0 : Int32), .int (0 : Int32)]) X (c_M_sends l D ca ad sz hD hw) (gcV (n := 3) X rfl rfl rfl gc_M_sends m_M_sends l_M_139 (by decide +kernel) ⟨by decide, by decide⟩) (q0 := 33) rfl rfl (fun _ h => h) rfl rfl (Nat.le_of_ble_eq_true rfl) ⟨by decide, by decide⟩ d_M_tick_75 (fun r11 u10 hw => ?_)
              exact j_iret X hlk hr d_M_tick_78 hw
            · have hw := hw.2 h
              refine j_aload_n X d_M_tick_66 rfl 0 rfl ?_
              refine g_33_2 X f_M_92 (v := (u9 33 2)) rfl d_M_tick_67 ?_
              refine j_goto X d_M_tick_70 (tgt := 74) (by decide) ?_
              refine j_iconst X (v := (0 : Int32)) d_M_tick_74 (by decide) ?_
              refine j_callVi (As := [.int (u9 33 13), .int (u9 33 2), .int (0 : Int32)]) X (c_M_sends l D ca ad sz hD hw) (gcV (n := 3) X rfl rfl rfl gc_M_sends m_M_sends l_M_139 (by decide +kernel) ⟨by decide, by decide⟩) (q0 := 33) rfl rfl (fun _ h => h) rfl rfl (Nat.le_of_ble_eq_true rfl) ⟨by decide, by decide⟩ d_M_tick_75 (fun r13 u12 hw => ?_)
              exact j_iret X hlk hr d_M_tick_78 hw
  exact hX
def w_M_out_L2 (K : Jst → Prop) : Nat → Int32 → Int32 → Jst → Prop
  | 0, _, _, _ => False
  | n + 1, v1, v2, s2 => (((s2 33 17) ≤ (v2 + (1 : Int32)) → K (jup s2 33 17 ((s2 33 17) - (1 : Int32)))) ∧ (¬ (s2 33 17) ≤ (v2 + (1 : Int32)) → (vp_in (v2 + (1 : Int32)) 20 ∧ (vp_in v2 20 ∧ (vp_in (v2 + (1 : Int32)) 20 ∧ (vp_in v2 20 ∧ (vp_in (v2 + (1 : Int32)) 20 ∧ (vp_in v2 20 ∧ w_M_out_L2 K n v1 (v2 + (1 : Int32)) (jup (jup (jup s2 36 (Int32.toNatClampNeg v2) (s2 36 (Int32.toNatClampNeg (v2 + (1 : Int32))))) 37 (Int32.toNatClampNeg v2) (s2 37 (Int32.toNatClampNeg (v2 + (1 : Int32))))) 38 (Int32.toNatClampNeg v2) (s2 38 (Int32.toNatClampNeg (v2 + (1 : Int32)))))))))))))
def w_M_out (a1 : Int32) (σ : Jst) (K : Jst → Prop) : Prop := (∃ n, w_M_out_L2 K n a1 a1 σ)
abbrev rm_M_out : Room := { frames := 0, cells := 0, slots := 0, locals := 0 }
set_option maxRecDepth 100000 in
set_option maxHeartbeats 4000000 in
theorem c_M_out (l : Launch) (D : va_G) (ca ad : Nat → Nat) (sz : Nat) (hD : Jd ca ad sz) {a1 : Int32} {σ : Jst} {K : Jst → Prop} (hw : w_M_out a1 σ K) : Met l y_M_out (wG y_M_out b_M_out 3 none) rm_M_out (va_Pc [.ref (ad 33), .int a1] (Jw D vwCl (tysT ca) (wlT ad ca) (NwT sz) σ)) (va_Qv K (Jq D vwCl (wlT ad ca)) (Aw sz)) 0 0 (Aw sz) := by
  refine j_met (cc := b_M_out) (own := R_M) (by decide +kernel) rfl (Nat.le_of_ble_eq_true rfl) rfl hD (nwT_k sz) ?_
  intro p e s m args below meth c X hlk hr
  have hX : J p l e rm_M_out s m args below meth c D vwCl (wlT ad ca) (Aw sz) 3 0 0 (MQ below (va_Qv K (Jq D vwCl (wlT ad ca)) (Aw sz)) args s 0 0 (Aw sz)) 0 [(0, .ref (ad 33)), (1, .int a1)] [] σ := by
    unfold w_M_out at hw
    refine j_iload_n X d_M_out_0 rfl 1 rfl ?_
    refine j_istore_n X d_M_out_1 rfl (by decide) rfl ?_
    have lp2 : ∀ (n : Nat) (v1 v2 : Int32) (s2 : Jst), w_M_out_L2 K n v1 v2 s2 → J p l e rm_M_out s m args below meth c D vwCl (wlT ad ca) (Aw sz) 3 0 0 (MQ below (va_Qv K (Jq D vwCl (wlT ad ca)) (Aw sz)) args s 0 0 (Aw sz)) 2 [(0, .ref (ad 33)), (1, .int v1), (2, .int v2)] [] s2 := by
      intro n
      induction n with
      | zero => intro v1 v2 s2 hw; exact (show False from hw).elim
      | succ n ih2 =>
        intro v1 v2 s2 hw
        rw [w_M_out_L2] at hw
        refine j_iload_n X d_M_out_2 rfl 2 rfl ?_
        refine j_iconst X (v := (1 : Int32)) d_M_out_3 (by decide) ?_
        refine j_iadd X d_M_out_4 ?_
        refine j_aload_n X d_M_out_5 rfl 0 rfl ?_
        refine g_33_17 X f_M_130 (v := (s2 33 17)) rfl d_M_out_6 ?_
        refine j_icmp_ge X d_M_out_9 (tgt := 60) (by decide) (fun h => ?_) (fun h => ?_)
        · have hw := hw.1 h
          refine j_aload_n X d_M_out_60 rfl 0 rfl ?_
          refine j_dup X d_M_out_61 rfl ?_
          refine g_33_17 X f_M_130 (v := (s2 33 17)) rfl d_M_out_62 ?_
          refine j_iconst X (v := (1 : Int32)) d_M_out_65 (by decide) ?_
          refine j_isub X d_M_out_66 ?_
          refine p_33_17 X f_M_130 d_M_out_67 ?_
          exact j_vret X hlk hr d_M_out_70 hw
        · have hw := hw.2 h
          refine j_aload_n X d_M_out_12 rfl 0 rfl ?_
          refine g_33_18 X f_M_27 d_M_out_13 ?_
          refine j_iload_n X d_M_out_16 rfl 2 rfl ?_
          refine j_aload_n X d_M_out_17 rfl 0 rfl ?_
          refine g_33_18 X f_M_27 d_M_out_18 ?_
          refine j_iload_n X d_M_out_21 rfl 2 rfl ?_
          refine j_iconst X (v := (1 : Int32)) d_M_out_22 (by decide) ?_
          refine j_iadd X d_M_out_23 ?_
          refine ld_36 X hw.1 (v := (s2 36 (Int32.toNatClampNeg (v2 + (1 : Int32))))) rfl d_M_out_24 ?_
          have hw := hw.2
          refine sr_36 X hw.1 d_M_out_25 ?_
          have hw := hw.2
          refine j_aload_n X d_M_out_26 rfl 0 rfl ?_
          refine g_33_19 X f_M_30 d_M_out_27 ?_
          refine j_iload_n X d_M_out_30 rfl 2 rfl ?_
          refine j_aload_n X d_M_out_31 rfl 0 rfl ?_
          refine g_33_19 X f_M_30 d_M_out_32 ?_
          refine j_iload_n X d_M_out_35 rfl 2 rfl ?_
          refine j_iconst X (v := (1 : Int32)) d_M_out_36 (by decide) ?_
          refine j_iadd X d_M_out_37 ?_
          refine ld_37 X hw.1 (v := (s2 37 (Int32.toNatClampNeg (v2 + (1 : Int32))))) rfl d_M_out_38 ?_
          have hw := hw.2
          refine sr_37 X hw.1 d_M_out_39 ?_
          have hw := hw.2
          refine j_aload_n X d_M_out_40 rfl 0 rfl ?_
          refine g_33_20 X f_M_33 d_M_out_41 ?_
          refine j_iload_n X d_M_out_44 rfl 2 rfl ?_
          refine j_aload_n X d_M_out_45 rfl 0 rfl ?_
          refine g_33_20 X f_M_33 d_M_out_46 ?_
          refine j_iload_n X d_M_out_49 rfl 2 rfl ?_
          refine j_iconst X (v := (1 : Int32)) d_M_out_50 (by decide) ?_
          refine j_iadd X d_M_out_51 ?_
          refine ld_38 X hw.1 (v := (s2 38 (Int32.toNatClampNeg (v2 + (1 : Int32))))) rfl d_M_out_52 ?_
          have hw := hw.2
          refine sr_38 X hw.1 d_M_out_53 ?_
          have hw := hw.2
          refine j_iinc X (v := (1 : Int32)) d_M_out_54 2 rfl (by decide) (by decide) rfl ?_
          refine j_goto X d_M_out_57 (tgt := 2) (by decide) ?_
          refine j_locs [1, 2, 0] rfl ?_
          exact ih2 _ _ _ hw
    obtain ⟨n, hw⟩ := hw
    refine j_locs [1, 2, 0] rfl ?_
    exact lp2 n _ _ _ hw
  exact hX
def w_M_comes (a1 : Int32) (a2 : Int32) (σ : Jst) (K : Jst → Prop) : Prop := ((a1 < (5 : Int32) → ((¬ (σ 33 21) = (0 : Int32) → K σ) ∧ ((σ 33 21) = (0 : Int32) → ((a1 ≤ (4 : Int32) → (((0 : Int32) < a1 → ((a1 ≤ (0 : Int32) → ((¬ (σ 33 24) = (3 : Int32) → (vp_in (σ 33 24) 3 ∧ K (jup (jup (jup (jup σ 33 23 (1 : Int32)) 39 (Int32.toNatClampNeg (σ 33 24)) a2) 33 24 ((σ 33 24) + (1 : Int32))) 33 22 (((σ 33 22) + (1 : Int32)) - ((σ 33 22) + (1 : Int32)) / (16 : Int32) * (16 : Int32))))) ∧ ((σ 33 24) = (3 : Int32) → K (jup (jup σ 33 23 (1 : Int32)) 33 21 (1 : Int32))))) ∧ (¬ a1 ≤ (0 : Int32) → K (jup σ 33 23 (1 : Int32))))) ∧ (¬ (0 : Int32) < a1 → ((¬ (σ 33 24) = (3 : Int32) → ((a1 ≤ (0 : Int32) → ((¬ (σ 33 24) = (3 : Int32) → (vp_in (σ 33 24) 3 ∧ K (jup (jup (jup (jup σ 33 23 (0 : Int32)) 39 (Int32.toNatClampNeg (σ 33 24)) a2) 33 24 ((σ 33 24) + (1 : Int32))) 33 22 (((σ 33 22) + (1 : Int32)) - ((σ 33 22) + (1 : Int32)) / (16 : Int32) * (16 : Int32))))) ∧ ((σ 33 24) = (3 : Int32) → K (jup (jup σ 33 23 (0 : Int32)) 33 21 (1 : Int32))))) ∧ (¬ a1 ≤ (0 : Int32) → K (jup σ 33 23 (0 : Int32))))) ∧ ((σ 33 24) = (3 : Int32) → ((a1 ≤ (0 : Int32) → ((¬ (σ 33 24) = (3 : Int32) → (vp_in (σ 33 24) 3 ∧ K (jup (jup (jup (jup σ 33 23 (1 : Int32)) 39 (Int32.toNatClampNeg (σ 33 24)) a2) 33 24 ((σ 33 24) + (1 : Int32))) 33 22 (((σ 33 22) + (1 : Int32)) - ((σ 33 22) + (1 : Int32)) / (16 : Int32) * (16 : Int32))))) ∧ ((σ 33 24) = (3 : Int32) → K (jup (jup σ 33 23 (1 : Int32)) 33 21 (1 : Int32))))) ∧ (¬ a1 ≤ (0 : Int32) → K (jup σ 33 23 (1 : Int32))))))))) ∧ (¬ a1 ≤ (4 : Int32) → K σ))))) ∧ (¬ a1 < (5 : Int32) → (((10 : Int32) < a1 → ((¬ (σ 33 21) = (0 : Int32) → K σ) ∧ ((σ 33 21) = (0 : Int32) → ((a1 ≤ (4 : Int32) → (((0 : Int32) < a1 → ((a1 ≤ (0 : Int32) → ((¬ (σ 33 24) = (3 : Int32) → (vp_in (σ 33 24) 3 ∧ K (jup (jup (jup (jup σ 33 23 (1 : Int32)) 39 (Int32.toNatClampNeg (σ 33 24)) a2) 33 24 ((σ 33 24) + (1 : Int32))) 33 22 (((σ 33 22) + (1 : Int32)) - ((σ 33 22) + (1 : Int32)) / (16 : Int32) * (16 : Int32))))) ∧ ((σ 33 24) = (3 : Int32) → K (jup (jup σ 33 23 (1 : Int32)) 33 21 (1 : Int32))))) ∧ (¬ a1 ≤ (0 : Int32) → K (jup σ 33 23 (1 : Int32))))) ∧ (¬ (0 : Int32) < a1 → ((¬ (σ 33 24) = (3 : Int32) → ((a1 ≤ (0 : Int32) → ((¬ (σ 33 24) = (3 : Int32) → (vp_in (σ 33 24) 3 ∧ K (jup (jup (jup (jup σ 33 23 (0 : Int32)) 39 (Int32.toNatClampNeg (σ 33 24)) a2) 33 24 ((σ 33 24) + (1 : Int32))) 33 22 (((σ 33 22) + (1 : Int32)) - ((σ 33 22) + (1 : Int32)) / (16 : Int32) * (16 : Int32))))) ∧ ((σ 33 24) = (3 : Int32) → K (jup (jup σ 33 23 (0 : Int32)) 33 21 (1 : Int32))))) ∧ (¬ a1 ≤ (0 : Int32) → K (jup σ 33 23 (0 : Int32))))) ∧ ((σ 33 24) = (3 : Int32) → ((a1 ≤ (0 : Int32) → ((¬ (σ 33 24) = (3 : Int32) → (vp_in (σ 33 24) 3 ∧ K (jup (jup (jup (jup σ 33 23 (1 : Int32)) 39 (Int32.toNatClampNeg (σ 33 24)) a2) 33 24 ((σ 33 24) + (1 : Int32))) 33 22 (((σ 33 22) + (1 : Int32)) - ((σ 33 22) + (1 : Int32)) / (16 : Int32) * (16 : Int32))))) ∧ ((σ 33 24) = (3 : Int32) → K (jup (jup σ 33 23 (1 : Int32)) 33 21 (1 : Int32))))) ∧ (¬ a1 ≤ (0 : Int32) → K (jup σ 33 23 (1 : Int32))))))))) ∧ (¬ a1 ≤ (4 : Int32) → K σ))))) ∧ (¬ (10 : Int32) < a1 → K (jup σ 33 21 (2 : Int32))))))
abbrev rm_M_comes : Room := { frames := 0, cells := 0, slots := 0, locals := 0 }
set_option maxRecDepth 100000 in
set_option maxHeartbeats 4000000 in
theorem c_M_comes (l : Launch) (D : va_G) (ca ad : Nat → Nat) (sz : Nat) (hD : Jd ca ad sz) {a1 a2 : Int32} {σ : Jst} {K : Jst → Prop} (hw : w_M_comes a1 a2 σ K) : Met l y_M_comes (wG y_M_comes b_M_comes 3 none) rm_M_comes (va_Pc [.ref (ad 33), .int a1, .int a2] (Jw D vwCl (tysT ca) (wlT ad ca) (NwT sz) σ)) (va_Qv K (Jq D vwCl (wlT ad ca)) (Aw sz)) 0 0 (Aw sz) := by
  refine j_met (cc := b_M_comes) (own := R_M) (by decide +kernel) rfl (Nat.le_of_ble_eq_true rfl) rfl hD (nwT_k sz) ?_
  intro p e s m args below meth c X hlk hr
  have hX : J p l e rm_M_comes s m args below meth c D vwCl (wlT ad ca) (Aw sz) 3 0 0 (MQ below (va_Qv K (Jq D vwCl (wlT ad ca)) (Aw sz)) args s 0 0 (Aw sz)) 0 [(0, .ref (ad 33)), (1, .int a1), (2, .int a2)] [] σ := by
    unfold w_M_comes at hw
    refine j_iload_n X d_M_comes_0 rfl 1 rfl ?_
    refine j_iconst X (v := (5 : Int32)) d_M_comes_1 (by decide) ?_
    refine j_icmp_lt X d_M_comes_2 (tgt := 16) (by decide) (fun h => ?_) (fun h => ?_)
    · have hw := hw.1 h
      refine j_aload_n X d_M_comes_16 rfl 0 rfl ?_
      refine g_33_21 X f_M_153 (v := (σ 33 21)) rfl d_M_comes_17 ?_
      refine j_if_ne X d_M_comes_20 (tgt := 28) (by decide) (fun h => ?_) (fun h => ?_)
      · have hw := hw.1 h
        exact j_vret X hlk hr d_M_comes_28 hw
      · have hw := hw.2 h
        refine j_iload_n X d_M_comes_23 rfl 1 rfl ?_
        refine j_iconst X (v := (4 : Int32)) d_M_comes_24 (by decide) ?_
        refine j_icmp_le X d_M_comes_25 (tgt := 29) (by decide) (fun h => ?_) (fun h => ?_)
        · have hw := hw.1 h
          refine j_aload_n X d_M_comes_29 rfl 0 rfl ?_
          refine j_iload_n X d_M_comes_30 rfl 1 rfl ?_
          refine j_if_gt X d_M_comes_31 (tgt := 42) (by decide) (fun h => ?_) (fun h => ?_)
          · have hw := hw.1 h
            refine j_iconst X (v := (1 : Int32)) d_M_comes_42 (by decide) ?_
            refine j_goto X d_M_comes_43 (tgt := 47) (by decide) ?_
            refine p_33_23 X f_M_156 rfl rfl d_M_comes_47 ?_
            refine j_iload_n X d_M_comes_50 rfl 1 rfl ?_
            refine j_if_le X d_M_comes_51 (tgt := 55) (by decide) (fun h => ?_) (fun h => ?_)
            · have hw := hw.1 h
              refine j_aload_n X d_M_comes_55 rfl 0 rfl ?_
              refine g_33_24 X f_M_159 (v := (σ 33 24)) rfl d_M_comes_56 ?_
              refine j_iconst X (v := (3 : Int32)) d_M_comes_59 (by decide) ?_
              refine j_icmp_ne X d_M_comes_60 (tgt := 69) (by decide) (fun h => ?_) (fun h => ?_)
              · have hw := hw.1 h
                refine j_aload_n X d_M_comes_69 rfl 0 rfl ?_
                refine g_33_25 X f_M_36 d_M_comes_70 ?_
                refine j_aload_n X d_M_comes_73 rfl 0 rfl ?_
                refine g_33_24 X f_M_159 (v := (σ 33 24)) rfl d_M_comes_74 ?_
                refine j_iload_n X d_M_comes_77 rfl 2 rfl ?_
                refine sr_39 X hw.1 d_M_comes_78 ?_
                have hw := hw.2
                refine j_aload_n X d_M_comes_79 rfl 0 rfl ?_
                refine j_dup X d_M_comes_80 rfl ?_
                refine g_33_24 X f_M_159 (v := (σ 33 24)) rfl d_M_comes_81 ?_
                refine j_iconst X (v := (1 : Int32)) d_M_comes_84 (by decide) ?_
                refine j_iadd X d_M_comes_85 ?_
                refine p_33_24 X f_M_159 d_M_comes_86 ?_
                refine j_aload_n X d_M_comes_89 rfl 0 rfl ?_
                refine j_aload_n X d_M_comes_90 rfl 0 rfl ?_
                refine g_33_22 X f_M_146 (v := (σ 33 22)) rfl d_M_comes_91 ?_
                refine j_iconst X (v := (1 : Int32)) d_M_comes_94 (by decide) ?_
                refine j_iadd X d_M_comes_95 ?_
                refine j_bipush X (v := (16 : Int32)) d_M_comes_96 (by decide) ?_
                refine j_irem X d_M_comes_98 (by decide) ?_
                refine p_33_22 X f_M_146 d_M_comes_99 ?_
                exact j_vret X hlk hr d_M_comes_102 hw
              · have hw := hw.2 h
                refine j_aload_n X d_M_comes_63 rfl 0 rfl ?_
                refine j_iconst X (v := (1 : Int32)) d_M_comes_64 (by decide) ?_
                refine p_33_21 X f_M_153 d_M_comes_65 ?_
                exact j_vret X hlk hr d_M_comes_68 hw
            · have hw := hw.2 h
              exact j_vret X hlk hr d_M_comes_54 hw
          · have hw := hw.2 h
            refine j_aload_n X d_M_comes_34 rfl 0 rfl ?_
            refine g_33_24 X f_M_159 (v := (σ 33 24)) rfl d_M_comes_35 ?_
            refine j_iconst X (v := (3 : Int32)) d_M_comes_38 (by decide) ?_
            refine j_icmp_ne X d_M_comes_39 (tgt := 46) (by decide) (fun h => ?_) (fun h => ?_)
            · have hw := hw.1 h
              refine j_iconst X (v := (0 : Int32)) d_M_comes_46 (by decide) ?_
              refine p_33_23 X f_M_156 rfl rfl d_M_comes_47 ?_
              refine j_iload_n X d_M_comes_50 rfl 1 rfl ?_
              refine j_if_le X d_M_comes_51 (tgt := 55) (by decide) (fun h => ?_) (fun h => ?_)
              · have hw := hw.1 h
                refine j_aload_n X d_M_comes_55 rfl 0 rfl ?_
                refine g_33_24 X f_M_159 (v := (σ 33 24)) rfl d_M_comes_56 ?_
                refine j_iconst X (v := (3 : Int32)) d_M_comes_59 (by decide) ?_
                refine j_icmp_ne X d_M_comes_60 (tgt := 69) (by decide) (fun h => ?_) (fun h => ?_)
                · have hw := hw.1 h
                  refine j_aload_n X d_M_comes_69 rfl 0 rfl ?_
                  refine g_33_25 X f_M_36 d_M_comes_70 ?_
                  refine j_aload_n X d_M_comes_73 rfl 0 rfl ?_
                  refine g_33_24 X f_M_159 (v := (σ 33 24)) rfl d_M_comes_74 ?_
                  refine j_iload_n X d_M_comes_77 rfl 2 rfl ?_
                  refine sr_39 X hw.1 d_M_comes_78 ?_
                  have hw := hw.2
                  refine j_aload_n X d_M_comes_79 rfl 0 rfl ?_
                  refine j_dup X d_M_comes_80 rfl ?_
                  refine g_33_24 X f_M_159 (v := (σ 33 24)) rfl d_M_comes_81 ?_
                  refine j_iconst X (v := (1 : Int32)) d_M_comes_84 (by decide) ?_
                  refine j_iadd X d_M_comes_85 ?_
                  refine p_33_24 X f_M_159 d_M_comes_86 ?_
                  refine j_aload_n X d_M_comes_89 rfl 0 rfl ?_
                  refine j_aload_n X d_M_comes_90 rfl 0 rfl ?_
                  refine g_33_22 X f_M_146 (v := (σ 33 22)) rfl d_M_comes_91 ?_
                  refine j_iconst X (v := (1 : Int32)) d_M_comes_94 (by decide) ?_
                  refine j_iadd X d_M_comes_95 ?_
                  refine j_bipush X (v := (16 : Int32)) d_M_comes_96 (by decide) ?_
                  refine j_irem X d_M_comes_98 (by decide) ?_
                  refine p_33_22 X f_M_146 d_M_comes_99 ?_
                  exact j_vret X hlk hr d_M_comes_102 hw
                · have hw := hw.2 h
                  refine j_aload_n X d_M_comes_63 rfl 0 rfl ?_
                  refine j_iconst X (v := (1 : Int32)) d_M_comes_64 (by decide) ?_
                  refine p_33_21 X f_M_153 d_M_comes_65 ?_
                  exact j_vret X hlk hr d_M_comes_68 hw
              · have hw := hw.2 h
                exact j_vret X hlk hr d_M_comes_54 hw
            · have hw := hw.2 h
              refine j_iconst X (v := (1 : Int32)) d_M_comes_42 (by decide) ?_
              refine j_goto X d_M_comes_43 (tgt := 47) (by decide) ?_
              refine p_33_23 X f_M_156 rfl rfl d_M_comes_47 ?_
              refine j_iload_n X d_M_comes_50 rfl 1 rfl ?_
              refine j_if_le X d_M_comes_51 (tgt := 55) (by decide) (fun h => ?_) (fun h => ?_)
              · have hw := hw.1 h
                refine j_aload_n X d_M_comes_55 rfl 0 rfl ?_
                refine g_33_24 X f_M_159 (v := (σ 33 24)) rfl d_M_comes_56 ?_
                refine j_iconst X (v := (3 : Int32)) d_M_comes_59 (by decide) ?_
                refine j_icmp_ne X d_M_comes_60 (tgt := 69) (by decide) (fun h => ?_) (fun h => ?_)
                · have hw := hw.1 h
                  refine j_aload_n X d_M_comes_69 rfl 0 rfl ?_
                  refine g_33_25 X f_M_36 d_M_comes_70 ?_
                  refine j_aload_n X d_M_comes_73 rfl 0 rfl ?_
                  refine g_33_24 X f_M_159 (v := (σ 33 24)) rfl d_M_comes_74 ?_
                  refine j_iload_n X d_M_comes_77 rfl 2 rfl ?_
                  refine sr_39 X hw.1 d_M_comes_78 ?_
                  have hw := hw.2
                  refine j_aload_n X d_M_comes_79 rfl 0 rfl ?_
                  refine j_dup X d_M_comes_80 rfl ?_
                  refine g_33_24 X f_M_159 (v := (σ 33 24)) rfl d_M_comes_81 ?_
                  refine j_iconst X (v := (1 : Int32)) d_M_comes_84 (by decide) ?_
                  refine j_iadd X d_M_comes_85 ?_
                  refine p_33_24 X f_M_159 d_M_comes_86 ?_
                  refine j_aload_n X d_M_comes_89 rfl 0 rfl ?_
                  refine j_aload_n X d_M_comes_90 rfl 0 rfl ?_
                  refine g_33_22 X f_M_146 (v := (σ 33 22)) rfl d_M_comes_91 ?_
                  refine j_iconst X (v := (1 : Int32)) d_M_comes_94 (by decide) ?_
                  refine j_iadd X d_M_comes_95 ?_
                  refine j_bipush X (v := (16 : Int32)) d_M_comes_96 (by decide) ?_
                  refine j_irem X d_M_comes_98 (by decide) ?_
                  refine p_33_22 X f_M_146 d_M_comes_99 ?_
                  exact j_vret X hlk hr d_M_comes_102 hw
                · have hw := hw.2 h
                  refine j_aload_n X d_M_comes_63 rfl 0 rfl ?_
                  refine j_iconst X (v := (1 : Int32)) d_M_comes_64 (by decide) ?_
                  refine p_33_21 X f_M_153 d_M_comes_65 ?_
                  exact j_vret X hlk hr d_M_comes_68 hw
              · have hw := hw.2 h
                exact j_vret X hlk hr d_M_comes_54 hw
        · have hw := hw.2 h
          exact j_vret X hlk hr d_M_comes_28 hw
    · have hw := hw.2 h
      refine j_iload_n X d_M_comes_5 rfl 1 rfl ?_
      refine j_bipush X (v := (10 : Int32)) d_M_comes_6 (by decide) ?_
      refine j_icmp_gt X d_M_comes_8 (tgt := 16) (by decide) (fun h => ?_) (fun h => ?_)
      · have hw := hw.1 h
        refine j_aload_n X d_M_comes_16 rfl 0 rfl ?_
        refine g_33_21 X f_M_153 (v := (σ 33 21)) rfl d_M_comes_17 ?_
        refine j_if_ne X d_M_comes_20 (tgt := 28) (by decide) (fun h => ?_) (fun h => ?_)
        · have hw := hw.1 h
          exact j_vret X hlk hr d_M_comes_28 hw
        · have hw := hw.2 h
          refine j_iload_n X d_M_comes_23 rfl 1 rfl ?_
          refine j_iconst X (v := (4 : Int32)) d_M_comes_24 (by decide) ?_
          refine j_icmp_le X d_M_comes_25 (tgt := 29) (by decide) (fun h => ?_) (fun h => ?_)
          · have hw := hw.1 h
            refine j_aload_n X d_M_comes_29 rfl 0 rfl ?_
            refine j_iload_n X d_M_comes_30 rfl 1 rfl ?_
            refine j_if_gt X d_M_comes_31 (tgt := 42) (by decide) (fun h => ?_) (fun h => ?_)
            · have hw := hw.1 h
              refine j_iconst X (v := (1 : Int32)) d_M_comes_42 (by decide) ?_
              refine j_goto X d_M_comes_43 (tgt := 47) (by decide) ?_
              refine p_33_23 X f_M_156 rfl rfl d_M_comes_47 ?_
              refine j_iload_n X d_M_comes_50 rfl 1 rfl ?_
              refine j_if_le X d_M_comes_51 (tgt := 55) (by decide) (fun h => ?_) (fun h => ?_)
              · have hw := hw.1 h
                refine j_aload_n X d_M_comes_55 rfl 0 rfl ?_
                refine g_33_24 X f_M_159 (v := (σ 33 24)) rfl d_M_comes_56 ?_
                refine j_iconst X (v := (3 : Int32)) d_M_comes_59 (by decide) ?_
                refine j_icmp_ne X d_M_comes_60 (tgt := 69) (by decide) (fun h => ?_) (fun h => ?_)
                · have hw := hw.1 h
                  refine j_aload_n X d_M_comes_69 rfl 0 rfl ?_
                  refine g_33_25 X f_M_36 d_M_comes_70 ?_
                  refine j_aload_n X d_M_comes_73 rfl 0 rfl ?_
                  refine g_33_24 X f_M_159 (v := (σ 33 24)) rfl d_M_comes_74 ?_
                  refine j_iload_n X d_M_comes_77 rfl 2 rfl ?_
                  refine sr_39 X hw.1 d_M_comes_78 ?_
                  have hw := hw.2
                  refine j_aload_n X d_M_comes_79 rfl 0 rfl ?_
                  refine j_dup X d_M_comes_80 rfl ?_
                  refine g_33_24 X f_M_159 (v := (σ 33 24)) rfl d_M_comes_81 ?_
                  refine j_iconst X (v := (1 : Int32)) d_M_comes_84 (by decide) ?_
                  refine j_iadd X d_M_comes_85 ?_
                  refine p_33_24 X f_M_159 d_M_comes_86 ?_
                  refine j_aload_n X d_M_comes_89 rfl 0 rfl ?_
                  refine j_aload_n X d_M_comes_90 rfl 0 rfl ?_
                  refine g_33_22 X f_M_146 (v := (σ 33 22)) rfl d_M_comes_91 ?_
                  refine j_iconst X (v := (1 : Int32)) d_M_comes_94 (by decide) ?_
                  refine j_iadd X d_M_comes_95 ?_
                  refine j_bipush X (v := (16 : Int32)) d_M_comes_96 (by decide) ?_
                  refine j_irem X d_M_comes_98 (by decide) ?_
                  refine p_33_22 X f_M_146 d_M_comes_99 ?_
                  exact j_vret X hlk hr d_M_comes_102 hw
                · have hw := hw.2 h
                  refine j_aload_n X d_M_comes_63 rfl 0 rfl ?_
                  refine j_iconst X (v := (1 : Int32)) d_M_comes_64 (by decide) ?_
                  refine p_33_21 X f_M_153 d_M_comes_65 ?_
                  exact j_vret X hlk hr d_M_comes_68 hw
              · have hw := hw.2 h
                exact j_vret X hlk hr d_M_comes_54 hw
            · have hw := hw.2 h
              refine j_aload_n X d_M_comes_34 rfl 0 rfl ?_
              refine g_33_24 X f_M_159 (v := (σ 33 24)) rfl d_M_comes_35 ?_
              refine j_iconst X (v := (3 : Int32)) d_M_comes_38 (by decide) ?_
              refine j_icmp_ne X d_M_comes_39 (tgt := 46) (by decide) (fun h => ?_) (fun h => ?_)
              · have hw := hw.1 h
                refine j_iconst X (v := (0 : Int32)) d_M_comes_46 (by decide) ?_
                refine p_33_23 X f_M_156 rfl rfl d_M_comes_47 ?_
                refine j_iload_n X d_M_comes_50 rfl 1 rfl ?_
                refine j_if_le X d_M_comes_51 (tgt := 55) (by decide) (fun h => ?_) (fun h => ?_)
                · have hw := hw.1 h
                  refine j_aload_n X d_M_comes_55 rfl 0 rfl ?_
                  refine g_33_24 X f_M_159 (v := (σ 33 24)) rfl d_M_comes_56 ?_
                  refine j_iconst X (v := (3 : Int32)) d_M_comes_59 (by decide) ?_
                  refine j_icmp_ne X d_M_comes_60 (tgt := 69) (by decide) (fun h => ?_) (fun h => ?_)
                  · have hw := hw.1 h
                    refine j_aload_n X d_M_comes_69 rfl 0 rfl ?_
                    refine g_33_25 X f_M_36 d_M_comes_70 ?_
                    refine j_aload_n X d_M_comes_73 rfl 0 rfl ?_
                    refine g_33_24 X f_M_159 (v := (σ 33 24)) rfl d_M_comes_74 ?_
                    refine j_iload_n X d_M_comes_77 rfl 2 rfl ?_
                    refine sr_39 X hw.1 d_M_comes_78 ?_
                    have hw := hw.2
                    refine j_aload_n X d_M_comes_79 rfl 0 rfl ?_
                    refine j_dup X d_M_comes_80 rfl ?_
                    refine g_33_24 X f_M_159 (v := (σ 33 24)) rfl d_M_comes_81 ?_
                    refine j_iconst X (v := (1 : Int32)) d_M_comes_84 (by decide) ?_
                    refine j_iadd X d_M_comes_85 ?_
                    refine p_33_24 X f_M_159 d_M_comes_86 ?_
                    refine j_aload_n X d_M_comes_89 rfl 0 rfl ?_
                    refine j_aload_n X d_M_comes_90 rfl 0 rfl ?_
                    refine g_33_22 X f_M_146 (v := (σ 33 22)) rfl d_M_comes_91 ?_
                    refine j_iconst X (v := (1 : Int32)) d_M_comes_94 (by decide) ?_
                    refine j_iadd X d_M_comes_95 ?_
                    refine j_bipush X (v := (16 : Int32)) d_M_comes_96 (by decide) ?_
                    refine j_irem X d_M_comes_98 (by decide) ?_
                    refine p_33_22 X f_M_146 d_M_comes_99 ?_
                    exact j_vret X hlk hr d_M_comes_102 hw
                  · have hw := hw.2 h
                    refine j_aload_n X d_M_comes_63 rfl 0 rfl ?_
                    refine j_iconst X (v := (1 : Int32)) d_M_comes_64 (by decide) ?_
                    refine p_33_21 X f_M_153 d_M_comes_65 ?_
                    exact j_vret X hlk hr d_M_comes_68 hw
                · have hw := hw.2 h
                  exact j_vret X hlk hr d_M_comes_54 hw
              · have hw := hw.2 h
                refine j_iconst X (v := (1 : Int32)) d_M_comes_42 (by decide) ?_
                refine j_goto X d_M_comes_43 (tgt := 47) (by decide) ?_
                refine p_33_23 X f_M_156 rfl rfl d_M_comes_47 ?_
                refine j_iload_n X d_M_comes_50 rfl 1 rfl ?_
                refine j_if_le X d_M_comes_51 (tgt := 55) (by decide) (fun h => ?_) (fun h => ?_)
                · have hw := hw.1 h
                  refine j_aload_n X d_M_comes_55 rfl 0 rfl ?_
                  refine g_33_24 X f_M_159 (v := (σ 33 24)) rfl d_M_comes_56 ?_
                  refine j_iconst X (v := (3 : Int32)) d_M_comes_59 (by decide) ?_
                  refine j_icmp_ne X d_M_comes_60 (tgt := 69) (by decide) (fun h => ?_) (fun h => ?_)
                  · have hw := hw.1 h
                    refine j_aload_n X d_M_comes_69 rfl 0 rfl ?_
                    refine g_33_25 X f_M_36 d_M_comes_70 ?_
                    refine j_aload_n X d_M_comes_73 rfl 0 rfl ?_
                    refine g_33_24 X f_M_159 (v := (σ 33 24)) rfl d_M_comes_74 ?_
                    refine j_iload_n X d_M_comes_77 rfl 2 rfl ?_
                    refine sr_39 X hw.1 d_M_comes_78 ?_
                    have hw := hw.2
                    refine j_aload_n X d_M_comes_79 rfl 0 rfl ?_
                    refine j_dup X d_M_comes_80 rfl ?_
                    refine g_33_24 X f_M_159 (v := (σ 33 24)) rfl d_M_comes_81 ?_
                    refine j_iconst X (v := (1 : Int32)) d_M_comes_84 (by decide) ?_
                    refine j_iadd X d_M_comes_85 ?_
                    refine p_33_24 X f_M_159 d_M_comes_86 ?_
                    refine j_aload_n X d_M_comes_89 rfl 0 rfl ?_
                    refine j_aload_n X d_M_comes_90 rfl 0 rfl ?_
                    refine g_33_22 X f_M_146 (v := (σ 33 22)) rfl d_M_comes_91 ?_
                    refine j_iconst X (v := (1 : Int32)) d_M_comes_94 (by decide) ?_
                    refine j_iadd X d_M_comes_95 ?_
                    refine j_bipush X (v := (16 : Int32)) d_M_comes_96 (by decide) ?_
                    refine j_irem X d_M_comes_98 (by decide) ?_
                    refine p_33_22 X f_M_146 d_M_comes_99 ?_
                    exact j_vret X hlk hr d_M_comes_102 hw
                  · have hw := hw.2 h
                    refine j_aload_n X d_M_comes_63 rfl 0 rfl ?_
                    refine j_iconst X (v := (1 : Int32)) d_M_comes_64 (by decide) ?_
                    refine p_33_21 X f_M_153 d_M_comes_65 ?_
                    exact j_vret X hlk hr d_M_comes_68 hw
                · have hw := hw.2 h
                  exact j_vret X hlk hr d_M_comes_54 hw
          · have hw := hw.2 h
            exact j_vret X hlk hr d_M_comes_28 hw
      · have hw := hw.2 h
        refine j_aload_n X d_M_comes_11 rfl 0 rfl ?_
        refine j_iconst X (v := (2 : Int32)) d_M_comes_12 (by decide) ?_
        refine p_33_21 X f_M_153 d_M_comes_13 ?_
        refine j_aload_n X d_M_comes_16 rfl 0 rfl ?_
        refine g_33_21 X f_M_153 (v := (2 : Int32)) rfl d_M_comes_17 ?_
        refine j_if_ne X d_M_comes_20 (tgt := 28) (by decide) (fun _ => ?_) (fun h => absurd h (by decide))
        exact j_vret X hlk hr d_M_comes_28 hw
  exact hX
def w_M_raise (a1 : Int32) (σ : Jst) (K : Jst → Prop) : Prop := w_M_outside a1 (0 : Int32) ((σ 33 17) - (1 : Int32)) σ (fun r2 u1 => w_M_fails r2 (0 : Int32) u1 (fun r4 u3 => ((r4 = (0 : Int32) → (vp_in a1 20 ∧ (vp_in a1 20 ∧ (vp_in a1 20 ∧ w_M_out a1 u3 (fun u5 => ((¬ (u3 36 (Int32.toNatClampNeg a1)) = (0 : Int32) → (((u3 36 (Int32.toNatClampNeg a1)) = (1 : Int32) → ((¬ (u3 36 (Int32.toNatClampNeg a1)) = (2 : Int32) → K (jup (jup (jup u5 33 22 (u5 33 22)) 33 21 (0 : Int32)) 33 23 (0 : Int32))) ∧ ((u3 36 (Int32.toNatClampNeg a1)) = (2 : Int32) → K (jup (jup (jup u5 33 22 (u3 37 (Int32.toNatClampNeg a1))) 33 21 (0 : Int32)) 33 23 (0 : Int32))))) ∧ (¬ (u3 36 (Int32.toNatClampNeg a1)) = (1 : Int32) → ((¬ (u3 36 (Int32.toNatClampNeg a1)) = (2 : Int32) → K u5) ∧ ((u3 36 (Int32.toNatClampNeg a1)) = (2 : Int32) → (((u5 33 21) = (2 : Int32) → K u5) ∧ (¬ (u5 33 21) = (2 : Int32) → ((¬ (u3 36 (Int32.toNatClampNeg a1)) = (2 : Int32) → K (jup (jup (jup u5 33 22 (u5 33 22)) 33 21 (0 : Int32)) 33 23 (0 : Int32))) ∧ ((u3 36 (Int32.toNatClampNeg a1)) = (2 : Int32) → K (jup (jup (jup u5 33 22 (u3 37 (Int32.toNatClampNeg a1))) 33 21 (0 : Int32)) 33 23 (0 : Int32))))))))))) ∧ ((u3 36 (Int32.toNatClampNeg a1)) = (0 : Int32) → w_M_comes ((((u3 37 (Int32.toNatClampNeg a1)) - (u5 33 22)) + (16 : Int32)) - (((u3 37 (Int32.toNatClampNeg a1)) - (u5 33 22)) + (16 : Int32)) / (16 : Int32) * (16 : Int32)) (u3 38 (Int32.toNatClampNeg a1)) u5 (fun u6 => (((u3 36 (Int32.toNatClampNeg a1)) = (1 : Int32) → ((¬ (u3 36 (Int32.toNatClampNeg a1)) = (2 : Int32) → K (jup (jup (jup u6 33 22 (u6 33 22)) 33 21 (0 : Int32)) 33 23 (0 : Int32))) ∧ ((u3 36 (Int32.toNatClampNeg a1)) = (2 : Int32) → K (jup (jup (jup u6 33 22 (u3 37 (Int32.toNatClampNeg a1))) 33 21 (0 : Int32)) 33 23 (0 : Int32))))) ∧ (¬ (u3 36 (Int32.toNatClampNeg a1)) = (1 : Int32) → ((¬ (u3 36 (Int32.toNatClampNeg a1)) = (2 : Int32) → K u6) ∧ ((u3 36 (Int32.toNatClampNeg a1)) = (2 : Int32) → (((u6 33 21) = (2 : Int32) → K u6) ∧ (¬ (u6 33 21) = (2 : Int32) → ((¬ (u3 36 (Int32.toNatClampNeg a1)) = (2 : Int32) → K (jup (jup (jup u6 33 22 (u6 33 22)) 33 21 (0 : Int32)) 33 23 (0 : Int32))) ∧ ((u3 36 (Int32.toNatClampNeg a1)) = (2 : Int32) → K (jup (jup (jup u6 33 22 (u3 37 (Int32.toNatClampNeg a1))) 33 21 (0 : Int32)) 33 23 (0 : Int32)))))))))))))))))) ∧ (¬ r4 = (0 : Int32) → K u3))))
abbrev rm_M_raise : Room := { frames := 1, cells := 0, slots := 0, locals := 22 }
set_option maxRecDepth 100000 in
set_option maxHeartbeats 4000000 in
theorem c_M_raise (l : Launch) (D : va_G) (ca ad : Nat → Nat) (sz : Nat) (hD : Jd ca ad sz) {a1 : Int32} {σ : Jst} {K : Jst → Prop} (hw : w_M_raise a1 σ K) : Met l y_M_raise (wG y_M_raise b_M_raise 6 none) rm_M_raise (va_Pc [.ref (ad 33), .int a1] (Jw D vwCl (tysT ca) (wlT ad ca) (NwT sz) σ)) (va_Qv K (Jq D vwCl (wlT ad ca)) (Aw sz)) 0 0 (Aw sz) := by
  refine j_met (cc := b_M_raise) (own := R_M) (by decide +kernel) rfl (Nat.le_of_ble_eq_true rfl) rfl hD (nwT_k sz) ?_
  intro p e s m args below meth c X hlk hr
  have hX : J p l e rm_M_raise s m args below meth c D vwCl (wlT ad ca) (Aw sz) 6 0 0 (MQ below (va_Qv K (Jq D vwCl (wlT ad ca)) (Aw sz)) args s 0 0 (Aw sz)) 0 [(0, .ref (ad 33)), (1, .int a1)] [] σ := by
    unfold w_M_raise at hw
    refine j_aload_n X d_M_raise_0 rfl 0 rfl ?_
    refine j_iload_n X d_M_raise_1 rfl 1 rfl ?_
    refine j_iconst X (v := (0 : Int32)) d_M_raise_2 (by decide) ?_
    refine j_aload_n X d_M_raise_3 rfl 0 rfl ?_
    refine g_33_17 X f_M_130 (v := (σ 33 17)) rfl d_M_raise_4 ?_
    refine j_iconst X (v := (1 : Int32)) d_M_raise_7 (by decide) ?_
    refine j_isub X d_M_raise_8 ?_
    refine j_callSi (As := [.int a1, .int (0 : Int32), .int ((σ 33 17) - (1 : Int32))]) X (c_M_outside l D ca ad sz hD hw) (gcS (n := 3) X rfl rfl rfl gc_M_outside m_M_outside l_M_84 (by decide +kernel) ⟨by decide, by decide⟩) (fun _ h => h) rfl rfl (Nat.le_of_ble_eq_true rfl) ⟨by decide, by decide⟩ d_M_raise_9 (fun r2 u1 hw => ?_)
    refine j_iconst X (v := (0 : Int32)) d_M_raise_12 (by decide) ?_
    refine j_callVi (As := [.int r2, .int (0 : Int32)]) X (c_M_fails l D ca ad sz hD hw) (gcV (n := 2) X rfl rfl rfl gc_M_fails m_M_fails l_M_88 (by decide +kernel) ⟨by decide, by decide⟩) (q0 := 33) rfl rfl (fun _ h => h) rfl rfl (Nat.le_of_ble_eq_true rfl) ⟨by decide, by decide⟩ d_M_raise_13 (fun r4 u3 hw => ?_)
    refine j_if_eq X d_M_raise_16 (tgt := 20) (by decide) (fun h => ?_) (fun h => ?_)
    · have hw := hw.1 h
      refine j_aload_n X d_M_raise_20 rfl 0 rfl ?_
      refine g_33_18 X f_M_27 d_M_raise_21 ?_
      refine j_iload_n X d_M_raise_24 rfl 1 rfl ?_
      refine ld_36 X hw.1 (v := (u3 36 (Int32.toNatClampNeg a1))) rfl d_M_raise_25 ?_
      have hw := hw.2
      refine j_istore_n X d_M_raise_26 rfl (by decide) rfl ?_
      refine j_aload_n X d_M_raise_27 rfl 1 rfl ?_
      refine g_33_19 X f_M_30 d_M_raise_28 ?_
      refine j_iload_n X d_M_raise_31 rfl 2 rfl ?_
      refine ld_37 X hw.1 (v := (u3 37 (Int32.toNatClampNeg a1))) rfl d_M_raise_32 ?_
      have hw := hw.2
      refine j_istore_n X d_M_raise_33 rfl (by decide) rfl ?_
      refine j_aload_n X d_M_raise_34 rfl 2 rfl ?_
      refine g_33_20 X f_M_33 d_M_raise_35 ?_
      refine j_iload_n X d_M_raise_38 rfl 3 rfl ?_
      refine ld_38 X hw.1 (v := (u3 38 (Int32.toNatClampNeg a1))) rfl d_M_raise_39 ?_
      have hw := hw.2
      refine j_istore X d_M_raise_40 (by decide) rfl ?_
      refine j_aload_n X d_M_raise_42 rfl 3 rfl ?_
      refine j_iload_n X d_M_raise_43 rfl 4 rfl ?_
      refine j_callVv (As := [.int a1]) X (c_M_out l D ca ad sz hD hw) (gcV (n := 1) X rfl rfl rfl gc_M_out m_M_out l_M_143 (by decide +kernel) ⟨by decide, by decide⟩) (q0 := 33) rfl rfl (fun _ h => h) rfl rfl (Nat.le_of_ble_eq_true rfl) ⟨by decide, by decide⟩ d_M_raise_44 (fun u5 hw => ?_)
      refine j_iload_n X d_M_raise_47 rfl 2 rfl ?_
      refine j_if_ne X d_M_raise_48 (tgt := 69) (by decide) (fun h => ?_) (fun h => ?_)
      · have hw := hw.1 h
        refine j_iload_n X d_M_raise_69 rfl 2 rfl ?_
        refine j_iconst X (v := (1 : Int32)) d_M_raise_70 (by decide) ?_
        refine j_icmp_eq X d_M_raise_71 (tgt := 87) (by decide) (fun h => ?_) (fun h => ?_)
        · have hw := hw.1 h
          refine j_iconst X (v := (1 : Int32)) d_M_raise_87 (by decide) ?_
          refine j_goto X d_M_raise_88 (tgt := 92) (by decide) ?_
          refine j_istore X d_M_raise_92 (by decide) rfl ?_
          refine j_iload X d_M_raise_94 0 rfl ?_
          refine j_if_eq X d_M_raise_96 (tgt := 126) (by decide) (fun h => absurd h (by decide)) (fun _ => ?_)
          refine j_aload_n X d_M_raise_99 rfl 4 rfl ?_
          refine j_iload_n X d_M_raise_100 rfl 3 rfl ?_
          refine j_iconst X (v := (2 : Int32)) d_M_raise_101 (by decide) ?_
          refine j_icmp_ne X d_M_raise_102 (tgt := 109) (by decide) (fun h => ?_) (fun h => ?_)
          · have hw := hw.1 h
            refine j_aload_n X d_M_raise_109 rfl 4 rfl ?_
            refine g_33_22 X f_M_146 (v := (u5 33 22)) rfl d_M_raise_110 ?_
            refine p_33_22 X f_M_146 d_M_raise_113 ?_
            refine j_aload_n X d_M_raise_116 rfl 4 rfl ?_
            refine j_iconst X (v := (0 : Int32)) d_M_raise_117 (by decide) ?_
            refine p_33_21 X f_M_153 d_M_raise_118 ?_
            refine j_aload_n X d_M_raise_121 rfl 4 rfl ?_
            refine j_iconst X (v := (0 : Int32)) d_M_raise_122 (by decide) ?_
            refine p_33_23 X f_M_156 rfl rfl d_M_raise_123 ?_
            exact j_vret X hlk hr d_M_raise_126 hw
          · have hw := hw.2 h
            refine j_iload_n X d_M_raise_105 rfl 2 rfl ?_
            refine j_goto X d_M_raise_106 (tgt := 113) (by decide) ?_
            refine p_33_22 X f_M_146 d_M_raise_113 ?_
            refine j_aload_n X d_M_raise_116 rfl 4 rfl ?_
            refine j_iconst X (v := (0 : Int32)) d_M_raise_117 (by decide) ?_
            refine p_33_21 X f_M_153 d_M_raise_118 ?_
            refine j_aload_n X d_M_raise_121 rfl 4 rfl ?_
            refine j_iconst X (v := (0 : Int32)) d_M_raise_122 (by decide) ?_
            refine p_33_23 X f_M_156 rfl rfl d_M_raise_123 ?_
            exact j_vret X hlk hr d_M_raise_126 hw
        · have hw := hw.2 h
          refine j_iload_n X d_M_raise_74 rfl 2 rfl ?_
          refine j_iconst X (v := (2 : Int32)) d_M_raise_75 (by decide) ?_
          refine j_icmp_ne X d_M_raise_76 (tgt := 91) (by decide) (fun h => ?_) (fun h => ?_)
          · have hw := hw.1 h
            refine j_iconst X (v := (0 : Int32)) d_M_raise_91 (by decide) ?_
            refine j_istore X d_M_raise_92 (by decide) rfl ?_
            refine j_iload X d_M_raise_94 0 rfl ?_
            refine j_if_eq X d_M_raise_96 (tgt := 126) (by decide) (fun _ => ?_) (fun h => absurd h (by decide))
            exact j_vret X hlk hr d_M_raise_126 hw
          · have hw := hw.2 h
            refine j_aload_n X d_M_raise_79 rfl 3 rfl ?_
            refine g_33_21 X f_M_153 (v := (u5 33 21)) rfl d_M_raise_80 ?_
            refine j_iconst X (v := (2 : Int32)) d_M_raise_83 (by decide) ?_
            refine j_icmp_eq X d_M_raise_84 (tgt := 91) (by decide) (fun h => ?_) (fun h => ?_)
            · have hw := hw.1 h
              refine j_iconst X (v := (0 : Int32)) d_M_raise_91 (by decide) ?_
              refine j_istore X d_M_raise_92 (by decide) rfl ?_
              refine j_iload X d_M_raise_94 0 rfl ?_
              refine j_if_eq X d_M_raise_96 (tgt := 126) (by decide) (fun _ => ?_) (fun h => absurd h (by decide))
              exact j_vret X hlk hr d_M_raise_126 hw
            · have hw := hw.2 h
              refine j_iconst X (v := (1 : Int32)) d_M_raise_87 (by decide) ?_
              refine j_goto X d_M_raise_88 (tgt := 92) (by decide) ?_
              refine j_istore X d_M_raise_92 (by decide) rfl ?_
              refine j_iload X d_M_raise_94 0 rfl ?_
              refine j_if_eq X d_M_raise_96 (tgt := 126) (by decide) (fun h => absurd h (by decide)) (fun _ => ?_)
              refine j_aload_n X d_M_raise_99 rfl 4 rfl ?_
              refine j_iload_n X d_M_raise_100 rfl 3 rfl ?_
              refine j_iconst X (v := (2 : Int32)) d_M_raise_101 (by decide) ?_
              refine j_icmp_ne X d_M_raise_102 (tgt := 109) (by decide) (fun h => ?_) (fun h => ?_)
              · have hw := hw.1 h
                refine j_aload_n X d_M_raise_109 rfl 4 rfl ?_
                refine g_33_22 X f_M_146 (v := (u5 33 22)) rfl d_M_raise_110 ?_
                refine p_33_22 X f_M_146 d_M_raise_113 ?_
                refine j_aload_n X d_M_raise_116 rfl 4 rfl ?_
                refine j_iconst X (v := (0 : Int32)) d_M_raise_117 (by decide) ?_
                refine p_33_21 X f_M_153 d_M_raise_118 ?_
                refine j_aload_n X d_M_raise_121 rfl 4 rfl ?_
                refine j_iconst X (v := (0 : Int32)) d_M_raise_122 (by decide) ?_
                refine p_33_23 X f_M_156 rfl rfl d_M_raise_123 ?_
                exact j_vret X hlk hr d_M_raise_126 hw
              · have hw := hw.2 h
                refine j_iload_n X d_M_raise_105 rfl 2 rfl ?_
                refine j_goto X d_M_raise_106 (tgt := 113) (by decide) ?_
                refine p_33_22 X f_M_146 d_M_raise_113 ?_
                refine j_aload_n X d_M_raise_116 rfl 4 rfl ?_
                refine j_iconst X (v := (0 : Int32)) d_M_raise_117 (by decide) ?_
                refine p_33_21 X f_M_153 d_M_raise_118 ?_
                refine j_aload_n X d_M_raise_121 rfl 4 rfl ?_
                refine j_iconst X (v := (0 : Int32)) d_M_raise_122 (by decide) ?_
                refine p_33_23 X f_M_156 rfl rfl d_M_raise_123 ?_
                exact j_vret X hlk hr d_M_raise_126 hw
      · have hw := hw.2 h
        refine j_aload_n X d_M_raise_51 rfl 3 rfl ?_
        refine j_iload_n X d_M_raise_52 rfl 1 rfl ?_
        refine j_aload_n X d_M_raise_53 rfl 3 rfl ?_
        refine g_33_22 X f_M_146 (v := (u5 33 22)) rfl d_M_raise_54 ?_
        refine j_isub X d_M_raise_57 ?_
        refine j_bipush X (v := (16 : Int32)) d_M_raise_58 (by decide) ?_
        refine j_iadd X d_M_raise_60 ?_
        refine j_bipush X (v := (16 : Int32)) d_M_raise_61 (by decide) ?_
        refine j_irem X d_M_raise_63 (by decide) ?_
        refine j_iload X d_M_raise_64 0 rfl ?_
        refine j_callVv (As := [.int ((((u3 37 (Int32.toNatClampNeg a1)) - (u5 33 22)) + (16 : Int32)) - (((u3 37 (Int32.toNatClampNeg a1)) - (u5 33 22)) + (16 : Int32)) / (16 : Int32) * (16 : Int32)), .int (u3 38 (Int32.toNatClampNeg a1))]) X (c_M_comes l D ca ad sz hD hw) (gcV (n := 2) X rfl rfl rfl gc_M_comes m_M_comes l_M_149 (by decide +kernel) ⟨by decide, by decide⟩) (q0 := 33) rfl rfl (fun _ h => h) rfl rfl (Nat.le_of_ble_eq_true rfl) ⟨by decide, by decide⟩ d_M_raise_66 (fun u6 hw => ?_)
        refine j_iload_n X d_M_raise_69 rfl 2 rfl ?_
        refine j_iconst X (v := (1 : Int32)) d_M_raise_70 (by decide) ?_
        refine j_icmp_eq X d_M_raise_71 (tgt := 87) (by decide) (fun h => ?_) (fun h => ?_)
        · have hw := hw.1 h
          refine j_iconst X (v := (1 : Int32)) d_M_raise_87 (by decide) ?_
          refine j_goto X d_M_raise_88 (tgt := 92) (by decide) ?_
          refine j_istore X d_M_raise_92 (by decide) rfl ?_
          refine j_iload X d_M_raise_94 0 rfl ?_
          refine j_if_eq X d_M_raise_96 (tgt := 126) (by decide) (fun h => absurd h (by decide)) (fun _ => ?_)
          refine j_aload_n X d_M_raise_99 rfl 4 rfl ?_
          refine j_iload_n X d_M_raise_100 rfl 3 rfl ?_
          refine j_iconst X (v := (2 : Int32)) d_M_raise_101 (by decide) ?_
          refine j_icmp_ne X d_M_raise_102 (tgt := 109) (by decide) (fun h => ?_) (fun h => ?_)
          · have hw := hw.1 h
            refine j_aload_n X d_M_raise_109 rfl 4 rfl ?_
            refine g_33_22 X f_M_146 (v := (u6 33 22)) rfl d_M_raise_110 ?_
            refine p_33_22 X f_M_146 d_M_raise_113 ?_
            refine j_aload_n X d_M_raise_116 rfl 4 rfl ?_
            refine j_iconst X (v := (0 : Int32)) d_M_raise_117 (by decide) ?_
            refine p_33_21 X f_M_153 d_M_raise_118 ?_
            refine j_aload_n X d_M_raise_121 rfl 4 rfl ?_
            refine j_iconst X (v := (0 : Int32)) d_M_raise_122 (by decide) ?_
            refine p_33_23 X f_M_156 rfl rfl d_M_raise_123 ?_
            exact j_vret X hlk hr d_M_raise_126 hw
          · have hw := hw.2 h
            refine j_iload_n X d_M_raise_105 rfl 2 rfl ?_
            refine j_goto X d_M_raise_106 (tgt := 113) (by decide) ?_
            refine p_33_22 X f_M_146 d_M_raise_113 ?_
            refine j_aload_n X d_M_raise_116 rfl 4 rfl ?_
            refine j_iconst X (v := (0 : Int32)) d_M_raise_117 (by decide) ?_
            refine p_33_21 X f_M_153 d_M_raise_118 ?_
            refine j_aload_n X d_M_raise_121 rfl 4 rfl ?_
            refine j_iconst X (v := (0 : Int32)) d_M_raise_122 (by decide) ?_
            refine p_33_23 X f_M_156 rfl rfl d_M_raise_123 ?_
            exact j_vret X hlk hr d_M_raise_126 hw
        · have hw := hw.2 h
          refine j_iload_n X d_M_raise_74 rfl 2 rfl ?_
          refine j_iconst X (v := (2 : Int32)) d_M_raise_75 (by decide) ?_
          refine j_icmp_ne X d_M_raise_76 (tgt := 91) (by decide) (fun h => ?_) (fun h => ?_)
          · have hw := hw.1 h
            refine j_iconst X (v := (0 : Int32)) d_M_raise_91 (by decide) ?_
            refine j_istore X d_M_raise_92 (by decide) rfl ?_
            refine j_iload X d_M_raise_94 0 rfl ?_
            refine j_if_eq X d_M_raise_96 (tgt := 126) (by decide) (fun _ => ?_) (fun h => absurd h (by decide))
            exact j_vret X hlk hr d_M_raise_126 hw
          · have hw := hw.2 h
            refine j_aload_n X d_M_raise_79 rfl 3 rfl ?_
            refine g_33_21 X f_M_153 (v := (u6 33 21)) rfl d_M_raise_80 ?_
            refine j_iconst X (v := (2 : Int32)) d_M_raise_83 (by decide) ?_
            refine j_icmp_eq X d_M_raise_84 (tgt := 91) (by decide) (fun h => ?_) (fun h => ?_)
            · have hw := hw.1 h
              refine j_iconst X (v := (0 : Int32)) d_M_raise_91 (by decide) ?_
              refine j_istore X d_M_raise_92 (by decide) rfl ?_
              refine j_iload X d_M_raise_94 0 rfl ?_
              refine j_if_eq X d_M_raise_96 (tgt := 126) (by decide) (fun _ => ?_) (fun h => absurd h (by decide))
              exact j_vret X hlk hr d_M_raise_126 hw
            · have hw := hw.2 h
              refine j_iconst X (v := (1 : Int32)) d_M_raise_87 (by decide) ?_
              refine j_goto X d_M_raise_88 (tgt := 92) (by decide) ?_
              refine j_istore X d_M_raise_92 (by decide) rfl ?_
              refine j_iload X d_M_raise_94 0 rfl ?_
              refine j_if_eq X d_M_raise_96 (tgt := 126) (by decide) (fun h => absurd h (by decide)) (fun _ => ?_)
              refine j_aload_n X d_M_raise_99 rfl 4 rfl ?_
              refine j_iload_n X d_M_raise_100 rfl 3 rfl ?_
              refine j_iconst X (v := (2 : Int32)) d_M_raise_101 (by decide) ?_
              refine j_icmp_ne X d_M_raise_102 (tgt := 109) (by decide) (fun h => ?_) (fun h => ?_)
              · have hw := hw.1 h
                refine j_aload_n X d_M_raise_109 rfl 4 rfl ?_
                refine g_33_22 X f_M_146 (v := (u6 33 22)) rfl d_M_raise_110 ?_
                refine p_33_22 X f_M_146 d_M_raise_113 ?_
                refine j_aload_n X d_M_raise_116 rfl 4 rfl ?_
                refine j_iconst X (v := (0 : Int32)) d_M_raise_117 (by decide) ?_
                refine p_33_21 X f_M_153 d_M_raise_118 ?_
                refine j_aload_n X d_M_raise_121 rfl 4 rfl ?_
                refine j_iconst X (v := (0 : Int32)) d_M_raise_122 (by decide) ?_
                refine p_33_23 X f_M_156 rfl rfl d_M_raise_123 ?_
                exact j_vret X hlk hr d_M_raise_126 hw
              · have hw := hw.2 h
                refine j_iload_n X d_M_raise_105 rfl 2 rfl ?_
                refine j_goto X d_M_raise_106 (tgt := 113) (by decide) ?_
                refine p_33_22 X f_M_146 d_M_raise_113 ?_
                refine j_aload_n X d_M_raise_116 rfl 4 rfl ?_
                refine j_iconst X (v := (0 : Int32)) d_M_raise_117 (by decide) ?_
                refine p_33_21 X f_M_153 d_M_raise_118 ?_
                refine j_aload_n X d_M_raise_121 rfl 4 rfl ?_
                refine j_iconst X (v := (0 : Int32)) d_M_raise_122 (by decide) ?_
                refine p_33_23 X f_M_156 rfl rfl d_M_raise_123 ?_
                exact j_vret X hlk hr d_M_raise_126 hw
    · have hw := hw.2 h
      exact j_vret X hlk hr d_M_raise_19 hw
  exact hX
def w_M_drop (a1 : Int32) (σ : Jst) (K : Jst → Prop) : Prop := w_M_outside a1 (0 : Int32) ((σ 33 17) - (1 : Int32)) σ (fun r2 u1 => w_M_fails r2 (0 : Int32) u1 (fun r4 u3 => ((¬ r4 = (0 : Int32) → K u3) ∧ (r4 = (0 : Int32) → w_M_out a1 u3 (fun u5 => K u5)))))
abbrev rm_M_drop : Room := { frames := 1, cells := 0, slots := 0, locals := 22 }
set_option maxRecDepth 100000 in
set_option maxHeartbeats 4000000 in
theorem c_M_drop (l : Launch) (D : va_G) (ca ad : Nat → Nat) (sz : Nat) (hD : Jd ca ad sz) {a1 : Int32} {σ : Jst} {K : Jst → Prop} (hw : w_M_drop a1 σ K) : Met l y_M_drop (wG y_M_drop b_M_drop 2 none) rm_M_drop (va_Pc [.ref (ad 33), .int a1] (Jw D vwCl (tysT ca) (wlT ad ca) (NwT sz) σ)) (va_Qv K (Jq D vwCl (wlT ad ca)) (Aw sz)) 0 0 (Aw sz) := by
  refine j_met (cc := b_M_drop) (own := R_M) (by decide +kernel) rfl (Nat.le_of_ble_eq_true rfl) rfl hD (nwT_k sz) ?_
  intro p e s m args below meth c X hlk hr
  have hX : J p l e rm_M_drop s m args below meth c D vwCl (wlT ad ca) (Aw sz) 2 0 0 (MQ below (va_Qv K (Jq D vwCl (wlT ad ca)) (Aw sz)) args s 0 0 (Aw sz)) 0 [(0, .ref (ad 33)), (1, .int a1)] [] σ := by
    unfold w_M_drop at hw
    refine j_aload_n X d_M_drop_0 rfl 0 rfl ?_
    refine j_iload_n X d_M_drop_1 rfl 1 rfl ?_
    refine j_iconst X (v := (0 : Int32)) d_M_drop_2 (by decide) ?_
    refine j_aload_n X d_M_drop_3 rfl 0 rfl ?_
    refine g_33_17 X f_M_130 (v := (σ 33 17)) rfl d_M_drop_4 ?_
    refine j_iconst X (v := (1 : Int32)) d_M_drop_7 (by decide) ?_
    refine j_isub X d_M_drop_8 ?_
    refine j_callSi (As := [.int a1, .int (0 : Int32), .int ((σ 33 17) - (1 : Int32))]) X (c_M_outside l D ca ad sz hD hw) (gcS (n := 3) X rfl rfl rfl gc_M_outside m_M_outside l_M_84 (by decide +kernel) ⟨by decide, by decide⟩) (fun _ h => h) rfl rfl (Nat.le_of_ble_eq_true rfl) ⟨by decide, by decide⟩ d_M_drop_9 (fun r2 u1 hw => ?_)
    refine j_iconst X (v := (0 : Int32)) d_M_drop_12 (by decide) ?_
    refine j_callVi (As := [.int r2, .int (0 : Int32)]) X (c_M_fails l D ca ad sz hD hw) (gcV (n := 2) X rfl rfl rfl gc_M_fails m_M_fails l_M_88 (by decide +kernel) ⟨by decide, by decide⟩) (q0 := 33) rfl rfl (fun _ h => h) rfl rfl (Nat.le_of_ble_eq_true rfl) ⟨by decide, by decide⟩ d_M_drop_13 (fun r4 u3 hw => ?_)
    refine j_if_ne X d_M_drop_16 (tgt := 24) (by decide) (fun h => ?_) (fun h => ?_)
    · have hw := hw.1 h
      exact j_vret X hlk hr d_M_drop_24 hw
    · have hw := hw.2 h
      refine j_aload_n X d_M_drop_19 rfl 0 rfl ?_
      refine j_iload_n X d_M_drop_20 rfl 1 rfl ?_
      refine j_callVv (As := [.int a1]) X (c_M_out l D ca ad sz hD hw) (gcV (n := 1) X rfl rfl rfl gc_M_out m_M_out l_M_143 (by decide +kernel) ⟨by decide, by decide⟩) (q0 := 33) rfl rfl (fun _ h => h) rfl rfl (Nat.le_of_ble_eq_true rfl) ⟨by decide, by decide⟩ d_M_drop_21 (fun u5 hw => ?_)
      exact j_vret X hlk hr d_M_drop_24 hw
  exact hX
def w_M_take (σ : Jst) (K : Int32 → Jst → Prop) : Prop := ((¬ (σ 33 24) = (0 : Int32) → w_M_fails (0 : Int32) (0 : Int32) σ (fun r2 u1 => ((r2 = (0 : Int32) → ((¬ (u1 33 21) = (1 : Int32) → K (u1 39 (Int32.toNatClampNeg (0 : Int32))) (jup (jup (jup (jup u1 39 (Int32.toNatClampNeg (0 : Int32)) (u1 39 (Int32.toNatClampNeg (1 : Int32)))) 39 (Int32.toNatClampNeg (1 : Int32)) ((upd (u1 39) (Int32.toNatClampNeg (0 : Int32)) (u1 39 (Int32.toNatClampNeg (1 : Int32)))) (Int32.toNatClampNeg (2 : Int32)))) 33 24 ((u1 33 24) - (1 : Int32))) 33 21 (u1 33 21))) ∧ ((u1 33 21) = (1 : Int32) → K (u1 39 (Int32.toNatClampNeg (0 : Int32))) (jup (jup (jup (jup u1 39 (Int32.toNatClampNeg (0 : Int32)) (u1 39 (Int32.toNatClampNeg (1 : Int32)))) 39 (Int32.toNatClampNeg (1 : Int32)) ((upd (u1 39) (Int32.toNatClampNeg (0 : Int32)) (u1 39 (Int32.toNatClampNeg (1 : Int32)))) (Int32.toNatClampNeg (2 : Int32)))) 33 24 ((u1 33 24) - (1 : Int32))) 33 21 (0 : Int32))))) ∧ (¬ r2 = (0 : Int32) → K (0 : Int32) u1)))) ∧ ((σ 33 24) = (0 : Int32) → w_M_fails (1 : Int32) (0 : Int32) σ (fun r4 u3 => ((r4 = (0 : Int32) → ((¬ (u3 33 21) = (1 : Int32) → K (u3 39 (Int32.toNatClampNeg (0 : Int32))) (jup (jup (jup (jup u3 39 (Int32.toNatClampNeg (0 : Int32)) (u3 39 (Int32.toNatClampNeg (1 : Int32)))) 39 (Int32.toNatClampNeg (1 : Int32)) ((upd (u3 39) (Int32.toNatClampNeg (0 : Int32)) (u3 39 (Int32.toNatClampNeg (1 : Int32)))) (Int32.toNatClampNeg (2 : Int32)))) 33 24 ((u3 33 24) - (1 : Int32))) 33 21 (u3 33 21))) ∧ ((u3 33 21) = (1 : Int32) → K (u3 39 (Int32.toNatClampNeg (0 : Int32))) (jup (jup (jup (jup u3 39 (Int32.toNatClampNeg (0 : Int32)) (u3 39 (Int32.toNatClampNeg (1 : Int32)))) 39 (Int32.toNatClampNeg (1 : Int32)) ((upd (u3 39) (Int32.toNatClampNeg (0 : Int32)) (u3 39 (Int32.toNatClampNeg (1 : Int32)))) (Int32.toNatClampNeg (2 : Int32)))) 33 24 ((u3 33 24) - (1 : Int32))) 33 21 (0 : Int32))))) ∧ (¬ r4 = (0 : Int32) → K (0 : Int32) u3)))))
abbrev rm_M_take : Room := { frames := 1, cells := 0, slots := 0, locals := 22 }
set_option maxRecDepth 100000 in
set_option maxHeartbeats 4000000 in
theorem c_M_take (l : Launch) (D : va_G) (ca ad : Nat → Nat) (sz : Nat) (hD : Jd ca ad sz) {σ : Jst} {K : Int32 → Jst → Prop} (hw : w_M_take σ K) : Met l y_M_take (wG y_M_take b_M_take 2 (some .int)) rm_M_take (va_Pc [.ref (ad 33)] (Jw D vwCl (tysT ca) (wlT ad ca) (NwT sz) σ)) (va_Qi K (Jq D vwCl (wlT ad ca)) (Aw sz)) 0 0 (Aw sz) := by
  refine j_met (cc := b_M_take) (own := R_M) (by decide +kernel) rfl (Nat.le_of_ble_eq_true rfl) rfl hD (nwT_k sz) ?_
  intro p e s m args below meth c X hlk hr
  have hX : J p l e rm_M_take s m args below meth c D vwCl (wlT ad ca) (Aw sz) 2 0 0 (MQ below (va_Qi K (Jq D vwCl (wlT ad ca)) (Aw sz)) args s 0 0 (Aw sz)) 0 [(0, .ref (ad 33))] [] σ := by
    unfold w_M_take at hw
    refine j_aload_n X d_M_take_0 rfl 0 rfl ?_
    refine j_aload_n X d_M_take_1 rfl 0 rfl ?_
    refine g_33_24 X f_M_159 (v := (σ 33 24)) rfl d_M_take_2 ?_
    refine j_if_ne X d_M_take_5 (tgt := 12) (by decide) (fun h => ?_) (fun h => ?_)
    · have hw := hw.1 h
      refine j_iconst X (v := (0 : Int32)) d_M_take_12 (by decide) ?_
      refine j_iconst X (v := (0 : Int32)) d_M_take_13 (by decide) ?_
      refine j_callVi (As := [.int (0 : Int32), .int (0 : Int32)]) X (c_M_fails l D ca ad sz hD hw) (gcV (n := 2) X rfl rfl rfl gc_M_fails m_M_fails l_M_88 (by decide +kernel) ⟨by decide, by decide⟩) (q0 := 33) rfl rfl (fun _ h => h) rfl rfl (Nat.le_of_ble_eq_true rfl) ⟨by decide, by decide⟩ d_M_take_14 (fun r2 u1 hw => ?_)
      refine j_if_eq X d_M_take_17 (tgt := 22) (by decide) (fun h => ?_) (fun h => ?_)
      · have hw := hw.1 h
        refine j_aload_n X d_M_take_22 rfl 0 rfl ?_
        refine g_33_25 X f_M_36 d_M_take_23 ?_
        refine j_iconst X (v := (0 : Int32)) d_M_take_26 (by decide) ?_
        refine ld_39 X (vin_lit (0 : Int32) 3 (by decide)) (v := (u1 39 (Int32.toNatClampNeg (0 : Int32)))) rfl d_M_take_27 ?_
        refine j_istore_n X d_M_take_28 rfl (by decide) rfl ?_
        refine j_aload_n X d_M_take_29 rfl 1 rfl ?_
        refine g_33_25 X f_M_36 d_M_take_30 ?_
        refine j_iconst X (v := (0 : Int32)) d_M_take_33 (by decide) ?_
        refine j_aload_n X d_M_take_34 rfl 1 rfl ?_
        refine g_33_25 X f_M_36 d_M_take_35 ?_
        refine j_iconst X (v := (1 : Int32)) d_M_take_38 (by decide) ?_
        refine ld_39 X (vin_lit (1 : Int32) 3 (by decide)) (v := (u1 39 (Int32.toNatClampNeg (1 : Int32)))) rfl d_M_take_39 ?_
        refine sr_39 X (vin_lit (0 : Int32) 3 (by decide)) d_M_take_40 ?_
        refine j_aload_n X d_M_take_41 rfl 1 rfl ?_
        refine g_33_25 X f_M_36 d_M_take_42 ?_
        refine j_iconst X (v := (1 : Int32)) d_M_take_45 (by decide) ?_
        refine j_aload_n X d_M_take_46 rfl 1 rfl ?_
        refine g_33_25 X f_M_36 d_M_take_47 ?_
        refine j_iconst X (v := (2 : Int32)) d_M_take_50 (by decide) ?_
        refine ld_39 X (vin_lit (2 : Int32) 3 (by decide)) (v := ((upd (u1 39) (Int32.toNatClampNeg (0 : Int32)) (u1 39 (Int32.toNatClampNeg (1 : Int32)))) (Int32.toNatClampNeg (2 : Int32)))) rfl d_M_take_51 ?_
        refine sr_39 X (vin_lit (1 : Int32) 3 (by decide)) d_M_take_52 ?_
        refine j_aload_n X d_M_take_53 rfl 1 rfl ?_
        refine j_dup X d_M_take_54 rfl ?_
        refine g_33_24 X f_M_159 (v := (u1 33 24)) rfl d_M_take_55 ?_
        refine j_iconst X (v := (1 : Int32)) d_M_take_58 (by decide) ?_
        refine j_isub X d_M_take_59 ?_
        refine p_33_24 X f_M_159 d_M_take_60 ?_
        refine j_aload_n X d_M_take_63 rfl 1 rfl ?_
        refine j_aload_n X d_M_take_64 rfl 1 rfl ?_
        refine g_33_21 X f_M_153 (v := (u1 33 21)) rfl d_M_take_65 ?_
        refine j_iconst X (v := (1 : Int32)) d_M_take_68 (by decide) ?_
        refine j_icmp_ne X d_M_take_69 (tgt := 76) (by decide) (fun h => ?_) (fun h => ?_)
        · have hw := hw.1 h
          refine j_aload_n X d_M_take_76 rfl 1 rfl ?_
          refine g_33_21 X f_M_153 (v := (u1 33 21)) rfl d_M_take_77 ?_
          refine p_33_21 X f_M_153 d_M_take_80 ?_
          refine j_iload_n X d_M_take_83 rfl 0 rfl ?_
          exact j_iret X hlk hr d_M_take_84 hw
        · have hw := hw.2 h
          refine j_iconst X (v := (0 : Int32)) d_M_take_72 (by decide) ?_
          refine j_goto X d_M_take_73 (tgt := 80) (by decide) ?_
          refine p_33_21 X f_M_153 d_M_take_80 ?_
          refine j_iload_n X d_M_take_83 rfl 0 rfl ?_
          exact j_iret X hlk hr d_M_take_84 hw
      · have hw := hw.2 h
        refine j_iconst X (v := (0 : Int32)) d_M_take_20 (by decide) ?_
        exact j_iret X hlk hr d_M_take_21 hw
    · have hw := hw.2 h
      refine j_iconst X (v := (1 : Int32)) d_M_take_8 (by decide) ?_
      refine j_goto X d_M_take_9 (tgt := 13) (by decide) ?_
      refine j_iconst X (v := (0 : Int32)) d_M_take_13 (by decide) ?_
      refine j_callVi (As := [.int (1 : Int32), .int (0 : Int32)]) X (c_M_fails l D ca ad sz hD hw) (gcV (n := 2) X rfl rfl rfl gc_M_fails m_M_fails l_M_88 (by decide +kernel) ⟨by decide, by decide⟩) (q0 := 33) rfl rfl (fun _ h => h) rfl rfl (Nat.le_of_ble_eq_true rfl) ⟨by decide, by decide⟩ d_M_take_14 (fun r4 u3 hw => ?_)
      refine j_if_eq X d_M_take_17 (tgt := 22) (by decide) (fun h => ?_) (fun h => ?_)
      · have hw := hw.1 h
        refine j_aload_n X d_M_take_22 rfl 0 rfl ?_
        refine g_33_25 X f_M_36 d_M_take_23 ?_
        refine j_iconst X (v := (0 : Int32)) d_M_take_26 (by decide) ?_
        refine ld_39 X (vin_lit (0 : Int32) 3 (by decide)) (v := (u3 39 (Int32.toNatClampNeg (0 : Int32)))) rfl d_M_take_27 ?_
        refine j_istore_n X d_M_take_28 rfl (by decide) rfl ?_
        refine j_aload_n X d_M_take_29 rfl 1 rfl ?_
        refine g_33_25 X f_M_36 d_M_take_30 ?_
        refine j_iconst X (v := (0 : Int32)) d_M_take_33 (by decide) ?_
        refine j_aload_n X d_M_take_34 rfl 1 rfl ?_
        refine g_33_25 X f_M_36 d_M_take_35 ?_
        refine j_iconst X (v := (1 : Int32)) d_M_take_38 (by decide) ?_
        refine ld_39 X (vin_lit (1 : Int32) 3 (by decide)) (v := (u3 39 (Int32.toNatClampNeg (1 : Int32)))) rfl d_M_take_39 ?_
        refine sr_39 X (vin_lit (0 : Int32) 3 (by decide)) d_M_take_40 ?_
        refine j_aload_n X d_M_take_41 rfl 1 rfl ?_
        refine g_33_25 X f_M_36 d_M_take_42 ?_
        refine j_iconst X (v := (1 : Int32)) d_M_take_45 (by decide) ?_
        refine j_aload_n X d_M_take_46 rfl 1 rfl ?_
        refine g_33_25 X f_M_36 d_M_take_47 ?_
        refine j_iconst X (v := (2 : Int32)) d_M_take_50 (by decide) ?_
        refine ld_39 X (vin_lit (2 : Int32) 3 (by decide)) (v := ((upd (u3 39) (Int32.toNatClampNeg (0 : Int32)) (u3 39 (Int32.toNatClampNeg (1 : Int32)))) (Int32.toNatClampNeg (2 : Int32)))) rfl d_M_take_51 ?_
        refine sr_39 X (vin_lit (1 : Int32) 3 (by decide)) d_M_take_52 ?_
        refine j_aload_n X d_M_take_53 rfl 1 rfl ?_
        refine j_dup X d_M_take_54 rfl ?_
        refine g_33_24 X f_M_159 (v := (u3 33 24)) rfl d_M_take_55 ?_
        refine j_iconst X (v := (1 : Int32)) d_M_take_58 (by decide) ?_
        refine j_isub X d_M_take_59 ?_
        refine p_33_24 X f_M_159 d_M_take_60 ?_
        refine j_aload_n X d_M_take_63 rfl 1 rfl ?_
        refine j_aload_n X d_M_take_64 rfl 1 rfl ?_
        refine g_33_21 X f_M_153 (v := (u3 33 21)) rfl d_M_take_65 ?_
        refine j_iconst X (v := (1 : Int32)) d_M_take_68 (by decide) ?_
        refine j_icmp_ne X d_M_take_69 (tgt := 76) (by decide) (fun h => ?_) (fun h => ?_)
        · have hw := hw.1 h
          refine j_aload_n X d_M_take_76 rfl 1 rfl ?_
          refine g_33_21 X f_M_153 (v := (u3 33 21)) rfl d_M_take_77 ?_
          refine p_33_21 X f_M_153 d_M_take_80 ?_
          refine j_iload_n X d_M_take_83 rfl 0 rfl ?_
          exact j_iret X hlk hr d_M_take_84 hw
        · have hw := hw.2 h
          refine j_iconst X (v := (0 : Int32)) d_M_take_72 (by decide) ?_
          refine j_goto X d_M_take_73 (tgt := 80) (by decide) ?_
          refine p_33_21 X f_M_153 d_M_take_80 ?_
          refine j_iload_n X d_M_take_83 rfl 0 rfl ?_
          exact j_iret X hlk hr d_M_take_84 hw
      · have hw := hw.2 h
        refine j_iconst X (v := (0 : Int32)) d_M_take_20 (by decide) ?_
        exact j_iret X hlk hr d_M_take_21 hw
  exact hX
def w_M_report (σ : Jst) (K : Int32 → Jst → Prop) : Prop := ((¬ (σ 33 26) = (20 : Int32) → (((σ 33 23) = (0 : Int32) → ((¬ (σ 33 21) = (2 : Int32) → ((¬ (σ 33 21) = (1 : Int32) → (vp_in (σ 33 26) 20 ∧ K (1 : Int32) (jup (jup (jup σ 33 0 (0 : Int32)) 40 (Int32.toNatClampNeg (σ 33 26)) ((((σ 33 22) + (0 : Int32)) + (0 : Int32)) + (0 : Int32))) 33 26 ((σ 33 26) + (1 : Int32))))) ∧ ((σ 33 21) = (1 : Int32) → (vp_in (σ 33 26) 20 ∧ K (1 : Int32) (jup (jup (jup σ 33 0 (0 : Int32)) 40 (Int32.toNatClampNeg (σ 33 26)) ((((σ 33 22) + (0 : Int32)) + (0 : Int32)) + (64 : Int32))) 33 26 ((σ 33 26) + (1 : Int32))))))) ∧ ((σ 33 21) = (2 : Int32) → ((¬ (σ 33 21) = (1 : Int32) → (vp_in (σ 33 26) 20 ∧ K (1 : Int32) (jup (jup (jup σ 33 0 (0 : Int32)) 40 (Int32.toNatClampNeg (σ 33 26)) ((((σ 33 22) + (0 : Int32)) + (32 : Int32)) + (0 : Int32))) 33 26 ((σ 33 26) + (1 : Int32))))) ∧ ((σ 33 21) = (1 : Int32) → (vp_in (σ 33 26) 20 ∧ K (1 : Int32) (jup (jup (jup σ 33 0 (0 : Int32)) 40 (Int32.toNatClampNeg (σ 33 26)) ((((σ 33 22) + (0 : Int32)) + (32 : Int32)) + (64 : Int32))) 33 26 ((σ 33 26) + (1 : Int32))))))))) ∧ (¬ (σ 33 23) = (0 : Int32) → ((¬ (σ 33 21) = (2 : Int32) → ((¬ (σ 33 21) = (1 : Int32) → (vp_in (σ 33 26) 20 ∧ K (1 : Int32) (jup (jup (jup σ 33 0 (0 : Int32)) 40 (Int32.toNatClampNeg (σ 33 26)) ((((σ 33 22) + (16 : Int32)) + (0 : Int32)) + (0 : Int32))) 33 26 ((σ 33 26) + (1 : Int32))))) ∧ ((σ 33 21) = (1 : Int32) → (vp_in (σ 33 26) 20 ∧ K (1 : Int32) (jup (jup (jup σ 33 0 (0 : Int32)) 40 (Int32.toNatClampNeg (σ 33 26)) ((((σ 33 22) + (16 : Int32)) + (0 : Int32)) + (64 : Int32))) 33 26 ((σ 33 26) + (1 : Int32))))))) ∧ ((σ 33 21) = (2 : Int32) → ((¬ (σ 33 21) = (1 : Int32) → (vp_in (σ 33 26) 20 ∧ K (1 : Int32) (jup (jup (jup σ 33 0 (0 : Int32)) 40 (Int32.toNatClampNeg (σ 33 26)) ((((σ 33 22) + (16 : Int32)) + (32 : Int32)) + (0 : Int32))) 33 26 ((σ 33 26) + (1 : Int32))))) ∧ ((σ 33 21) = (1 : Int32) → (vp_in (σ 33 26) 20 ∧ K (1 : Int32) (jup (jup (jup σ 33 0 (0 : Int32)) 40 (Int32.toNatClampNeg (σ 33 26)) ((((σ 33 22) + (16 : Int32)) + (32 : Int32)) + (64 : Int32))) 33 26 ((σ 33 26) + (1 : Int32))))))))))) ∧ ((σ 33 26) = (20 : Int32) → K (0 : Int32) (jup σ 33 0 (0 : Int32))))
abbrev rm_M_report : Room := { frames := 0, cells := 0, slots := 0, locals := 0 }
set_option maxRecDepth 100000 in
set_option maxHeartbeats 4000000 in
theorem c_M_report (l : Launch) (D : va_G) (ca ad : Nat → Nat) (sz : Nat) (hD : Jd ca ad sz) {σ : Jst} {K : Int32 → Jst → Prop} (hw : w_M_report σ K) : Met l y_M_report (wG y_M_report b_M_report 1 (some .boolean)) rm_M_report (va_Pc [.ref (ad 33)] (Jw D vwCl (tysT ca) (wlT ad ca) (NwT sz) σ)) (va_Qi K (Jq D vwCl (wlT ad ca)) (Aw sz)) 0 0 (Aw sz) := by
  refine j_met (cc := b_M_report) (own := R_M) (by decide +kernel) rfl (Nat.le_of_ble_eq_true rfl) rfl hD (nwT_k sz) ?_
  intro p e s m args below meth c X hlk hr
  have hX : J p l e rm_M_report s m args below meth c D vwCl (wlT ad ca) (Aw sz) 1 0 0 (MQ below (va_Qi K (Jq D vwCl (wlT ad ca)) (Aw sz)) args s 0 0 (Aw sz)) 0 [(0, .ref (ad 33))] [] σ := by
    unfold w_M_report at hw
    refine j_aload_n X d_M_report_0 rfl 0 rfl ?_
    refine j_iconst X (v := (0 : Int32)) d_M_report_1 (by decide) ?_
    refine p_33_0 X f_M_78 d_M_report_2 ?_
    refine j_aload_n X d_M_report_5 rfl 0 rfl ?_
    refine g_33_26 X f_M_162 (v := (σ 33 26)) rfl d_M_report_6 ?_
    refine j_bipush X (v := (20 : Int32)) d_M_report_9 (by decide) ?_
    refine j_icmp_ne X d_M_report_11 (tgt := 16) (by decide) (fun h => ?_) (fun h => ?_)
    · have hw := hw.1 h
      refine j_aload_n X d_M_report_16 rfl 0 rfl ?_
      refine g_33_27 X f_M_39 d_M_report_17 ?_
      refine j_aload_n X d_M_report_20 rfl 0 rfl ?_
      refine g_33_26 X f_M_162 (v := (σ 33 26)) rfl d_M_report_21 ?_
      refine j_aload_n X d_M_report_24 rfl 0 rfl ?_
      refine g_33_22 X f_M_146 (v := (σ 33 22)) rfl d_M_report_25 ?_
      refine j_aload_n X d_M_report_28 rfl 0 rfl ?_
      refine g_33_23 X f_M_156 (v := (σ 33 23)) rfl d_M_report_29 ?_
      refine j_if_eq X d_M_report_32 (tgt := 40) (by decide) (fun h => ?_) (fun h => ?_)
      · have hw := hw.1 h
        refine j_iconst X (v := (0 : Int32)) d_M_report_40 (by decide) ?_
        refine j_iadd X d_M_report_41 ?_
        refine j_aload_n X d_M_report_42 rfl 0 rfl ?_
        refine g_33_21 X f_M_153 (v := (σ 33 21)) rfl d_M_report_43 ?_
        refine j_iconst X (v := (2 : Int32)) d_M_report_46 (by decide) ?_
        refine j_icmp_ne X d_M_report_47 (tgt := 55) (by decide) (fun h => ?_) (fun h => ?_)
        · have hw := hw.1 h
          refine j_iconst X (v := (0 : Int32)) d_M_report_55 (by decide) ?_
          refine j_iadd X d_M_report_56 ?_
          refine j_aload_n X d_M_report_57 rfl 0 rfl ?_
          refine g_33_21 X f_M_153 (v := (σ 33 21)) rfl d_M_report_58 ?_
          refine j_iconst X (v := (1 : Int32)) d_M_report_61 (by decide) ?_
          refine j_icmp_ne X d_M_report_62 (tgt := 70) (by decide) (fun h => ?_) (fun h => ?_)
          · have hw := hw.1 h
            refine j_iconst X (v := (0 : Int32)) d_M_report_70 (by decide) ?_
            refine j_iadd X d_M_report_71 ?_
            refine sr_40 X hw.1 d_M_report_72 ?_
            have hw := hw.2
            refine j_aload_n X d_M_report_73 rfl 0 rfl ?_
            refine j_dup X d_M_report_74 rfl ?_
            refine g_33_26 X f_M_162 (v := (σ 33 26)) rfl d_M_report_75 ?_
            refine j_iconst X (v := (1 : Int32)) d_M_report_78 (by decide) ?_
            refine j_iadd X d_M_report_79 ?_
            refine p_33_26 X f_M_162 d_M_report_80 ?_
            refine j_iconst X (v := (1 : Int32)) d_M_report_83 (by decide) ?_
            exact j_zret X hlk hr rfl d_M_report_84 hw
          · have hw := hw.2 h
            refine j_bipush X (v := (64 : Int32)) d_M_report_65 (by decide) ?_
            refine j_goto X d_M_report_67 (tgt := 71) (by decide) ?_
            refine j_iadd X d_M_report_71 ?_
            refine sr_40 X hw.1 d_M_report_72 ?_
            have hw := hw.2
            refine j_aload_n X d_M_report_73 rfl 0 rfl ?_
            refine j_dup X d_M_report_74 rfl ?_
            refine g_33_26 X f_M_162 (v := (σ 33 26)) rfl d_M_report_75 ?_
            refine j_iconst X (v := (1 : Int32)) d_M_report_78 (by decide) ?_
            refine j_iadd X d_M_report_79 ?_
            refine p_33_26 X f_M_162 d_M_report_80 ?_
            refine j_iconst X (v := (1 : Int32)) d_M_report_83 (by decide) ?_
            exact j_zret X hlk hr rfl d_M_report_84 hw
        · have hw := hw.2 h
          refine j_bipush X (v := (32 : Int32)) d_M_report_50 (by decide) ?_
          refine j_goto X d_M_report_52 (tgt := 56) (by decide) ?_
          refine j_iadd X d_M_report_56 ?_
          refine j_aload_n X d_M_report_57 rfl 0 rfl ?_
          refine g_33_21 X f_M_153 (v := (σ 33 21)) rfl d_M_report_58 ?_
          refine j_iconst X (v := (1 : Int32)) d_M_report_61 (by decide) ?_
          refine j_icmp_ne X d_M_report_62 (tgt := 70) (by decide) (fun h => ?_) (fun h => ?_)
          · have hw := hw.1 h
            refine j_iconst X (v := (0 : Int32)) d_M_report_70 (by decide) ?_
            refine j_iadd X d_M_report_71 ?_
            refine sr_40 X hw.1 d_M_report_72 ?_
            have hw := hw.2
            refine j_aload_n X d_M_report_73 rfl 0 rfl ?_
            refine j_dup X d_M_report_74 rfl ?_
            refine g_33_26 X f_M_162 (v := (σ 33 26)) rfl d_M_report_75 ?_
            refine j_iconst X (v := (1 : Int32)) d_M_report_78 (by decide) ?_
            refine j_iadd X d_M_report_79 ?_
            refine p_33_26 X f_M_162 d_M_report_80 ?_
            refine j_iconst X (v := (1 : Int32)) d_M_report_83 (by decide) ?_
            exact j_zret X hlk hr rfl d_M_report_84 hw
          · have hw := hw.2 h
            refine j_bipush X (v := (64 : Int32)) d_M_report_65 (by decide) ?_
            refine j_goto X d_M_report_67 (tgt := 71) (by decide) ?_
            refine j_iadd X d_M_report_71 ?_
            refine sr_40 X hw.1 d_M_report_72 ?_
            have hw := hw.2
            refine j_aload_n X d_M_report_73 rfl 0 rfl ?_
            refine j_dup X d_M_report_74 rfl ?_
            refine g_33_26 X f_M_162 (v := (σ 33 26)) rfl d_M_report_75 ?_
            refine j_iconst X (v := (1 : Int32)) d_M_report_78 (by decide) ?_
            refine j_iadd X d_M_report_79 ?_
            refine p_33_26 X f_M_162 d_M_report_80 ?_
            refine j_iconst X (v := (1 : Int32)) d_M_report_83 (by decide) ?_
            exact j_zret X hlk hr rfl d_M_report_84 hw
      · have hw := hw.2 h
        refine j_bipush X (v := (16 : Int32)) d_M_report_35 (by decide) ?_
        refine j_goto X d_M_report_37 (tgt := 41) (by decide) ?_
        refine j_iadd X d_M_report_41 ?_
        refine j_aload_n X d_M_report_42 rfl 0 rfl ?_
        refine g_33_21 X f_M_153 (v := (σ 33 21)) rfl d_M_report_43 ?_
        refine j_iconst X (v := (2 : Int32)) d_M_report_46 (by decide) ?_
        refine j_icmp_ne X d_M_report_47 (tgt := 55) (by decide) (fun h => ?_) (fun h => ?_)
        · have hw := hw.1 h
          refine j_iconst X (v := (0 : Int32)) d_M_report_55 (by decide) ?_
          refine j_iadd X d_M_report_56 ?_
          refine j_aload_n X d_M_report_57 rfl 0 rfl ?_
          refine g_33_21 X f_M_153 (v := (σ 33 21)) rfl d_M_report_58 ?_
          refine j_iconst X (v := (1 : Int32)) d_M_report_61 (by decide) ?_
          refine j_icmp_ne X d_M_report_62 (tgt := 70) (by decide) (fun h => ?_) (fun h => ?_)
          · have hw := hw.1 h
            refine j_iconst X (v := (0 : Int32)) d_M_report_70 (by decide) ?_
            refine j_iadd X d_M_report_71 ?_
            refine sr_40 X hw.1 d_M_report_72 ?_
            have hw := hw.2
            refine j_aload_n X d_M_report_73 rfl 0 rfl ?_
            refine j_dup X d_M_report_74 rfl ?_
            refine g_33_26 X f_M_162 (v := (σ 33 26)) rfl d_M_report_75 ?_
            refine j_iconst X (v := (1 : Int32)) d_M_report_78 (by decide) ?_
            refine j_iadd X d_M_report_79 ?_
            refine p_33_26 X f_M_162 d_M_report_80 ?_
            refine j_iconst X (v := (1 : Int32)) d_M_report_83 (by decide) ?_
            exact j_zret X hlk hr rfl d_M_report_84 hw
          · have hw := hw.2 h
            refine j_bipush X (v := (64 : Int32)) d_M_report_65 (by decide) ?_
            refine j_goto X d_M_report_67 (tgt := 71) (by decide) ?_
            refine j_iadd X d_M_report_71 ?_
            refine sr_40 X hw.1 d_M_report_72 ?_
            have hw := hw.2
            refine j_aload_n X d_M_report_73 rfl 0 rfl ?_
            refine j_dup X d_M_report_74 rfl ?_
            refine g_33_26 X f_M_162 (v := (σ 33 26)) rfl d_M_report_75 ?_
            refine j_iconst X (v := (1 : Int32)) d_M_report_78 (by decide) ?_
            refine j_iadd X d_M_report_79 ?_
            refine p_33_26 X f_M_162 d_M_report_80 ?_
            refine j_iconst X (v := (1 : Int32)) d_M_report_83 (by decide) ?_
            exact j_zret X hlk hr rfl d_M_report_84 hw
        · have hw := hw.2 h
          refine j_bipush X (v := (32 : Int32)) d_M_report_50 (by decide) ?_
          refine j_goto X d_M_report_52 (tgt := 56) (by decide) ?_
          refine j_iadd X d_M_report_56 ?_
          refine j_aload_n X d_M_report_57 rfl 0 rfl ?_
          refine g_33_21 X f_M_153 (v := (σ 33 21)) rfl d_M_report_58 ?_
          refine j_iconst X (v := (1 : Int32)) d_M_report_61 (by decide) ?_
          refine j_icmp_ne X d_M_report_62 (tgt := 70) (by decide) (fun h => ?_) (fun h => ?_)
          · have hw := hw.1 h
            refine j_iconst X (v := (0 : Int32)) d_M_report_70 (by decide) ?_
            refine j_iadd X d_M_report_71 ?_
            refine sr_40 X hw.1 d_M_report_72 ?_
            have hw := hw.2
            refine j_aload_n X d_M_report_73 rfl 0 rfl ?_
            refine j_dup X d_M_report_74 rfl ?_
            refine g_33_26 X f_M_162 (v := (σ 33 26)) rfl d_M_report_75 ?_
            refine j_iconst X (v := (1 : Int32)) d_M_report_78 (by decide) ?_
            refine j_iadd X d_M_report_79 ?_
            refine p_33_26 X f_M_162 d_M_report_80 ?_
            refine j_iconst X (v := (1 : Int32)) d_M_report_83 (by decide) ?_
            exact j_zret X hlk hr rfl d_M_report_84 hw
          · have hw := hw.2 h
            refine j_bipush X (v := (64 : Int32)) d_M_report_65 (by decide) ?_
            refine j_goto X d_M_report_67 (tgt := 71) (by decide) ?_
            refine j_iadd X d_M_report_71 ?_
            refine sr_40 X hw.1 d_M_report_72 ?_
            have hw := hw.2
            refine j_aload_n X d_M_report_73 rfl 0 rfl ?_
            refine j_dup X d_M_report_74 rfl ?_
            refine g_33_26 X f_M_162 (v := (σ 33 26)) rfl d_M_report_75 ?_
            refine j_iconst X (v := (1 : Int32)) d_M_report_78 (by decide) ?_
            refine j_iadd X d_M_report_79 ?_
            refine p_33_26 X f_M_162 d_M_report_80 ?_
            refine j_iconst X (v := (1 : Int32)) d_M_report_83 (by decide) ?_
            exact j_zret X hlk hr rfl d_M_report_84 hw
    · have hw := hw.2 h
      refine j_iconst X (v := (0 : Int32)) d_M_report_14 (by decide) ?_
      exact j_zret X hlk hr rfl d_M_report_15 hw
  exact hX
def w_M_read_L3 (K : Jst → Prop) : Nat → Int32 → Int32 → Int32 → Int32 → Jst → Prop
  | 0, _, _, _, _, _ => False
  | n + 1, v1, v2, v3, v4, s3 => (((s3 33 14) ≤ (v4 + v1) → ((v1 ≤ (0 : Int32) → ((¬ ((s3 33 14) - v1) = (0 : Int32) → ((v3 = (0 : Int32) → ((¬ v2 = (0 : Int32) → ((v3 = (0 : Int32) → ((¬ (s3 33 1) = (2 : Int32) → w_M_resend (2 : Int32) (jup (jup (jup s3 33 14 ((s3 33 14) - v1)) 33 3 (((s3 33 3) + v1) - ((s3 33 3) + v1) / (16 : Int32) * (16 : Int32))) 33 4 (s3 33 4)) (fun u1 => K u1)) ∧ ((s3 33 1) = (2 : Int32) → ((v1 ≤ (0 : Int32) → K (jup (jup (jup s3 33 14 ((s3 33 14) - v1)) 33 3 (((s3 33 3) + v1) - ((s3 33 3) + v1) / (16 : Int32) * (16 : Int32))) 33 4 (s3 33 4))) ∧ (¬ v1 ≤ (0 : Int32) → w_M_resend (2 : Int32) (jup (jup (jup s3 33 14 ((s3 33 14) - v1)) 33 3 (((s3 33 3) + v1) - ((s3 33 3) + v1) / (16 : Int32) * (16 : Int32))) 33 4 (s3 33 4)) (fun u2 => K u2)))))) ∧ (¬ v3 = (0 : Int32) → ((¬ (s3 33 8) = (1 : Int32) → K (jup (jup (jup (jup s3 33 14 ((s3 33 14) - v1)) 33 3 (((s3 33 3) + v1) - ((s3 33 3) + v1) / (16 : Int32) * (16 : Int32))) 33 4 (s3 33 4)) 33 1 (3 : Int32))) ∧ ((s3 33 8) = (1 : Int32) → ((v1 ≤ (0 : Int32) → K (jup (jup (jup (jup s3 33 14 ((s3 33 14) - v1)) 33 3 (((s3 33 3) + v1) - ((s3 33 3) + v1) / (16 : Int32) * (16 : Int32))) 33 4 (s3 33 4)) 33 1 (3 : Int32))) ∧ (¬ v1 ≤ (0 : Int32) → w_M_alarm (1 : Int32) (jup (jup (jup (jup s3 33 14 ((s3 33 14) - v1)) 33 3 (((s3 33 3) + v1) - ((s3 33 3) + v1) / (16 : Int32) * (16 : Int32))) 33 4 (s3 33 4)) 33 1 (3 : Int32)) (fun u3 => K u3)))))))) ∧ (v2 = (0 : Int32) → ((¬ ((s3 33 14) - v1) = (0 : Int32) → K (jup (jup (jup (jup (jup s3 33 14 ((s3 33 14) - v1)) 33 3 (((s3 33 3) + v1) - ((s3 33 3) + v1) / (16 : Int32) * (16 : Int32))) 33 4 (s3 33 4)) 33 1 (1 : Int32)) 33 5 (s3 33 5))) ∧ (((s3 33 14) - v1) = (0 : Int32) → K (jup (jup (jup (jup (jup s3 33 14 ((s3 33 14) - v1)) 33 3 (((s3 33 3) + v1) - ((s3 33 3) + v1) / (16 : Int32) * (16 : Int32))) 33 4 (s3 33 4)) 33 1 (1 : Int32)) 33 5 (0 : Int32))))))) ∧ (¬ v3 = (0 : Int32) → ((¬ v2 = (0 : Int32) → ((¬ v2 = (0 : Int32) → ((v3 = (0 : Int32) → ((¬ (s3 33 1) = (2 : Int32) → w_M_resend (2 : Int32) (jup (jup (jup s3 33 14 ((s3 33 14) - v1)) 33 3 (((s3 33 3) + v1) - ((s3 33 3) + v1) / (16 : Int32) * (16 : Int32))) 33 4 (s3 33 4)) (fun u4 => K u4)) ∧ ((s3 33 1) = (2 : Int32) → ((v1 ≤ (0 : Int32) → K (jup (jup (jup s3 33 14 ((s3 33 14) - v1)) 33 3 (((s3 33 3) + v1) - ((s3 33 3) + v1) / (16 : Int32) * (16 : Int32))) 33 4 (s3 33 4))) ∧ (¬ v1 ≤ (0 : Int32) → w_M_resend (2 : Int32) (jup (jup (jup s3 33 14 ((s3 33 14) - v1)) 33 3 (((s3 33 3) + v1) - ((s3 33 3) + v1) / (16 : Int32) * (16 : Int32))) 33 4 (s3 33 4)) (fun u5 => K u5)))))) ∧ (¬ v3 = (0 : Int32) → ((¬ (s3 33 8) = (1 : Int32) → K (jup (jup (jup (jup s3 33 14 ((s3 33 14) - v1)) 33 3 (((s3 33 3) + v1) - ((s3 33 3) + v1) / (16 : Int32) * (16 : Int32))) 33 4 (s3 33 4)) 33 1 (3 : Int32))) ∧ ((s3 33 8) = (1 : Int32) → ((v1 ≤ (0 : Int32) → K (jup (jup (jup (jup s3 33 14 ((s3 33 14) - v1)) 33 3 (((s3 33 3) + v1) - ((s3 33 3) + v1) / (16 : Int32) * (16 : Int32))) 33 4 (s3 33 4)) 33 1 (3 : Int32))) ∧ (¬ v1 ≤ (0 : Int32) → w_M_alarm (1 : Int32) (jup (jup (jup (jup s3 33 14 ((s3 33 14) - v1)) 33 3 (((s3 33 3) + v1) - ((s3 33 3) + v1) / (16 : Int32) * (16 : Int32))) 33 4 (s3 33 4)) 33 1 (3 : Int32)) (fun u6 => K u6)))))))) ∧ (v2 = (0 : Int32) → ((¬ ((s3 33 14) - v1) = (0 : Int32) → K (jup (jup (jup (jup (jup s3 33 14 ((s3 33 14) - v1)) 33 3 (((s3 33 3) + v1) - ((s3 33 3) + v1) / (16 : Int32) * (16 : Int32))) 33 4 (s3 33 4)) 33 1 (1 : Int32)) 33 5 (s3 33 5))) ∧ (((s3 33 14) - v1) = (0 : Int32) → K (jup (jup (jup (jup (jup s3 33 14 ((s3 33 14) - v1)) 33 3 (((s3 33 3) + v1) - ((s3 33 3) + v1) / (16 : Int32) * (16 : Int32))) 33 4 (s3 33 4)) 33 1 (1 : Int32)) 33 5 (0 : Int32))))))) ∧ (v2 = (0 : Int32) → w_M_alarm (6 : Int32) (jup (jup (jup s3 33 14 ((s3 33 14) - v1)) 33 3 (((s3 33 3) + v1) - ((s3 33 3) + v1) / (16 : Int32) * (16 : Int32))) 33 4 (s3 33 4)) (fun u7 => K u7)))))) ∧ (((s3 33 14) - v1) = (0 : Int32) → ((v2 = (0 : Int32) → ((v3 = (0 : Int32) → ((¬ v2 = (0 : Int32) → ((v3 = (0 : Int32) → ((¬ (s3 33 1) = (2 : Int32) → w_M_resend (2 : Int32) (jup (jup (jup s3 33 14 ((s3 33 14) - v1)) 33 3 (((s3 33 3) + v1) - ((s3 33 3) + v1) / (16 : Int32) * (16 : Int32))) 33 4 (s3 33 4)) (fun u8 => K u8)) ∧ ((s3 33 1) = (2 : Int32) → ((v1 ≤ (0 : Int32) → K (jup (jup (jup s3 33 14 ((s3 33 14) - v1)) 33 3 (((s3 33 3) + v1) - ((s3 33 3) + v1) / (16 : Int32) * (16 : Int32))) 33 4 (s3 33 4))) ∧ (¬ v1 ≤ (0 : Int32) → w_M_resend (2 : Int32) (jup (jup (jup s3 33 14 ((s3 33 14) - v1)) 33 3 (((s3 33 3) + v1) - ((s3 33 3) + v1) / (16 : Int32) * (16 : Int32))) 33 4 (s3 33 4)) (fun u9 => K u9)))))) ∧ (¬ v3 = (0 : Int32) → ((¬ (s3 33 8) = (1 : Int32) → K (jup (jup (jup (jup s3 33 14 ((s3 33 14) - v1)) 33 3 (((s3 33 3) + v1) - ((s3 33 3) + v1) / (16 : Int32) * (16 : Int32))) 33 4 (s3 33 4)) 33 1 (3 : Int32))) ∧ ((s3 33 8) = (1 : Int32) → ((v1 ≤ (0 : Int32) → K (jup (jup (jup (jup s3 33 14 ((s3 33 14) - v1)) 33 3 (((s3 33 3) + v1) - ((s3 33 3) + v1) / (16 : Int32) * (16 : Int32))) 33 4 (s3 33 4)) 33 1 (3 : Int32))) ∧ (¬ v1 ≤ (0 : Int32) → w_M_alarm (1 : Int32) (jup (jup (jup (jup s3 33 14 ((s3 33 14) - v1)) 33 3 (((s3 33 3) + v1) - ((s3 33 3) + v1) / (16 : Int32) * (16 : Int32))) 33 4 (s3 33 4)) 33 1 (3 : Int32)) (fun u10 => K u10)))))))) ∧ (v2 = (0 : Int32) → ((¬ ((s3 33 14) - v1) = (0 : Int32) → K (jup (jup (jup (jup (jup s3 33 14 ((s3 33 14) - v1)) 33 3 (((s3 33 3) + v1) - ((s3 33 3) + v1) / (16 : Int32) * (16 : Int32))) 33 4 (s3 33 4)) 33 1 (1 : Int32)) 33 5 (s3 33 5))) ∧ (((s3 33 14) - v1) = (0 : Int32) → K (jup (jup (jup (jup (jup s3 33 14 ((s3 33 14) - v1)) 33 3 (((s3 33 3) + v1) - ((s3 33 3) + v1) / (16 : Int32) * (16 : Int32))) 33 4 (s3 33 4)) 33 1 (1 : Int32)) 33 5 (0 : Int32))))))) ∧ (¬ v3 = (0 : Int32) → ((¬ v2 = (0 : Int32) → ((¬ v2 = (0 : Int32) → ((v3 = (0 : Int32) → ((¬ (s3 33 1) = (2 : Int32) → w_M_resend (2 : Int32) (jup (jup (jup s3 33 14 ((s3 33 14) - v1)) 33 3 (((s3 33 3) + v1) - ((s3 33 3) + v1) / (16 : Int32) * (16 : Int32))) 33 4 (s3 33 4)) (fun u11 => K u11)) ∧ ((s3 33 1) = (2 : Int32) → ((v1 ≤ (0 : Int32) → K (jup (jup (jup s3 33 14 ((s3 33 14) - v1)) 33 3 (((s3 33 3) + v1) - ((s3 33 3) + v1) / (16 : Int32) * (16 : Int32))) 33 4 (s3 33 4))) ∧ (¬ v1 ≤ (0 : Int32) → w_M_resend (2 : Int32) (jup (jup (jup s3 33 14 ((s3 33 14) - v1)) 33 3 (((s3 33 3) + v1) - ((s3 33 3) + v1) / (16 : Int32) * (16 : Int32))) 33 4 (s3 33 4)) (fun u12 => K u12)))))) ∧ (¬ v3 = (0 : Int32) → ((¬ (s3 33 8) = (1 : Int32) → K (jup (jup (jup (jup s3 33 14 ((s3 33 14) - v1)) 33 3 (((s3 33 3) + v1) - ((s3 33 3) + v1) / (16 : Int32) * (16 : Int32))) 33 4 (s3 33 4)) 33 1 (3 : Int32))) ∧ ((s3 33 8) = (1 : Int32) → ((v1 ≤ (0 : Int32) → K (jup (jup (jup (jup s3 33 14 ((s3 33 14) - v1)) 33 3 (((s3 33 3) + v1) - ((s3 33 3) + v1) / (16 : Int32) * (16 : Int32))) 33 4 (s3 33 4)) 33 1 (3 : Int32))) ∧ (¬ v1 ≤ (0 : Int32) → w_M_alarm (1 : Int32) (jup (jup (jup (jup s3 33 14 ((s3 33 14) - v1)) 33 3 (((s3 33 3) + v1) - ((s3 33 3) + v1) / (16 : Int32) * (16 : Int32))) 33 4 (s3 33 4)) 33 1 (3 : Int32)) (fun u13 => K u13)))))))) ∧ (v2 = (0 : Int32) → ((¬ ((s3 33 14) - v1) = (0 : Int32) → K (jup (jup (jup (jup (jup s3 33 14 ((s3 33 14) - v1)) 33 3 (((s3 33 3) + v1) - ((s3 33 3) + v1) / (16 : Int32) * (16 : Int32))) 33 4 (s3 33 4)) 33 1 (1 : Int32)) 33 5 (s3 33 5))) ∧ (((s3 33 14) - v1) = (0 : Int32) → K (jup (jup (jup (jup (jup s3 33 14 ((s3 33 14) - v1)) 33 3 (((s3 33 3) + v1) - ((s3 33 3) + v1) / (16 : Int32) * (16 : Int32))) 33 4 (s3 33 4)) 33 1 (1 : Int32)) 33 5 (0 : Int32))))))) ∧ (v2 = (0 : Int32) → w_M_alarm (6 : Int32) (jup (jup (jup s3 33 14 ((s3 33 14) - v1)) 33 3 (((s3 33 3) + v1) - ((s3 33 3) + v1) / (16 : Int32) * (16 : Int32))) 33 4 (s3 33 4)) (fun u14 => K u14)))))) ∧ (¬ v2 = (0 : Int32) → w_M_alarm (3 : Int32) (jup (jup (jup s3 33 14 ((s3 33 14) - v1)) 33 3 (((s3 33 3) + v1) - ((s3 33 3) + v1) / (16 : Int32) * (16 : Int32))) 33 4 (s3 33 4)) (fun u15 => K u15)))))) ∧ (¬ v1 ≤ (0 : Int32) → ((¬ ((s3 33 14) - v1) = (0 : Int32) → ((v3 = (0 : Int32) → ((¬ v2 = (0 : Int32) → ((v3 = (0 : Int32) → ((¬ (s3 33 1) = (2 : Int32) → w_M_resend (2 : Int32) (jup (jup (jup s3 33 14 ((s3 33 14) - v1)) 33 3 (((s3 33 3) + v1) - ((s3 33 3) + v1) / (16 : Int32) * (16 : Int32))) 33 4 (1 : Int32)) (fun u16 => K u16)) ∧ ((s3 33 1) = (2 : Int32) → ((v1 ≤ (0 : Int32) → K (jup (jup (jup s3 33 14 ((s3 33 14) - v1)) 33 3 (((s3 33 3) + v1) - ((s3 33 3) + v1) / (16 : Int32) * (16 : Int32))) 33 4 (1 : Int32))) ∧ (¬ v1 ≤ (0 : Int32) → w_M_resend (2 : Int32) (jup (jup (jup s3 33 14 ((s3 33 14) - v1)) 33 3 (((s3 33 3) + v1) - ((s3 33 3) + v1) / (16 : Int32) * (16 : Int32))) 33 4 (1 : Int32)) (fun u17 => K u17)))))) ∧ (¬ v3 = (0 : Int32) → ((¬ (s3 33 8) = (1 : Int32) → K (jup (jup (jup (jup s3 33 14 ((s3 33 14) - v1)) 33 3 (((s3 33 3) + v1) - ((s3 33 3) + v1) / (16 : Int32) * (16 : Int32))) 33 4 (1 : Int32)) 33 1 (3 : Int32))) ∧ ((s3 33 8) = (1 : Int32) → ((v1 ≤ (0 : Int32) → K (jup (jup (jup (jup s3 33 14 ((s3 33 14) - v1)) 33 3 (((s3 33 3) + v1) - ((s3 33 3) + v1) / (16 : Int32) * (16 : Int32))) 33 4 (1 : Int32)) 33 1 (3 : Int32))) ∧ (¬ v1 ≤ (0 : Int32) → w_M_alarm (1 : Int32) (jup (jup (jup (jup s3 33 14 ((s3 33 14) - v1)) 33 3 (((s3 33 3) + v1) - ((s3 33 3) + v1) / (16 : Int32) * (16 : Int32))) 33 4 (1 : Int32)) 33 1 (3 : Int32)) (fun u18 => K u18)))))))) ∧ (v2 = (0 : Int32) → ((¬ ((s3 33 14) - v1) = (0 : Int32) → K (jup (jup (jup (jup (jup s3 33 14 ((s3 33 14) - v1)) 33 3 (((s3 33 3) + v1) - ((s3 33 3) + v1) / (16 : Int32) * (16 : Int32))) 33 4 (1 : Int32)) 33 1 (1 : Int32)) 33 5 (s3 33 5))) ∧ (((s3 33 14) - v1) = (0 : Int32) → K (jup (jup (jup (jup (jup s3 33 14 ((s3 33 14) - v1)) 33 3 (((s3 33 3) + v1) - ((s3 33 3) + v1) / (16 : Int32) * (16 : Int32))) 33 4 (1 : Int32)) 33 1 (1 : Int32)) 33 5 (0 : Int32))))))) ∧ (¬ v3 = (0 : Int32) → ((¬ v2 = (0 : Int32) → ((¬ v2 = (0 : Int32) → ((v3 = (0 : Int32) → ((¬ (s3 33 1) = (2 : Int32) → w_M_resend (2 : Int32) (jup (jup (jup s3 33 14 ((s3 33 14) - v1)) 33 3 (((s3 33 3) + v1) - ((s3 33 3) + v1) / (16 : Int32) * (16 : Int32))) 33 4 (1 : Int32)) (fun u19 => K u19)) ∧ ((s3 33 1) = (2 : Int32) → ((v1 ≤ (0 : Int32) → K (jup (jup (jup s3 33 14 ((s3 33 14) - v1)) 33 3 (((s3 33 3) + v1) - ((s3 33 3) + v1) / (16 : Int32) * (16 : Int32))) 33 4 (1 : Int32))) ∧ (¬ v1 ≤ (0 : Int32) → w_M_resend (2 : Int32) (jup (jup (jup s3 33 14 ((s3 33 14) - v1)) 33 3 (((s3 33 3) + v1) - ((s3 33 3) + v1) / (16 : Int32) * (16 : Int32))) 33 4 (1 : Int32)) (fun u20 => K u20)))))) ∧ (¬ v3 = (0 : Int32) → ((¬ (s3 33 8) = (1 : Int32) → K (jup (jup (jup (jup s3 33 14 ((s3 33 14) - v1)) 33 3 (((s3 33 3) + v1) - ((s3 33 3) + v1) / (16 : Int32) * (16 : Int32))) 33 4 (1 : Int32)) 33 1 (3 : Int32))) ∧ ((s3 33 8) = (1 : Int32) → ((v1 ≤ (0 : Int32) → K (jup (jup (jup (jup s3 33 14 ((s3 33 14) - v1)) 33 3 (((s3 33 3) + v1) - ((s3 33 3) + v1) / (16 : Int32) * (16 : Int32))) 33 4 (1 : Int32)) 33 1 (3 : Int32))) ∧ (¬ v1 ≤ (0 : Int32) → w_M_alarm (1 : Int32) (jup (jup (jup (jup s3 33 14 ((s3 33 14) - v1)) 33 3 (((s3 33 3) + v1) - ((s3 33 3) + v1) / (16 : Int32) * (16 : Int32))) 33 4 (1 : Int32)) 33 1 (3 : Int32)) (fun u21 => K u21)))))))) ∧ (v2 = (0 : Int32) → ((¬ ((s3 33 14) - v1) = (0 : Int32) → K (jup (jup (jup (jup (jup s3 33 14 ((s3 33 14) - v1)) 33 3 (((s3 33 3) + v1) - ((s3 33 3) + v1) / (16 : Int32) * (16 : Int32))) 33 4 (1 : Int32)) 33 1 (1 : Int32)) 33 5 (s3 33 5))) ∧ (((s3 33 14) - v1) = (0 : Int32) → K (jup (jup (jup (jup (jup s3 33 14 ((s3 33 14) - v1)) 33 3 (((s3 33 3) + v1) - ((s3 33 3) + v1) / (16 : Int32) * (16 : Int32))) 33 4 (1 : Int32)) 33 1 (1 : Int32)) 33 5 (0 : Int32))))))) ∧ (v2 = (0 : Int32) → w_M_alarm (6 : Int32) (jup (jup (jup s3 33 14 ((s3 33 14) - v1)) 33 3 (((s3 33 3) + v1) - ((s3 33 3) + v1) / (16 : Int32) * (16 : Int32))) 33 4 (1 : Int32)) (fun u22 => K u22)))))) ∧ (((s3 33 14) - v1) = (0 : Int32) → ((v2 = (0 : Int32) → ((v3 = (0 : Int32) → ((¬ v2 = (0 : Int32) → ((v3 = (0 : Int32) → ((¬ (s3 33 1) = (2 : Int32) → w_M_resend (2 : Int32) (jup (jup (jup s3 33 14 ((s3 33 14) - v1)) 33 3 (((s3 33 3) + v1) - ((s3 33 3) + v1) / (16 : Int32) * (16 : Int32))) 33 4 (1 : Int32)) (fun u23 => K u23)) ∧ ((s3 33 1) = (2 : Int32) → ((v1 ≤ (0 : Int32) → K (jup (jup (jup s3 33 14 ((s3 33 14) - v1)) 33 3 (((s3 33 3) + v1) - ((s3 33 3) + v1) / (16 : Int32) * (16 : Int32))) 33 4 (1 : Int32))) ∧ (¬ v1 ≤ (0 : Int32) → w_M_resend (2 : Int32) (jup (jup (jup s3 33 14 ((s3 33 14) - v1)) 33 3 (((s3 33 3) + v1) - ((s3 33 3) + v1) / (16 : Int32) * (16 : Int32))) 33 4 (1 : Int32)) (fun u24 => K u24)))))) ∧ (¬ v3 = (0 : Int32) → ((¬ (s3 33 8) = (1 : Int32) → K (jup (jup (jup (jup s3 33 14 ((s3 33 14) - v1)) 33 3 (((s3 33 3) + v1) - ((s3 33 3) + v1) / (16 : Int32) * (16 : Int32))) 33 4 (1 : Int32)) 33 1 (3 : Int32))) ∧ ((s3 33 8) = (1 : Int32) → ((v1 ≤ (0 : Int32) → K (jup (jup (jup (jup s3 33 14 ((s3 33 14) - v1)) 33 3 (((s3 33 3) + v1) - ((s3 33 3) + v1) / (16 : Int32) * (16 : Int32))) 33 4 (1 : Int32)) 33 1 (3 : Int32))) ∧ (¬ v1 ≤ (0 : Int32) → w_M_alarm (1 : Int32) (jup (jup (jup (jup s3 33 14 ((s3 33 14) - v1)) 33 3 (((s3 33 3) + v1) - ((s3 33 3) + v1) / (16 : Int32) * (16 : Int32))) 33 4 (1 : Int32)) 33 1 (3 : Int32)) (fun u25 => K u25)))))))) ∧ (v2 = (0 : Int32) → ((¬ ((s3 33 14) - v1) = (0 : Int32) → K (jup (jup (jup (jup (jup s3 33 14 ((s3 33 14) - v1)) 33 3 (((s3 33 3) + v1) - ((s3 33 3) + v1) / (16 : Int32) * (16 : Int32))) 33 4 (1 : Int32)) 33 1 (1 : Int32)) 33 5 (s3 33 5))) ∧ (((s3 33 14) - v1) = (0 : Int32) → K (jup (jup (jup (jup (jup s3 33 14 ((s3 33 14) - v1)) 33 3 (((s3 33 3) + v1) - ((s3 33 3) + v1) / (16 : Int32) * (16 : Int32))) 33 4 (1 : Int32)) 33 1 (1 : Int32)) 33 5 (0 : Int32))))))) ∧ (¬ v3 = (0 : Int32) → ((¬ v2 = (0 : Int32) → ((¬ v2 = (0 : Int32) → ((v3 = (0 : Int32) → ((¬ (s3 33 1) = (2 : Int32) → w_M_resend (2 : Int32) (jup (jup (jup s3 33 14 ((s3 33 14) - v1)) 33 3 (((s3 33 3) + v1) - ((s3 33 3) + v1) / (16 : Int32) * (16 : Int32))) 33 4 (1 : Int32)) (fun u26 => K u26)) ∧ ((s3 33 1) = (2 : Int32) → ((v1 ≤ (0 : Int32) → K (jup (jup (jup s3 33 14 ((s3 33 14) - v1)) 33 3 (((s3 33 3) + v1) - ((s3 33 3) + v1) / (16 : Int32) * (16 : Int32))) 33 4 (1 : Int32))) ∧ (¬ v1 ≤ (0 : Int32) → w_M_resend (2 : Int32) (jup (jup (jup s3 33 14 ((s3 33 14) - v1)) 33 3 (((s3 33 3) + v1) - ((s3 33 3) + v1) / (16 : Int32) * (16 : Int32))) 33 4 (1 : Int32)) (fun u27 => K u27)))))) ∧ (¬ v3 = (0 : Int32) → ((¬ (s3 33 8) = (1 : Int32) → K (jup (jup (jup (jup s3 33 14 ((s3 33 14) - v1)) 33 3 (((s3 33 3) + v1) - ((s3 33 3) + v1) / (16 : Int32) * (16 : Int32))) 33 4 (1 : Int32)) 33 1 (3 : Int32))) ∧ ((s3 33 8) = (1 : Int32) → ((v1 ≤ (0 : Int32) → K (jup (jup (jup (jup s3 33 14 ((s3 33 14) - v1)) 33 3 (((s3 33 3) + v1) - ((s3 33 3) + v1) / (16 : Int32) * (16 : Int32))) 33 4 (1 : Int32)) 33 1 (3 : Int32))) ∧ (¬ v1 ≤ (0 : Int32) → w_M_alarm (1 : Int32) (jup (jup (jup (jup s3 33 14 ((s3 33 14) - v1)) 33 3 (((s3 33 3) + v1) - ((s3 33 3) + v1) / (16 : Int32) * (16 : Int32))) 33 4 (1 : Int32)) 33 1 (3 : Int32)) (fun u28 => K u28)))))))) ∧ (v2 = (0 : Int32) → ((¬ ((s3 33 14) - v1) = (0 : Int32) → K (jup (jup (jup (jup (jup s3 33 14 ((s3 33 14) - v1)) 33 3 (((s3 33 3) + v1) - ((s3 33 3) + v1) / (16 : Int32) * (16 : Int32))) 33 4 (1 : Int32)) 33 1 (1 : Int32)) 33 5 (s3 33 5))) ∧ (((s3 33 14) - v1) = (0 : Int32) → K (jup (jup (jup (jup (jup s3 33 14 ((s3 33 14) - v1)) 33 3 (((s3 33 3) + v1) - ((s3 33 3) + v1) / (16 : Int32) * (16 : Int32))) 33 4 (1 : Int32)) 33 1 (1 : Int32)) 33 5 (0 : Int32))))))) ∧ (v2 = (0 : Int32) → w_M_alarm (6 : Int32) (jup (jup (jup s3 33 14 ((s3 33 14) - v1)) 33 3 (((s3 33 3) + v1) - ((s3 33 3) + v1) / (16 : Int32) * (16 : Int32))) 33 4 (1 : Int32)) (fun u29 => K u29)))))) ∧ (¬ v2 = (0 : Int32) → w_M_alarm (3 : Int32) (jup (jup (jup s3 33 14 ((s3 33 14) - v1)) 33 3 (((s3 33 3) + v1) - ((s3 33 3) + v1) / (16 : Int32) * (16 : Int32))) 33 4 (1 : Int32)) (fun u30 => K u30)))))))) ∧ (¬ (s3 33 14) ≤ (v4 + v1) → (vp_in (v4 + v1) 4 ∧ (vp_in v4 4 ∧ (vp_in (v4 + v1) 4 ∧ (vp_in v4 4 ∧ w_M_read_L3 K n v1 v2 v3 (v4 + (1 : Int32)) (jup (jup s3 34 (Int32.toNatClampNeg v4) (s3 34 (Int32.toNatClampNeg (v4 + v1)))) 35 (Int32.toNatClampNeg v4) (vp_nar .boolean (s3 35 (Int32.toNatClampNeg (v4 + v1)))))))))))
def w_M_read (a1 : Int32) (a2 : Int32) (a3 : Int32) (σ : Jst) (K : Jst → Prop) : Prop := (∃ n, w_M_read_L3 K n a1 a2 a3 (0 : Int32) σ)
abbrev rm_M_read : Room := { frames := 3, cells := 0, slots := 0, locals := 63 }
set_option maxRecDepth 100000 in
set_option maxHeartbeats 4000000 in
theorem c_M_read (l : Launch) (D : va_G) (ca ad : Nat → Nat) (sz : Nat) (hD : Jd ca ad sz) {a1 a2 a3 : Int32} {σ : Jst} {K : Jst → Prop} (hw : w_M_read a1 a2 a3 σ K) : Met l y_M_read (wG y_M_read b_M_read 5 none) rm_M_read (va_Pc [.ref (ad 33), .int a1, .int a2, .int a3] (Jw D vwCl (tysT ca) (wlT ad ca) (NwT sz) σ)) (va_Qv K (Jq D vwCl (wlT ad ca)) (Aw sz)) 0 0 (Aw sz) := by
  refine j_met (cc := b_M_read) (own := R_M) (by decide +kernel) rfl (Nat.le_of_ble_eq_true rfl) rfl hD (nwT_k sz) ?_
  intro p e s m args below meth c X hlk hr
  have hX : J p l e rm_M_read s m args below meth c D vwCl (wlT ad ca) (Aw sz) 5 0 0 (MQ below (va_Qv K (Jq D vwCl (wlT ad ca)) (Aw sz)) args s 0 0 (Aw sz)) 0 [(0, .ref (ad 33)), (1, .int a1), (2, .int a2), (3, .int a3)] [] σ := by
    unfold w_M_read at hw
    refine j_iconst X (v := (0 : Int32)) d_M_read_0 (by decide) ?_
    refine j_istore X d_M_read_1 (by decide) rfl ?_
    have lp3 : ∀ (n : Nat) (v1 v2 v3 v4 : Int32) (s3 : Jst), w_M_read_L3 K n v1 v2 v3 v4 s3 → J p l e rm_M_read s m args below meth c D vwCl (wlT ad ca) (Aw sz) 5 0 0 (MQ below (va_Qv K (Jq D vwCl (wlT ad ca)) (Aw sz)) args s 0 0 (Aw sz)) 3 [(0, .ref (ad 33)), (1, .int v1), (2, .int v2), (3, .int v3), (4, .int v4)] [] s3 := by
      intro n
      induction n with
      | zero => intro v1 v2 v3 v4 s3 hw; exact (show False from hw).elim
      | succ n ih3 =>
        intro v1 v2 v3 v4 s3 hw
        rw [w_M_read_L3] at hw
        refine j_iload X d_M_read_3 4 rfl ?_
        refine j_iload_n X d_M_read_5 rfl 1 rfl ?_
        refine j_iadd X d_M_read_6 ?_
        refine j_aload_n X d_M_read_7 rfl 0 rfl ?_
        refine g_33_14 X f_M_114 (v := (s3 33 14)) rfl d_M_read_8 ?_
        refine j_icmp_ge X d_M_read_11 (tgt := 52) (by decide) (fun h => ?_) (fun h => ?_)
        · have hw := hw.1 h
          refine j_aload_n X d_M_read_52 rfl 0 rfl ?_
          refine j_dup X d_M_read_53 rfl ?_
          refine g_33_14 X f_M_114 (v := (s3 33 14)) rfl d_M_read_54 ?_
          refine j_iload_n X d_M_read_57 rfl 1 rfl ?_
          refine j_isub X d_M_read_58 ?_
          refine p_33_14 X f_M_114 d_M_read_59 ?_
          refine j_aload_n X d_M_read_62 rfl 0 rfl ?_
          refine j_aload_n X d_M_read_63 rfl 0 rfl ?_
          refine g_33_3 X f_M_95 (v := (s3 33 3)) rfl d_M_read_64 ?_
          refine j_iload_n X d_M_read_67 rfl 1 rfl ?_
          refine j_iadd X d_M_read_68 ?_
          refine j_bipush X (v := (16 : Int32)) d_M_read_69 (by decide) ?_
          refine j_irem X d_M_read_71 (by decide) ?_
          refine p_33_3 X f_M_95 d_M_read_72 ?_
          refine j_aload_n X d_M_read_75 rfl 0 rfl ?_
          refine j_iload_n X d_M_read_76 rfl 1 rfl ?_
          refine j_if_le X d_M_read_77 (tgt := 84) (by decide) (fun h => ?_) (fun h => ?_)
          · have hw := hw.1 h
            refine j_aload_n X d_M_read_84 rfl 0 rfl ?_
            refine g_33_4 X f_M_108 (v := (s3 33 4)) rfl d_M_read_85 ?_
            refine p_33_4 X f_M_108 d_M_read_88 ?_
            refine j_aload_n X d_M_read_91 rfl 0 rfl ?_
            refine g_33_14 X f_M_114 (v := ((s3 33 14) - v1)) rfl d_M_read_92 ?_
            refine j_if_ne X d_M_read_95 (tgt := 110) (by decide) (fun h => ?_) (fun h => ?_)
            · have hw := hw.1 h
              refine j_iload_n X d_M_read_110 rfl 3 rfl ?_
              refine j_if_eq X d_M_read_111 (tgt := 127) (by decide) (fun h => ?_) (fun h => ?_)
              · have hw := hw.1 h
                refine j_iload_n X d_M_read_127 rfl 2 rfl ?_
                refine j_if_ne X d_M_read_128 (tgt := 158) (by decide) (fun h => ?_) (fun h => ?_)
                · have hw := hw.1 h
                  refine j_iload_n X d_M_read_158 rfl 3 rfl ?_
                  refine j_if_eq X d_M_read_159 (tgt := 187) (by decide) (fun h => ?_) (fun h => ?_)
                  · have hw := hw.1 h
                    refine j_aload_n X d_M_read_187 rfl 0 rfl ?_
                    refine g_33_1 X f_M_81 (v := (s3 33 1)) rfl d_M_read_188 ?_
                    refine j_iconst X (v := (2 : Int32)) d_M_read_191 (by decide) ?_
                    refine j_icmp_ne X d_M_read_192 (tgt := 199) (by decide) (fun h => ?_) (fun h => ?_)
                    · have hw := hw.1 h
                      refine j_aload_n X d_M_read_199 rfl 0 rfl ?_
                      refine j_iconst X (v := (2 : Int32)) d_M_read_200 (by decide) ?_
                      refine j_callVv (As := [.int (2 : Int32)]) X (c_M_resend l D ca ad sz hD hw) (gcV (n := 1) X rfl rfl rfl gc_M_resend m_M_resend l_M_133 (by decide +kernel) ⟨by decide, by decide⟩) (q0 := 33) rfl rfl (fun _ h => h) rfl rfl (Nat.le_of_ble_eq_true rfl) ⟨by decide, by decide⟩ d_M_read_201 (fun u1 hw => ?_)
                      exact j_vret X hlk hr d_M_read_204 hw
                    · have hw := hw.2 h
                      refine j_iload_n X d_M_read_195 rfl 1 rfl ?_
                      refine j_if_le X d_M_read_196 (tgt := 204) (by decide) (fun h => ?_) (fun h => ?_)
                      · have hw := hw.1 h
                        exact j_vret X hlk hr d_M_read_204 hw
                      · have hw := hw.2 h
                        refine j_aload_n X d_M_read_199 rfl 0 rfl ?_
                        refine j_iconst X (v := (2 : Int32)) d_M_read_200 (by decide) ?_
                        refine j_callVv (As := [.int (2 : Int32)]) X (c_M_resend l D ca ad sz hD hw) (gcV (n := 1) X rfl rfl rfl gc_M_resend m_M_resend l_M_133 (by decide +kernel) ⟨by decide, by decide⟩) (q0 := 33) rfl rfl (fun _ h => h) rfl rfl (Nat.le_of_ble_eq_true rfl) ⟨by decide, by decide⟩ d_M_read_201 (fun u2 hw => ?_)
                        exact j_vret X hlk hr d_M_read_204 hw
                  · have hw := hw.2 h
                    refine j_aload_n X d_M_read_162 rfl 0 rfl ?_
                    refine j_iconst X (v := (3 : Int32)) d_M_read_163 (by decide) ?_
                    refine p_33_1 X f_M_81 d_M_read_164 ?_
                    refine j_aload_n X d_M_read_167 rfl 0 rfl ?_
                    refine g_33_8 X f_M_13 (v := (s3 33 8)) rfl d_M_read_168 ?_
                    refine j_iconst X (v := (1 : Int32)) d_M_read_171 (by decide) ?_
                    refine j_icmp_ne X d_M_read_172 (tgt := 204) (by decide) (fun h => ?_) (fun h => ?_)
                    · have hw := hw.1 h
                      exact j_vret X hlk hr d_M_read_204 hw
                    · have hw := hw.2 h
                      refine j_iload_n X d_M_read_175 rfl 1 rfl ?_
                      refine j_if_le X d_M_read_176 (tgt := 204) (by decide) (fun h => ?_) (fun h => ?_)
                      · have hw := hw.1 h
                        exact j_vret X hlk hr d_M_read_204 hw
                      · have hw := hw.2 h
                        refine j_aload_n X d_M_read_179 rfl 0 rfl ?_
                        refine j_iconst X (v := (1 : Int32)) d_M_read_180 (by decide) ?_
                        refine j_callVv (As := [.int (1 : Int32)]) X (c_M_alarm l D ca ad sz hD hw) (gcV (n := 1) X rfl rfl rfl gc_M_alarm m_M_alarm l_M_126 (by decide +kernel) ⟨by decide, by decide⟩) (q0 := 33) rfl rfl (fun _ h => h) rfl rfl (Nat.le_of_ble_eq_true rfl) ⟨by decide, by decide⟩ d_M_read_181 (fun u3 hw => ?_)
                        refine j_goto X d_M_read_184 (tgt := 204) (by decide) ?_
                        exact j_vret X hlk hr d_M_read_204 hw
                · have hw := hw.2 h
                  refine j_aload_n X d_M_read_131 rfl 0 rfl ?_
                  refine j_iconst X (v := (1 : Int32)) d_M_read_132 (by decide) ?_
                  refine p_33_1 X f_M_81 d_M_read_133 ?_
                  refine j_aload_n X d_M_read_136 rfl 0 rfl ?_
                  refine j_aload_n X d_M_read_137 rfl 0 rfl ?_
                  refine g_33_14 X f_M_114 (v := ((s3 33 14) - v1)) rfl d_M_read_138 ?_
                  refine j_if_ne X d_M_read_141 (tgt := 148) (by decide) (fun h => ?_) (fun h => ?_)
                  · have hw := hw.1 h
                    refine j_aload_n X d_M_read_148 rfl 0 rfl ?_
                    refine g_33_5 X f_M_98 (v := (s3 33 5)) rfl d_M_read_149 ?_
                    refine p_33_5 X f_M_98 d_M_read_152 ?_
                    refine j_goto X d_M_read_155 (tgt := 204) (by decide) ?_
                    exact j_vret X hlk hr d_M_read_204 hw
                  · have hw := hw.2 h
                    refine j_iconst X (v := (0 : Int32)) d_M_read_144 (by decide) ?_
                    refine j_goto X d_M_read_145 (tgt := 152) (by decide) ?_
                    refine p_33_5 X f_M_98 d_M_read_152 ?_
                    refine j_goto X d_M_read_155 (tgt := 204) (by decide) ?_
                    exact j_vret X hlk hr d_M_read_204 hw
              · have hw := hw.2 h
                refine j_iload_n X d_M_read_114 rfl 2 rfl ?_
                refine j_if_ne X d_M_read_115 (tgt := 127) (by decide) (fun h => ?_) (fun h => ?_)
                · have hw := hw.1 h
                  refine j_iload_n X d_M_read_127 rfl 2 rfl ?_
                  refine j_if_ne X d_M_read_128 (tgt := 158) (by decide) (fun h => ?_) (fun h => ?_)
                  · have hw := hw.1 h
                    refine j_iload_n X d_M_read_158 rfl 3 rfl ?_
                    refine j_if_eq X d_M_read_159 (tgt := 187) (by decide) (fun h => ?_) (fun h => ?_)
                    · have hw := hw.1 h
                      refine j_aload_n X d_M_read_187 rfl 0 rfl ?_
                      refine g_33_1 X f_M_81 (v := (s3 33 1)) rfl d_M_read_188 ?_
                      refine j_iconst X (v := (2 : Int32)) d_M_read_191 (by decide) ?_
                      refine j_icmp_ne X d_M_read_192 (tgt := 199) (by decide) (fun h => ?_) (fun h => ?_)
                      · have hw := hw.1 h
                        refine j_aload_n X d_M_read_199 rfl 0 rfl ?_
                        refine j_iconst X (v := (2 : Int32)) d_M_read_200 (by decide) ?_
                        refine j_callVv (As := [.int (2 : Int32)]) X (c_M_resend l D ca ad sz hD hw) (gcV (n := 1) X rfl rfl rfl gc_M_resend m_M_resend l_M_133 (by decide +kernel) ⟨by decide, by decide⟩) (q0 := 33) rfl rfl (fun _ h => h) rfl rfl (Nat.le_of_ble_eq_true rfl) ⟨by decide, by decide⟩ d_M_read_201 (fun u4 hw => ?_)
                        exact j_vret X hlk hr d_M_read_204 hw
                      · have hw := hw.2 h
                        refine j_iload_n X d_M_read_195 rfl 1 rfl ?_
                        refine j_if_le X d_M_read_196 (tgt := 204) (by decide) (fun h => ?_) (fun h => ?_)
                        · have hw := hw.1 h
                          exact j_vret X hlk hr d_M_read_204 hw
                        · have hw := hw.2 h
                          refine j_aload_n X d_M_read_199 rfl 0 rfl ?_
                          refine j_iconst X (v := (2 : Int32)) d_M_read_200 (by decide) ?_
                          refine j_callVv (As := [.int (2 : Int32)]) X (c_M_resend l D ca ad sz hD hw) (gcV (n := 1) X rfl rfl rfl gc_M_resend m_M_resend l_M_133 (by decide +kernel) ⟨by decide, by decide⟩) (q0 := 33) rfl rfl (fun _ h => h) rfl rfl (Nat.le_of_ble_eq_true rfl) ⟨by decide, by decide⟩ d_M_read_201 (fun u5 hw => ?_)
                          exact j_vret X hlk hr d_M_read_204 hw
                    · have hw := hw.2 h
                      refine j_aload_n X d_M_read_162 rfl 0 rfl ?_
                      refine j_iconst X (v := (3 : Int32)) d_M_read_163 (by decide) ?_
                      refine p_33_1 X f_M_81 d_M_read_164 ?_
                      refine j_aload_n X d_M_read_167 rfl 0 rfl ?_
                      refine g_33_8 X f_M_13 (v := (s3 33 8)) rfl d_M_read_168 ?_
                      refine j_iconst X (v := (1 : Int32)) d_M_read_171 (by decide) ?_
                      refine j_icmp_ne X d_M_read_172 (tgt := 204) (by decide) (fun h => ?_) (fun h => ?_)
                      · have hw := hw.1 h
                        exact j_vret X hlk hr d_M_read_204 hw
                      · have hw := hw.2 h
                        refine j_iload_n X d_M_read_175 rfl 1 rfl ?_
                        refine j_if_le X d_M_read_176 (tgt := 204) (by decide) (fun h => ?_) (fun h => ?_)
                        · have hw := hw.1 h
                          exact j_vret X hlk hr d_M_read_204 hw
                        · have hw := hw.2 h
                          refine j_aload_n X d_M_read_179 rfl 0 rfl ?_
                          refine j_iconst X (v := (1 : Int32)) d_M_read_180 (by decide) ?_
                          refine j_callVv (As := [.int (1 : Int32)]) X (c_M_alarm l D ca ad sz hD hw) (gcV (n := 1) X rfl rfl rfl gc_M_alarm m_M_alarm l_M_126 (by decide +kernel) ⟨by decide, by decide⟩) (q0 := 33) rfl rfl (fun _ h => h) rfl rfl (Nat.le_of_ble_eq_true rfl) ⟨by decide, by decide⟩ d_M_read_181 (fun u6 hw => ?_)
                          refine j_goto X d_M_read_184 (tgt := 204) (by decide) ?_
                          exact j_vret X hlk hr d_M_read_204 hw
                  · have hw := hw.2 h
                    refine j_aload_n X d_M_read_131 rfl 0 rfl ?_
                    refine j_iconst X (v := (1 : Int32)) d_M_read_132 (by decide) ?_
                    refine p_33_1 X f_M_81 d_M_read_133 ?_
                    refine j_aload_n X d_M_read_136 rfl 0 rfl ?_
                    refine j_aload_n X d_M_read_137 rfl 0 rfl ?_
                    refine g_33_14 X f_M_114 (v := ((s3 33 14) - v1)) rfl d_M_read_138 ?_
                    refine j_if_ne X d_M_read_141 (tgt := 148) (by decide) (fun h => ?_) (fun h => ?_)
                    · have hw := hw.1 h
                      refine j_aload_n X d_M_read_148 rfl 0 rfl ?_
                      refine g_33_5 X f_M_98 (v := (s3 33 5)) rfl d_M_read_149 ?_
                      refine p_33_5 X f_M_98 d_M_read_152 ?_
                      refine j_goto X d_M_read_155 (tgt := 204) (by decide) ?_
                      exact j_vret X hlk hr d_M_read_204 hw
                    · have hw := hw.2 h
                      refine j_iconst X (v := (0 : Int32)) d_M_read_144 (by decide) ?_
                      refine j_goto X d_M_read_145 (tgt := 152) (by decide) ?_
                      refine p_33_5 X f_M_98 d_M_read_152 ?_
                      refine j_goto X d_M_read_155 (tgt := 204) (by decide) ?_
                      exact j_vret X hlk hr d_M_read_204 hw
                · have hw := hw.2 h
                  refine j_aload_n X d_M_read_118 rfl 0 rfl ?_
                  refine j_bipush X (v := (6 : Int32)) d_M_read_119 (by decide) ?_
                  refine j_callVv (As := [.int (6 : Int32)]) X (c_M_alarm l D ca ad sz hD hw) (gcV (n := 1) X rfl rfl rfl gc_M_alarm m_M_alarm l_M_126 (by decide +kernel) ⟨by decide, by decide⟩) (q0 := 33) rfl rfl (fun _ h => h) rfl rfl (Nat.le_of_ble_eq_true rfl) ⟨by decide, by decide⟩ d_M_read_121 (fun u7 hw => ?_)
                  refine j_goto X d_M_read_124 (tgt := 204) (by decide) ?_
                  exact j_vret X hlk hr d_M_read_204 hw
            · have hw := hw.2 h
              refine j_iload_n X d_M_read_98 rfl 2 rfl ?_
              refine j_if_eq X d_M_read_99 (tgt := 110) (by decide) (fun h => ?_) (fun h => ?_)
              · have hw := hw.1 h
                refine j_iload_n X d_M_read_110 rfl 3 rfl ?_
                refine j_if_eq X d_M_read_111 (tgt := 127) (by decide) (fun h => ?_) (fun h => ?_)
                · have hw := hw.1 h
                  refine j_iload_n X d_M_read_127 rfl 2 rfl ?_
                  refine j_if_ne X d_M_read_128 (tgt := 158) (by decide) (fun h => ?_) (fun h => ?_)
                  · have hw := hw.1 h
                    refine j_iload_n X d_M_read_158 rfl 3 rfl ?_
                    refine j_if_eq X d_M_read_159 (tgt := 187) (by decide) (fun h => ?_) (fun h => ?_)
                    · have hw := hw.1 h
                      refine j_aload_n X d_M_read_187 rfl 0 rfl ?_
                      refine g_33_1 X f_M_81 (v := (s3 33 1)) rfl d_M_read_188 ?_
                      refine j_iconst X (v := (2 : Int32)) d_M_read_191 (by decide) ?_
                      refine j_icmp_ne X d_M_read_192 (tgt := 199) (by decide) (fun h => ?_) (fun h => ?_)
                      · have hw := hw.1 h
                        refine j_aload_n X d_M_read_199 rfl 0 rfl ?_
                        refine j_iconst X (v := (2 : Int32)) d_M_read_200 (by decide) ?_
                        refine j_callVv (As := [.int (2 : Int32)]) X (c_M_resend l D ca ad sz hD hw) (gcV (n := 1) X rfl rfl rfl gc_M_resend m_M_resend l_M_133 (by decide +kernel) ⟨by decide, by decide⟩) (q0 := 33) rfl rfl (fun _ h => h) rfl rfl (Nat.le_of_ble_eq_true rfl) ⟨by decide, by decide⟩ d_M_read_201 (fun u8 hw => ?_)
                        exact j_vret X hlk hr d_M_read_204 hw
                      · have hw := hw.2 h
                        refine j_iload_n X d_M_read_195 rfl 1 rfl ?_
                        refine j_if_le X d_M_read_196 (tgt := 204) (by decide) (fun h => ?_) (fun h => ?_)
                        · have hw := hw.1 h
                          exact j_vret X hlk hr d_M_read_204 hw
                        · have hw := hw.2 h
                          refine j_aload_n X d_M_read_199 rfl 0 rfl ?_
                          refine j_iconst X (v := (2 : Int32)) d_M_read_200 (by decide) ?_
                          refine j_callVv (As := [.int (2 : Int32)]) X (c_M_resend l D ca ad sz hD hw) (gcV (n := 1) X rfl rfl rfl gc_M_resend m_M_resend l_M_133 (by decide +kernel) ⟨by decide, by decide⟩) (q0 := 33) rfl rfl (fun _ h => h) rfl rfl (Nat.le_of_ble_eq_true rfl) ⟨by decide, by decide⟩ d_M_read_201 (fun u9 hw => ?_)
                          exact j_vret X hlk hr d_M_read_204 hw
                    · have hw := hw.2 h
                      refine j_aload_n X d_M_read_162 rfl 0 rfl ?_
                      refine j_iconst X (v := (3 : Int32)) d_M_read_163 (by decide) ?_
                      refine p_33_1 X f_M_81 d_M_read_164 ?_
                      refine j_aload_n X d_M_read_167 rfl 0 rfl ?_
                      refine g_33_8 X f_M_13 (v := (s3 33 8)) rfl d_M_read_168 ?_
                      refine j_iconst X (v := (1 : Int32)) d_M_read_171 (by decide) ?_
                      refine j_icmp_ne X d_M_read_172 (tgt := 204) (by decide) (fun h => ?_) (fun h => ?_)
                      · have hw := hw.1 h
                        exact j_vret X hlk hr d_M_read_204 hw
                      · have hw := hw.2 h
                        refine j_iload_n X d_M_read_175 rfl 1 rfl ?_
                        refine j_if_le X d_M_read_176 (tgt := 204) (by decide) (fun h => ?_) (fun h => ?_)
                        · have hw := hw.1 h
                          exact j_vret X hlk hr d_M_read_204 hw
                        · have hw := hw.2 h
                          refine j_aload_n X d_M_read_179 rfl 0 rfl ?_
                          refine j_iconst X (v := (1 : Int32)) d_M_read_180 (by decide) ?_
                          refine j_callVv (As := [.int (1 : Int32)]) X (c_M_alarm l D ca ad sz hD hw) (gcV (n := 1) X rfl rfl rfl gc_M_alarm m_M_alarm l_M_126 (by decide +kernel) ⟨by decide, by decide⟩) (q0 := 33) rfl rfl (fun _ h => h) rfl rfl (Nat.le_of_ble_eq_true rfl) ⟨by decide, by decide⟩ d_M_read_181 (fun u10 hw => ?_)
                          refine j_goto X d_M_read_184 (tgt := 204) (by decide) ?_
                          exact j_vret X hlk hr d_M_read_204 hw
                  · have hw := hw.2 h
                    refine j_aload_n X d_M_read_131 rfl 0 rfl ?_
                    refine j_iconst X (v := (1 : Int32)) d_M_read_132 (by decide) ?_
                    refine p_33_1 X f_M_81 d_M_read_133 ?_
                    refine j_aload_n X d_M_read_136 rfl 0 rfl ?_
                    refine j_aload_n X d_M_read_137 rfl 0 rfl ?_
                    refine g_33_14 X f_M_114 (v := ((s3 33 14) - v1)) rfl d_M_read_138 ?_
                    refine j_if_ne X d_M_read_141 (tgt := 148) (by decide) (fun h => ?_) (fun h => ?_)
                    · have hw := hw.1 h
                      refine j_aload_n X d_M_read_148 rfl 0 rfl ?_
                      refine g_33_5 X f_M_98 (v := (s3 33 5)) rfl d_M_read_149 ?_
                      refine p_33_5 X f_M_98 d_M_read_152 ?_
                      refine j_goto X d_M_read_155 (tgt := 204) (by decide) ?_
                      exact j_vret X hlk hr d_M_read_204 hw
                    · have hw := hw.2 h
                      refine j_iconst X (v := (0 : Int32)) d_M_read_144 (by decide) ?_
                      refine j_goto X d_M_read_145 (tgt := 152) (by decide) ?_
                      refine p_33_5 X f_M_98 d_M_read_152 ?_
                      refine j_goto X d_M_read_155 (tgt := 204) (by decide) ?_
                      exact j_vret X hlk hr d_M_read_204 hw
                · have hw := hw.2 h
                  refine j_iload_n X d_M_read_114 rfl 2 rfl ?_
                  refine j_if_ne X d_M_read_115 (tgt := 127) (by decide) (fun h => ?_) (fun h => ?_)
                  · have hw := hw.1 h
                    refine j_iload_n X d_M_read_127 rfl 2 rfl ?_
                    refine j_if_ne X d_M_read_128 (tgt := 158) (by decide) (fun h => ?_) (fun h => ?_)
                    · have hw := hw.1 h
                      refine j_iload_n X d_M_read_158 rfl 3 rfl ?_
                      refine j_if_eq X d_M_read_159 (tgt := 187) (by decide) (fun h => ?_) (fun h => ?_)
                      · have hw := hw.1 h
                        refine j_aload_n X d_M_read_187 rfl 0 rfl ?_
                        refine g_33_1 X f_M_81 (v := (s3 33 1)) rfl d_M_read_188 ?_
                        refine j_iconst X (v := (2 : Int32)) d_M_read_191 (by decide) ?_
                        refine j_icmp_ne X d_M_read_192 (tgt := 199) (by decide) (fun h => ?_) (fun h => ?_)
                        · have hw := hw.1 h
                          refine j_aload_n X d_M_read_199 rfl 0 rfl ?_
                          refine j_iconst X (v := (2 : Int32)) d_M_read_200 (by decide) ?_
                          refine j_callVv (As := [.int (2 : Int32)]) X (c_M_resend l D ca ad sz hD hw) (gcV (n := 1) X rfl rfl rfl gc_M_resend m_M_resend l_M_133 (by decide +kernel) ⟨by decide, by decide⟩) (q0 := 33) rfl rfl (fun _ h => h) rfl rfl (Nat.le_of_ble_eq_true rfl) ⟨by decide, by decide⟩ d_M_read_201 (fun u11 hw => ?_)
                          exact j_vret X hlk hr d_M_read_204 hw
                        · have hw := hw.2 h
                          refine j_iload_n X d_M_read_195 rfl 1 rfl ?_
                          refine j_if_le X d_M_read_196 (tgt := 204) (by decide) (fun h => ?_) (fun h => ?_)
                          · have hw := hw.1 h
                            exact j_vret X hlk hr d_M_read_204 hw
                          · have hw := hw.2 h
                            refine j_aload_n X d_M_read_199 rfl 0 rfl ?_
                            refine j_iconst X (v := (2 : Int32)) d_M_read_200 (by decide) ?_
                            refine j_callVv (As := [.int (2 : Int32)]) X (c_M_resend l D ca ad sz hD hw) (gcV (n := 1) X rfl rfl rfl gc_M_resend m_M_resend l_M_133 (by decide +kernel) ⟨by decide, by decide⟩) (q0 := 33) rfl rfl (fun _ h => h) rfl rfl (Nat.le_of_ble_eq_true rfl) ⟨by decide, by decide⟩ d_M_read_201 (fun u12 hw => ?_)
                            exact j_vret X hlk hr d_M_read_204 hw
                      · have hw := hw.2 h
                        refine j_aload_n X d_M_read_162 rfl 0 rfl ?_
                        refine j_iconst X (v := (3 : Int32)) d_M_read_163 (by decide) ?_
                        refine p_33_1 X f_M_81 d_M_read_164 ?_
                        refine j_aload_n X d_M_read_167 rfl 0 rfl ?_
                        refine g_33_8 X f_M_13 (v := (s3 33 8)) rfl d_M_read_168 ?_
                        refine j_iconst X (v := (1 : Int32)) d_M_read_171 (by decide) ?_
                        refine j_icmp_ne X d_M_read_172 (tgt := 204) (by decide) (fun h => ?_) (fun h => ?_)
                        · have hw := hw.1 h
                          exact j_vret X hlk hr d_M_read_204 hw
                        · have hw := hw.2 h
                          refine j_iload_n X d_M_read_175 rfl 1 rfl ?_
                          refine j_if_le X d_M_read_176 (tgt := 204) (by decide) (fun h => ?_) (fun h => ?_)
                          · have hw := hw.1 h
                            exact j_vret X hlk hr d_M_read_204 hw
                          · have hw := hw.2 h
                            refine j_aload_n X d_M_read_179 rfl 0 rfl ?_
                            refine j_iconst X (v := (1 : Int32)) d_M_read_180 (by decide) ?_
                            refine j_callVv (As := [.int (1 : Int32)]) X (c_M_alarm l D ca ad sz hD hw) (gcV (n := 1) X rfl rfl rfl gc_M_alarm m_M_alarm l_M_126 (by decide +kernel) ⟨by decide, by decide⟩) (q0 := 33) rfl rfl (fun _ h => h) rfl rfl (Nat.le_of_ble_eq_true rfl) ⟨by decide, by decide⟩ d_M_read_181 (fun u13 hw => ?_)
                            refine j_goto X d_M_read_184 (tgt := 204) (by decide) ?_
                            exact j_vret X hlk hr d_M_read_204 hw
                    · have hw := hw.2 h
                      refine j_aload_n X d_M_read_131 rfl 0 rfl ?_
                      refine j_iconst X (v := (1 : Int32)) d_M_read_132 (by decide) ?_
                      refine p_33_1 X f_M_81 d_M_read_133 ?_
                      refine j_aload_n X d_M_read_136 rfl 0 rfl ?_
                      refine j_aload_n X d_M_read_137 rfl 0 rfl ?_
                      refine g_33_14 X f_M_114 (v := ((s3 33 14) - v1)) rfl d_M_read_138 ?_
                      refine j_if_ne X d_M_read_141 (tgt := 148) (by decide) (fun h => ?_) (fun h => ?_)
                      · have hw := hw.1 h
                        refine j_aload_n X d_M_read_148 rfl 0 rfl ?_
                        refine g_33_5 X f_M_98 (v := (s3 33 5)) rfl d_M_read_149 ?_
                        refine p_33_5 X f_M_98 d_M_read_152 ?_
                        refine j_goto X d_M_read_155 (tgt := 204) (by decide) ?_
                        exact j_vret X hlk hr d_M_read_204 hw
                      · have hw := hw.2 h
                        refine j_iconst X (v := (0 : Int32)) d_M_read_144 (by decide) ?_
                        refine j_goto X d_M_read_145 (tgt := 152) (by decide) ?_
                        refine p_33_5 X f_M_98 d_M_read_152 ?_
                        refine j_goto X d_M_read_155 (tgt := 204) (by decide) ?_
                        exact j_vret X hlk hr d_M_read_204 hw
                  · have hw := hw.2 h
                    refine j_aload_n X d_M_read_118 rfl 0 rfl ?_
                    refine j_bipush X (v := (6 : Int32)) d_M_read_119 (by decide) ?_
                    refine j_callVv (As := [.int (6 : Int32)]) X (c_M_alarm l D ca ad sz hD hw) (gcV (n := 1) X rfl rfl rfl gc_M_alarm m_M_alarm l_M_126 (by decide +kernel) ⟨by decide, by decide⟩) (q0 := 33) rfl rfl (fun _ h => h) rfl rfl (Nat.le_of_ble_eq_true rfl) ⟨by decide, by decide⟩ d_M_read_121 (fun u14 hw => ?_)
                    refine j_goto X d_M_read_124 (tgt := 204) (by decide) ?_
                    exact j_vret X hlk hr d_M_read_204 hw
              · have hw := hw.2 h
                refine j_aload_n X d_M_read_102 rfl 0 rfl ?_
                refine j_iconst X (v := (3 : Int32)) d_M_read_103 (by decide) ?_
                refine j_callVv (As := [.int (3 : Int32)]) X (c_M_alarm l D ca ad sz hD hw) (gcV (n := 1) X rfl rfl rfl gc_M_alarm m_M_alarm l_M_126 (by decide +kernel) ⟨by decide, by decide⟩) (q0 := 33) rfl rfl (fun _ h => h) rfl rfl (Nat.le_of_ble_eq_true rfl) ⟨by decide, by decide⟩ d_M_read_104 (fun u15 hw => ?_)
                refine j_goto X d_M_read_107 (tgt := 204) (by decide) ?_
                exact j_vret X hlk hr d_M_read_204 hw
          · have hw := hw.2 h
            refine j_iconst X (v := (1 : Int32)) d_M_read_80 (by decide) ?_
            refine j_goto X d_M_read_81 (tgt := 88) (by decide) ?_
            refine p_33_4 X f_M_108 d_M_read_88 ?_
            refine j_aload_n X d_M_read_91 rfl 0 rfl ?_
            refine g_33_14 X f_M_114 (v := ((s3 33 14) - v1)) rfl d_M_read_92 ?_
            refine j_if_ne X d_M_read_95 (tgt := 110) (by decide) (fun h => ?_) (fun h => ?_)
            · have hw := hw.1 h
              refine j_iload_n X d_M_read_110 rfl 3 rfl ?_
              refine j_if_eq X d_M_read_111 (tgt := 127) (by decide) (fun h => ?_) (fun h => ?_)
              · have hw := hw.1 h
                refine j_iload_n X d_M_read_127 rfl 2 rfl ?_
                refine j_if_ne X d_M_read_128 (tgt := 158) (by decide) (fun h => ?_) (fun h => ?_)
                · have hw := hw.1 h
                  refine j_iload_n X d_M_read_158 rfl 3 rfl ?_
                  refine j_if_eq X d_M_read_159 (tgt := 187) (by decide) (fun h => ?_) (fun h => ?_)
                  · have hw := hw.1 h
                    refine j_aload_n X d_M_read_187 rfl 0 rfl ?_
                    refine g_33_1 X f_M_81 (v := (s3 33 1)) rfl d_M_read_188 ?_
                    refine j_iconst X (v := (2 : Int32)) d_M_read_191 (by decide) ?_
                    refine j_icmp_ne X d_M_read_192 (tgt := 199) (by decide) (fun h => ?_) (fun h => ?_)
                    · have hw := hw.1 h
                      refine j_aload_n X d_M_read_199 rfl 0 rfl ?_
                      refine j_iconst X (v := (2 : Int32)) d_M_read_200 (by decide) ?_
                      refine j_callVv (As := [.int (2 : Int32)]) X (c_M_resend l D ca ad sz hD hw) (gcV (n := 1) X rfl rfl rfl gc_M_resend m_M_resend l_M_133 (by decide +kernel) ⟨by decide, by decide⟩) (q0 := 33) rfl rfl (fun _ h => h) rfl rfl (Nat.le_of_ble_eq_true rfl) ⟨by decide, by decide⟩ d_M_read_201 (fun u16 hw => ?_)
                      exact j_vret X hlk hr d_M_read_204 hw
                    · have hw := hw.2 h
                      refine j_iload_n X d_M_read_195 rfl 1 rfl ?_
                      refine j_if_le X d_M_read_196 (tgt := 204) (by decide) (fun h => ?_) (fun h => ?_)
                      · have hw := hw.1 h
                        exact j_vret X hlk hr d_M_read_204 hw
                      · have hw := hw.2 h
                        refine j_aload_n X d_M_read_199 rfl 0 rfl ?_
                        refine j_iconst X (v := (2 : Int32)) d_M_read_200 (by decide) ?_
                        refine j_callVv (As := [.int (2 : Int32)]) X (c_M_resend l D ca ad sz hD hw) (gcV (n := 1) X rfl rfl rfl gc_M_resend m_M_resend l_M_133 (by decide +kernel) ⟨by decide, by decide⟩) (q0 := 33) rfl rfl (fun _ h => h) rfl rfl (Nat.le_of_ble_eq_true rfl) ⟨by decide, by decide⟩ d_M_read_201 (fun u17 hw => ?_)
                        exact j_vret X hlk hr d_M_read_204 hw
                  · have hw := hw.2 h
                    refine j_aload_n X d_M_read_162 rfl 0 rfl ?_
                    refine j_iconst X (v := (3 : Int32)) d_M_read_163 (by decide) ?_
                    refine p_33_1 X f_M_81 d_M_read_164 ?_
                    refine j_aload_n X d_M_read_167 rfl 0 rfl ?_
                    refine g_33_8 X f_M_13 (v := (s3 33 8)) rfl d_M_read_168 ?_
                    refine j_iconst X (v := (1 : Int32)) d_M_read_171 (by decide) ?_
                    refine j_icmp_ne X d_M_read_172 (tgt := 204) (by decide) (fun h => ?_) (fun h => ?_)
                    · have hw := hw.1 h
                      exact j_vret X hlk hr d_M_read_204 hw
                    · have hw := hw.2 h
                      refine j_iload_n X d_M_read_175 rfl 1 rfl ?_
                      refine j_if_le X d_M_read_176 (tgt := 204) (by decide) (fun h => ?_) (fun h => ?_)
                      · have hw := hw.1 h
                        exact j_vret X hlk hr d_M_read_204 hw
                      · have hw := hw.2 h
                        refine j_aload_n X d_M_read_179 rfl 0 rfl ?_
                        refine j_iconst X (v := (1 : Int32)) d_M_read_180 (by decide) ?_
                        refine j_callVv (As := [.int (1 : Int32)]) X (c_M_alarm l D ca ad sz hD hw) (gcV (n := 1) X rfl rfl rfl gc_M_alarm m_M_alarm l_M_126 (by decide +kernel) ⟨by decide, by decide⟩) (q0 := 33) rfl rfl (fun _ h => h) rfl rfl (Nat.le_of_ble_eq_true rfl) ⟨by decide, by decide⟩ d_M_read_181 (fun u18 hw => ?_)
                        refine j_goto X d_M_read_184 (tgt := 204) (by decide) ?_
                        exact j_vret X hlk hr d_M_read_204 hw
                · have hw := hw.2 h
                  refine j_aload_n X d_M_read_131 rfl 0 rfl ?_
                  refine j_iconst X (v := (1 : Int32)) d_M_read_132 (by decide) ?_
                  refine p_33_1 X f_M_81 d_M_read_133 ?_
                  refine j_aload_n X d_M_read_136 rfl 0 rfl ?_
                  refine j_aload_n X d_M_read_137 rfl 0 rfl ?_
                  refine g_33_14 X f_M_114 (v := ((s3 33 14) - v1)) rfl d_M_read_138 ?_
                  refine j_if_ne X d_M_read_141 (tgt := 148) (by decide) (fun h => ?_) (fun h => ?_)
                  · have hw := hw.1 h
                    refine j_aload_n X d_M_read_148 rfl 0 rfl ?_
                    refine g_33_5 X f_M_98 (v := (s3 33 5)) rfl d_M_read_149 ?_
                    refine p_33_5 X f_M_98 d_M_read_152 ?_
                    refine j_goto X d_M_read_155 (tgt := 204) (by decide) ?_
                    exact j_vret X hlk hr d_M_read_204 hw
                  · have hw := hw.2 h
                    refine j_iconst X (v := (0 : Int32)) d_M_read_144 (by decide) ?_
                    refine j_goto X d_M_read_145 (tgt := 152) (by decide) ?_
                    refine p_33_5 X f_M_98 d_M_read_152 ?_
                    refine j_goto X d_M_read_155 (tgt := 204) (by decide) ?_
                    exact j_vret X hlk hr d_M_read_204 hw
              · have hw := hw.2 h
                refine j_iload_n X d_M_read_114 rfl 2 rfl ?_
                refine j_if_ne X d_M_read_115 (tgt := 127) (by decide) (fun h => ?_) (fun h => ?_)
                · have hw := hw.1 h
                  refine j_iload_n X d_M_read_127 rfl 2 rfl ?_
                  refine j_if_ne X d_M_read_128 (tgt := 158) (by decide) (fun h => ?_) (fun h => ?_)
                  · have hw := hw.1 h
                    refine j_iload_n X d_M_read_158 rfl 3 rfl ?_
                    refine j_if_eq X d_M_read_159 (tgt := 187) (by decide) (fun h => ?_) (fun h => ?_)
                    · have hw := hw.1 h
                      refine j_aload_n X d_M_read_187 rfl 0 rfl ?_
                      refine g_33_1 X f_M_81 (v := (s3 33 1)) rfl d_M_read_188 ?_
                      refine j_iconst X (v := (2 : Int32)) d_M_read_191 (by decide) ?_
                      refine j_icmp_ne X d_M_read_192 (tgt := 199) (by decide) (fun h => ?_) (fun h => ?_)
                      · have hw := hw.1 h
                        refine j_aload_n X d_M_read_199 rfl 0 rfl ?_
                        refine j_iconst X (v := (2 : Int32)) d_M_read_200 (by decide) ?_
                        refine j_callVv (As := [.int (2 : Int32)]) X (c_M_resend l D ca ad sz hD hw) (gcV (n := 1) X rfl rfl rfl gc_M_resend m_M_resend l_M_133 (by decide +kernel) ⟨by decide, by decide⟩) (q0 := 33) rfl rfl (fun _ h => h) rfl rfl (Nat.le_of_ble_eq_true rfl) ⟨by decide, by decide⟩ d_M_read_201 (fun u19 hw => ?_)
                        exact j_vret X hlk hr d_M_read_204 hw
                      · have hw := hw.2 h
                        refine j_iload_n X d_M_read_195 rfl 1 rfl ?_
                        refine j_if_le X d_M_read_196 (tgt := 204) (by decide) (fun h => ?_) (fun h => ?_)
                        · have hw := hw.1 h
                          exact j_vret X hlk hr d_M_read_204 hw
                        · have hw := hw.2 h
                          refine j_aload_n X d_M_read_199 rfl 0 rfl ?_
                          refine j_iconst X (v := (2 : Int32)) d_M_read_200 (by decide) ?_
                          refine j_callVv (As := [.int (2 : Int32)]) X (c_M_resend l D ca ad sz hD hw) (gcV (n := 1) X rfl rfl rfl gc_M_resend m_M_resend l_M_133 (by decide +kernel) ⟨by decide, by decide⟩) (q0 := 33) rfl rfl (fun _ h => h) rfl rfl (Nat.le_of_ble_eq_true rfl) ⟨by decide, by decide⟩ d_M_read_201 (fun u20 hw => ?_)
                          exact j_vret X hlk hr d_M_read_204 hw
                    · have hw := hw.2 h
                      refine j_aload_n X d_M_read_162 rfl 0 rfl ?_
                      refine j_iconst X (v := (3 : Int32)) d_M_read_163 (by decide) ?_
                      refine p_33_1 X f_M_81 d_M_read_164 ?_
                      refine j_aload_n X d_M_read_167 rfl 0 rfl ?_
                      refine g_33_8 X f_M_13 (v := (s3 33 8)) rfl d_M_read_168 ?_
                      refine j_iconst X (v := (1 : Int32)) d_M_read_171 (by decide) ?_
                      refine j_icmp_ne X d_M_read_172 (tgt := 204) (by decide) (fun h => ?_) (fun h => ?_)
                      · have hw := hw.1 h
                        exact j_vret X hlk hr d_M_read_204 hw
                      · have hw := hw.2 h
                        refine j_iload_n X d_M_read_175 rfl 1 rfl ?_
                        refine j_if_le X d_M_read_176 (tgt := 204) (by decide) (fun h => ?_) (fun h => ?_)
                        · have hw := hw.1 h
                          exact j_vret X hlk hr d_M_read_204 hw
                        · have hw := hw.2 h
                          refine j_aload_n X d_M_read_179 rfl 0 rfl ?_
                          refine j_iconst X (v := (1 : Int32)) d_M_read_180 (by decide) ?_
                          refine j_callVv (As := [.int (1 : Int32)]) X (c_M_alarm l D ca ad sz hD hw) (gcV (n := 1) X rfl rfl rfl gc_M_alarm m_M_alarm l_M_126 (by decide +kernel) ⟨by decide, by decide⟩) (q0 := 33) rfl rfl (fun _ h => h) rfl rfl (Nat.le_of_ble_eq_true rfl) ⟨by decide, by decide⟩ d_M_read_181 (fun u21 hw => ?_)
                          refine j_goto X d_M_read_184 (tgt := 204) (by decide) ?_
                          exact j_vret X hlk hr d_M_read_204 hw
                  · have hw := hw.2 h
                    refine j_aload_n X d_M_read_131 rfl 0 rfl ?_
                    refine j_iconst X (v := (1 : Int32)) d_M_read_132 (by decide) ?_
                    refine p_33_1 X f_M_81 d_M_read_133 ?_
                    refine j_aload_n X d_M_read_136 rfl 0 rfl ?_
                    refine j_aload_n X d_M_read_137 rfl 0 rfl ?_
                    refine g_33_14 X f_M_114 (v := ((s3 33 14) - v1)) rfl d_M_read_138 ?_
                    refine j_if_ne X d_M_read_141 (tgt := 148) (by decide) (fun h => ?_) (fun h => ?_)
                    · have hw := hw.1 h
                      refine j_aload_n X d_M_read_148 rfl 0 rfl ?_
                      refine g_33_5 X f_M_98 (v := (s3 33 5)) rfl d_M_read_149 ?_
                      refine p_33_5 X f_M_98 d_M_read_152 ?_
                      refine j_goto X d_M_read_155 (tgt := 204) (by decide) ?_
                      exact j_vret X hlk hr d_M_read_204 hw
                    · have hw := hw.2 h
                      refine j_iconst X (v := (0 : Int32)) d_M_read_144 (by decide) ?_
                      refine j_goto X d_M_read_145 (tgt := 152) (by decide) ?_
                      refine p_33_5 X f_M_98 d_M_read_152 ?_
                      refine j_goto X d_M_read_155 (tgt := 204) (by decide) ?_
                      exact j_vret X hlk hr d_M_read_204 hw
                · have hw := hw.2 h
                  refine j_aload_n X d_M_read_118 rfl 0 rfl ?_
                  refine j_bipush X (v := (6 : Int32)) d_M_read_119 (by decide) ?_
                  refine j_callVv (As := [.int (6 : Int32)]) X (c_M_alarm l D ca ad sz hD hw) (gcV (n := 1) X rfl rfl rfl gc_M_alarm m_M_alarm l_M_126 (by decide +kernel) ⟨by decide, by decide⟩) (q0 := 33) rfl rfl (fun _ h => h) rfl rfl (Nat.le_of_ble_eq_true rfl) ⟨by decide, by decide⟩ d_M_read_121 (fun u22 hw => ?_)
                  refine j_goto X d_M_read_124 (tgt := 204) (by decide) ?_
                  exact j_vret X hlk hr d_M_read_204 hw
            · have hw := hw.2 h
              refine j_iload_n X d_M_read_98 rfl 2 rfl ?_
              refine j_if_eq X d_M_read_99 (tgt := 110) (by decide) (fun h => ?_) (fun h => ?_)
              · have hw := hw.1 h
                refine j_iload_n X d_M_read_110 rfl 3 rfl ?_
                refine j_if_eq X d_M_read_111 (tgt := 127) (by decide) (fun h => ?_) (fun h => ?_)
                · have hw := hw.1 h
                  refine j_iload_n X d_M_read_127 rfl 2 rfl ?_
                  refine j_if_ne X d_M_read_128 (tgt := 158) (by decide) (fun h => ?_) (fun h => ?_)
                  · have hw := hw.1 h
                    refine j_iload_n X d_M_read_158 rfl 3 rfl ?_
                    refine j_if_eq X d_M_read_159 (tgt := 187) (by decide) (fun h => ?_) (fun h => ?_)
                    · have hw := hw.1 h
                      refine j_aload_n X d_M_read_187 rfl 0 rfl ?_
                      refine g_33_1 X f_M_81 (v := (s3 33 1)) rfl d_M_read_188 ?_
                      refine j_iconst X (v := (2 : Int32)) d_M_read_191 (by decide) ?_
                      refine j_icmp_ne X d_M_read_192 (tgt := 199) (by decide) (fun h => ?_) (fun h => ?_)
                      · have hw := hw.1 h
                        refine j_aload_n X d_M_read_199 rfl 0 rfl ?_
                        refine j_iconst X (v := (2 : Int32)) d_M_read_200 (by decide) ?_
                        refine j_callVv (As := [.int (2 : Int32)]) X (c_M_resend l D ca ad sz hD hw) (gcV (n := 1) X rfl rfl rfl gc_M_resend m_M_resend l_M_133 (by decide +kernel) ⟨by decide, by decide⟩) (q0 := 33) rfl rfl (fun _ h => h) rfl rfl (Nat.le_of_ble_eq_true rfl) ⟨by decide, by decide⟩ d_M_read_201 (fun u23 hw => ?_)
                        exact j_vret X hlk hr d_M_read_204 hw
                      · have hw := hw.2 h
                        refine j_iload_n X d_M_read_195 rfl 1 rfl ?_
                        refine j_if_le X d_M_read_196 (tgt := 204) (by decide) (fun h => ?_) (fun h => ?_)
                        · have hw := hw.1 h
                          exact j_vret X hlk hr d_M_read_204 hw
                        · have hw := hw.2 h
                          refine j_aload_n X d_M_read_199 rfl 0 rfl ?_
                          refine j_iconst X (v := (2 : Int32)) d_M_read_200 (by decide) ?_
                          refine j_callVv (As := [.int (2 : Int32)]) X (c_M_resend l D ca ad sz hD hw) (gcV (n := 1) X rfl rfl rfl gc_M_resend m_M_resend l_M_133 (by decide +kernel) ⟨by decide, by decide⟩) (q0 := 33) rfl rfl (fun _ h => h) rfl rfl (Nat.le_of_ble_eq_true rfl) ⟨by decide, by decide⟩ d_M_read_201 (fun u24 hw => ?_)
                          exact j_vret X hlk hr d_M_read_204 hw
                    · have hw := hw.2 h
                      refine j_aload_n X d_M_read_162 rfl 0 rfl ?_
                      refine j_iconst X (v := (3 : Int32)) d_M_read_163 (by decide) ?_
                      refine p_33_1 X f_M_81 d_M_read_164 ?_
                      refine j_aload_n X d_M_read_167 rfl 0 rfl ?_
                      refine g_33_8 X f_M_13 (v := (s3 33 8)) rfl d_M_read_168 ?_
                      refine j_iconst X (v := (1 : Int32)) d_M_read_171 (by decide) ?_
                      refine j_icmp_ne X d_M_read_172 (tgt := 204) (by decide) (fun h => ?_) (fun h => ?_)
                      · have hw := hw.1 h
                        exact j_vret X hlk hr d_M_read_204 hw
                      · have hw := hw.2 h
                        refine j_iload_n X d_M_read_175 rfl 1 rfl ?_
                        refine j_if_le X d_M_read_176 (tgt := 204) (by decide) (fun h => ?_) (fun h => ?_)
                        · have hw := hw.1 h
                          exact j_vret X hlk hr d_M_read_204 hw
                        · have hw := hw.2 h
                          refine j_aload_n X d_M_read_179 rfl 0 rfl ?_
                          refine j_iconst X (v := (1 : Int32)) d_M_read_180 (by decide) ?_
                          refine j_callVv (As := [.int (1 : Int32)]) X (c_M_alarm l D ca ad sz hD hw) (gcV (n := 1) X rfl rfl rfl gc_M_alarm m_M_alarm l_M_126 (by decide +kernel) ⟨by decide, by decide⟩) (q0 := 33) rfl rfl (fun _ h => h) rfl rfl (Nat.le_of_ble_eq_true rfl) ⟨by decide, by decide⟩ d_M_read_181 (fun u25 hw => ?_)
                          refine j_goto X d_M_read_184 (tgt := 204) (by decide) ?_
                          exact j_vret X hlk hr d_M_read_204 hw
                  · have hw := hw.2 h
                    refine j_aload_n X d_M_read_131 rfl 0 rfl ?_
                    refine j_iconst X (v := (1 : Int32)) d_M_read_132 (by decide) ?_
                    refine p_33_1 X f_M_81 d_M_read_133 ?_
                    refine j_aload_n X d_M_read_136 rfl 0 rfl ?_
                    refine j_aload_n X d_M_read_137 rfl 0 rfl ?_
                    refine g_33_14 X f_M_114 (v := ((s3 33 14) - v1)) rfl d_M_read_138 ?_
                    refine j_if_ne X d_M_read_141 (tgt := 148) (by decide) (fun h => ?_) (fun h => ?_)
                    · have hw := hw.1 h
                      refine j_aload_n X d_M_read_148 rfl 0 rfl ?_
                      refine g_33_5 X f_M_98 (v := (s3 33 5)) rfl d_M_read_149 ?_
                      refine p_33_5 X f_M_98 d_M_read_152 ?_
                      refine j_goto X d_M_read_155 (tgt := 204) (by decide) ?_
                      exact j_vret X hlk hr d_M_read_204 hw
                    · have hw := hw.2 h
                      refine j_iconst X (v := (0 : Int32)) d_M_read_144 (by decide) ?_
                      refine j_goto X d_M_read_145 (tgt := 152) (by decide) ?_
                      refine p_33_5 X f_M_98 d_M_read_152 ?_
                      refine j_goto X d_M_read_155 (tgt := 204) (by decide) ?_
                      exact j_vret X hlk hr d_M_read_204 hw
                · have hw := hw.2 h
                  refine j_iload_n X d_M_read_114 rfl 2 rfl ?_
                  refine j_if_ne X d_M_read_115 (tgt := 127) (by decide) (fun h => ?_) (fun h => ?_)
                  · have hw := hw.1 h
                    refine j_iload_n X d_M_read_127 rfl 2 rfl ?_
                    refine j_if_ne X d_M_read_128 (tgt := 158) (by decide) (fun h => ?_) (fun h => ?_)
                    · have hw := hw.1 h
                      refine j_iload_n X d_M_read_158 rfl 3 rfl ?_
                      refine j_if_eq X d_M_read_159 (tgt := 187) (by decide) (fun h => ?_) (fun h => ?_)
                      · have hw := hw.1 h
                        refine j_aload_n X d_M_read_187 rfl 0 rfl ?_
                        refine g_33_1 X f_M_81 (v := (s3 33 1)) rfl d_M_read_188 ?_
                        refine j_iconst X (v := (2 : Int32)) d_M_read_191 (by decide) ?_
                        refine j_icmp_ne X d_M_read_192 (tgt := 199) (by decide) (fun h => ?_) (fun h => ?_)
                        · have hw := hw.1 h
                          refine j_aload_n X d_M_read_199 rfl 0 rfl ?_
                          refine j_iconst X (v := (2 : Int32)) d_M_read_200 (by decide) ?_
                          refine j_callVv (As := [.int (2 : Int32)]) X (c_M_resend l D ca ad sz hD hw) (gcV (n := 1) X rfl rfl rfl gc_M_resend m_M_resend l_M_133 (by decide +kernel) ⟨by decide, by decide⟩) (q0 := 33) rfl rfl (fun _ h => h) rfl rfl (Nat.le_of_ble_eq_true rfl) ⟨by decide, by decide⟩ d_M_read_201 (fun u26 hw => ?_)
                          exact j_vret X hlk hr d_M_read_204 hw
                        · have hw := hw.2 h
                          refine j_iload_n X d_M_read_195 rfl 1 rfl ?_
                          refine j_if_le X d_M_read_196 (tgt := 204) (by decide) (fun h => ?_) (fun h => ?_)
                          · have hw := hw.1 h
                            exact j_vret X hlk hr d_M_read_204 hw
                          · have hw := hw.2 h
                            refine j_aload_n X d_M_read_199 rfl 0 rfl ?_
                            refine j_iconst X (v := (2 : Int32)) d_M_read_200 (by decide) ?_
                            refine j_callVv (As := [.int (2 : Int32)]) X (c_M_resend l D ca ad sz hD hw) (gcV (n := 1) X rfl rfl rfl gc_M_resend m_M_resend l_M_133 (by decide +kernel) ⟨by decide, by decide⟩) (q0 := 33) rfl rfl (fun _ h => h) rfl rfl (Nat.le_of_ble_eq_true rfl) ⟨by decide, by decide⟩ d_M_read_201 (fun u27 hw => ?_)
                            exact j_vret X hlk hr d_M_read_204 hw
                      · have hw := hw.2 h
                        refine j_aload_n X d_M_read_162 rfl 0 rfl ?_
                        refine j_iconst X (v := (3 : Int32)) d_M_read_163 (by decide) ?_
                        refine p_33_1 X f_M_81 d_M_read_164 ?_
                        refine j_aload_n X d_M_read_167 rfl 0 rfl ?_
                        refine g_33_8 X f_M_13 (v := (s3 33 8)) rfl d_M_read_168 ?_
                        refine j_iconst X (v := (1 : Int32)) d_M_read_171 (by decide) ?_
                        refine j_icmp_ne X d_M_read_172 (tgt := 204) (by decide) (fun h => ?_) (fun h => ?_)
                        · have hw := hw.1 h
                          exact j_vret X hlk hr d_M_read_204 hw
                        · have hw := hw.2 h
                          refine j_iload_n X d_M_read_175 rfl 1 rfl ?_
                          refine j_if_le X d_M_read_176 (tgt := 204) (by decide) (fun h => ?_) (fun h => ?_)
                          · have hw := hw.1 h
                            exact j_vret X hlk hr d_M_read_204 hw
                          · have hw := hw.2 h
                            refine j_aload_n X d_M_read_179 rfl 0 rfl ?_
                            refine j_iconst X (v := (1 : Int32)) d_M_read_180 (by decide) ?_
                            refine j_callVv (As := [.int (1 : Int32)]) X (c_M_alarm l D ca ad sz hD hw) (gcV (n := 1) X rfl rfl rfl gc_M_alarm m_M_alarm l_M_126 (by decide +kernel) ⟨by decide, by decide⟩) (q0 := 33) rfl rfl (fun _ h => h) rfl rfl (Nat.le_of_ble_eq_true rfl) ⟨by decide, by decide⟩ d_M_read_181 (fun u28 hw => ?_)
                            refine j_goto X d_M_read_184 (tgt := 204) (by decide) ?_
                            exact j_vret X hlk hr d_M_read_204 hw
                    · have hw := hw.2 h
                      refine j_aload_n X d_M_read_131 rfl 0 rfl ?_
                      refine j_iconst X (v := (1 : Int32)) d_M_read_132 (by decide) ?_
                      refine p_33_1 X f_M_81 d_M_read_133 ?_
                      refine j_aload_n X d_M_read_136 rfl 0 rfl ?_
                      refine j_aload_n X d_M_read_137 rfl 0 rfl ?_
                      refine g_33_14 X f_M_114 (v := ((s3 33 14) - v1)) rfl d_M_read_138 ?_
                      refine j_if_ne X d_M_read_141 (tgt := 148) (by decide) (fun h => ?_) (fun h => ?_)
                      · have hw := hw.1 h
                        refine j_aload_n X d_M_read_148 rfl 0 rfl ?_
                        refine g_33_5 X f_M_98 (v := (s3 33 5)) rfl d_M_read_149 ?_
                        refine p_33_5 X f_M_98 d_M_read_152 ?_
                        refine j_goto X d_M_read_155 (tgt := 204) (by decide) ?_
                        exact j_vret X hlk hr d_M_read_204 hw
                      · have hw := hw.2 h
                        refine j_iconst X (v := (0 : Int32)) d_M_read_144 (by decide) ?_
                        refine j_goto X d_M_read_145 (tgt := 152) (by decide) ?_
                        refine p_33_5 X f_M_98 d_M_read_152 ?_
                        refine j_goto X d_M_read_155 (tgt := 204) (by decide) ?_
                        exact j_vret X hlk hr d_M_read_204 hw
                  · have hw := hw.2 h
                    refine j_aload_n X d_M_read_118 rfl 0 rfl ?_
                    refine j_bipush X (v := (6 : Int32)) d_M_read_119 (by decide) ?_
                    refine j_callVv (As := [.int (6 : Int32)]) X (c_M_alarm l D ca ad sz hD hw) (gcV (n := 1) X rfl rfl rfl gc_M_alarm m_M_alarm l_M_126 (by decide +kernel) ⟨by decide, by decide⟩) (q0 := 33) rfl rfl (fun _ h => h) rfl rfl (Nat.le_of_ble_eq_true rfl) ⟨by decide, by decide⟩ d_M_read_121 (fun u29 hw => ?_)
                    refine j_goto X d_M_read_124 (tgt := 204) (by decide) ?_
                    exact j_vret X hlk hr d_M_read_204 hw
              · have hw := hw.2 h
                refine j_aload_n X d_M_read_102 rfl 0 rfl ?_
                refine j_iconst X (v := (3 : Int32)) d_M_read_103 (by decide) ?_
                refine j_callVv (As := [.int (3 : Int32)]) X (c_M_alarm l D ca ad sz hD hw) (gcV (n := 1) X rfl rfl rfl gc_M_alarm m_M_alarm l_M_126 (by decide +kernel) ⟨by decide, by decide⟩) (q0 := 33) rfl rfl (fun _ h => h) rfl rfl (Nat.le_of_ble_eq_true rfl) ⟨by decide, by decide⟩ d_M_read_104 (fun u30 hw => ?_)
                refine j_goto X d_M_read_107 (tgt := 204) (by decide) ?_
                exact j_vret X hlk hr d_M_read_204 hw
        · have hw := hw.2 h
          refine j_aload_n X d_M_read_14 rfl 0 rfl ?_
          refine g_33_15 X f_M_19 d_M_read_15 ?_
          refine j_iload X d_M_read_18 4 rfl ?_
          refine j_aload_n X d_M_read_20 rfl 0 rfl ?_
          refine g_33_15 X f_M_19 d_M_read_21 ?_
          refine j_iload X d_M_read_24 4 rfl ?_
          refine j_iload_n X d_M_read_26 rfl 1 rfl ?_
          refine j_iadd X d_M_read_27 ?_
          refine ld_34 X hw.1 (v := (s3 34 (Int32.toNatClampNeg (v4 + v1)))) rfl d_M_read_28 ?_
          have hw := hw.2
          refine sr_34 X hw.1 d_M_read_29 ?_
          have hw := hw.2
          refine j_aload_n X d_M_read_30 rfl 0 rfl ?_
          refine g_33_16 X f_M_23 d_M_read_31 ?_
          refine j_iload X d_M_read_34 4 rfl ?_
          refine j_aload_n X d_M_read_36 rfl 0 rfl ?_
          refine g_33_16 X f_M_23 d_M_read_37 ?_
          refine j_iload X d_M_read_40 4 rfl ?_
          refine j_iload_n X d_M_read_42 rfl 1 rfl ?_
          refine j_iadd X d_M_read_43 ?_
          refine ld_35 X hw.1 (v := (s3 35 (Int32.toNatClampNeg (v4 + v1)))) rfl d_M_read_44 ?_
          have hw := hw.2
          refine sr_35 X hw.1 d_M_read_45 ?_
          have hw := hw.2
          refine j_iinc X (v := (1 : Int32)) d_M_read_46 4 rfl (by decide) (by decide) rfl ?_
          refine j_goto X d_M_read_49 (tgt := 3) (by decide) ?_
          refine j_locs [1, 2, 3, 4, 0] rfl ?_
          exact ih3 _ _ _ _ _ hw
    obtain ⟨n, hw⟩ := hw
    refine j_locs [1, 2, 3, 4, 0] rfl ?_
    exact lp3 n _ _ _ _ _ hw
  exact hX
def w_M_answer_L30 (K : Jst → Prop) : Nat → Int32 → Int32 → Int32 → Int32 → Jst → Prop
  | 0, _, _, _, _, _ => False
  | n + 1, v1, v2, v3, v4, s30 => (((s30 33 26) ≤ (v4 + (1 : Int32)) → ((¬ v2 = (0 : Int32) → K (jup s30 33 26 ((s30 33 26) - (1 : Int32)))) ∧ (v2 = (0 : Int32) → ((¬ (s30 33 1) = (0 : Int32) → ((¬ (s30 33 1) = (5 : Int32) → ((¬ ((v3 / (32 : Int32)) - (v3 / (32 : Int32)) / (2 : Int32) * (2 : Int32)) = (1 : Int32) → ((((((v3 - v3 / (16 : Int32) * (16 : Int32)) - (s30 33 3)) + (16 : Int32)) - (((v3 - v3 / (16 : Int32) * (16 : Int32)) - (s30 33 3)) + (16 : Int32)) / (16 : Int32) * (16 : Int32)) ≤ (s30 33 14) → ((¬ ((v3 / (16 : Int32)) - (v3 / (16 : Int32)) / (2 : Int32) * (2 : Int32)) = (1 : Int32) → ((v3 < (64 : Int32) → w_M_read ((((v3 - v3 / (16 : Int32) * (16 : Int32)) - (s30 33 3)) + (16 : Int32)) - (((v3 - v3 / (16 : Int32) * (16 : Int32)) - (s30 33 3)) + (16 : Int32)) / (16 : Int32) * (16 : Int32)) (0 : Int32) (0 : Int32) (jup s30 33 26 ((s30 33 26) - (1 : Int32))) (fun u1 => K u1)) ∧ (¬ v3 < (64 : Int32) → w_M_read ((((v3 - v3 / (16 : Int32) * (16 : Int32)) - (s30 33 3)) + (16 : Int32)) - (((v3 - v3 / (16 : Int32) * (16 : Int32)) - (s30 33 3)) + (16 : Int32)) / (16 : Int32) * (16 : Int32)) (0 : Int32) (1 : Int32) (jup s30 33 26 ((s30 33 26) - (1 : Int32))) (fun u2 => K u2)))) ∧ (((v3 / (16 : Int32)) - (v3 / (16 : Int32)) / (2 : Int32) * (2 : Int32)) = (1 : Int32) → ((v3 < (64 : Int32) → w_M_read ((((v3 - v3 / (16 : Int32) * (16 : Int32)) - (s30 33 3)) + (16 : Int32)) - (((v3 - v3 / (16 : Int32) * (16 : Int32)) - (s30 33 3)) + (16 : Int32)) / (16 : Int32) * (16 : Int32)) (1 : Int32) (0 : Int32) (jup s30 33 26 ((s30 33 26) - (1 : Int32))) (fun u3 => K u3)) ∧ (¬ v3 < (64 : Int32) → w_M_read ((((v3 - v3 / (16 : Int32) * (16 : Int32)) - (s30 33 3)) + (16 : Int32)) - (((v3 - v3 / (16 : Int32) * (16 : Int32)) - (s30 33 3)) + (16 : Int32)) / (16 : Int32) * (16 : Int32)) (1 : Int32) (1 : Int32) (jup s30 33 26 ((s30 33 26) - (1 : Int32))) (fun u4 => K u4)))))) ∧ (¬ ((((v3 - v3 / (16 : Int32) * (16 : Int32)) - (s30 33 3)) + (16 : Int32)) - (((v3 - v3 / (16 : Int32) * (16 : Int32)) - (s30 33 3)) + (16 : Int32)) / (16 : Int32) * (16 : Int32)) ≤ (s30 33 14) → w_M_alarm (4 : Int32) (jup s30 33 26 ((s30 33 26) - (1 : Int32))) (fun u5 => K u5)))) ∧ (((v3 / (32 : Int32)) - (v3 / (32 : Int32)) / (2 : Int32) * (2 : Int32)) = (1 : Int32) → w_M_alarm (2 : Int32) (jup s30 33 26 ((s30 33 26) - (1 : Int32))) (fun u6 => K u6)))) ∧ ((s30 33 1) = (5 : Int32) → ((¬ v3 = (s30 33 2) → K (jup s30 33 26 ((s30 33 26) - (1 : Int32)))) ∧ (v3 = (s30 33 2) → K (jup (jup (jup (jup s30 33 26 ((s30 33 26) - (1 : Int32))) 33 1 (1 : Int32)) 33 4 (1 : Int32)) 33 5 (0 : Int32))))))) ∧ ((s30 33 1) = (0 : Int32) → K (jup s30 33 26 ((s30 33 26) - (1 : Int32)))))))) ∧ (¬ (s30 33 26) ≤ (v4 + (1 : Int32)) → (vp_in (v4 + (1 : Int32)) 20 ∧ (vp_in v4 20 ∧ w_M_answer_L30 K n v1 v2 v3 (v4 + (1 : Int32)) (jup s30 40 (Int32.toNatClampNeg v4) (s30 40 (Int32.toNatClampNeg (v4 + (1 : Int32)))))))))
def w_M_answer (a1 : Int32) (a2 : Int32) (σ : Jst) (K : Jst → Prop) : Prop := w_M_outside a1 (0 : Int32) ((σ 33 26) - (1 : Int32)) σ (fun r2 u1 => w_M_fails r2 (0 : Int32) u1 (fun r4 u3 => ((r4 = (0 : Int32) → (vp_in a1 20 ∧ (∃ n, w_M_answer_L30 K n a1 a2 (u3 40 (Int32.toNatClampNeg a1)) a1 u3))) ∧ (¬ r4 = (0 : Int32) → K u3))))
abbrev rm_M_answer : Room := { frames := 4, cells := 0, slots := 0, locals := 87 }
set_option maxRecDepth 100000 in
set_option maxHeartbeats 4000000 in
theorem c_M_answer (l : Launch) (D : va_G) (ca ad : Nat → Nat) (sz : Nat) (hD : Jd ca ad sz) {a1 a2 : Int32} {σ : Jst} {K : Jst → Prop} (hw : w_M_answer a1 a2 σ K) : Met l y_M_answer (wG y_M_answer b_M_answer 5 none) rm_M_answer (va_Pc [.ref (ad 33), .int a1, .int a2] (Jw D vwCl (tysT ca) (wlT ad ca) (NwT sz) σ)) (va_Qv K (Jq D vwCl (wlT ad ca)) (Aw sz)) 0 0 (Aw sz) := by
  refine j_met (cc := b_M_answer) (own := R_M) (by decide +kernel) rfl (Nat.le_of_ble_eq_true rfl) rfl hD (nwT_k sz) ?_
  intro p e s m args below meth c X hlk hr
  have hX : J p l e rm_M_answer s m args below meth c D vwCl (wlT ad ca) (Aw sz) 5 0 0 (MQ below (va_Qv K (Jq D vwCl (wlT ad ca)) (Aw sz)) args s 0 0 (Aw sz)) 0 [(0, .ref (ad 33)), (1, .int a1), (2, .int a2)] [] σ := by
    unfold w_M_answer at hw
    refine j_aload_n X d_M_answer_0 rfl 0 rfl ?_
    refine j_iload_n X d_M_answer_1 rfl 1 rfl ?_
    refine j_iconst X (v := (0 : Int32)) d_M_answer_2 (by decide) ?_
    refine j_aload_n X d_M_answer_3 rfl 0 rfl ?_
    refine g_33_26 X f_M_162 (v := (σ 33 26)) rfl d_M_answer_4 ?_
    refine j_iconst X (v := (1 : Int32)) d_M_answer_7 (by decide) ?_
    refine j_isub X d_M_answer_8 ?_
    refine j_callSi (As := [.int a1, .int (0 : Int32), .int ((σ 33 26) - (1 : Int32))]) X (c_M_outside l D ca ad sz hD hw) (gcS (n := 3) X rfl rfl rfl gc_M_outside m_M_outside l_M_84 (by decide +kernel) ⟨by decide, by decide⟩) (fun _ h => h) rfl rfl (Nat.le_of_ble_eq_true rfl) ⟨by decide, by decide⟩ d_M_answer_9 (fun r2 u1 hw => ?_)
    refine j_iconst X (v := (0 : Int32)) d_M_answer_12 (by decide) ?_
    refine j_callVi (As := [.int r2, .int (0 : Int32)]) X (c_M_fails l D ca ad sz hD hw) (gcV (n := 2) X rfl rfl rfl gc_M_fails m_M_fails l_M_88 (by decide +kernel) ⟨by decide, by decide⟩) (q0 := 33) rfl rfl (fun _ h => h) rfl rfl (Nat.le_of_ble_eq_true rfl) ⟨by decide, by decide⟩ d_M_answer_13 (fun r4 u3 hw => ?_)
    refine j_if_eq X d_M_answer_16 (tgt := 20) (by decide) (fun h => ?_) (fun h => ?_)
    · have hw := hw.1 h
      refine j_aload_n X d_M_answer_20 rfl 0 rfl ?_
      refine g_33_27 X f_M_39 d_M_answer_21 ?_
      refine j_iload_n X d_M_answer_24 rfl 1 rfl ?_
      refine ld_40 X hw.1 (v := (u3 40 (Int32.toNatClampNeg a1))) rfl d_M_answer_25 ?_
      have hw := hw.2
      refine j_istore_n X d_M_answer_26 rfl (by decide) rfl ?_
      refine j_iload_n X d_M_answer_27 rfl 2 rfl ?_
      refine j_istore X d_M_answer_28 (by decide) rfl ?_
      have lp30 : ∀ (n : Nat) (v1 v2 v3 v4 : Int32) (s30 : Jst), w_M_answer_L30 K n v1 v2 v3 v4 s30 → J p l e rm_M_answer s m args below meth c D vwCl (wlT ad ca) (Aw sz) 5 0 0 (MQ below (va_Qv K (Jq D vwCl (wlT ad ca)) (Aw sz)) args s 0 0 (Aw sz)) 30 [(0, .ref (ad 33)), (1, .int v1), (2, .int v2), (3, .int v3), (4, .int v4)] [] s30 := by
        intro n
        induction n with
        | zero => intro v1 v2 v3 v4 s30 hw; exact (show False from hw).elim
        | succ n ih30 =>
          intro v1 v2 v3 v4 s30 hw
          rw [w_M_answer_L30] at hw
          refine j_iload X d_M_answer_30 4 rfl ?_
          refine j_iconst X (v := (1 : Int32)) d_M_answer_32 (by decide) ?_
          refine j_iadd X d_M_answer_33 ?_
          refine j_aload_n X d_M_answer_34 rfl 0 rfl ?_
          refine g_33_26 X f_M_162 (v := (s30 33 26)) rfl d_M_answer_35 ?_
          refine j_icmp_ge X d_M_answer_38 (tgt := 63) (by decide) (fun h => ?_) (fun h => ?_)
          · have hw := hw.1 h
            refine j_aload_n X d_M_answer_63 rfl 0 rfl ?_
            refine j_dup X d_M_answer_64 rfl ?_
            refine g_33_26 X f_M_162 (v := (s30 33 26)) rfl d_M_answer_65 ?_
            refine j_iconst X (v := (1 : Int32)) d_M_answer_68 (by decide) ?_
            refine j_isub X d_M_answer_69 ?_
            refine p_33_26 X f_M_162 d_M_answer_70 ?_
            refine j_iload_n X d_M_answer_73 rfl 2 rfl ?_
            refine j_if_ne X d_M_answer_74 (tgt := 84) (by decide) (fun h => ?_) (fun h => ?_)
            · have hw := hw.1 h
              exact j_vret X hlk hr d_M_answer_84 hw
            · have hw := hw.2 h
              refine j_aload_n X d_M_answer_77 rfl 0 rfl ?_
              refine g_33_1 X f_M_81 (v := (s30 33 1)) rfl d_M_answer_78 ?_
              refine j_if_ne X d_M_answer_81 (tgt := 85) (by decide) (fun h => ?_) (fun h => ?_)
              · have hw := hw.1 h
                refine j_aload_n X d_M_answer_85 rfl 0 rfl ?_
                refine g_33_1 X f_M_81 (v := (s30 33 1)) rfl d_M_answer_86 ?_
                refine j_iconst X (v := (5 : Int32)) d_M_answer_89 (by decide) ?_
                refine j_icmp_ne X d_M_answer_90 (tgt := 117) (by decide) (fun h => ?_) (fun h => ?_)
                · have hw := hw.1 h
                  refine j_iload_n X d_M_answer_117 rfl 3 rfl ?_
                  refine j_bipush X (v := (16 : Int32)) d_M_answer_118 (by decide) ?_
                  refine j_irem X d_M_answer_120 (by decide) ?_
                  refine j_aload_n X d_M_answer_121 rfl 0 rfl ?_
                  refine g_33_3 X f_M_95 (v := (s30 33 3)) rfl d_M_answer_122 ?_
                  refine j_isub X d_M_answer_125 ?_
                  refine j_bipush X (v := (16 : Int32)) d_M_answer_126 (by decide) ?_
                  refine j_iadd X d_M_answer_128 ?_
                  refine j_bipush X (v := (16 : Int32)) d_M_answer_129 (by decide) ?_
                  refine j_irem X d_M_answer_131 (by decide) ?_
                  refine j_istore X d_M_answer_132 (by decide) rfl ?_
                  refine j_iload_n X d_M_answer_134 rfl 4 rfl ?_
                  refine j_bipush X (v := (32 : Int32)) d_M_answer_135 (by decide) ?_
                  refine j_idiv X d_M_answer_137 (by decide) ?_
                  refine j_iconst X (v := (2 : Int32)) d_M_answer_138 (by decide) ?_
                  refine j_irem X d_M_answer_139 (by decide) ?_
                  refine j_iconst X (v := (1 : Int32)) d_M_answer_140 (by decide) ?_
                  refine j_icmp_ne X d_M_answer_141 (tgt := 152) (by decide) (fun h => ?_) (fun h => ?_)
                  · have hw := hw.1 h
                    refine j_iload X d_M_answer_152 0 rfl ?_
                    refine j_aload_n X d_M_answer_154 rfl 1 rfl ?_
                    refine g_33_14 X f_M_114 (v := (s30 33 14)) rfl d_M_answer_155 ?_
                    refine j_icmp_le X d_M_answer_158 (tgt := 169) (by decide) (fun h => ?_) (fun h => ?_)
                    · have hw := hw.1 h
                      refine j_aload_n X d_M_answer_169 rfl 1 rfl ?_
                      refine j_iload X d_M_answer_170 0 rfl ?_
                      refine j_iload_n X d_M_answer_172 rfl 4 rfl ?_
                      refine j_bipush X (v := (16 : Int32)) d_M_answer_173 (by decide) ?_
                      refine j_idiv X d_M_answer_175 (by decide) ?_
                      refine j_iconst X (v := (2 : Int32)) d_M_answer_176 (by decide) ?_
                      refine j_irem X d_M_answer_177 (by decide) ?_
                      refine j_iconst X (v := (1 : Int32)) d_M_answer_178 (by decide) ?_
                      refine j_icmp_ne X d_M_answer_179 (tgt := 186) (by decide) (fun h => ?_) (fun h => ?_)
                      · have hw := hw.1 h
                        refine j_iconst X (v := (0 : Int32)) d_M_answer_186 (by decide) ?_
                        refine j_iload_n X d_M_answer_187 rfl 4 rfl ?_
                        refine j_bipush X (v := (64 : Int32)) d_M_answer_188 (by decide) ?_
                        refine j_icmp_lt X d_M_answer_190 (tgt := 197) (by decide) (fun h => ?_) (fun h => ?_)
                        · have hw := hw.1 h
                          refine j_iconst X (v := (0 : Int32)) d_M_answer_197 (by decide) ?_
                          refine j_callVv (As := [.int ((((v3 - v3 / (16 : Int32) * (16 : Int32)) - (s30 33 3)) + (16 : Int32)) - (((v3 - v3 / (16 : Int32) * (16 : Int32)) - (s30 33 3)) + (16 : Int32)) / (16 : Int32) * (16 : Int32)), .int (0 : Int32), .int (0 : Int32)]) X (c_M_read l D ca ad sz hD hw) (gcV (n := 3) X rfl rfl rfl gc_M_read m_M_read l_M_165 (by decide +kernel) ⟨by decide, by decide⟩) (q0 := 33) rfl rfl (fun _ h => h) rfl rfl (Nat.le_of_ble_eq_true rfl) ⟨by decide, by decide⟩ d_M_answer_198 (fun u1 hw => ?_)
                          exact j_vret X hlk hr d_M_answer_201 hw
                        · have hw := hw.2 h
                          refine j_iconst X (v := (1 : Int32)) d_M_answer_193 (by decide) ?_
                          refine j_goto X d_M_answer_194 (tgt := 198) (by decide) ?_
                          refine j_callVv (As := [.int ((((v3 - v3 / (16 : Int32) * (16 : Int32)) - (s30 33 3)) + (16 : Int32)) - (((v3 - v3 / (16 : Int32) * (16 : Int32)) - (s30 33 3)) + (16 : Int32)) / (16 : Int32) * (16 : Int32)), .int (0 : Int32), .int (1 : Int32)]) X (c_M_read l D ca ad sz hD hw) (gcV (n := 3) X rfl rfl rfl gc_M_read m_M_read l_M_165 (by decide +kernel) ⟨by decide, by decide⟩) (q0 := 33) rfl rfl (fun _ h => h) rfl rfl (Nat.le_of_ble_eq_true rfl) ⟨by decide, by decide⟩ d_M_answer_198 (fun u2 hw => ?_)
                          exact j_vret X hlk hr d_M_answer_201 hw
                      · have hw := hw.2 h
                        refine j_iconst X (v := (1 : Int32)) d_M_answer_182 (by decide) ?_
                        refine j_goto X d_M_answer_183 (tgt := 187) (by decide) ?_
                        refine j_iload_n X d_M_answer_187 rfl 4 rfl ?_
                        refine j_bipush X (v := (64 : Int32)) d_M_answer_188 (by decide) ?_
                        refine j_icmp_lt X d_M_answer_190 (tgt := 197) (by decide) (fun h => ?_) (fun h => ?_)
                        · have hw := hw.1 h
                          refine j_iconst X (v := (0 : Int32)) d_M_answer_197 (by decide) ?_
                          refine j_callVv (As := [.int ((((v3 - v3 / (16 : Int32) * (16 : Int32)) - (s30 33 3)) + (16 : Int32)) - (((v3 - v3 / (16 : Int32) * (16 : Int32)) - (s30 33 3)) + (16 : Int32)) / (16 : Int32) * (16 : Int32)), .int (1 : Int32), .int (0 : Int32)]) X (c_M_read l D ca ad sz hD hw) (gcV (n := 3) X rfl rfl rfl gc_M_read m_M_read l_M_165 (by decide +kernel) ⟨by decide, by decide⟩) (q0 := 33) rfl rfl (fun _ h => h) rfl rfl (Nat.le_of_ble_eq_true rfl) ⟨by decide, by decide⟩ d_M_answer_198 (fun u3 hw => ?_)
                          exact j_vret X hlk hr d_M_answer_201 hw
                        · have hw := hw.2 h
                          refine j_iconst X (v := (1 : Int32)) d_M_answer_193 (by decide) ?_
                          refine j_goto X d_M_answer_194 (tgt := 198) (by decide) ?_
                          refine j_callVv (As := [.int ((((v3 - v3 / (16 : Int32) * (16 : Int32)) - (s30 33 3)) + (16 : Int32)) - (((v3 - v3 / (16 : Int32) * (16 : Int32)) - (s30 33 3)) + (16 : Int32)) / (16 : Int32) * (16 : Int32)), .int (1 : Int32), .int (1 : Int32)]) X (c_M_read l D ca ad sz hD hw) (gcV (n := 3) X rfl rfl rfl gc_M_read m_M_read l_M_165 (by decide +kernel) ⟨by decide, by decide⟩) (q0 := 33) rfl rfl (fun _ h => h) rfl rfl (Nat.le_of_ble_eq_true rfl) ⟨by decide, by decide⟩ d_M_answer_198 (fun u4 hw => ?_)
                          exact j_vret X hlk hr d_M_answer_201 hw
                    · have hw := hw.2 h
                      refine j_aload_n X d_M_answer_161 rfl 1 rfl ?_
                      refine j_iconst X (v := (4 : Int32)) d_M_answer_162 (by decide) ?_
                      refine j_callVv (As := [.int (4 : Int32)]) X (c_M_alarm l D ca ad sz hD hw) (gcV (n := 1) X rfl rfl rfl gc_M_alarm m_M_alarm l_M_126 (by decide +kernel) ⟨by decide, by decide⟩) (q0 := 33) rfl rfl (fun _ h => h) rfl rfl (Nat.le_of_ble_eq_true rfl) ⟨by decide, by decide⟩ d_M_answer_163 (fun u5 hw => ?_)
                      refine j_goto X d_M_answer_166 (tgt := 201) (by decide) ?_
                      exact j_vret X hlk hr d_M_answer_201 hw
                  · have hw := hw.2 h
                    refine j_aload_n X d_M_answer_144 rfl 1 rfl ?_
                    refine j_iconst X (v := (2 : Int32)) d_M_answer_145 (by decide) ?_
                    refine j_callVv (As := [.int (2 : Int32)]) X (c_M_alarm l D ca ad sz hD hw) (gcV (n := 1) X rfl rfl rfl gc_M_alarm m_M_alarm l_M_126 (by decide +kernel) ⟨by decide, by decide⟩) (q0 := 33) rfl rfl (fun _ h => h) rfl rfl (Nat.le_of_ble_eq_true rfl) ⟨by decide, by decide⟩ d_M_answer_146 (fun u6 hw => ?_)
                    refine j_goto X d_M_answer_149 (tgt := 201) (by decide) ?_
                    exact j_vret X hlk hr d_M_answer_201 hw
                · have hw := hw.2 h
                  refine j_iload_n X d_M_answer_93 rfl 3 rfl ?_
                  refine j_aload_n X d_M_answer_94 rfl 0 rfl ?_
                  refine g_33_2 X f_M_92 (v := (s30 33 2)) rfl d_M_answer_95 ?_
                  refine j_icmp_ne X d_M_answer_98 (tgt := 116) (by decide) (fun h => ?_) (fun h => ?_)
                  · have hw := hw.1 h
                    exact j_vret X hlk hr d_M_answer_116 hw
                  · have hw := hw.2 h
                    refine j_aload_n X d_M_answer_101 rfl 0 rfl ?_
                    refine j_iconst X (v := (1 : Int32)) d_M_answer_102 (by decide) ?_
                    refine p_33_1 X f_M_81 d_M_answer_103 ?_
                    refine j_aload_n X d_M_answer_106 rfl 0 rfl ?_
                    refine j_iconst X (v := (1 : Int32)) d_M_answer_107 (by decide) ?_
                    refine p_33_4 X f_M_108 d_M_answer_108 ?_
                    refine j_aload_n X d_M_answer_111 rfl 0 rfl ?_
                    refine j_iconst X (v := (0 : Int32)) d_M_answer_112 (by decide) ?_
                    refine p_33_5 X f_M_98 d_M_answer_113 ?_
                    exact j_vret X hlk hr d_M_answer_116 hw
              · have hw := hw.2 h
                exact j_vret X hlk hr d_M_answer_84 hw
          · have hw := hw.2 h
            refine j_aload_n X d_M_answer_41 rfl 0 rfl ?_
            refine g_33_27 X f_M_39 d_M_answer_42 ?_
            refine j_iload X d_M_answer_45 4 rfl ?_
            refine j_aload_n X d_M_answer_47 rfl 0 rfl ?_
            refine g_33_27 X f_M_39 d_M_answer_48 ?_
            refine j_iload X d_M_answer_51 4 rfl ?_
            refine j_iconst X (v := (1 : Int32)) d_M_answer_53 (by decide) ?_
            refine j_iadd X d_M_answer_54 ?_
            refine ld_40 X hw.1 (v := (s30 40 (Int32.toNatClampNeg (v4 + (1 : Int32))))) rfl d_M_answer_55 ?_
            have hw := hw.2
            refine sr_40 X hw.1 d_M_answer_56 ?_
            have hw := hw.2
            refine j_iinc X (v := (1 : Int32)) d_M_answer_57 4 rfl (by decide) (by decide) rfl ?_
            refine j_goto X d_M_answer_60 (tgt := 30) (by decide) ?_
            refine j_locs [1, 2, 3, 4, 0] rfl ?_
            exact ih30 _ _ _ _ _ hw
      obtain ⟨n, hw⟩ := hw
      refine j_locs [2, 3, 4, 1, 0] rfl ?_
      exact lp30 n _ _ _ _ _ hw
    · have hw := hw.2 h
      exact j_vret X hlk hr d_M_answer_19 hw
  exact hX
def w_M_puts (a1 : Int32) (a2 : Int32) (σ : Jst) (K : Jst → Prop) : Prop := (vp_in a1 2 ∧ (vp_in a1 2 ∧ (vp_in (((64 : Int32) * a1) + (((σ 41 (Int32.toNatClampNeg a1)) + (σ 42 (Int32.toNatClampNeg a1))) - ((σ 41 (Int32.toNatClampNeg a1)) + (σ 42 (Int32.toNatClampNeg a1))) / (64 : Int32) * (64 : Int32))) 128 ∧ (vp_in a1 2 ∧ (vp_in a1 2 ∧ K (jup (jup σ 43 (Int32.toNatClampNeg (((64 : Int32) * a1) + (((σ 41 (Int32.toNatClampNeg a1)) + (σ 42 (Int32.toNatClampNeg a1))) - ((σ 41 (Int32.toNatClampNeg a1)) + (σ 42 (Int32.toNatClampNeg a1))) / (64 : Int32) * (64 : Int32)))) a2) 42 (Int32.toNatClampNeg a1) ((σ 42 (Int32.toNatClampNeg a1)) + (1 : Int32))))))))
abbrev rm_M_puts : Room := { frames := 0, cells := 0, slots := 0, locals := 0 }
set_option maxRecDepth 100000 in
set_option maxHeartbeats 4000000 in
theorem c_M_puts (l : Launch) (D : va_G) (ca ad : Nat → Nat) (sz : Nat) (hD : Jd ca ad sz) {a1 a2 : Int32} {σ : Jst} {K : Jst → Prop} (hw : w_M_puts a1 a2 σ K) : Met l y_M_puts (wG y_M_puts b_M_puts 3 none) rm_M_puts (va_Pc [.ref (ad 33), .int a1, .int a2] (Jw D vwCl (tysT ca) (wlT ad ca) (NwT sz) σ)) (va_Qv K (Jq D vwCl (wlT ad ca)) (Aw sz)) 0 0 (Aw sz) := by
  refine j_met (cc := b_M_puts) (own := R_M) (by decide +kernel) rfl (Nat.le_of_ble_eq_true rfl) rfl hD (nwT_k sz) ?_
  intro p e s m args below meth c X hlk hr
  have hX : J p l e rm_M_puts s m args below meth c D vwCl (wlT ad ca) (Aw sz) 3 0 0 (MQ below (va_Qv K (Jq D vwCl (wlT ad ca)) (Aw sz)) args s 0 0 (Aw sz)) 0 [(0, .ref (ad 33)), (1, .int a1), (2, .int a2)] [] σ := by
    unfold w_M_puts at hw
    refine j_aload_n X d_M_puts_0 rfl 0 rfl ?_
    refine g_33_30 X f_M_48 d_M_puts_1 ?_
    refine j_bipush X (v := (64 : Int32)) d_M_puts_4 (by decide) ?_
    refine j_iload_n X d_M_puts_6 rfl 1 rfl ?_
    refine j_imul X d_M_puts_7 ?_
    refine j_aload_n X d_M_puts_8 rfl 0 rfl ?_
    refine g_33_28 X f_M_42 d_M_puts_9 ?_
    refine j_iload_n X d_M_puts_12 rfl 1 rfl ?_
    refine ld_41 X hw.1 (v := (σ 41 (Int32.toNatClampNeg a1))) rfl d_M_puts_13 ?_
    have hw := hw.2
    refine j_aload_n X d_M_puts_14 rfl 0 rfl ?_
    refine g_33_29 X f_M_45 d_M_puts_15 ?_
    refine j_iload_n X d_M_puts_18 rfl 1 rfl ?_
    refine ld_42 X hw.1 (v := (σ 42 (Int32.toNatClampNeg a1))) rfl d_M_puts_19 ?_
    have hw := hw.2
    refine j_iadd X d_M_puts_20 ?_
    refine j_bipush X (v := (64 : Int32)) d_M_puts_21 (by decide) ?_
    refine j_irem X d_M_puts_23 (by decide) ?_
    refine j_iadd X d_M_puts_24 ?_
    refine j_iload_n X d_M_puts_25 rfl 2 rfl ?_
    refine sr_43 X hw.1 d_M_puts_26 ?_
    have hw := hw.2
    refine j_aload_n X d_M_puts_27 rfl 0 rfl ?_
    refine g_33_29 X f_M_45 d_M_puts_28 ?_
    refine j_iload_n X d_M_puts_31 rfl 1 rfl ?_
    refine j_dup2 X d_M_puts_32 rfl rfl ?_
    refine ld_42 X hw.1 (v := (σ 42 (Int32.toNatClampNeg a1))) rfl d_M_puts_33 ?_
    have hw := hw.2
    refine j_iconst X (v := (1 : Int32)) d_M_puts_34 (by decide) ?_
    refine j_iadd X d_M_puts_35 ?_
    refine sr_42 X hw.1 d_M_puts_36 ?_
    have hw := hw.2
    exact j_vret X hlk hr d_M_puts_37 hw
  exact hX
def w_M_packet_L76 (K : Int32 → Jst → Prop) : Nat → Int32 → Int32 → Int32 → Int32 → Jst → Prop
  | 0, _, _, _, _, _ => False
  | n + 1, v1, v2, v3, v4, s76 => ((v3 ≤ v4 → K (1 : Int32) s76) ∧ (¬ v3 ≤ v4 → w_M_puts v1 ((v2 * (7 : Int32)) + v4) s76 (fun u1 => w_M_packet_L76 K n v1 v2 v3 (v4 + (1 : Int32)) u1)))
def w_M_packet (a1 : Int32) (a2 : Int32) (a3 : Int32) (σ : Jst) (K : Int32 → Jst → Prop) : Prop := w_M_outside a1 (0 : Int32) (1 : Int32) σ (fun r2 u1 => ((¬ r2 = (0 : Int32) → w_M_fails (1 : Int32) (0 : Int32) u1 (fun r4 u3 => ((¬ r4 = (0 : Int32) → K (0 : Int32) u3) ∧ (r4 = (0 : Int32) → (vp_in a1 2 ∧ (((((u3 42 (Int32.toNatClampNeg a1)) + (2 : Int32)) + a3) ≤ (60 : Int32) → w_M_puts a1 ((-1 : Int32) - a2) u3 (fun u5 => w_M_puts a1 a3 u5 (fun u6 => (∃ n, w_M_packet_L76 K n a1 a2 a3 (0 : Int32) u6)))) ∧ (¬ (((u3 42 (Int32.toNatClampNeg a1)) + (2 : Int32)) + a3) ≤ (60 : Int32) → K (0 : Int32) u3))))))) ∧ (r2 = (0 : Int32) → w_M_outside a2 (1 : Int32) (99 : Int32) u1 (fun r8 u7 => ((¬ r8 = (0 : Int32) → w_M_fails (1 : Int32) (0 : Int32) u7 (fun r10 u9 => ((¬ r10 = (0 : Int32) → K (0 : Int32) u9) ∧ (r10 = (0 : Int32) → (vp_in a1 2 ∧ (((((u9 42 (Int32.toNatClampNeg a1)) + (2 : Int32)) + a3) ≤ (60 : Int32) → w_M_puts a1 ((-1 : Int32) - a2) u9 (fun u11 => w_M_puts a1 a3 u11 (fun u12 => (∃ n, w_M_packet_L76 K n a1 a2 a3 (0 : Int32) u12)))) ∧ (¬ (((u9 42 (Int32.toNatClampNeg a1)) + (2 : Int32)) + a3) ≤ (60 : Int32) → K (0 : Int32) u9))))))) ∧ (r8 = (0 : Int32) → w_M_outside a3 (0 : Int32) (20 : Int32) u7 (fun r14 u13 => ((r14 = (0 : Int32) → w_M_fails (0 : Int32) (0 : Int32) u13 (fun r16 u15 => ((¬ r16 = (0 : Int32) → K (0 : Int32) u15) ∧ (r16 = (0 : Int32) → (vp_in a1 2 ∧ (((((u15 42 (Int32.toNatClampNeg a1)) + (2 : Int32)) + a3) ≤ (60 : Int32) → w_M_puts a1 ((-1 : Int32) - a2) u15 (fun u17 => w_M_puts a1 a3 u17 (fun u18 => (∃ n, w_M_packet_L76 K n a1 a2 a3 (0 : Int32) u18)))) ∧ (¬ (((u15 42 (Int32.toNatClampNeg a1)) + (2 : Int32)) + a3) ≤ (60 : Int32) → K (0 : Int32) u15))))))) ∧ (¬ r14 = (0 : Int32) → w_M_fails (1 : Int32) (0 : Int32) u13 (fun r20 u19 => ((¬ r20 = (0 : Int32) → K (0 : Int32) u19) ∧ (r20 = (0 : Int32) → (vp_in a1 2 ∧ (((((u19 42 (Int32.toNatClampNeg a1)) + (2 : Int32)) + a3) ≤ (60 : Int32) → w_M_puts a1 ((-1 : Int32) - a2) u19 (fun u21 => w_M_puts a1 a3 u21 (fun u22 => (∃ n, w_M_packet_L76 K n a1 a2 a3 (0 : Int32) u22)))) ∧ (¬ (((u19 42 (Int32.toNatClampNeg a1)) + (2 : Int32)) + a3) ≤ (60 : Int32) → K (0 : Int32) u19)))))))))))))))
abbrev rm_M_packet : Room := { frames := 1, cells := 0, slots := 0, locals := 22 }
set_option maxRecDepth 100000 in
set_option maxHeartbeats 4000000 in
theorem c_M_packet (l : Launch) (D : va_G) (ca ad : Nat → Nat) (sz : Nat) (hD : Jd ca ad sz) {a1 a2 a3 : Int32} {σ : Jst} {K : Int32 → Jst → Prop} (hw : w_M_packet a1 a2 a3 σ K) : Met l y_M_packet (wG y_M_packet b_M_packet 5 (some .boolean)) rm_M_packet (va_Pc [.ref (ad 33), .int a1, .int a2, .int a3] (Jw D vwCl (tysT ca) (wlT ad ca) (NwT sz) σ)) (va_Qi K (Jq D vwCl (wlT ad ca)) (Aw sz)) 0 0 (Aw sz) := by
  refine j_met (cc := b_M_packet) (own := R_M) (by decide +kernel) rfl (Nat.le_of_ble_eq_true rfl) rfl hD (nwT_k sz) ?_
  intro p e s m args below meth c X hlk hr
  have hX : J p l e rm_M_packet s m args below meth c D vwCl (wlT ad ca) (Aw sz) 5 0 0 (MQ below (va_Qi K (Jq D vwCl (wlT ad ca)) (Aw sz)) args s 0 0 (Aw sz)) 0 [(0, .ref (ad 33)), (1, .int a1), (2, .int a2), (3, .int a3)] [] σ := by
    unfold w_M_packet at hw
    refine j_aload_n X d_M_packet_0 rfl 0 rfl ?_
    refine j_iload_n X d_M_packet_1 rfl 1 rfl ?_
    refine j_iconst X (v := (0 : Int32)) d_M_packet_2 (by decide) ?_
    refine j_iconst X (v := (1 : Int32)) d_M_packet_3 (by decide) ?_
    refine j_callSi (As := [.int a1, .int (0 : Int32), .int (1 : Int32)]) X (c_M_outside l D ca ad sz hD hw) (gcS (n := 3) X rfl rfl rfl gc_M_outside m_M_outside l_M_84 (by decide +kernel) ⟨by decide, by decide⟩) (fun _ h => h) rfl rfl (Nat.le_of_ble_eq_true rfl) ⟨by decide, by decide⟩ d_M_packet_4 (fun r2 u1 hw => ?_)
    refine j_if_ne X d_M_packet_7 (tgt := 30) (by decide) (fun h => ?_) (fun h => ?_)
    · have hw := hw.1 h
      refine j_iconst X (v := (1 : Int32)) d_M_packet_30 (by decide) ?_
      refine j_goto X d_M_packet_31 (tgt := 35) (by decide) ?_
      refine j_iconst X (v := (0 : Int32)) d_M_packet_35 (by decide) ?_
      refine j_callVi (As := [.int (1 : Int32), .int (0 : Int32)]) X (c_M_fails l D ca ad sz hD hw) (gcV (n := 2) X rfl rfl rfl gc_M_fails m_M_fails l_M_88 (by decide +kernel) ⟨by decide, by decide⟩) (q0 := 33) rfl rfl (fun _ h => h) rfl rfl (Nat.le_of_ble_eq_true rfl) ⟨by decide, by decide⟩ d_M_packet_36 (fun r4 u3 hw => ?_)
      refine j_if_ne X d_M_packet_39 (tgt := 57) (by decide) (fun h => ?_) (fun h => ?_)
      · have hw := hw.1 h
        refine j_iconst X (v := (0 : Int32)) d_M_packet_57 (by decide) ?_
        exact j_zret X hlk hr rfl d_M_packet_58 hw
      · have hw := hw.2 h
        refine j_aload_n X d_M_packet_42 rfl 0 rfl ?_
        refine g_33_29 X f_M_45 d_M_packet_43 ?_
        refine j_iload_n X d_M_packet_46 rfl 1 rfl ?_
        refine ld_42 X hw.1 (v := (u3 42 (Int32.toNatClampNeg a1))) rfl d_M_packet_47 ?_
        have hw := hw.2
        refine j_iconst X (v := (2 : Int32)) d_M_packet_48 (by decide) ?_
        refine j_iadd X d_M_packet_49 ?_
        refine j_iload_n X d_M_packet_50 rfl 3 rfl ?_
        refine j_iadd X d_M_packet_51 ?_
        refine j_bipush X (v := (60 : Int32)) d_M_packet_52 (by decide) ?_
        refine j_icmp_le X d_M_packet_54 (tgt := 59) (by decide) (fun h => ?_) (fun h => ?_)
        · have hw := hw.1 h
          refine j_aload_n X d_M_packet_59 rfl 0 rfl ?_
          refine j_iload_n X d_M_packet_60 rfl 1 rfl ?_
          refine j_iconst X (v := (-1 : Int32)) d_M_packet_61 (by decide) ?_
          refine j_iload_n X d_M_packet_62 rfl 2 rfl ?_
          refine j_isub X d_M_packet_63 ?_
          refine j_callVv (As := [.int a1, .int ((-1 : Int32) - a2)]) X (c_M_puts l D ca ad sz hD hw) (gcV (n := 2) X rfl rfl rfl gc_M_puts m_M_puts l_M_169 (by decide +kernel) ⟨by decide, by decide⟩) (q0 := 33) rfl rfl (fun _ h => h) rfl rfl (Nat.le_of_ble_eq_true rfl) ⟨by decide, by decide⟩ d_M_packet_64 (fun u5 hw => ?_)
          refine j_aload_n X d_M_packet_67 rfl 0 rfl ?_
          refine j_iload_n X d_M_packet_68 rfl 1 rfl ?_
          refine j_iload_n X d_M_packet_69 rfl 3 rfl ?_
          refine j_callVv (As := [.int a1, .int a3]) X (c_M_puts l D ca ad sz hD hw) (gcV (n := 2) X rfl rfl rfl gc_M_puts m_M_puts l_M_169 (by decide +kernel) ⟨by decide, by decide⟩) (q0 := 33) rfl rfl (fun _ h => h) rfl rfl (Nat.le_of_ble_eq_true rfl) ⟨by decide, by decide⟩ d_M_packet_70 (fun u6 hw => ?_)
          refine j_iconst X (v := (0 : Int32)) d_M_packet_73 (by decide) ?_
          refine j_istore X d_M_packet_74 (by decide) rfl ?_
          have lp76 : ∀ (n : Nat) (v1 v2 v3 v4 : Int32) (s76 : Jst), w_M_packet_L76 K n v1 v2 v3 v4 s76 → J p l e rm_M_packet s m args below meth c D vwCl (wlT ad ca) (Aw sz) 5 0 0 (MQ below (va_Qi K (Jq D vwCl (wlT ad ca)) (Aw sz)) args s 0 0 (Aw sz)) 76 [(0, .ref (ad 33)), (1, .int v1), (2, .int v2), (3, .int v3), (4, .int v4)] [] s76 := by
            intro n
            induction n with
            | zero => intro v1 v2 v3 v4 s76 hw; exact (show False from hw).elim
            | succ n ih76 =>
              intro v1 v2 v3 v4 s76 hw
              rw [w_M_packet_L76] at hw
              refine j_iload X d_M_packet_76 4 rfl ?_
              refine j_iload_n X d_M_packet_78 rfl 3 rfl ?_
              refine j_icmp_ge X d_M_packet_79 (tgt := 100) (by decide) (fun h => ?_) (fun h => ?_)
              · have hw := hw.1 h
                refine j_iconst X (v := (1 : Int32)) d_M_packet_100 (by decide) ?_
                exact j_zret X hlk hr rfl d_M_packet_101 hw
              · have hw := hw.2 h
                refine j_aload_n X d_M_packet_82 rfl 0 rfl ?_
                refine j_iload_n X d_M_packet_83 rfl 1 rfl ?_
                refine j_iload_n X d_M_packet_84 rfl 2 rfl ?_
                refine j_bipush X (v := (7 : Int32)) d_M_packet_85 (by decide) ?_
                refine j_imul X d_M_packet_87 ?_
                refine j_iload X d_M_packet_88 4 rfl ?_
                refine j_iadd X d_M_packet_90 ?_
                refine j_callVv (As := [.int v1, .int ((v2 * (7 : Int32)) + v4)]) X (c_M_puts l D ca ad sz hD hw) (gcV (n := 2) X rfl rfl rfl gc_M_puts m_M_puts l_M_169 (by decide +kernel) ⟨by decide, by decide⟩) (q0 := 33) rfl rfl (fun _ h => h) rfl rfl (Nat.le_of_ble_eq_true rfl) ⟨by decide, by decide⟩ d_M_packet_91 (fun u1 hw => ?_)
                refine j_iinc X (v := (1 : Int32)) d_M_packet_94 4 rfl (by decide) (by decide) rfl ?_
                refine j_goto X d_M_packet_97 (tgt := 76) (by decide) ?_
                refine j_locs [1, 2, 3, 4, 0] rfl ?_
                exact ih76 _ _ _ _ _ hw
          obtain ⟨n, hw⟩ := hw
          refine j_locs [1, 2, 3, 4, 0] rfl ?_
          exact lp76 n _ _ _ _ _ hw
        · have hw := hw.2 h
          refine j_iconst X (v := (0 : Int32)) d_M_packet_57 (by decide) ?_
          exact j_zret X hlk hr rfl d_M_packet_58 hw
    · have hw := hw.2 h
      refine j_iload_n X d_M_packet_10 rfl 2 rfl ?_
      refine j_iconst X (v := (1 : Int32)) d_M_packet_11 (by decide) ?_
      refine j_bipush X (v := (99 : Int32)) d_M_packet_12 (by decide) ?_
      refine j_callSi (As := [.int a2, .int (1 : Int32), .int (99 : Int32)]) X (c_M_outside l D ca ad sz hD hw) (gcS (n := 3) X rfl rfl rfl gc_M_outside m_M_outside l_M_84 (by decide +kernel) ⟨by decide, by decide⟩) (fun _ h => h) rfl rfl (Nat.le_of_ble_eq_true rfl) ⟨by decide, by decide⟩ d_M_packet_14 (fun r8 u7 hw => ?_)
      refine j_if_ne X d_M_packet_17 (tgt := 30) (by decide) (fun h => ?_) (fun h => ?_)
      · have hw := hw.1 h
        refine j_iconst X (v := (1 : Int32)) d_M_packet_30 (by decide) ?_
        refine j_goto X d_M_packet_31 (tgt := 35) (by decide) ?_
        refine j_iconst X (v := (0 : Int32)) d_M_packet_35 (by decide) ?_
        refine j_callVi (As := [.int (1 : Int32), .int (0 : Int32)]) X (c_M_fails l D ca ad sz hD hw) (gcV (n := 2) X rfl rfl rfl gc_M_fails m_M_fails l_M_88 (by decide +kernel) ⟨by decide, by decide⟩) (q0 := 33) rfl rfl (fun _ h => h) rfl rfl (Nat.le_of_ble_eq_true rfl) ⟨by decide, by decide⟩ d_M_packet_36 (fun r10 u9 hw => ?_)
        refine j_if_ne X d_M_packet_39 (tgt := 57) (by decide) (fun h => ?_) (fun h => ?_)
        · have hw := hw.1 h
          refine j_iconst X (v := (0 : Int32)) d_M_packet_57 (by decide) ?_
          exact j_zret X hlk hr rfl d_M_packet_58 hw
        · have hw := hw.2 h
          refine j_aload_n X d_M_packet_42 rfl 0 rfl ?_
          refine g_33_29 X f_M_45 d_M_packet_43 ?_
          refine j_iload_n X d_M_packet_46 rfl 1 rfl ?_
          refine ld_42 X hw.1 (v := (u9 42 (Int32.toNatClampNeg a1))) rfl d_M_packet_47 ?_
          have hw := hw.2
          refine j_iconst X (v := (2 : Int32)) d_M_packet_48 (by decide) ?_
          refine j_iadd X d_M_packet_49 ?_
          refine j_iload_n X d_M_packet_50 rfl 3 rfl ?_
          refine j_iadd X d_M_packet_51 ?_
          refine j_bipush X (v := (60 : Int32)) d_M_packet_52 (by decide) ?_
          refine j_icmp_le X d_M_packet_54 (tgt := 59) (by decide) (fun h => ?_) (fun h => ?_)
          · have hw := hw.1 h
            refine j_aload_n X d_M_packet_59 rfl 0 rfl ?_
            refine j_iload_n X d_M_packet_60 rfl 1 rfl ?_
            refine j_iconst X (v := (-1 : Int32)) d_M_packet_61 (by decide) ?_
            refine j_iload_n X d_M_packet_62 rfl 2 rfl ?_
            refine j_isub X d_M_packet_63 ?_
            refine j_callVv (As := [.int a1, .int ((-1 : Int32) - a2)]) X (c_M_puts l D ca ad sz hD hw) (gcV (n := 2) X rfl rfl rfl gc_M_puts m_M_puts l_M_169 (by decide +kernel) ⟨by decide, by decide⟩) (q0 := 33) rfl rfl (fun _ h => h) rfl rfl (Nat.le_of_ble_eq_true rfl) ⟨by decide, by decide⟩ d_M_packet_64 (fun u11 hw => ?_)
            refine j_aload_n X d_M_packet_67 rfl 0 rfl ?_
            refine j_iload_n X d_M_packet_68 rfl 1 rfl ?_
            refine j_iload_n X d_M_packet_69 rfl 3 rfl ?_
            refine j_callVv (As := [.int a1, .int a3]) X (c_M_puts l D ca ad sz hD hw) (gcV (n := 2) X rfl rfl rfl gc_M_puts m_M_puts l_M_169 (by decide +kernel) ⟨by decide, by decide⟩) (q0 := 33) rfl rfl (fun _ h => h) rfl rfl (Nat.le_of_ble_eq_true rfl) ⟨by decide, by decide⟩ d_M_packet_70 (fun u12 hw => ?_)
            refine j_iconst X (v := (0 : Int32)) d_M_packet_73 (by decide) ?_
            refine j_istore X d_M_packet_74 (by decide) rfl ?_
            have lp76 : ∀ (n : Nat) (v1 v2 v3 v4 : Int32) (s76 : Jst), w_M_packet_L76 K n v1 v2 v3 v4 s76 → J p l e rm_M_packet s m args below meth c D vwCl (wlT ad ca) (Aw sz) 5 0 0 (MQ below (va_Qi K (Jq D vwCl (wlT ad ca)) (Aw sz)) args s 0 0 (Aw sz)) 76 [(0, .ref (ad 33)), (1, .int v1), (2, .int v2), (3, .int v3), (4, .int v4)] [] s76 := by
              intro n
              induction n with
              | zero => intro v1 v2 v3 v4 s76 hw; exact (show False from hw).elim
              | succ n ih76 =>
                intro v1 v2 v3 v4 s76 hw
                rw [w_M_packet_L76] at hw
                refine j_iload X d_M_packet_76 4 rfl ?_
                refine j_iload_n X d_M_packet_78 rfl 3 rfl ?_
                refine j_icmp_ge X d_M_packet_79 (tgt := 100) (by decide) (fun h => ?_) (fun h => ?_)
                · have hw := hw.1 h
                  refine j_iconst X (v := (1 : Int32)) d_M_packet_100 (by decide) ?_
                  exact j_zret X hlk hr rfl d_M_packet_101 hw
                · have hw := hw.2 h
                  refine j_aload_n X d_M_packet_82 rfl 0 rfl ?_
                  refine j_iload_n X d_M_packet_83 rfl 1 rfl ?_
                  refine j_iload_n X d_M_packet_84 rfl 2 rfl ?_
                  refine j_bipush X (v := (7 : Int32)) d_M_packet_85 (by decide) ?_
                  refine j_imul X d_M_packet_87 ?_
                  refine j_iload X d_M_packet_88 4 rfl ?_
                  refine j_iadd X d_M_packet_90 ?_
                  refine j_callVv (As := [.int v1, .int ((v2 * (7 : Int32)) + v4)]) X (c_M_puts l D ca ad sz hD hw) (gcV (n := 2) X rfl rfl rfl gc_M_puts m_M_puts l_M_169 (by decide +kernel) ⟨by decide, by decide⟩) (q0 := 33) rfl rfl (fun _ h => h) rfl rfl (Nat.le_of_ble_eq_true rfl) ⟨by decide, by decide⟩ d_M_packet_91 (fun u1 hw => ?_)
                  refine j_iinc X (v := (1 : Int32)) d_M_packet_94 4 rfl (by decide) (by decide) rfl ?_
                  refine j_goto X d_M_packet_97 (tgt := 76) (by decide) ?_
                  refine j_locs [1, 2, 3, 4, 0] rfl ?_
                  exact ih76 _ _ _ _ _ hw
            obtain ⟨n, hw⟩ := hw
            refine j_locs [1, 2, 3, 4, 0] rfl ?_
            exact lp76 n _ _ _ _ _ hw
          · have hw := hw.2 h
            refine j_iconst X (v := (0 : Int32)) d_M_packet_57 (by decide) ?_
            exact j_zret X hlk hr rfl d_M_packet_58 hw
      · have hw := hw.2 h
        refine j_iload_n X d_M_packet_20 rfl 3 rfl ?_
        refine j_iconst X (v := (0 : Int32)) d_M_packet_21 (by decide) ?_
        refine j_bipush X (v := (20 : Int32)) d_M_packet_22 (by decide) ?_
        refine j_callSi (As := [.int a3, .int (0 : Int32), .int (20 : Int32)]) X (c_M_outside l D ca ad sz hD hw) (gcS (n := 3) X rfl rfl rfl gc_M_outside m_M_outside l_M_84 (by decide +kernel) ⟨by decide, by decide⟩) (fun _ h => h) rfl rfl (Nat.le_of_ble_eq_true rfl) ⟨by decide, by decide⟩ d_M_packet_24 (fun r14 u13 hw => ?_)
        refine j_if_eq X d_M_packet_27 (tgt := 34) (by decide) (fun h => ?_) (fun h => ?_)
        · have hw := hw.1 h
          refine j_iconst X (v := (0 : Int32)) d_M_packet_34 (by decide) ?_
          refine j_iconst X (v := (0 : Int32)) d_M_packet_35 (by decide) ?_
          refine j_callVi (As := [.int (0 : Int32), .int (0 : Int32)]) X (c_M_fails l D ca ad sz hD hw) (gcV (n := 2) X rfl rfl rfl gc_M_fails m_M_fails l_M_88 (by decide +kernel) ⟨by decide, by decide⟩) (q0 := 33) rfl rfl (fun _ h => h) rfl rfl (Nat.le_of_ble_eq_true rfl) ⟨by decide, by decide⟩ d_M_packet_36 (fun r16 u15 hw => ?_)
          refine j_if_ne X d_M_packet_39 (tgt := 57) (by decide) (fun h => ?_) (fun h => ?_)
          · have hw := hw.1 h
            refine j_iconst X (v := (0 : Int32)) d_M_packet_57 (by decide) ?_
            exact j_zret X hlk hr rfl d_M_packet_58 hw
          · have hw := hw.2 h
            refine j_aload_n X d_M_packet_42 rfl 0 rfl ?_
            refine g_33_29 X f_M_45 d_M_packet_43 ?_
            refine j_iload_n X d_M_packet_46 rfl 1 rfl ?_
            refine ld_42 X hw.1 (v := (u15 42 (Int32.toNatClampNeg a1))) rfl d_M_packet_47 ?_
            have hw := hw.2
            refine j_iconst X (v := (2 : Int32)) d_M_packet_48 (by decide) ?_
            refine j_iadd X d_M_packet_49 ?_
            refine j_iload_n X d_M_packet_50 rfl 3 rfl ?_
            refine j_iadd X d_M_packet_51 ?_
            refine j_bipush X (v := (60 : Int32)) d_M_packet_52 (by decide) ?_
            refine j_icmp_le X d_M_packet_54 (tgt := 59) (by decide) (fun h => ?_) (fun h => ?_)
            · have hw := hw.1 h
              refine j_aload_n X d_M_packet_59 rfl 0 rfl ?_
              refine j_iload_n X d_M_packet_60 rfl 1 rfl ?_
              refine j_iconst X (v := (-1 : Int32)) d_M_packet_61 (by decide) ?_
              refine j_iload_n X d_M_packet_62 rfl 2 rfl ?_
              refine j_isub X d_M_packet_63 ?_
              refine j_callVv (As := [.int a1, .int ((-1 : Int32) - a2)]) X (c_M_puts l D ca ad sz hD hw) (gcV (n := 2) X rfl rfl rfl gc_M_puts m_M_puts l_M_169 (by decide +kernel) ⟨by decide, by decide⟩) (q0 := 33) rfl rfl (fun _ h => h) rfl rfl (Nat.le_of_ble_eq_true rfl) ⟨by decide, by decide⟩ d_M_packet_64 (fun u17 hw => ?_)
              refine j_aload_n X d_M_packet_67 rfl 0 rfl ?_
              refine j_iload_n X d_M_packet_68 rfl 1 rfl ?_
              refine j_iload_n X d_M_packet_69 rfl 3 rfl ?_
              refine j_callVv (As := [.int a1, .int a3]) X (c_M_puts l D ca ad sz hD hw) (gcV (n := 2) X rfl rfl rfl gc_M_puts m_M_puts l_M_169 (by decide +kernel) ⟨by decide, by decide⟩) (q0 := 33) rfl rfl (fun _ h => h) rfl rfl (Nat.le_of_ble_eq_true rfl) ⟨by decide, by decide⟩ d_M_packet_70 (fun u18 hw => ?_)
              refine j_iconst X (v := (0 : Int32)) d_M_packet_73 (by decide) ?_
              refine j_istore X d_M_packet_74 (by decide) rfl ?_
              have lp76 : ∀ (n : Nat) (v1 v2 v3 v4 : Int32) (s76 : Jst), w_M_packet_L76 K n v1 v2 v3 v4 s76 → J p l e rm_M_packet s m args below meth c D vwCl (wlT ad ca) (Aw sz) 5 0 0 (MQ below (va_Qi K (Jq D vwCl (wlT ad ca)) (Aw sz)) args s 0 0 (Aw sz)) 76 [(0, .ref (ad 33)), (1, .int v1), (2, .int v2), (3, .int v3), (4, .int v4)] [] s76 := by
                intro n
                induction n with
                | zero => intro v1 v2 v3 v4 s76 hw; exact (show False from hw).elim
                | succ n ih76 =>
                  intro v1 v2 v3 v4 s76 hw
                  rw [w_M_packet_L76] at hw
                  refine j_iload X d_M_packet_76 4 rfl ?_
                  refine j_iload_n X d_M_packet_78 rfl 3 rfl ?_
                  refine j_icmp_ge X d_M_packet_79 (tgt := 100) (by decide) (fun h => ?_) (fun h => ?_)
                  · have hw := hw.1 h
                    refine j_iconst X (v := (1 : Int32)) d_M_packet_100 (by decide) ?_
                    exact j_zret X hlk hr rfl d_M_packet_101 hw
                  · have hw := hw.2 h
                    refine j_aload_n X d_M_packet_82 rfl 0 rfl ?_
                    refine j_iload_n X d_M_packet_83 rfl 1 rfl ?_
                    refine j_iload_n X d_M_packet_84 rfl 2 rfl ?_
                    refine j_bipush X (v := (7 : Int32)) d_M_packet_85 (by decide) ?_
                    refine j_imul X d_M_packet_87 ?_
                    refine j_iload X d_M_packet_88 4 rfl ?_
                    refine j_iadd X d_M_packet_90 ?_
                    refine j_callVv (As := [.int v1, .int ((v2 * (7 : Int32)) + v4)]) X (c_M_puts l D ca ad sz hD hw) (gcV (n := 2) X rfl rfl rfl gc_M_puts m_M_puts l_M_169 (by decide +kernel) ⟨by decide, by decide⟩) (q0 := 33) rfl rfl (fun _ h => h) rfl rfl (Nat.le_of_ble_eq_true rfl) ⟨by decide, by decide⟩ d_M_packet_91 (fun u1 hw => ?_)
                    refine j_iinc X (v := (1 : Int32)) d_M_packet_94 4 rfl (by decide) (by decide) rfl ?_
                    refine j_goto X d_M_packet_97 (tgt := 76) (by decide) ?_
                    refine j_locs [1, 2, 3, 4, 0] rfl ?_
                    exact ih76 _ _ _ _ _ hw
              obtain ⟨n, hw⟩ := hw
              refine j_locs [1, 2, 3, 4, 0] rfl ?_
              exact lp76 n _ _ _ _ _ hw
            · have hw := hw.2 h
              refine j_iconst X (v := (0 : Int32)) d_M_packet_57 (by decide) ?_
              exact j_zret X hlk hr rfl d_M_packet_58 hw
        · have hw := hw.2 h
          refine j_iconst X (v := (1 : Int32)) d_M_packet_30 (by decide) ?_
          refine j_goto X d_M_packet_31 (tgt := 35) (by decide) ?_
          refine j_iconst X (v := (0 : Int32)) d_M_packet_35 (by decide) ?_
          refine j_callVi (As := [.int (1 : Int32), .int (0 : Int32)]) X (c_M_fails l D ca ad sz hD hw) (gcV (n := 2) X rfl rfl rfl gc_M_fails m_M_fails l_M_88 (by decide +kernel) ⟨by decide, by decide⟩) (q0 := 33) rfl rfl (fun _ h => h) rfl rfl (Nat.le_of_ble_eq_true rfl) ⟨by decide, by decide⟩ d_M_packet_36 (fun r20 u19 hw => ?_)
          refine j_if_ne X d_M_packet_39 (tgt := 57) (by decide) (fun h => ?_) (fun h => ?_)
          · have hw := hw.1 h
            refine j_iconst X (v := (0 : Int32)) d_M_packet_57 (by decide) ?_
            exact j_zret X hlk hr rfl d_M_packet_58 hw
          · have hw := hw.2 h
            refine j_aload_n X d_M_packet_42 rfl 0 rfl ?_
            refine g_33_29 X f_M_45 d_M_packet_43 ?_
            refine j_iload_n X d_M_packet_46 rfl 1 rfl ?_
            refine ld_42 X hw.1 (v := (u19 42 (Int32.toNatClampNeg a1))) rfl d_M_packet_47 ?_
            have hw := hw.2
            refine j_iconst X (v := (2 : Int32)) d_M_packet_48 (by decide) ?_
            refine j_iadd X d_M_packet_49 ?_
            refine j_iload_n X d_M_packet_50 rfl 3 rfl ?_
            refine j_iadd X d_M_packet_51 ?_
            refine j_bipush X (v := (60 : Int32)) d_M_packet_52 (by decide) ?_
            refine j_icmp_le X d_M_packet_54 (tgt := 59) (by decide) (fun h => ?_) (fun h => ?_)
            · have hw := hw.1 h
              refine j_aload_n X d_M_packet_59 rfl 0 rfl ?_
              refine j_iload_n X d_M_packet_60 rfl 1 rfl ?_
              refine j_iconst X (v := (-1 : Int32)) d_M_packet_61 (by decide) ?_
              refine j_iload_n X d_M_packet_62 rfl 2 rfl ?_
              refine j_isub X d_M_packet_63 ?_
              refine j_callVv (As := [.int a1, .int ((-1 : Int32) - a2)]) X (c_M_puts l D ca ad sz hD hw) (gcV (n := 2) X rfl rfl rfl gc_M_puts m_M_puts l_M_169 (by decide +kernel) ⟨by decide, by decide⟩) (q0 := 33) rfl rfl (fun _ h => h) rfl rfl (Nat.le_of_ble_eq_true rfl) ⟨by decide, by decide⟩ d_M_packet_64 (fun u21 hw => ?_)
              refine j_aload_n X d_M_packet_67 rfl 0 rfl ?_
              refine j_iload_n X d_M_packet_68 rfl 1 rfl ?_
              refine j_iload_n X d_M_packet_69 rfl 3 rfl ?_
              refine j_callVv (As := [.int a1, .int a3]) X (c_M_puts l D ca ad sz hD hw) (gcV (n := 2) X rfl rfl rfl gc_M_puts m_M_puts l_M_169 (by decide +kernel) ⟨by decide, by decide⟩) (q0 := 33) rfl rfl (fun _ h => h) rfl rfl (Nat.le_of_ble_eq_true rfl) ⟨by decide, by decide⟩ d_M_packet_70 (fun u22 hw => ?_)
              refine j_iconst X (v := (0 : Int32)) d_M_packet_73 (by decide) ?_
              refine j_istore X d_M_packet_74 (by decide) rfl ?_
              have lp76 : ∀ (n : Nat) (v1 v2 v3 v4 : Int32) (s76 : Jst), w_M_packet_L76 K n v1 v2 v3 v4 s76 → J p l e rm_M_packet s m args below meth c D vwCl (wlT ad ca) (Aw sz) 5 0 0 (MQ below (va_Qi K (Jq D vwCl (wlT ad ca)) (Aw sz)) args s 0 0 (Aw sz)) 76 [(0, .ref (ad 33)), (1, .int v1), (2, .int v2), (3, .int v3), (4, .int v4)] [] s76 := by
                intro n
                induction n with
                | zero => intro v1 v2 v3 v4 s76 hw; exact (show False from hw).elim
                | succ n ih76 =>
                  intro v1 v2 v3 v4 s76 hw
                  rw [w_M_packet_L76] at hw
                  refine j_iload X d_M_packet_76 4 rfl ?_
                  refine j_iload_n X d_M_packet_78 rfl 3 rfl ?_
                  refine j_icmp_ge X d_M_packet_79 (tgt := 100) (by decide) (fun h => ?_) (fun h => ?_)
                  · have hw := hw.1 h
                    refine j_iconst X (v := (1 : Int32)) d_M_packet_100 (by decide) ?_
                    exact j_zret X hlk hr rfl d_M_packet_101 hw
                  · have hw := hw.2 h
                    refine j_aload_n X d_M_packet_82 rfl 0 rfl ?_
                    refine j_iload_n X d_M_packet_83 rfl 1 rfl ?_
                    refine j_iload_n X d_M_packet_84 rfl 2 rfl ?_
                    refine j_bipush X (v := (7 : Int32)) d_M_packet_85 (by decide) ?_
                    refine j_imul X d_M_packet_87 ?_
                    refine j_iload X d_M_packet_88 4 rfl ?_
                    refine j_iadd X d_M_packet_90 ?_
                    refine j_callVv (As := [.int v1, .int ((v2 * (7 : Int32)) + v4)]) X (c_M_puts l D ca ad sz hD hw) (gcV (n := 2) X rfl rfl rfl gc_M_puts m_M_puts l_M_169 (by decide +kernel) ⟨by decide, by decide⟩) (q0 := 33) rfl rfl (fun _ h => h) rfl rfl (Nat.le_of_ble_eq_true rfl) ⟨by decide, by decide⟩ d_M_packet_91 (fun u1 hw => ?_)
                    refine j_iinc X (v := (1 : Int32)) d_M_packet_94 4 rfl (by decide) (by decide) rfl ?_
                    refine j_goto X d_M_packet_97 (tgt := 76) (by decide) ?_
                    refine j_locs [1, 2, 3, 4, 0] rfl ?_
                    exact ih76 _ _ _ _ _ hw
              obtain ⟨n, hw⟩ := hw
              refine j_locs [1, 2, 3, 4, 0] rfl ?_
              exact lp76 n _ _ _ _ _ hw
            · have hw := hw.2 h
              refine j_iconst X (v := (0 : Int32)) d_M_packet_57 (by decide) ?_
              exact j_zret X hlk hr rfl d_M_packet_58 hw
  exact hX
def w_M_readCell (a1 : Int32) (a2 : Int32) (σ : Jst) (K : Jst → Prop) : Prop := (vp_in a1 2 ∧ ((¬ (σ 47 (Int32.toNatClampNeg a1)) = (0 : Int32) → (vp_in a1 2 ∧ ((¬ (σ 47 (Int32.toNatClampNeg a1)) = (1 : Int32) → (vp_in a1 2 ∧ (vp_in a1 2 ∧ (vp_in a1 2 ∧ (vp_in a1 2 ∧ (vp_in a1 2 ∧ ((((upd (σ 47) (Int32.toNatClampNeg a1) ((σ 47 (Int32.toNatClampNeg a1)) + (1 : Int32))) (Int32.toNatClampNeg a1)) < (2 : Int32) → K (jup (jup σ 50 (Int32.toNatClampNeg a1) ((σ 50 (Int32.toNatClampNeg a1)) + a2)) 47 (Int32.toNatClampNeg a1) ((σ 47 (Int32.toNatClampNeg a1)) + (1 : Int32)))) ∧ (¬ ((upd (σ 47) (Int32.toNatClampNeg a1) ((σ 47 (Int32.toNatClampNeg a1)) + (1 : Int32))) (Int32.toNatClampNeg a1)) < (2 : Int32) → (vp_in a1 2 ∧ (vp_in a1 2 ∧ ((((2 : Int32) + (σ 49 (Int32.toNatClampNeg a1))) ≤ ((upd (σ 47) (Int32.toNatClampNeg a1) ((σ 47 (Int32.toNatClampNeg a1)) + (1 : Int32))) (Int32.toNatClampNeg a1)) → (vp_in a1 2 ∧ (vp_in a1 2 ∧ (((σ 48 (Int32.toNatClampNeg a1)) = (0 : Int32) → K (jup (jup (jup σ 50 (Int32.toNatClampNeg a1) ((σ 50 (Int32.toNatClampNeg a1)) + a2)) 47 (Int32.toNatClampNeg a1) ((σ 47 (Int32.toNatClampNeg a1)) + (1 : Int32))) 47 (Int32.toNatClampNeg a1) (0 : Int32))) ∧ (¬ (σ 48 (Int32.toNatClampNeg a1)) = (0 : Int32) → ((¬ (σ 33 39) = (40 : Int32) → (vp_in ((4 : Int32) * (σ 33 39)) 160 ∧ (vp_in a1 2 ∧ (vp_in (((4 : Int32) * (σ 33 39)) + (1 : Int32)) 160 ∧ (vp_in a1 2 ∧ (vp_in (((4 : Int32) * (σ 33 39)) + (2 : Int32)) 160 ∧ (vp_in a1 2 ∧ (vp_in (((4 : Int32) * (σ 33 39)) + (3 : Int32)) 160 ∧ K (jup (jup (jup (jup (jup (jup (jup (jup σ 50 (Int32.toNatClampNeg a1) ((σ 50 (Int32.toNatClampNeg a1)) + a2)) 47 (Int32.toNatClampNeg a1) ((σ 47 (Int32.toNatClampNeg a1)) + (1 : Int32))) 47 (Int32.toNatClampNeg a1) (0 : Int32)) 52 (Int32.toNatClampNeg ((4 : Int32) * (σ 33 39))) a1) 52 (Int32.toNatClampNeg (((4 : Int32) * (σ 33 39)) + (1 : Int32))) (σ 48 (Int32.toNatClampNeg a1))) 52 (Int32.toNatClampNeg (((4 : Int32) * (σ 33 39)) + (2 : Int32))) (σ 49 (Int32.toNatClampNeg a1))) 52 (Int32.toNatClampNeg (((4 : Int32) * (σ 33 39)) + (3 : Int32))) ((upd (σ 50) (Int32.toNatClampNeg a1) ((σ 50 (Int32.toNatClampNeg a1)) + a2)) (Int32.toNatClampNeg a1))) 33 39 ((σ 33 39) + (1 : Int32))))))))))) ∧ ((σ 33 39) = (40 : Int32) → K (jup (jup (jup σ 50 (Int32.toNatClampNeg a1) ((σ 50 (Int32.toNatClampNeg a1)) + a2)) 47 (Int32.toNatClampNeg a1) ((σ 47 (Int32.toNatClampNeg a1)) + (1 : Int32))) 47 (Int32.toNatClampNeg a1) (0 : Int32))))))))) ∧ (¬ ((2 : Int32) + (σ 49 (Int32.toNatClampNeg a1))) ≤ ((upd (σ 47) (Int32.toNatClampNeg a1) ((σ 47 (Int32.toNatClampNeg a1)) + (1 : Int32))) (Int32.toNatClampNeg a1)) → K (jup (jup σ 50 (Int32.toNatClampNeg a1) ((σ 50 (Int32.toNatClampNeg a1)) + a2)) 47 (Int32.toNatClampNeg a1) ((σ 47 (Int32.toNatClampNeg a1)) + (1 : Int32))))))))))))))) ∧ ((σ 47 (Int32.toNatClampNeg a1)) = (1 : Int32) → (vp_in a1 2 ∧ (vp_in a1 2 ∧ (vp_in a1 2 ∧ (vp_in a1 2 ∧ ((((upd (σ 47) (Int32.toNatClampNeg a1) ((σ 47 (Int32.toNatClampNeg a1)) + (1 : Int32))) (Int32.toNatClampNeg a1)) < (2 : Int32) → K (jup (jup σ 49 (Int32.toNatClampNeg a1) a2) 47 (Int32.toNatClampNeg a1) ((σ 47 (Int32.toNatClampNeg a1)) + (1 : Int32)))) ∧ (¬ ((upd (σ 47) (Int32.toNatClampNeg a1) ((σ 47 (Int32.toNatClampNeg a1)) + (1 : Int32))) (Int32.toNatClampNeg a1)) < (2 : Int32) → (vp_in a1 2 ∧ (vp_in a1 2 ∧ ((((2 : Int32) + ((upd (σ 49) (Int32.toNatClampNeg a1) a2) (Int32.toNatClampNeg a1))) ≤ ((upd (σ 47) (Int32.toNatClampNeg a1) ((σ 47 (Int32.toNatClampNeg a1)) + (1 : Int32))) (Int32.toNatClampNeg a1)) → (vp_in a1 2 ∧ (vp_in a1 2 ∧ (((σ 48 (Int32.toNatClampNeg a1)) = (0 : Int32) → K (jup (jup (jup σ 49 (Int32.toNatClampNeg a1) a2) 47 (Int32.toNatClampNeg a1) ((σ 47 (Int32.toNatClampNeg a1)) + (1 : Int32))) 47 (Int32.toNatClampNeg a1) (0 : Int32))) ∧ (¬ (σ 48 (Int32.toNatClampNeg a1)) = (0 : Int32) → ((¬ (σ 33 39) = (40 : Int32) → (vp_in ((4 : Int32) * (σ 33 39)) 160 ∧ (vp_in a1 2 ∧ (vp_in (((4 : Int32) * (σ 33 39)) + (1 : Int32)) 160 ∧ (vp_in a1 2 ∧ (vp_in (((4 : Int32) * (σ 33 39)) + (2 : Int32)) 160 ∧ (vp_in a1 2 ∧ (vp_in (((4 : Int32) * (σ 33 39)) + (3 : Int32)) 160 ∧ K (jup (jup (jup (jup (jup (jup (jup (jup σ 49 (Int32.toNatClampNeg a1) a2) 47 (Int32.toNatClampNeg a1) ((σ 47 (Int32.toNatClampNeg a1)) + (1 : Int32))) 47 (Int32.toNatClampNeg a1) (0 : Int32)) 52 (Int32.toNatClampNeg ((4 : Int32) * (σ 33 39))) a1) 52 (Int32.toNatClampNeg (((4 : Int32) * (σ 33 39)) + (1 : Int32))) (σ 48 (Int32.toNatClampNeg a1))) 52 (Int32.toNatClampNeg (((4 : Int32) * (σ 33 39)) + (2 : Int32))) ((upd (σ 49) (Int32.toNatClampNeg a1) a2) (Int32.toNatClampNeg a1))) 52 (Int32.toNatClampNeg (((4 : Int32) * (σ 33 39)) + (3 : Int32))) (σ 50 (Int32.toNatClampNeg a1))) 33 39 ((σ 33 39) + (1 : Int32))))))))))) ∧ ((σ 33 39) = (40 : Int32) → K (jup (jup (jup σ 49 (Int32.toNatClampNeg a1) a2) 47 (Int32.toNatClampNeg a1) ((σ 47 (Int32.toNatClampNeg a1)) + (1 : Int32))) 47 (Int32.toNatClampNeg a1) (0 : Int32))))))))) ∧ (¬ ((2 : Int32) + ((upd (σ 49) (Int32.toNatClampNeg a1) a2) (Int32.toNatClampNeg a1))) ≤ ((upd (σ 47) (Int32.toNatClampNeg a1) ((σ 47 (Int32.toNatClampNeg a1)) + (1 : Int32))) (Int32.toNatClampNeg a1)) → K (jup (jup σ 49 (Int32.toNatClampNeg a1) a2) 47 (Int32.toNatClampNeg a1) ((σ 47 (Int32.toNatClampNeg a1)) + (1 : Int32))))))))))))))))) ∧ ((σ 47 (Int32.toNatClampNeg a1)) = (0 : Int32) → (vp_in a1 2 ∧ (vp_in a1 2 ∧ (vp_in a1 2 ∧ (vp_in a1 2 ∧ (vp_in a1 2 ∧ ((((upd (σ 47) (Int32.toNatClampNeg a1) ((σ 47 (Int32.toNatClampNeg a1)) + (1 : Int32))) (Int32.toNatClampNeg a1)) < (2 : Int32) → K (jup (jup (jup σ 48 (Int32.toNatClampNeg a1) a2) 50 (Int32.toNatClampNeg a1) (0 : Int32)) 47 (Int32.toNatClampNeg a1) ((σ 47 (Int32.toNatClampNeg a1)) + (1 : Int32)))) ∧ (¬ ((upd (σ 47) (Int32.toNatClampNeg a1) ((σ 47 (Int32.toNatClampNeg a1)) + (1 : Int32))) (Int32.toNatClampNeg a1)) < (2 : Int32) → (vp_in a1 2 ∧ (vp_in a1 2 ∧ ((((2 : Int32) + (σ 49 (Int32.toNatClampNeg a1))) ≤ ((upd (σ 47) (Int32.toNatClampNeg a1) ((σ 47 (Int32.toNatClampNeg a1)) + (1 : Int32))) (Int32.toNatClampNeg a1)) → (vp_in a1 2 ∧ (vp_in a1 2 ∧ ((((upd (σ 48) (Int32.toNatClampNeg a1) a2) (Int32.toNatClampNeg a1)) = (0 : Int32) → K (jup (jup (jup (jup σ 48 (Int32.toNatClampNeg a1) a2) 50 (Int32.toNatClampNeg a1) (0 : Int32)) 47 (Int32.toNatClampNeg a1) ((σ 47 (Int32.toNatClampNeg a1)) + (1 : Int32))) 47 (Int32.toNatClampNeg a1) (0 : Int32))) ∧ (¬ ((upd (σ 48) (Int32.toNatClampNeg a1) a2) (Int32.toNatClampNeg a1)) = (0 : Int32) → ((¬ (σ 33 39) = (40 : Int32) → (vp_in ((4 : Int32) * (σ 33 39)) 160 ∧ (vp_in a1 2 ∧ (vp_in (((4 : Int32) * (σ 33 39)) + (1 : Int32)) 160 ∧ (vp_in a1 2 ∧ (vp_in (((4 : Int32) * (σ 33 39)) + (2 : Int32)) 160 ∧ (vp_in a1 2 ∧ (vp_in (((4 : Int32) * (σ 33 39)) + (3 : Int32)) 160 ∧ K (jup (jup (jup (jup (jup (jup (jup (jup (jup σ 48 (Int32.toNatClampNeg a1) a2) 50 (Int32.toNatClampNeg a1) (0 : Int32)) 47 (Int32.toNatClampNeg a1) ((σ 47 (Int32.toNatClampNeg a1)) + (1 : Int32))) 47 (Int32.toNatClampNeg a1) (0 : Int32)) 52 (Int32.toNatClampNeg ((4 : Int32) * (σ 33 39))) a1) 52 (Int32.toNatClampNeg (((4 : Int32) * (σ 33 39)) + (1 : Int32))) ((upd (σ 48) (Int32.toNatClampNeg a1) a2) (Int32.toNatClampNeg a1))) 52 (Int32.toNatClampNeg (((4 : Int32) * (σ 33 39)) + (2 : Int32))) (σ 49 (Int32.toNatClampNeg a1))) 52 (Int32.toNatClampNeg (((4 : Int32) * (σ 33 39)) + (3 : Int32))) ((upd (σ 50) (Int32.toNatClampNeg a1) (0 : Int32)) (Int32.toNatClampNeg a1))) 33 39 ((σ 33 39) + (1 : Int32))))))))))) ∧ ((σ 33 39) = (40 : Int32) → K (jup (jup (jup (jup σ 48 (Int32.toNatClampNeg a1) a2) 50 (Int32.toNatClampNeg a1) (0 : Int32)) 47 (Int32.toNatClampNeg a1) ((σ 47 (Int32.toNatClampNeg a1)) + (1 : Int32))) 47 (Int32.toNatClampNeg a1) (0 : Int32))))))))) ∧ (¬ ((2 : Int32) + (σ 49 (Int32.toNatClampNeg a1))) ≤ ((upd (σ 47) (Int32.toNatClampNeg a1) ((σ 47 (Int32.toNatClampNeg a1)) + (1 : Int32))) (Int32.toNatClampNeg a1)) → K (jup (jup (jup σ 48 (Int32.toNatClampNeg a1) a2) 50 (Int32.toNatClampNeg a1) (0 : Int32)) 47 (Int32.toNatClampNeg a1) ((σ 47 (Int32.toNatClampNeg a1)) + (1 : Int32)))))))))))))))))
abbrev rm_M_readCell : Room := { frames := 0, cells := 0, slots := 0, locals := 0 }
set_option maxRecDepth 100000 in
set_option maxHeartbeats 4000000 in
theorem c_M_readCell (l : Launch) (D : va_G) (ca ad : Nat → Nat) (sz : Nat) (hD : Jd ca ad sz) {a1 a2 : Int32} {σ : Jst} {K : Jst → Prop} (hw : w_M_readCell a1 a2 σ K) : Met l y_M_readCell (wG y_M_readCell b_M_readCell 3 none) rm_M_readCell (va_Pc [.ref (ad 33), .int a1, .int a2] (Jw D vwCl (tysT ca) (wlT ad ca) (NwT sz) σ)) (va_Qv K (Jq D vwCl (wlT ad ca)) (Aw sz)) 0 0 (Aw sz) := by
  refine j_met (cc := b_M_readCell) (own := R_M) (by decide +kernel) rfl (Nat.le_of_ble_eq_true rfl) rfl hD (nwT_k sz) ?_
  intro p e s m args below meth c X hlk hr
  have hX : J p l e rm_M_readCell s m args below meth c D vwCl (wlT ad ca) (Aw sz) 3 0 0 (MQ below (va_Qv K (Jq D vwCl (wlT ad ca)) (Aw sz)) args s 0 0 (Aw sz)) 0 [(0, .ref (ad 33)), (1, .int a1), (2, .int a2)] [] σ := by
    unfold w_M_readCell at hw
    refine j_aload_n X d_M_readCell_0 rfl 0 rfl ?_
    refine g_33_34 X f_M_60 d_M_readCell_1 ?_
    refine j_iload_n X d_M_readCell_4 rfl 1 rfl ?_
    refine ld_47 X hw.1 (v := (σ 47 (Int32.toNatClampNeg a1))) rfl d_M_readCell_5 ?_
    have hw := hw.2
    refine j_if_ne X d_M_readCell_6 (tgt := 26) (by decide) (fun h => ?_) (fun h => ?_)
    · have hw := hw.1 h
      refine j_aload_n X d_M_readCell_26 rfl 0 rfl ?_
      refine g_33_34 X f_M_60 d_M_readCell_27 ?_
      refine j_iload_n X d_M_readCell_30 rfl 1 rfl ?_
      refine ld_47 X hw.1 (v := (σ 47 (Int32.toNatClampNeg a1))) rfl d_M_readCell_31 ?_
      have hw := hw.2
      refine j_iconst X (v := (1 : Int32)) d_M_readCell_32 (by decide) ?_
      refine j_icmp_ne X d_M_readCell_33 (tgt := 46) (by decide) (fun h => ?_) (fun h => ?_)
      · have hw := hw.1 h
        refine j_aload_n X d_M_readCell_46 rfl 0 rfl ?_
        refine g_33_37 X f_M_69 d_M_readCell_47 ?_
        refine j_iload_n X d_M_readCell_50 rfl 1 rfl ?_
        refine j_dup2 X d_M_readCell_51 rfl rfl ?_
        refine ld_50 X hw.1 (v := (σ 50 (Int32.toNatClampNeg a1))) rfl d_M_readCell_52 ?_
        have hw := hw.2
        refine j_iload_n X d_M_readCell_53 rfl 2 rfl ?_
        refine j_iadd X d_M_readCell_54 ?_
        refine sr_50 X hw.1 d_M_readCell_55 ?_
        have hw := hw.2
        refine j_aload_n X d_M_readCell_56 rfl 0 rfl ?_
        refine g_33_34 X f_M_60 d_M_readCell_57 ?_
        refine j_iload_n X d_M_readCell_60 rfl 1 rfl ?_
        refine j_dup2 X d_M_readCell_61 rfl rfl ?_
        refine ld_47 X hw.1 (v := (σ 47 (Int32.toNatClampNeg a1))) rfl d_M_readCell_62 ?_
        have hw := hw.2
        refine j_iconst X (v := (1 : Int32)) d_M_readCell_63 (by decide) ?_
        refine j_iadd X d_M_readCell_64 ?_
        refine sr_47 X hw.1 d_M_readCell_65 ?_
        have hw := hw.2
        refine j_aload_n X d_M_readCell_66 rfl 0 rfl ?_
        refine g_33_34 X f_M_60 d_M_readCell_67 ?_
        refine j_iload_n X d_M_readCell_70 rfl 1 rfl ?_
        refine ld_47 X hw.1 (v := ((upd (σ 47) (Int32.toNatClampNeg a1) ((σ 47 (Int32.toNatClampNeg a1)) + (1 : Int32))) (Int32.toNatClampNeg a1))) rfl d_M_readCell_71 ?_
        have hw := hw.2
        refine j_iconst X (v := (2 : Int32)) d_M_readCell_72 (by decide) ?_
        refine j_icmp_lt X d_M_readCell_73 (tgt := 93) (by decide) (fun h => ?_) (fun h => ?_)
        · have hw := hw.1 h
          exact j_vret X hlk hr d_M_readCell_93 hw
        · have hw := hw.2 h
          refine j_aload_n X d_M_readCell_76 rfl 0 rfl ?_
          refine g_33_34 X f_M_60 d_M_readCell_77 ?_
          refine j_iload_n X d_M_readCell_80 rfl 1 rfl ?_
          refine ld_47 X hw.1 (v := ((upd (σ 47) (Int32.toNatClampNeg a1) ((σ 47 (Int32.toNatClampNeg a1)) + (1 : Int32))) (Int32.toNatClampNeg a1))) rfl d_M_readCell_81 ?_
          have hw := hw.2
          refine j_iconst X (v := (2 : Int32)) d_M_readCell_82 (by decide) ?_
          refine j_aload_n X d_M_readCell_83 rfl 0 rfl ?_
          refine g_33_36 X f_M_66 d_M_readCell_84 ?_
          refine j_iload_n X d_M_readCell_87 rfl 1 rfl ?_
          refine ld_49 X hw.1 (v := (σ 49 (Int32.toNatClampNeg a1))) rfl d_M_readCell_88 ?_
          have hw := hw.2
          refine j_iadd X d_M_readCell_89 ?_
          refine j_icmp_ge X d_M_readCell_90 (tgt := 94) (by decide) (fun h => ?_) (fun h => ?_)
          · have hw := hw.1 h
            refine j_aload_n X d_M_readCell_94 rfl 0 rfl ?_
            refine g_33_34 X f_M_60 d_M_readCell_95 ?_
            refine j_iload_n X d_M_readCell_98 rfl 1 rfl ?_
            refine j_iconst X (v := (0 : Int32)) d_M_readCell_99 (by decide) ?_
            refine sr_47 X hw.1 d_M_readCell_100 ?_
            have hw := hw.2
            refine j_aload_n X d_M_readCell_101 rfl 0 rfl ?_
            refine g_33_35 X f_M_63 d_M_readCell_102 ?_
            refine j_iload_n X d_M_readCell_105 rfl 1 rfl ?_
            refine ld_48 X hw.1 (v := (σ 48 (Int32.toNatClampNeg a1))) rfl d_M_readCell_106 ?_
            have hw := hw.2
            refine j_if_eq X d_M_readCell_107 (tgt := 119) (by decide) (fun h => ?_) (fun h => ?_)
            · have hw := hw.1 h
              exact j_vret X hlk hr d_M_readCell_119 hw
            · have hw := hw.2 h
              refine j_aload_n X d_M_readCell_110 rfl 0 rfl ?_
              refine g_33_39 X f_M_179 (v := (σ 33 39)) rfl d_M_readCell_111 ?_
              refine j_bipush X (v := (40 : Int32)) d_M_readCell_114 (by decide) ?_
              refine j_icmp_ne X d_M_readCell_116 (tgt := 120) (by decide) (fun h => ?_) (fun h => ?_)
              · have hw := hw.1 h
                refine j_aload_n X d_M_readCell_120 rfl 0 rfl ?_
                refine g_33_40 X f_M_75 d_M_readCell_121 ?_
                refine j_iconst X (v := (4 : Int32)) d_M_readCell_124 (by decide) ?_
                refine j_aload_n X d_M_readCell_125 rfl 0 rfl ?_
                refine g_33_39 X f_M_179 (v := (σ 33 39)) rfl d_M_readCell_126 ?_
                refine j_imul X d_M_readCell_129 ?_
                refine j_iload_n X d_M_readCell_130 rfl 1 rfl ?_
                refine sr_52 X hw.1 d_M_readCell_131 ?_
                have hw := hw.2
                refine j_aload_n X d_M_readCell_132 rfl 0 rfl ?_
                refine g_33_40 X f_M_75 d_M_readCell_133 ?_
                refine j_iconst X (v := (4 : Int32)) d_M_readCell_136 (by decide) ?_
                refine j_aload_n X d_M_readCell_137 rfl 0 rfl ?_
                refine g_33_39 X f_M_179 (v := (σ 33 39)) rfl d_M_readCell_138 ?_
                refine j_imul X d_M_readCell_141 ?_
                refine j_iconst X (v := (1 : Int32)) d_M_readCell_142 (by decide) ?_
                refine j_iadd X d_M_readCell_143 ?_
                refine j_aload_n X d_M_readCell_144 rfl 0 rfl ?_
                refine g_33_35 X f_M_63 d_M_readCell_145 ?_
                refine j_iload_n X d_M_readCell_148 rfl 1 rfl ?_
                refine ld_48 X hw.1 (v := (σ 48 (Int32.toNatClampNeg a1))) rfl d_M_readCell_149 ?_
                have hw := hw.2
                refine sr_52 X hw.1 d_M_readCell_150 ?_
                have hw := hw.2
                refine j_aload_n X d_M_readCell_151 rfl 0 rfl ?_
                refine g_33_40 X f_M_75 d_M_readCell_152 ?_
                refine j_iconst X (v := (4 : Int32)) d_M_readCell_155 (by decide) ?_
                refine j_aload_n X d_M_readCell_156 rfl 0 rfl ?_
                refine g_33_39 X f_M_179 (v := (σ 33 39)) rfl d_M_readCell_157 ?_
                refine j_imul X d_M_readCell_160 ?_
                refine j_iconst X (v := (2 : Int32)) d_M_readCell_161 (by decide) ?_
                refine j_iadd X d_M_readCell_162 ?_
                refine j_aload_n X d_M_readCell_163 rfl 0 rfl ?_
                refine g_33_36 X f_M_66 d_M_readCell_164 ?_
                refine j_iload_n X d_M_readCell_167 rfl 1 rfl ?_
                refine ld_49 X hw.1 (v := (σ 49 (Int32.toNatClampNeg a1))) rfl d_M_readCell_168 ?_
                have hw := hw.2
                refine sr_52 X hw.1 d_M_readCell_169 ?_
                have hw := hw.2
                refine j_aload_n X d_M_readCell_170 rfl 0 rfl ?_
                refine g_33_40 X f_M_75 d_M_readCell_171 ?_
                refine j_iconst X (v := (4 : Int32)) d_M_readCell_174 (by decide) ?_
                refine j_aload_n X d_M_readCell_175 rfl 0 rfl ?_
                refine g_33_39 X f_M_179 (v := (σ 33 39)) rfl d_M_readCell_176 ?_
                refine j_imul X d_M_readCell_179 ?_
                refine j_iconst X (v := (3 : Int32)) d_M_readCell_180 (by decide) ?_
                refine j_iadd X d_M_readCell_181 ?_
                refine j_aload_n X d_M_readCell_182 rfl 0 rfl ?_
                refine g_33_37 X f_M_69 d_M_readCell_183 ?_
                refine j_iload_n X d_M_readCell_186 rfl 1 rfl ?_
                refine ld_50 X hw.1 (v := ((upd (σ 50) (Int32.toNatClampNeg a1) ((σ 50 (Int32.toNatClampNeg a1)) + a2)) (Int32.toNatClampNeg a1))) rfl d_M_readCell_187 ?_
                have hw := hw.2
                refine sr_52 X hw.1 d_M_readCell_188 ?_
                have hw := hw.2
                refine j_aload_n X d_M_readCell_189 rfl 0 rfl ?_
                refine j_dup X d_M_readCell_190 rfl ?_
                refine g_33_39 X f_M_179 (v := (σ 33 39)) rfl d_M_readCell_191 ?_
                refine j_iconst X (v := (1 : Int32)) d_M_readCell_194 (by decide) ?_
                refine j_iadd X d_M_readCell_195 ?_
                refine p_33_39 X f_M_179 d_M_readCell_196 ?_
                exact j_vret X hlk hr d_M_readCell_199 hw
              · have hw := hw.2 h
                exact j_vret X hlk hr d_M_readCell_119 hw
          · have hw := hw.2 h
            exact j_vret X hlk hr d_M_readCell_93 hw
      · have hw := hw.2 h
        refine j_aload_n X d_M_readCell_36 rfl 0 rfl ?_
        refine g_33_36 X f_M_66 d_M_readCell_37 ?_
        refine j_iload_n X d_M_readCell_40 rfl 1 rfl ?_
        refine j_iload_n X d_M_readCell_41 rfl 2 rfl ?_
        refine sr_49 X hw.1 d_M_readCell_42 ?_
        have hw := hw.2
        refine j_goto X d_M_readCell_43 (tgt := 56) (by decide) ?_
        refine j_aload_n X d_M_readCell_56 rfl 0 rfl ?_
        refine g_33_34 X f_M_60 d_M_readCell_57 ?_
        refine j_iload_n X d_M_readCell_60 rfl 1 rfl ?_
        refine j_dup2 X d_M_readCell_61 rfl rfl ?_
        refine ld_47 X hw.1 (v := (σ 47 (Int32.toNatClampNeg a1))) rfl d_M_readCell_62 ?_
        have hw := hw.2
        refine j_iconst X (v := (1 : Int32)) d_M_readCell_63 (by decide) ?_
        refine j_iadd X d_M_readCell_64 ?_
        refine sr_47 X hw.1 d_M_readCell_65 ?_
        have hw := hw.2
        refine j_aload_n X d_M_readCell_66 rfl 0 rfl ?_
        refine g_33_34 X f_M_60 d_M_readCell_67 ?_
        refine j_iload_n X d_M_readCell_70 rfl 1 rfl ?_
        refine ld_47 X hw.1 (v := ((upd (σ 47) (Int32.toNatClampNeg a1) ((σ 47 (Int32.toNatClampNeg a1)) + (1 : Int32))) (Int32.toNatClampNeg a1))) rfl d_M_readCell_71 ?_
        have hw := hw.2
        refine j_iconst X (v := (2 : Int32)) d_M_readCell_72 (by decide) ?_
        refine j_icmp_lt X d_M_readCell_73 (tgt := 93) (by decide) (fun h => ?_) (fun h => ?_)
        · have hw := hw.1 h
          exact j_vret X hlk hr d_M_readCell_93 hw
        · have hw := hw.2 h
          refine j_aload_n X d_M_readCell_76 rfl 0 rfl ?_
          refine g_33_34 X f_M_60 d_M_readCell_77 ?_
          refine j_iload_n X d_M_readCell_80 rfl 1 rfl ?_
          refine ld_47 X hw.1 (v := ((upd (σ 47) (Int32.toNatClampNeg a1) ((σ 47 (Int32.toNatClampNeg a1)) + (1 : Int32))) (Int32.toNatClampNeg a1))) rfl d_M_readCell_81 ?_
          have hw := hw.2
          refine j_iconst X (v := (2 : Int32)) d_M_readCell_82 (by decide) ?_
          refine j_aload_n X d_M_readCell_83 rfl 0 rfl ?_
          refine g_33_36 X f_M_66 d_M_readCell_84 ?_
          refine j_iload_n X d_M_readCell_87 rfl 1 rfl ?_
          refine ld_49 X hw.1 (v := ((upd (σ 49) (Int32.toNatClampNeg a1) a2) (Int32.toNatClampNeg a1))) rfl d_M_readCell_88 ?_
          have hw := hw.2
          refine j_iadd X d_M_readCell_89 ?_
          refine j_icmp_ge X d_M_readCell_90 (tgt := 94) (by decide) (fun h => ?_) (fun h => ?_)
          · have hw := hw.1 h
            refine j_aload_n X d_M_readCell_94 rfl 0 rfl ?_
            refine g_33_34 X f_M_60 d_M_readCell_95 ?_
            refine j_iload_n X d_M_readCell_98 rfl 1 rfl ?_
            refine j_iconst X (v := (0 : Int32)) d_M_readCell_99 (by decide) ?_
            refine sr_47 X hw.1 d_M_readCell_100 ?_
            have hw := hw.2
            refine j_aload_n X d_M_readCell_101 rfl 0 rfl ?_
            refine g_33_35 X f_M_63 d_M_readCell_102 ?_
            refine j_iload_n X d_M_readCell_105 rfl 1 rfl ?_
            refine ld_48 X hw.1 (v := (σ 48 (Int32.toNatClampNeg a1))) rfl d_M_readCell_106 ?_
            have hw := hw.2
            refine j_if_eq X d_M_readCell_107 (tgt := 119) (by decide) (fun h => ?_) (fun h => ?_)
            · have hw := hw.1 h
              exact j_vret X hlk hr d_M_readCell_119 hw
            · have hw := hw.2 h
              refine j_aload_n X d_M_readCell_110 rfl 0 rfl ?_
              refine g_33_39 X f_M_179 (v := (σ 33 39)) rfl d_M_readCell_111 ?_
              refine j_bipush X (v := (40 : Int32)) d_M_readCell_114 (by decide) ?_
              refine j_icmp_ne X d_M_readCell_116 (tgt := 120) (by decide) (fun h => ?_) (fun h => ?_)
              · have hw := hw.1 h
                refine j_aload_n X d_M_readCell_120 rfl 0 rfl ?_
                refine g_33_40 X f_M_75 d_M_readCell_121 ?_
                refine j_iconst X (v := (4 : Int32)) d_M_readCell_124 (by decide) ?_
                refine j_aload_n X d_M_readCell_125 rfl 0 rfl ?_
                refine g_33_39 X f_M_179 (v := (σ 33 39)) rfl d_M_readCell_126 ?_
                refine j_imul X d_M_readCell_129 ?_
                refine j_iload_n X d_M_readCell_130 rfl 1 rfl ?_
                refine sr_52 X hw.1 d_M_readCell_131 ?_
                have hw := hw.2
                refine j_aload_n X d_M_readCell_132 rfl 0 rfl ?_
                refine g_33_40 X f_M_75 d_M_readCell_133 ?_
                refine j_iconst X (v := (4 : Int32)) d_M_readCell_136 (by decide) ?_
                refine j_aload_n X d_M_readCell_137 rfl 0 rfl ?_
                refine g_33_39 X f_M_179 (v := (σ 33 39)) rfl d_M_readCell_138 ?_
                refine j_imul X d_M_readCell_141 ?_
                refine j_iconst X (v := (1 : Int32)) d_M_readCell_142 (by decide) ?_
                refine j_iadd X d_M_readCell_143 ?_
                refine j_aload_n X d_M_readCell_144 rfl 0 rfl ?_
                refine g_33_35 X f_M_63 d_M_readCell_145 ?_
                refine j_iload_n X d_M_readCell_148 rfl 1 rfl ?_
                refine ld_48 X hw.1 (v := (σ 48 (Int32.toNatClampNeg a1))) rfl d_M_readCell_149 ?_
                have hw := hw.2
                refine sr_52 X hw.1 d_M_readCell_150 ?_
                have hw := hw.2
                refine j_aload_n X d_M_readCell_151 rfl 0 rfl ?_
                refine g_33_40 X f_M_75 d_M_readCell_152 ?_
                refine j_iconst X (v := (4 : Int32)) d_M_readCell_155 (by decide) ?_
                refine j_aload_n X d_M_readCell_156 rfl 0 rfl ?_
                refine g_33_39 X f_M_179 (v := (σ 33 39)) rfl d_M_readCell_157 ?_
                refine j_imul X d_M_readCell_160 ?_
                refine j_iconst X (v := (2 : Int32)) d_M_readCell_161 (by decide) ?_
                refine j_iadd X d_M_readCell_162 ?_
                refine j_aload_n X d_M_readCell_163 rfl 0 rfl ?_
                refine g_33_36 X f_M_66 d_M_readCell_164 ?_
                refine j_iload_n X d_M_readCell_167 rfl 1 rfl ?_
                refine ld_49 X hw.1 (v := ((upd (σ 49) (Int32.toNatClampNeg a1) a2) (Int32.toNatClampNeg a1))) rfl d_M_readCell_168 ?_
                have hw := hw.2
                refine sr_52 X hw.1 d_M_readCell_169 ?_
                have hw := hw.2
                refine j_aload_n X d_M_readCell_170 rfl 0 rfl ?_
                refine g_33_40 X f_M_75 d_M_readCell_171 ?_
                refine j_iconst X (v := (4 : Int32)) d_M_readCell_174 (by decide) ?_
                refine j_aload_n X d_M_readCell_175 rfl 0 rfl ?_
                refine g_33_39 X f_M_179 (v := (σ 33 39)) rfl d_M_readCell_176 ?_
                refine j_imul X d_M_readCell_179 ?_
                refine j_iconst X (v := (3 : Int32)) d_M_readCell_180 (by decide) ?_
                refine j_iadd X d_M_readCell_181 ?_
                refine j_aload_n X d_M_readCell_182 rfl 0 rfl ?_
                refine g_33_37 X f_M_69 d_M_readCell_183 ?_
                refine j_iload_n X d_M_readCell_186 rfl 1 rfl ?_
                refine ld_50 X hw.1 (v := (σ 50 (Int32.toNatClampNeg a1))) rfl d_M_readCell_187 ?_
                have hw := hw.2
                refine sr_52 X hw.1 d_M_readCell_188 ?_
                have hw := hw.2
                refine j_aload_n X d_M_readCell_189 rfl 0 rfl ?_
                refine j_dup X d_M_readCell_190 rfl ?_
                refine g_33_39 X f_M_179 (v := (σ 33 39)) rfl d_M_readCell_191 ?_
                refine j_iconst X (v := (1 : Int32)) d_M_readCell_194 (by decide) ?_
                refine j_iadd X d_M_readCell_195 ?_
                refine p_33_39 X f_M_179 d_M_readCell_196 ?_
                exact j_vret X hlk hr d_M_readCell_199 hw
              · have hw := hw.2 h
                exact j_vret X hlk hr d_M_readCell_119 hw
          · have hw := hw.2 h
            exact j_vret X hlk hr d_M_readCell_93 hw
    · have hw := hw.2 h
      refine j_aload_n X d_M_readCell_9 rfl 0 rfl ?_
      refine g_33_35 X f_M_63 d_M_readCell_10 ?_
      refine j_iload_n X d_M_readCell_13 rfl 1 rfl ?_
      refine j_iload_n X d_M_readCell_14 rfl 2 rfl ?_
      refine sr_48 X hw.1 d_M_readCell_15 ?_
      have hw := hw.2
      refine j_aload_n X d_M_readCell_16 rfl 0 rfl ?_
      refine g_33_37 X f_M_69 d_M_readCell_17 ?_
      refine j_iload_n X d_M_readCell_20 rfl 1 rfl ?_
      refine j_iconst X (v := (0 : Int32)) d_M_readCell_21 (by decide) ?_
      refine sr_50 X hw.1 d_M_readCell_22 ?_
      have hw := hw.2
      refine j_goto X d_M_readCell_23 (tgt := 56) (by decide) ?_
      refine j_aload_n X d_M_readCell_56 rfl 0 rfl ?_
      refine g_33_34 X f_M_60 d_M_readCell_57 ?_
      refine j_iload_n X d_M_readCell_60 rfl 1 rfl ?_
      refine j_dup2 X d_M_readCell_61 rfl rfl ?_
      refine ld_47 X hw.1 (v := (σ 47 (Int32.toNatClampNeg a1))) rfl d_M_readCell_62 ?_
      have hw := hw.2
      refine j_iconst X (v := (1 : Int32)) d_M_readCell_63 (by decide) ?_
      refine j_iadd X d_M_readCell_64 ?_
      refine sr_47 X hw.1 d_M_readCell_65 ?_
      have hw := hw.2
      refine j_aload_n X d_M_readCell_66 rfl 0 rfl ?_
      refine g_33_34 X f_M_60 d_M_readCell_67 ?_
      refine j_iload_n X d_M_readCell_70 rfl 1 rfl ?_
      refine ld_47 X hw.1 (v := ((upd (σ 47) (Int32.toNatClampNeg a1) ((σ 47 (Int32.toNatClampNeg a1)) + (1 : Int32))) (Int32.toNatClampNeg a1))) rfl d_M_readCell_71 ?_
      have hw := hw.2
      refine j_iconst X (v := (2 : Int32)) d_M_readCell_72 (by decide) ?_
      refine j_icmp_lt X d_M_readCell_73 (tgt := 93) (by decide) (fun h => ?_) (fun h => ?_)
      · have hw := hw.1 h
        exact j_vret X hlk hr d_M_readCell_93 hw
      · have hw := hw.2 h
        refine j_aload_n X d_M_readCell_76 rfl 0 rfl ?_
        refine g_33_34 X f_M_60 d_M_readCell_77 ?_
        refine j_iload_n X d_M_readCell_80 rfl 1 rfl ?_
        refine ld_47 X hw.1 (v := ((upd (σ 47) (Int32.toNatClampNeg a1) ((σ 47 (Int32.toNatClampNeg a1)) + (1 : Int32))) (Int32.toNatClampNeg a1))) rfl d_M_readCell_81 ?_
        have hw := hw.2
        refine j_iconst X (v := (2 : Int32)) d_M_readCell_82 (by decide) ?_
        refine j_aload_n X d_M_readCell_83 rfl 0 rfl ?_
        refine g_33_36 X f_M_66 d_M_readCell_84 ?_
        refine j_iload_n X d_M_readCell_87 rfl 1 rfl ?_
        refine ld_49 X hw.1 (v := (σ 49 (Int32.toNatClampNeg a1))) rfl d_M_readCell_88 ?_
        have hw := hw.2
        refine j_iadd X d_M_readCell_89 ?_
        refine j_icmp_ge X d_M_readCell_90 (tgt := 94) (by decide) (fun h => ?_) (fun h => ?_)
        · have hw := hw.1 h
          refine j_aload_n X d_M_readCell_94 rfl 0 rfl ?_
          refine g_33_34 X f_M_60 d_M_readCell_95 ?_
          refine j_iload_n X d_M_readCell_98 rfl 1 rfl ?_
          refine j_iconst X (v := (0 : Int32)) d_M_readCell_99 (by decide) ?_
          refine sr_47 X hw.1 d_M_readCell_100 ?_
          have hw := hw.2
          refine j_aload_n X d_M_readCell_101 rfl 0 rfl ?_
          refine g_33_35 X f_M_63 d_M_readCell_102 ?_
          refine j_iload_n X d_M_readCell_105 rfl 1 rfl ?_
          refine ld_48 X hw.1 (v := ((upd (σ 48) (Int32.toNatClampNeg a1) a2) (Int32.toNatClampNeg a1))) rfl d_M_readCell_106 ?_
          have hw := hw.2
          refine j_if_eq X d_M_readCell_107 (tgt := 119) (by decide) (fun h => ?_) (fun h => ?_)
          · have hw := hw.1 h
            exact j_vret X hlk hr d_M_readCell_119 hw
          · have hw := hw.2 h
            refine j_aload_n X d_M_readCell_110 rfl 0 rfl ?_
            refine g_33_39 X f_M_179 (v := (σ 33 39)) rfl d_M_readCell_111 ?_
            refine j_bipush X (v := (40 : Int32)) d_M_readCell_114 (by decide) ?_
            refine j_icmp_ne X d_M_readCell_116 (tgt := 120) (by decide) (fun h => ?_) (fun h => ?_)
            · have hw := hw.1 h
              refine j_aload_n X d_M_readCell_120 rfl 0 rfl ?_
              refine g_33_40 X f_M_75 d_M_readCell_121 ?_
              refine j_iconst X (v := (4 : Int32)) d_M_readCell_124 (by decide) ?_
              refine j_aload_n X d_M_readCell_125 rfl 0 rfl ?_
              refine g_33_39 X f_M_179 (v := (σ 33 39)) rfl d_M_readCell_126 ?_
              refine j_imul X d_M_readCell_129 ?_
              refine j_iload_n X d_M_readCell_130 rfl 1 rfl ?_
              refine sr_52 X hw.1 d_M_readCell_131 ?_
              have hw := hw.2
              refine j_aload_n X d_M_readCell_132 rfl 0 rfl ?_
              refine g_33_40 X f_M_75 d_M_readCell_133 ?_
              refine j_iconst X (v := (4 : Int32)) d_M_readCell_136 (by decide) ?_
              refine j_aload_n X d_M_readCell_137 rfl 0 rfl ?_
              refine g_33_39 X f_M_179 (v := (σ 33 39)) rfl d_M_readCell_138 ?_
              refine j_imul X d_M_readCell_141 ?_
              refine j_iconst X (v := (1 : Int32)) d_M_readCell_142 (by decide) ?_
              refine j_iadd X d_M_readCell_143 ?_
              refine j_aload_n X d_M_readCell_144 rfl 0 rfl ?_
              refine g_33_35 X f_M_63 d_M_readCell_145 ?_
              refine j_iload_n X d_M_readCell_148 rfl 1 rfl ?_
              refine ld_48 X hw.1 (v := ((upd (σ 48) (Int32.toNatClampNeg a1) a2) (Int32.toNatClampNeg a1))) rfl d_M_readCell_149 ?_
              have hw := hw.2
              refine sr_52 X hw.1 d_M_readCell_150 ?_
              have hw := hw.2
              refine j_aload_n X d_M_readCell_151 rfl 0 rfl ?_
              refine g_33_40 X f_M_75 d_M_readCell_152 ?_
              refine j_iconst X (v := (4 : Int32)) d_M_readCell_155 (by decide) ?_
              refine j_aload_n X d_M_readCell_156 rfl 0 rfl ?_
              refine g_33_39 X f_M_179 (v := (σ 33 39)) rfl d_M_readCell_157 ?_
              refine j_imul X d_M_readCell_160 ?_
              refine j_iconst X (v := (2 : Int32)) d_M_readCell_161 (by decide) ?_
              refine j_iadd X d_M_readCell_162 ?_
              refine j_aload_n X d_M_readCell_163 rfl 0 rfl ?_
              refine g_33_36 X f_M_66 d_M_readCell_164 ?_
              refine j_iload_n X d_M_readCell_167 rfl 1 rfl ?_
              refine ld_49 X hw.1 (v := (σ 49 (Int32.toNatClampNeg a1))) rfl d_M_readCell_168 ?_
              have hw := hw.2
              refine sr_52 X hw.1 d_M_readCell_169 ?_
              have hw := hw.2
              refine j_aload_n X d_M_readCell_170 rfl 0 rfl ?_
              refine g_33_40 X f_M_75 d_M_readCell_171 ?_
              refine j_iconst X (v := (4 : Int32)) d_M_readCell_174 (by decide) ?_
              refine j_aload_n X d_M_readCell_175 rfl 0 rfl ?_
              refine g_33_39 X f_M_179 (v := (σ 33 39)) rfl d_M_readCell_176 ?_
              refine j_imul X d_M_readCell_179 ?_
              refine j_iconst X (v := (3 : Int32)) d_M_readCell_180 (by decide) ?_
              refine j_iadd X d_M_readCell_181 ?_
              refine j_aload_n X d_M_readCell_182 rfl 0 rfl ?_
              refine g_33_37 X f_M_69 d_M_readCell_183 ?_
              refine j_iload_n X d_M_readCell_186 rfl 1 rfl ?_
              refine ld_50 X hw.1 (v := ((upd (σ 50) (Int32.toNatClampNeg a1) (0 : Int32)) (Int32.toNatClampNeg a1))) rfl d_M_readCell_187 ?_
              have hw := hw.2
              refine sr_52 X hw.1 d_M_readCell_188 ?_
              have hw := hw.2
              refine j_aload_n X d_M_readCell_189 rfl 0 rfl ?_
              refine j_dup X d_M_readCell_190 rfl ?_
              refine g_33_39 X f_M_179 (v := (σ 33 39)) rfl d_M_readCell_191 ?_
              refine j_iconst X (v := (1 : Int32)) d_M_readCell_194 (by decide) ?_
              refine j_iadd X d_M_readCell_195 ?_
              refine p_33_39 X f_M_179 d_M_readCell_196 ?_
              exact j_vret X hlk hr d_M_readCell_199 hw
            · have hw := hw.2 h
              exact j_vret X hlk hr d_M_readCell_119 hw
        · have hw := hw.2 h
          exact j_vret X hlk hr d_M_readCell_93 hw
  exact hX
def w_M_comesDown_L79 (K : Jst → Prop) : Nat → Int32 → Int32 → Int32 → Int32 → Int32 → Jst → Prop
  | 0, _, _, _, _, _, _ => False
  | n + 1, v1, v2, v3, v4, v5, s79 => (((6 : Int32) ≤ v5 → K s79) ∧ (¬ (6 : Int32) ≤ v5 → (vp_in v5 6 ∧ (((0 : Int32) ≤ (s79 51 (Int32.toNatClampNeg v5)) → (vp_in v5 6 ∧ w_M_readCell v1 (s79 51 (Int32.toNatClampNeg v5)) s79 (fun u1 => w_M_comesDown_L79 K n v1 v2 v3 v4 (v5 + (1 : Int32)) u1))) ∧ (¬ (0 : Int32) ≤ (s79 51 (Int32.toNatClampNeg v5)) → (vp_in v5 6 ∧ w_M_readCell v1 ((-1 : Int32) - (s79 51 (Int32.toNatClampNeg v5))) s79 (fun u2 => w_M_comesDown_L79 K n v1 v2 v3 v4 (v5 + (1 : Int32)) u2)))))))
def w_M_comesDown (a1 : Int32) (a2 : Int32) (a3 : Int32) (σ : Jst) (K : Jst → Prop) : Prop := (vp_in a1 2 ∧ ((¬ (σ 46 (Int32.toNatClampNeg a1)) = (0 : Int32) → (vp_in a1 2 ∧ (vp_in a1 2 ∧ ((¬ a3 = (6 : Int32) → (vp_in a1 2 ∧ (∃ n, w_M_comesDown_L79 K n a1 a2 a3 (0 : Int32) a3 (jup (jup (jup σ 45 (Int32.toNatClampNeg a1) ((a2 + (1 : Int32)) - (a2 + (1 : Int32)) / (16 : Int32) * (16 : Int32))) 47 (Int32.toNatClampNeg a1) (0 : Int32)) 46 (Int32.toNatClampNeg a1) (vp_nar .boolean (0 : Int32)))))) ∧ (a3 = (6 : Int32) → (vp_in a1 2 ∧ (∃ n, w_M_comesDown_L79 K n a1 a2 a3 (0 : Int32) a3 (jup (jup (jup σ 45 (Int32.toNatClampNeg a1) ((a2 + (1 : Int32)) - (a2 + (1 : Int32)) / (16 : Int32) * (16 : Int32))) 47 (Int32.toNatClampNeg a1) (0 : Int32)) 46 (Int32.toNatClampNeg a1) (vp_nar .boolean (1 : Int32)))))))))) ∧ ((σ 46 (Int32.toNatClampNeg a1)) = (0 : Int32) → (vp_in a1 2 ∧ ((¬ a2 = (σ 45 (Int32.toNatClampNeg a1)) → (vp_in a1 2 ∧ (vp_in a1 2 ∧ ((¬ a3 = (6 : Int32) → (vp_in a1 2 ∧ (∃ n, w_M_comesDown_L79 K n a1 a2 a3 (0 : Int32) a3 (jup (jup (jup σ 45 (Int32.toNatClampNeg a1) ((a2 + (1 : Int32)) - (a2 + (1 : Int32)) / (16 : Int32) * (16 : Int32))) 47 (Int32.toNatClampNeg a1) (0 : Int32)) 46 (Int32.toNatClampNeg a1) (vp_nar .boolean (0 : Int32)))))) ∧ (a3 = (6 : Int32) → (vp_in a1 2 ∧ (∃ n, w_M_comesDown_L79 K n a1 a2 a3 (0 : Int32) a3 (jup (jup (jup σ 45 (Int32.toNatClampNeg a1) ((a2 + (1 : Int32)) - (a2 + (1 : Int32)) / (16 : Int32) * (16 : Int32))) 47 (Int32.toNatClampNeg a1) (0 : Int32)) 46 (Int32.toNatClampNeg a1) (vp_nar .boolean (1 : Int32)))))))))) ∧ (a2 = (σ 45 (Int32.toNatClampNeg a1)) → (vp_in a1 2 ∧ (∃ n, w_M_comesDown_L79 K n a1 a2 a3 (1 : Int32) (0 : Int32) (jup σ 45 (Int32.toNatClampNeg a1) ((a2 + (1 : Int32)) - (a2 + (1 : Int32)) / (16 : Int32) * (16 : Int32)))))))))))
abbrev rm_M_comesDown : Room := { frames := 1, cells := 0, slots := 0, locals := 22 }
set_option maxRecDepth 100000 in
set_option maxHeartbeats 4000000 in
theorem c_M_comesDown (l : Launch) (D : va_G) (ca ad : Nat → Nat) (sz : Nat) (hD : Jd ca ad sz) {a1 a2 a3 : Int32} {σ : Jst} {K : Jst → Prop} (hw : w_M_comesDown a1 a2 a3 σ K) : Met l y_M_comesDown (wG y_M_comesDown b_M_comesDown 6 none) rm_M_comesDown (va_Pc [.ref (ad 33), .int a1, .int a2, .int a3] (Jw D vwCl (tysT ca) (wlT ad ca) (NwT sz) σ)) (va_Qv K (Jq D vwCl (wlT ad ca)) (Aw sz)) 0 0 (Aw sz) := by
  refine j_met (cc := b_M_comesDown) (own := R_M) (by decide +kernel) rfl (Nat.le_of_ble_eq_true rfl) rfl hD (nwT_k sz) ?_
  intro p e s m args below meth c X hlk hr
  have hX : J p l e rm_M_comesDown s m args below meth c D vwCl (wlT ad ca) (Aw sz) 6 0 0 (MQ below (va_Qv K (Jq D vwCl (wlT ad ca)) (Aw sz)) args s 0 0 (Aw sz)) 0 [(0, .ref (ad 33)), (1, .int a1), (2, .int a2), (3, .int a3)] [] σ := by
    unfold w_M_comesDown at hw
    refine j_aload_n X d_M_comesDown_0 rfl 0 rfl ?_
    refine g_33_33 X f_M_57 d_M_comesDown_1 ?_
    refine j_iload_n X d_M_comesDown_4 rfl 1 rfl ?_
    refine ld_46 X hw.1 (v := (σ 46 (Int32.toNatClampNeg a1))) rfl d_M_comesDown_5 ?_
    have hw := hw.2
    refine j_if_ne X d_M_comesDown_6 (tgt := 23) (by decide) (fun h => ?_) (fun h => ?_)
    · have hw := hw.1 h
      refine j_iconst X (v := (0 : Int32)) d_M_comesDown_23 (by decide) ?_
      refine j_istore X d_M_comesDown_24 (by decide) rfl ?_
      refine j_aload_n X d_M_comesDown_26 rfl 1 rfl ?_
      refine g_33_32 X f_M_54 d_M_comesDown_27 ?_
      refine j_iload_n X d_M_comesDown_30 rfl 2 rfl ?_
      refine j_iload_n X d_M_comesDown_31 rfl 3 rfl ?_
      refine j_iconst X (v := (1 : Int32)) d_M_comesDown_32 (by decide) ?_
      refine j_iadd X d_M_comesDown_33 ?_
      refine j_bipush X (v := (16 : Int32)) d_M_comesDown_34 (by decide) ?_
      refine j_irem X d_M_comesDown_36 (by decide) ?_
      refine sr_45 X hw.1 d_M_comesDown_37 ?_
      have hw := hw.2
      refine j_iload X d_M_comesDown_38 0 rfl ?_
      refine j_if_ne X d_M_comesDown_40 (tgt := 67) (by decide) (fun h => absurd h (by decide)) (fun _ => ?_)
      refine j_aload_n X d_M_comesDown_43 rfl 1 rfl ?_
      refine g_33_34 X f_M_60 d_M_comesDown_44 ?_
      refine j_iload_n X d_M_comesDown_47 rfl 2 rfl ?_
      refine j_iconst X (v := (0 : Int32)) d_M_comesDown_48 (by decide) ?_
      refine sr_47 X hw.1 d_M_comesDown_49 ?_
      have hw := hw.2
      refine j_aload_n X d_M_comesDown_50 rfl 1 rfl ?_
      refine g_33_33 X f_M_57 d_M_comesDown_51 ?_
      refine j_iload_n X d_M_comesDown_54 rfl 2 rfl ?_
      refine j_iload_n X d_M_comesDown_55 rfl 4 rfl ?_
      refine j_bipush X (v := (6 : Int32)) d_M_comesDown_56 (by decide) ?_
      refine j_icmp_ne X d_M_comesDown_58 (tgt := 65) (by decide) (fun h => ?_) (fun h => ?_)
      · have hw := hw.1 h
        refine j_iconst X (v := (0 : Int32)) d_M_comesDown_65 (by decide) ?_
        refine sr_46 X hw.1 d_M_comesDown_66 ?_
        have hw := hw.2
        refine j_iload X d_M_comesDown_67 0 rfl ?_
        refine j_if_eq X d_M_comesDown_69 (tgt := 76) (by decide) (fun _ => ?_) (fun h => absurd h (by decide))
        refine j_iload_n X d_M_comesDown_76 rfl 4 rfl ?_
        refine j_istore X d_M_comesDown_77 (by decide) rfl ?_
        have lp79 : ∀ (n : Nat) (v1 v2 v3 v4 v5 : Int32) (s79 : Jst), w_M_comesDown_L79 K n v1 v2 v3 v4 v5 s79 → J p l e rm_M_comesDown s m args below meth c D vwCl (wlT ad ca) (Aw sz) 6 0 0 (MQ below (va_Qv K (Jq D vwCl (wlT ad ca)) (Aw sz)) args s 0 0 (Aw sz)) 79 [(0, .ref (ad 33)), (1, .int v1), (2, .int v2), (3, .int v3), (4, .int v4), (5, .int v5)] [] s79 := by
          intro n
          induction n with
          | zero => intro v1 v2 v3 v4 v5 s79 hw; exact (show False from hw).elim
          | succ n ih79 =>
            intro v1 v2 v3 v4 v5 s79 hw
            rw [w_M_comesDown_L79] at hw
            refine j_iload X d_M_comesDown_79 5 rfl ?_
            refine j_bipush X (v := (6 : Int32)) d_M_comesDown_81 (by decide) ?_
            refine j_icmp_ge X d_M_comesDown_83 (tgt := 126) (by decide) (fun h => ?_) (fun h => ?_)
            · have hw := hw.1 h
              exact j_vret X hlk hr d_M_comesDown_126 hw
            · have hw := hw.2 h
              refine j_aload_n X d_M_comesDown_86 rfl 0 rfl ?_
              refine j_iload_n X d_M_comesDown_87 rfl 1 rfl ?_
              refine j_aload_n X d_M_comesDown_88 rfl 0 rfl ?_
              refine g_33_38 X f_M_72 d_M_comesDown_89 ?_
              refine j_iload X d_M_comesDown_92 5 rfl ?_
              refine ld_51 X hw.1 (v := (s79 51 (Int32.toNatClampNeg v5))) rfl d_M_comesDown_94 ?_
              have hw := hw.2
              refine j_if_ge X d_M_comesDown_95 (tgt := 110) (by decide) (fun h => ?_) (fun h => ?_)
              · have hw := hw.1 h
                refine j_aload_n X d_M_comesDown_110 rfl 0 rfl ?_
                refine g_33_38 X f_M_72 d_M_comesDown_111 ?_
                refine j_iload X d_M_comesDown_114 5 rfl ?_
                refine ld_51 X hw.1 (v := (s79 51 (Int32.toNatClampNeg v5))) rfl d_M_comesDown_116 ?_
                have hw := hw.2
                refine j_callVv (As := [.int v1, .int (s79 51 (Int32.toNatClampNeg v5))]) X (c_M_readCell l D ca ad sz hD hw) (gcV (n := 2) X rfl rfl rfl gc_M_readCell m_M_readCell l_M_176 (by decide +kernel) ⟨by decide, by decide⟩) (q0 := 33) rfl rfl (fun _ h => h) rfl rfl (Nat.le_of_ble_eq_true rfl) ⟨by decide, by decide⟩ d_M_comesDown_117 (fun u1 hw => ?_)
                refine j_iinc X (v := (1 : Int32)) d_M_comesDown_120 5 rfl (by decide) (by decide) rfl ?_
                refine j_goto X d_M_comesDown_123 (tgt := 79) (by decide) ?_
                refine j_locs [1, 2, 3, 4, 5, 0] rfl ?_
                exact ih79 _ _ _ _ _ _ hw
              · have hw := hw.2 h
                refine j_iconst X (v := (-1 : Int32)) d_M_comesDown_98 (by decide) ?_
                refine j_aload_n X d_M_comesDown_99 rfl 0 rfl ?_
                refine g_33_38 X f_M_72 d_M_comesDown_100 ?_
                refine j_iload X d_M_comesDown_103 5 rfl ?_
                refine ld_51 X hw.1 (v := (s79 51 (Int32.toNatClampNeg v5))) rfl d_M_comesDown_105 ?_
                have hw := hw.2
                refine j_isub X d_M_comesDown_106 ?_
                refine j_goto X d_M_comesDown_107 (tgt := 117) (by decide) ?_
                refine j_callVv (As := [.int v1, .int ((-1 : Int32) - (s79 51 (Int32.toNatClampNeg v5)))]) X (c_M_readCell l D ca ad sz hD hw) (gcV (n := 2) X rfl rfl rfl gc_M_readCell m_M_readCell l_M_176 (by decide +kernel) ⟨by decide, by decide⟩) (q0 := 33) rfl rfl (fun _ h => h) rfl rfl (Nat.le_of_ble_eq_true rfl) ⟨by decide, by decide⟩ d_M_comesDown_117 (fun u2 hw => ?_)
                refine j_iinc X (v := (1 : Int32)) d_M_comesDown_120 5 rfl (by decide) (by decide) rfl ?_
                refine j_goto X d_M_comesDown_123 (tgt := 79) (by decide) ?_
                refine j_locs [1, 2, 3, 4, 5, 0] rfl ?_
                exact ih79 _ _ _ _ _ _ hw
        obtain ⟨n, hw⟩ := hw
        refine j_locs [2, 3, 4, 5, 1, 0] rfl ?_
        exact lp79 n _ _ _ _ _ _ hw
      · have hw := hw.2 h
        refine j_iconst X (v := (1 : Int32)) d_M_comesDown_61 (by decide) ?_
        refine j_goto X d_M_comesDown_62 (tgt := 66) (by decide) ?_
        refine sr_46 X hw.1 d_M_comesDown_66 ?_
        have hw := hw.2
        refine j_iload X d_M_comesDown_67 0 rfl ?_
        refine j_if_eq X d_M_comesDown_69 (tgt := 76) (by decide) (fun _ => ?_) (fun h => absurd h (by decide))
        refine j_iload_n X d_M_comesDown_76 rfl 4 rfl ?_
        refine j_istore X d_M_comesDown_77 (by decide) rfl ?_
        have lp79 : ∀ (n : Nat) (v1 v2 v3 v4 v5 : Int32) (s79 : Jst), w_M_comesDown_L79 K n v1 v2 v3 v4 v5 s79 → J p l e rm_M_comesDown s m args below meth c D vwCl (wlT ad ca) (Aw sz) 6 0 0 (MQ below (va_Qv K (Jq D vwCl (wlT ad ca)) (Aw sz)) args s 0 0 (Aw sz)) 79 [(0, .ref (ad 33)), (1, .int v1), (2, .int v2), (3, .int v3), (4, .int v4), (5, .int v5)] [] s79 := by
          intro n
          induction n with
          | zero => intro v1 v2 v3 v4 v5 s79 hw; exact (show False from hw).elim
          | succ n ih79 =>
            intro v1 v2 v3 v4 v5 s79 hw
            rw [w_M_comesDown_L79] at hw
            refine j_iload X d_M_comesDown_79 5 rfl ?_
            refine j_bipush X (v := (6 : Int32)) d_M_comesDown_81 (by decide) ?_
            refine j_icmp_ge X d_M_comesDown_83 (tgt := 126) (by decide) (fun h => ?_) (fun h => ?_)
            · have hw := hw.1 h
              exact j_vret X hlk hr d_M_comesDown_126 hw
            · have hw := hw.2 h
              refine j_aload_n X d_M_comesDown_86 rfl 0 rfl ?_
              refine j_iload_n X d_M_comesDown_87 rfl 1 rfl ?_
              refine j_aload_n X d_M_comesDown_88 rfl 0 rfl ?_
              refine g_33_38 X f_M_72 d_M_comesDown_89 ?_
              refine j_iload X d_M_comesDown_92 5 rfl ?_
              refine ld_51 X hw.1 (v := (s79 51 (Int32.toNatClampNeg v5))) rfl d_M_comesDown_94 ?_
              have hw := hw.2
              refine j_if_ge X d_M_comesDown_95 (tgt := 110) (by decide) (fun h => ?_) (fun h => ?_)
              · have hw := hw.1 h
                refine j_aload_n X d_M_comesDown_110 rfl 0 rfl ?_
                refine g_33_38 X f_M_72 d_M_comesDown_111 ?_
                refine j_iload X d_M_comesDown_114 5 rfl ?_
                refine ld_51 X hw.1 (v := (s79 51 (Int32.toNatClampNeg v5))) rfl d_M_comesDown_116 ?_
                have hw := hw.2
                refine j_callVv (As := [.int v1, .int (s79 51 (Int32.toNatClampNeg v5))]) X (c_M_readCell l D ca ad sz hD hw) (gcV (n := 2) X rfl rfl rfl gc_M_readCell m_M_readCell l_M_176 (by decide +kernel) ⟨by decide, by decide⟩) (q0 := 33) rfl rfl (fun _ h => h) rfl rfl (Nat.le_of_ble_eq_true rfl) ⟨by decide, by decide⟩ d_M_comesDown_117 (fun u1 hw => ?_)
                refine j_iinc X (v := (1 : Int32)) d_M_comesDown_120 5 rfl (by decide) (by decide) rfl ?_
                refine j_goto X d_M_comesDown_123 (tgt := 79) (by decide) ?_
                refine j_locs [1, 2, 3, 4, 5, 0] rfl ?_
                exact ih79 _ _ _ _ _ _ hw
              · have hw := hw.2 h
                refine j_iconst X (v := (-1 : Int32)) d_M_comesDown_98 (by decide) ?_
                refine j_aload_n X d_M_comesDown_99 rfl 0 rfl ?_
                refine g_33_38 X f_M_72 d_M_comesDown_100 ?_
                refine j_iload X d_M_comesDown_103 5 rfl ?_
                refine ld_51 X hw.1 (v := (s79 51 (Int32.toNatClampNeg v5))) rfl d_M_comesDown_105 ?_
                have hw := hw.2
                refine j_isub X d_M_comesDown_106 ?_
                refine j_goto X d_M_comesDown_107 (tgt := 117) (by decide) ?_
                refine j_callVv (As := [.int v1, .int ((-1 : Int32) - (s79 51 (Int32.toNatClampNeg v5)))]) X (c_M_readCell l D ca ad sz hD hw) (gcV (n := 2) X rfl rfl rfl gc_M_readCell m_M_readCell l_M_176 (by decide +kernel) ⟨by decide, by decide⟩) (q0 := 33) rfl rfl (fun _ h => h) rfl rfl (Nat.le_of_ble_eq_true rfl) ⟨by decide, by decide⟩ d_M_comesDown_117 (fun u2 hw => ?_)
                refine j_iinc X (v := (1 : Int32)) d_M_comesDown_120 5 rfl (by decide) (by decide) rfl ?_
                refine j_goto X d_M_comesDown_123 (tgt := 79) (by decide) ?_
                refine j_locs [1, 2, 3, 4, 5, 0] rfl ?_
                exact ih79 _ _ _ _ _ _ hw
        obtain ⟨n, hw⟩ := hw
        refine j_locs [2, 3, 4, 5, 1, 0] rfl ?_
        exact lp79 n _ _ _ _ _ _ hw
    · have hw := hw.2 h
      refine j_iload_n X d_M_comesDown_9 rfl 2 rfl ?_
      refine j_aload_n X d_M_comesDown_10 rfl 0 rfl ?_
      refine g_33_32 X f_M_54 d_M_comesDown_11 ?_
      refine j_iload_n X d_M_comesDown_14 rfl 1 rfl ?_
      refine ld_45 X hw.1 (v := (σ 45 (Int32.toNatClampNeg a1))) rfl d_M_comesDown_15 ?_
      have hw := hw.2
      refine j_icmp_ne X d_M_comesDown_16 (tgt := 23) (by decide) (fun h => ?_) (fun h => ?_)
      · have hw := hw.1 h
        refine j_iconst X (v := (0 : Int32)) d_M_comesDown_23 (by decide) ?_
        refine j_istore X d_M_comesDown_24 (by decide) rfl ?_
        refine j_aload_n X d_M_comesDown_26 rfl 1 rfl ?_
        refine g_33_32 X f_M_54 d_M_comesDown_27 ?_
        refine j_iload_n X d_M_comesDown_30 rfl 2 rfl ?_
        refine j_iload_n X d_M_comesDown_31 rfl 3 rfl ?_
        refine j_iconst X (v := (1 : Int32)) d_M_comesDown_32 (by decide) ?_
        refine j_iadd X d_M_comesDown_33 ?_
        refine j_bipush X (v := (16 : Int32)) d_M_comesDown_34 (by decide) ?_
        refine j_irem X d_M_comesDown_36 (by decide) ?_
        refine sr_45 X hw.1 d_M_comesDown_37 ?_
        have hw := hw.2
        refine j_iload X d_M_comesDown_38 0 rfl ?_
        refine j_if_ne X d_M_comesDown_40 (tgt := 67) (by decide) (fun h => absurd h (by decide)) (fun _ => ?_)
        refine j_aload_n X d_M_comesDown_43 rfl 1 rfl ?_
        refine g_33_34 X f_M_60 d_M_comesDown_44 ?_
        refine j_iload_n X d_M_comesDown_47 rfl 2 rfl ?_
        refine j_iconst X (v := (0 : Int32)) d_M_comesDown_48 (by decide) ?_
        refine sr_47 X hw.1 d_M_comesDown_49 ?_
        have hw := hw.2
        refine j_aload_n X d_M_comesDown_50 rfl 1 rfl ?_
        refine g_33_33 X f_M_57 d_M_comesDown_51 ?_
        refine j_iload_n X d_M_comesDown_54 rfl 2 rfl ?_
        refine j_iload_n X d_M_comesDown_55 rfl 4 rfl ?_
        refine j_bipush X (v := (6 : Int32)) d_M_comesDown_56 (by decide) ?_
        refine j_icmp_ne X d_M_comesDown_58 (tgt := 65) (by decide) (fun h => ?_) (fun h => ?_)
        · have hw := hw.1 h
          refine j_iconst X (v := (0 : Int32)) d_M_comesDown_65 (by decide) ?_
          refine sr_46 X hw.1 d_M_comesDown_66 ?_
          have hw := hw.2
          refine j_iload X d_M_comesDown_67 0 rfl ?_
          refine j_if_eq X d_M_comesDown_69 (tgt := 76) (by decide) (fun _ => ?_) (fun h => absurd h (by decide))
          refine j_iload_n X d_M_comesDown_76 rfl 4 rfl ?_
          refine j_istore X d_M_comesDown_77 (by decide) rfl ?_
          have lp79 : ∀ (n : Nat) (v1 v2 v3 v4 v5 : Int32) (s79 : Jst), w_M_comesDown_L79 K n v1 v2 v3 v4 v5 s79 → J p l e rm_M_comesDown s m args below meth c D vwCl (wlT ad ca) (Aw sz) 6 0 0 (MQ below (va_Qv K (Jq D vwCl (wlT ad ca)) (Aw sz)) args s 0 0 (Aw sz)) 79 [(0, .ref (ad 33)), (1, .int v1), (2, .int v2), (3, .int v3), (4, .int v4), (5, .int v5)] [] s79 := by
            intro n
            induction n with
            | zero => intro v1 v2 v3 v4 v5 s79 hw; exact (show False from hw).elim
            | succ n ih79 =>
              intro v1 v2 v3 v4 v5 s79 hw
              rw [w_M_comesDown_L79] at hw
              refine j_iload X d_M_comesDown_79 5 rfl ?_
              refine j_bipush X (v := (6 : Int32)) d_M_comesDown_81 (by decide) ?_
              refine j_icmp_ge X d_M_comesDown_83 (tgt := 126) (by decide) (fun h => ?_) (fun h => ?_)
              · have hw := hw.1 h
                exact j_vret X hlk hr d_M_comesDown_126 hw
              · have hw := hw.2 h
                refine j_aload_n X d_M_comesDown_86 rfl 0 rfl ?_
                refine j_iload_n X d_M_comesDown_87 rfl 1 rfl ?_
                refine j_aload_n X d_M_comesDown_88 rfl 0 rfl ?_
                refine g_33_38 X f_M_72 d_M_comesDown_89 ?_
                refine j_iload X d_M_comesDown_92 5 rfl ?_
                refine ld_51 X hw.1 (v := (s79 51 (Int32.toNatClampNeg v5))) rfl d_M_comesDown_94 ?_
                have hw := hw.2
                refine j_if_ge X d_M_comesDown_95 (tgt := 110) (by decide) (fun h => ?_) (fun h => ?_)
                · have hw := hw.1 h
                  refine j_aload_n X d_M_comesDown_110 rfl 0 rfl ?_
                  refine g_33_38 X f_M_72 d_M_comesDown_111 ?_
                  refine j_iload X d_M_comesDown_114 5 rfl ?_
                  refine ld_51 X hw.1 (v := (s79 51 (Int32.toNatClampNeg v5))) rfl d_M_comesDown_116 ?_
                  have hw := hw.2
                  refine j_callVv (As := [.int v1, .int (s79 51 (Int32.toNatClampNeg v5))]) X (c_M_readCell l D ca ad sz hD hw) (gcV (n := 2) X rfl rfl rfl gc_M_readCell m_M_readCell l_M_176 (by decide +kernel) ⟨by decide, by decide⟩) (q0 := 33) rfl rfl (fun _ h => h) rfl rfl (Nat.le_of_ble_eq_true rfl) ⟨by decide, by decide⟩ d_M_comesDown_117 (fun u1 hw => ?_)
                  refine j_iinc X (v := (1 : Int32)) d_M_comesDown_120 5 rfl (by decide) (by decide) rfl ?_
                  refine j_goto X d_M_comesDown_123 (tgt := 79) (by decide) ?_
                  refine j_locs [1, 2, 3, 4, 5, 0] rfl ?_
                  exact ih79 _ _ _ _ _ _ hw
                · have hw := hw.2 h
                  refine j_iconst X (v := (-1 : Int32)) d_M_comesDown_98 (by decide) ?_
                  refine j_aload_n X d_M_comesDown_99 rfl 0 rfl ?_
                  refine g_33_38 X f_M_72 d_M_comesDown_100 ?_
                  refine j_iload X d_M_comesDown_103 5 rfl ?_
                  refine ld_51 X hw.1 (v := (s79 51 (Int32.toNatClampNeg v5))) rfl d_M_comesDown_105 ?_
                  have hw := hw.2
                  refine j_isub X d_M_comesDown_106 ?_
                  refine j_goto X d_M_comesDown_107 (tgt := 117) (by decide) ?_
                  refine j_callVv (As := [.int v1, .int ((-1 : Int32) - (s79 51 (Int32.toNatClampNeg v5)))]) X (c_M_readCell l D ca ad sz hD hw) (gcV (n := 2) X rfl rfl rfl gc_M_readCell m_M_readCell l_M_176 (by decide +kernel) ⟨by decide, by decide⟩) (q0 := 33) rfl rfl (fun _ h => h) rfl rfl (Nat.le_of_ble_eq_true rfl) ⟨by decide, by decide⟩ d_M_comesDown_117 (fun u2 hw => ?_)
                  refine j_iinc X (v := (1 : Int32)) d_M_comesDown_120 5 rfl (by decide) (by decide) rfl ?_
                  refine j_goto X d_M_comesDown_123 (tgt := 79) (by decide) ?_
                  refine j_locs [1, 2, 3, 4, 5, 0] rfl ?_
                  exact ih79 _ _ _ _ _ _ hw
          obtain ⟨n, hw⟩ := hw
          refine j_locs [2, 3, 4, 5, 1, 0] rfl ?_
          exact lp79 n _ _ _ _ _ _ hw
        · have hw := hw.2 h
          refine j_iconst X (v := (1 : Int32)) d_M_comesDown_61 (by decide) ?_
          refine j_goto X d_M_comesDown_62 (tgt := 66) (by decide) ?_
          refine sr_46 X hw.1 d_M_comesDown_66 ?_
          have hw := hw.2
          refine j_iload X d_M_comesDown_67 0 rfl ?_
          refine j_if_eq X d_M_comesDown_69 (tgt := 76) (by decide) (fun _ => ?_) (fun h => absurd h (by decide))
          refine j_iload_n X d_M_comesDown_76 rfl 4 rfl ?_
          refine j_istore X d_M_comesDown_77 (by decide) rfl ?_
          have lp79 : ∀ (n : Nat) (v1 v2 v3 v4 v5 : Int32) (s79 : Jst), w_M_comesDown_L79 K n v1 v2 v3 v4 v5 s79 → J p l e rm_M_comesDown s m args below meth c D vwCl (wlT ad ca) (Aw sz) 6 0 0 (MQ below (va_Qv K (Jq D vwCl (wlT ad ca)) (Aw sz)) args s 0 0 (Aw sz)) 79 [(0, .ref (ad 33)), (1, .int v1), (2, .int v2), (3, .int v3), (4, .int v4), (5, .int v5)] [] s79 := by
            intro n
            induction n with
            | zero => intro v1 v2 v3 v4 v5 s79 hw; exact (show False from hw).elim
            | succ n ih79 =>
              intro v1 v2 v3 v4 v5 s79 hw
              rw [w_M_comesDown_L79] at hw
              refine j_iload X d_M_comesDown_79 5 rfl ?_
              refine j_bipush X (v := (6 : Int32)) d_M_comesDown_81 (by decide) ?_
              refine j_icmp_ge X d_M_comesDown_83 (tgt := 126) (by decide) (fun h => ?_) (fun h => ?_)
              · have hw := hw.1 h
                exact j_vret X hlk hr d_M_comesDown_126 hw
              · have hw := hw.2 h
                refine j_aload_n X d_M_comesDown_86 rfl 0 rfl ?_
                refine j_iload_n X d_M_comesDown_87 rfl 1 rfl ?_
                refine j_aload_n X d_M_comesDown_88 rfl 0 rfl ?_
                refine g_33_38 X f_M_72 d_M_comesDown_89 ?_
                refine j_iload X d_M_comesDown_92 5 rfl ?_
                refine ld_51 X hw.1 (v := (s79 51 (Int32.toNatClampNeg v5))) rfl d_M_comesDown_94 ?_
                have hw := hw.2
                refine j_if_ge X d_M_comesDown_95 (tgt := 110) (by decide) (fun h => ?_) (fun h => ?_)
                · have hw := hw.1 h
                  refine j_aload_n X d_M_comesDown_110 rfl 0 rfl ?_
                  refine g_33_38 X f_M_72 d_M_comesDown_111 ?_
                  refine j_iload X d_M_comesDown_114 5 rfl ?_
                  refine ld_51 X hw.1 (v := (s79 51 (Int32.toNatClampNeg v5))) rfl d_M_comesDown_116 ?_
                  have hw := hw.2
                  refine j_callVv (As := [.int v1, .int (s79 51 (Int32.toNatClampNeg v5))]) X (c_M_readCell l D ca ad sz hD hw) (gcV (n := 2) X rfl rfl rfl gc_M_readCell m_M_readCell l_M_176 (by decide +kernel) ⟨by decide, by decide⟩) (q0 := 33) rfl rfl (fun _ h => h) rfl rfl (Nat.le_of_ble_eq_true rfl) ⟨by decide, by decide⟩ d_M_comesDown_117 (fun u1 hw => ?_)
                  refine j_iinc X (v := (1 : Int32)) d_M_comesDown_120 5 rfl (by decide) (by decide) rfl ?_
                  refine j_goto X d_M_comesDown_123 (tgt := 79) (by decide) ?_
                  refine j_locs [1, 2, 3, 4, 5, 0] rfl ?_
                  exact ih79 _ _ _ _ _ _ hw
                · have hw := hw.2 h
                  refine j_iconst X (v := (-1 : Int32)) d_M_comesDown_98 (by decide) ?_
                  refine j_aload_n X d_M_comesDown_99 rfl 0 rfl ?_
                  refine g_33_38 X f_M_72 d_M_comesDown_100 ?_
                  refine j_iload X d_M_comesDown_103 5 rfl ?_
                  refine ld_51 X hw.1 (v := (s79 51 (Int32.toNatClampNeg v5))) rfl d_M_comesDown_105 ?_
                  have hw := hw.2
                  refine j_isub X d_M_comesDown_106 ?_
                  refine j_goto X d_M_comesDown_107 (tgt := 117) (by decide) ?_
                  refine j_callVv (As := [.int v1, .int ((-1 : Int32) - (s79 51 (Int32.toNatClampNeg v5)))]) X (c_M_readCell l D ca ad sz hD hw) (gcV (n := 2) X rfl rfl rfl gc_M_readCell m_M_readCell l_M_176 (by decide +kernel) ⟨by decide, by decide⟩) (q0 := 33) rfl rfl (fun _ h => h) rfl rfl (Nat.le_of_ble_eq_true rfl) ⟨by decide, by decide⟩ d_M_comesDown_117 (fun u2 hw => ?_)
                  refine j_iinc X (v := (1 : Int32)) d_M_comesDown_120 5 rfl (by decide) (by decide) rfl ?_
                  refine j_goto X d_M_comesDown_123 (tgt := 79) (by decide) ?_
                  refine j_locs [1, 2, 3, 4, 5, 0] rfl ?_
                  exact ih79 _ _ _ _ _ _ hw
          obtain ⟨n, hw⟩ := hw
          refine j_locs [2, 3, 4, 5, 1, 0] rfl ?_
          exact lp79 n _ _ _ _ _ _ hw
      · have hw := hw.2 h
        refine j_iconst X (v := (1 : Int32)) d_M_comesDown_19 (by decide) ?_
        refine j_goto X d_M_comesDown_20 (tgt := 24) (by decide) ?_
        refine j_istore X d_M_comesDown_24 (by decide) rfl ?_
        refine j_aload_n X d_M_comesDown_26 rfl 1 rfl ?_
        refine g_33_32 X f_M_54 d_M_comesDown_27 ?_
        refine j_iload_n X d_M_comesDown_30 rfl 2 rfl ?_
        refine j_iload_n X d_M_comesDown_31 rfl 3 rfl ?_
        refine j_iconst X (v := (1 : Int32)) d_M_comesDown_32 (by decide) ?_
        refine j_iadd X d_M_comesDown_33 ?_
        refine j_bipush X (v := (16 : Int32)) d_M_comesDown_34 (by decide) ?_
        refine j_irem X d_M_comesDown_36 (by decide) ?_
        refine sr_45 X hw.1 d_M_comesDown_37 ?_
        have hw := hw.2
        refine j_iload X d_M_comesDown_38 0 rfl ?_
        refine j_if_ne X d_M_comesDown_40 (tgt := 67) (by decide) (fun _ => ?_) (fun h => absurd h (by decide))
        refine j_iload X d_M_comesDown_67 0 rfl ?_
        refine j_if_eq X d_M_comesDown_69 (tgt := 76) (by decide) (fun h => absurd h (by decide)) (fun _ => ?_)
        refine j_iconst X (v := (0 : Int32)) d_M_comesDown_72 (by decide) ?_
        refine j_goto X d_M_comesDown_73 (tgt := 77) (by decide) ?_
        refine j_istore X d_M_comesDown_77 (by decide) rfl ?_
        have lp79 : ∀ (n : Nat) (v1 v2 v3 v4 v5 : Int32) (s79 : Jst), w_M_comesDown_L79 K n v1 v2 v3 v4 v5 s79 → J p l e rm_M_comesDown s m args below meth c D vwCl (wlT ad ca) (Aw sz) 6 0 0 (MQ below (va_Qv K (Jq D vwCl (wlT ad ca)) (Aw sz)) args s 0 0 (Aw sz)) 79 [(0, .ref (ad 33)), (1, .int v1), (2, .int v2), (3, .int v3), (4, .int v4), (5, .int v5)] [] s79 := by
          intro n
          induction n with
          | zero => intro v1 v2 v3 v4 v5 s79 hw; exact (show False from hw).elim
          | succ n ih79 =>
            intro v1 v2 v3 v4 v5 s79 hw
            rw [w_M_comesDown_L79] at hw
            refine j_iload X d_M_comesDown_79 5 rfl ?_
            refine j_bipush X (v := (6 : Int32)) d_M_comesDown_81 (by decide) ?_
            refine j_icmp_ge X d_M_comesDown_83 (tgt := 126) (by decide) (fun h => ?_) (fun h => ?_)
            · have hw := hw.1 h
              exact j_vret X hlk hr d_M_comesDown_126 hw
            · have hw := hw.2 h
              refine j_aload_n X d_M_comesDown_86 rfl 0 rfl ?_
              refine j_iload_n X d_M_comesDown_87 rfl 1 rfl ?_
              refine j_aload_n X d_M_comesDown_88 rfl 0 rfl ?_
              refine g_33_38 X f_M_72 d_M_comesDown_89 ?_
              refine j_iload X d_M_comesDown_92 5 rfl ?_
              refine ld_51 X hw.1 (v := (s79 51 (Int32.toNatClampNeg v5))) rfl d_M_comesDown_94 ?_
              have hw := hw.2
              refine j_if_ge X d_M_comesDown_95 (tgt := 110) (by decide) (fun h => ?_) (fun h => ?_)
              · have hw := hw.1 h
                refine j_aload_n X d_M_comesDown_110 rfl 0 rfl ?_
                refine g_33_38 X f_M_72 d_M_comesDown_111 ?_
                refine j_iload X d_M_comesDown_114 5 rfl ?_
                refine ld_51 X hw.1 (v := (s79 51 (Int32.toNatClampNeg v5))) rfl d_M_comesDown_116 ?_
                have hw := hw.2
                refine j_callVv (As := [.int v1, .int (s79 51 (Int32.toNatClampNeg v5))]) X (c_M_readCell l D ca ad sz hD hw) (gcV (n := 2) X rfl rfl rfl gc_M_readCell m_M_readCell l_M_176 (by decide +kernel) ⟨by decide, by decide⟩) (q0 := 33) rfl rfl (fun _ h => h) rfl rfl (Nat.le_of_ble_eq_true rfl) ⟨by decide, by decide⟩ d_M_comesDown_117 (fun u1 hw => ?_)
                refine j_iinc X (v := (1 : Int32)) d_M_comesDown_120 5 rfl (by decide) (by decide) rfl ?_
                refine j_goto X d_M_comesDown_123 (tgt := 79) (by decide) ?_
                refine j_locs [1, 2, 3, 4, 5, 0] rfl ?_
                exact ih79 _ _ _ _ _ _ hw
              · have hw := hw.2 h
                refine j_iconst X (v := (-1 : Int32)) d_M_comesDown_98 (by decide) ?_
                refine j_aload_n X d_M_comesDown_99 rfl 0 rfl ?_
                refine g_33_38 X f_M_72 d_M_comesDown_100 ?_
                refine j_iload X d_M_comesDown_103 5 rfl ?_
                refine ld_51 X hw.1 (v := (s79 51 (Int32.toNatClampNeg v5))) rfl d_M_comesDown_105 ?_
                have hw := hw.2
                refine j_isub X d_M_comesDown_106 ?_
                refine j_goto X d_M_comesDown_107 (tgt := 117) (by decide) ?_
                refine j_callVv (As := [.int v1, .int ((-1 : Int32) - (s79 51 (Int32.toNatClampNeg v5)))]) X (c_M_readCell l D ca ad sz hD hw) (gcV (n := 2) X rfl rfl rfl gc_M_readCell m_M_readCell l_M_176 (by decide +kernel) ⟨by decide, by decide⟩) (q0 := 33) rfl rfl (fun _ h => h) rfl rfl (Nat.le_of_ble_eq_true rfl) ⟨by decide, by decide⟩ d_M_comesDown_117 (fun u2 hw => ?_)
                refine j_iinc X (v := (1 : Int32)) d_M_comesDown_120 5 rfl (by decide) (by decide) rfl ?_
                refine j_goto X d_M_comesDown_123 (tgt := 79) (by decide) ?_
                refine j_locs [1, 2, 3, 4, 5, 0] rfl ?_
                exact ih79 _ _ _ _ _ _ hw
        obtain ⟨n, hw⟩ := hw
        refine j_locs [2, 3, 4, 5, 1, 0] rfl ?_
        exact lp79 n _ _ _ _ _ _ hw
  exact hX
def w_M_frame_L89 (K : Int32 → Jst → Prop) : Nat → Int32 → Int32 → Int32 → Int32 → Jst → Prop
  | 0, _, _, _, _, _ => False
  | n + 1, v1, v2, v3, v4, s89 => ((v4 < (0 : Int32) → (vp_in v1 2 ∧ (vp_in v1 2 ∧ (vp_in v1 2 ∧ (vp_in v1 2 ∧ (vp_in v1 2 ∧ (vp_in v1 2 ∧ ((¬ v2 = (0 : Int32) → K v3 (jup (jup (jup s89 41 (Int32.toNatClampNeg v1) (((s89 41 (Int32.toNatClampNeg v1)) + (6 : Int32)) - ((s89 41 (Int32.toNatClampNeg v1)) + (6 : Int32)) / (64 : Int32) * (64 : Int32))) 42 (Int32.toNatClampNeg v1) ((s89 42 (Int32.toNatClampNeg v1)) - (6 : Int32))) 44 (Int32.toNatClampNeg v1) (((s89 44 (Int32.toNatClampNeg v1)) + (1 : Int32)) - ((s89 44 (Int32.toNatClampNeg v1)) + (1 : Int32)) / (16 : Int32) * (16 : Int32)))) ∧ (v2 = (0 : Int32) → w_M_comesDown v1 (s89 44 (Int32.toNatClampNeg v1)) v3 (jup (jup (jup s89 41 (Int32.toNatClampNeg v1) (((s89 41 (Int32.toNatClampNeg v1)) + (6 : Int32)) - ((s89 41 (Int32.toNatClampNeg v1)) + (6 : Int32)) / (64 : Int32) * (64 : Int32))) 42 (Int32.toNatClampNeg v1) ((s89 42 (Int32.toNatClampNeg v1)) - (6 : Int32))) 44 (Int32.toNatClampNeg v1) (((s89 44 (Int32.toNatClampNeg v1)) + (1 : Int32)) - ((s89 44 (Int32.toNatClampNeg v1)) + (1 : Int32)) / (16 : Int32) * (16 : Int32))) (fun u1 => K v3 u1)))))))))) ∧ (¬ v4 < (0 : Int32) → (vp_in v1 2 ∧ (vp_in (((64 : Int32) * v1) + (((s89 41 (Int32.toNatClampNeg v1)) + v4) - ((s89 41 (Int32.toNatClampNeg v1)) + v4) / (64 : Int32) * (64 : Int32))) 128 ∧ (vp_in v4 6 ∧ (vp_in v4 6 ∧ (((0 : Int32) ≤ ((upd (s89 51) (Int32.toNatClampNeg v4) (s89 43 (Int32.toNatClampNeg (((64 : Int32) * v1) + (((s89 41 (Int32.toNatClampNeg v1)) + v4) - ((s89 41 (Int32.toNatClampNeg v1)) + v4) / (64 : Int32) * (64 : Int32)))))) (Int32.toNatClampNeg v4)) → w_M_frame_L89 K n v1 v2 v3 (v4 + (-1 : Int32)) (jup s89 51 (Int32.toNatClampNeg v4) (s89 43 (Int32.toNatClampNeg (((64 : Int32) * v1) + (((s89 41 (Int32.toNatClampNeg v1)) + v4) - ((s89 41 (Int32.toNatClampNeg v1)) + v4) / (64 : Int32) * (64 : Int32))))))) ∧ (¬ (0 : Int32) ≤ ((upd (s89 51) (Int32.toNatClampNeg v4) (s89 43 (Int32.toNatClampNeg (((64 : Int32) * v1) + (((s89 41 (Int32.toNatClampNeg v1)) + v4) - ((s89 41 (Int32.toNatClampNeg v1)) + v4) / (64 : Int32) * (64 : Int32)))))) (Int32.toNatClampNeg v4)) → w_M_frame_L89 K n v1 v2 v4 (v4 + (-1 : Int32)) (jup s89 51 (Int32.toNatClampNeg v4) (s89 43 (Int32.toNatClampNeg (((64 : Int32) * v1) + (((s89 41 (Int32.toNatClampNeg v1)) + v4) - ((s89 41 (Int32.toNatClampNeg v1)) + v4) / (64 : Int32) * (64 : Int32))))))))))))))
def w_M_frame_L65 (K : Int32 → Jst → Prop) : Nat → Int32 → Int32 → Int32 → Int32 → Jst → Prop
  | 0, _, _, _, _, _ => False
  | n + 1, v1, v2, v3, v4, s65 => ((v3 ≤ v4 → (∃ n, w_M_frame_L89 K n v1 v2 (6 : Int32) (5 : Int32) s65)) ∧ (¬ v3 ≤ v4 → w_M_puts v1 (0 : Int32) s65 (fun u1 => w_M_frame_L65 K n v1 v2 v3 (v4 + (1 : Int32)) u1)))
def w_M_frame (a1 : Int32) (a2 : Int32) (σ : Jst) (K : Int32 → Jst → Prop) : Prop := w_M_outside a1 (0 : Int32) (1 : Int32) σ (fun r2 u1 => w_M_fails r2 (0 : Int32) u1 (fun r4 u3 => ((r4 = (0 : Int32) → (vp_in a1 2 ∧ (((6 : Int32) ≤ (u3 42 (Int32.toNatClampNeg a1)) → (∃ n, w_M_frame_L89 K n a1 a2 (6 : Int32) (5 : Int32) u3)) ∧ (¬ (6 : Int32) ≤ (u3 42 (Int32.toNatClampNeg a1)) → (vp_in a1 2 ∧ (((5 : Int32) ≤ (u3 42 (Int32.toNatClampNeg a1)) → w_M_puts a1 (-1 : Int32) u3 (fun u5 => w_M_puts a1 (0 : Int32) u5 (fun u6 => (∃ n, w_M_frame_L65 K n a1 a2 (0 : Int32) (0 : Int32) u6)))) ∧ (¬ (5 : Int32) ≤ (u3 42 (Int32.toNatClampNeg a1)) → (vp_in a1 2 ∧ w_M_puts a1 (-1 : Int32) u3 (fun u7 => w_M_puts a1 ((4 : Int32) - (u3 42 (Int32.toNatClampNeg a1))) u7 (fun u8 => (∃ n, w_M_frame_L65 K n a1 a2 ((4 : Int32) - (u3 42 (Int32.toNatClampNeg a1))) (0 : Int32) u8))))))))))) ∧ (¬ r4 = (0 : Int32) → K (0 : Int32) u3))))
abbrev rm_M_frame : Room := { frames := 2, cells := 0, slots := 0, locals := 47 }
set_option maxRecDepth 100000 in
set_option maxHeartbeats 4000000 in
theorem c_M_frame (l : Launch) (D : va_G) (ca ad : Nat → Nat) (sz : Nat) (hD : Jd ca ad sz) {a1 a2 : Int32} {σ : Jst} {K : Int32 → Jst → Prop} (hw : w_M_frame a1 a2 σ K) : Met l y_M_frame (wG y_M_frame b_M_frame 5 (some .int)) rm_M_frame (va_Pc [.ref (ad 33), .int a1, .int a2] (Jw D vwCl (tysT ca) (wlT ad ca) (NwT sz) σ)) (va_Qi K (Jq D vwCl (wlT ad ca)) (Aw sz)) 0 0 (Aw sz) := by
  refine j_met (cc := b_M_frame) (own := R_M) (by decide +kernel) rfl (Nat.le_of_ble_eq_true rfl) rfl hD (nwT_k sz) ?_
  intro p e s m args below meth c X hlk hr
  have hX : J p l e rm_M_frame s m args below meth c D vwCl (wlT ad ca) (Aw sz) 5 0 0 (MQ below (va_Qi K (Jq D vwCl (wlT ad ca)) (Aw sz)) args s 0 0 (Aw sz)) 0 [(0, .ref (ad 33)), (1, .int a1), (2, .int a2)] [] σ := by
    unfold w_M_frame at hw
    refine j_aload_n X d_M_frame_0 rfl 0 rfl ?_
    refine j_iload_n X d_M_frame_1 rfl 1 rfl ?_
    refine j_iconst X (v := (0 : Int32)) d_M_frame_2 (by decide) ?_
    refine j_iconst X (v := (1 : Int32)) d_M_frame_3 (by decide) ?_
    refine j_callSi (As := [.int a1, .int (0 : Int32), .int (1 : Int32)]) X (c_M_outside l D ca ad sz hD hw) (gcS (n := 3) X rfl rfl rfl gc_M_outside m_M_outside l_M_84 (by decide +kernel) ⟨by decide, by decide⟩) (fun _ h => h) rfl rfl (Nat.le_of_ble_eq_true rfl) ⟨by decide, by decide⟩ d_M_frame_4 (fun r2 u1 hw => ?_)
    refine j_iconst X (v := (0 : Int32)) d_M_frame_7 (by decide) ?_
    refine j_callVi (As := [.int r2, .int (0 : Int32)]) X (c_M_fails l D ca ad sz hD hw) (gcV (n := 2) X rfl rfl rfl gc_M_fails m_M_fails l_M_88 (by decide +kernel) ⟨by decide, by decide⟩) (q0 := 33) rfl rfl (fun _ h => h) rfl rfl (Nat.le_of_ble_eq_true rfl) ⟨by decide, by decide⟩ d_M_frame_8 (fun r4 u3 hw => ?_)
    refine j_if_eq X d_M_frame_11 (tgt := 16) (by decide) (fun h => ?_) (fun h => ?_)
    · have hw := hw.1 h
      refine j_aload_n X d_M_frame_16 rfl 0 rfl ?_
      refine g_33_29 X f_M_45 d_M_frame_17 ?_
      refine j_iload_n X d_M_frame_20 rfl 1 rfl ?_
      refine ld_42 X hw.1 (v := (u3 42 (Int32.toNatClampNeg a1))) rfl d_M_frame_21 ?_
      have hw := hw.2
      refine j_bipush X (v := (6 : Int32)) d_M_frame_22 (by decide) ?_
      refine j_icmp_ge X d_M_frame_24 (tgt := 83) (by decide) (fun h => ?_) (fun h => ?_)
      · have hw := hw.1 h
        refine j_bipush X (v := (6 : Int32)) d_M_frame_83 (by decide) ?_
        refine j_istore_n X d_M_frame_85 rfl (by decide) rfl ?_
        refine j_iconst X (v := (5 : Int32)) d_M_frame_86 (by decide) ?_
        refine j_istore X d_M_frame_87 (by decide) rfl ?_
        have lp89 : ∀ (n : Nat) (v1 v2 v3 v4 : Int32) (s89 : Jst), w_M_frame_L89 K n v1 v2 v3 v4 s89 → J p l e rm_M_frame s m args below meth c D vwCl (wlT ad ca) (Aw sz) 5 0 0 (MQ below (va_Qi K (Jq D vwCl (wlT ad ca)) (Aw sz)) args s 0 0 (Aw sz)) 89 [(0, .ref (ad 33)), (1, .int v1), (2, .int v2), (3, .int v3), (4, .int v4)] [] s89 := by
          intro n
          induction n with
          | zero => intro v1 v2 v3 v4 s89 hw; exact (show False from hw).elim
          | succ n ih89 =>
            intro v1 v2 v3 v4 s89 hw
            rw [w_M_frame_L89] at hw
            refine j_iload X d_M_frame_89 4 rfl ?_
            refine j_if_lt X d_M_frame_91 (tgt := 146) (by decide) (fun h => ?_) (fun h => ?_)
            · have hw := hw.1 h
              refine j_aload_n X d_M_frame_146 rfl 0 rfl ?_
              refine g_33_28 X f_M_42 d_M_frame_147 ?_
              refine j_iload_n X d_M_frame_150 rfl 1 rfl ?_
              refine j_aload_n X d_M_frame_151 rfl 0 rfl ?_
              refine g_33_28 X f_M_42 d_M_frame_152 ?_
              refine j_iload_n X d_M_frame_155 rfl 1 rfl ?_
              refine ld_41 X hw.1 (v := (s89 41 (Int32.toNatClampNeg v1))) rfl d_M_frame_156 ?_
              have hw := hw.2
              refine j_bipush X (v := (6 : Int32)) d_M_frame_157 (by decide) ?_
              refine j_iadd X d_M_frame_159 ?_
              refine j_bipush X (v := (64 : Int32)) d_M_frame_160 (by decide) ?_
              refine j_irem X d_M_frame_162 (by decide) ?_
              refine sr_41 X hw.1 d_M_frame_163 ?_
              have hw := hw.2
              refine j_aload_n X d_M_frame_164 rfl 0 rfl ?_
              refine g_33_29 X f_M_45 d_M_frame_165 ?_
              refine j_iload_n X d_M_frame_168 rfl 1 rfl ?_
              refine j_dup2 X d_M_frame_169 rfl rfl ?_
              refine ld_42 X hw.1 (v := (s89 42 (Int32.toNatClampNeg v1))) rfl d_M_frame_170 ?_
              have hw := hw.2
              refine j_bipush X (v := (6 : Int32)) d_M_frame_171 (by decide) ?_
              refine j_isub X d_M_frame_173 ?_
              refine sr_42 X hw.1 d_M_frame_174 ?_
              have hw := hw.2
              refine j_aload_n X d_M_frame_175 rfl 0 rfl ?_
              refine g_33_31 X f_M_51 d_M_frame_176 ?_
              refine j_iload_n X d_M_frame_179 rfl 1 rfl ?_
              refine ld_44 X hw.1 (v := (s89 44 (Int32.toNatClampNeg v1))) rfl d_M_frame_180 ?_
              have hw := hw.2
              refine j_istore X d_M_frame_181 (by decide) rfl ?_
              refine j_aload_n X d_M_frame_183 rfl 1 rfl ?_
              refine g_33_31 X f_M_51 d_M_frame_184 ?_
              refine j_iload_n X d_M_frame_187 rfl 2 rfl ?_
              refine j_iload X d_M_frame_188 0 rfl ?_
              refine j_iconst X (v := (1 : Int32)) d_M_frame_190 (by decide) ?_
              refine j_iadd X d_M_frame_191 ?_
              refine j_bipush X (v := (16 : Int32)) d_M_frame_192 (by decide) ?_
              refine j_irem X d_M_frame_194 (by decide) ?_
              refine sr_44 X hw.1 d_M_frame_195 ?_
              have hw := hw.2
              refine j_iload_n X d_M_frame_196 rfl 3 rfl ?_
              refine j_if_ne X d_M_frame_197 (tgt := 208) (by decide) (fun h => ?_) (fun h => ?_)
              · have hw := hw.1 h
                refine j_iload_n X d_M_frame_208 rfl 4 rfl ?_
                exact j_iret X hlk hr d_M_frame_209 hw
              · have hw := hw.2 h
                refine j_aload_n X d_M_frame_200 rfl 1 rfl ?_
                refine j_iload_n X d_M_frame_201 rfl 2 rfl ?_
                refine j_iload X d_M_frame_202 0 rfl ?_
                refine j_iload_n X d_M_frame_204 rfl 4 rfl ?_
                refine j_callVv (As := [.int v1, .int (s89 44 (Int32.toNatClampNeg v1)), .int v3]) X (c_M_comesDown l D ca ad sz hD hw) (gcV (n := 3) X rfl rfl rfl gc_M_comesDown m_M_comesDown l_M_172 (by decide +kernel) ⟨by decide, by decide⟩) (q0 := 33) rfl rfl (fun _ h => h) rfl rfl (Nat.le_of_ble_eq_true rfl) ⟨by decide, by decide⟩ d_M_frame_205 (fun u1 hw => ?_)
                refine j_iload_n X d_M_frame_208 rfl 4 rfl ?_
                exact j_iret X hlk hr d_M_frame_209 hw
            · have hw := hw.2 h
              refine j_aload_n X d_M_frame_94 rfl 0 rfl ?_
              refine g_33_38 X f_M_72 d_M_frame_95 ?_
              refine j_iload X d_M_frame_98 4 rfl ?_
              refine j_aload_n X d_M_frame_100 rfl 0 rfl ?_
              refine g_33_30 X f_M_48 d_M_frame_101 ?_
              refine j_bipush X (v := (64 : Int32)) d_M_frame_104 (by decide) ?_
              refine j_iload_n X d_M_frame_106 rfl 1 rfl ?_
              refine j_imul X d_M_frame_107 ?_
              refine j_aload_n X d_M_frame_108 rfl 0 rfl ?_
              refine g_33_28 X f_M_42 d_M_frame_109 ?_
              refine j_iload_n X d_M_frame_112 rfl 1 rfl ?_
              refine ld_41 X hw.1 (v := (s89 41 (Int32.toNatClampNeg v1))) rfl d_M_frame_113 ?_
              have hw := hw.2
              refine j_iload X d_M_frame_114 4 rfl ?_
              refine j_iadd X d_M_frame_116 ?_
              refine j_bipush X (v := (64 : Int32)) d_M_frame_117 (by decide) ?_
              refine j_irem X d_M_frame_119 (by decide) ?_
              refine j_iadd X d_M_frame_120 ?_
              refine ld_43 X hw.1 (v := (s89 43 (Int32.toNatClampNeg (((64 : Int32) * v1) + (((s89 41 (Int32.toNatClampNeg v1)) + v4) - ((s89 41 (Int32.toNatClampNeg v1)) + v4) / (64 : Int32) * (64 : Int32)))))) rfl d_M_frame_121 ?_
              have hw := hw.2
              refine sr_51 X hw.1 d_M_frame_122 ?_
              have hw := hw.2
              refine j_aload_n X d_M_frame_123 rfl 0 rfl ?_
              refine g_33_38 X f_M_72 d_M_frame_124 ?_
              refine j_iload X d_M_frame_127 4 rfl ?_
              refine ld_51 X hw.1 (v := ((upd (s89 51) (Int32.toNatClampNeg v4) (s89 43 (Int32.toNatClampNeg (((64 : Int32) * v1) + (((s89 41 (Int32.toNatClampNeg v1)) + v4) - ((s89 41 (Int32.toNatClampNeg v1)) + v4) / (64 : Int32) * (64 : Int32)))))) (Int32.toNatClampNeg v4))) rfl d_M_frame_129 ?_
              have hw := hw.2
              refine j_if_ge X d_M_frame_130 (tgt := 138) (by decide) (fun h => ?_) (fun h => ?_)
              · have hw := hw.1 h
                refine j_iload_n X d_M_frame_138 rfl 3 rfl ?_
                refine j_istore_n X d_M_frame_139 rfl (by decide) rfl ?_
                refine j_iinc X (v := (-1 : Int32)) d_M_frame_140 4 rfl (by decide) (by decide) rfl ?_
                refine j_goto X d_M_frame_143 (tgt := 89) (by decide) ?_
                refine j_locs [2, 3, 4, 1, 0] rfl ?_
                exact ih89 _ _ _ _ _ hw
              · have hw := hw.2 h
                refine j_iload X d_M_frame_133 4 rfl ?_
                refine j_goto X d_M_frame_135 (tgt := 139) (by decide) ?_
                refine j_istore_n X d_M_frame_139 rfl (by decide) rfl ?_
                refine j_iinc X (v := (-1 : Int32)) d_M_frame_140 4 rfl (by decide) (by decide) rfl ?_
                refine j_goto X d_M_frame_143 (tgt := 89) (by decide) ?_
                refine j_locs [2, 3, 4, 1, 0] rfl ?_
                exact ih89 _ _ _ _ _ hw
        obtain ⟨n, hw⟩ := hw
        refine j_locs [2, 3, 4, 1, 0] rfl ?_
        exact lp89 n _ _ _ _ _ hw
      · have hw := hw.2 h
        refine j_aload_n X d_M_frame_27 rfl 0 rfl ?_
        refine g_33_29 X f_M_45 d_M_frame_28 ?_
        refine j_iload_n X d_M_frame_31 rfl 1 rfl ?_
        refine ld_42 X hw.1 (v := (u3 42 (Int32.toNatClampNeg a1))) rfl d_M_frame_32 ?_
        have hw := hw.2
        refine j_iconst X (v := (5 : Int32)) d_M_frame_33 (by decide) ?_
        refine j_icmp_ge X d_M_frame_34 (tgt := 48) (by decide) (fun h => ?_) (fun h => ?_)
        · have hw := hw.1 h
          refine j_iconst X (v := (0 : Int32)) d_M_frame_48 (by decide) ?_
          refine j_istore_n X d_M_frame_49 rfl (by decide) rfl ?_
          refine j_aload_n X d_M_frame_50 rfl 1 rfl ?_
          refine j_iload_n X d_M_frame_51 rfl 2 rfl ?_
          refine j_iconst X (v := (-1 : Int32)) d_M_frame_52 (by decide) ?_
          refine j_callVv (As := [.int a1, .int (-1 : Int32)]) X (c_M_puts l D ca ad sz hD hw) (gcV (n := 2) X rfl rfl rfl gc_M_puts m_M_puts l_M_169 (by decide +kernel) ⟨by decide, by decide⟩) (q0 := 33) rfl rfl (fun _ h => h) rfl rfl (Nat.le_of_ble_eq_true rfl) ⟨by decide, by decide⟩ d_M_frame_53 (fun u5 hw => ?_)
          refine j_aload_n X d_M_frame_56 rfl 1 rfl ?_
          refine j_iload_n X d_M_frame_57 rfl 2 rfl ?_
          refine j_iload_n X d_M_frame_58 rfl 0 rfl ?_
          refine j_callVv (As := [.int a1, .int (0 : Int32)]) X (c_M_puts l D ca ad sz hD hw) (gcV (n := 2) X rfl rfl rfl gc_M_puts m_M_puts l_M_169 (by decide +kernel) ⟨by decide, by decide⟩) (q0 := 33) rfl rfl (fun _ h => h) rfl rfl (Nat.le_of_ble_eq_true rfl) ⟨by decide, by decide⟩ d_M_frame_59 (fun u6 hw => ?_)
          refine j_iconst X (v := (0 : Int32)) d_M_frame_62 (by decide) ?_
          refine j_istore X d_M_frame_63 (by decide) rfl ?_
          have lp65 : ∀ (n : Nat) (v1 v2 v3 v4 : Int32) (s65 : Jst), w_M_frame_L65 K n v1 v2 v3 v4 s65 → J p l e rm_M_frame s m args below meth c D vwCl (wlT ad ca) (Aw sz) 5 0 0 (MQ below (va_Qi K (Jq D vwCl (wlT ad ca)) (Aw sz)) args s 0 0 (Aw sz)) 65 [(0, .ref (ad 33)), (1, .int v1), (2, .int v2), (3, .int v3), (4, .int v4)] [] s65 := by
            intro n
            induction n with
            | zero => intro v1 v2 v3 v4 s65 hw; exact (show False from hw).elim
            | succ n ih65 =>
              intro v1 v2 v3 v4 s65 hw
              rw [w_M_frame_L65] at hw
              refine j_iload X d_M_frame_65 4 rfl ?_
              refine j_iload_n X d_M_frame_67 rfl 3 rfl ?_
              refine j_icmp_ge X d_M_frame_68 (tgt := 83) (by decide) (fun h => ?_) (fun h => ?_)
              · have hw := hw.1 h
                refine j_bipush X (v := (6 : Int32)) d_M_frame_83 (by decide) ?_
                refine j_istore_n X d_M_frame_85 rfl (by decide) rfl ?_
                refine j_iconst X (v := (5 : Int32)) d_M_frame_86 (by decide) ?_
                refine j_istore X d_M_frame_87 (by decide) rfl ?_
                have lp89 : ∀ (n : Nat) (v1 v2 v3 v4 : Int32) (s89 : Jst), w_M_frame_L89 K n v1 v2 v3 v4 s89 → J p l e rm_M_frame s m args below meth c D vwCl (wlT ad ca) (Aw sz) 5 0 0 (MQ below (va_Qi K (Jq D vwCl (wlT ad ca)) (Aw sz)) args s 0 0 (Aw sz)) 89 [(0, .ref (ad 33)), (1, .int v1), (2, .int v2), (3, .int v3), (4, .int v4)] [] s89 := by
                  intro n
                  induction n with
                  | zero => intro v1 v2 v3 v4 s89 hw; exact (show False from hw).elim
                  | succ n ih89 =>
                    intro v1 v2 v3 v4 s89 hw
                    rw [w_M_frame_L89] at hw
                    refine j_iload X d_M_frame_89 4 rfl ?_
                    refine j_if_lt X d_M_frame_91 (tgt := 146) (by decide) (fun h => ?_) (fun h => ?_)
                    · have hw := hw.1 h
                      refine j_aload_n X d_M_frame_146 rfl 0 rfl ?_
                      refine g_33_28 X f_M_42 d_M_frame_147 ?_
                      refine j_iload_n X d_M_frame_150 rfl 1 rfl ?_
                      refine j_aload_n X d_M_frame_151 rfl 0 rfl ?_
                      refine g_33_28 X f_M_42 d_M_frame_152 ?_
                      refine j_iload_n X d_M_frame_155 rfl 1 rfl ?_
                      refine ld_41 X hw.1 (v := (s89 41 (Int32.toNatClampNeg v1))) rfl d_M_frame_156 ?_
                      have hw := hw.2
                      refine j_bipush X (v := (6 : Int32)) d_M_frame_157 (by decide) ?_
                      refine j_iadd X d_M_frame_159 ?_
                      refine j_bipush X (v := (64 : Int32)) d_M_frame_160 (by decide) ?_
                      refine j_irem X d_M_frame_162 (by decide) ?_
                      refine sr_41 X hw.1 d_M_frame_163 ?_
                      have hw := hw.2
                      refine j_aload_n X d_M_frame_164 rfl 0 rfl ?_
                      refine g_33_29 X f_M_45 d_M_frame_165 ?_
                      refine j_iload_n X d_M_frame_168 rfl 1 rfl ?_
                      refine j_dup2 X d_M_frame_169 rfl rfl ?_
                      refine ld_42 X hw.1 (v := (s89 42 (Int32.toNatClampNeg v1))) rfl d_M_frame_170 ?_
                      have hw := hw.2
                      refine j_bipush X (v := (6 : Int32)) d_M_frame_171 (by decide) ?_
                      refine j_isub X d_M_frame_173 ?_
                      refine sr_42 X hw.1 d_M_frame_174 ?_
                      have hw := hw.2
                      refine j_aload_n X d_M_frame_175 rfl 0 rfl ?_
                      refine g_33_31 X f_M_51 d_M_frame_176 ?_
                      refine j_iload_n X d_M_frame_179 rfl 1 rfl ?_
                      refine ld_44 X hw.1 (v := (s89 44 (Int32.toNatClampNeg v1))) rfl d_M_frame_180 ?_
                      have hw := hw.2
                      refine j_istore X d_M_frame_181 (by decide) rfl ?_
                      refine j_aload_n X d_M_frame_183 rfl 1 rfl ?_
                      refine g_33_31 X f_M_51 d_M_frame_184 ?_
                      refine j_iload_n X d_M_frame_187 rfl 2 rfl ?_
                      refine j_iload X d_M_frame_188 0 rfl ?_
                      refine j_iconst X (v := (1 : Int32)) d_M_frame_190 (by decide) ?_
                      refine j_iadd X d_M_frame_191 ?_
                      refine j_bipush X (v := (16 : Int32)) d_M_frame_192 (by decide) ?_
                      refine j_irem X d_M_frame_194 (by decide) ?_
                      refine sr_44 X hw.1 d_M_frame_195 ?_
                      have hw := hw.2
                      refine j_iload_n X d_M_frame_196 rfl 3 rfl ?_
                      refine j_if_ne X d_M_frame_197 (tgt := 208) (by decide) (fun h => ?_) (fun h => ?_)
                      · have hw := hw.1 h
                        refine j_iload_n X d_M_frame_208 rfl 4 rfl ?_
                        exact j_iret X hlk hr d_M_frame_209 hw
                      · have hw := hw.2 h
                        refine j_aload_n X d_M_frame_200 rfl 1 rfl ?_
                        refine j_iload_n X d_M_frame_201 rfl 2 rfl ?_
                        refine j_iload X d_M_frame_202 0 rfl ?_
                        refine j_iload_n X d_M_frame_204 rfl 4 rfl ?_
                        refine j_callVv (As := [.int v1, .int (s89 44 (Int32.toNatClampNeg v1)), .int v3]) X (c_M_comesDown l D ca ad sz hD hw) (gcV (n := 3) X rfl rfl rfl gc_M_comesDown m_M_comesDown l_M_172 (by decide +kernel) ⟨by decide, by decide⟩) (q0 := 33) rfl rfl (fun _ h => h) rfl rfl (Nat.le_of_ble_eq_true rfl) ⟨by decide, by decide⟩ d_M_frame_205 (fun u1 hw => ?_)
                        refine j_iload_n X d_M_frame_208 rfl 4 rfl ?_
                        exact j_iret X hlk hr d_M_frame_209 hw
                    · have hw := hw.2 h
                      refine j_aload_n X d_M_frame_94 rfl 0 rfl ?_
                      refine g_33_38 X f_M_72 d_M_frame_95 ?_
                      refine j_iload X d_M_frame_98 4 rfl ?_
                      refine j_aload_n X d_M_frame_100 rfl 0 rfl ?_
                      refine g_33_30 X f_M_48 d_M_frame_101 ?_
                      refine j_bipush X (v := (64 : Int32)) d_M_frame_104 (by decide) ?_
                      refine j_iload_n X d_M_frame_106 rfl 1 rfl ?_
                      refine j_imul X d_M_frame_107 ?_
                      refine j_aload_n X d_M_frame_108 rfl 0 rfl ?_
                      refine g_33_28 X f_M_42 d_M_frame_109 ?_
                      refine j_iload_n X d_M_frame_112 rfl 1 rfl ?_
                      refine ld_41 X hw.1 (v := (s89 41 (Int32.toNatClampNeg v1))) rfl d_M_frame_113 ?_
                      have hw := hw.2
                      refine j_iload X d_M_frame_114 4 rfl ?_
                      refine j_iadd X d_M_frame_116 ?_
                      refine j_bipush X (v := (64 : Int32)) d_M_frame_117 (by decide) ?_
                      refine j_irem X d_M_frame_119 (by decide) ?_
                      refine j_iadd X d_M_frame_120 ?_
                      refine ld_43 X hw.1 (v := (s89 43 (Int32.toNatClampNeg (((64 : Int32) * v1) + (((s89 41 (Int32.toNatClampNeg v1)) + v4) - ((s89 41 (Int32.toNatClampNeg v1)) + v4) / (64 : Int32) * (64 : Int32)))))) rfl d_M_frame_121 ?_
                      have hw := hw.2
                      refine sr_51 X hw.1 d_M_frame_122 ?_
                      have hw := hw.2
                      refine j_aload_n X d_M_frame_123 rfl 0 rfl ?_
                      refine g_33_38 X f_M_72 d_M_frame_124 ?_
                      refine j_iload X d_M_frame_127 4 rfl ?_
                      refine ld_51 X hw.1 (v := ((upd (s89 51) (Int32.toNatClampNeg v4) (s89 43 (Int32.toNatClampNeg (((64 : Int32) * v1) + (((s89 41 (Int32.toNatClampNeg v1)) + v4) - ((s89 41 (Int32.toNatClampNeg v1)) + v4) / (64 : Int32) * (64 : Int32)))))) (Int32.toNatClampNeg v4))) rfl d_M_frame_129 ?_
                      have hw := hw.2
                      refine j_if_ge X d_M_frame_130 (tgt := 138) (by decide) (fun h => ?_) (fun h => ?_)
                      · have hw := hw.1 h
                        refine j_iload_n X d_M_frame_138 rfl 3 rfl ?_
                        refine j_istore_n X d_M_frame_139 rfl (by decide) rfl ?_
                        refine j_iinc X (v := (-1 : Int32)) d_M_frame_140 4 rfl (by decide) (by decide) rfl ?_
                        refine j_goto X d_M_frame_143 (tgt := 89) (by decide) ?_
                        refine j_locs [2, 3, 4, 1, 0] rfl ?_
                        exact ih89 _ _ _ _ _ hw
                      · have hw := hw.2 h
                        refine j_iload X d_M_frame_133 4 rfl ?_
                        refine j_goto X d_M_frame_135 (tgt := 139) (by decide) ?_
                        refine j_istore_n X d_M_frame_139 rfl (by decide) rfl ?_
                        refine j_iinc X (v := (-1 : Int32)) d_M_frame_140 4 rfl (by decide) (by decide) rfl ?_
                        refine j_goto X d_M_frame_143 (tgt := 89) (by decide) ?_
                        refine j_locs [2, 3, 4, 1, 0] rfl ?_
                        exact ih89 _ _ _ _ _ hw
                obtain ⟨n, hw⟩ := hw
                refine j_locs [2, 3, 4, 1, 0] rfl ?_
                exact lp89 n _ _ _ _ _ hw
              · have hw := hw.2 h
                refine j_aload_n X d_M_frame_71 rfl 0 rfl ?_
                refine j_iload_n X d_M_frame_72 rfl 1 rfl ?_
                refine j_iconst X (v := (0 : Int32)) d_M_frame_73 (by decide) ?_
                refine j_callVv (As := [.int v1, .int (0 : Int32)]) X (c_M_puts l D ca ad sz hD hw) (gcV (n := 2) X rfl rfl rfl gc_M_puts m_M_puts l_M_169 (by decide +kernel) ⟨by decide, by decide⟩) (q0 := 33) rfl rfl (fun _ h => h) rfl rfl (Nat.le_of_ble_eq_true rfl) ⟨by decide, by decide⟩ d_M_frame_74 (fun u1 hw => ?_)
                refine j_iinc X (v := (1 : Int32)) d_M_frame_77 4 rfl (by decide) (by decide) rfl ?_
                refine j_goto X d_M_frame_80 (tgt := 65) (by decide) ?_
                refine j_locs [1, 2, 3, 4, 0] rfl ?_
                exact ih65 _ _ _ _ _ hw
          obtain ⟨n, hw⟩ := hw
          refine j_locs [2, 3, 4, 1, 0] rfl ?_
          exact lp65 n _ _ _ _ _ hw
        · have hw := hw.2 h
          refine j_iconst X (v := (4 : Int32)) d_M_frame_37 (by decide) ?_
          refine j_aload_n X d_M_frame_38 rfl 0 rfl ?_
          refine g_33_29 X f_M_45 d_M_frame_39 ?_
          refine j_iload_n X d_M_frame_42 rfl 1 rfl ?_
          refine ld_42 X hw.1 (v := (u3 42 (Int32.toNatClampNeg a1))) rfl d_M_frame_43 ?_
          have hw := hw.2
          refine j_isub X d_M_frame_44 ?_
          refine j_goto X d_M_frame_45 (tgt := 49) (by decide) ?_
          refine j_istore_n X d_M_frame_49 rfl (by decide) rfl ?_
          refine j_aload_n X d_M_frame_50 rfl 1 rfl ?_
          refine j_iload_n X d_M_frame_51 rfl 2 rfl ?_
          refine j_iconst X (v := (-1 : Int32)) d_M_frame_52 (by decide) ?_
          refine j_callVv (As := [.int a1, .int (-1 : Int32)]) X (c_M_puts l D ca ad sz hD hw) (gcV (n := 2) X rfl rfl rfl gc_M_puts m_M_puts l_M_169 (by decide +kernel) ⟨by decide, by decide⟩) (q0 := 33) rfl rfl (fun _ h => h) rfl rfl (Nat.le_of_ble_eq_true rfl) ⟨by decide, by decide⟩ d_M_frame_53 (fun u7 hw => ?_)
          refine j_aload_n X d_M_frame_56 rfl 1 rfl ?_
          refine j_iload_n X d_M_frame_57 rfl 2 rfl ?_
          refine j_iload_n X d_M_frame_58 rfl 0 rfl ?_
          refine j_callVv (As := [.int a1, .int ((4 : Int32) - (u3 42 (Int32.toNatClampNeg a1)))]) X (c_M_puts l D ca ad sz hD hw) (gcV (n := 2) X rfl rfl rfl gc_M_puts m_M_puts l_M_169 (by decide +kernel) ⟨by decide, by decide⟩) (q0 := 33) rfl rfl (fun _ h => h) rfl rfl (Nat.le_of_ble_eq_true rfl) ⟨by decide, by decide⟩ d_M_frame_59 (fun u8 hw => ?_)
          refine j_iconst X (v := (0 : Int32)) d_M_frame_62 (by decide) ?_
          refine j_istore X d_M_frame_63 (by decide) rfl ?_
          have lp65 : ∀ (n : Nat) (v1 v2 v3 v4 : Int32) (s65 : Jst), w_M_frame_L65 K n v1 v2 v3 v4 s65 → J p l e rm_M_frame s m args below meth c D vwCl (wlT ad ca) (Aw sz) 5 0 0 (MQ below (va_Qi K (Jq D vwCl (wlT ad ca)) (Aw sz)) args s 0 0 (Aw sz)) 65 [(0, .ref (ad 33)), (1, .int v1), (2, .int v2), (3, .int v3), (4, .int v4)] [] s65 := by
            intro n
            induction n with
            | zero => intro v1 v2 v3 v4 s65 hw; exact (show False from hw).elim
            | succ n ih65 =>
              intro v1 v2 v3 v4 s65 hw
              rw [w_M_frame_L65] at hw
              refine j_iload X d_M_frame_65 4 rfl ?_
              refine j_iload_n X d_M_frame_67 rfl 3 rfl ?_
              refine j_icmp_ge X d_M_frame_68 (tgt := 83) (by decide) (fun h => ?_) (fun h => ?_)
              · have hw := hw.1 h
                refine j_bipush X (v := (6 : Int32)) d_M_frame_83 (by decide) ?_
                refine j_istore_n X d_M_frame_85 rfl (by decide) rfl ?_
                refine j_iconst X (v := (5 : Int32)) d_M_frame_86 (by decide) ?_
                refine j_istore X d_M_frame_87 (by decide) rfl ?_
                have lp89 : ∀ (n : Nat) (v1 v2 v3 v4 : Int32) (s89 : Jst), w_M_frame_L89 K n v1 v2 v3 v4 s89 → J p l e rm_M_frame s m args below meth c D vwCl (wlT ad ca) (Aw sz) 5 0 0 (MQ below (va_Qi K (Jq D vwCl (wlT ad ca)) (Aw sz)) args s 0 0 (Aw sz)) 89 [(0, .ref (ad 33)), (1, .int v1), (2, .int v2), (3, .int v3), (4, .int v4)] [] s89 := by
                  intro n
                  induction n with
                  | zero => intro v1 v2 v3 v4 s89 hw; exact (show False from hw).elim
                  | succ n ih89 =>
                    intro v1 v2 v3 v4 s89 hw
                    rw [w_M_frame_L89] at hw
                    refine j_iload X d_M_frame_89 4 rfl ?_
                    refine j_if_lt X d_M_frame_91 (tgt := 146) (by decide) (fun h => ?_) (fun h => ?_)
                    · have hw := hw.1 h
                      refine j_aload_n X d_M_frame_146 rfl 0 rfl ?_
                      refine g_33_28 X f_M_42 d_M_frame_147 ?_
                      refine j_iload_n X d_M_frame_150 rfl 1 rfl ?_
                      refine j_aload_n X d_M_frame_151 rfl 0 rfl ?_
                      refine g_33_28 X f_M_42 d_M_frame_152 ?_
                      refine j_iload_n X d_M_frame_155 rfl 1 rfl ?_
                      refine ld_41 X hw.1 (v := (s89 41 (Int32.toNatClampNeg v1))) rfl d_M_frame_156 ?_
                      have hw := hw.2
                      refine j_bipush X (v := (6 : Int32)) d_M_frame_157 (by decide) ?_
                      refine j_iadd X d_M_frame_159 ?_
                      refine j_bipush X (v := (64 : Int32)) d_M_frame_160 (by decide) ?_
                      refine j_irem X d_M_frame_162 (by decide) ?_
                      refine sr_41 X hw.1 d_M_frame_163 ?_
                      have hw := hw.2
                      refine j_aload_n X d_M_frame_164 rfl 0 rfl ?_
                      refine g_33_29 X f_M_45 d_M_frame_165 ?_
                      refine j_iload_n X d_M_frame_168 rfl 1 rfl ?_
                      refine j_dup2 X d_M_frame_169 rfl rfl ?_
                      refine ld_42 X hw.1 (v := (s89 42 (Int32.toNatClampNeg v1))) rfl d_M_frame_170 ?_
                      have hw := hw.2
                      refine j_bipush X (v := (6 : Int32)) d_M_frame_171 (by decide) ?_
                      refine j_isub X d_M_frame_173 ?_
                      refine sr_42 X hw.1 d_M_frame_174 ?_
                      have hw := hw.2
                      refine j_aload_n X d_M_frame_175 rfl 0 rfl ?_
                      refine g_33_31 X f_M_51 d_M_frame_176 ?_
                      refine j_iload_n X d_M_frame_179 rfl 1 rfl ?_
                      refine ld_44 X hw.1 (v := (s89 44 (Int32.toNatClampNeg v1))) rfl d_M_frame_180 ?_
                      have hw := hw.2
                      refine j_istore X d_M_frame_181 (by decide) rfl ?_
                      refine j_aload_n X d_M_frame_183 rfl 1 rfl ?_
                      refine g_33_31 X f_M_51 d_M_frame_184 ?_
                      refine j_iload_n X d_M_frame_187 rfl 2 rfl ?_
                      refine j_iload X d_M_frame_188 0 rfl ?_
                      refine j_iconst X (v := (1 : Int32)) d_M_frame_190 (by decide) ?_
                      refine j_iadd X d_M_frame_191 ?_
                      refine j_bipush X (v := (16 : Int32)) d_M_frame_192 (by decide) ?_
                      refine j_irem X d_M_frame_194 (by decide) ?_
                      refine sr_44 X hw.1 d_M_frame_195 ?_
                      have hw := hw.2
                      refine j_iload_n X d_M_frame_196 rfl 3 rfl ?_
                      refine j_if_ne X d_M_frame_197 (tgt := 208) (by decide) (fun h => ?_) (fun h => ?_)
                      · have hw := hw.1 h
                        refine j_iload_n X d_M_frame_208 rfl 4 rfl ?_
                        exact j_iret X hlk hr d_M_frame_209 hw
                      · have hw := hw.2 h
                        refine j_aload_n X d_M_frame_200 rfl 1 rfl ?_
                        refine j_iload_n X d_M_frame_201 rfl 2 rfl ?_
                        refine j_iload X d_M_frame_202 0 rfl ?_
                        refine j_iload_n X d_M_frame_204 rfl 4 rfl ?_
                        refine j_callVv (As := [.int v1, .int (s89 44 (Int32.toNatClampNeg v1)), .int v3]) X (c_M_comesDown l D ca ad sz hD hw) (gcV (n := 3) X rfl rfl rfl gc_M_comesDown m_M_comesDown l_M_172 (by decide +kernel) ⟨by decide, by decide⟩) (q0 := 33) rfl rfl (fun _ h => h) rfl rfl (Nat.le_of_ble_eq_true rfl) ⟨by decide, by decide⟩ d_M_frame_205 (fun u1 hw => ?_)
                        refine j_iload_n X d_M_frame_208 rfl 4 rfl ?_
                        exact j_iret X hlk hr d_M_frame_209 hw
                    · have hw := hw.2 h
                      refine j_aload_n X d_M_frame_94 rfl 0 rfl ?_
                      refine g_33_38 X f_M_72 d_M_frame_95 ?_
                      refine j_iload X d_M_frame_98 4 rfl ?_
                      refine j_aload_n X d_M_frame_100 rfl 0 rfl ?_
                      refine g_33_30 X f_M_48 d_M_frame_101 ?_
                      refine j_bipush X (v := (64 : Int32)) d_M_frame_104 (by decide) ?_
                      refine j_iload_n X d_M_frame_106 rfl 1 rfl ?_
                      refine j_imul X d_M_frame_107 ?_
                      refine j_aload_n X d_M_frame_108 rfl 0 rfl ?_
                      refine g_33_28 X f_M_42 d_M_frame_109 ?_
                      refine j_iload_n X d_M_frame_112 rfl 1 rfl ?_
                      refine ld_41 X hw.1 (v := (s89 41 (Int32.toNatClampNeg v1))) rfl d_M_frame_113 ?_
                      have hw := hw.2
                      refine j_iload X d_M_frame_114 4 rfl ?_
                      refine j_iadd X d_M_frame_116 ?_
                      refine j_bipush X (v := (64 : Int32)) d_M_frame_117 (by decide) ?_
                      refine j_irem X d_M_frame_119 (by decide) ?_
                      refine j_iadd X d_M_frame_120 ?_
                      refine ld_43 X hw.1 (v := (s89 43 (Int32.toNatClampNeg (((64 : Int32) * v1) + (((s89 41 (Int32.toNatClampNeg v1)) + v4) - ((s89 41 (Int32.toNatClampNeg v1)) + v4) / (64 : Int32) * (64 : Int32)))))) rfl d_M_frame_121 ?_
                      have hw := hw.2
                      refine sr_51 X hw.1 d_M_frame_122 ?_
                      have hw := hw.2
                      refine j_aload_n X d_M_frame_123 rfl 0 rfl ?_
                      refine g_33_38 X f_M_72 d_M_frame_124 ?_
                      refine j_iload X d_M_frame_127 4 rfl ?_
                      refine ld_51 X hw.1 (v := ((upd (s89 51) (Int32.toNatClampNeg v4) (s89 43 (Int32.toNatClampNeg (((64 : Int32) * v1) + (((s89 41 (Int32.toNatClampNeg v1)) + v4) - ((s89 41 (Int32.toNatClampNeg v1)) + v4) / (64 : Int32) * (64 : Int32)))))) (Int32.toNatClampNeg v4))) rfl d_M_frame_129 ?_
                      have hw := hw.2
                      refine j_if_ge X d_M_frame_130 (tgt := 138) (by decide) (fun h => ?_) (fun h => ?_)
                      · have hw := hw.1 h
                        refine j_iload_n X d_M_frame_138 rfl 3 rfl ?_
                        refine j_istore_n X d_M_frame_139 rfl (by decide) rfl ?_
                        refine j_iinc X (v := (-1 : Int32)) d_M_frame_140 4 rfl (by decide) (by decide) rfl ?_
                        refine j_goto X d_M_frame_143 (tgt := 89) (by decide) ?_
                        refine j_locs [2, 3, 4, 1, 0] rfl ?_
                        exact ih89 _ _ _ _ _ hw
                      · have hw := hw.2 h
                        refine j_iload X d_M_frame_133 4 rfl ?_
                        refine j_goto X d_M_frame_135 (tgt := 139) (by decide) ?_
                        refine j_istore_n X d_M_frame_139 rfl (by decide) rfl ?_
                        refine j_iinc X (v := (-1 : Int32)) d_M_frame_140 4 rfl (by decide) (by decide) rfl ?_
                        refine j_goto X d_M_frame_143 (tgt := 89) (by decide) ?_
                        refine j_locs [2, 3, 4, 1, 0] rfl ?_
                        exact ih89 _ _ _ _ _ hw
                obtain ⟨n, hw⟩ := hw
                refine j_locs [2, 3, 4, 1, 0] rfl ?_
                exact lp89 n _ _ _ _ _ hw
              · have hw := hw.2 h
                refine j_aload_n X d_M_frame_71 rfl 0 rfl ?_
                refine j_iload_n X d_M_frame_72 rfl 1 rfl ?_
                refine j_iconst X (v := (0 : Int32)) d_M_frame_73 (by decide) ?_
                refine j_callVv (As := [.int v1, .int (0 : Int32)]) X (c_M_puts l D ca ad sz hD hw) (gcV (n := 2) X rfl rfl rfl gc_M_puts m_M_puts l_M_169 (by decide +kernel) ⟨by decide, by decide⟩) (q0 := 33) rfl rfl (fun _ h => h) rfl rfl (Nat.le_of_ble_eq_true rfl) ⟨by decide, by decide⟩ d_M_frame_74 (fun u1 hw => ?_)
                refine j_iinc X (v := (1 : Int32)) d_M_frame_77 4 rfl (by decide) (by decide) rfl ?_
                refine j_goto X d_M_frame_80 (tgt := 65) (by decide) ?_
                refine j_locs [1, 2, 3, 4, 0] rfl ?_
                exact ih65 _ _ _ _ _ hw
          obtain ⟨n, hw⟩ := hw
          refine j_locs [2, 3, 4, 1, 0] rfl ?_
          exact lp65 n _ _ _ _ _ hw
    · have hw := hw.2 h
      refine j_iconst X (v := (0 : Int32)) d_M_frame_14 (by decide) ?_
      exact j_iret X hlk hr d_M_frame_15 hw
  exact hX
def w_M_marks_L4 (K : Int32 → Jst → Prop) : Nat → Int32 → Int32 → Jst → Prop
  | 0, _, _, _ => False
  | n + 1, v1, v2, s4 => (((s4 33 14) ≤ v2 → K v1 s4) ∧ (¬ (s4 33 14) ≤ v2 → (vp_in v2 4 ∧ (((s4 35 (Int32.toNatClampNeg v2)) = (0 : Int32) → w_M_marks_L4 K n (v1 + (0 : Int32)) (v2 + (1 : Int32)) s4) ∧ (¬ (s4 35 (Int32.toNatClampNeg v2)) = (0 : Int32) → w_M_marks_L4 K n (v1 + (1 : Int32)) (v2 + (1 : Int32)) s4)))))
def w_M_marks (σ : Jst) (K : Int32 → Jst → Prop) : Prop := (∃ n, w_M_marks_L4 K n (0 : Int32) (0 : Int32) σ)
abbrev rm_M_marks : Room := { frames := 0, cells := 0, slots := 0, locals := 0 }
set_option maxRecDepth 100000 in
set_option maxHeartbeats 4000000 in
theorem c_M_marks (l : Launch) (D : va_G) (ca ad : Nat → Nat) (sz : Nat) (hD : Jd ca ad sz) {σ : Jst} {K : Int32 → Jst → Prop} (hw : w_M_marks σ K) : Met l y_M_marks (wG y_M_marks b_M_marks 3 (some .int)) rm_M_marks (va_Pc [.ref (ad 33)] (Jw D vwCl (tysT ca) (wlT ad ca) (NwT sz) σ)) (va_Qi K (Jq D vwCl (wlT ad ca)) (Aw sz)) 0 0 (Aw sz) := by
  refine j_met (cc := b_M_marks) (own := R_M) (by decide +kernel) rfl (Nat.le_of_ble_eq_true rfl) rfl hD (nwT_k sz) ?_
  intro p e s m args below meth c X hlk hr
  have hX : J p l e rm_M_marks s m args below meth c D vwCl (wlT ad ca) (Aw sz) 3 0 0 (MQ below (va_Qi K (Jq D vwCl (wlT ad ca)) (Aw sz)) args s 0 0 (Aw sz)) 0 [(0, .ref (ad 33))] [] σ := by
    unfold w_M_marks at hw
    refine j_iconst X (v := (0 : Int32)) d_M_marks_0 (by decide) ?_
    refine j_istore_n X d_M_marks_1 rfl (by decide) rfl ?_
    refine j_iconst X (v := (0 : Int32)) d_M_marks_2 (by decide) ?_
    refine j_istore_n X d_M_marks_3 rfl (by decide) rfl ?_
    have lp4 : ∀ (n : Nat) (v1 v2 : Int32) (s4 : Jst), w_M_marks_L4 K n v1 v2 s4 → J p l e rm_M_marks s m args below meth c D vwCl (wlT ad ca) (Aw sz) 3 0 0 (MQ below (va_Qi K (Jq D vwCl (wlT ad ca)) (Aw sz)) args s 0 0 (Aw sz)) 4 [(0, .ref (ad 33)), (1, .int v1), (2, .int v2)] [] s4 := by
      intro n
      induction n with
      | zero => intro v1 v2 s4 hw; exact (show False from hw).elim
      | succ n ih4 =>
        intro v1 v2 s4 hw
        rw [w_M_marks_L4] at hw
        refine j_iload_n X d_M_marks_4 rfl 2 rfl ?_
        refine j_aload_n X d_M_marks_5 rfl 0 rfl ?_
        refine g_33_14 X f_M_114 (v := (s4 33 14)) rfl d_M_marks_6 ?_
        refine j_icmp_ge X d_M_marks_9 (tgt := 35) (by decide) (fun h => ?_) (fun h => ?_)
        · have hw := hw.1 h
          refine j_iload_n X d_M_marks_35 rfl 1 rfl ?_
          exact j_iret X hlk hr d_M_marks_36 hw
        · have hw := hw.2 h
          refine j_iload_n X d_M_marks_12 rfl 1 rfl ?_
          refine j_aload_n X d_M_marks_13 rfl 0 rfl ?_
          refine g_33_16 X f_M_23 d_M_marks_14 ?_
          refine j_iload_n X d_M_marks_17 rfl 2 rfl ?_
          refine ld_35 X hw.1 (v := (s4 35 (Int32.toNatClampNeg v2))) rfl d_M_marks_18 ?_
          have hw := hw.2
          refine j_if_eq X d_M_marks_19 (tgt := 26) (by decide) (fun h => ?_) (fun h => ?_)
          · have hw := hw.1 h
            refine j_iconst X (v := (0 : Int32)) d_M_marks_26 (by decide) ?_
            refine j_iadd X d_M_marks_27 ?_
            refine j_istore_n X d_M_marks_28 rfl (by decide) rfl ?_
            refine j_iinc X (v := (1 : Int32)) d_M_marks_29 2 rfl (by decide) (by decide) rfl ?_
            refine j_goto X d_M_marks_32 (tgt := 4) (by decide) ?_
            refine j_locs [2, 1, 0] rfl ?_
            exact ih4 _ _ _ hw
          · have hw := hw.2 h
            refine j_iconst X (v := (1 : Int32)) d_M_marks_22 (by decide) ?_
            refine j_goto X d_M_marks_23 (tgt := 27) (by decide) ?_
            refine j_iadd X d_M_marks_27 ?_
            refine j_istore_n X d_M_marks_28 rfl (by decide) rfl ?_
            refine j_iinc X (v := (1 : Int32)) d_M_marks_29 2 rfl (by decide) (by decide) rfl ?_
            refine j_goto X d_M_marks_32 (tgt := 4) (by decide) ?_
            refine j_locs [2, 1, 0] rfl ?_
            exact ih4 _ _ _ hw
    obtain ⟨n, hw⟩ := hw
    refine j_locs [2, 1, 0] rfl ?_
    exact lp4 n _ _ _ hw
  exact hX
def w_M_ground (a1 : Int32) (σ : Jst) (K : Int32 → Jst → Prop) : Prop := w_M_outside a1 (0 : Int32) (10 : Int32) σ (fun r2 u1 => w_M_fails r2 (0 : Int32) u1 (fun r4 u3 => ((r4 = (0 : Int32) → ((a1 = (0 : Int32) → K (u3 33 1) u3) ∧ ((a1 = (1 : Int32) → K (u3 33 2) u3) ∧ ((a1 = (2 : Int32) → K (u3 33 3) u3) ∧ ((a1 = (3 : Int32) → K (u3 33 14) u3) ∧ ((a1 = (4 : Int32) → w_M_marks u3 (fun r6 u5 => K r6 u5)) ∧ ((a1 = (5 : Int32) → (((u3 33 10) = (0 : Int32) → K (0 : Int32) u3) ∧ (¬ (u3 33 10) = (0 : Int32) → K (1 : Int32) u3))) ∧ ((a1 = (6 : Int32) → K (u3 33 4) u3) ∧ ((a1 = (7 : Int32) → K (u3 33 5) u3) ∧ ((a1 = (8 : Int32) → K (u3 33 6) u3) ∧ ((a1 = (9 : Int32) → K (u3 33 17) u3) ∧ ((Int32.toInt a1 < 0 ∨ 9 < Int32.toInt a1) → K (u3 33 26) u3)))))))))))) ∧ (¬ r4 = (0 : Int32) → K (0 : Int32) u3))))
abbrev rm_M_ground : Room := { frames := 1, cells := 0, slots := 0, locals := 22 }
set_option maxRecDepth 100000 in
set_option maxHeartbeats 4000000 in
theorem c_M_ground (l : Launch) (D : va_G) (ca ad : Nat → Nat) (sz : Nat) (hD : Jd ca ad sz) {a1 : Int32} {σ : Jst} {K : Int32 → Jst → Prop} (hw : w_M_ground a1 σ K) : Met l y_M_ground (wG y_M_ground b_M_ground 2 (some .int)) rm_M_ground (va_Pc [.ref (ad 33), .int a1] (Jw D vwCl (tysT ca) (wlT ad ca) (NwT sz) σ)) (va_Qi K (Jq D vwCl (wlT ad ca)) (Aw sz)) 0 0 (Aw sz) := by
  refine j_met (cc := b_M_ground) (own := R_M) (by decide +kernel) rfl (Nat.le_of_ble_eq_true rfl) rfl hD (nwT_k sz) ?_
  intro p e s m args below meth c X hlk hr
  have hX : J p l e rm_M_ground s m args below meth c D vwCl (wlT ad ca) (Aw sz) 2 0 0 (MQ below (va_Qi K (Jq D vwCl (wlT ad ca)) (Aw sz)) args s 0 0 (Aw sz)) 0 [(0, .ref (ad 33)), (1, .int a1)] [] σ := by
    unfold w_M_ground at hw
    refine j_aload_n X d_M_ground_0 rfl 0 rfl ?_
    refine j_iload_n X d_M_ground_1 rfl 1 rfl ?_
    refine j_iconst X (v := (0 : Int32)) d_M_ground_2 (by decide) ?_
    refine j_bipush X (v := (10 : Int32)) d_M_ground_3 (by decide) ?_
    refine j_callSi (As := [.int a1, .int (0 : Int32), .int (10 : Int32)]) X (c_M_outside l D ca ad sz hD hw) (gcS (n := 3) X rfl rfl rfl gc_M_outside m_M_outside l_M_84 (by decide +kernel) ⟨by decide, by decide⟩) (fun _ h => h) rfl rfl (Nat.le_of_ble_eq_true rfl) ⟨by decide, by decide⟩ d_M_ground_5 (fun r2 u1 hw => ?_)
    refine j_iconst X (v := (0 : Int32)) d_M_ground_8 (by decide) ?_
    refine j_callVi (As := [.int r2, .int (0 : Int32)]) X (c_M_fails l D ca ad sz hD hw) (gcV (n := 2) X rfl rfl rfl gc_M_fails m_M_fails l_M_88 (by decide +kernel) ⟨by decide, by decide⟩) (q0 := 33) rfl rfl (fun _ h => h) rfl rfl (Nat.le_of_ble_eq_true rfl) ⟨by decide, by decide⟩ d_M_ground_9 (fun r4 u3 hw => ?_)
    refine j_if_eq X d_M_ground_12 (tgt := 17) (by decide) (fun h => ?_) (fun h => ?_)
    · have hw := hw.1 h
      refine j_iload_n X d_M_ground_17 rfl 1 rfl ?_
      by_cases h0 : a1 = (0 : Int32)
      · refine j_tin X d_M_ground_18 (0 : Int32) h0 (by decide) (by decide) (off := 54) (by decide) (tgt := 72) (by decide) ?_
        have hw := hw.1 h0
        refine j_aload_n X d_M_ground_72 rfl 0 rfl ?_
        refine g_33_1 X f_M_81 (v := (u3 33 1)) rfl d_M_ground_73 ?_
        exact j_iret X hlk hr d_M_ground_76 hw
      have hw := hw.2
      by_cases h1 : a1 = (1 : Int32)
      · refine j_tin X d_M_ground_18 (1 : Int32) h1 (by decide) (by decide) (off := 59) (by decide) (tgt := 77) (by decide) ?_
        have hw := hw.1 h1
        refine j_aload_n X d_M_ground_77 rfl 0 rfl ?_
        refine g_33_2 X f_M_92 (v := (u3 33 2)) rfl d_M_ground_78 ?_
        exact j_iret X hlk hr d_M_ground_81 hw
      have hw := hw.2
      by_cases h2 : a1 = (2 : Int32)
      · refine j_tin X d_M_ground_18 (2 : Int32) h2 (by decide) (by decide) (off := 64) (by decide) (tgt := 82) (by decide) ?_
        have hw := hw.1 h2
        refine j_aload_n X d_M_ground_82 rfl 0 rfl ?_
        refine g_33_3 X f_M_95 (v := (u3 33 3)) rfl d_M_ground_83 ?_
        exact j_iret X hlk hr d_M_ground_86 hw
      have hw := hw.2
      by_cases h3 : a1 = (3 : Int32)
      · refine j_tin X d_M_ground_18 (3 : Int32) h3 (by decide) (by decide) (off := 69) (by decide) (tgt := 87) (by decide) ?_
        have hw := hw.1 h3
        refine j_aload_n X d_M_ground_87 rfl 0 rfl ?_
        refine g_33_14 X f_M_114 (v := (u3 33 14)) rfl d_M_ground_88 ?_
        exact j_iret X hlk hr d_M_ground_91 hw
      have hw := hw.2
      by_cases h4 : a1 = (4 : Int32)
      · refine j_tin X d_M_ground_18 (4 : Int32) h4 (by decide) (by decide) (off := 74) (by decide) (tgt := 92) (by decide) ?_
        have hw := hw.1 h4
        refine j_aload_n X d_M_ground_92 rfl 0 rfl ?_
        refine j_callVi (As := []) X (c_M_marks l D ca ad sz hD hw) (gcV (n := 0) X rfl rfl rfl gc_M_marks m_M_marks l_M_182 (by decide +kernel) ⟨by decide, by decide⟩) (q0 := 33) rfl rfl (fun _ h => h) rfl rfl (Nat.le_of_ble_eq_true rfl) ⟨by decide, by decide⟩ d_M_ground_93 (fun r6 u5 hw => ?_)
        exact j_iret X hlk hr d_M_ground_96 hw
      have hw := hw.2
      by_cases h5 : a1 = (5 : Int32)
      · refine j_tin X d_M_ground_18 (5 : Int32) h5 (by decide) (by decide) (off := 79) (by decide) (tgt := 97) (by decide) ?_
        have hw := hw.1 h5
        refine j_aload_n X d_M_ground_97 rfl 0 rfl ?_
        refine g_33_10 X f_M_117 (v := (u3 33 10)) rfl d_M_ground_98 ?_
        refine j_if_eq X d_M_ground_101 (tgt := 108) (by decide) (fun h => ?_) (fun h => ?_)
        · have hw := hw.1 h
          refine j_iconst X (v := (0 : Int32)) d_M_ground_108 (by decide) ?_
          exact j_iret X hlk hr d_M_ground_109 hw
        · have hw := hw.2 h
          refine j_iconst X (v := (1 : Int32)) d_M_ground_104 (by decide) ?_
          refine j_goto X d_M_ground_105 (tgt := 109) (by decide) ?_
          exact j_iret X hlk hr d_M_ground_109 hw
      have hw := hw.2
      by_cases h6 : a1 = (6 : Int32)
      · refine j_tin X d_M_ground_18 (6 : Int32) h6 (by decide) (by decide) (off := 92) (by decide) (tgt := 110) (by decide) ?_
        have hw := hw.1 h6
        refine j_aload_n X d_M_ground_110 rfl 0 rfl ?_
        refine g_33_4 X f_M_108 (v := (u3 33 4)) rfl d_M_ground_111 ?_
        exact j_iret X hlk hr d_M_ground_114 hw
      have hw := hw.2
      by_cases h7 : a1 = (7 : Int32)
      · refine j_tin X d_M_ground_18 (7 : Int32) h7 (by decide) (by decide) (off := 97) (by decide) (tgt := 115) (by decide) ?_
        have hw := hw.1 h7
        refine j_aload_n X d_M_ground_115 rfl 0 rfl ?_
        refine g_33_5 X f_M_98 (v := (u3 33 5)) rfl d_M_ground_116 ?_
        exact j_iret X hlk hr d_M_ground_119 hw
      have hw := hw.2
      by_cases h8 : a1 = (8 : Int32)
      · refine j_tin X d_M_ground_18 (8 : Int32) h8 (by decide) (by decide) (off := 102) (by decide) (tgt := 120) (by decide) ?_
        have hw := hw.1 h8
        refine j_aload_n X d_M_ground_120 rfl 0 rfl ?_
        refine g_33_6 X f_M_111 (v := (u3 33 6)) rfl d_M_ground_121 ?_
        exact j_iret X hlk hr d_M_ground_124 hw
      have hw := hw.2
      by_cases h9 : a1 = (9 : Int32)
      · refine j_tin X d_M_ground_18 (9 : Int32) h9 (by decide) (by decide) (off := 107) (by decide) (tgt := 125) (by decide) ?_
        have hw := hw.1 h9
        refine j_aload_n X d_M_ground_125 rfl 0 rfl ?_
        refine g_33_17 X f_M_130 (v := (u3 33 17)) rfl d_M_ground_126 ?_
        exact j_iret X hlk hr d_M_ground_129 hw
      have hw := hw.2
      have ho : Int32.toInt a1 < 0 ∨ 9 < Int32.toInt a1 := by
        have eh0 := lv_neT h0 (a := 0) (by decide)
        have eh1 := lv_neT h1 (a := 1) (by decide)
        have eh2 := lv_neT h2 (a := 2) (by decide)
        have eh3 := lv_neT h3 (a := 3) (by decide)
        have eh4 := lv_neT h4 (a := 4) (by decide)
        have eh5 := lv_neT h5 (a := 5) (by decide)
        have eh6 := lv_neT h6 (a := 6) (by decide)
        have eh7 := lv_neT h7 (a := 7) (by decide)
        have eh8 := lv_neT h8 (a := 8) (by decide)
        have eh9 := lv_neT h9 (a := 9) (by decide)
        omega
      refine j_tout X d_M_ground_18 ho (tgt := 130) (by decide) ?_
      have hw := hw ho
      refine j_aload_n X d_M_ground_130 rfl 0 rfl ?_
      refine g_33_26 X f_M_162 (v := (u3 33 26)) rfl d_M_ground_131 ?_
      exact j_iret X hlk hr d_M_ground_134 hw
    · have hw := hw.2 h
      refine j_iconst X (v := (0 : Int32)) d_M_ground_15 (by decide) ?_
      exact j_iret X hlk hr d_M_ground_16 hw
  exact hX
def w_M_craft (a1 : Int32) (σ : Jst) (K : Int32 → Jst → Prop) : Prop := w_M_outside a1 (0 : Int32) (5 : Int32) σ (fun r2 u1 => w_M_fails r2 (0 : Int32) u1 (fun r4 u3 => ((r4 = (0 : Int32) → ((a1 = (0 : Int32) → K (u3 33 21) u3) ∧ ((a1 = (1 : Int32) → K (u3 33 22) u3) ∧ ((a1 = (2 : Int32) → (((u3 33 23) = (0 : Int32) → K (0 : Int32) u3) ∧ (¬ (u3 33 23) = (0 : Int32) → K (1 : Int32) u3))) ∧ ((a1 = (3 : Int32) → K (u3 33 24) u3) ∧ ((a1 = (4 : Int32) → K (u3 42 (Int32.toNatClampNeg (0 : Int32))) u3) ∧ ((Int32.toInt a1 < 0 ∨ 4 < Int32.toInt a1) → K (u3 42 (Int32.toNatClampNeg (1 : Int32))) u3))))))) ∧ (¬ r4 = (0 : Int32) → K (0 : Int32) u3))))
abbrev rm_M_craft : Room := { frames := 1, cells := 0, slots := 0, locals := 22 }
set_option maxRecDepth 100000 in
set_option maxHeartbeats 4000000 in
theorem c_M_craft (l : Launch) (D : va_G) (ca ad : Nat → Nat) (sz : Nat) (hD : Jd ca ad sz) {a1 : Int32} {σ : Jst} {K : Int32 → Jst → Prop} (hw : w_M_craft a1 σ K) : Met l y_M_craft (wG y_M_craft b_M_craft 2 (some .int)) rm_M_craft (va_Pc [.ref (ad 33), .int a1] (Jw D vwCl (tysT ca) (wlT ad ca) (NwT sz) σ)) (va_Qi K (Jq D vwCl (wlT ad ca)) (Aw sz)) 0 0 (Aw sz) := by
  refine j_met (cc := b_M_craft) (own := R_M) (by decide +kernel) rfl (Nat.le_of_ble_eq_true rfl) rfl hD (nwT_k sz) ?_
  intro p e s m args below meth c X hlk hr
  have hX : J p l e rm_M_craft s m args below meth c D vwCl (wlT ad ca) (Aw sz) 2 0 0 (MQ below (va_Qi K (Jq D vwCl (wlT ad ca)) (Aw sz)) args s 0 0 (Aw sz)) 0 [(0, .ref (ad 33)), (1, .int a1)] [] σ := by
    unfold w_M_craft at hw
    refine j_aload_n X d_M_craft_0 rfl 0 rfl ?_
    refine j_iload_n X d_M_craft_1 rfl 1 rfl ?_
    refine j_iconst X (v := (0 : Int32)) d_M_craft_2 (by decide) ?_
    refine j_iconst X (v := (5 : Int32)) d_M_craft_3 (by decide) ?_
    refine j_callSi (As := [.int a1, .int (0 : Int32), .int (5 : Int32)]) X (c_M_outside l D ca ad sz hD hw) (gcS (n := 3) X rfl rfl rfl gc_M_outside m_M_outside l_M_84 (by decide +kernel) ⟨by decide, by decide⟩) (fun _ h => h) rfl rfl (Nat.le_of_ble_eq_true rfl) ⟨by decide, by decide⟩ d_M_craft_4 (fun r2 u1 hw => ?_)
    refine j_iconst X (v := (0 : Int32)) d_M_craft_7 (by decide) ?_
    refine j_callVi (As := [.int r2, .int (0 : Int32)]) X (c_M_fails l D ca ad sz hD hw) (gcV (n := 2) X rfl rfl rfl gc_M_fails m_M_fails l_M_88 (by decide +kernel) ⟨by decide, by decide⟩) (q0 := 33) rfl rfl (fun _ h => h) rfl rfl (Nat.le_of_ble_eq_true rfl) ⟨by decide, by decide⟩ d_M_craft_8 (fun r4 u3 hw => ?_)
    refine j_if_eq X d_M_craft_11 (tgt := 16) (by decide) (fun h => ?_) (fun h => ?_)
    · have hw := hw.1 h
      refine j_iload_n X d_M_craft_16 rfl 1 rfl ?_
      by_cases h0 : a1 = (0 : Int32)
      · refine j_tin X d_M_craft_17 (0 : Int32) h0 (by decide) (by decide) (off := 35) (by decide) (tgt := 52) (by decide) ?_
        have hw := hw.1 h0
        refine j_aload_n X d_M_craft_52 rfl 0 rfl ?_
        refine g_33_21 X f_M_153 (v := (u3 33 21)) rfl d_M_craft_53 ?_
        exact j_iret X hlk hr d_M_craft_56 hw
      have hw := hw.2
      by_cases h1 : a1 = (1 : Int32)
      · refine j_tin X d_M_craft_17 (1 : Int32) h1 (by decide) (by decide) (off := 40) (by decide) (tgt := 57) (by decide) ?_
        have hw := hw.1 h1
        refine j_aload_n X d_M_craft_57 rfl 0 rfl ?_
        refine g_33_22 X f_M_146 (v := (u3 33 22)) rfl d_M_craft_58 ?_
        exact j_iret X hlk hr d_M_craft_61 hw
      have hw := hw.2
      by_cases h2 : a1 = (2 : Int32)
      · refine j_tin X d_M_craft_17 (2 : Int32) h2 (by decide) (by decide) (off := 45) (by decide) (tgt := 62) (by decide) ?_
        have hw := hw.1 h2
        refine j_aload_n X d_M_craft_62 rfl 0 rfl ?_
        refine g_33_23 X f_M_156 (v := (u3 33 23)) rfl d_M_craft_63 ?_
        refine j_if_eq X d_M_craft_66 (tgt := 73) (by decide) (fun h => ?_) (fun h => ?_)
        · have hw := hw.1 h
          refine j_iconst X (v := (0 : Int32)) d_M_craft_73 (by decide) ?_
          exact j_iret X hlk hr d_M_craft_74 hw
        · have hw := hw.2 h
          refine j_iconst X (v := (1 : Int32)) d_M_craft_69 (by decide) ?_
          refine j_goto X d_M_craft_70 (tgt := 74) (by decide) ?_
          exact j_iret X hlk hr d_M_craft_74 hw
      have hw := hw.2
      by_cases h3 : a1 = (3 : Int32)
      · refine j_tin X d_M_craft_17 (3 : Int32) h3 (by decide) (by decide) (off := 58) (by decide) (tgt := 75) (by decide) ?_
        have hw := hw.1 h3
        refine j_aload_n X d_M_craft_75 rfl 0 rfl ?_
        refine g_33_24 X f_M_159 (v := (u3 33 24)) rfl d_M_craft_76 ?_
        exact j_iret X hlk hr d_M_craft_79 hw
      have hw := hw.2
      by_cases h4 : a1 = (4 : Int32)
      · refine j_tin X d_M_craft_17 (4 : Int32) h4 (by decide) (by decide) (off := 63) (by decide) (tgt := 80) (by decide) ?_
        have hw := hw.1 h4
        refine j_aload_n X d_M_craft_80 rfl 0 rfl ?_
        refine g_33_29 X f_M_45 d_M_craft_81 ?_
        refine j_iconst X (v := (0 : Int32)) d_M_craft_84 (by decide) ?_
        refine ld_42 X (vin_lit (0 : Int32) 2 (by decide)) (v := (u3 42 (Int32.toNatClampNeg (0 : Int32)))) rfl d_M_craft_85 ?_
        exact j_iret X hlk hr d_M_craft_86 hw
      have hw := hw.2
      have ho : Int32.toInt a1 < 0 ∨ 4 < Int32.toInt a1 := by
        have eh0 := lv_neT h0 (a := 0) (by decide)
        have eh1 := lv_neT h1 (a := 1) (by decide)
        have eh2 := lv_neT h2 (a := 2) (by decide)
        have eh3 := lv_neT h3 (a := 3) (by decide)
        have eh4 := lv_neT h4 (a := 4) (by decide)
        omega
      refine j_tout X d_M_craft_17 ho (tgt := 87) (by decide) ?_
      have hw := hw ho
      refine j_aload_n X d_M_craft_87 rfl 0 rfl ?_
      refine g_33_29 X f_M_45 d_M_craft_88 ?_
      refine j_iconst X (v := (1 : Int32)) d_M_craft_91 (by decide) ?_
      refine ld_42 X (vin_lit (1 : Int32) 2 (by decide)) (v := (u3 42 (Int32.toNatClampNeg (1 : Int32)))) rfl d_M_craft_92 ?_
      exact j_iret X hlk hr d_M_craft_93 hw
    · have hw := hw.2 h
      refine j_iconst X (v := (0 : Int32)) d_M_craft_14 (by decide) ?_
      exact j_iret X hlk hr d_M_craft_15 hw
  exact hX
def w_M_flight (a1 : Int32) (a2 : Int32) (σ : Jst) (K : Int32 → Jst → Prop) : Prop := w_M_outside a1 (0 : Int32) ((σ 33 17) - (1 : Int32)) σ (fun r2 u1 => w_M_fails r2 (0 : Int32) u1 (fun r4 u3 => ((r4 = (0 : Int32) → ((¬ a2 = (0 : Int32) → ((¬ a2 = (1 : Int32) → ((¬ a2 = (2 : Int32) → K (0 : Int32) u3) ∧ (a2 = (2 : Int32) → (vp_in a1 20 ∧ K (u3 38 (Int32.toNatClampNeg a1)) u3)))) ∧ (a2 = (1 : Int32) → (vp_in a1 20 ∧ K (u3 37 (Int32.toNatClampNeg a1)) u3)))) ∧ (a2 = (0 : Int32) → (vp_in a1 20 ∧ K (u3 36 (Int32.toNatClampNeg a1)) u3)))) ∧ (¬ r4 = (0 : Int32) → K (0 : Int32) u3))))
abbrev rm_M_flight : Room := { frames := 1, cells := 0, slots := 0, locals := 22 }
set_option maxRecDepth 100000 in
set_option maxHeartbeats 4000000 in
theorem c_M_flight (l : Launch) (D : va_G) (ca ad : Nat → Nat) (sz : Nat) (hD : Jd ca ad sz) {a1 a2 : Int32} {σ : Jst} {K : Int32 → Jst → Prop} (hw : w_M_flight a1 a2 σ K) : Met l y_M_flight (wG y_M_flight b_M_flight 3 (some .int)) rm_M_flight (va_Pc [.ref (ad 33), .int a1, .int a2] (Jw D vwCl (tysT ca) (wlT ad ca) (NwT sz) σ)) (va_Qi K (Jq D vwCl (wlT ad ca)) (Aw sz)) 0 0 (Aw sz) := by
  refine j_met (cc := b_M_flight) (own := R_M) (by decide +kernel) rfl (Nat.le_of_ble_eq_true rfl) rfl hD (nwT_k sz) ?_
  intro p e s m args below meth c X hlk hr
  have hX : J p l e rm_M_flight s m args below meth c D vwCl (wlT ad ca) (Aw sz) 3 0 0 (MQ below (va_Qi K (Jq D vwCl (wlT ad ca)) (Aw sz)) args s 0 0 (Aw sz)) 0 [(0, .ref (ad 33)), (1, .int a1), (2, .int a2)] [] σ := by
    unfold w_M_flight at hw
    refine j_aload_n X d_M_flight_0 rfl 0 rfl ?_
    refine j_iload_n X d_M_flight_1 rfl 1 rfl ?_
    refine j_iconst X (v := (0 : Int32)) d_M_flight_2 (by decide) ?_
    refine j_aload_n X d_M_flight_3 rfl 0 rfl ?_
    refine g_33_17 X f_M_130 (v := (σ 33 17)) rfl d_M_flight_4 ?_
    refine j_iconst X (v := (1 : Int32)) d_M_flight_7 (by decide) ?_
    refine j_isub X d_M_flight_8 ?_
    refine j_callSi (As := [.int a1, .int (0 : Int32), .int ((σ 33 17) - (1 : Int32))]) X (c_M_outside l D ca ad sz hD hw) (gcS (n := 3) X rfl rfl rfl gc_M_outside m_M_outside l_M_84 (by decide +kernel) ⟨by decide, by decide⟩) (fun _ h => h) rfl rfl (Nat.le_of_ble_eq_true rfl) ⟨by decide, by decide⟩ d_M_flight_9 (fun r2 u1 hw => ?_)
    refine j_iconst X (v := (0 : Int32)) d_M_flight_12 (by decide) ?_
    refine j_callVi (As := [.int r2, .int (0 : Int32)]) X (c_M_fails l D ca ad sz hD hw) (gcV (n := 2) X rfl rfl rfl gc_M_fails m_M_fails l_M_88 (by decide +kernel) ⟨by decide, by decide⟩) (q0 := 33) rfl rfl (fun _ h => h) rfl rfl (Nat.le_of_ble_eq_true rfl) ⟨by decide, by decide⟩ d_M_flight_13 (fun r4 u3 hw => ?_)
    refine j_if_eq X d_M_flight_16 (tgt := 21) (by decide) (fun h => ?_) (fun h => ?_)
    · have hw := hw.1 h
      refine j_iload_n X d_M_flight_21 rfl 2 rfl ?_
      refine j_if_ne X d_M_flight_22 (tgt := 34) (by decide) (fun h => ?_) (fun h => ?_)
      · have hw := hw.1 h
        refine j_iload_n X d_M_flight_34 rfl 2 rfl ?_
        refine j_iconst X (v := (1 : Int32)) d_M_flight_35 (by decide) ?_
        refine j_icmp_ne X d_M_flight_36 (tgt := 48) (by decide) (fun h => ?_) (fun h => ?_)
        · have hw := hw.1 h
          refine j_iload_n X d_M_flight_48 rfl 2 rfl ?_
          refine j_iconst X (v := (2 : Int32)) d_M_flight_49 (by decide) ?_
          refine j_icmp_ne X d_M_flight_50 (tgt := 62) (by decide) (fun h => ?_) (fun h => ?_)
          · have hw := hw.1 h
            refine j_iconst X (v := (0 : Int32)) d_M_flight_62 (by decide) ?_
            exact j_iret X hlk hr d_M_flight_63 hw
          · have hw := hw.2 h
            refine j_aload_n X d_M_flight_53 rfl 0 rfl ?_
            refine g_33_20 X f_M_33 d_M_flight_54 ?_
            refine j_iload_n X d_M_flight_57 rfl 1 rfl ?_
            refine ld_38 X hw.1 (v := (u3 38 (Int32.toNatClampNeg a1))) rfl d_M_flight_58 ?_
            have hw := hw.2
            refine j_goto X d_M_flight_59 (tgt := 63) (by decide) ?_
            exact j_iret X hlk hr d_M_flight_63 hw
        · have hw := hw.2 h
          refine j_aload_n X d_M_flight_39 rfl 0 rfl ?_
          refine g_33_19 X f_M_30 d_M_flight_40 ?_
          refine j_iload_n X d_M_flight_43 rfl 1 rfl ?_
          refine ld_37 X hw.1 (v := (u3 37 (Int32.toNatClampNeg a1))) rfl d_M_flight_44 ?_
          have hw := hw.2
          refine j_goto X d_M_flight_45 (tgt := 63) (by decide) ?_
          exact j_iret X hlk hr d_M_flight_63 hw
      · have hw := hw.2 h
        refine j_aload_n X d_M_flight_25 rfl 0 rfl ?_
        refine g_33_18 X f_M_27 d_M_flight_26 ?_
        refine j_iload_n X d_M_flight_29 rfl 1 rfl ?_
        refine ld_36 X hw.1 (v := (u3 36 (Int32.toNatClampNeg a1))) rfl d_M_flight_30 ?_
        have hw := hw.2
        refine j_goto X d_M_flight_31 (tgt := 63) (by decide) ?_
        exact j_iret X hlk hr d_M_flight_63 hw
    · have hw := hw.2 h
      refine j_iconst X (v := (0 : Int32)) d_M_flight_19 (by decide) ?_
      exact j_iret X hlk hr d_M_flight_20 hw
  exact hX
def w_M_packets (σ : Jst) (K : Int32 → Jst → Prop) : Prop := K (σ 33 39) (jup σ 33 0 (0 : Int32))
abbrev rm_M_packets : Room := { frames := 0, cells := 0, slots := 0, locals := 0 }
set_option maxRecDepth 100000 in
set_option maxHeartbeats 4000000 in
theorem c_M_packets (l : Launch) (D : va_G) (ca ad : Nat → Nat) (sz : Nat) (hD : Jd ca ad sz) {σ : Jst} {K : Int32 → Jst → Prop} (hw : w_M_packets σ K) : Met l y_M_packets (wG y_M_packets b_M_packets 1 (some .int)) rm_M_packets (va_Pc [.ref (ad 33)] (Jw D vwCl (tysT ca) (wlT ad ca) (NwT sz) σ)) (va_Qi K (Jq D vwCl (wlT ad ca)) (Aw sz)) 0 0 (Aw sz) := by
  refine j_met (cc := b_M_packets) (own := R_M) (by decide +kernel) rfl (Nat.le_of_ble_eq_true rfl) rfl hD (nwT_k sz) ?_
  intro p e s m args below meth c X hlk hr
  have hX : J p l e rm_M_packets s m args below meth c D vwCl (wlT ad ca) (Aw sz) 1 0 0 (MQ below (va_Qi K (Jq D vwCl (wlT ad ca)) (Aw sz)) args s 0 0 (Aw sz)) 0 [(0, .ref (ad 33))] [] σ := by
    unfold w_M_packets at hw
    refine j_aload_n X d_M_packets_0 rfl 0 rfl ?_
    refine j_iconst X (v := (0 : Int32)) d_M_packets_1 (by decide) ?_
    refine p_33_0 X f_M_78 d_M_packets_2 ?_
    refine j_aload_n X d_M_packets_5 rfl 0 rfl ?_
    refine g_33_39 X f_M_179 (v := (σ 33 39)) rfl d_M_packets_6 ?_
    exact j_iret X hlk hr d_M_packets_9 hw
  exact hX
def w_M_got (a1 : Int32) (a2 : Int32) (σ : Jst) (K : Int32 → Jst → Prop) : Prop := w_M_outside a1 (0 : Int32) ((σ 33 39) - (1 : Int32)) σ (fun r2 u1 => w_M_fails r2 (0 : Int32) u1 (fun r4 u3 => ((r4 = (0 : Int32) → w_M_outside a2 (0 : Int32) (3 : Int32) u3 (fun r6 u5 => ((r6 = (0 : Int32) → (vp_in (((4 : Int32) * a1) + a2) 160 ∧ K (u5 52 (Int32.toNatClampNeg (((4 : Int32) * a1) + a2))) u5)) ∧ (¬ r6 = (0 : Int32) → K (0 : Int32) u5)))) ∧ (¬ r4 = (0 : Int32) → K (0 : Int32) u3))))
abbrev rm_M_got : Room := { frames := 1, cells := 0, slots := 0, locals := 22 }
set_option maxRecDepth 100000 in
set_option maxHeartbeats 4000000 in
theorem c_M_got (l : Launch) (D : va_G) (ca ad : Nat → Nat) (sz : Nat) (hD : Jd ca ad sz) {a1 a2 : Int32} {σ : Jst} {K : Int32 → Jst → Prop} (hw : w_M_got a1 a2 σ K) : Met l y_M_got (wG y_M_got b_M_got 3 (some .int)) rm_M_got (va_Pc [.ref (ad 33), .int a1, .int a2] (Jw D vwCl (tysT ca) (wlT ad ca) (NwT sz) σ)) (va_Qi K (Jq D vwCl (wlT ad ca)) (Aw sz)) 0 0 (Aw sz) := by
  refine j_met (cc := b_M_got) (own := R_M) (by decide +kernel) rfl (Nat.le_of_ble_eq_true rfl) rfl hD (nwT_k sz) ?_
  intro p e s m args below meth c X hlk hr
  have hX : J p l e rm_M_got s m args below meth c D vwCl (wlT ad ca) (Aw sz) 3 0 0 (MQ below (va_Qi K (Jq D vwCl (wlT ad ca)) (Aw sz)) args s 0 0 (Aw sz)) 0 [(0, .ref (ad 33)), (1, .int a1), (2, .int a2)] [] σ := by
    unfold w_M_got at hw
    refine j_aload_n X d_M_got_0 rfl 0 rfl ?_
    refine j_iload_n X d_M_got_1 rfl 1 rfl ?_
    refine j_iconst X (v := (0 : Int32)) d_M_got_2 (by decide) ?_
    refine j_aload_n X d_M_got_3 rfl 0 rfl ?_
    refine g_33_39 X f_M_179 (v := (σ 33 39)) rfl d_M_got_4 ?_
    refine j_iconst X (v := (1 : Int32)) d_M_got_7 (by decide) ?_
    refine j_isub X d_M_got_8 ?_
    refine j_callSi (As := [.int a1, .int (0 : Int32), .int ((σ 33 39) - (1 : Int32))]) X (c_M_outside l D ca ad sz hD hw) (gcS (n := 3) X rfl rfl rfl gc_M_outside m_M_outside l_M_84 (by decide +kernel) ⟨by decide, by decide⟩) (fun _ h => h) rfl rfl (Nat.le_of_ble_eq_true rfl) ⟨by decide, by decide⟩ d_M_got_9 (fun r2 u1 hw => ?_)
    refine j_iconst X (v := (0 : Int32)) d_M_got_12 (by decide) ?_
    refine j_callVi (As := [.int r2, .int (0 : Int32)]) X (c_M_fails l D ca ad sz hD hw) (gcV (n := 2) X rfl rfl rfl gc_M_fails m_M_fails l_M_88 (by decide +kernel) ⟨by decide, by decide⟩) (q0 := 33) rfl rfl (fun _ h => h) rfl rfl (Nat.le_of_ble_eq_true rfl) ⟨by decide, by decide⟩ d_M_got_13 (fun r4 u3 hw => ?_)
    refine j_if_eq X d_M_got_16 (tgt := 21) (by decide) (fun h => ?_) (fun h => ?_)
    · have hw := hw.1 h
      refine j_iload_n X d_M_got_21 rfl 2 rfl ?_
      refine j_iconst X (v := (0 : Int32)) d_M_got_22 (by decide) ?_
      refine j_iconst X (v := (3 : Int32)) d_M_got_23 (by decide) ?_
      refine j_callSi (As := [.int a2, .int (0 : Int32), .int (3 : Int32)]) X (c_M_outside l D ca ad sz hD hw) (gcS (n := 3) X rfl rfl rfl gc_M_outside m_M_outside l_M_84 (by decide +kernel) ⟨by decide, by decide⟩) (fun _ h => h) rfl rfl (Nat.le_of_ble_eq_true rfl) ⟨by decide, by decide⟩ d_M_got_24 (fun r6 u5 hw => ?_)
      refine j_if_eq X d_M_got_27 (tgt := 34) (by decide) (fun h => ?_) (fun h => ?_)
      · have hw := hw.1 h
        refine j_aload_n X d_M_got_34 rfl 0 rfl ?_
        refine g_33_40 X f_M_75 d_M_got_35 ?_
        refine j_iconst X (v := (4 : Int32)) d_M_got_38 (by decide) ?_
        refine j_iload_n X d_M_got_39 rfl 1 rfl ?_
        refine j_imul X d_M_got_40 ?_
        refine j_iload_n X d_M_got_41 rfl 2 rfl ?_
        refine j_iadd X d_M_got_42 ?_
        refine ld_52 X hw.1 (v := (u5 52 (Int32.toNatClampNeg (((4 : Int32) * a1) + a2)))) rfl d_M_got_43 ?_
        have hw := hw.2
        exact j_iret X hlk hr d_M_got_44 hw
      · have hw := hw.2 h
        refine j_iconst X (v := (0 : Int32)) d_M_got_30 (by decide) ?_
        refine j_goto X d_M_got_31 (tgt := 44) (by decide) ?_
        exact j_iret X hlk hr d_M_got_44 hw
    · have hw := hw.2 h
      refine j_iconst X (v := (0 : Int32)) d_M_got_19 (by decide) ?_
      exact j_iret X hlk hr d_M_got_20 hw
  exact hX
