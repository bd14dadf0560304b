def w_T_isWithin (a1 : Int32) (a2 : Int32) (a3 : Int32) (σ : Jst) (K : Int32 → Jst → Prop) : Prop := ((a1 < a2 → K (0 : Int32) σ) ∧ (¬ a1 < a2 → ((a3 < a1 → K (0 : Int32) σ) ∧ (¬ a3 < a1 → K (1 : Int32) σ))))
abbrev rm_T_isWithin : Room := { frames := 0, cells := 0, slots := 0, locals := 0 }
set_option maxRecDepth 100000 in
set_option maxHeartbeats 4000000 in
theorem c_T_isWithin (l : Launch) (D : va_G) (ca ad : Nat → Nat) (sz : Nat) (hD : Jd ca ad sz) {a1 a2 a3 : Int32} {σ : Jst} {K : Int32 → Jst → Prop} (hw : w_T_isWithin a1 a2 a3 σ K) : Met l y_T_isWithin (wG y_T_isWithin b_T_isWithin 3 (some .boolean)) rm_T_isWithin (va_Pc [.int a1, .int a2, .int a3] (Jw D vwCl (tysT ca) (wlT ad ca) (NwT sz) σ)) (va_Qi K (Jq D vwCl (wlT ad ca)) (Aw sz)) 0 0 (Aw sz) := by
  refine j_met (cc := b_T_isWithin) (own := R_T) (by decide +kernel) rfl (Nat.le_of_ble_eq_true rfl) rfl hD (nwT_k sz) ?_
  intro p e s m args below meth c X hlk hr
  have hX : J p l e rm_T_isWithin s m args below meth c D vwCl (wlT ad ca) (Aw sz) 3 0 0 (MQ below (va_Qi K (Jq D vwCl (wlT ad ca)) (Aw sz)) args s 0 0 (Aw sz)) 0 [(0, .int a1), (1, .int a2), (2, .int a3)] [] σ := by
    unfold w_T_isWithin at hw
    refine j_iload_n X d_T_isWithin_0 rfl 0 rfl ?_
    refine j_iload_n X d_T_isWithin_1 rfl 1 rfl ?_
    refine j_icmp_lt X d_T_isWithin_2 (tgt := 14) (by decide) (fun h => ?_) (fun h => ?_)
    · have hw := hw.1 h
      refine j_iconst X (v := (0 : Int32)) d_T_isWithin_14 (by decide) ?_
      exact j_zret X hlk hr rfl d_T_isWithin_15 hw
    · have hw := hw.2 h
      refine j_iload_n X d_T_isWithin_5 rfl 0 rfl ?_
      refine j_iload_n X d_T_isWithin_6 rfl 2 rfl ?_
      refine j_icmp_gt X d_T_isWithin_7 (tgt := 14) (by decide) (fun h => ?_) (fun h => ?_)
      · have hw := hw.1 h
        refine j_iconst X (v := (0 : Int32)) d_T_isWithin_14 (by decide) ?_
        exact j_zret X hlk hr rfl d_T_isWithin_15 hw
      · have hw := hw.2 h
        refine j_iconst X (v := (1 : Int32)) d_T_isWithin_10 (by decide) ?_
        refine j_goto X d_T_isWithin_11 (tgt := 15) (by decide) ?_
        exact j_zret X hlk hr rfl d_T_isWithin_15 hw
  exact hX
def w_T_tune (a1 : Int32) (a2 : Int32) (a3 : Int32) (σ : Jst) (K : Option Int32 → Jst → Prop) (KX : String → Jst → Prop) : Prop := w_Gr_isIdle σ (fun r2 u1 => ((¬ r2 = (0 : Int32) → w_T_isWithin a1 (1 : Int32) (4 : Int32) u1 (fun r4 u3 => ((r4 = (0 : Int32) → KX "java/lang/IllegalArgumentException" u3) ∧ (¬ r4 = (0 : Int32) → w_T_isWithin a2 (1 : Int32) (9 : Int32) u3 (fun r6 u5 => ((r6 = (0 : Int32) → KX "java/lang/IllegalArgumentException" u5) ∧ (¬ r6 = (0 : Int32) → w_T_isWithin a3 (1 : Int32) (20 : Int32) u5 (fun r8 u7 => ((¬ r8 = (0 : Int32) → w_Gr_adjust a1 a2 a3 u7 (fun u9 => K none u9)) ∧ (r8 = (0 : Int32) → KX "java/lang/IllegalArgumentException" u7)))))))))) ∧ (r2 = (0 : Int32) → KX "java/lang/IllegalStateException" u1)))
abbrev rm_T_tune : Room := { frames := 6, cells := 1, slots := 6, locals := 90 }
set_option maxRecDepth 100000 in
set_option maxHeartbeats 4000000 in
theorem c_T_tune (l : Launch) (hlt : l.stackTraces = false) (D : va_G) (ca ad : Nat → Nat) (sz : Nat) (hD : Jd ca ad sz) {a1 a2 a3 : Int32} {σ : Jst} {K : Option Int32 → Jst → Prop} {KX : String → Jst → Prop} (hw : w_T_tune a1 a2 a3 σ K KX) : XMet l y_T_tune (wG y_T_tune b_T_tune 4 none) rm_T_tune (va_Pc [.ref (ad 0), .int a1, .int a2, .int a3] (Jw D vwCl (tysT ca) (wlT ad ca) (NwT sz) σ)) D vwCl (wlT ad ca) (Aw sz) K KX 1 6 := by
  refine x_met (cc := b_T_tune) (own := R_T) (by decide +kernel) rfl (Nat.le_of_ble_eq_true rfl) rfl hD (nwT_k sz) ?_
  intro p e s m args below meth c X hlk hr hE
  have hX : J p l e rm_T_tune s m args below meth c D vwCl (wlT ad ca) (Aw sz) 4 0 0 (XE below D vwCl (wlT ad ca) (Aw sz) K KX args s 1 6) 0 [(0, .ref (ad 0)), (1, .int a1), (2, .int a2), (3, .int a3)] [] σ := by
    unfold w_T_tune at hw
    refine j_aload_n X d_T_tune_0 rfl 0 rfl ?_
    refine g_0_2 X f_T_26 d_T_tune_1 ?_
    refine j_callVi (As := []) X (c_Gr_isIdle l D ca ad sz hD hw) (gcV (n := 0) X rfl rfl rfl gc_Gr_isIdle m_Gr_isIdle l_T_67 (by decide +kernel) ⟨by decide, by decide⟩) (q0 := 9) rfl rfl (fun _ h => h) rfl rfl (Nat.le_of_ble_eq_true rfl) ⟨by decide, by decide⟩ d_T_tune_4 (fun r2 u1 hw => ?_)
    refine j_if_ne X d_T_tune_7 (tgt := 20) (by decide) (fun h => ?_) (fun h => ?_)
    · have hw := hw.1 h
      refine j_iload_n X d_T_tune_20 rfl 1 rfl ?_
      refine j_iconst X (v := (1 : Int32)) d_T_tune_21 (by decide) ?_
      refine j_iconst X (v := (4 : Int32)) d_T_tune_22 (by decide) ?_
      refine j_callSi (As := [.int a1, .int (1 : Int32), .int (4 : Int32)]) X (c_T_isWithin l D ca ad sz hD hw) (gcS (n := 3) X rfl rfl rfl gc_T_isWithin m_T_isWithin l_T_78 (by decide +kernel) ⟨by decide, by decide⟩) (fun _ h => h) rfl rfl (Nat.le_of_ble_eq_true rfl) ⟨by decide, by decide⟩ d_T_tune_23 (fun r4 u3 hw => ?_)
      refine j_if_eq X d_T_tune_26 (tgt := 49) (by decide) (fun h => ?_) (fun h => ?_)
      · have hw := hw.1 h
        exact x_throw X hlt hlk hE (cls := "java/lang/IllegalArgumentException") (text := "window, limit or span") (names := excN) (by decide) (by decide) (fun s' hN hG => ⟨(at_82 hN hG).1, (at_82 hN hG).2.1, (at_82 hN hG).2.2, str_use hN (k := 84) (t := "window, limit or span") (by decide)⟩) d_T_tune_49 d_T_tune_52 d_T_tune_53 d_T_tune_55 d_T_tune_58 (by decide) (Nat.le_of_ble_eq_true rfl) (by decide) (by decide) (by decide) (by decide) hw
      · have hw := hw.2 h
        refine j_iload_n X d_T_tune_29 rfl 2 rfl ?_
        refine j_iconst X (v := (1 : Int32)) d_T_tune_30 (by decide) ?_
        refine j_bipush X (v := (9 : Int32)) d_T_tune_31 (by decide) ?_
        refine j_callSi (As := [.int a2, .int (1 : Int32), .int (9 : Int32)]) X (c_T_isWithin l D ca ad sz hD hw) (gcS (n := 3) X rfl rfl rfl gc_T_isWithin m_T_isWithin l_T_78 (by decide +kernel) ⟨by decide, by decide⟩) (fun _ h => h) rfl rfl (Nat.le_of_ble_eq_true rfl) ⟨by decide, by decide⟩ d_T_tune_33 (fun r6 u5 hw => ?_)
        refine j_if_eq X d_T_tune_36 (tgt := 49) (by decide) (fun h => ?_) (fun h => ?_)
        · have hw := hw.1 h
          exact x_throw X hlt hlk hE (cls := "java/lang/IllegalArgumentException") (text := "window, limit or span") (names := excN) (by decide) (by decide) (fun s' hN hG => ⟨(at_82 hN hG).1, (at_82 hN hG).2.1, (at_82 hN hG).2.2, str_use hN (k := 84) (t := "window, limit or span") (by decide)⟩) d_T_tune_49 d_T_tune_52 d_T_tune_53 d_T_tune_55 d_T_tune_58 (by decide) (Nat.le_of_ble_eq_true rfl) (by decide) (by decide) (by decide) (by decide) hw
        · have hw := hw.2 h
          refine j_iload_n X d_T_tune_39 rfl 3 rfl ?_
          refine j_iconst X (v := (1 : Int32)) d_T_tune_40 (by decide) ?_
          refine j_bipush X (v := (20 : Int32)) d_T_tune_41 (by decide) ?_
          refine j_callSi (As := [.int a3, .int (1 : Int32), .int (20 : Int32)]) X (c_T_isWithin l D ca ad sz hD hw) (gcS (n := 3) X rfl rfl rfl gc_T_isWithin m_T_isWithin l_T_78 (by decide +kernel) ⟨by decide, by decide⟩) (fun _ h => h) rfl rfl (Nat.le_of_ble_eq_true rfl) ⟨by decide, by decide⟩ d_T_tune_43 (fun r8 u7 hw => ?_)
          refine j_if_ne X d_T_tune_46 (tgt := 59) (by decide) (fun h => ?_) (fun h => ?_)
          · have hw := hw.1 h
            refine j_aload_n X d_T_tune_59 rfl 0 rfl ?_
            refine g_0_2 X f_T_26 d_T_tune_60 ?_
            refine j_iload_n X d_T_tune_63 rfl 1 rfl ?_
            refine j_iload_n X d_T_tune_64 rfl 2 rfl ?_
            refine j_iload_n X d_T_tune_65 rfl 3 rfl ?_
            refine j_callVv (As := [.int a1, .int a2, .int a3]) X (c_Gr_adjust l D ca ad sz hD hw) (gcV (n := 3) X rfl rfl rfl gc_Gr_adjust m_Gr_adjust l_T_87 (by decide +kernel) ⟨by decide, by decide⟩) (q0 := 9) rfl rfl (fun _ h => h) rfl rfl (Nat.le_of_ble_eq_true rfl) ⟨by decide, by decide⟩ d_T_tune_66 (fun u9 hw => ?_)
            exact x_vret X hlk hr (by decide) (by decide) d_T_tune_69 hw
          · have hw := hw.2 h
            exact x_throw X hlt hlk hE (cls := "java/lang/IllegalArgumentException") (text := "window, limit or span") (names := excN) (by decide) (by decide) (fun s' hN hG => ⟨(at_82 hN hG).1, (at_82 hN hG).2.1, (at_82 hN hG).2.2, str_use hN (k := 84) (t := "window, limit or span") (by decide)⟩) d_T_tune_49 d_T_tune_52 d_T_tune_53 d_T_tune_55 d_T_tune_58 (by decide) (Nat.le_of_ble_eq_true rfl) (by decide) (by decide) (by decide) (by decide) hw
    · have hw := hw.2 h
      exact x_throw X hlt hlk hE (cls := "java/lang/IllegalStateException") (text := "the ground is not idle") (names := excN) (by decide) (by decide) (fun s' hN hG => ⟨(at_71 hN hG).1, (at_71 hN hG).2.1, (at_71 hN hG).2.2, str_use hN (k := 73) (t := "the ground is not idle") (by decide)⟩) d_T_tune_10 d_T_tune_13 d_T_tune_14 d_T_tune_16 d_T_tune_19 (by decide) (Nat.le_of_ble_eq_true rfl) (by decide) (by decide) (by decide) (by decide) hw
  exact hX
def w_T_number (a1 : Int32) (σ : Jst) (K : Option Int32 → Jst → Prop) (KX : String → Jst → Prop) : Prop := w_Gr_isIdle σ (fun r2 u1 => ((¬ r2 = (0 : Int32) → w_T_isWithin a1 (0 : Int32) (15 : Int32) u1 (fun r4 u3 => ((¬ r4 = (0 : Int32) → w_Gr_renumber a1 u3 (fun u5 => K none u5)) ∧ (r4 = (0 : Int32) → KX "java/lang/IllegalArgumentException" u3)))) ∧ (r2 = (0 : Int32) → KX "java/lang/IllegalStateException" u1)))
abbrev rm_T_number : Room := { frames := 6, cells := 1, slots := 6, locals := 90 }
set_option maxRecDepth 100000 in
set_option maxHeartbeats 4000000 in
theorem c_T_number (l : Launch) (hlt : l.stackTraces = false) (D : va_G) (ca ad : Nat → Nat) (sz : Nat) (hD : Jd ca ad sz) {a1 : Int32} {σ : Jst} {K : Option Int32 → Jst → Prop} {KX : String → Jst → Prop} (hw : w_T_number a1 σ K KX) : XMet l y_T_number (wG y_T_number b_T_number 2 none) rm_T_number (va_Pc [.ref (ad 0), .int a1] (Jw D vwCl (tysT ca) (wlT ad ca) (NwT sz) σ)) D vwCl (wlT ad ca) (Aw sz) K KX 1 6 := by
  refine x_met (cc := b_T_number) (own := R_T) (by decide +kernel) rfl (Nat.le_of_ble_eq_true rfl) rfl hD (nwT_k sz) ?_
  intro p e s m args below meth c X hlk hr hE
  have hX : J p l e rm_T_number s m args below meth c D vwCl (wlT ad ca) (Aw sz) 2 0 0 (XE below D vwCl (wlT ad ca) (Aw sz) K KX args s 1 6) 0 [(0, .ref (ad 0)), (1, .int a1)] [] σ := by
    unfold w_T_number at hw
    refine j_aload_n X d_T_number_0 rfl 0 rfl ?_
    refine g_0_2 X f_T_26 d_T_number_1 ?_
    refine j_callVi (As := []) X (c_Gr_isIdle l D ca ad sz hD hw) (gcV (n := 0) X rfl rfl rfl gc_Gr_isIdle m_Gr_isIdle l_T_67 (by decide +kernel) ⟨by decide, by decide⟩) (q0 := 9) rfl rfl (fun _ h => h) rfl rfl (Nat.le_of_ble_eq_true rfl) ⟨by decide, by decide⟩ d_T_number_4 (fun r2 u1 hw => ?_)
    refine j_if_ne X d_T_number_7 (tgt := 20) (by decide) (fun h => ?_) (fun h => ?_)
    · have hw := hw.1 h
      refine j_iload_n X d_T_number_20 rfl 1 rfl ?_
      refine j_iconst X (v := (0 : Int32)) d_T_number_21 (by decide) ?_
      refine j_bipush X (v := (15 : Int32)) d_T_number_22 (by decide) ?_
      refine j_callSi (As := [.int a1, .int (0 : Int32), .int (15 : Int32)]) X (c_T_isWithin l D ca ad sz hD hw) (gcS (n := 3) X rfl rfl rfl gc_T_isWithin m_T_isWithin l_T_78 (by decide +kernel) ⟨by decide, by decide⟩) (fun _ h => h) rfl rfl (Nat.le_of_ble_eq_true rfl) ⟨by decide, by decide⟩ d_T_number_24 (fun r4 u3 hw => ?_)
      refine j_if_ne X d_T_number_27 (tgt := 40) (by decide) (fun h => ?_) (fun h => ?_)
      · have hw := hw.1 h
        refine j_aload_n X d_T_number_40 rfl 0 rfl ?_
        refine g_0_2 X f_T_26 d_T_number_41 ?_
        refine j_iload_n X d_T_number_44 rfl 1 rfl ?_
        refine j_callVv (As := [.int a1]) X (c_Gr_renumber l D ca ad sz hD hw) (gcV (n := 1) X rfl rfl rfl gc_Gr_renumber m_Gr_renumber l_T_93 (by decide +kernel) ⟨by decide, by decide⟩) (q0 := 9) rfl rfl (fun _ h => h) rfl rfl (Nat.le_of_ble_eq_true rfl) ⟨by decide, by decide⟩ d_T_number_45 (fun u5 hw => ?_)
        exact x_vret X hlk hr (by decide) (by decide) d_T_number_48 hw
      · have hw := hw.2 h
        exact x_throw X hlt hlk hE (cls := "java/lang/IllegalArgumentException") (text := "number") (names := excN) (by decide) (by decide) (fun s' hN hG => ⟨(at_82 hN hG).1, (at_82 hN hG).2.1, (at_82 hN hG).2.2, str_use hN (k := 91) (t := "number") (by decide)⟩) d_T_number_30 d_T_number_33 d_T_number_34 d_T_number_36 d_T_number_39 (by decide) (Nat.le_of_ble_eq_true rfl) (by decide) (by decide) (by decide) (by decide) hw
    · have hw := hw.2 h
      exact x_throw X hlt hlk hE (cls := "java/lang/IllegalStateException") (text := "the ground is not idle") (names := excN) (by decide) (by decide) (fun s' hN hG => ⟨(at_71 hN hG).1, (at_71 hN hG).2.1, (at_71 hN hG).2.2, str_use hN (k := 73) (t := "the ground is not idle") (by decide)⟩) d_T_number_10 d_T_number_13 d_T_number_14 d_T_number_16 d_T_number_19 (by decide) (Nat.le_of_ble_eq_true rfl) (by decide) (by decide) (by decide) (by decide) hw
  exact hX
def w_T_begin (a1 : Int32) (σ : Jst) (K : Option Int32 → Jst → Prop) (KX : String → Jst → Prop) : Prop := w_Gr_isIdle σ (fun r2 u1 => ((¬ r2 = (0 : Int32) → w_T_isWithin a1 (0 : Int32) (3 : Int32) u1 (fun r4 u3 => ((¬ r4 = (0 : Int32) → w_Gr_start a1 u3 (fun u5 => K none u5)) ∧ (r4 = (0 : Int32) → KX "java/lang/IllegalArgumentException" u3)))) ∧ (r2 = (0 : Int32) → KX "java/lang/IllegalStateException" u1)))
abbrev rm_T_begin : Room := { frames := 6, cells := 1, slots := 6, locals := 90 }
set_option maxRecDepth 100000 in
set_option maxHeartbeats 4000000 in
theorem c_T_begin (l : Launch) (hlt : l.stackTraces = false) (D : va_G) (ca ad : Nat → Nat) (sz : Nat) (hD : Jd ca ad sz) {a1 : Int32} {σ : Jst} {K : Option Int32 → Jst → Prop} {KX : String → Jst → Prop} (hw : w_T_begin a1 σ K KX) : XMet l y_T_begin (wG y_T_begin b_T_begin 2 none) rm_T_begin (va_Pc [.ref (ad 0), .int a1] (Jw D vwCl (tysT ca) (wlT ad ca) (NwT sz) σ)) D vwCl (wlT ad ca) (Aw sz) K KX 1 6 := by
  refine x_met (cc := b_T_begin) (own := R_T) (by decide +kernel) rfl (Nat.le_of_ble_eq_true rfl) rfl hD (nwT_k sz) ?_
  intro p e s m args below meth c X hlk hr hE
  have hX : J p l e rm_T_begin s m args below meth c D vwCl (wlT ad ca) (Aw sz) 2 0 0 (XE below D vwCl (wlT ad ca) (Aw sz) K KX args s 1 6) 0 [(0, .ref (ad 0)), (1, .int a1)] [] σ := by
    unfold w_T_begin at hw
    refine j_aload_n X d_T_begin_0 rfl 0 rfl ?_
    refine g_0_2 X f_T_26 d_T_begin_1 ?_
    refine j_callVi (As := []) X (c_Gr_isIdle l D ca ad sz hD hw) (gcV (n := 0) X rfl rfl rfl gc_Gr_isIdle m_Gr_isIdle l_T_67 (by decide +kernel) ⟨by decide, by decide⟩) (q0 := 9) rfl rfl (fun _ h => h) rfl rfl (Nat.le_of_ble_eq_true rfl) ⟨by decide, by decide⟩ d_T_begin_4 (fun r2 u1 hw => ?_)
    refine j_if_ne X d_T_begin_7 (tgt := 20) (by decide) (fun h => ?_) (fun h => ?_)
    · have hw := hw.1 h
      refine j_iload_n X d_T_begin_20 rfl 1 rfl ?_
      refine j_iconst X (v := (0 : Int32)) d_T_begin_21 (by decide) ?_
      refine j_iconst X (v := (3 : Int32)) d_T_begin_22 (by decide) ?_
      refine j_callSi (As := [.int a1, .int (0 : Int32), .int (3 : Int32)]) X (c_T_isWithin l D ca ad sz hD hw) (gcS (n := 3) X rfl rfl rfl gc_T_isWithin m_T_isWithin l_T_78 (by decide +kernel) ⟨by decide, by decide⟩) (fun _ h => h) rfl rfl (Nat.le_of_ble_eq_true rfl) ⟨by decide, by decide⟩ d_T_begin_23 (fun r4 u3 hw => ?_)
      refine j_if_ne X d_T_begin_26 (tgt := 39) (by decide) (fun h => ?_) (fun h => ?_)
      · have hw := hw.1 h
        refine j_aload_n X d_T_begin_39 rfl 0 rfl ?_
        refine g_0_2 X f_T_26 d_T_begin_40 ?_
        refine j_iload_n X d_T_begin_43 rfl 1 rfl ?_
        refine j_callVv (As := [.int a1]) X (c_Gr_start l D ca ad sz hD hw) (gcV (n := 1) X rfl rfl rfl gc_Gr_start m_Gr_start l_T_98 (by decide +kernel) ⟨by decide, by decide⟩) (q0 := 9) rfl rfl (fun _ h => h) rfl rfl (Nat.le_of_ble_eq_true rfl) ⟨by decide, by decide⟩ d_T_begin_44 (fun u5 hw => ?_)
        exact x_vret X hlk hr (by decide) (by decide) d_T_begin_47 hw
      · have hw := hw.2 h
        exact x_throw X hlt hlk hE (cls := "java/lang/IllegalArgumentException") (text := "how") (names := excN) (by decide) (by decide) (fun s' hN hG => ⟨(at_82 hN hG).1, (at_82 hN hG).2.1, (at_82 hN hG).2.2, str_use hN (k := 96) (t := "how") (by decide)⟩) d_T_begin_29 d_T_begin_32 d_T_begin_33 d_T_begin_35 d_T_begin_38 (by decide) (Nat.le_of_ble_eq_true rfl) (by decide) (by decide) (by decide) (by decide) hw
    · have hw := hw.2 h
      exact x_throw X hlt hlk hE (cls := "java/lang/IllegalStateException") (text := "the ground is not idle") (names := excN) (by decide) (by decide) (fun s' hN hG => ⟨(at_71 hN hG).1, (at_71 hN hG).2.1, (at_71 hN hG).2.2, str_use hN (k := 73) (t := "the ground is not idle") (by decide)⟩) d_T_begin_10 d_T_begin_13 d_T_begin_14 d_T_begin_16 d_T_begin_19 (by decide) (Nat.le_of_ble_eq_true rfl) (by decide) (by decide) (by decide) (by decide) hw
  exact hX
def w_T_end (σ : Jst) (K : Option Int32 → Jst → Prop) (KX : String → Jst → Prop) : Prop := w_Gr_isIdle σ (fun r2 u1 => ((r2 = (0 : Int32) → w_Gr_finish u1 (fun u3 => K none u3)) ∧ (¬ r2 = (0 : Int32) → KX "java/lang/IllegalStateException" u1)))
abbrev rm_T_end : Room := { frames := 6, cells := 1, slots := 6, locals := 90 }
set_option maxRecDepth 100000 in
set_option maxHeartbeats 4000000 in
theorem c_T_end (l : Launch) (hlt : l.stackTraces = false) (D : va_G) (ca ad : Nat → Nat) (sz : Nat) (hD : Jd ca ad sz) {σ : Jst} {K : Option Int32 → Jst → Prop} {KX : String → Jst → Prop} (hw : w_T_end σ K KX) : XMet l y_T_end (wG y_T_end b_T_end 1 none) rm_T_end (va_Pc [.ref (ad 0)] (Jw D vwCl (tysT ca) (wlT ad ca) (NwT sz) σ)) D vwCl (wlT ad ca) (Aw sz) K KX 1 6 := by
  refine x_met (cc := b_T_end) (own := R_T) (by decide +kernel) rfl (Nat.le_of_ble_eq_true rfl) rfl hD (nwT_k sz) ?_
  intro p e s m args below meth c X hlk hr hE
  have hX : J p l e rm_T_end s m args below meth c D vwCl (wlT ad ca) (Aw sz) 1 0 0 (XE below D vwCl (wlT ad ca) (Aw sz) K KX args s 1 6) 0 [(0, .ref (ad 0))] [] σ := by
    unfold w_T_end at hw
    refine j_aload_n X d_T_end_0 rfl 0 rfl ?_
    refine g_0_2 X f_T_26 d_T_end_1 ?_
    refine j_callVi (As := []) X (c_Gr_isIdle l D ca ad sz hD hw) (gcV (n := 0) X rfl rfl rfl gc_Gr_isIdle m_Gr_isIdle l_T_67 (by decide +kernel) ⟨by decide, by decide⟩) (q0 := 9) rfl rfl (fun _ h => h) rfl rfl (Nat.le_of_ble_eq_true rfl) ⟨by decide, by decide⟩ d_T_end_4 (fun r2 u1 hw => ?_)
    refine j_if_eq X d_T_end_7 (tgt := 20) (by decide) (fun h => ?_) (fun h => ?_)
    · have hw := hw.1 h
      refine j_aload_n X d_T_end_20 rfl 0 rfl ?_
      refine g_0_2 X f_T_26 d_T_end_21 ?_
      refine j_callVv (As := []) X (c_Gr_finish l D ca ad sz hD hw) (gcV (n := 0) X rfl rfl rfl gc_Gr_finish m_Gr_finish l_T_103 (by decide +kernel) ⟨by decide, by decide⟩) (q0 := 9) rfl rfl (fun _ h => h) rfl rfl (Nat.le_of_ble_eq_true rfl) ⟨by decide, by decide⟩ d_T_end_24 (fun u3 hw => ?_)
      exact x_vret X hlk hr (by decide) (by decide) d_T_end_27 hw
    · have hw := hw.2 h
      exact x_throw X hlt hlk hE (cls := "java/lang/IllegalStateException") (text := "the ground is idle") (names := excN) (by decide) (by decide) (fun s' hN hG => ⟨(at_71 hN hG).1, (at_71 hN hG).2.1, (at_71 hN hG).2.2, str_use hN (k := 101) (t := "the ground is idle") (by decide)⟩) d_T_end_10 d_T_end_13 d_T_end_14 d_T_end_16 d_T_end_19 (by decide) (Nat.le_of_ble_eq_true rfl) (by decide) (by decide) (by decide) (by decide) hw
  exact hX
def w_T_command (a1 : Int32) (σ : Jst) (K : Option Int32 → Jst → Prop) (KX : String → Jst → Prop) : Prop := w_Gr_takesCommands σ (fun r2 u1 => ((¬ r2 = (0 : Int32) → w_Gr_offer a1 u1 (fun r4 u3 => (narrow .boolean (.int r4) = .int r4 ∧ K (some r4) u3))) ∧ (r2 = (0 : Int32) → KX "java/lang/IllegalStateException" u1)))
abbrev rm_T_command : Room := { frames := 6, cells := 1, slots := 6, locals := 90 }
set_option maxRecDepth 100000 in
set_option maxHeartbeats 4000000 in
theorem c_T_command (l : Launch) (hlt : l.stackTraces = false) (D : va_G) (ca ad : Nat → Nat) (sz : Nat) (hD : Jd ca ad sz) {a1 : Int32} {σ : Jst} {K : Option Int32 → Jst → Prop} {KX : String → Jst → Prop} (hw : w_T_command a1 σ K KX) : XMet l y_T_command (wG y_T_command b_T_command 2 (some .boolean)) rm_T_command (va_Pc [.ref (ad 0), .int a1] (Jw D vwCl (tysT ca) (wlT ad ca) (NwT sz) σ)) D vwCl (wlT ad ca) (Aw sz) K KX 1 6 := by
  refine x_met (cc := b_T_command) (own := R_T) (by decide +kernel) rfl (Nat.le_of_ble_eq_true rfl) rfl hD (nwT_k sz) ?_
  intro p e s m args below meth c X hlk hr hE
  have hX : J p l e rm_T_command s m args below meth c D vwCl (wlT ad ca) (Aw sz) 2 0 0 (XE below D vwCl (wlT ad ca) (Aw sz) K KX args s 1 6) 0 [(0, .ref (ad 0)), (1, .int a1)] [] σ := by
    unfold w_T_command at hw
    refine j_aload_n X d_T_command_0 rfl 0 rfl ?_
    refine g_0_2 X f_T_26 d_T_command_1 ?_
    refine j_callVi (As := []) X (c_Gr_takesCommands l D ca ad sz hD hw) (gcV (n := 0) X rfl rfl rfl gc_Gr_takesCommands m_Gr_takesCommands l_T_106 (by decide +kernel) ⟨by decide, by decide⟩) (q0 := 9) rfl rfl (fun _ h => h) rfl rfl (Nat.le_of_ble_eq_true rfl) ⟨by decide, by decide⟩ d_T_command_4 (fun r2 u1 hw => ?_)
    refine j_if_ne X d_T_command_7 (tgt := 20) (by decide) (fun h => ?_) (fun h => ?_)
    · have hw := hw.1 h
      refine j_aload_n X d_T_command_20 rfl 0 rfl ?_
      refine g_0_2 X f_T_26 d_T_command_21 ?_
      refine j_iload_n X d_T_command_24 rfl 1 rfl ?_
      refine j_callVi (As := [.int a1]) X (c_Gr_offer l D ca ad sz hD hw) (gcV (n := 1) X rfl rfl rfl gc_Gr_offer m_Gr_offer l_T_111 (by decide +kernel) ⟨by decide, by decide⟩) (q0 := 9) rfl rfl (fun _ h => h) rfl rfl (Nat.le_of_ble_eq_true rfl) ⟨by decide, by decide⟩ d_T_command_25 (fun r4 u3 hw => ?_)
      exact x_zret X hlk hr (by decide) (by decide) hw.1 d_T_command_28 hw.2
    · have hw := hw.2 h
      exact x_throw X hlt hlk hE (cls := "java/lang/IllegalStateException") (text := "the ground takes no commands") (names := excN) (by decide) (by decide) (fun s' hN hG => ⟨(at_71 hN hG).1, (at_71 hN hG).2.1, (at_71 hN hG).2.2, str_use hN (k := 109) (t := "the ground takes no commands") (by decide)⟩) d_T_command_10 d_T_command_13 d_T_command_14 d_T_command_16 d_T_command_19 (by decide) (Nat.le_of_ble_eq_true rfl) (by decide) (by decide) (by decide) (by decide) hw
  exact hX
def w_T_tick (σ : Jst) (K : Int32 → Jst → Prop) : Prop := w_Gr_pass σ (fun r2 u1 => K r2 u1)
abbrev rm_T_tick : Room := { frames := 5, cells := 0, slots := 0, locals := 112 }
set_option maxRecDepth 100000 in
set_option maxHeartbeats 4000000 in
theorem c_T_tick (l : Launch) (D : va_G) (ca ad : Nat → Nat) (sz : Nat) (hD : Jd ca ad sz) {σ : Jst} {K : Int32 → Jst → Prop} (hw : w_T_tick σ K) : Met l y_T_tick (wG y_T_tick b_T_tick 1 (some .int)) rm_T_tick (va_Pc [.ref (ad 0)] (Jw D vwCl (tysT ca) (wlT ad ca) (NwT sz) σ)) (va_Qi K (Jq D vwCl (wlT ad ca)) (Aw sz)) 0 0 (Aw sz) := by
  refine j_met (cc := b_T_tick) (own := R_T) (by decide +kernel) rfl (Nat.le_of_ble_eq_true rfl) rfl hD (nwT_k sz) ?_
  intro p e s m args below meth c X hlk hr
  have hX : J p l e rm_T_tick s m args below meth c D vwCl (wlT ad ca) (Aw sz) 1 0 0 (MQ below (va_Qi K (Jq D vwCl (wlT ad ca)) (Aw sz)) args s 0 0 (Aw sz)) 0 [(0, .ref (ad 0))] [] σ := by
    unfold w_T_tick at hw
    refine j_aload_n X d_T_tick_0 rfl 0 rfl ?_
    refine g_0_2 X f_T_26 d_T_tick_1 ?_
    refine j_aload_n X d_T_tick_4 rfl 0 rfl ?_
    refine g_0_0 X f_T_10 d_T_tick_5 ?_
    refine j_callVi (As := [.ref (ad 1)]) X (c_Gr_pass l D ca ad sz hD hw) (gcV (n := 1) X rfl rfl rfl gc_Gr_pass m_Gr_pass l_T_115 (by decide +kernel) ⟨by decide, by decide⟩) (q0 := 9) rfl rfl (fun _ h => h) rfl rfl (Nat.le_of_ble_eq_true rfl) ⟨by decide, by decide⟩ d_T_tick_8 (fun r2 u1 hw => ?_)
    exact j_iret X hlk hr d_T_tick_11 hw
  exact hX
def w_T_raise (a1 : Int32) (σ : Jst) (K : Option Int32 → Jst → Prop) (KX : String → Jst → Prop) : Prop := w_Uf_has a1 σ (fun r2 u1 => ((¬ r2 = (0 : Int32) → w_Uf_kind a1 u1 (fun r4 u3 => w_Uf_numberOf a1 u3 (fun r6 u5 => w_Uf_commandOf a1 u5 (fun r8 u7 => w_Cr_receive r4 r6 r8 u7 (fun u9 => w_Uf_remove a1 u9 (fun u10 => K none u10)))))) ∧ (r2 = (0 : Int32) → KX "java/lang/IndexOutOfBoundsException" u1)))
abbrev rm_T_raise : Room := { frames := 6, cells := 1, slots := 6, locals := 90 }
set_option maxRecDepth 100000 in
set_option maxHeartbeats 4000000 in
theorem c_T_raise (l : Launch) (hlt : l.stackTraces = false) (D : va_G) (ca ad : Nat → Nat) (sz : Nat) (hD : Jd ca ad sz) {a1 : Int32} {σ : Jst} {K : Option Int32 → Jst → Prop} {KX : String → Jst → Prop} (hw : w_T_raise a1 σ K KX) : XMet l y_T_raise (wG y_T_raise b_T_raise 2 none) rm_T_raise (va_Pc [.ref (ad 0), .int a1] (Jw D vwCl (tysT ca) (wlT ad ca) (NwT sz) σ)) D vwCl (wlT ad ca) (Aw sz) K KX 1 6 := by
  refine x_met (cc := b_T_raise) (own := R_T) (by decide +kernel) rfl (Nat.le_of_ble_eq_true rfl) rfl hD (nwT_k sz) ?_
  intro p e s m args below meth c X hlk hr hE
  have hX : J p l e rm_T_raise s m args below meth c D vwCl (wlT ad ca) (Aw sz) 2 0 0 (XE below D vwCl (wlT ad ca) (Aw sz) K KX args s 1 6) 0 [(0, .ref (ad 0)), (1, .int a1)] [] σ := by
    unfold w_T_raise at hw
    refine j_aload_n X d_T_raise_0 rfl 0 rfl ?_
    refine g_0_0 X f_T_10 d_T_raise_1 ?_
    refine j_iload_n X d_T_raise_4 rfl 1 rfl ?_
    refine j_callVi (As := [.int a1]) X (c_Uf_has l D ca ad sz hD hw) (gcV (n := 1) X rfl rfl rfl gc_Uf_has m_Uf_has l_T_119 (by decide +kernel) ⟨by decide, by decide⟩) (q0 := 1) rfl rfl (fun _ h => h) rfl rfl (Nat.le_of_ble_eq_true rfl) ⟨by decide, by decide⟩ d_T_raise_5 (fun r2 u1 hw => ?_)
    refine j_if_ne X d_T_raise_8 (tgt := 21) (by decide) (fun h => ?_) (fun h => ?_)
    · have hw := hw.1 h
      refine j_aload_n X d_T_raise_21 rfl 0 rfl ?_
      refine g_0_3 X f_T_33 d_T_raise_22 ?_
      refine j_aload_n X d_T_raise_25 rfl 0 rfl ?_
      refine g_0_0 X f_T_10 d_T_raise_26 ?_
      refine j_iload_n X d_T_raise_29 rfl 1 rfl ?_
      refine j_callVi (As := [.int a1]) X (c_Uf_kind l D ca ad sz hD hw) (gcV (n := 1) X rfl rfl rfl gc_Uf_kind m_Uf_kind l_T_127 (by decide +kernel) ⟨by decide, by decide⟩) (q0 := 1) rfl rfl (fun _ h => h) rfl rfl (Nat.le_of_ble_eq_true rfl) ⟨by decide, by decide⟩ d_T_raise_30 (fun r4 u3 hw => ?_)
      refine j_aload_n X d_T_raise_33 rfl 0 rfl ?_
      refine g_0_0 X f_T_10 d_T_raise_34 ?_
      refine j_iload_n X d_T_raise_37 rfl 1 rfl ?_
      refine j_callVi (As := [.int a1]) X (c_Uf_numberOf l D ca ad sz hD hw) (gcV (n := 1) X rfl rfl rfl gc_Uf_numberOf m_Uf_numberOf l_T_131 (by decide +kernel) ⟨by decide, by decide⟩) (q0 := 1) rfl rfl (fun _ h => h) rfl rfl (Nat.le_of_ble_eq_true rfl) ⟨by decide, by decide⟩ d_T_raise_38 (fun r6 u5 hw => ?_)
      refine j_aload_n X d_T_raise_41 rfl 0 rfl ?_
      refine g_0_0 X f_T_10 d_T_raise_42 ?_
      refine j_iload_n X d_T_raise_45 rfl 1 rfl ?_
      refine j_callVi (As := [.int a1]) X (c_Uf_commandOf l D ca ad sz hD hw) (gcV (n := 1) X rfl rfl rfl gc_Uf_commandOf m_Uf_commandOf l_T_134 (by decide +kernel) ⟨by decide, by decide⟩) (q0 := 1) rfl rfl (fun _ h => h) rfl rfl (Nat.le_of_ble_eq_true rfl) ⟨by decide, by decide⟩ d_T_raise_46 (fun r8 u7 hw => ?_)
      refine j_callVv (As := [.int r4, .int r6, .int r8]) X (c_Cr_receive l D ca ad sz hD hw) (gcV (n := 3) X rfl rfl rfl gc_Cr_receive m_Cr_receive l_T_137 (by decide +kernel) ⟨by decide, by decide⟩) (q0 := 14) rfl rfl (fun _ h => h) rfl rfl (Nat.le_of_ble_eq_true rfl) ⟨by decide, by decide⟩ d_T_raise_49 (fun u9 hw => ?_)
      refine j_aload_n X d_T_raise_52 rfl 0 rfl ?_
      refine g_0_0 X f_T_10 d_T_raise_53 ?_
      refine j_iload_n X d_T_raise_56 rfl 1 rfl ?_
      refine j_callVv (As := [.int a1]) X (c_Uf_remove l D ca ad sz hD hw) (gcV (n := 1) X rfl rfl rfl gc_Uf_remove m_Uf_remove l_T_140 (by decide +kernel) ⟨by decide, by decide⟩) (q0 := 1) rfl rfl (fun _ h => h) rfl rfl (Nat.le_of_ble_eq_true rfl) ⟨by decide, by decide⟩ d_T_raise_57 (fun u10 hw => ?_)
      exact x_vret X hlk hr (by decide) (by decide) d_T_raise_60 hw
    · have hw := hw.2 h
      exact x_throw X hlt hlk hE (cls := "java/lang/IndexOutOfBoundsException") (text := "no such up frame") (names := excN) (by decide) (by decide) (fun s' hN hG => ⟨(at_122 hN hG).1, (at_122 hN hG).2.1, (at_122 hN hG).2.2, str_use hN (k := 124) (t := "no such up frame") (by decide)⟩) d_T_raise_11 d_T_raise_14 d_T_raise_15 d_T_raise_17 d_T_raise_20 (by decide) (Nat.le_of_ble_eq_true rfl) (by decide) (by decide) (by decide) (by decide) hw
  exact hX
def w_T_drop (a1 : Int32) (σ : Jst) (K : Option Int32 → Jst → Prop) (KX : String → Jst → Prop) : Prop := w_Uf_has a1 σ (fun r2 u1 => ((¬ r2 = (0 : Int32) → w_Uf_remove a1 u1 (fun u3 => K none u3)) ∧ (r2 = (0 : Int32) → KX "java/lang/IndexOutOfBoundsException" u1)))
abbrev rm_T_drop : Room := { frames := 6, cells := 1, slots := 6, locals := 90 }
set_option maxRecDepth 100000 in
set_option maxHeartbeats 4000000 in
theorem c_T_drop (l : Launch) (hlt : l.stackTraces = false) (D : va_G) (ca ad : Nat → Nat) (sz : Nat) (hD : Jd ca ad sz) {a1 : Int32} {σ : Jst} {K : Option Int32 → Jst → Prop} {KX : String → Jst → Prop} (hw : w_T_drop a1 σ K KX) : XMet l y_T_drop (wG y_T_drop b_T_drop 2 none) rm_T_drop (va_Pc [.ref (ad 0), .int a1] (Jw D vwCl (tysT ca) (wlT ad ca) (NwT sz) σ)) D vwCl (wlT ad ca) (Aw sz) K KX 1 6 := by
  refine x_met (cc := b_T_drop) (own := R_T) (by decide +kernel) rfl (Nat.le_of_ble_eq_true rfl) rfl hD (nwT_k sz) ?_
  intro p e s m args below meth c X hlk hr hE
  have hX : J p l e rm_T_drop s m args below meth c D vwCl (wlT ad ca) (Aw sz) 2 0 0 (XE below D vwCl (wlT ad ca) (Aw sz) K KX args s 1 6) 0 [(0, .ref (ad 0)), (1, .int a1)] [] σ := by
    unfold w_T_drop at hw
    refine j_aload_n X d_T_drop_0 rfl 0 rfl ?_
    refine g_0_0 X f_T_10 d_T_drop_1 ?_
    refine j_iload_n X d_T_drop_4 rfl 1 rfl ?_
    refine j_callVi (As := [.int a1]) X (c_Uf_has l D ca ad sz hD hw) (gcV (n := 1) X rfl rfl rfl gc_Uf_has m_Uf_has l_T_119 (by decide +kernel) ⟨by decide, by decide⟩) (q0 := 1) rfl rfl (fun _ h => h) rfl rfl (Nat.le_of_ble_eq_true rfl) ⟨by decide, by decide⟩ d_T_drop_5 (fun r2 u1 hw => ?_)
    refine j_if_ne X d_T_drop_8 (tgt := 21) (by decide) (fun h => ?_) (fun h => ?_)
    · have hw := hw.1 h
      refine j_aload_n X d_T_drop_21 rfl 0 rfl ?_
      refine g_0_0 X f_T_10 d_T_drop_22 ?_
      refine j_iload_n X d_T_drop_25 rfl 1 rfl ?_
      refine j_callVv (As := [.int a1]) X (c_Uf_remove l D ca ad sz hD hw) (gcV (n := 1) X rfl rfl rfl gc_Uf_remove m_Uf_remove l_T_140 (by decide +kernel) ⟨by decide, by decide⟩) (q0 := 1) rfl rfl (fun _ h => h) rfl rfl (Nat.le_of_ble_eq_true rfl) ⟨by decide, by decide⟩ d_T_drop_26 (fun u3 hw => ?_)
      exact x_vret X hlk hr (by decide) (by decide) d_T_drop_29 hw
    · have hw := hw.2 h
      exact x_throw X hlt hlk hE (cls := "java/lang/IndexOutOfBoundsException") (text := "no such up frame") (names := excN) (by decide) (by decide) (fun s' hN hG => ⟨(at_122 hN hG).1, (at_122 hN hG).2.1, (at_122 hN hG).2.2, str_use hN (k := 124) (t := "no such up frame") (by decide)⟩) d_T_drop_11 d_T_drop_14 d_T_drop_15 d_T_drop_17 d_T_drop_20 (by decide) (Nat.le_of_ble_eq_true rfl) (by decide) (by decide) (by decide) (by decide) hw
  exact hX
def w_T_take (σ : Jst) (K : Option Int32 → Jst → Prop) (KX : String → Jst → Prop) : Prop := w_Cr_queued σ (fun r2 u1 => ((¬ r2 = (0 : Int32) → w_Cr_takeFirst u1 (fun r4 u3 => K (some r4) u3)) ∧ (r2 = (0 : Int32) → KX "java/util/NoSuchElementException" u1)))
abbrev rm_T_take : Room := { frames := 6, cells := 1, slots := 6, locals := 90 }
set_option maxRecDepth 100000 in
set_option maxHeartbeats 4000000 in
theorem c_T_take (l : Launch) (hlt : l.stackTraces = false) (D : va_G) (ca ad : Nat → Nat) (sz : Nat) (hD : Jd ca ad sz) {σ : Jst} {K : Option Int32 → Jst → Prop} {KX : String → Jst → Prop} (hw : w_T_take σ K KX) : XMet l y_T_take (wG y_T_take b_T_take 1 (some .int)) rm_T_take (va_Pc [.ref (ad 0)] (Jw D vwCl (tysT ca) (wlT ad ca) (NwT sz) σ)) D vwCl (wlT ad ca) (Aw sz) K KX 1 6 := by
  refine x_met (cc := b_T_take) (own := R_T) (by decide +kernel) rfl (Nat.le_of_ble_eq_true rfl) rfl hD (nwT_k sz) ?_
  intro p e s m args below meth c X hlk hr hE
  have hX : J p l e rm_T_take s m args below meth c D vwCl (wlT ad ca) (Aw sz) 1 0 0 (XE below D vwCl (wlT ad ca) (Aw sz) K KX args s 1 6) 0 [(0, .ref (ad 0))] [] σ := by
    unfold w_T_take at hw
    refine j_aload_n X d_T_take_0 rfl 0 rfl ?_
    refine g_0_3 X f_T_33 d_T_take_1 ?_
    refine j_callVi (As := []) X (c_Cr_queued l D ca ad sz hD hw) (gcV (n := 0) X rfl rfl rfl gc_Cr_queued m_Cr_queued l_T_143 (by decide +kernel) ⟨by decide, by decide⟩) (q0 := 14) rfl rfl (fun _ h => h) rfl rfl (Nat.le_of_ble_eq_true rfl) ⟨by decide, by decide⟩ d_T_take_4 (fun r2 u1 hw => ?_)
    refine j_if_ne X d_T_take_7 (tgt := 20) (by decide) (fun h => ?_) (fun h => ?_)
    · have hw := hw.1 h
      refine j_aload_n X d_T_take_20 rfl 0 rfl ?_
      refine g_0_3 X f_T_33 d_T_take_21 ?_
      refine j_callVi (As := []) X (c_Cr_takeFirst l D ca ad sz hD hw) (gcV (n := 0) X rfl rfl rfl gc_Cr_takeFirst m_Cr_takeFirst l_T_152 (by decide +kernel) ⟨by decide, by decide⟩) (q0 := 14) rfl rfl (fun _ h => h) rfl rfl (Nat.le_of_ble_eq_true rfl) ⟨by decide, by decide⟩ d_T_take_24 (fun r4 u3 hw => ?_)
      exact x_iret X hlk hr (by decide) (by decide) d_T_take_27 hw
    · have hw := hw.2 h
      exact x_throwN X hlt hlk hE (text := "the queue is empty") (fun s' hN hG => ⟨(at_147 hN hG).1, (at_147 hN hG).2.1, (at_147 hN hG).2.2, str_use hN (k := 149) (t := "the queue is empty") (by decide)⟩) d_T_take_10 d_T_take_13 d_T_take_14 d_T_take_16 d_T_take_19 (by decide) (Nat.le_of_ble_eq_true rfl) (by decide) (by decide) (by decide) (by decide) hw
  exact hX
def w_T_report (σ : Jst) (K : Int32 → Jst → Prop) : Prop := w_Rp_add σ (fun r2 u1 => (narrow .boolean (.int r2) = .int r2 ∧ K r2 u1))
abbrev rm_T_report : Room := { frames := 1, cells := 0, slots := 0, locals := 21 }
set_option maxRecDepth 100000 in
set_option maxHeartbeats 4000000 in
theorem c_T_report (l : Launch) (D : va_G) (ca ad : Nat → Nat) (sz : Nat) (hD : Jd ca ad sz) {σ : Jst} {K : Int32 → Jst → Prop} (hw : w_T_report σ K) : Met l y_T_report (wG y_T_report b_T_report 1 (some .boolean)) rm_T_report (va_Pc [.ref (ad 0)] (Jw D vwCl (tysT ca) (wlT ad ca) (NwT sz) σ)) (va_Qi K (Jq D vwCl (wlT ad ca)) (Aw sz)) 0 0 (Aw sz) := by
  refine j_met (cc := b_T_report) (own := R_T) (by decide +kernel) rfl (Nat.le_of_ble_eq_true rfl) rfl hD (nwT_k sz) ?_
  intro p e s m args below meth c X hlk hr
  have hX : J p l e rm_T_report s m args below meth c D vwCl (wlT ad ca) (Aw sz) 1 0 0 (MQ below (va_Qi K (Jq D vwCl (wlT ad ca)) (Aw sz)) args s 0 0 (Aw sz)) 0 [(0, .ref (ad 0))] [] σ := by
    unfold w_T_report at hw
    refine j_aload_n X d_T_report_0 rfl 0 rfl ?_
    refine g_0_1 X f_T_19 d_T_report_1 ?_
    refine j_aload_n X d_T_report_4 rfl 0 rfl ?_
    refine g_0_3 X f_T_33 d_T_report_5 ?_
    refine j_callVi (As := [.ref (ad 14)]) X (c_Rp_add l D ca ad sz hD hw) (gcV (n := 1) X rfl rfl rfl gc_Rp_add m_Rp_add l_T_155 (by decide +kernel) ⟨by decide, by decide⟩) (q0 := 5) rfl rfl (fun _ h => h) rfl rfl (Nat.le_of_ble_eq_true rfl) ⟨by decide, by decide⟩ d_T_report_8 (fun r2 u1 hw => ?_)
    exact j_zret X hlk hr hw.1 d_T_report_11 hw.2
  exact hX
def w_T_answer (a1 : Int32) (a2 : Int32) (σ : Jst) (K : Option Int32 → Jst → Prop) (KX : String → Jst → Prop) : Prop := w_Rp_has a1 σ (fun r2 u1 => ((¬ r2 = (0 : Int32) → ((¬ a2 = (0 : Int32) → w_Rp_remove a1 u1 (fun u3 => K none u3)) ∧ (a2 = (0 : Int32) → w_Rp_expected a1 u1 (fun r5 u4 => w_Rp_again a1 u4 (fun r7 u6 => w_Rp_gate a1 u6 (fun r9 u8 => w_Gr_hear r5 r7 r9 u8 (fun u10 => w_Rp_remove a1 u10 (fun u11 => K none u11)))))))) ∧ (r2 = (0 : Int32) → KX "java/lang/IndexOutOfBoundsException" u1)))
abbrev rm_T_answer : Room := { frames := 6, cells := 1, slots := 6, locals := 128 }
set_option maxRecDepth 100000 in
set_option maxHeartbeats 4000000 in
theorem c_T_answer (l : Launch) (hlt : l.stackTraces = false) (D : va_G) (ca ad : Nat → Nat) (sz : Nat) (hD : Jd ca ad sz) {a1 a2 : Int32} {σ : Jst} {K : Option Int32 → Jst → Prop} {KX : String → Jst → Prop} (hw : w_T_answer a1 a2 σ K KX) : XMet l y_T_answer (wG y_T_answer b_T_answer 3 none) rm_T_answer (va_Pc [.ref (ad 0), .int a1, .int a2] (Jw D vwCl (tysT ca) (wlT ad ca) (NwT sz) σ)) D vwCl (wlT ad ca) (Aw sz) K KX 1 6 := by
  refine x_met (cc := b_T_answer) (own := R_T) (by decide +kernel) rfl (Nat.le_of_ble_eq_true rfl) rfl hD (nwT_k sz) ?_
  intro p e s m args below meth c X hlk hr hE
  have hX : J p l e rm_T_answer s m args below meth c D vwCl (wlT ad ca) (Aw sz) 3 0 0 (XE below D vwCl (wlT ad ca) (Aw sz) K KX args s 1 6) 0 [(0, .ref (ad 0)), (1, .int a1), (2, .int a2)] [] σ := by
    unfold w_T_answer at hw
    refine j_aload_n X d_T_answer_0 rfl 0 rfl ?_
    refine g_0_1 X f_T_19 d_T_answer_1 ?_
    refine j_iload_n X d_T_answer_4 rfl 1 rfl ?_
    refine j_callVi (As := [.int a1]) X (c_Rp_has l D ca ad sz hD hw) (gcV (n := 1) X rfl rfl rfl gc_Rp_has m_Rp_has l_T_159 (by decide +kernel) ⟨by decide, by decide⟩) (q0 := 5) rfl rfl (fun _ h => h) rfl rfl (Nat.le_of_ble_eq_true rfl) ⟨by decide, by decide⟩ d_T_answer_5 (fun r2 u1 hw => ?_)
    refine j_if_ne X d_T_answer_8 (tgt := 21) (by decide) (fun h => ?_) (fun h => ?_)
    · have hw := hw.1 h
      refine j_iload_n X d_T_answer_21 rfl 2 rfl ?_
      refine j_if_ne X d_T_answer_22 (tgt := 56) (by decide) (fun h => ?_) (fun h => ?_)
      · have hw := hw.1 h
        refine j_aload_n X d_T_answer_56 rfl 0 rfl ?_
        refine g_0_1 X f_T_19 d_T_answer_57 ?_
        refine j_iload_n X d_T_answer_60 rfl 1 rfl ?_
        refine j_callVv (As := [.int a1]) X (c_Rp_remove l D ca ad sz hD hw) (gcV (n := 1) X rfl rfl rfl gc_Rp_remove m_Rp_remove l_T_175 (by decide +kernel) ⟨by decide, by decide⟩) (q0 := 5) rfl rfl (fun _ h => h) rfl rfl (Nat.le_of_ble_eq_true rfl) ⟨by decide, by decide⟩ d_T_answer_61 (fun u3 hw => ?_)
        exact x_vret X hlk hr (by decide) (by decide) d_T_answer_64 hw
      · have hw := hw.2 h
        refine j_aload_n X d_T_answer_25 rfl 0 rfl ?_
        refine g_0_2 X f_T_26 d_T_answer_26 ?_
        refine j_aload_n X d_T_answer_29 rfl 0 rfl ?_
        refine g_0_1 X f_T_19 d_T_answer_30 ?_
        refine j_iload_n X d_T_answer_33 rfl 1 rfl ?_
        refine j_callVi (As := [.int a1]) X (c_Rp_expected l D ca ad sz hD hw) (gcV (n := 1) X rfl rfl rfl gc_Rp_expected m_Rp_expected l_T_162 (by decide +kernel) ⟨by decide, by decide⟩) (q0 := 5) rfl rfl (fun _ h => h) rfl rfl (Nat.le_of_ble_eq_true rfl) ⟨by decide, by decide⟩ d_T_answer_34 (fun r5 u4 hw => ?_)
        refine j_aload_n X d_T_answer_37 rfl 0 rfl ?_
        refine g_0_1 X f_T_19 d_T_answer_38 ?_
        refine j_iload_n X d_T_answer_41 rfl 1 rfl ?_
        refine j_callVi (As := [.int a1]) X (c_Rp_again l D ca ad sz hD hw) (gcV (n := 1) X rfl rfl rfl gc_Rp_again m_Rp_again l_T_165 (by decide +kernel) ⟨by decide, by decide⟩) (q0 := 5) rfl rfl (fun _ h => h) rfl rfl (Nat.le_of_ble_eq_true rfl) ⟨by decide, by decide⟩ d_T_answer_42 (fun r7 u6 hw => ?_)
        refine j_aload_n X d_T_answer_45 rfl 0 rfl ?_
        refine g_0_1 X f_T_19 d_T_answer_46 ?_
        refine j_iload_n X d_T_answer_49 rfl 1 rfl ?_
        refine j_callVi (As := [.int a1]) X (c_Rp_gate l D ca ad sz hD hw) (gcV (n := 1) X rfl rfl rfl gc_Rp_gate m_Rp_gate l_T_168 (by decide +kernel) ⟨by decide, by decide⟩) (q0 := 5) rfl rfl (fun _ h => h) rfl rfl (Nat.le_of_ble_eq_true rfl) ⟨by decide, by decide⟩ d_T_answer_50 (fun r9 u8 hw => ?_)
        refine j_callVv (As := [.int r5, .int r7, .int r9]) X (c_Gr_hear l D ca ad sz hD hw) (gcV (n := 3) X rfl rfl rfl gc_Gr_hear m_Gr_hear l_T_171 (by decide +kernel) ⟨by decide, by decide⟩) (q0 := 9) rfl rfl (fun _ h => h) rfl rfl (Nat.le_of_ble_eq_true rfl) ⟨by decide, by decide⟩ d_T_answer_53 (fun u10 hw => ?_)
        refine j_aload_n X d_T_answer_56 rfl 0 rfl ?_
        refine g_0_1 X f_T_19 d_T_answer_57 ?_
        refine j_iload_n X d_T_answer_60 rfl 1 rfl ?_
        refine j_callVv (As := [.int a1]) X (c_Rp_remove l D ca ad sz hD hw) (gcV (n := 1) X rfl rfl rfl gc_Rp_remove m_Rp_remove l_T_175 (by decide +kernel) ⟨by decide, by decide⟩) (q0 := 5) rfl rfl (fun _ h => h) rfl rfl (Nat.le_of_ble_eq_true rfl) ⟨by decide, by decide⟩ d_T_answer_61 (fun u11 hw => ?_)
        exact x_vret X hlk hr (by decide) (by decide) d_T_answer_64 hw
    · have hw := hw.2 h
      exact x_throw X hlt hlk hE (cls := "java/lang/IndexOutOfBoundsException") (text := "no such report") (names := excN) (by decide) (by decide) (fun s' hN hG => ⟨(at_122 hN hG).1, (at_122 hN hG).2.1, (at_122 hN hG).2.2, str_use hN (k := 160) (t := "no such report") (by decide)⟩) d_T_answer_11 d_T_answer_14 d_T_answer_15 d_T_answer_17 d_T_answer_20 (by decide) (Nat.le_of_ble_eq_true rfl) (by decide) (by decide) (by decide) (by decide) hw
  exact hX
def w_T_isChannel (a1 : Int32) (σ : Jst) (K : Int32 → Jst → Prop) : Prop := w_T_isWithin a1 (0 : Int32) (1 : Int32) σ (fun r2 u1 => (narrow .boolean (.int r2) = .int r2 ∧ K r2 u1))
abbrev rm_T_isChannel : Room := { frames := 1, cells := 0, slots := 0, locals := 22 }
set_option maxRecDepth 100000 in
set_option maxHeartbeats 4000000 in
theorem c_T_isChannel (l : Launch) (D : va_G) (ca ad : Nat → Nat) (sz : Nat) (hD : Jd ca ad sz) {a1 : Int32} {σ : Jst} {K : Int32 → Jst → Prop} (hw : w_T_isChannel a1 σ K) : Met l y_T_isChannel (wG y_T_isChannel b_T_isChannel 1 (some .boolean)) rm_T_isChannel (va_Pc [.int a1] (Jw D vwCl (tysT ca) (wlT ad ca) (NwT sz) σ)) (va_Qi K (Jq D vwCl (wlT ad ca)) (Aw sz)) 0 0 (Aw sz) := by
  refine j_met (cc := b_T_isChannel) (own := R_T) (by decide +kernel) rfl (Nat.le_of_ble_eq_true rfl) rfl hD (nwT_k sz) ?_
  intro p e s m args below meth c X hlk hr
  have hX : J p l e rm_T_isChannel s m args below meth c D vwCl (wlT ad ca) (Aw sz) 1 0 0 (MQ below (va_Qi K (Jq D vwCl (wlT ad ca)) (Aw sz)) args s 0 0 (Aw sz)) 0 [(0, .int a1)] [] σ := by
    unfold w_T_isChannel at hw
    refine j_iload_n X d_T_isChannel_0 rfl 0 rfl ?_
    refine j_iconst X (v := (0 : Int32)) d_T_isChannel_1 (by decide) ?_
    refine j_iconst X (v := (1 : Int32)) d_T_isChannel_2 (by decide) ?_
    refine j_callSi (As := [.int a1, .int (0 : Int32), .int (1 : Int32)]) X (c_T_isWithin l D ca ad sz hD hw) (gcS (n := 3) X rfl rfl rfl gc_T_isWithin m_T_isWithin l_T_78 (by decide +kernel) ⟨by decide, by decide⟩) (fun _ h => h) rfl rfl (Nat.le_of_ble_eq_true rfl) ⟨by decide, by decide⟩ d_T_isChannel_3 (fun r2 u1 hw => ?_)
    exact j_zret X hlk hr hw.1 d_T_isChannel_6 hw.2
  exact hX
def w_T_packet (a1 : Int32) (a2 : Int32) (a3 : Int32) (σ : Jst) (K : Option Int32 → Jst → Prop) (KX : String → Jst → Prop) : Prop := w_T_isChannel a1 σ (fun r2 u1 => ((r2 = (0 : Int32) → KX "java/lang/IllegalArgumentException" u1) ∧ (¬ r2 = (0 : Int32) → w_T_isWithin a2 (1 : Int32) (99 : Int32) u1 (fun r4 u3 => ((r4 = (0 : Int32) → KX "java/lang/IllegalArgumentException" u3) ∧ (¬ r4 = (0 : Int32) → w_T_isWithin a3 (0 : Int32) (20 : Int32) u3 (fun r6 u5 => ((¬ r6 = (0 : Int32) → (vp_in a1 2 ∧ (a1 = (0 : Int32) → w_St_write_18 a2 a3 u5 (fun r8 u7 => (narrow .boolean (.int r8) = .int r8 ∧ K (some r8) u7))) ∧ (a1 = (1 : Int32) → w_St_write_22 a2 a3 u5 (fun r10 u9 => (narrow .boolean (.int r10) = .int r10 ∧ K (some r10) u9))))) ∧ (r6 = (0 : Int32) → KX "java/lang/IllegalArgumentException" u5)))))))))
abbrev rm_T_packet : Room := { frames := 6, cells := 1, slots := 6, locals := 90 }
set_option maxRecDepth 100000 in
set_option maxHeartbeats 4000000 in
theorem c_T_packet (l : Launch) (hlt : l.stackTraces = false) (D : va_G) (ca ad : Nat → Nat) (sz : Nat) (hD : Jd ca ad sz) {a1 a2 a3 : Int32} {σ : Jst} {K : Option Int32 → Jst → Prop} {KX : String → Jst → Prop} (hw : w_T_packet a1 a2 a3 σ K KX) : XMet l y_T_packet (wG y_T_packet b_T_packet 4 (some .boolean)) rm_T_packet (va_Pc [.ref (ad 0), .int a1, .int a2, .int a3] (Jw D vwCl (tysT ca) (wlT ad ca) (NwT sz) σ)) D vwCl (wlT ad ca) (Aw sz) K KX 1 6 := by
  refine x_met (cc := b_T_packet) (own := R_T) (by decide +kernel) rfl (Nat.le_of_ble_eq_true rfl) rfl hD (nwT_k sz) ?_
  intro p e s m args below meth c X hlk hr hE
  have hX : J p l e rm_T_packet s m args below meth c D vwCl (wlT ad ca) (Aw sz) 4 0 0 (XE below D vwCl (wlT ad ca) (Aw sz) K KX args s 1 6) 0 [(0, .ref (ad 0)), (1, .int a1), (2, .int a2), (3, .int a3)] [] σ := by
    unfold w_T_packet at hw
    refine j_iload_n X d_T_packet_0 rfl 1 rfl ?_
    refine j_callSi (As := [.int a1]) X (c_T_isChannel l D ca ad sz hD hw) (gcS (n := 1) X rfl rfl rfl gc_T_isChannel m_T_isChannel l_T_176 (by decide +kernel) ⟨by decide, by decide⟩) (fun _ h => h) rfl rfl (Nat.le_of_ble_eq_true rfl) ⟨by decide, by decide⟩ d_T_packet_1 (fun r2 u1 hw => ?_)
    refine j_if_eq X d_T_packet_4 (tgt := 27) (by decide) (fun h => ?_) (fun h => ?_)
    · have hw := hw.1 h
      exact x_throw X hlt hlk hE (cls := "java/lang/IllegalArgumentException") (text := "channel, tag or length") (names := excN) (by decide) (by decide) (fun s' hN hG => ⟨(at_82 hN hG).1, (at_82 hN hG).2.1, (at_82 hN hG).2.2, str_use hN (k := 179) (t := "channel, tag or length") (by decide)⟩) d_T_packet_27 d_T_packet_30 d_T_packet_31 d_T_packet_33 d_T_packet_36 (by decide) (Nat.le_of_ble_eq_true rfl) (by decide) (by decide) (by decide) (by decide) hw
    · have hw := hw.2 h
      refine j_iload_n X d_T_packet_7 rfl 2 rfl ?_
      refine j_iconst X (v := (1 : Int32)) d_T_packet_8 (by decide) ?_
      refine j_bipush X (v := (99 : Int32)) d_T_packet_9 (by decide) ?_
      refine j_callSi (As := [.int a2, .int (1 : Int32), .int (99 : Int32)]) X (c_T_isWithin l D ca ad sz hD hw) (gcS (n := 3) X rfl rfl rfl gc_T_isWithin m_T_isWithin l_T_78 (by decide +kernel) ⟨by decide, by decide⟩) (fun _ h => h) rfl rfl (Nat.le_of_ble_eq_true rfl) ⟨by decide, by decide⟩ d_T_packet_11 (fun r4 u3 hw => ?_)
      refine j_if_eq X d_T_packet_14 (tgt := 27) (by decide) (fun h => ?_) (fun h => ?_)
      · have hw := hw.1 h
        exact x_throw X hlt hlk hE (cls := "java/lang/IllegalArgumentException") (text := "channel, tag or length") (names := excN) (by decide) (by decide) (fun s' hN hG => ⟨(at_82 hN hG).1, (at_82 hN hG).2.1, (at_82 hN hG).2.2, str_use hN (k := 179) (t := "channel, tag or length") (by decide)⟩) d_T_packet_27 d_T_packet_30 d_T_packet_31 d_T_packet_33 d_T_packet_36 (by decide) (Nat.le_of_ble_eq_true rfl) (by decide) (by decide) (by decide) (by decide) hw
      · have hw := hw.2 h
        refine j_iload_n X d_T_packet_17 rfl 3 rfl ?_
        refine j_iconst X (v := (0 : Int32)) d_T_packet_18 (by decide) ?_
        refine j_bipush X (v := (20 : Int32)) d_T_packet_19 (by decide) ?_
        refine j_callSi (As := [.int a3, .int (0 : Int32), .int (20 : Int32)]) X (c_T_isWithin l D ca ad sz hD hw) (gcS (n := 3) X rfl rfl rfl gc_T_isWithin m_T_isWithin l_T_78 (by decide +kernel) ⟨by decide, by decide⟩) (fun _ h => h) rfl rfl (Nat.le_of_ble_eq_true rfl) ⟨by decide, by decide⟩ d_T_packet_21 (fun r6 u5 hw => ?_)
        refine j_if_ne X d_T_packet_24 (tgt := 37) (by decide) (fun h => ?_) (fun h => ?_)
        · have hw := hw.1 h
          refine j_aload_n X d_T_packet_37 rfl 0 rfl ?_
          refine g_0_4 X f_T_39 d_T_packet_38 ?_
          refine j_iload_n X d_T_packet_41 rfl 1 rfl ?_
          refine la_16 X d_T_packet_42 hw.1 (fun h => ?_) (fun h => ?_)
          · have hw := hw.2.1 h
            refine j_iload_n X d_T_packet_43 rfl 2 rfl ?_
            refine j_iload_n X d_T_packet_44 rfl 3 rfl ?_
            refine j_callVi (As := [.int a2, .int a3]) X (c_St_write_18 l D ca ad sz hD hw) (gcV (n := 2) X rfl rfl rfl gc_St_write m_St_write l_T_181 (by decide +kernel) ⟨by decide, by decide⟩) (q0 := 18) rfl rfl (fun _ h => h) rfl rfl (Nat.le_of_ble_eq_true rfl) ⟨by decide, by decide⟩ d_T_packet_45 (fun r8 u7 hw => ?_)
            exact x_zret X hlk hr (by decide) (by decide) hw.1 d_T_packet_48 hw.2
          · have hw := hw.2.2 h
            refine j_iload_n X d_T_packet_43 rfl 2 rfl ?_
            refine j_iload_n X d_T_packet_44 rfl 3 rfl ?_
            refine j_callVi (As := [.int a2, .int a3]) X (c_St_write_22 l D ca ad sz hD hw) (gcV (n := 2) X rfl rfl rfl gc_St_write m_St_write l_T_181 (by decide +kernel) ⟨by decide, by decide⟩) (q0 := 22) rfl rfl (fun _ h => h) rfl rfl (Nat.le_of_ble_eq_true rfl) ⟨by decide, by decide⟩ d_T_packet_45 (fun r10 u9 hw => ?_)
            exact x_zret X hlk hr (by decide) (by decide) hw.1 d_T_packet_48 hw.2
        · have hw := hw.2 h
          exact x_throw X hlt hlk hE (cls := "java/lang/IllegalArgumentException") (text := "channel, tag or length") (names := excN) (by decide) (by decide) (fun s' hN hG => ⟨(at_82 hN hG).1, (at_82 hN hG).2.1, (at_82 hN hG).2.2, str_use hN (k := 179) (t := "channel, tag or length") (by decide)⟩) d_T_packet_27 d_T_packet_30 d_T_packet_31 d_T_packet_33 d_T_packet_36 (by decide) (Nat.le_of_ble_eq_true rfl) (by decide) (by decide) (by decide) (by decide) hw
  exact hX
def w_T_frame (a1 : Int32) (a2 : Int32) (σ : Jst) (K : Option Int32 → Jst → Prop) (KX : String → Jst → Prop) : Prop := w_T_isChannel a1 σ (fun r2 u1 => ((¬ r2 = (0 : Int32) → (vp_in a1 2 ∧ (a1 = (0 : Int32) → w_St_fill_18 u1 (fun u3 => ((¬ a2 = (0 : Int32) → K (some (u3 26 2)) u3) ∧ (a2 = (0 : Int32) → (vp_in a1 2 ∧ (a1 = (0 : Int32) → w_As_receive_21 u3 (fun u4 => K (some (u4 26 2)) u4)) ∧ (a1 = (1 : Int32) → w_As_receive_25 u3 (fun u5 => K (some (u5 26 2)) u5))))))) ∧ (a1 = (1 : Int32) → w_St_fill_22 u1 (fun u6 => ((¬ a2 = (0 : Int32) → K (some (u6 26 2)) u6) ∧ (a2 = (0 : Int32) → (vp_in a1 2 ∧ (a1 = (0 : Int32) → w_As_receive_21 u6 (fun u7 => K (some (u7 26 2)) u7)) ∧ (a1 = (1 : Int32) → w_As_receive_25 u6 (fun u8 => K (some (u8 26 2)) u8))))))))) ∧ (r2 = (0 : Int32) → KX "java/lang/IllegalArgumentException" u1)))
abbrev rm_T_frame : Room := { frames := 6, cells := 1, slots := 6, locals := 90 }
set_option maxRecDepth 100000 in
set_option maxHeartbeats 4000000 in
theorem c_T_frame (l : Launch) (hlt : l.stackTraces = false) (D : va_G) (ca ad : Nat → Nat) (sz : Nat) (hD : Jd ca ad sz) {a1 a2 : Int32} {σ : Jst} {K : Option Int32 → Jst → Prop} {KX : String → Jst → Prop} (hw : w_T_frame a1 a2 σ K KX) : XMet l y_T_frame (wG y_T_frame b_T_frame 3 (some .int)) rm_T_frame (va_Pc [.ref (ad 0), .int a1, .int a2] (Jw D vwCl (tysT ca) (wlT ad ca) (NwT sz) σ)) D vwCl (wlT ad ca) (Aw sz) K KX 1 6 := by
  refine x_met (cc := b_T_frame) (own := R_T) (by decide +kernel) rfl (Nat.le_of_ble_eq_true rfl) rfl hD (nwT_k sz) ?_
  intro p e s m args below meth c X hlk hr hE
  have hX : J p l e rm_T_frame s m args below meth c D vwCl (wlT ad ca) (Aw sz) 3 0 0 (XE below D vwCl (wlT ad ca) (Aw sz) K KX args s 1 6) 0 [(0, .ref (ad 0)), (1, .int a1), (2, .int a2)] [] σ := by
    unfold w_T_frame at hw
    refine j_iload_n X d_T_frame_0 rfl 1 rfl ?_
    refine j_callSi (As := [.int a1]) X (c_T_isChannel l D ca ad sz hD hw) (gcS (n := 1) X rfl rfl rfl gc_T_isChannel m_T_isChannel l_T_176 (by decide +kernel) ⟨by decide, by decide⟩) (fun _ h => h) rfl rfl (Nat.le_of_ble_eq_true rfl) ⟨by decide, by decide⟩ d_T_frame_1 (fun r2 u1 hw => ?_)
    refine j_if_ne X d_T_frame_4 (tgt := 17) (by decide) (fun h => ?_) (fun h => ?_)
    · have hw := hw.1 h
      refine j_aload_n X d_T_frame_17 rfl 0 rfl ?_
      refine g_0_4 X f_T_39 d_T_frame_18 ?_
      refine j_iload_n X d_T_frame_21 rfl 1 rfl ?_
      refine la_16 X d_T_frame_22 hw.1 (fun h => ?_) (fun h => ?_)
      · have hw := hw.2.1 h
        refine j_aload_n X d_T_frame_23 rfl 0 rfl ?_
        refine g_0_6 X f_T_56 d_T_frame_24 ?_
        refine j_callVv (As := [.ref (ad 26)]) X (c_St_fill_18 l D ca ad sz hD hw) (gcV (n := 1) X rfl rfl rfl gc_St_fill m_St_fill l_T_187 (by decide +kernel) ⟨by decide, by decide⟩) (q0 := 18) rfl rfl (fun _ h => h) rfl rfl (Nat.le_of_ble_eq_true rfl) ⟨by decide, by decide⟩ d_T_frame_27 (fun u3 hw => ?_)
        refine j_iload_n X d_T_frame_30 rfl 2 rfl ?_
        refine j_if_ne X d_T_frame_31 (tgt := 51) (by decide) (fun h => ?_) (fun h => ?_)
        · have hw := hw.1 h
          refine j_aload_n X d_T_frame_51 rfl 0 rfl ?_
          refine g_0_6 X f_T_56 d_T_frame_52 ?_
          refine gN_26_2 X (n_T_194 sz) (v := (u3 26 2)) rfl d_T_frame_55 ?_
          exact x_iret X hlk hr (by decide) (by decide) d_T_frame_58 hw
        · have hw := hw.2 h
          refine j_aload_n X d_T_frame_34 rfl 0 rfl ?_
          refine g_0_5 X f_T_45 d_T_frame_35 ?_
          refine j_iload_n X d_T_frame_38 rfl 1 rfl ?_
          refine la_17 X d_T_frame_39 hw.1 (fun h => ?_) (fun h => ?_)
          · have hw := hw.2.1 h
            refine j_aload_n X d_T_frame_40 rfl 0 rfl ?_
            refine g_0_6 X f_T_56 d_T_frame_41 ?_
            refine j_aload_n X d_T_frame_44 rfl 0 rfl ?_
            refine g_0_7 X f_T_63 d_T_frame_45 ?_
            refine j_callVv (As := [.ref (ad 26), .ref (ad 28)]) X (c_As_receive_21 l D ca ad sz hD hw) (gcV (n := 2) X rfl rfl rfl gc_As_receive m_As_receive l_T_191 (by decide +kernel) ⟨by decide, by decide⟩) (q0 := 21) rfl rfl (fun _ h => h) rfl rfl (Nat.le_of_ble_eq_true rfl) ⟨by decide, by decide⟩ d_T_frame_48 (fun u4 hw => ?_)
            refine j_aload_n X d_T_frame_51 rfl 0 rfl ?_
            refine g_0_6 X f_T_56 d_T_frame_52 ?_
            refine gN_26_2 X (n_T_194 sz) (v := (u4 26 2)) rfl d_T_frame_55 ?_
            exact x_iret X hlk hr (by decide) (by decide) d_T_frame_58 hw
          · have hw := hw.2.2 h
            refine j_aload_n X d_T_frame_40 rfl 0 rfl ?_
            refine g_0_6 X f_T_56 d_T_frame_41 ?_
            refine j_aload_n X d_T_frame_44 rfl 0 rfl ?_
            refine g_0_7 X f_T_63 d_T_frame_45 ?_
            refine j_callVv (As := [.ref (ad 26), .ref (ad 28)]) X (c_As_receive_25 l D ca ad sz hD hw) (gcV (n := 2) X rfl rfl rfl gc_As_receive m_As_receive l_T_191 (by decide +kernel) ⟨by decide, by decide⟩) (q0 := 25) rfl rfl (fun _ h => h) rfl rfl (Nat.le_of_ble_eq_true rfl) ⟨by decide, by decide⟩ d_T_frame_48 (fun u5 hw => ?_)
            refine j_aload_n X d_T_frame_51 rfl 0 rfl ?_
            refine g_0_6 X f_T_56 d_T_frame_52 ?_
            refine gN_26_2 X (n_T_194 sz) (v := (u5 26 2)) rfl d_T_frame_55 ?_
            exact x_iret X hlk hr (by decide) (by decide) d_T_frame_58 hw
      · have hw := hw.2.2 h
        refine j_aload_n X d_T_frame_23 rfl 0 rfl ?_
        refine g_0_6 X f_T_56 d_T_frame_24 ?_
        refine j_callVv (As := [.ref (ad 26)]) X (c_St_fill_22 l D ca ad sz hD hw) (gcV (n := 1) X rfl rfl rfl gc_St_fill m_St_fill l_T_187 (by decide +kernel) ⟨by decide, by decide⟩) (q0 := 22) rfl rfl (fun _ h => h) rfl rfl (Nat.le_of_ble_eq_true rfl) ⟨by decide, by decide⟩ d_T_frame_27 (fun u6 hw => ?_)
        refine j_iload_n X d_T_frame_30 rfl 2 rfl ?_
        refine j_if_ne X d_T_frame_31 (tgt := 51) (by decide) (fun h => ?_) (fun h => ?_)
        · have hw := hw.1 h
          refine j_aload_n X d_T_frame_51 rfl 0 rfl ?_
          refine g_0_6 X f_T_56 d_T_frame_52 ?_
          refine gN_26_2 X (n_T_194 sz) (v := (u6 26 2)) rfl d_T_frame_55 ?_
          exact x_iret X hlk hr (by decide) (by decide) d_T_frame_58 hw
        · have hw := hw.2 h
          refine j_aload_n X d_T_frame_34 rfl 0 rfl ?_
          refine g_0_5 X f_T_45 d_T_frame_35 ?_
          refine j_iload_n X d_T_frame_38 rfl 1 rfl ?_
          refine la_17 X d_T_frame_39 hw.1 (fun h => ?_) (fun h => ?_)
          · have hw := hw.2.1 h
            refine j_aload_n X d_T_frame_40 rfl 0 rfl ?_
            refine g_0_6 X f_T_56 d_T_frame_41 ?_
            refine j_aload_n X d_T_frame_44 rfl 0 rfl ?_
            refine g_0_7 X f_T_63 d_T_frame_45 ?_
            refine j_callVv (As := [.ref (ad 26), .ref (ad 28)]) X (c_As_receive_21 l D ca ad sz hD hw) (gcV (n := 2) X rfl rfl rfl gc_As_receive m_As_receive l_T_191 (by decide +kernel) ⟨by decide, by decide⟩) (q0 := 21) rfl rfl (fun _ h => h) rfl rfl (Nat.le_of_ble_eq_true rfl) ⟨by decide, by decide⟩ d_T_frame_48 (fun u7 hw => ?_)
            refine j_aload_n X d_T_frame_51 rfl 0 rfl ?_
            refine g_0_6 X f_T_56 d_T_frame_52 ?_
            refine gN_26_2 X (n_T_194 sz) (v := (u7 26 2)) rfl d_T_frame_55 ?_
            exact x_iret X hlk hr (by decide) (by decide) d_T_frame_58 hw
          · have hw := hw.2.2 h
            refine j_aload_n X d_T_frame_40 rfl 0 rfl ?_
            refine g_0_6 X f_T_56 d_T_frame_41 ?_
            refine j_aload_n X d_T_frame_44 rfl 0 rfl ?_
            refine g_0_7 X f_T_63 d_T_frame_45 ?_
            refine j_callVv (As := [.ref (ad 26), .ref (ad 28)]) X (c_As_receive_25 l D ca ad sz hD hw) (gcV (n := 2) X rfl rfl rfl gc_As_receive m_As_receive l_T_191 (by decide +kernel) ⟨by decide, by decide⟩) (q0 := 25) rfl rfl (fun _ h => h) rfl rfl (Nat.le_of_ble_eq_true rfl) ⟨by decide, by decide⟩ d_T_frame_48 (fun u8 hw => ?_)
            refine j_aload_n X d_T_frame_51 rfl 0 rfl ?_
            refine g_0_6 X f_T_56 d_T_frame_52 ?_
            refine gN_26_2 X (n_T_194 sz) (v := (u8 26 2)) rfl d_T_frame_55 ?_
            exact x_iret X hlk hr (by decide) (by decide) d_T_frame_58 hw
    · have hw := hw.2 h
      exact x_throw X hlt hlk hE (cls := "java/lang/IllegalArgumentException") (text := "channel") (names := excN) (by decide) (by decide) (fun s' hN hG => ⟨(at_82 hN hG).1, (at_82 hN hG).2.1, (at_82 hN hG).2.2, str_use hN (k := 185) (t := "channel") (by decide)⟩) d_T_frame_7 d_T_frame_10 d_T_frame_11 d_T_frame_13 d_T_frame_16 (by decide) (Nat.le_of_ble_eq_true rfl) (by decide) (by decide) (by decide) (by decide) hw
  exact hX
def w_T_ground (a1 : Int32) (σ : Jst) (K : Option Int32 → Jst → Prop) (KX : String → Jst → Prop) : Prop := ((a1 = (9 : Int32) → w_Uf_size σ (fun r2 u1 => K (some r2) u1)) ∧ ((a1 = (10 : Int32) → w_Rp_size σ (fun r4 u3 => K (some r4) u3)) ∧ (¬ a1 = (9 : Int32) → ¬ a1 = (10 : Int32) → w_T_isWithin a1 (0 : Int32) (8 : Int32) σ (fun r6 u5 => ((¬ r6 = (0 : Int32) → w_Gr_tell a1 u5 (fun r8 u7 => K (some r8) u7)) ∧ (r6 = (0 : Int32) → KX "java/lang/IndexOutOfBoundsException" u5))))))
abbrev rm_T_ground : Room := { frames := 6, cells := 1, slots := 6, locals := 90 }
set_option maxRecDepth 100000 in
set_option maxHeartbeats 4000000 in
theorem c_T_ground (l : Launch) (hlt : l.stackTraces = false) (D : va_G) (ca ad : Nat → Nat) (sz : Nat) (hD : Jd ca ad sz) {a1 : Int32} {σ : Jst} {K : Option Int32 → Jst → Prop} {KX : String → Jst → Prop} (hw : w_T_ground a1 σ K KX) : XMet l y_T_ground (wG y_T_ground b_T_ground 2 (some .int)) rm_T_ground (va_Pc [.ref (ad 0), .int a1] (Jw D vwCl (tysT ca) (wlT ad ca) (NwT sz) σ)) D vwCl (wlT ad ca) (Aw sz) K KX 1 6 := by
  refine x_met (cc := b_T_ground) (own := R_T) (by decide +kernel) rfl (Nat.le_of_ble_eq_true rfl) rfl hD (nwT_k sz) ?_
  intro p e s m args below meth c X hlk hr hE
  have hX : J p l e rm_T_ground s m args below meth c D vwCl (wlT ad ca) (Aw sz) 2 0 0 (XE below D vwCl (wlT ad ca) (Aw sz) K KX args s 1 6) 0 [(0, .ref (ad 0)), (1, .int a1)] [] σ := by
    unfold w_T_ground at hw
    refine j_iload_n X d_T_ground_0 rfl 1 rfl ?_
    by_cases h9 : a1 = (9 : Int32)
    · refine j_lookup X d_T_ground_1 (by decide) (off := 27) (by rw [h9]; decide) (tgt := 28) (by decide) ?_
      have hw := hw.1 h9
      refine j_aload_n X d_T_ground_28 rfl 0 rfl ?_
      refine g_0_0 X f_T_10 d_T_ground_29 ?_
      refine j_callVi (As := []) X (c_Uf_size l D ca ad sz hD hw) (gcV (n := 0) X rfl rfl rfl gc_Uf_size m_Uf_size l_T_198 (by decide +kernel) ⟨by decide, by decide⟩) (q0 := 1) rfl rfl (fun _ h => h) rfl rfl (Nat.le_of_ble_eq_true rfl) ⟨by decide, by decide⟩ d_T_ground_32 (fun r2 u1 hw => ?_)
      exact x_iret X hlk hr (by decide) (by decide) d_T_ground_35 hw
    have hw := hw.2
    by_cases h10 : a1 = (10 : Int32)
    · refine j_lookup X d_T_ground_1 (by decide) (off := 35) (by rw [h10]; decide) (tgt := 36) (by decide) ?_
      have hw := hw.1 h10
      refine j_aload_n X d_T_ground_36 rfl 0 rfl ?_
      refine g_0_1 X f_T_19 d_T_ground_37 ?_
      refine j_callVi (As := []) X (c_Rp_size l D ca ad sz hD hw) (gcV (n := 0) X rfl rfl rfl gc_Rp_size m_Rp_size l_T_201 (by decide +kernel) ⟨by decide, by decide⟩) (q0 := 5) rfl rfl (fun _ h => h) rfl rfl (Nat.le_of_ble_eq_true rfl) ⟨by decide, by decide⟩ d_T_ground_40 (fun r4 u3 hw => ?_)
      exact x_iret X hlk hr (by decide) (by decide) d_T_ground_43 hw
    have hw := hw.2
    refine j_lookup X d_T_ground_1 (by decide) (off := 43) (by simp only [Array.toList]; rw [lv_osw h9 (by decide)]; rw [lv_osw h10 (by decide)]; rfl) (tgt := 44) (by decide) ?_
    have hw := hw h9 h10
    refine j_iload_n X d_T_ground_44 rfl 1 rfl ?_
    refine j_iconst X (v := (0 : Int32)) d_T_ground_45 (by decide) ?_
    refine j_bipush X (v := (8 : Int32)) d_T_ground_46 (by decide) ?_
    refine j_callSi (As := [.int a1, .int (0 : Int32), .int (8 : Int32)]) X (c_T_isWithin l D ca ad sz hD hw) (gcS (n := 3) X rfl rfl rfl gc_T_isWithin m_T_isWithin l_T_78 (by decide +kernel) ⟨by decide, by decide⟩) (fun _ h => h) rfl rfl (Nat.le_of_ble_eq_true rfl) ⟨by decide, by decide⟩ d_T_ground_48 (fun r6 u5 hw => ?_)
    refine j_if_ne X d_T_ground_51 (tgt := 64) (by decide) (fun h => ?_) (fun h => ?_)
    · have hw := hw.1 h
      refine j_aload_n X d_T_ground_64 rfl 0 rfl ?_
      refine g_0_2 X f_T_26 d_T_ground_65 ?_
      refine j_iload_n X d_T_ground_68 rfl 1 rfl ?_
      refine j_callVi (As := [.int a1]) X (c_Gr_tell l D ca ad sz hD hw) (gcV (n := 1) X rfl rfl rfl gc_Gr_tell m_Gr_tell l_T_204 (by decide +kernel) ⟨by decide, by decide⟩) (q0 := 9) rfl rfl (fun _ h => h) rfl rfl (Nat.le_of_ble_eq_true rfl) ⟨by decide, by decide⟩ d_T_ground_69 (fun r8 u7 hw => ?_)
      exact x_iret X hlk hr (by decide) (by decide) d_T_ground_72 hw
    · have hw := hw.2 h
      exact x_throw X hlt hlk hE (cls := "java/lang/IndexOutOfBoundsException") (text := "what") (names := excN) (by decide) (by decide) (fun s' hN hG => ⟨(at_122 hN hG).1, (at_122 hN hG).2.1, (at_122 hN hG).2.2, str_use hN (k := 202) (t := "what") (by decide)⟩) d_T_ground_54 d_T_ground_57 d_T_ground_58 d_T_ground_60 d_T_ground_63 (by decide) (Nat.le_of_ble_eq_true rfl) (by decide) (by decide) (by decide) (by decide) hw
  exact hX
def w_T_craft (a1 : Int32) (σ : Jst) (K : Option Int32 → Jst → Prop) (KX : String → Jst → Prop) : Prop := ((a1 = (4 : Int32) → w_St_size_18 σ (fun r2 u1 => K (some r2) u1)) ∧ ((a1 = (5 : Int32) → w_St_size_22 σ (fun r4 u3 => K (some r4) u3)) ∧ (¬ a1 = (4 : Int32) → ¬ a1 = (5 : Int32) → w_T_isWithin a1 (0 : Int32) (3 : Int32) σ (fun r6 u5 => ((¬ r6 = (0 : Int32) → w_Cr_tell a1 u5 (fun r8 u7 => K (some r8) u7)) ∧ (r6 = (0 : Int32) → KX "java/lang/IndexOutOfBoundsException" u5))))))
abbrev rm_T_craft : Room := { frames := 6, cells := 1, slots := 6, locals := 90 }
set_option maxRecDepth 100000 in
set_option maxHeartbeats 4000000 in
theorem c_T_craft (l : Launch) (hlt : l.stackTraces = false) (D : va_G) (ca ad : Nat → Nat) (sz : Nat) (hD : Jd ca ad sz) {a1 : Int32} {σ : Jst} {K : Option Int32 → Jst → Prop} {KX : String → Jst → Prop} (hw : w_T_craft a1 σ K KX) : XMet l y_T_craft (wG y_T_craft b_T_craft 2 (some .int)) rm_T_craft (va_Pc [.ref (ad 0), .int a1] (Jw D vwCl (tysT ca) (wlT ad ca) (NwT sz) σ)) D vwCl (wlT ad ca) (Aw sz) K KX 1 6 := by
  refine x_met (cc := b_T_craft) (own := R_T) (by decide +kernel) rfl (Nat.le_of_ble_eq_true rfl) rfl hD (nwT_k sz) ?_
  intro p e s m args below meth c X hlk hr hE
  have hX : J p l e rm_T_craft s m args below meth c D vwCl (wlT ad ca) (Aw sz) 2 0 0 (XE below D vwCl (wlT ad ca) (Aw sz) K KX args s 1 6) 0 [(0, .ref (ad 0)), (1, .int a1)] [] σ := by
    unfold w_T_craft at hw
    refine j_iload_n X d_T_craft_0 rfl 1 rfl ?_
    by_cases h4 : a1 = (4 : Int32)
    · refine j_lookup X d_T_craft_1 (by decide) (off := 27) (by rw [h4]; decide) (tgt := 28) (by decide) ?_
      have hw := hw.1 h4
      refine j_aload_n X d_T_craft_28 rfl 0 rfl ?_
      refine g_0_4 X f_T_39 d_T_craft_29 ?_
      refine j_iconst X (v := (0 : Int32)) d_T_craft_32 (by decide) ?_
      refine la_16_0 X d_T_craft_33 ?_
      refine j_callVi (As := []) X (c_St_size_18 l D ca ad sz hD hw) (gcV (n := 0) X rfl rfl rfl gc_St_size m_St_size l_T_207 (by decide +kernel) ⟨by decide, by decide⟩) (q0 := 18) rfl rfl (fun _ h => h) rfl rfl (Nat.le_of_ble_eq_true rfl) ⟨by decide, by decide⟩ d_T_craft_34 (fun r2 u1 hw => ?_)
      exact x_iret X hlk hr (by decide) (by decide) d_T_craft_37 hw
    have hw := hw.2
    by_cases h5 : a1 = (5 : Int32)
    · refine j_lookup X d_T_craft_1 (by decide) (off := 37) (by rw [h5]; decide) (tgt := 38) (by decide) ?_
      have hw := hw.1 h5
      refine j_aload_n X d_T_craft_38 rfl 0 rfl ?_
      refine g_0_4 X f_T_39 d_T_craft_39 ?_
      refine j_iconst X (v := (1 : Int32)) d_T_craft_42 (by decide) ?_
      refine la_16_1 X d_T_craft_43 ?_
      refine j_callVi (As := []) X (c_St_size_22 l D ca ad sz hD hw) (gcV (n := 0) X rfl rfl rfl gc_St_size m_St_size l_T_207 (by decide +kernel) ⟨by decide, by decide⟩) (q0 := 22) rfl rfl (fun _ h => h) rfl rfl (Nat.le_of_ble_eq_true rfl) ⟨by decide, by decide⟩ d_T_craft_44 (fun r4 u3 hw => ?_)
      exact x_iret X hlk hr (by decide) (by decide) d_T_craft_47 hw
    have hw := hw.2
    refine j_lookup X d_T_craft_1 (by decide) (off := 47) (by simp only [Array.toList]; rw [lv_osw h4 (by decide)]; rw [lv_osw h5 (by decide)]; rfl) (tgt := 48) (by decide) ?_
    have hw := hw h4 h5
    refine j_iload_n X d_T_craft_48 rfl 1 rfl ?_
    refine j_iconst X (v := (0 : Int32)) d_T_craft_49 (by decide) ?_
    refine j_iconst X (v := (3 : Int32)) d_T_craft_50 (by decide) ?_
    refine j_callSi (As := [.int a1, .int (0 : Int32), .int (3 : Int32)]) X (c_T_isWithin l D ca ad sz hD hw) (gcS (n := 3) X rfl rfl rfl gc_T_isWithin m_T_isWithin l_T_78 (by decide +kernel) ⟨by decide, by decide⟩) (fun _ h => h) rfl rfl (Nat.le_of_ble_eq_true rfl) ⟨by decide, by decide⟩ d_T_craft_51 (fun r6 u5 hw => ?_)
    refine j_if_ne X d_T_craft_54 (tgt := 67) (by decide) (fun h => ?_) (fun h => ?_)
    · have hw := hw.1 h
      refine j_aload_n X d_T_craft_67 rfl 0 rfl ?_
      refine g_0_3 X f_T_33 d_T_craft_68 ?_
      refine j_iload_n X d_T_craft_71 rfl 1 rfl ?_
      refine j_callVi (As := [.int a1]) X (c_Cr_tell l D ca ad sz hD hw) (gcV (n := 1) X rfl rfl rfl gc_Cr_tell m_Cr_tell l_T_208 (by decide +kernel) ⟨by decide, by decide⟩) (q0 := 14) rfl rfl (fun _ h => h) rfl rfl (Nat.le_of_ble_eq_true rfl) ⟨by decide, by decide⟩ d_T_craft_72 (fun r8 u7 hw => ?_)
      exact x_iret X hlk hr (by decide) (by decide) d_T_craft_75 hw
    · have hw := hw.2 h
      exact x_throw X hlt hlk hE (cls := "java/lang/IndexOutOfBoundsException") (text := "what") (names := excN) (by decide) (by decide) (fun s' hN hG => ⟨(at_122 hN hG).1, (at_122 hN hG).2.1, (at_122 hN hG).2.2, str_use hN (k := 202) (t := "what") (by decide)⟩) d_T_craft_57 d_T_craft_60 d_T_craft_61 d_T_craft_63 d_T_craft_66 (by decide) (Nat.le_of_ble_eq_true rfl) (by decide) (by decide) (by decide) (by decide) hw
  exact hX
def w_T_flight (a1 : Int32) (a2 : Int32) (σ : Jst) (K : Option Int32 → Jst → Prop) (KX : String → Jst → Prop) : Prop := w_Uf_has a1 σ (fun r2 u1 => ((¬ r2 = (0 : Int32) → w_Uf_tell a1 a2 u1 (fun r4 u3 => K (some r4) u3)) ∧ (r2 = (0 : Int32) → KX "java/lang/IndexOutOfBoundsException" u1)))
abbrev rm_T_flight : Room := { frames := 6, cells := 1, slots := 6, locals := 90 }
set_option maxRecDepth 100000 in
set_option maxHeartbeats 4000000 in
theorem c_T_flight (l : Launch) (hlt : l.stackTraces = false) (D : va_G) (ca ad : Nat → Nat) (sz : Nat) (hD : Jd ca ad sz) {a1 a2 : Int32} {σ : Jst} {K : Option Int32 → Jst → Prop} {KX : String → Jst → Prop} (hw : w_T_flight a1 a2 σ K KX) : XMet l y_T_flight (wG y_T_flight b_T_flight 3 (some .int)) rm_T_flight (va_Pc [.ref (ad 0), .int a1, .int a2] (Jw D vwCl (tysT ca) (wlT ad ca) (NwT sz) σ)) D vwCl (wlT ad ca) (Aw sz) K KX 1 6 := by
  refine x_met (cc := b_T_flight) (own := R_T) (by decide +kernel) rfl (Nat.le_of_ble_eq_true rfl) rfl hD (nwT_k sz) ?_
  intro p e s m args below meth c X hlk hr hE
  have hX : J p l e rm_T_flight s m args below meth c D vwCl (wlT ad ca) (Aw sz) 3 0 0 (XE below D vwCl (wlT ad ca) (Aw sz) K KX args s 1 6) 0 [(0, .ref (ad 0)), (1, .int a1), (2, .int a2)] [] σ := by
    unfold w_T_flight at hw
    refine j_aload_n X d_T_flight_0 rfl 0 rfl ?_
    refine g_0_0 X f_T_10 d_T_flight_1 ?_
    refine j_iload_n X d_T_flight_4 rfl 1 rfl ?_
    refine j_callVi (As := [.int a1]) X (c_Uf_has l D ca ad sz hD hw) (gcV (n := 1) X rfl rfl rfl gc_Uf_has m_Uf_has l_T_119 (by decide +kernel) ⟨by decide, by decide⟩) (q0 := 1) rfl rfl (fun _ h => h) rfl rfl (Nat.le_of_ble_eq_true rfl) ⟨by decide, by decide⟩ d_T_flight_5 (fun r2 u1 hw => ?_)
    refine j_if_ne X d_T_flight_8 (tgt := 21) (by decide) (fun h => ?_) (fun h => ?_)
    · have hw := hw.1 h
      refine j_aload_n X d_T_flight_21 rfl 0 rfl ?_
      refine g_0_0 X f_T_10 d_T_flight_22 ?_
      refine j_iload_n X d_T_flight_25 rfl 1 rfl ?_
      refine j_iload_n X d_T_flight_26 rfl 2 rfl ?_
      refine j_callVi (As := [.int a1, .int a2]) X (c_Uf_tell l D ca ad sz hD hw) (gcV (n := 2) X rfl rfl rfl gc_Uf_tell m_Uf_tell l_T_209 (by decide +kernel) ⟨by decide, by decide⟩) (q0 := 1) rfl rfl (fun _ h => h) rfl rfl (Nat.le_of_ble_eq_true rfl) ⟨by decide, by decide⟩ d_T_flight_27 (fun r4 u3 hw => ?_)
      exact x_iret X hlk hr (by decide) (by decide) d_T_flight_30 hw
    · have hw := hw.2 h
      exact x_throw X hlt hlk hE (cls := "java/lang/IndexOutOfBoundsException") (text := "no such up frame") (names := excN) (by decide) (by decide) (fun s' hN hG => ⟨(at_122 hN hG).1, (at_122 hN hG).2.1, (at_122 hN hG).2.2, str_use hN (k := 124) (t := "no such up frame") (by decide)⟩) d_T_flight_11 d_T_flight_14 d_T_flight_15 d_T_flight_17 d_T_flight_20 (by decide) (Nat.le_of_ble_eq_true rfl) (by decide) (by decide) (by decide) (by decide) hw
  exact hX
def w_T_packets (σ : Jst) (K : Int32 → Jst → Prop) : Prop := w_Rc_size σ (fun r2 u1 => K r2 u1)
abbrev rm_T_packets : Room := { frames := 1, cells := 0, slots := 0, locals := 20 }
set_option maxRecDepth 100000 in
set_option maxHeartbeats 4000000 in
theorem c_T_packets (l : Launch) (D : va_G) (ca ad : Nat → Nat) (sz : Nat) (hD : Jd ca ad sz) {σ : Jst} {K : Int32 → Jst → Prop} (hw : w_T_packets σ K) : Met l y_T_packets (wG y_T_packets b_T_packets 1 (some .int)) rm_T_packets (va_Pc [.ref (ad 0)] (Jw D vwCl (tysT ca) (wlT ad ca) (NwT sz) σ)) (va_Qi K (Jq D vwCl (wlT ad ca)) (Aw sz)) 0 0 (Aw sz) := by
  refine j_met (cc := b_T_packets) (own := R_T) (by decide +kernel) rfl (Nat.le_of_ble_eq_true rfl) rfl hD (nwT_k sz) ?_
  intro p e s m args below meth c X hlk hr
  have hX : J p l e rm_T_packets s m args below meth c D vwCl (wlT ad ca) (Aw sz) 1 0 0 (MQ below (va_Qi K (Jq D vwCl (wlT ad ca)) (Aw sz)) args s 0 0 (Aw sz)) 0 [(0, .ref (ad 0))] [] σ := by
    unfold w_T_packets at hw
    refine j_aload_n X d_T_packets_0 rfl 0 rfl ?_
    refine g_0_7 X f_T_63 d_T_packets_1 ?_
    refine j_callVi (As := []) X (c_Rc_size l D ca ad sz hD hw) (gcV (n := 0) X rfl rfl rfl gc_Rc_size m_Rc_size l_T_212 (by decide +kernel) ⟨by decide, by decide⟩) (q0 := 28) rfl rfl (fun _ h => h) rfl rfl (Nat.le_of_ble_eq_true rfl) ⟨by decide, by decide⟩ d_T_packets_4 (fun r2 u1 hw => ?_)
    exact j_iret X hlk hr d_T_packets_7 hw
  exact hX
def w_T_got (a1 : Int32) (a2 : Int32) (σ : Jst) (K : Option Int32 → Jst → Prop) (KX : String → Jst → Prop) : Prop := w_Rc_has a1 σ (fun r2 u1 => ((¬ r2 = (0 : Int32) → w_Rc_tell a1 a2 u1 (fun r4 u3 => K (some r4) u3)) ∧ (r2 = (0 : Int32) → KX "java/util/NoSuchElementException" u1)))
abbrev rm_T_got : Room := { frames := 6, cells := 1, slots := 6, locals := 90 }
set_option maxRecDepth 100000 in
set_option maxHeartbeats 4000000 in
theorem c_T_got (l : Launch) (hlt : l.stackTraces = false) (D : va_G) (ca ad : Nat → Nat) (sz : Nat) (hD : Jd ca ad sz) {a1 a2 : Int32} {σ : Jst} {K : Option Int32 → Jst → Prop} {KX : String → Jst → Prop} (hw : w_T_got a1 a2 σ K KX) : XMet l y_T_got (wG y_T_got b_T_got 3 (some .int)) rm_T_got (va_Pc [.ref (ad 0), .int a1, .int a2] (Jw D vwCl (tysT ca) (wlT ad ca) (NwT sz) σ)) D vwCl (wlT ad ca) (Aw sz) K KX 1 6 := by
  refine x_met (cc := b_T_got) (own := R_T) (by decide +kernel) rfl (Nat.le_of_ble_eq_true rfl) rfl hD (nwT_k sz) ?_
  intro p e s m args below meth c X hlk hr hE
  have hX : J p l e rm_T_got s m args below meth c D vwCl (wlT ad ca) (Aw sz) 3 0 0 (XE below D vwCl (wlT ad ca) (Aw sz) K KX args s 1 6) 0 [(0, .ref (ad 0)), (1, .int a1), (2, .int a2)] [] σ := by
    unfold w_T_got at hw
    refine j_aload_n X d_T_got_0 rfl 0 rfl ?_
    refine g_0_7 X f_T_63 d_T_got_1 ?_
    refine j_iload_n X d_T_got_4 rfl 1 rfl ?_
    refine j_callVi (As := [.int a1]) X (c_Rc_has l D ca ad sz hD hw) (gcV (n := 1) X rfl rfl rfl gc_Rc_has m_Rc_has l_T_213 (by decide +kernel) ⟨by decide, by decide⟩) (q0 := 28) rfl rfl (fun _ h => h) rfl rfl (Nat.le_of_ble_eq_true rfl) ⟨by decide, by decide⟩ d_T_got_5 (fun r2 u1 hw => ?_)
    refine j_if_ne X d_T_got_8 (tgt := 21) (by decide) (fun h => ?_) (fun h => ?_)
    · have hw := hw.1 h
      refine j_aload_n X d_T_got_21 rfl 0 rfl ?_
      refine g_0_7 X f_T_63 d_T_got_22 ?_
      refine j_iload_n X d_T_got_25 rfl 1 rfl ?_
      refine j_iload_n X d_T_got_26 rfl 2 rfl ?_
      refine j_callVi (As := [.int a1, .int a2]) X (c_Rc_tell l D ca ad sz hD hw) (gcV (n := 2) X rfl rfl rfl gc_Rc_tell m_Rc_tell l_T_216 (by decide +kernel) ⟨by decide, by decide⟩) (q0 := 28) rfl rfl (fun _ h => h) rfl rfl (Nat.le_of_ble_eq_true rfl) ⟨by decide, by decide⟩ d_T_got_27 (fun r4 u3 hw => ?_)
      exact x_iret X hlk hr (by decide) (by decide) d_T_got_30 hw
    · have hw := hw.2 h
      exact x_throwN X hlt hlk hE (text := "no such packet") (fun s' hN hG => ⟨(at_147 hN hG).1, (at_147 hN hG).2.1, (at_147 hN hG).2.2, str_use hN (k := 214) (t := "no such packet") (by decide)⟩) d_T_got_11 d_T_got_14 d_T_got_15 d_T_got_17 d_T_got_20 (by decide) (Nat.le_of_ble_eq_true rfl) (by decide) (by decide) (by decide) (by decide) hw
  exact hX
