def w_Uf_size (σ : Jst) (K : Int32 → Jst → Prop) : Prop := K (σ 1 3) σ
abbrev rm_Uf_size : Room := { frames := 0, cells := 0, slots := 0, locals := 0 }
set_option maxRecDepth 100000 in
set_option maxHeartbeats 4000000 in
theorem c_Uf_size (l : Launch) (D : va_G) (ca ad : Nat → Nat) (sz : Nat) (hD : Jd ca ad sz) {σ : Jst} {K : Int32 → Jst → Prop} (hw : w_Uf_size σ K) : Met l y_Uf_size (wG y_Uf_size b_Uf_size 1 (some .int)) rm_Uf_size (va_Pc [.ref (ad 1)] (Jw D vwCl (tysT ca) (wlT ad ca) (NwT sz) σ)) (va_Qi K (Jq D vwCl (wlT ad ca)) (Aw sz)) 0 0 (Aw sz) := by
  refine j_met (cc := b_Uf_size) (own := R_Uf) (by decide +kernel) rfl (Nat.le_of_ble_eq_true rfl) rfl hD (nwT_k sz) ?_
  intro p e s m args below meth c X hlk hr
  have hX : J p l e rm_Uf_size s m args below meth c D vwCl (wlT ad ca) (Aw sz) 1 0 0 (MQ below (va_Qi K (Jq D vwCl (wlT ad ca)) (Aw sz)) args s 0 0 (Aw sz)) 0 [(0, .ref (ad 1))] [] σ := by
    unfold w_Uf_size at hw
    refine j_aload_n X d_Uf_size_0 rfl 0 rfl ?_
    refine g_1_3 X f_Uf_21 (v := (σ 1 3)) rfl d_Uf_size_1 ?_
    exact j_iret X hlk hr d_Uf_size_4 hw
  exact hX
def w_Uf_has (a1 : Int32) (σ : Jst) (K : Int32 → Jst → Prop) : Prop := ((a1 < (0 : Int32) → K (0 : Int32) σ) ∧ (¬ a1 < (0 : Int32) → (((σ 1 3) ≤ a1 → K (0 : Int32) σ) ∧ (¬ (σ 1 3) ≤ a1 → K (1 : Int32) σ))))
abbrev rm_Uf_has : Room := { frames := 0, cells := 0, slots := 0, locals := 0 }
set_option maxRecDepth 100000 in
set_option maxHeartbeats 4000000 in
theorem c_Uf_has (l : Launch) (D : va_G) (ca ad : Nat → Nat) (sz : Nat) (hD : Jd ca ad sz) {a1 : Int32} {σ : Jst} {K : Int32 → Jst → Prop} (hw : w_Uf_has a1 σ K) : Met l y_Uf_has (wG y_Uf_has b_Uf_has 2 (some .boolean)) rm_Uf_has (va_Pc [.ref (ad 1), .int a1] (Jw D vwCl (tysT ca) (wlT ad ca) (NwT sz) σ)) (va_Qi K (Jq D vwCl (wlT ad ca)) (Aw sz)) 0 0 (Aw sz) := by
  refine j_met (cc := b_Uf_has) (own := R_Uf) (by decide +kernel) rfl (Nat.le_of_ble_eq_true rfl) rfl hD (nwT_k sz) ?_
  intro p e s m args below meth c X hlk hr
  have hX : J p l e rm_Uf_has s m args below meth c D vwCl (wlT ad ca) (Aw sz) 2 0 0 (MQ below (va_Qi K (Jq D vwCl (wlT ad ca)) (Aw sz)) args s 0 0 (Aw sz)) 0 [(0, .ref (ad 1)), (1, .int a1)] [] σ := by
    unfold w_Uf_has at hw
    refine j_iload_n X d_Uf_has_0 rfl 1 rfl ?_
    refine j_if_lt X d_Uf_has_1 (tgt := 16) (by decide) (fun h => ?_) (fun h => ?_)
    · have hw := hw.1 h
      refine j_iconst X (v := (0 : Int32)) d_Uf_has_16 (by decide) ?_
      exact j_zret X hlk hr rfl d_Uf_has_17 hw
    · have hw := hw.2 h
      refine j_iload_n X d_Uf_has_4 rfl 1 rfl ?_
      refine j_aload_n X d_Uf_has_5 rfl 0 rfl ?_
      refine g_1_3 X f_Uf_21 (v := (σ 1 3)) rfl d_Uf_has_6 ?_
      refine j_icmp_ge X d_Uf_has_9 (tgt := 16) (by decide) (fun h => ?_) (fun h => ?_)
      · have hw := hw.1 h
        refine j_iconst X (v := (0 : Int32)) d_Uf_has_16 (by decide) ?_
        exact j_zret X hlk hr rfl d_Uf_has_17 hw
      · have hw := hw.2 h
        refine j_iconst X (v := (1 : Int32)) d_Uf_has_12 (by decide) ?_
        refine j_goto X d_Uf_has_13 (tgt := 17) (by decide) ?_
        exact j_zret X hlk hr rfl d_Uf_has_17 hw
  exact hX
def w_Uf_kind (a1 : Int32) (σ : Jst) (K : Int32 → Jst → Prop) : Prop := (vp_in a1 20 ∧ K (σ 2 (Int32.toNatClampNeg a1)) σ)
abbrev rm_Uf_kind : Room := { frames := 0, cells := 0, slots := 0, locals := 0 }
set_option maxRecDepth 100000 in
set_option maxHeartbeats 4000000 in
theorem c_Uf_kind (l : Launch) (D : va_G) (ca ad : Nat → Nat) (sz : Nat) (hD : Jd ca ad sz) {a1 : Int32} {σ : Jst} {K : Int32 → Jst → Prop} (hw : w_Uf_kind a1 σ K) : Met l y_Uf_kind (wG y_Uf_kind b_Uf_kind 2 (some .int)) rm_Uf_kind (va_Pc [.ref (ad 1), .int a1] (Jw D vwCl (tysT ca) (wlT ad ca) (NwT sz) σ)) (va_Qi K (Jq D vwCl (wlT ad ca)) (Aw sz)) 0 0 (Aw sz) := by
  refine j_met (cc := b_Uf_kind) (own := R_Uf) (by decide +kernel) rfl (Nat.le_of_ble_eq_true rfl) rfl hD (nwT_k sz) ?_
  intro p e s m args below meth c X hlk hr
  have hX : J p l e rm_Uf_kind s m args below meth c D vwCl (wlT ad ca) (Aw sz) 2 0 0 (MQ below (va_Qi K (Jq D vwCl (wlT ad ca)) (Aw sz)) args s 0 0 (Aw sz)) 0 [(0, .ref (ad 1)), (1, .int a1)] [] σ := by
    unfold w_Uf_kind at hw
    refine j_aload_n X d_Uf_kind_0 rfl 0 rfl ?_
    refine g_1_0 X f_Uf_9 d_Uf_kind_1 ?_
    refine j_iload_n X d_Uf_kind_4 rfl 1 rfl ?_
    refine ld_2 X hw.1 (v := (σ 2 (Int32.toNatClampNeg a1))) rfl d_Uf_kind_5 ?_
    have hw := hw.2
    exact j_iret X hlk hr d_Uf_kind_6 hw
  exact hX
def w_Uf_numberOf (a1 : Int32) (σ : Jst) (K : Int32 → Jst → Prop) : Prop := (vp_in a1 20 ∧ K (σ 3 (Int32.toNatClampNeg a1)) σ)
abbrev rm_Uf_numberOf : Room := { frames := 0, cells := 0, slots := 0, locals := 0 }
set_option maxRecDepth 100000 in
set_option maxHeartbeats 4000000 in
theorem c_Uf_numberOf (l : Launch) (D : va_G) (ca ad : Nat → Nat) (sz : Nat) (hD : Jd ca ad sz) {a1 : Int32} {σ : Jst} {K : Int32 → Jst → Prop} (hw : w_Uf_numberOf a1 σ K) : Met l y_Uf_numberOf (wG y_Uf_numberOf b_Uf_numberOf 2 (some .int)) rm_Uf_numberOf (va_Pc [.ref (ad 1), .int a1] (Jw D vwCl (tysT ca) (wlT ad ca) (NwT sz) σ)) (va_Qi K (Jq D vwCl (wlT ad ca)) (Aw sz)) 0 0 (Aw sz) := by
  refine j_met (cc := b_Uf_numberOf) (own := R_Uf) (by decide +kernel) rfl (Nat.le_of_ble_eq_true rfl) rfl hD (nwT_k sz) ?_
  intro p e s m args below meth c X hlk hr
  have hX : J p l e rm_Uf_numberOf s m args below meth c D vwCl (wlT ad ca) (Aw sz) 2 0 0 (MQ below (va_Qi K (Jq D vwCl (wlT ad ca)) (Aw sz)) args s 0 0 (Aw sz)) 0 [(0, .ref (ad 1)), (1, .int a1)] [] σ := by
    unfold w_Uf_numberOf at hw
    refine j_aload_n X d_Uf_numberOf_0 rfl 0 rfl ?_
    refine g_1_1 X f_Uf_15 d_Uf_numberOf_1 ?_
    refine j_iload_n X d_Uf_numberOf_4 rfl 1 rfl ?_
    refine ld_3 X hw.1 (v := (σ 3 (Int32.toNatClampNeg a1))) rfl d_Uf_numberOf_5 ?_
    have hw := hw.2
    exact j_iret X hlk hr d_Uf_numberOf_6 hw
  exact hX
def w_Uf_commandOf (a1 : Int32) (σ : Jst) (K : Int32 → Jst → Prop) : Prop := (vp_in a1 20 ∧ K (σ 4 (Int32.toNatClampNeg a1)) σ)
abbrev rm_Uf_commandOf : Room := { frames := 0, cells := 0, slots := 0, locals := 0 }
set_option maxRecDepth 100000 in
set_option maxHeartbeats 4000000 in
theorem c_Uf_commandOf (l : Launch) (D : va_G) (ca ad : Nat → Nat) (sz : Nat) (hD : Jd ca ad sz) {a1 : Int32} {σ : Jst} {K : Int32 → Jst → Prop} (hw : w_Uf_commandOf a1 σ K) : Met l y_Uf_commandOf (wG y_Uf_commandOf b_Uf_commandOf 2 (some .int)) rm_Uf_commandOf (va_Pc [.ref (ad 1), .int a1] (Jw D vwCl (tysT ca) (wlT ad ca) (NwT sz) σ)) (va_Qi K (Jq D vwCl (wlT ad ca)) (Aw sz)) 0 0 (Aw sz) := by
  refine j_met (cc := b_Uf_commandOf) (own := R_Uf) (by decide +kernel) rfl (Nat.le_of_ble_eq_true rfl) rfl hD (nwT_k sz) ?_
  intro p e s m args below meth c X hlk hr
  have hX : J p l e rm_Uf_commandOf s m args below meth c D vwCl (wlT ad ca) (Aw sz) 2 0 0 (MQ below (va_Qi K (Jq D vwCl (wlT ad ca)) (Aw sz)) args s 0 0 (Aw sz)) 0 [(0, .ref (ad 1)), (1, .int a1)] [] σ := by
    unfold w_Uf_commandOf at hw
    refine j_aload_n X d_Uf_commandOf_0 rfl 0 rfl ?_
    refine g_1_2 X f_Uf_18 d_Uf_commandOf_1 ?_
    refine j_iload_n X d_Uf_commandOf_4 rfl 1 rfl ?_
    refine ld_4 X hw.1 (v := (σ 4 (Int32.toNatClampNeg a1))) rfl d_Uf_commandOf_5 ?_
    have hw := hw.2
    exact j_iret X hlk hr d_Uf_commandOf_6 hw
  exact hX
def w_Uf_tell (a1 : Int32) (a2 : Int32) (σ : Jst) (K : Int32 → Jst → Prop) : Prop := ((a2 = (0 : Int32) → (vp_in a1 20 ∧ K (σ 2 (Int32.toNatClampNeg a1)) σ)) ∧ ((a2 = (1 : Int32) → (vp_in a1 20 ∧ K (σ 3 (Int32.toNatClampNeg a1)) σ)) ∧ ((a2 = (2 : Int32) → (vp_in a1 20 ∧ K (σ 4 (Int32.toNatClampNeg a1)) σ)) ∧ ((Int32.toInt a2 < 0 ∨ 2 < Int32.toInt a2) → K (0 : Int32) σ))))
abbrev rm_Uf_tell : Room := { frames := 0, cells := 0, slots := 0, locals := 0 }
set_option maxRecDepth 100000 in
set_option maxHeartbeats 4000000 in
theorem c_Uf_tell (l : Launch) (D : va_G) (ca ad : Nat → Nat) (sz : Nat) (hD : Jd ca ad sz) {a1 a2 : Int32} {σ : Jst} {K : Int32 → Jst → Prop} (hw : w_Uf_tell a1 a2 σ K) : Met l y_Uf_tell (wG y_Uf_tell b_Uf_tell 3 (some .int)) rm_Uf_tell (va_Pc [.ref (ad 1), .int a1, .int a2] (Jw D vwCl (tysT ca) (wlT ad ca) (NwT sz) σ)) (va_Qi K (Jq D vwCl (wlT ad ca)) (Aw sz)) 0 0 (Aw sz) := by
  refine j_met (cc := b_Uf_tell) (own := R_Uf) (by decide +kernel) rfl (Nat.le_of_ble_eq_true rfl) rfl hD (nwT_k sz) ?_
  intro p e s m args below meth c X hlk hr
  have hX : J p l e rm_Uf_tell s m args below meth c D vwCl (wlT ad ca) (Aw sz) 3 0 0 (MQ below (va_Qi K (Jq D vwCl (wlT ad ca)) (Aw sz)) args s 0 0 (Aw sz)) 0 [(0, .ref (ad 1)), (1, .int a1), (2, .int a2)] [] σ := by
    unfold w_Uf_tell at hw
    refine j_iload_n X d_Uf_tell_0 rfl 2 rfl ?_
    by_cases h0 : a2 = (0 : Int32)
    · refine j_tin X d_Uf_tell_1 (0 : Int32) h0 (by decide) (by decide) (off := 27) (by decide) (tgt := 28) (by decide) ?_
      have hw := hw.1 h0
      refine j_aload_n X d_Uf_tell_28 rfl 0 rfl ?_
      refine g_1_0 X f_Uf_9 d_Uf_tell_29 ?_
      refine j_iload_n X d_Uf_tell_32 rfl 1 rfl ?_
      refine ld_2 X hw.1 (v := (σ 2 (Int32.toNatClampNeg a1))) rfl d_Uf_tell_33 ?_
      have hw := hw.2
      exact j_iret X hlk hr d_Uf_tell_34 hw
    have hw := hw.2
    by_cases h1 : a2 = (1 : Int32)
    · refine j_tin X d_Uf_tell_1 (1 : Int32) h1 (by decide) (by decide) (off := 34) (by decide) (tgt := 35) (by decide) ?_
      have hw := hw.1 h1
      refine j_aload_n X d_Uf_tell_35 rfl 0 rfl ?_
      refine g_1_1 X f_Uf_15 d_Uf_tell_36 ?_
      refine j_iload_n X d_Uf_tell_39 rfl 1 rfl ?_
      refine ld_3 X hw.1 (v := (σ 3 (Int32.toNatClampNeg a1))) rfl d_Uf_tell_40 ?_
      have hw := hw.2
      exact j_iret X hlk hr d_Uf_tell_41 hw
    have hw := hw.2
    by_cases h2 : a2 = (2 : Int32)
    · refine j_tin X d_Uf_tell_1 (2 : Int32) h2 (by decide) (by decide) (off := 41) (by decide) (tgt := 42) (by decide) ?_
      have hw := hw.1 h2
      refine j_aload_n X d_Uf_tell_42 rfl 0 rfl ?_
      refine g_1_2 X f_Uf_18 d_Uf_tell_43 ?_
      refine j_iload_n X d_Uf_tell_46 rfl 1 rfl ?_
      refine ld_4 X hw.1 (v := (σ 4 (Int32.toNatClampNeg a1))) rfl d_Uf_tell_47 ?_
      have hw := hw.2
      exact j_iret X hlk hr d_Uf_tell_48 hw
    have hw := hw.2
    have ho : Int32.toInt a2 < 0 ∨ 2 < Int32.toInt a2 := by
      have eh0 := lv_neT h0 (a := 0) (by decide)
      have eh1 := lv_neT h1 (a := 1) (by decide)
      have eh2 := lv_neT h2 (a := 2) (by decide)
      omega
    refine j_tout X d_Uf_tell_1 ho (tgt := 49) (by decide) ?_
    have hw := hw ho
    refine j_iconst X (v := (0 : Int32)) d_Uf_tell_49 (by decide) ?_
    exact j_iret X hlk hr d_Uf_tell_50 hw
  exact hX
def w_Uf_add (a1 : Int32) (a2 : Int32) (a3 : Int32) (σ : Jst) (K : Jst → Prop) : Prop := (((20 : Int32) ≤ (σ 1 3) → K σ) ∧ (¬ (20 : Int32) ≤ (σ 1 3) → (vp_in (σ 1 3) 20 ∧ (vp_in (σ 1 3) 20 ∧ (vp_in (σ 1 3) 20 ∧ K (jup (jup (jup (jup σ 2 (Int32.toNatClampNeg (σ 1 3)) a1) 3 (Int32.toNatClampNeg (σ 1 3)) a2) 4 (Int32.toNatClampNeg (σ 1 3)) a3) 1 3 ((σ 1 3) + (1 : Int32))))))))
abbrev rm_Uf_add : Room := { frames := 0, cells := 0, slots := 0, locals := 0 }
set_option maxRecDepth 100000 in
set_option maxHeartbeats 4000000 in
theorem c_Uf_add (l : Launch) (D : va_G) (ca ad : Nat → Nat) (sz : Nat) (hD : Jd ca ad sz) {a1 a2 a3 : Int32} {σ : Jst} {K : Jst → Prop} (hw : w_Uf_add a1 a2 a3 σ K) : Met l y_Uf_add (wG y_Uf_add b_Uf_add 4 none) rm_Uf_add (va_Pc [.ref (ad 1), .int a1, .int a2, .int a3] (Jw D vwCl (tysT ca) (wlT ad ca) (NwT sz) σ)) (va_Qv K (Jq D vwCl (wlT ad ca)) (Aw sz)) 0 0 (Aw sz) := by
  refine j_met (cc := b_Uf_add) (own := R_Uf) (by decide +kernel) rfl (Nat.le_of_ble_eq_true rfl) rfl hD (nwT_k sz) ?_
  intro p e s m args below meth c X hlk hr
  have hX : J p l e rm_Uf_add s m args below meth c D vwCl (wlT ad ca) (Aw sz) 4 0 0 (MQ below (va_Qv K (Jq D vwCl (wlT ad ca)) (Aw sz)) args s 0 0 (Aw sz)) 0 [(0, .ref (ad 1)), (1, .int a1), (2, .int a2), (3, .int a3)] [] σ := by
    unfold w_Uf_add at hw
    refine j_aload_n X d_Uf_add_0 rfl 0 rfl ?_
    refine g_1_3 X f_Uf_21 (v := (σ 1 3)) rfl d_Uf_add_1 ?_
    refine j_bipush X (v := (20 : Int32)) d_Uf_add_4 (by decide) ?_
    refine j_icmp_ge X d_Uf_add_6 (tgt := 49) (by decide) (fun h => ?_) (fun h => ?_)
    · have hw := hw.1 h
      exact j_vret X hlk hr d_Uf_add_49 hw
    · have hw := hw.2 h
      refine j_aload_n X d_Uf_add_9 rfl 0 rfl ?_
      refine g_1_0 X f_Uf_9 d_Uf_add_10 ?_
      refine j_aload_n X d_Uf_add_13 rfl 0 rfl ?_
      refine g_1_3 X f_Uf_21 (v := (σ 1 3)) rfl d_Uf_add_14 ?_
      refine j_iload_n X d_Uf_add_17 rfl 1 rfl ?_
      refine sr_2 X hw.1 d_Uf_add_18 ?_
      have hw := hw.2
      refine j_aload_n X d_Uf_add_19 rfl 0 rfl ?_
      refine g_1_1 X f_Uf_15 d_Uf_add_20 ?_
      refine j_aload_n X d_Uf_add_23 rfl 0 rfl ?_
      refine g_1_3 X f_Uf_21 (v := (σ 1 3)) rfl d_Uf_add_24 ?_
      refine j_iload_n X d_Uf_add_27 rfl 2 rfl ?_
      refine sr_3 X hw.1 d_Uf_add_28 ?_
      have hw := hw.2
      refine j_aload_n X d_Uf_add_29 rfl 0 rfl ?_
      refine g_1_2 X f_Uf_18 d_Uf_add_30 ?_
      refine j_aload_n X d_Uf_add_33 rfl 0 rfl ?_
      refine g_1_3 X f_Uf_21 (v := (σ 1 3)) rfl d_Uf_add_34 ?_
      refine j_iload_n X d_Uf_add_37 rfl 3 rfl ?_
      refine sr_4 X hw.1 d_Uf_add_38 ?_
      have hw := hw.2
      refine j_aload_n X d_Uf_add_39 rfl 0 rfl ?_
      refine j_dup X d_Uf_add_40 rfl ?_
      refine g_1_3 X f_Uf_21 (v := (σ 1 3)) rfl d_Uf_add_41 ?_
      refine j_iconst X (v := (1 : Int32)) d_Uf_add_44 (by decide) ?_
      refine j_iadd X d_Uf_add_45 ?_
      refine p_1_3 X f_Uf_21 d_Uf_add_46 ?_
      exact j_vret X hlk hr d_Uf_add_49 hw
  exact hX
def w_Uf_remove_L4 (K : Jst → Prop) : Nat → Int32 → Int32 → Jst → Prop
  | 0, _, _, _ => False
  | n + 1, v1, v2, s4 => (((s4 1 3) ≤ v2 → K (jup s4 1 3 ((s4 1 3) - (1 : Int32)))) ∧ (¬ (s4 1 3) ≤ v2 → (vp_in v2 20 ∧ (vp_in (v2 - (1 : Int32)) 20 ∧ (vp_in v2 20 ∧ (vp_in (v2 - (1 : Int32)) 20 ∧ (vp_in v2 20 ∧ (vp_in (v2 - (1 : Int32)) 20 ∧ w_Uf_remove_L4 K n v1 (v2 + (1 : Int32)) (jup (jup (jup s4 2 (Int32.toNatClampNeg (v2 - (1 : Int32))) (s4 2 (Int32.toNatClampNeg v2))) 3 (Int32.toNatClampNeg (v2 - (1 : Int32))) (s4 3 (Int32.toNatClampNeg v2))) 4 (Int32.toNatClampNeg (v2 - (1 : Int32))) (s4 4 (Int32.toNatClampNeg v2)))))))))))
def w_Uf_remove (a1 : Int32) (σ : Jst) (K : Jst → Prop) : Prop := (∃ n, w_Uf_remove_L4 K n a1 (a1 + (1 : Int32)) σ)
abbrev rm_Uf_remove : Room := { frames := 0, cells := 0, slots := 0, locals := 0 }
set_option maxRecDepth 100000 in
set_option maxHeartbeats 4000000 in
theorem c_Uf_remove (l : Launch) (D : va_G) (ca ad : Nat → Nat) (sz : Nat) (hD : Jd ca ad sz) {a1 : Int32} {σ : Jst} {K : Jst → Prop} (hw : w_Uf_remove a1 σ K) : Met l y_Uf_remove (wG y_Uf_remove b_Uf_remove 3 none) rm_Uf_remove (va_Pc [.ref (ad 1), .int a1] (Jw D vwCl (tysT ca) (wlT ad ca) (NwT sz) σ)) (va_Qv K (Jq D vwCl (wlT ad ca)) (Aw sz)) 0 0 (Aw sz) := by
  refine j_met (cc := b_Uf_remove) (own := R_Uf) (by decide +kernel) rfl (Nat.le_of_ble_eq_true rfl) rfl hD (nwT_k sz) ?_
  intro p e s m args below meth c X hlk hr
  have hX : J p l e rm_Uf_remove s m args below meth c D vwCl (wlT ad ca) (Aw sz) 3 0 0 (MQ below (va_Qv K (Jq D vwCl (wlT ad ca)) (Aw sz)) args s 0 0 (Aw sz)) 0 [(0, .ref (ad 1)), (1, .int a1)] [] σ := by
    unfold w_Uf_remove at hw
    refine j_iload_n X d_Uf_remove_0 rfl 1 rfl ?_
    refine j_iconst X (v := (1 : Int32)) d_Uf_remove_1 (by decide) ?_
    refine j_iadd X d_Uf_remove_2 ?_
    refine j_istore_n X d_Uf_remove_3 rfl (by decide) rfl ?_
    have lp4 : ∀ (n : Nat) (v1 v2 : Int32) (s4 : Jst), w_Uf_remove_L4 K n v1 v2 s4 → J p l e rm_Uf_remove s m args below meth c D vwCl (wlT ad ca) (Aw sz) 3 0 0 (MQ below (va_Qv K (Jq D vwCl (wlT ad ca)) (Aw sz)) args s 0 0 (Aw sz)) 4 [(0, .ref (ad 1)), (1, .int v1), (2, .int v2)] [] s4 := by
      intro n
      induction n with
      | zero => intro v1 v2 s4 hw; exact (show False from hw).elim
      | succ n ih4 =>
        intro v1 v2 s4 hw
        rw [w_Uf_remove_L4] at hw
        refine j_iload_n X d_Uf_remove_4 rfl 2 rfl ?_
        refine j_aload_n X d_Uf_remove_5 rfl 0 rfl ?_
        refine g_1_3 X f_Uf_21 (v := (s4 1 3)) rfl d_Uf_remove_6 ?_
        refine j_icmp_ge X d_Uf_remove_9 (tgt := 60) (by decide) (fun h => ?_) (fun h => ?_)
        · have hw := hw.1 h
          refine j_aload_n X d_Uf_remove_60 rfl 0 rfl ?_
          refine j_dup X d_Uf_remove_61 rfl ?_
          refine g_1_3 X f_Uf_21 (v := (s4 1 3)) rfl d_Uf_remove_62 ?_
          refine j_iconst X (v := (1 : Int32)) d_Uf_remove_65 (by decide) ?_
          refine j_isub X d_Uf_remove_66 ?_
          refine p_1_3 X f_Uf_21 d_Uf_remove_67 ?_
          exact j_vret X hlk hr d_Uf_remove_70 hw
        · have hw := hw.2 h
          refine j_aload_n X d_Uf_remove_12 rfl 0 rfl ?_
          refine g_1_0 X f_Uf_9 d_Uf_remove_13 ?_
          refine j_iload_n X d_Uf_remove_16 rfl 2 rfl ?_
          refine j_iconst X (v := (1 : Int32)) d_Uf_remove_17 (by decide) ?_
          refine j_isub X d_Uf_remove_18 ?_
          refine j_aload_n X d_Uf_remove_19 rfl 0 rfl ?_
          refine g_1_0 X f_Uf_9 d_Uf_remove_20 ?_
          refine j_iload_n X d_Uf_remove_23 rfl 2 rfl ?_
          refine ld_2 X hw.1 (v := (s4 2 (Int32.toNatClampNeg v2))) rfl d_Uf_remove_24 ?_
          have hw := hw.2
          refine sr_2 X hw.1 d_Uf_remove_25 ?_
          have hw := hw.2
          refine j_aload_n X d_Uf_remove_26 rfl 0 rfl ?_
          refine g_1_1 X f_Uf_15 d_Uf_remove_27 ?_
          refine j_iload_n X d_Uf_remove_30 rfl 2 rfl ?_
          refine j_iconst X (v := (1 : Int32)) d_Uf_remove_31 (by decide) ?_
          refine j_isub X d_Uf_remove_32 ?_
          refine j_aload_n X d_Uf_remove_33 rfl 0 rfl ?_
          refine g_1_1 X f_Uf_15 d_Uf_remove_34 ?_
          refine j_iload_n X d_Uf_remove_37 rfl 2 rfl ?_
          refine ld_3 X hw.1 (v := (s4 3 (Int32.toNatClampNeg v2))) rfl d_Uf_remove_38 ?_
          have hw := hw.2
          refine sr_3 X hw.1 d_Uf_remove_39 ?_
          have hw := hw.2
          refine j_aload_n X d_Uf_remove_40 rfl 0 rfl ?_
          refine g_1_2 X f_Uf_18 d_Uf_remove_41 ?_
          refine j_iload_n X d_Uf_remove_44 rfl 2 rfl ?_
          refine j_iconst X (v := (1 : Int32)) d_Uf_remove_45 (by decide) ?_
          refine j_isub X d_Uf_remove_46 ?_
          refine j_aload_n X d_Uf_remove_47 rfl 0 rfl ?_
          refine g_1_2 X f_Uf_18 d_Uf_remove_48 ?_
          refine j_iload_n X d_Uf_remove_51 rfl 2 rfl ?_
          refine ld_4 X hw.1 (v := (s4 4 (Int32.toNatClampNeg v2))) rfl d_Uf_remove_52 ?_
          have hw := hw.2
          refine sr_4 X hw.1 d_Uf_remove_53 ?_
          have hw := hw.2
          refine j_iinc X (v := (1 : Int32)) d_Uf_remove_54 2 rfl (by decide) (by decide) rfl ?_
          refine j_goto X d_Uf_remove_57 (tgt := 4) (by decide) ?_
          refine j_locs [1, 2, 0] rfl ?_
          exact ih4 _ _ _ hw
    obtain ⟨n, hw⟩ := hw
    refine j_locs [1, 2, 0] rfl ?_
    exact lp4 n _ _ _ hw
  exact hX
