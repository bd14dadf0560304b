def w_Rc_size (σ : Jst) (K : Int32 → Jst → Prop) : Prop := K (σ 28 4) σ
abbrev rm_Rc_size : Room := { frames := 0, cells := 0, slots := 0, locals := 0 }
set_option maxRecDepth 100000 in
set_option maxHeartbeats 4000000 in
theorem c_Rc_size (l : Launch) (D : va_G) (ca ad : Nat → Nat) (sz : Nat) (hD : Jd ca ad sz) {σ : Jst} {K : Int32 → Jst → Prop} (hw : w_Rc_size σ K) : Met l y_Rc_size (wG y_Rc_size b_Rc_size 1 (some .int)) rm_Rc_size (va_Pc [.ref (ad 28)] (Jw D vwCl (tysT ca) (wlT ad ca) (NwT sz) σ)) (va_Qi K (Jq D vwCl (wlT ad ca)) (Aw sz)) 0 0 (Aw sz) := by
  refine j_met (cc := b_Rc_size) (own := R_Rc) (by decide +kernel) rfl (Nat.le_of_ble_eq_true rfl) rfl hD (nwT_k sz) ?_
  intro p e s m args below meth c X hlk hr
  have hX : J p l e rm_Rc_size s m args below meth c D vwCl (wlT ad ca) (Aw sz) 1 0 0 (MQ below (va_Qi K (Jq D vwCl (wlT ad ca)) (Aw sz)) args s 0 0 (Aw sz)) 0 [(0, .ref (ad 28))] [] σ := by
    unfold w_Rc_size at hw
    refine j_aload_n X d_Rc_size_0 rfl 0 rfl ?_
    refine g_28_4 X f_Rc_22 (v := (σ 28 4)) rfl d_Rc_size_1 ?_
    exact j_iret X hlk hr d_Rc_size_4 hw
  exact hX
def w_Rc_has (a1 : Int32) (σ : Jst) (K : Int32 → Jst → Prop) : Prop := ((a1 < (0 : Int32) → K (0 : Int32) σ) ∧ (¬ a1 < (0 : Int32) → (((σ 28 4) ≤ a1 → K (0 : Int32) σ) ∧ (¬ (σ 28 4) ≤ a1 → K (1 : Int32) σ))))
abbrev rm_Rc_has : Room := { frames := 0, cells := 0, slots := 0, locals := 0 }
set_option maxRecDepth 100000 in
set_option maxHeartbeats 4000000 in
theorem c_Rc_has (l : Launch) (D : va_G) (ca ad : Nat → Nat) (sz : Nat) (hD : Jd ca ad sz) {a1 : Int32} {σ : Jst} {K : Int32 → Jst → Prop} (hw : w_Rc_has a1 σ K) : Met l y_Rc_has (wG y_Rc_has b_Rc_has 2 (some .boolean)) rm_Rc_has (va_Pc [.ref (ad 28), .int a1] (Jw D vwCl (tysT ca) (wlT ad ca) (NwT sz) σ)) (va_Qi K (Jq D vwCl (wlT ad ca)) (Aw sz)) 0 0 (Aw sz) := by
  refine j_met (cc := b_Rc_has) (own := R_Rc) (by decide +kernel) rfl (Nat.le_of_ble_eq_true rfl) rfl hD (nwT_k sz) ?_
  intro p e s m args below meth c X hlk hr
  have hX : J p l e rm_Rc_has s m args below meth c D vwCl (wlT ad ca) (Aw sz) 2 0 0 (MQ below (va_Qi K (Jq D vwCl (wlT ad ca)) (Aw sz)) args s 0 0 (Aw sz)) 0 [(0, .ref (ad 28)), (1, .int a1)] [] σ := by
    unfold w_Rc_has at hw
    refine j_iload_n X d_Rc_has_0 rfl 1 rfl ?_
    refine j_if_lt X d_Rc_has_1 (tgt := 16) (by decide) (fun h => ?_) (fun h => ?_)
    · have hw := hw.1 h
      refine j_iconst X (v := (0 : Int32)) d_Rc_has_16 (by decide) ?_
      exact j_zret X hlk hr rfl d_Rc_has_17 hw
    · have hw := hw.2 h
      refine j_iload_n X d_Rc_has_4 rfl 1 rfl ?_
      refine j_aload_n X d_Rc_has_5 rfl 0 rfl ?_
      refine g_28_4 X f_Rc_22 (v := (σ 28 4)) rfl d_Rc_has_6 ?_
      refine j_icmp_ge X d_Rc_has_9 (tgt := 16) (by decide) (fun h => ?_) (fun h => ?_)
      · have hw := hw.1 h
        refine j_iconst X (v := (0 : Int32)) d_Rc_has_16 (by decide) ?_
        exact j_zret X hlk hr rfl d_Rc_has_17 hw
      · have hw := hw.2 h
        refine j_iconst X (v := (1 : Int32)) d_Rc_has_12 (by decide) ?_
        refine j_goto X d_Rc_has_13 (tgt := 17) (by decide) ?_
        exact j_zret X hlk hr rfl d_Rc_has_17 hw
  exact hX
def w_Rc_tell (a1 : Int32) (a2 : Int32) (σ : Jst) (K : Int32 → Jst → Prop) : Prop := ((a2 = (0 : Int32) → (vp_in a1 40 ∧ K (σ 29 (Int32.toNatClampNeg a1)) σ)) ∧ ((a2 = (1 : Int32) → (vp_in a1 40 ∧ K (σ 30 (Int32.toNatClampNeg a1)) σ)) ∧ ((a2 = (2 : Int32) → (vp_in a1 40 ∧ K (σ 31 (Int32.toNatClampNeg a1)) σ)) ∧ ((a2 = (3 : Int32) → (vp_in a1 40 ∧ K (σ 32 (Int32.toNatClampNeg a1)) σ)) ∧ ((Int32.toInt a2 < 0 ∨ 3 < Int32.toInt a2) → K (0 : Int32) σ)))))
abbrev rm_Rc_tell : Room := { frames := 0, cells := 0, slots := 0, locals := 0 }
set_option maxRecDepth 100000 in
set_option maxHeartbeats 4000000 in
theorem c_Rc_tell (l : Launch) (D : va_G) (ca ad : Nat → Nat) (sz : Nat) (hD : Jd ca ad sz) {a1 a2 : Int32} {σ : Jst} {K : Int32 → Jst → Prop} (hw : w_Rc_tell a1 a2 σ K) : Met l y_Rc_tell (wG y_Rc_tell b_Rc_tell 3 (some .int)) rm_Rc_tell (va_Pc [.ref (ad 28), .int a1, .int a2] (Jw D vwCl (tysT ca) (wlT ad ca) (NwT sz) σ)) (va_Qi K (Jq D vwCl (wlT ad ca)) (Aw sz)) 0 0 (Aw sz) := by
  refine j_met (cc := b_Rc_tell) (own := R_Rc) (by decide +kernel) rfl (Nat.le_of_ble_eq_true rfl) rfl hD (nwT_k sz) ?_
  intro p e s m args below meth c X hlk hr
  have hX : J p l e rm_Rc_tell s m args below meth c D vwCl (wlT ad ca) (Aw sz) 3 0 0 (MQ below (va_Qi K (Jq D vwCl (wlT ad ca)) (Aw sz)) args s 0 0 (Aw sz)) 0 [(0, .ref (ad 28)), (1, .int a1), (2, .int a2)] [] σ := by
    unfold w_Rc_tell at hw
    refine j_iload_n X d_Rc_tell_0 rfl 2 rfl ?_
    by_cases h0 : a2 = (0 : Int32)
    · refine j_tin X d_Rc_tell_1 (0 : Int32) h0 (by decide) (by decide) (off := 31) (by decide) (tgt := 32) (by decide) ?_
      have hw := hw.1 h0
      refine j_aload_n X d_Rc_tell_32 rfl 0 rfl ?_
      refine g_28_0 X f_Rc_9 d_Rc_tell_33 ?_
      refine j_iload_n X d_Rc_tell_36 rfl 1 rfl ?_
      refine ld_29 X hw.1 (v := (σ 29 (Int32.toNatClampNeg a1))) rfl d_Rc_tell_37 ?_
      have hw := hw.2
      exact j_iret X hlk hr d_Rc_tell_38 hw
    have hw := hw.2
    by_cases h1 : a2 = (1 : Int32)
    · refine j_tin X d_Rc_tell_1 (1 : Int32) h1 (by decide) (by decide) (off := 38) (by decide) (tgt := 39) (by decide) ?_
      have hw := hw.1 h1
      refine j_aload_n X d_Rc_tell_39 rfl 0 rfl ?_
      refine g_28_1 X f_Rc_13 d_Rc_tell_40 ?_
      refine j_iload_n X d_Rc_tell_43 rfl 1 rfl ?_
      refine ld_30 X hw.1 (v := (σ 30 (Int32.toNatClampNeg a1))) rfl d_Rc_tell_44 ?_
      have hw := hw.2
      exact j_iret X hlk hr d_Rc_tell_45 hw
    have hw := hw.2
    by_cases h2 : a2 = (2 : Int32)
    · refine j_tin X d_Rc_tell_1 (2 : Int32) h2 (by decide) (by decide) (off := 45) (by decide) (tgt := 46) (by decide) ?_
      have hw := hw.1 h2
      refine j_aload_n X d_Rc_tell_46 rfl 0 rfl ?_
      refine g_28_2 X f_Rc_16 d_Rc_tell_47 ?_
      refine j_iload_n X d_Rc_tell_50 rfl 1 rfl ?_
      refine ld_31 X hw.1 (v := (σ 31 (Int32.toNatClampNeg a1))) rfl d_Rc_tell_51 ?_
      have hw := hw.2
      exact j_iret X hlk hr d_Rc_tell_52 hw
    have hw := hw.2
    by_cases h3 : a2 = (3 : Int32)
    · refine j_tin X d_Rc_tell_1 (3 : Int32) h3 (by decide) (by decide) (off := 52) (by decide) (tgt := 53) (by decide) ?_
      have hw := hw.1 h3
      refine j_aload_n X d_Rc_tell_53 rfl 0 rfl ?_
      refine g_28_3 X f_Rc_19 d_Rc_tell_54 ?_
      refine j_iload_n X d_Rc_tell_57 rfl 1 rfl ?_
      refine ld_32 X hw.1 (v := (σ 32 (Int32.toNatClampNeg a1))) rfl d_Rc_tell_58 ?_
      have hw := hw.2
      exact j_iret X hlk hr d_Rc_tell_59 hw
    have hw := hw.2
    have ho : Int32.toInt a2 < 0 ∨ 3 < Int32.toInt a2 := by
      have eh0 := lv_neT h0 (a := 0) (by decide)
      have eh1 := lv_neT h1 (a := 1) (by decide)
      have eh2 := lv_neT h2 (a := 2) (by decide)
      have eh3 := lv_neT h3 (a := 3) (by decide)
      omega
    refine j_tout X d_Rc_tell_1 ho (tgt := 60) (by decide) ?_
    have hw := hw ho
    refine j_iconst X (v := (0 : Int32)) d_Rc_tell_60 (by decide) ?_
    exact j_iret X hlk hr d_Rc_tell_61 hw
  exact hX
def w_Rc_add (a1 : Int32) (a2 : Int32) (a3 : Int32) (a4 : Int32) (σ : Jst) (K : Jst → Prop) : Prop := (((40 : Int32) ≤ (σ 28 4) → K σ) ∧ (¬ (40 : Int32) ≤ (σ 28 4) → (vp_in (σ 28 4) 40 ∧ (vp_in (σ 28 4) 40 ∧ (vp_in (σ 28 4) 40 ∧ (vp_in (σ 28 4) 40 ∧ K (jup (jup (jup (jup (jup σ 29 (Int32.toNatClampNeg (σ 28 4)) a1) 30 (Int32.toNatClampNeg (σ 28 4)) a2) 31 (Int32.toNatClampNeg (σ 28 4)) a3) 32 (Int32.toNatClampNeg (σ 28 4)) a4) 28 4 ((σ 28 4) + (1 : Int32)))))))))
abbrev rm_Rc_add : Room := { frames := 0, cells := 0, slots := 0, locals := 0 }
set_option maxRecDepth 100000 in
set_option maxHeartbeats 4000000 in
theorem c_Rc_add (l : Launch) (D : va_G) (ca ad : Nat → Nat) (sz : Nat) (hD : Jd ca ad sz) {a1 a2 a3 a4 : Int32} {σ : Jst} {K : Jst → Prop} (hw : w_Rc_add a1 a2 a3 a4 σ K) : Met l y_Rc_add (wG y_Rc_add b_Rc_add 5 none) rm_Rc_add (va_Pc [.ref (ad 28), .int a1, .int a2, .int a3, .int a4] (Jw D vwCl (tysT ca) (wlT ad ca) (NwT sz) σ)) (va_Qv K (Jq D vwCl (wlT ad ca)) (Aw sz)) 0 0 (Aw sz) := by
  refine j_met (cc := b_Rc_add) (own := R_Rc) (by decide +kernel) rfl (Nat.le_of_ble_eq_true rfl) rfl hD (nwT_k sz) ?_
  intro p e s m args below meth c X hlk hr
  have hX : J p l e rm_Rc_add s m args below meth c D vwCl (wlT ad ca) (Aw sz) 5 0 0 (MQ below (va_Qv K (Jq D vwCl (wlT ad ca)) (Aw sz)) args s 0 0 (Aw sz)) 0 [(0, .ref (ad 28)), (1, .int a1), (2, .int a2), (3, .int a3), (4, .int a4)] [] σ := by
    unfold w_Rc_add at hw
    refine j_aload_n X d_Rc_add_0 rfl 0 rfl ?_
    refine g_28_4 X f_Rc_22 (v := (σ 28 4)) rfl d_Rc_add_1 ?_
    refine j_bipush X (v := (40 : Int32)) d_Rc_add_4 (by decide) ?_
    refine j_icmp_ge X d_Rc_add_6 (tgt := 60) (by decide) (fun h => ?_) (fun h => ?_)
    · have hw := hw.1 h
      exact j_vret X hlk hr d_Rc_add_60 hw
    · have hw := hw.2 h
      refine j_aload_n X d_Rc_add_9 rfl 0 rfl ?_
      refine g_28_0 X f_Rc_9 d_Rc_add_10 ?_
      refine j_aload_n X d_Rc_add_13 rfl 0 rfl ?_
      refine g_28_4 X f_Rc_22 (v := (σ 28 4)) rfl d_Rc_add_14 ?_
      refine j_iload_n X d_Rc_add_17 rfl 1 rfl ?_
      refine sr_29 X hw.1 d_Rc_add_18 ?_
      have hw := hw.2
      refine j_aload_n X d_Rc_add_19 rfl 0 rfl ?_
      refine g_28_1 X f_Rc_13 d_Rc_add_20 ?_
      refine j_aload_n X d_Rc_add_23 rfl 0 rfl ?_
      refine g_28_4 X f_Rc_22 (v := (σ 28 4)) rfl d_Rc_add_24 ?_
      refine j_iload_n X d_Rc_add_27 rfl 2 rfl ?_
      refine sr_30 X hw.1 d_Rc_add_28 ?_
      have hw := hw.2
      refine j_aload_n X d_Rc_add_29 rfl 0 rfl ?_
      refine g_28_2 X f_Rc_16 d_Rc_add_30 ?_
      refine j_aload_n X d_Rc_add_33 rfl 0 rfl ?_
      refine g_28_4 X f_Rc_22 (v := (σ 28 4)) rfl d_Rc_add_34 ?_
      refine j_iload_n X d_Rc_add_37 rfl 3 rfl ?_
      refine sr_31 X hw.1 d_Rc_add_38 ?_
      have hw := hw.2
      refine j_aload_n X d_Rc_add_39 rfl 0 rfl ?_
      refine g_28_3 X f_Rc_19 d_Rc_add_40 ?_
      refine j_aload_n X d_Rc_add_43 rfl 0 rfl ?_
      refine g_28_4 X f_Rc_22 (v := (σ 28 4)) rfl d_Rc_add_44 ?_
      refine j_iload X d_Rc_add_47 4 rfl ?_
      refine sr_32 X hw.1 d_Rc_add_49 ?_
      have hw := hw.2
      refine j_aload_n X d_Rc_add_50 rfl 0 rfl ?_
      refine j_dup X d_Rc_add_51 rfl ?_
      refine g_28_4 X f_Rc_22 (v := (σ 28 4)) rfl d_Rc_add_52 ?_
      refine j_iconst X (v := (1 : Int32)) d_Rc_add_55 (by decide) ?_
      refine j_iadd X d_Rc_add_56 ?_
      refine p_28_4 X f_Rc_22 d_Rc_add_57 ?_
      exact j_vret X hlk hr d_Rc_add_60 hw
  exact hX
