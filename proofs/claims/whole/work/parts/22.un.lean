def w_Un_size (σ : Jst) (K : Int32 → Jst → Prop) : Prop := K (σ 10 3) σ
abbrev rm_Un_size : Room := { frames := 0, cells := 0, slots := 0, locals := 0 }
set_option maxRecDepth 100000 in
set_option maxHeartbeats 4000000 in
theorem c_Un_size (l : Launch) (D : va_G) (ca ad : Nat → Nat) (sz : Nat) (hD : Jd ca ad sz) {σ : Jst} {K : Int32 → Jst → Prop} (hw : w_Un_size σ K) : Met l y_Un_size (wG y_Un_size b_Un_size 1 (some .int)) rm_Un_size (va_Pc [.ref (ad 10)] (Jw D vwCl (tysT ca) (wlT ad ca) (NwT sz) σ)) (va_Qi K (Jq D vwCl (wlT ad ca)) (Aw sz)) 0 0 (Aw sz) := by
  refine j_met (cc := b_Un_size) (own := R_Un) (by decide +kernel) rfl (Nat.le_of_ble_eq_true rfl) rfl hD (nwT_k sz) ?_
  intro p e s m args below meth c X hlk hr
  have hX : J p l e rm_Un_size s m args below meth c D vwCl (wlT ad ca) (Aw sz) 1 0 0 (MQ below (va_Qi K (Jq D vwCl (wlT ad ca)) (Aw sz)) args s 0 0 (Aw sz)) 0 [(0, .ref (ad 10))] [] σ := by
    unfold w_Un_size at hw
    refine j_aload_n X d_Un_size_0 rfl 0 rfl ?_
    refine g_10_3 X f_Un_22 (v := (σ 10 3)) rfl d_Un_size_1 ?_
    exact j_iret X hlk hr d_Un_size_4 hw
  exact hX
def w_Un_numberOf (a1 : Int32) (σ : Jst) (K : Int32 → Jst → Prop) : Prop := (vp_in a1 4 ∧ K (σ 11 (Int32.toNatClampNeg a1)) σ)
abbrev rm_Un_numberOf : Room := { frames := 0, cells := 0, slots := 0, locals := 0 }
set_option maxRecDepth 100000 in
set_option maxHeartbeats 4000000 in
theorem c_Un_numberOf (l : Launch) (D : va_G) (ca ad : Nat → Nat) (sz : Nat) (hD : Jd ca ad sz) {a1 : Int32} {σ : Jst} {K : Int32 → Jst → Prop} (hw : w_Un_numberOf a1 σ K) : Met l y_Un_numberOf (wG y_Un_numberOf b_Un_numberOf 2 (some .int)) rm_Un_numberOf (va_Pc [.ref (ad 10), .int a1] (Jw D vwCl (tysT ca) (wlT ad ca) (NwT sz) σ)) (va_Qi K (Jq D vwCl (wlT ad ca)) (Aw sz)) 0 0 (Aw sz) := by
  refine j_met (cc := b_Un_numberOf) (own := R_Un) (by decide +kernel) rfl (Nat.le_of_ble_eq_true rfl) rfl hD (nwT_k sz) ?_
  intro p e s m args below meth c X hlk hr
  have hX : J p l e rm_Un_numberOf s m args below meth c D vwCl (wlT ad ca) (Aw sz) 2 0 0 (MQ below (va_Qi K (Jq D vwCl (wlT ad ca)) (Aw sz)) args s 0 0 (Aw sz)) 0 [(0, .ref (ad 10)), (1, .int a1)] [] σ := by
    unfold w_Un_numberOf at hw
    refine j_aload_n X d_Un_numberOf_0 rfl 0 rfl ?_
    refine g_10_0 X f_Un_9 d_Un_numberOf_1 ?_
    refine j_iload_n X d_Un_numberOf_4 rfl 1 rfl ?_
    refine ld_11 X hw.1 (v := (σ 11 (Int32.toNatClampNeg a1))) rfl d_Un_numberOf_5 ?_
    have hw := hw.2
    exact j_iret X hlk hr d_Un_numberOf_6 hw
  exact hX
def w_Un_commandOf (a1 : Int32) (σ : Jst) (K : Int32 → Jst → Prop) : Prop := (vp_in a1 4 ∧ K (σ 12 (Int32.toNatClampNeg a1)) σ)
abbrev rm_Un_commandOf : Room := { frames := 0, cells := 0, slots := 0, locals := 0 }
set_option maxRecDepth 100000 in
set_option maxHeartbeats 4000000 in
theorem c_Un_commandOf (l : Launch) (D : va_G) (ca ad : Nat → Nat) (sz : Nat) (hD : Jd ca ad sz) {a1 : Int32} {σ : Jst} {K : Int32 → Jst → Prop} (hw : w_Un_commandOf a1 σ K) : Met l y_Un_commandOf (wG y_Un_commandOf b_Un_commandOf 2 (some .int)) rm_Un_commandOf (va_Pc [.ref (ad 10), .int a1] (Jw D vwCl (tysT ca) (wlT ad ca) (NwT sz) σ)) (va_Qi K (Jq D vwCl (wlT ad ca)) (Aw sz)) 0 0 (Aw sz) := by
  refine j_met (cc := b_Un_commandOf) (own := R_Un) (by decide +kernel) rfl (Nat.le_of_ble_eq_true rfl) rfl hD (nwT_k sz) ?_
  intro p e s m args below meth c X hlk hr
  have hX : J p l e rm_Un_commandOf s m args below meth c D vwCl (wlT ad ca) (Aw sz) 2 0 0 (MQ below (va_Qi K (Jq D vwCl (wlT ad ca)) (Aw sz)) args s 0 0 (Aw sz)) 0 [(0, .ref (ad 10)), (1, .int a1)] [] σ := by
    unfold w_Un_commandOf at hw
    refine j_aload_n X d_Un_commandOf_0 rfl 0 rfl ?_
    refine g_10_1 X f_Un_15 d_Un_commandOf_1 ?_
    refine j_iload_n X d_Un_commandOf_4 rfl 1 rfl ?_
    refine ld_12 X hw.1 (v := (σ 12 (Int32.toNatClampNeg a1))) rfl d_Un_commandOf_5 ?_
    have hw := hw.2
    exact j_iret X hlk hr d_Un_commandOf_6 hw
  exact hX
def w_Un_add (a1 : Int32) (a2 : Int32) (σ : Jst) (K : Jst → Prop) : Prop := (((4 : Int32) ≤ (σ 10 3) → K σ) ∧ (¬ (4 : Int32) ≤ (σ 10 3) → (vp_in (σ 10 3) 4 ∧ (vp_in (σ 10 3) 4 ∧ (vp_in (σ 10 3) 4 ∧ K (jup (jup (jup (jup σ 11 (Int32.toNatClampNeg (σ 10 3)) a1) 12 (Int32.toNatClampNeg (σ 10 3)) a2) 13 (Int32.toNatClampNeg (σ 10 3)) (vp_nar .boolean (0 : Int32))) 10 3 ((σ 10 3) + (1 : Int32))))))))
abbrev rm_Un_add : Room := { frames := 0, cells := 0, slots := 0, locals := 0 }
set_option maxRecDepth 100000 in
set_option maxHeartbeats 4000000 in
theorem c_Un_add (l : Launch) (D : va_G) (ca ad : Nat → Nat) (sz : Nat) (hD : Jd ca ad sz) {a1 a2 : Int32} {σ : Jst} {K : Jst → Prop} (hw : w_Un_add a1 a2 σ K) : Met l y_Un_add (wG y_Un_add b_Un_add 3 none) rm_Un_add (va_Pc [.ref (ad 10), .int a1, .int a2] (Jw D vwCl (tysT ca) (wlT ad ca) (NwT sz) σ)) (va_Qv K (Jq D vwCl (wlT ad ca)) (Aw sz)) 0 0 (Aw sz) := by
  refine j_met (cc := b_Un_add) (own := R_Un) (by decide +kernel) rfl (Nat.le_of_ble_eq_true rfl) rfl hD (nwT_k sz) ?_
  intro p e s m args below meth c X hlk hr
  have hX : J p l e rm_Un_add s m args below meth c D vwCl (wlT ad ca) (Aw sz) 3 0 0 (MQ below (va_Qv K (Jq D vwCl (wlT ad ca)) (Aw sz)) args s 0 0 (Aw sz)) 0 [(0, .ref (ad 10)), (1, .int a1), (2, .int a2)] [] σ := by
    unfold w_Un_add at hw
    refine j_aload_n X d_Un_add_0 rfl 0 rfl ?_
    refine g_10_3 X f_Un_22 (v := (σ 10 3)) rfl d_Un_add_1 ?_
    refine j_iconst X (v := (4 : Int32)) d_Un_add_4 (by decide) ?_
    refine j_icmp_ge X d_Un_add_5 (tgt := 48) (by decide) (fun h => ?_) (fun h => ?_)
    · have hw := hw.1 h
      exact j_vret X hlk hr d_Un_add_48 hw
    · have hw := hw.2 h
      refine j_aload_n X d_Un_add_8 rfl 0 rfl ?_
      refine g_10_0 X f_Un_9 d_Un_add_9 ?_
      refine j_aload_n X d_Un_add_12 rfl 0 rfl ?_
      refine g_10_3 X f_Un_22 (v := (σ 10 3)) rfl d_Un_add_13 ?_
      refine j_iload_n X d_Un_add_16 rfl 1 rfl ?_
      refine sr_11 X hw.1 d_Un_add_17 ?_
      have hw := hw.2
      refine j_aload_n X d_Un_add_18 rfl 0 rfl ?_
      refine g_10_1 X f_Un_15 d_Un_add_19 ?_
      refine j_aload_n X d_Un_add_22 rfl 0 rfl ?_
      refine g_10_3 X f_Un_22 (v := (σ 10 3)) rfl d_Un_add_23 ?_
      refine j_iload_n X d_Un_add_26 rfl 2 rfl ?_
      refine sr_12 X hw.1 d_Un_add_27 ?_
      have hw := hw.2
      refine j_aload_n X d_Un_add_28 rfl 0 rfl ?_
      refine g_10_2 X f_Un_18 d_Un_add_29 ?_
      refine j_aload_n X d_Un_add_32 rfl 0 rfl ?_
      refine g_10_3 X f_Un_22 (v := (σ 10 3)) rfl d_Un_add_33 ?_
      refine j_iconst X (v := (0 : Int32)) d_Un_add_36 (by decide) ?_
      refine sr_13 X hw.1 d_Un_add_37 ?_
      have hw := hw.2
      refine j_aload_n X d_Un_add_38 rfl 0 rfl ?_
      refine j_dup X d_Un_add_39 rfl ?_
      refine g_10_3 X f_Un_22 (v := (σ 10 3)) rfl d_Un_add_40 ?_
      refine j_iconst X (v := (1 : Int32)) d_Un_add_43 (by decide) ?_
      refine j_iadd X d_Un_add_44 ?_
      refine p_10_3 X f_Un_22 d_Un_add_45 ?_
      exact j_vret X hlk hr d_Un_add_48 hw
  exact hX
def w_Un_removeFirst_L2 (K : Jst → Prop) : Nat → Int32 → Int32 → Jst → Prop
  | 0, _, _, _ => False
  | n + 1, v1, v2, s2 => (((s2 10 3) ≤ v2 → K (jup s2 10 3 ((s2 10 3) - v1))) ∧ (¬ (s2 10 3) ≤ v2 → (vp_in v2 4 ∧ (vp_in (v2 - v1) 4 ∧ (vp_in v2 4 ∧ (vp_in (v2 - v1) 4 ∧ (vp_in v2 4 ∧ (vp_in (v2 - v1) 4 ∧ w_Un_removeFirst_L2 K n v1 (v2 + (1 : Int32)) (jup (jup (jup s2 11 (Int32.toNatClampNeg (v2 - v1)) (s2 11 (Int32.toNatClampNeg v2))) 12 (Int32.toNatClampNeg (v2 - v1)) (s2 12 (Int32.toNatClampNeg v2))) 13 (Int32.toNatClampNeg (v2 - v1)) (vp_nar .boolean (s2 13 (Int32.toNatClampNeg v2))))))))))))
def w_Un_removeFirst (a1 : Int32) (σ : Jst) (K : Jst → Prop) : Prop := (∃ n, w_Un_removeFirst_L2 K n a1 a1 σ)
abbrev rm_Un_removeFirst : Room := { frames := 0, cells := 0, slots := 0, locals := 0 }
set_option maxRecDepth 100000 in
set_option maxHeartbeats 4000000 in
theorem c_Un_removeFirst (l : Launch) (D : va_G) (ca ad : Nat → Nat) (sz : Nat) (hD : Jd ca ad sz) {a1 : Int32} {σ : Jst} {K : Jst → Prop} (hw : w_Un_removeFirst a1 σ K) : Met l y_Un_removeFirst (wG y_Un_removeFirst b_Un_removeFirst 3 none) rm_Un_removeFirst (va_Pc [.ref (ad 10), .int a1] (Jw D vwCl (tysT ca) (wlT ad ca) (NwT sz) σ)) (va_Qv K (Jq D vwCl (wlT ad ca)) (Aw sz)) 0 0 (Aw sz) := by
  refine j_met (cc := b_Un_removeFirst) (own := R_Un) (by decide +kernel) rfl (Nat.le_of_ble_eq_true rfl) rfl hD (nwT_k sz) ?_
  intro p e s m args below meth c X hlk hr
  have hX : J p l e rm_Un_removeFirst s m args below meth c D vwCl (wlT ad ca) (Aw sz) 3 0 0 (MQ below (va_Qv K (Jq D vwCl (wlT ad ca)) (Aw sz)) args s 0 0 (Aw sz)) 0 [(0, .ref (ad 10)), (1, .int a1)] [] σ := by
    unfold w_Un_removeFirst at hw
    refine j_iload_n X d_Un_removeFirst_0 rfl 1 rfl ?_
    refine j_istore_n X d_Un_removeFirst_1 rfl (by decide) rfl ?_
    have lp2 : ∀ (n : Nat) (v1 v2 : Int32) (s2 : Jst), w_Un_removeFirst_L2 K n v1 v2 s2 → J p l e rm_Un_removeFirst s m args below meth c D vwCl (wlT ad ca) (Aw sz) 3 0 0 (MQ below (va_Qv K (Jq D vwCl (wlT ad ca)) (Aw sz)) args s 0 0 (Aw sz)) 2 [(0, .ref (ad 10)), (1, .int v1), (2, .int v2)] [] s2 := by
      intro n
      induction n with
      | zero => intro v1 v2 s2 hw; exact (show False from hw).elim
      | succ n ih2 =>
        intro v1 v2 s2 hw
        rw [w_Un_removeFirst_L2] at hw
        refine j_iload_n X d_Un_removeFirst_2 rfl 2 rfl ?_
        refine j_aload_n X d_Un_removeFirst_3 rfl 0 rfl ?_
        refine g_10_3 X f_Un_22 (v := (s2 10 3)) rfl d_Un_removeFirst_4 ?_
        refine j_icmp_ge X d_Un_removeFirst_7 (tgt := 58) (by decide) (fun h => ?_) (fun h => ?_)
        · have hw := hw.1 h
          refine j_aload_n X d_Un_removeFirst_58 rfl 0 rfl ?_
          refine j_dup X d_Un_removeFirst_59 rfl ?_
          refine g_10_3 X f_Un_22 (v := (s2 10 3)) rfl d_Un_removeFirst_60 ?_
          refine j_iload_n X d_Un_removeFirst_63 rfl 1 rfl ?_
          refine j_isub X d_Un_removeFirst_64 ?_
          refine p_10_3 X f_Un_22 d_Un_removeFirst_65 ?_
          exact j_vret X hlk hr d_Un_removeFirst_68 hw
        · have hw := hw.2 h
          refine j_aload_n X d_Un_removeFirst_10 rfl 0 rfl ?_
          refine g_10_0 X f_Un_9 d_Un_removeFirst_11 ?_
          refine j_iload_n X d_Un_removeFirst_14 rfl 2 rfl ?_
          refine j_iload_n X d_Un_removeFirst_15 rfl 1 rfl ?_
          refine j_isub X d_Un_removeFirst_16 ?_
          refine j_aload_n X d_Un_removeFirst_17 rfl 0 rfl ?_
          refine g_10_0 X f_Un_9 d_Un_removeFirst_18 ?_
          refine j_iload_n X d_Un_removeFirst_21 rfl 2 rfl ?_
          refine ld_11 X hw.1 (v := (s2 11 (Int32.toNatClampNeg v2))) rfl d_Un_removeFirst_22 ?_
          have hw := hw.2
          refine sr_11 X hw.1 d_Un_removeFirst_23 ?_
          have hw := hw.2
          refine j_aload_n X d_Un_removeFirst_24 rfl 0 rfl ?_
          refine g_10_1 X f_Un_15 d_Un_removeFirst_25 ?_
          refine j_iload_n X d_Un_removeFirst_28 rfl 2 rfl ?_
          refine j_iload_n X d_Un_removeFirst_29 rfl 1 rfl ?_
          refine j_isub X d_Un_removeFirst_30 ?_
          refine j_aload_n X d_Un_removeFirst_31 rfl 0 rfl ?_
          refine g_10_1 X f_Un_15 d_Un_removeFirst_32 ?_
          refine j_iload_n X d_Un_removeFirst_35 rfl 2 rfl ?_
          refine ld_12 X hw.1 (v := (s2 12 (Int32.toNatClampNeg v2))) rfl d_Un_removeFirst_36 ?_
          have hw := hw.2
          refine sr_12 X hw.1 d_Un_removeFirst_37 ?_
          have hw := hw.2
          refine j_aload_n X d_Un_removeFirst_38 rfl 0 rfl ?_
          refine g_10_2 X f_Un_18 d_Un_removeFirst_39 ?_
          refine j_iload_n X d_Un_removeFirst_42 rfl 2 rfl ?_
          refine j_iload_n X d_Un_removeFirst_43 rfl 1 rfl ?_
          refine j_isub X d_Un_removeFirst_44 ?_
          refine j_aload_n X d_Un_removeFirst_45 rfl 0 rfl ?_
          refine g_10_2 X f_Un_18 d_Un_removeFirst_46 ?_
          refine j_iload_n X d_Un_removeFirst_49 rfl 2 rfl ?_
          refine ld_13 X hw.1 (v := (s2 13 (Int32.toNatClampNeg v2))) rfl d_Un_removeFirst_50 ?_
          have hw := hw.2
          refine sr_13 X hw.1 d_Un_removeFirst_51 ?_
          have hw := hw.2
          refine j_iinc X (v := (1 : Int32)) d_Un_removeFirst_52 2 rfl (by decide) (by decide) rfl ?_
          refine j_goto X d_Un_removeFirst_55 (tgt := 2) (by decide) ?_
          refine j_locs [1, 2, 0] rfl ?_
          exact ih2 _ _ _ hw
    obtain ⟨n, hw⟩ := hw
    refine j_locs [1, 2, 0] rfl ?_
    exact lp2 n _ _ _ hw
  exact hX
def w_Un_clear (σ : Jst) (K : Jst → Prop) : Prop := K (jup σ 10 3 (0 : Int32))
abbrev rm_Un_clear : Room := { frames := 0, cells := 0, slots := 0, locals := 0 }
set_option maxRecDepth 100000 in
set_option maxHeartbeats 4000000 in
theorem c_Un_clear (l : Launch) (D : va_G) (ca ad : Nat → Nat) (sz : Nat) (hD : Jd ca ad sz) {σ : Jst} {K : Jst → Prop} (hw : w_Un_clear σ K) : Met l y_Un_clear (wG y_Un_clear b_Un_clear 1 none) rm_Un_clear (va_Pc [.ref (ad 10)] (Jw D vwCl (tysT ca) (wlT ad ca) (NwT sz) σ)) (va_Qv K (Jq D vwCl (wlT ad ca)) (Aw sz)) 0 0 (Aw sz) := by
  refine j_met (cc := b_Un_clear) (own := R_Un) (by decide +kernel) rfl (Nat.le_of_ble_eq_true rfl) rfl hD (nwT_k sz) ?_
  intro p e s m args below meth c X hlk hr
  have hX : J p l e rm_Un_clear s m args below meth c D vwCl (wlT ad ca) (Aw sz) 1 0 0 (MQ below (va_Qv K (Jq D vwCl (wlT ad ca)) (Aw sz)) args s 0 0 (Aw sz)) 0 [(0, .ref (ad 10))] [] σ := by
    unfold w_Un_clear at hw
    refine j_aload_n X d_Un_clear_0 rfl 0 rfl ?_
    refine j_iconst X (v := (0 : Int32)) d_Un_clear_1 (by decide) ?_
    refine p_10_3 X f_Un_22 d_Un_clear_2 ?_
    exact j_vret X hlk hr d_Un_clear_5 hw
  exact hX
def w_Un_markAll_L2 (K : Jst → Prop) : Nat → Int32 → Jst → Prop
  | 0, _, _ => False
  | n + 1, v1, s2 => (((s2 10 3) ≤ v1 → K s2) ∧ (¬ (s2 10 3) ≤ v1 → (vp_in v1 4 ∧ w_Un_markAll_L2 K n (v1 + (1 : Int32)) (jup s2 13 (Int32.toNatClampNeg v1) (vp_nar .boolean (1 : Int32))))))
def w_Un_markAll (σ : Jst) (K : Jst → Prop) : Prop := (∃ n, w_Un_markAll_L2 K n (0 : Int32) σ)
abbrev rm_Un_markAll : Room := { frames := 0, cells := 0, slots := 0, locals := 0 }
set_option maxRecDepth 100000 in
set_option maxHeartbeats 4000000 in
theorem c_Un_markAll (l : Launch) (D : va_G) (ca ad : Nat → Nat) (sz : Nat) (hD : Jd ca ad sz) {σ : Jst} {K : Jst → Prop} (hw : w_Un_markAll σ K) : Met l y_Un_markAll (wG y_Un_markAll b_Un_markAll 2 none) rm_Un_markAll (va_Pc [.ref (ad 10)] (Jw D vwCl (tysT ca) (wlT ad ca) (NwT sz) σ)) (va_Qv K (Jq D vwCl (wlT ad ca)) (Aw sz)) 0 0 (Aw sz) := by
  refine j_met (cc := b_Un_markAll) (own := R_Un) (by decide +kernel) rfl (Nat.le_of_ble_eq_true rfl) rfl hD (nwT_k sz) ?_
  intro p e s m args below meth c X hlk hr
  have hX : J p l e rm_Un_markAll s m args below meth c D vwCl (wlT ad ca) (Aw sz) 2 0 0 (MQ below (va_Qv K (Jq D vwCl (wlT ad ca)) (Aw sz)) args s 0 0 (Aw sz)) 0 [(0, .ref (ad 10))] [] σ := by
    unfold w_Un_markAll at hw
    refine j_iconst X (v := (0 : Int32)) d_Un_markAll_0 (by decide) ?_
    refine j_istore_n X d_Un_markAll_1 rfl (by decide) rfl ?_
    have lp2 : ∀ (n : Nat) (v1 : Int32) (s2 : Jst), w_Un_markAll_L2 K n v1 s2 → J p l e rm_Un_markAll s m args below meth c D vwCl (wlT ad ca) (Aw sz) 2 0 0 (MQ below (va_Qv K (Jq D vwCl (wlT ad ca)) (Aw sz)) args s 0 0 (Aw sz)) 2 [(0, .ref (ad 10)), (1, .int v1)] [] s2 := by
      intro n
      induction n with
      | zero => intro v1 s2 hw; exact (show False from hw).elim
      | succ n ih2 =>
        intro v1 s2 hw
        rw [w_Un_markAll_L2] at hw
        refine j_iload_n X d_Un_markAll_2 rfl 1 rfl ?_
        refine j_aload_n X d_Un_markAll_3 rfl 0 rfl ?_
        refine g_10_3 X f_Un_22 (v := (s2 10 3)) rfl d_Un_markAll_4 ?_
        refine j_icmp_ge X d_Un_markAll_7 (tgt := 23) (by decide) (fun h => ?_) (fun h => ?_)
        · have hw := hw.1 h
          exact j_vret X hlk hr d_Un_markAll_23 hw
        · have hw := hw.2 h
          refine j_aload_n X d_Un_markAll_10 rfl 0 rfl ?_
          refine g_10_2 X f_Un_18 d_Un_markAll_11 ?_
          refine j_iload_n X d_Un_markAll_14 rfl 1 rfl ?_
          refine j_iconst X (v := (1 : Int32)) d_Un_markAll_15 (by decide) ?_
          refine sr_13 X hw.1 d_Un_markAll_16 ?_
          have hw := hw.2
          refine j_iinc X (v := (1 : Int32)) d_Un_markAll_17 1 rfl (by decide) (by decide) rfl ?_
          refine j_goto X d_Un_markAll_20 (tgt := 2) (by decide) ?_
          refine j_locs [1, 0] rfl ?_
          exact ih2 _ _ hw
    obtain ⟨n, hw⟩ := hw
    refine j_locs [1, 0] rfl ?_
    exact lp2 n _ _ hw
  exact hX
def w_Un_unmark (a1 : Int32) (σ : Jst) (K : Jst → Prop) : Prop := (vp_in a1 4 ∧ K (jup σ 13 (Int32.toNatClampNeg a1) (vp_nar .boolean (0 : Int32))))
abbrev rm_Un_unmark : Room := { frames := 0, cells := 0, slots := 0, locals := 0 }
set_option maxRecDepth 100000 in
set_option maxHeartbeats 4000000 in
theorem c_Un_unmark (l : Launch) (D : va_G) (ca ad : Nat → Nat) (sz : Nat) (hD : Jd ca ad sz) {a1 : Int32} {σ : Jst} {K : Jst → Prop} (hw : w_Un_unmark a1 σ K) : Met l y_Un_unmark (wG y_Un_unmark b_Un_unmark 2 none) rm_Un_unmark (va_Pc [.ref (ad 10), .int a1] (Jw D vwCl (tysT ca) (wlT ad ca) (NwT sz) σ)) (va_Qv K (Jq D vwCl (wlT ad ca)) (Aw sz)) 0 0 (Aw sz) := by
  refine j_met (cc := b_Un_unmark) (own := R_Un) (by decide +kernel) rfl (Nat.le_of_ble_eq_true rfl) rfl hD (nwT_k sz) ?_
  intro p e s m args below meth c X hlk hr
  have hX : J p l e rm_Un_unmark s m args below meth c D vwCl (wlT ad ca) (Aw sz) 2 0 0 (MQ below (va_Qv K (Jq D vwCl (wlT ad ca)) (Aw sz)) args s 0 0 (Aw sz)) 0 [(0, .ref (ad 10)), (1, .int a1)] [] σ := by
    unfold w_Un_unmark at hw
    refine j_aload_n X d_Un_unmark_0 rfl 0 rfl ?_
    refine g_10_2 X f_Un_18 d_Un_unmark_1 ?_
    refine j_iload_n X d_Un_unmark_4 rfl 1 rfl ?_
    refine j_iconst X (v := (0 : Int32)) d_Un_unmark_5 (by decide) ?_
    refine sr_13 X hw.1 d_Un_unmark_6 ?_
    have hw := hw.2
    exact j_vret X hlk hr d_Un_unmark_7 hw
  exact hX
def w_Un_firstMarked_L2 (K : Int32 → Jst → Prop) : Nat → Int32 → Jst → Prop
  | 0, _, _ => False
  | n + 1, v1, s2 => (((s2 10 3) ≤ v1 → K (-1 : Int32) s2) ∧ (¬ (s2 10 3) ≤ v1 → (vp_in v1 4 ∧ (((s2 13 (Int32.toNatClampNeg v1)) = (0 : Int32) → w_Un_firstMarked_L2 K n (v1 + (1 : Int32)) s2) ∧ (¬ (s2 13 (Int32.toNatClampNeg v1)) = (0 : Int32) → K v1 s2)))))
def w_Un_firstMarked (σ : Jst) (K : Int32 → Jst → Prop) : Prop := (∃ n, w_Un_firstMarked_L2 K n (0 : Int32) σ)
abbrev rm_Un_firstMarked : Room := { frames := 0, cells := 0, slots := 0, locals := 0 }
set_option maxRecDepth 100000 in
set_option maxHeartbeats 4000000 in
theorem c_Un_firstMarked (l : Launch) (D : va_G) (ca ad : Nat → Nat) (sz : Nat) (hD : Jd ca ad sz) {σ : Jst} {K : Int32 → Jst → Prop} (hw : w_Un_firstMarked σ K) : Met l y_Un_firstMarked (wG y_Un_firstMarked b_Un_firstMarked 2 (some .int)) rm_Un_firstMarked (va_Pc [.ref (ad 10)] (Jw D vwCl (tysT ca) (wlT ad ca) (NwT sz) σ)) (va_Qi K (Jq D vwCl (wlT ad ca)) (Aw sz)) 0 0 (Aw sz) := by
  refine j_met (cc := b_Un_firstMarked) (own := R_Un) (by decide +kernel) rfl (Nat.le_of_ble_eq_true rfl) rfl hD (nwT_k sz) ?_
  intro p e s m args below meth c X hlk hr
  have hX : J p l e rm_Un_firstMarked s m args below meth c D vwCl (wlT ad ca) (Aw sz) 2 0 0 (MQ below (va_Qi K (Jq D vwCl (wlT ad ca)) (Aw sz)) args s 0 0 (Aw sz)) 0 [(0, .ref (ad 10))] [] σ := by
    unfold w_Un_firstMarked at hw
    refine j_iconst X (v := (0 : Int32)) d_Un_firstMarked_0 (by decide) ?_
    refine j_istore_n X d_Un_firstMarked_1 rfl (by decide) rfl ?_
    have lp2 : ∀ (n : Nat) (v1 : Int32) (s2 : Jst), w_Un_firstMarked_L2 K n v1 s2 → J p l e rm_Un_firstMarked s m args below meth c D vwCl (wlT ad ca) (Aw sz) 2 0 0 (MQ below (va_Qi K (Jq D vwCl (wlT ad ca)) (Aw sz)) args s 0 0 (Aw sz)) 2 [(0, .ref (ad 10)), (1, .int v1)] [] s2 := by
      intro n
      induction n with
      | zero => intro v1 s2 hw; exact (show False from hw).elim
      | succ n ih2 =>
        intro v1 s2 hw
        rw [w_Un_firstMarked_L2] at hw
        refine j_iload_n X d_Un_firstMarked_2 rfl 1 rfl ?_
        refine j_aload_n X d_Un_firstMarked_3 rfl 0 rfl ?_
        refine g_10_3 X f_Un_22 (v := (s2 10 3)) rfl d_Un_firstMarked_4 ?_
        refine j_icmp_ge X d_Un_firstMarked_7 (tgt := 27) (by decide) (fun h => ?_) (fun h => ?_)
        · have hw := hw.1 h
          refine j_iconst X (v := (-1 : Int32)) d_Un_firstMarked_27 (by decide) ?_
          exact j_iret X hlk hr d_Un_firstMarked_28 hw
        · have hw := hw.2 h
          refine j_aload_n X d_Un_firstMarked_10 rfl 0 rfl ?_
          refine g_10_2 X f_Un_18 d_Un_firstMarked_11 ?_
          refine j_iload_n X d_Un_firstMarked_14 rfl 1 rfl ?_
          refine ld_13 X hw.1 (v := (s2 13 (Int32.toNatClampNeg v1))) rfl d_Un_firstMarked_15 ?_
          have hw := hw.2
          refine j_if_eq X d_Un_firstMarked_16 (tgt := 21) (by decide) (fun h => ?_) (fun h => ?_)
          · have hw := hw.1 h
            refine j_iinc X (v := (1 : Int32)) d_Un_firstMarked_21 1 rfl (by decide) (by decide) rfl ?_
            refine j_goto X d_Un_firstMarked_24 (tgt := 2) (by decide) ?_
            refine j_locs [1, 0] rfl ?_
            exact ih2 _ _ hw
          · have hw := hw.2 h
            refine j_iload_n X d_Un_firstMarked_19 rfl 1 rfl ?_
            exact j_iret X hlk hr d_Un_firstMarked_20 hw
    obtain ⟨n, hw⟩ := hw
    refine j_locs [1, 0] rfl ?_
    exact lp2 n _ _ hw
  exact hX
def w_Un_countMarked_L4 (K : Int32 → Jst → Prop) : Nat → Int32 → Int32 → Jst → Prop
  | 0, _, _, _ => False
  | n + 1, v1, v2, s4 => (((s4 10 3) ≤ v2 → K v1 s4) ∧ (¬ (s4 10 3) ≤ v2 → (vp_in v2 4 ∧ (((s4 13 (Int32.toNatClampNeg v2)) = (0 : Int32) → w_Un_countMarked_L4 K n v1 (v2 + (1 : Int32)) s4) ∧ (¬ (s4 13 (Int32.toNatClampNeg v2)) = (0 : Int32) → w_Un_countMarked_L4 K n (v1 + (1 : Int32)) (v2 + (1 : Int32)) s4)))))
def w_Un_countMarked (σ : Jst) (K : Int32 → Jst → Prop) : Prop := (∃ n, w_Un_countMarked_L4 K n (0 : Int32) (0 : Int32) σ)
abbrev rm_Un_countMarked : Room := { frames := 0, cells := 0, slots := 0, locals := 0 }
set_option maxRecDepth 100000 in
set_option maxHeartbeats 4000000 in
theorem c_Un_countMarked (l : Launch) (D : va_G) (ca ad : Nat → Nat) (sz : Nat) (hD : Jd ca ad sz) {σ : Jst} {K : Int32 → Jst → Prop} (hw : w_Un_countMarked σ K) : Met l y_Un_countMarked (wG y_Un_countMarked b_Un_countMarked 3 (some .int)) rm_Un_countMarked (va_Pc [.ref (ad 10)] (Jw D vwCl (tysT ca) (wlT ad ca) (NwT sz) σ)) (va_Qi K (Jq D vwCl (wlT ad ca)) (Aw sz)) 0 0 (Aw sz) := by
  refine j_met (cc := b_Un_countMarked) (own := R_Un) (by decide +kernel) rfl (Nat.le_of_ble_eq_true rfl) rfl hD (nwT_k sz) ?_
  intro p e s m args below meth c X hlk hr
  have hX : J p l e rm_Un_countMarked s m args below meth c D vwCl (wlT ad ca) (Aw sz) 3 0 0 (MQ below (va_Qi K (Jq D vwCl (wlT ad ca)) (Aw sz)) args s 0 0 (Aw sz)) 0 [(0, .ref (ad 10))] [] σ := by
    unfold w_Un_countMarked at hw
    refine j_iconst X (v := (0 : Int32)) d_Un_countMarked_0 (by decide) ?_
    refine j_istore_n X d_Un_countMarked_1 rfl (by decide) rfl ?_
    refine j_iconst X (v := (0 : Int32)) d_Un_countMarked_2 (by decide) ?_
    refine j_istore_n X d_Un_countMarked_3 rfl (by decide) rfl ?_
    have lp4 : ∀ (n : Nat) (v1 v2 : Int32) (s4 : Jst), w_Un_countMarked_L4 K n v1 v2 s4 → J p l e rm_Un_countMarked s m args below meth c D vwCl (wlT ad ca) (Aw sz) 3 0 0 (MQ below (va_Qi K (Jq D vwCl (wlT ad ca)) (Aw sz)) args s 0 0 (Aw sz)) 4 [(0, .ref (ad 10)), (1, .int v1), (2, .int v2)] [] s4 := by
      intro n
      induction n with
      | zero => intro v1 v2 s4 hw; exact (show False from hw).elim
      | succ n ih4 =>
        intro v1 v2 s4 hw
        rw [w_Un_countMarked_L4] at hw
        refine j_iload_n X d_Un_countMarked_4 rfl 2 rfl ?_
        refine j_aload_n X d_Un_countMarked_5 rfl 0 rfl ?_
        refine g_10_3 X f_Un_22 (v := (s4 10 3)) rfl d_Un_countMarked_6 ?_
        refine j_icmp_ge X d_Un_countMarked_9 (tgt := 30) (by decide) (fun h => ?_) (fun h => ?_)
        · have hw := hw.1 h
          refine j_iload_n X d_Un_countMarked_30 rfl 1 rfl ?_
          exact j_iret X hlk hr d_Un_countMarked_31 hw
        · have hw := hw.2 h
          refine j_aload_n X d_Un_countMarked_12 rfl 0 rfl ?_
          refine g_10_2 X f_Un_18 d_Un_countMarked_13 ?_
          refine j_iload_n X d_Un_countMarked_16 rfl 2 rfl ?_
          refine ld_13 X hw.1 (v := (s4 13 (Int32.toNatClampNeg v2))) rfl d_Un_countMarked_17 ?_
          have hw := hw.2
          refine j_if_eq X d_Un_countMarked_18 (tgt := 24) (by decide) (fun h => ?_) (fun h => ?_)
          · have hw := hw.1 h
            refine j_iinc X (v := (1 : Int32)) d_Un_countMarked_24 2 rfl (by decide) (by decide) rfl ?_
            refine j_goto X d_Un_countMarked_27 (tgt := 4) (by decide) ?_
            refine j_locs [1, 2, 0] rfl ?_
            exact ih4 _ _ _ hw
          · have hw := hw.2 h
            refine j_iinc X (v := (1 : Int32)) d_Un_countMarked_21 1 rfl (by decide) (by decide) rfl ?_
            refine j_iinc X (v := (1 : Int32)) d_Un_countMarked_24 2 rfl (by decide) (by decide) rfl ?_
            refine j_goto X d_Un_countMarked_27 (tgt := 4) (by decide) ?_
            refine j_locs [2, 1, 0] rfl ?_
            exact ih4 _ _ _ hw
    obtain ⟨n, hw⟩ := hw
    refine j_locs [2, 1, 0] rfl ?_
    exact lp4 n _ _ _ hw
  exact hX
