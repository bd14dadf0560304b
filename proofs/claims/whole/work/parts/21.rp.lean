def w_Rp_size (σ : Jst) (K : Int32 → Jst → Prop) : Prop := K (σ 5 3) σ
abbrev rm_Rp_size : Room := { frames := 0, cells := 0, slots := 0, locals := 0 }
set_option maxRecDepth 100000 in
set_option maxHeartbeats 4000000 in
theorem c_Rp_size (l : Launch) (D : va_G) (ca ad : Nat → Nat) (sz : Nat) (hD : Jd ca ad sz) {σ : Jst} {K : Int32 → Jst → Prop} (hw : w_Rp_size σ K) : Met l y_Rp_size (wG y_Rp_size b_Rp_size 1 (some .int)) rm_Rp_size (va_Pc [.ref (ad 5)] (Jw D vwCl (tysT ca) (wlT ad ca) (NwT sz) σ)) (va_Qi K (Jq D vwCl (wlT ad ca)) (Aw sz)) 0 0 (Aw sz) := by
  refine j_met (cc := b_Rp_size) (own := R_Rp) (by decide +kernel) rfl (Nat.le_of_ble_eq_true rfl) rfl hD (nwT_k sz) ?_
  intro p e s m args below meth c X hlk hr
  have hX : J p l e rm_Rp_size s m args below meth c D vwCl (wlT ad ca) (Aw sz) 1 0 0 (MQ below (va_Qi K (Jq D vwCl (wlT ad ca)) (Aw sz)) args s 0 0 (Aw sz)) 0 [(0, .ref (ad 5))] [] σ := by
    unfold w_Rp_size at hw
    refine j_aload_n X d_Rp_size_0 rfl 0 rfl ?_
    refine g_5_3 X f_Rp_22 (v := (σ 5 3)) rfl d_Rp_size_1 ?_
    exact j_iret X hlk hr d_Rp_size_4 hw
  exact hX
def w_Rp_has (a1 : Int32) (σ : Jst) (K : Int32 → Jst → Prop) : Prop := ((a1 < (0 : Int32) → K (0 : Int32) σ) ∧ (¬ a1 < (0 : Int32) → (((σ 5 3) ≤ a1 → K (0 : Int32) σ) ∧ (¬ (σ 5 3) ≤ a1 → K (1 : Int32) σ))))
abbrev rm_Rp_has : Room := { frames := 0, cells := 0, slots := 0, locals := 0 }
set_option maxRecDepth 100000 in
set_option maxHeartbeats 4000000 in
theorem c_Rp_has (l : Launch) (D : va_G) (ca ad : Nat → Nat) (sz : Nat) (hD : Jd ca ad sz) {a1 : Int32} {σ : Jst} {K : Int32 → Jst → Prop} (hw : w_Rp_has a1 σ K) : Met l y_Rp_has (wG y_Rp_has b_Rp_has 2 (some .boolean)) rm_Rp_has (va_Pc [.ref (ad 5), .int a1] (Jw D vwCl (tysT ca) (wlT ad ca) (NwT sz) σ)) (va_Qi K (Jq D vwCl (wlT ad ca)) (Aw sz)) 0 0 (Aw sz) := by
  refine j_met (cc := b_Rp_has) (own := R_Rp) (by decide +kernel) rfl (Nat.le_of_ble_eq_true rfl) rfl hD (nwT_k sz) ?_
  intro p e s m args below meth c X hlk hr
  have hX : J p l e rm_Rp_has s m args below meth c D vwCl (wlT ad ca) (Aw sz) 2 0 0 (MQ below (va_Qi K (Jq D vwCl (wlT ad ca)) (Aw sz)) args s 0 0 (Aw sz)) 0 [(0, .ref (ad 5)), (1, .int a1)] [] σ := by
    unfold w_Rp_has at hw
    refine j_iload_n X d_Rp_has_0 rfl 1 rfl ?_
    refine j_if_lt X d_Rp_has_1 (tgt := 16) (by decide) (fun h => ?_) (fun h => ?_)
    · have hw := hw.1 h
      refine j_iconst X (v := (0 : Int32)) d_Rp_has_16 (by decide) ?_
      exact j_zret X hlk hr rfl d_Rp_has_17 hw
    · have hw := hw.2 h
      refine j_iload_n X d_Rp_has_4 rfl 1 rfl ?_
      refine j_aload_n X d_Rp_has_5 rfl 0 rfl ?_
      refine g_5_3 X f_Rp_22 (v := (σ 5 3)) rfl d_Rp_has_6 ?_
      refine j_icmp_ge X d_Rp_has_9 (tgt := 16) (by decide) (fun h => ?_) (fun h => ?_)
      · have hw := hw.1 h
        refine j_iconst X (v := (0 : Int32)) d_Rp_has_16 (by decide) ?_
        exact j_zret X hlk hr rfl d_Rp_has_17 hw
      · have hw := hw.2 h
        refine j_iconst X (v := (1 : Int32)) d_Rp_has_12 (by decide) ?_
        refine j_goto X d_Rp_has_13 (tgt := 17) (by decide) ?_
        exact j_zret X hlk hr rfl d_Rp_has_17 hw
  exact hX
def w_Rp_expected (a1 : Int32) (σ : Jst) (K : Int32 → Jst → Prop) : Prop := (vp_in a1 20 ∧ K (σ 6 (Int32.toNatClampNeg a1)) σ)
abbrev rm_Rp_expected : Room := { frames := 0, cells := 0, slots := 0, locals := 0 }
set_option maxRecDepth 100000 in
set_option maxHeartbeats 4000000 in
theorem c_Rp_expected (l : Launch) (D : va_G) (ca ad : Nat → Nat) (sz : Nat) (hD : Jd ca ad sz) {a1 : Int32} {σ : Jst} {K : Int32 → Jst → Prop} (hw : w_Rp_expected a1 σ K) : Met l y_Rp_expected (wG y_Rp_expected b_Rp_expected 2 (some .int)) rm_Rp_expected (va_Pc [.ref (ad 5), .int a1] (Jw D vwCl (tysT ca) (wlT ad ca) (NwT sz) σ)) (va_Qi K (Jq D vwCl (wlT ad ca)) (Aw sz)) 0 0 (Aw sz) := by
  refine j_met (cc := b_Rp_expected) (own := R_Rp) (by decide +kernel) rfl (Nat.le_of_ble_eq_true rfl) rfl hD (nwT_k sz) ?_
  intro p e s m args below meth c X hlk hr
  have hX : J p l e rm_Rp_expected s m args below meth c D vwCl (wlT ad ca) (Aw sz) 2 0 0 (MQ below (va_Qi K (Jq D vwCl (wlT ad ca)) (Aw sz)) args s 0 0 (Aw sz)) 0 [(0, .ref (ad 5)), (1, .int a1)] [] σ := by
    unfold w_Rp_expected at hw
    refine j_aload_n X d_Rp_expected_0 rfl 0 rfl ?_
    refine g_5_0 X f_Rp_9 d_Rp_expected_1 ?_
    refine j_iload_n X d_Rp_expected_4 rfl 1 rfl ?_
    refine ld_6 X hw.1 (v := (σ 6 (Int32.toNatClampNeg a1))) rfl d_Rp_expected_5 ?_
    have hw := hw.2
    exact j_iret X hlk hr d_Rp_expected_6 hw
  exact hX
def w_Rp_again (a1 : Int32) (σ : Jst) (K : Int32 → Jst → Prop) : Prop := (vp_in a1 20 ∧ (narrow .boolean (.int (σ 7 (Int32.toNatClampNeg a1))) = .int (σ 7 (Int32.toNatClampNeg a1)) ∧ K (σ 7 (Int32.toNatClampNeg a1)) σ))
abbrev rm_Rp_again : Room := { frames := 0, cells := 0, slots := 0, locals := 0 }
set_option maxRecDepth 100000 in
set_option maxHeartbeats 4000000 in
theorem c_Rp_again (l : Launch) (D : va_G) (ca ad : Nat → Nat) (sz : Nat) (hD : Jd ca ad sz) {a1 : Int32} {σ : Jst} {K : Int32 → Jst → Prop} (hw : w_Rp_again a1 σ K) : Met l y_Rp_again (wG y_Rp_again b_Rp_again 2 (some .boolean)) rm_Rp_again (va_Pc [.ref (ad 5), .int a1] (Jw D vwCl (tysT ca) (wlT ad ca) (NwT sz) σ)) (va_Qi K (Jq D vwCl (wlT ad ca)) (Aw sz)) 0 0 (Aw sz) := by
  refine j_met (cc := b_Rp_again) (own := R_Rp) (by decide +kernel) rfl (Nat.le_of_ble_eq_true rfl) rfl hD (nwT_k sz) ?_
  intro p e s m args below meth c X hlk hr
  have hX : J p l e rm_Rp_again s m args below meth c D vwCl (wlT ad ca) (Aw sz) 2 0 0 (MQ below (va_Qi K (Jq D vwCl (wlT ad ca)) (Aw sz)) args s 0 0 (Aw sz)) 0 [(0, .ref (ad 5)), (1, .int a1)] [] σ := by
    unfold w_Rp_again at hw
    refine j_aload_n X d_Rp_again_0 rfl 0 rfl ?_
    refine g_5_1 X f_Rp_15 d_Rp_again_1 ?_
    refine j_iload_n X d_Rp_again_4 rfl 1 rfl ?_
    refine ld_7 X hw.1 (v := (σ 7 (Int32.toNatClampNeg a1))) rfl d_Rp_again_5 ?_
    have hw := hw.2
    exact j_zret X hlk hr hw.1 d_Rp_again_6 hw.2
  exact hX
def w_Rp_gate (a1 : Int32) (σ : Jst) (K : Int32 → Jst → Prop) : Prop := (vp_in a1 20 ∧ K (σ 8 (Int32.toNatClampNeg a1)) σ)
abbrev rm_Rp_gate : Room := { frames := 0, cells := 0, slots := 0, locals := 0 }
set_option maxRecDepth 100000 in
set_option maxHeartbeats 4000000 in
theorem c_Rp_gate (l : Launch) (D : va_G) (ca ad : Nat → Nat) (sz : Nat) (hD : Jd ca ad sz) {a1 : Int32} {σ : Jst} {K : Int32 → Jst → Prop} (hw : w_Rp_gate a1 σ K) : Met l y_Rp_gate (wG y_Rp_gate b_Rp_gate 2 (some .int)) rm_Rp_gate (va_Pc [.ref (ad 5), .int a1] (Jw D vwCl (tysT ca) (wlT ad ca) (NwT sz) σ)) (va_Qi K (Jq D vwCl (wlT ad ca)) (Aw sz)) 0 0 (Aw sz) := by
  refine j_met (cc := b_Rp_gate) (own := R_Rp) (by decide +kernel) rfl (Nat.le_of_ble_eq_true rfl) rfl hD (nwT_k sz) ?_
  intro p e s m args below meth c X hlk hr
  have hX : J p l e rm_Rp_gate s m args below meth c D vwCl (wlT ad ca) (Aw sz) 2 0 0 (MQ below (va_Qi K (Jq D vwCl (wlT ad ca)) (Aw sz)) args s 0 0 (Aw sz)) 0 [(0, .ref (ad 5)), (1, .int a1)] [] σ := by
    unfold w_Rp_gate at hw
    refine j_aload_n X d_Rp_gate_0 rfl 0 rfl ?_
    refine g_5_2 X f_Rp_19 d_Rp_gate_1 ?_
    refine j_iload_n X d_Rp_gate_4 rfl 1 rfl ?_
    refine ld_8 X hw.1 (v := (σ 8 (Int32.toNatClampNeg a1))) rfl d_Rp_gate_5 ?_
    have hw := hw.2
    exact j_iret X hlk hr d_Rp_gate_6 hw
  exact hX
def w_Rp_add (σ : Jst) (K : Int32 → Jst → Prop) : Prop := (((σ 5 3) < (20 : Int32) → (vp_in (σ 5 3) 20 ∧ (vp_in (σ 5 3) 20 ∧ (vp_in (σ 5 3) 20 ∧ K (1 : Int32) (jup (jup (jup (jup σ 6 (Int32.toNatClampNeg (σ 5 3)) (σ 14 3)) 7 (Int32.toNatClampNeg (σ 5 3)) (vp_nar .boolean (σ 14 4))) 8 (Int32.toNatClampNeg (σ 5 3)) (σ 14 2)) 5 3 ((σ 5 3) + (1 : Int32))))))) ∧ (¬ (σ 5 3) < (20 : Int32) → K (0 : Int32) σ))
abbrev rm_Rp_add : Room := { frames := 0, cells := 0, slots := 0, locals := 0 }
set_option maxRecDepth 100000 in
set_option maxHeartbeats 4000000 in
theorem c_Rp_add (l : Launch) (D : va_G) (ca ad : Nat → Nat) (sz : Nat) (hD : Jd ca ad sz) {σ : Jst} {K : Int32 → Jst → Prop} (hw : w_Rp_add σ K) : Met l y_Rp_add (wG y_Rp_add b_Rp_add 2 (some .boolean)) rm_Rp_add (va_Pc [.ref (ad 5), .ref (ad 14)] (Jw D vwCl (tysT ca) (wlT ad ca) (NwT sz) σ)) (va_Qi K (Jq D vwCl (wlT ad ca)) (Aw sz)) 0 0 (Aw sz) := by
  refine j_met (cc := b_Rp_add) (own := R_Rp) (by decide +kernel) rfl (Nat.le_of_ble_eq_true rfl) rfl hD (nwT_k sz) ?_
  intro p e s m args below meth c X hlk hr
  have hX : J p l e rm_Rp_add s m args below meth c D vwCl (wlT ad ca) (Aw sz) 2 0 0 (MQ below (va_Qi K (Jq D vwCl (wlT ad ca)) (Aw sz)) args s 0 0 (Aw sz)) 0 [(0, .ref (ad 5)), (1, .ref (ad 14))] [] σ := by
    unfold w_Rp_add at hw
    refine j_aload_n X d_Rp_add_0 rfl 0 rfl ?_
    refine g_5_3 X f_Rp_22 (v := (σ 5 3)) rfl d_Rp_add_1 ?_
    refine j_bipush X (v := (20 : Int32)) d_Rp_add_4 (by decide) ?_
    refine j_icmp_lt X d_Rp_add_6 (tgt := 11) (by decide) (fun h => ?_) (fun h => ?_)
    · have hw := hw.1 h
      refine j_aload_n X d_Rp_add_11 rfl 0 rfl ?_
      refine g_5_0 X f_Rp_9 d_Rp_add_12 ?_
      refine j_aload_n X d_Rp_add_15 rfl 0 rfl ?_
      refine g_5_3 X f_Rp_22 (v := (σ 5 3)) rfl d_Rp_add_16 ?_
      refine j_aload_n X d_Rp_add_19 rfl 1 rfl ?_
      refine gN_14_3 X (n_Rp_26 sz) (v := (σ 14 3)) rfl d_Rp_add_20 ?_
      refine sr_6 X hw.1 d_Rp_add_23 ?_
      have hw := hw.2
      refine j_aload_n X d_Rp_add_24 rfl 0 rfl ?_
      refine g_5_1 X f_Rp_15 d_Rp_add_25 ?_
      refine j_aload_n X d_Rp_add_28 rfl 0 rfl ?_
      refine g_5_3 X f_Rp_22 (v := (σ 5 3)) rfl d_Rp_add_29 ?_
      refine j_aload_n X d_Rp_add_32 rfl 1 rfl ?_
      refine gN_14_4 X (n_Rp_30 sz) (v := (σ 14 4)) rfl d_Rp_add_33 ?_
      refine sr_7 X hw.1 d_Rp_add_36 ?_
      have hw := hw.2
      refine j_aload_n X d_Rp_add_37 rfl 0 rfl ?_
      refine g_5_2 X f_Rp_19 d_Rp_add_38 ?_
      refine j_aload_n X d_Rp_add_41 rfl 0 rfl ?_
      refine g_5_3 X f_Rp_22 (v := (σ 5 3)) rfl d_Rp_add_42 ?_
      refine j_aload_n X d_Rp_add_45 rfl 1 rfl ?_
      refine gN_14_2 X (n_Rp_33 sz) (v := (σ 14 2)) rfl d_Rp_add_46 ?_
      refine sr_8 X hw.1 d_Rp_add_49 ?_
      have hw := hw.2
      refine j_aload_n X d_Rp_add_50 rfl 0 rfl ?_
      refine j_dup X d_Rp_add_51 rfl ?_
      refine g_5_3 X f_Rp_22 (v := (σ 5 3)) rfl d_Rp_add_52 ?_
      refine j_iconst X (v := (1 : Int32)) d_Rp_add_55 (by decide) ?_
      refine j_iadd X d_Rp_add_56 ?_
      refine p_5_3 X f_Rp_22 d_Rp_add_57 ?_
      refine j_iconst X (v := (1 : Int32)) d_Rp_add_60 (by decide) ?_
      exact j_zret X hlk hr rfl d_Rp_add_61 hw
    · have hw := hw.2 h
      refine j_iconst X (v := (0 : Int32)) d_Rp_add_9 (by decide) ?_
      exact j_zret X hlk hr rfl d_Rp_add_10 hw
  exact hX
def w_Rp_remove_L4 (K : Jst → Prop) : Nat → Int32 → Int32 → Jst → Prop
  | 0, _, _, _ => False
  | n + 1, v1, v2, s4 => (((s4 5 3) ≤ v2 → K (jup s4 5 3 ((s4 5 3) - (1 : Int32)))) ∧ (¬ (s4 5 3) ≤ v2 → (vp_in v2 20 ∧ (vp_in (v2 - (1 : Int32)) 20 ∧ (vp_in v2 20 ∧ (vp_in (v2 - (1 : Int32)) 20 ∧ (vp_in v2 20 ∧ (vp_in (v2 - (1 : Int32)) 20 ∧ w_Rp_remove_L4 K n v1 (v2 + (1 : Int32)) (jup (jup (jup s4 6 (Int32.toNatClampNeg (v2 - (1 : Int32))) (s4 6 (Int32.toNatClampNeg v2))) 7 (Int32.toNatClampNeg (v2 - (1 : Int32))) (vp_nar .boolean (s4 7 (Int32.toNatClampNeg v2)))) 8 (Int32.toNatClampNeg (v2 - (1 : Int32))) (s4 8 (Int32.toNatClampNeg v2)))))))))))
def w_Rp_remove (a1 : Int32) (σ : Jst) (K : Jst → Prop) : Prop := (∃ n, w_Rp_remove_L4 K n a1 (a1 + (1 : Int32)) σ)
abbrev rm_Rp_remove : Room := { frames := 0, cells := 0, slots := 0, locals := 0 }
set_option maxRecDepth 100000 in
set_option maxHeartbeats 4000000 in
theorem c_Rp_remove (l : Launch) (D : va_G) (ca ad : Nat → Nat) (sz : Nat) (hD : Jd ca ad sz) {a1 : Int32} {σ : Jst} {K : Jst → Prop} (hw : w_Rp_remove a1 σ K) : Met l y_Rp_remove (wG y_Rp_remove b_Rp_remove 3 none) rm_Rp_remove (va_Pc [.ref (ad 5), .int a1] (Jw D vwCl (tysT ca) (wlT ad ca) (NwT sz) σ)) (va_Qv K (Jq D vwCl (wlT ad ca)) (Aw sz)) 0 0 (Aw sz) := by
  refine j_met (cc := b_Rp_remove) (own := R_Rp) (by decide +kernel) rfl (Nat.le_of_ble_eq_true rfl) rfl hD (nwT_k sz) ?_
  intro p e s m args below meth c X hlk hr
  have hX : J p l e rm_Rp_remove s m args below meth c D vwCl (wlT ad ca) (Aw sz) 3 0 0 (MQ below (va_Qv K (Jq D vwCl (wlT ad ca)) (Aw sz)) args s 0 0 (Aw sz)) 0 [(0, .ref (ad 5)), (1, .int a1)] [] σ := by
    unfold w_Rp_remove at hw
    refine j_iload_n X d_Rp_remove_0 rfl 1 rfl ?_
    refine j_iconst X (v := (1 : Int32)) d_Rp_remove_1 (by decide) ?_
    refine j_iadd X d_Rp_remove_2 ?_
    refine j_istore_n X d_Rp_remove_3 rfl (by decide) rfl ?_
    have lp4 : ∀ (n : Nat) (v1 v2 : Int32) (s4 : Jst), w_Rp_remove_L4 K n v1 v2 s4 → J p l e rm_Rp_remove s m args below meth c D vwCl (wlT ad ca) (Aw sz) 3 0 0 (MQ below (va_Qv K (Jq D vwCl (wlT ad ca)) (Aw sz)) args s 0 0 (Aw sz)) 4 [(0, .ref (ad 5)), (1, .int v1), (2, .int v2)] [] s4 := by
      intro n
      induction n with
      | zero => intro v1 v2 s4 hw; exact (show False from hw).elim
      | succ n ih4 =>
        intro v1 v2 s4 hw
        rw [w_Rp_remove_L4] at hw
        refine j_iload_n X d_Rp_remove_4 rfl 2 rfl ?_
        refine j_aload_n X d_Rp_remove_5 rfl 0 rfl ?_
        refine g_5_3 X f_Rp_22 (v := (s4 5 3)) rfl d_Rp_remove_6 ?_
        refine j_icmp_ge X d_Rp_remove_9 (tgt := 60) (by decide) (fun h => ?_) (fun h => ?_)
        · have hw := hw.1 h
          refine j_aload_n X d_Rp_remove_60 rfl 0 rfl ?_
          refine j_dup X d_Rp_remove_61 rfl ?_
          refine g_5_3 X f_Rp_22 (v := (s4 5 3)) rfl d_Rp_remove_62 ?_
          refine j_iconst X (v := (1 : Int32)) d_Rp_remove_65 (by decide) ?_
          refine j_isub X d_Rp_remove_66 ?_
          refine p_5_3 X f_Rp_22 d_Rp_remove_67 ?_
          exact j_vret X hlk hr d_Rp_remove_70 hw
        · have hw := hw.2 h
          refine j_aload_n X d_Rp_remove_12 rfl 0 rfl ?_
          refine g_5_0 X f_Rp_9 d_Rp_remove_13 ?_
          refine j_iload_n X d_Rp_remove_16 rfl 2 rfl ?_
          refine j_iconst X (v := (1 : Int32)) d_Rp_remove_17 (by decide) ?_
          refine j_isub X d_Rp_remove_18 ?_
          refine j_aload_n X d_Rp_remove_19 rfl 0 rfl ?_
          refine g_5_0 X f_Rp_9 d_Rp_remove_20 ?_
          refine j_iload_n X d_Rp_remove_23 rfl 2 rfl ?_
          refine ld_6 X hw.1 (v := (s4 6 (Int32.toNatClampNeg v2))) rfl d_Rp_remove_24 ?_
          have hw := hw.2
          refine sr_6 X hw.1 d_Rp_remove_25 ?_
          have hw := hw.2
          refine j_aload_n X d_Rp_remove_26 rfl 0 rfl ?_
          refine g_5_1 X f_Rp_15 d_Rp_remove_27 ?_
          refine j_iload_n X d_Rp_remove_30 rfl 2 rfl ?_
          refine j_iconst X (v := (1 : Int32)) d_Rp_remove_31 (by decide) ?_
          refine j_isub X d_Rp_remove_32 ?_
          refine j_aload_n X d_Rp_remove_33 rfl 0 rfl ?_
          refine g_5_1 X f_Rp_15 d_Rp_remove_34 ?_
          refine j_iload_n X d_Rp_remove_37 rfl 2 rfl ?_
          refine ld_7 X hw.1 (v := (s4 7 (Int32.toNatClampNeg v2))) rfl d_Rp_remove_38 ?_
          have hw := hw.2
          refine sr_7 X hw.1 d_Rp_remove_39 ?_
          have hw := hw.2
          refine j_aload_n X d_Rp_remove_40 rfl 0 rfl ?_
          refine g_5_2 X f_Rp_19 d_Rp_remove_41 ?_
          refine j_iload_n X d_Rp_remove_44 rfl 2 rfl ?_
          refine j_iconst X (v := (1 : Int32)) d_Rp_remove_45 (by decide) ?_
          refine j_isub X d_Rp_remove_46 ?_
          refine j_aload_n X d_Rp_remove_47 rfl 0 rfl ?_
          refine g_5_2 X f_Rp_19 d_Rp_remove_48 ?_
          refine j_iload_n X d_Rp_remove_51 rfl 2 rfl ?_
          refine ld_8 X hw.1 (v := (s4 8 (Int32.toNatClampNeg v2))) rfl d_Rp_remove_52 ?_
          have hw := hw.2
          refine sr_8 X hw.1 d_Rp_remove_53 ?_
          have hw := hw.2
          refine j_iinc X (v := (1 : Int32)) d_Rp_remove_54 2 rfl (by decide) (by decide) rfl ?_
          refine j_goto X d_Rp_remove_57 (tgt := 4) (by decide) ?_
          refine j_locs [1, 2, 0] rfl ?_
          exact ih4 _ _ _ hw
    obtain ⟨n, hw⟩ := hw
    refine j_locs [1, 2, 0] rfl ?_
    exact lp4 n _ _ _ hw
  exact hX
