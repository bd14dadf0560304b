def w_Cr_queued (σ : Jst) (K : Int32 → Jst → Prop) : Prop := K (σ 14 1) σ
abbrev rm_Cr_queued : Room := { frames := 0, cells := 0, slots := 0, locals := 0 }
set_option maxRecDepth 100000 in
set_option maxHeartbeats 4000000 in
theorem c_Cr_queued (l : Launch) (D : va_G) (ca ad : Nat → Nat) (sz : Nat) (hD : Jd ca ad sz) {σ : Jst} {K : Int32 → Jst → Prop} (hw : w_Cr_queued σ K) : Met l y_Cr_queued (wG y_Cr_queued b_Cr_queued 1 (some .int)) rm_Cr_queued (va_Pc [.ref (ad 14)] (Jw D vwCl (tysT ca) (wlT ad ca) (NwT sz) σ)) (va_Qi K (Jq D vwCl (wlT ad ca)) (Aw sz)) 0 0 (Aw sz) := by
  refine j_met (cc := b_Cr_queued) (own := R_Cr) (by decide +kernel) rfl (Nat.le_of_ble_eq_true rfl) rfl hD (nwT_k sz) ?_
  intro p e s m args below meth c X hlk hr
  have hX : J p l e rm_Cr_queued s m args below meth c D vwCl (wlT ad ca) (Aw sz) 1 0 0 (MQ below (va_Qi K (Jq D vwCl (wlT ad ca)) (Aw sz)) args s 0 0 (Aw sz)) 0 [(0, .ref (ad 14))] [] σ := by
    unfold w_Cr_queued at hw
    refine j_aload_n X d_Cr_queued_0 rfl 0 rfl ?_
    refine g_14_1 X f_Cr_19 (v := (σ 14 1)) rfl d_Cr_queued_1 ?_
    exact j_iret X hlk hr d_Cr_queued_4 hw
  exact hX
def w_Cr_takeFirst_L9 (K : Int32 → Jst → Prop) : Nat → Int32 → Int32 → Jst → Prop
  | 0, _, _, _ => False
  | n + 1, v1, v2, s9 => (((s9 14 1) ≤ v2 → ((¬ (s9 14 2) = (1 : Int32) → K v1 (jup s9 14 1 ((s9 14 1) - (1 : Int32)))) ∧ ((s9 14 2) = (1 : Int32) → K v1 (jup (jup s9 14 1 ((s9 14 1) - (1 : Int32))) 14 2 (0 : Int32))))) ∧ (¬ (s9 14 1) ≤ v2 → (vp_in v2 3 ∧ (vp_in (v2 - (1 : Int32)) 3 ∧ w_Cr_takeFirst_L9 K n v1 (v2 + (1 : Int32)) (jup s9 15 (Int32.toNatClampNeg (v2 - (1 : Int32))) (s9 15 (Int32.toNatClampNeg v2)))))))
def w_Cr_takeFirst (σ : Jst) (K : Int32 → Jst → Prop) : Prop := (∃ n, w_Cr_takeFirst_L9 K n (σ 15 (Int32.toNatClampNeg (0 : Int32))) (1 : Int32) σ)
abbrev rm_Cr_takeFirst : Room := { frames := 0, cells := 0, slots := 0, locals := 0 }
set_option maxRecDepth 100000 in
set_option maxHeartbeats 4000000 in
theorem c_Cr_takeFirst (l : Launch) (D : va_G) (ca ad : Nat → Nat) (sz : Nat) (hD : Jd ca ad sz) {σ : Jst} {K : Int32 → Jst → Prop} (hw : w_Cr_takeFirst σ K) : Met l y_Cr_takeFirst (wG y_Cr_takeFirst b_Cr_takeFirst 3 (some .int)) rm_Cr_takeFirst (va_Pc [.ref (ad 14)] (Jw D vwCl (tysT ca) (wlT ad ca) (NwT sz) σ)) (va_Qi K (Jq D vwCl (wlT ad ca)) (Aw sz)) 0 0 (Aw sz) := by
  refine j_met (cc := b_Cr_takeFirst) (own := R_Cr) (by decide +kernel) rfl (Nat.le_of_ble_eq_true rfl) rfl hD (nwT_k sz) ?_
  intro p e s m args below meth c X hlk hr
  have hX : J p l e rm_Cr_takeFirst s m args below meth c D vwCl (wlT ad ca) (Aw sz) 3 0 0 (MQ below (va_Qi K (Jq D vwCl (wlT ad ca)) (Aw sz)) args s 0 0 (Aw sz)) 0 [(0, .ref (ad 14))] [] σ := by
    unfold w_Cr_takeFirst at hw
    refine j_aload_n X d_Cr_takeFirst_0 rfl 0 rfl ?_
    refine g_14_0 X f_Cr_11 d_Cr_takeFirst_1 ?_
    refine j_iconst X (v := (0 : Int32)) d_Cr_takeFirst_4 (by decide) ?_
    refine ld_15 X (vin_lit (0 : Int32) 3 (by decide)) (v := (σ 15 (Int32.toNatClampNeg (0 : Int32)))) rfl d_Cr_takeFirst_5 ?_
    refine j_istore_n X d_Cr_takeFirst_6 rfl (by decide) rfl ?_
    refine j_iconst X (v := (1 : Int32)) d_Cr_takeFirst_7 (by decide) ?_
    refine j_istore_n X d_Cr_takeFirst_8 rfl (by decide) rfl ?_
    have lp9 : ∀ (n : Nat) (v1 v2 : Int32) (s9 : Jst), w_Cr_takeFirst_L9 K n v1 v2 s9 → J p l e rm_Cr_takeFirst s m args below meth c D vwCl (wlT ad ca) (Aw sz) 3 0 0 (MQ below (va_Qi K (Jq D vwCl (wlT ad ca)) (Aw sz)) args s 0 0 (Aw sz)) 9 [(0, .ref (ad 14)), (1, .int v1), (2, .int v2)] [] s9 := by
      intro n
      induction n with
      | zero => intro v1 v2 s9 hw; exact (show False from hw).elim
      | succ n ih9 =>
        intro v1 v2 s9 hw
        rw [w_Cr_takeFirst_L9] at hw
        refine j_iload_n X d_Cr_takeFirst_9 rfl 2 rfl ?_
        refine j_aload_n X d_Cr_takeFirst_10 rfl 0 rfl ?_
        refine g_14_1 X f_Cr_19 (v := (s9 14 1)) rfl d_Cr_takeFirst_11 ?_
        refine j_icmp_ge X d_Cr_takeFirst_14 (tgt := 37) (by decide) (fun h => ?_) (fun h => ?_)
        · have hw := hw.1 h
          refine j_aload_n X d_Cr_takeFirst_37 rfl 0 rfl ?_
          refine j_dup X d_Cr_takeFirst_38 rfl ?_
          refine g_14_1 X f_Cr_19 (v := (s9 14 1)) rfl d_Cr_takeFirst_39 ?_
          refine j_iconst X (v := (1 : Int32)) d_Cr_takeFirst_42 (by decide) ?_
          refine j_isub X d_Cr_takeFirst_43 ?_
          refine p_14_1 X f_Cr_19 d_Cr_takeFirst_44 ?_
          refine j_aload_n X d_Cr_takeFirst_47 rfl 0 rfl ?_
          refine g_14_2 X f_Cr_15 (v := (s9 14 2)) rfl d_Cr_takeFirst_48 ?_
          refine j_iconst X (v := (1 : Int32)) d_Cr_takeFirst_51 (by decide) ?_
          refine j_icmp_ne X d_Cr_takeFirst_52 (tgt := 60) (by decide) (fun h => ?_) (fun h => ?_)
          · have hw := hw.1 h
            refine j_iload_n X d_Cr_takeFirst_60 rfl 1 rfl ?_
            exact j_iret X hlk hr d_Cr_takeFirst_61 hw
          · have hw := hw.2 h
            refine j_aload_n X d_Cr_takeFirst_55 rfl 0 rfl ?_
            refine j_iconst X (v := (0 : Int32)) d_Cr_takeFirst_56 (by decide) ?_
            refine p_14_2 X f_Cr_15 d_Cr_takeFirst_57 ?_
            refine j_iload_n X d_Cr_takeFirst_60 rfl 1 rfl ?_
            exact j_iret X hlk hr d_Cr_takeFirst_61 hw
        · have hw := hw.2 h
          refine j_aload_n X d_Cr_takeFirst_17 rfl 0 rfl ?_
          refine g_14_0 X f_Cr_11 d_Cr_takeFirst_18 ?_
          refine j_iload_n X d_Cr_takeFirst_21 rfl 2 rfl ?_
          refine j_iconst X (v := (1 : Int32)) d_Cr_takeFirst_22 (by decide) ?_
          refine j_isub X d_Cr_takeFirst_23 ?_
          refine j_aload_n X d_Cr_takeFirst_24 rfl 0 rfl ?_
          refine g_14_0 X f_Cr_11 d_Cr_takeFirst_25 ?_
          refine j_iload_n X d_Cr_takeFirst_28 rfl 2 rfl ?_
          refine ld_15 X hw.1 (v := (s9 15 (Int32.toNatClampNeg v2))) rfl d_Cr_takeFirst_29 ?_
          have hw := hw.2
          refine sr_15 X hw.1 d_Cr_takeFirst_30 ?_
          have hw := hw.2
          refine j_iinc X (v := (1 : Int32)) d_Cr_takeFirst_31 2 rfl (by decide) (by decide) rfl ?_
          refine j_goto X d_Cr_takeFirst_34 (tgt := 9) (by decide) ?_
          refine j_locs [1, 2, 0] rfl ?_
          exact ih9 _ _ _ hw
    obtain ⟨n, hw⟩ := hw
    refine j_locs [2, 1, 0] rfl ?_
    exact lp9 n _ _ _ hw
  exact hX
def w_Cr_reopen (σ : Jst) (K : Jst → Prop) : Prop := K (jup (jup σ 14 2 (0 : Int32)) 14 4 (0 : Int32))
abbrev rm_Cr_reopen : Room := { frames := 0, cells := 0, slots := 0, locals := 0 }
set_option maxRecDepth 100000 in
set_option maxHeartbeats 4000000 in
theorem c_Cr_reopen (l : Launch) (D : va_G) (ca ad : Nat → Nat) (sz : Nat) (hD : Jd ca ad sz) {σ : Jst} {K : Jst → Prop} (hw : w_Cr_reopen σ K) : Met l y_Cr_reopen (wG y_Cr_reopen b_Cr_reopen 1 none) rm_Cr_reopen (va_Pc [.ref (ad 14)] (Jw D vwCl (tysT ca) (wlT ad ca) (NwT sz) σ)) (va_Qv K (Jq D vwCl (wlT ad ca)) (Aw sz)) 0 0 (Aw sz) := by
  refine j_met (cc := b_Cr_reopen) (own := R_Cr) (by decide +kernel) rfl (Nat.le_of_ble_eq_true rfl) rfl hD (nwT_k sz) ?_
  intro p e s m args below meth c X hlk hr
  have hX : J p l e rm_Cr_reopen s m args below meth c D vwCl (wlT ad ca) (Aw sz) 1 0 0 (MQ below (va_Qv K (Jq D vwCl (wlT ad ca)) (Aw sz)) args s 0 0 (Aw sz)) 0 [(0, .ref (ad 14))] [] σ := by
    unfold w_Cr_reopen at hw
    refine j_aload_n X d_Cr_reopen_0 rfl 0 rfl ?_
    refine j_iconst X (v := (0 : Int32)) d_Cr_reopen_1 (by decide) ?_
    refine p_14_2 X f_Cr_15 d_Cr_reopen_2 ?_
    refine j_aload_n X d_Cr_reopen_5 rfl 0 rfl ?_
    refine j_iconst X (v := (0 : Int32)) d_Cr_reopen_6 (by decide) ?_
    refine p_14_4 X f_Cr_36 rfl rfl d_Cr_reopen_7 ?_
    exact j_vret X hlk hr d_Cr_reopen_10 hw
  exact hX
def w_Ma_floorMod (a1 : Int32) (a2 : Int32) (σ : Jst) (K : Int32 → Jst → Prop) : Prop := (¬ a2 = (0 : Int32) ∧ (((0 : Int32) ≤ (a1 ^^^ a2) → K (a1 - a1 / a2 * a2) σ) ∧ (¬ (0 : Int32) ≤ (a1 ^^^ a2) → (((a1 - a1 / a2 * a2) = (0 : Int32) → K (a1 - a1 / a2 * a2) σ) ∧ (¬ (a1 - a1 / a2 * a2) = (0 : Int32) → K ((a1 - a1 / a2 * a2) + a2) σ)))))
abbrev rm_Ma_floorMod : Room := { frames := 0, cells := 0, slots := 0, locals := 0 }
set_option maxRecDepth 100000 in
set_option maxHeartbeats 4000000 in
theorem c_Ma_floorMod (l : Launch) (D : va_G) (ca ad : Nat → Nat) (sz : Nat) (hD : Jd ca ad sz) {a1 a2 : Int32} {σ : Jst} {K : Int32 → Jst → Prop} (hw : w_Ma_floorMod a1 a2 σ K) : Met l y_Ma_floorMod (wG y_Ma_floorMod b_Ma_floorMod 3 (some .int)) rm_Ma_floorMod (va_Pc [.int a1, .int a2] (Jw D vwCl (tysT ca) (wlT ad ca) (NwT sz) σ)) (va_Qi K (Jq D vwCl (wlT ad ca)) (Aw sz)) 0 0 (Aw sz) := by
  refine j_metF (cc := b_Ma_floorMod) (own := R_Ma) (by decide +kernel) rfl (Nat.le_of_ble_eq_true rfl) rfl hD (nwT_k sz) ?_
  intro p e s m args below meth c X hlk hr
  have hX : J p l e rm_Ma_floorMod s m args below meth c D vwCl (wlT ad ca) (Aw sz) 3 0 0 (MQ below (va_Qi K (Jq D vwCl (wlT ad ca)) (Aw sz)) args s 0 0 (Aw sz)) 0 [(0, .int a1), (1, .int a2)] [] σ := by
    unfold w_Ma_floorMod at hw
    refine j_iload_n X d_Ma_floorMod_0 rfl 0 rfl ?_
    refine j_iload_n X d_Ma_floorMod_1 rfl 1 rfl ?_
    refine j_irem X d_Ma_floorMod_2 hw.1 ?_
    have hw := hw.2
    refine j_istore_n X d_Ma_floorMod_3 rfl (by decide) rfl ?_
    refine j_iload_n X d_Ma_floorMod_4 rfl 1 rfl ?_
    refine j_iload_n X d_Ma_floorMod_5 rfl 2 rfl ?_
    refine j_ixor X d_Ma_floorMod_6 ?_
    refine j_if_ge X d_Ma_floorMod_7 (tgt := 18) (by decide) (fun h => ?_) (fun h => ?_)
    · have hw := hw.1 h
      refine j_iload_n X d_Ma_floorMod_18 rfl 0 rfl ?_
      exact j_iret X hlk hr d_Ma_floorMod_19 hw
    · have hw := hw.2 h
      refine j_iload_n X d_Ma_floorMod_10 rfl 0 rfl ?_
      refine j_if_eq X d_Ma_floorMod_11 (tgt := 18) (by decide) (fun h => ?_) (fun h => ?_)
      · have hw := hw.1 h
        refine j_iload_n X d_Ma_floorMod_18 rfl 0 rfl ?_
        exact j_iret X hlk hr d_Ma_floorMod_19 hw
      · have hw := hw.2 h
        refine j_iload_n X d_Ma_floorMod_14 rfl 0 rfl ?_
        refine j_iload_n X d_Ma_floorMod_15 rfl 2 rfl ?_
        refine j_iadd X d_Ma_floorMod_16 ?_
        exact j_iret X hlk hr d_Ma_floorMod_17 hw
  exact hX
def w_T_distance (a1 : Int32) (a2 : Int32) (σ : Jst) (K : Int32 → Jst → Prop) : Prop := w_Ma_floorMod (a2 - a1) (16 : Int32) σ (fun r2 u1 => K r2 u1)
abbrev rm_T_distance : Room := { frames := 1, cells := 0, slots := 0, locals := 22 }
set_option maxRecDepth 100000 in
set_option maxHeartbeats 4000000 in
theorem c_T_distance (l : Launch) (D : va_G) (ca ad : Nat → Nat) (sz : Nat) (hD : Jd ca ad sz) {a1 a2 : Int32} {σ : Jst} {K : Int32 → Jst → Prop} (hw : w_T_distance a1 a2 σ K) : Met l y_T_distance (wG y_T_distance b_T_distance 2 (some .int)) rm_T_distance (va_Pc [.int a1, .int a2] (Jw D vwCl (tysT ca) (wlT ad ca) (NwT sz) σ)) (va_Qi K (Jq D vwCl (wlT ad ca)) (Aw sz)) 0 0 (Aw sz) := by
  refine j_met (cc := b_T_distance) (own := R_T) (by decide +kernel) rfl (Nat.le_of_ble_eq_true rfl) rfl hD (nwT_k sz) ?_
  intro p e s m args below meth c X hlk hr
  have hX : J p l e rm_T_distance s m args below meth c D vwCl (wlT ad ca) (Aw sz) 2 0 0 (MQ below (va_Qi K (Jq D vwCl (wlT ad ca)) (Aw sz)) args s 0 0 (Aw sz)) 0 [(0, .int a1), (1, .int a2)] [] σ := by
    unfold w_T_distance at hw
    refine j_iload_n X d_T_distance_0 rfl 1 rfl ?_
    refine j_iload_n X d_T_distance_1 rfl 0 rfl ?_
    refine j_isub X d_T_distance_2 ?_
    refine j_bipush X (v := (16 : Int32)) d_T_distance_3 (by decide) ?_
    refine j_callSi (As := [.int (a2 - a1), .int (16 : Int32)]) X (c_Ma_floorMod l D ca ad sz hD hw) (gcS (n := 2) X rfl rfl rfl gc_Ma_floorMod m_Ma_floorMod l_T_217 (by decide +kernel) ⟨by decide, by decide⟩) (fun _ h => h) rfl rfl (Nat.le_of_ble_eq_true rfl) ⟨by decide, by decide⟩ d_T_distance_5 (fun r2 u1 hw => ?_)
    exact j_iret X hlk hr d_T_distance_8 hw
  exact hX
def w_T_following (a1 : Int32) (σ : Jst) (K : Int32 → Jst → Prop) : Prop := K ((a1 + (1 : Int32)) - (a1 + (1 : Int32)) / (16 : Int32) * (16 : Int32)) σ
abbrev rm_T_following : Room := { frames := 0, cells := 0, slots := 0, locals := 0 }
set_option maxRecDepth 100000 in
set_option maxHeartbeats 4000000 in
theorem c_T_following (l : Launch) (D : va_G) (ca ad : Nat → Nat) (sz : Nat) (hD : Jd ca ad sz) {a1 : Int32} {σ : Jst} {K : Int32 → Jst → Prop} (hw : w_T_following a1 σ K) : Met l y_T_following (wG y_T_following b_T_following 1 (some .int)) rm_T_following (va_Pc [.int a1] (Jw D vwCl (tysT ca) (wlT ad ca) (NwT sz) σ)) (va_Qi K (Jq D vwCl (wlT ad ca)) (Aw sz)) 0 0 (Aw sz) := by
  refine j_met (cc := b_T_following) (own := R_T) (by decide +kernel) rfl (Nat.le_of_ble_eq_true rfl) rfl hD (nwT_k sz) ?_
  intro p e s m args below meth c X hlk hr
  have hX : J p l e rm_T_following s m args below meth c D vwCl (wlT ad ca) (Aw sz) 1 0 0 (MQ below (va_Qi K (Jq D vwCl (wlT ad ca)) (Aw sz)) args s 0 0 (Aw sz)) 0 [(0, .int a1)] [] σ := by
    unfold w_T_following at hw
    refine j_iload_n X d_T_following_0 rfl 0 rfl ?_
    refine j_iconst X (v := (1 : Int32)) d_T_following_1 (by decide) ?_
    refine j_iadd X d_T_following_2 ?_
    refine j_bipush X (v := (16 : Int32)) d_T_following_3 (by decide) ?_
    refine j_irem X d_T_following_5 (by decide) ?_
    exact j_iret X hlk hr d_T_following_6 hw
  exact hX
def w_Cr_receiveExpected (a1 : Int32) (σ : Jst) (K : Jst → Prop) : Prop := (((3 : Int32) ≤ (σ 14 1) → K (jup (jup σ 14 4 (1 : Int32)) 14 2 (1 : Int32))) ∧ (¬ (3 : Int32) ≤ (σ 14 1) → (vp_in (σ 14 1) 3 ∧ w_T_following (σ 14 3) (jup (jup σ 15 (Int32.toNatClampNeg (σ 14 1)) a1) 14 1 ((σ 14 1) + (1 : Int32))) (fun r2 u1 => K (jup (jup u1 14 3 r2) 14 4 (0 : Int32))))))
abbrev rm_Cr_receiveExpected : Room := { frames := 1, cells := 0, slots := 0, locals := 20 }
set_option maxRecDepth 100000 in
set_option maxHeartbeats 4000000 in
theorem c_Cr_receiveExpected (l : Launch) (D : va_G) (ca ad : Nat → Nat) (sz : Nat) (hD : Jd ca ad sz) {a1 : Int32} {σ : Jst} {K : Jst → Prop} (hw : w_Cr_receiveExpected a1 σ K) : Met l y_Cr_receiveExpected (wG y_Cr_receiveExpected b_Cr_receiveExpected 2 none) rm_Cr_receiveExpected (va_Pc [.ref (ad 14), .int a1] (Jw D vwCl (tysT ca) (wlT ad ca) (NwT sz) σ)) (va_Qv K (Jq D vwCl (wlT ad ca)) (Aw sz)) 0 0 (Aw sz) := by
  refine j_met (cc := b_Cr_receiveExpected) (own := R_Cr) (by decide +kernel) rfl (Nat.le_of_ble_eq_true rfl) rfl hD (nwT_k sz) ?_
  intro p e s m args below meth c X hlk hr
  have hX : J p l e rm_Cr_receiveExpected s m args below meth c D vwCl (wlT ad ca) (Aw sz) 2 0 0 (MQ below (va_Qv K (Jq D vwCl (wlT ad ca)) (Aw sz)) args s 0 0 (Aw sz)) 0 [(0, .ref (ad 14)), (1, .int a1)] [] σ := by
    unfold w_Cr_receiveExpected at hw
    refine j_aload_n X d_Cr_receiveExpected_0 rfl 0 rfl ?_
    refine g_14_1 X f_Cr_19 (v := (σ 14 1)) rfl d_Cr_receiveExpected_1 ?_
    refine j_iconst X (v := (3 : Int32)) d_Cr_receiveExpected_4 (by decide) ?_
    refine j_icmp_ge X d_Cr_receiveExpected_5 (tgt := 47) (by decide) (fun h => ?_) (fun h => ?_)
    · have hw := hw.1 h
      refine j_aload_n X d_Cr_receiveExpected_47 rfl 0 rfl ?_
      refine j_iconst X (v := (1 : Int32)) d_Cr_receiveExpected_48 (by decide) ?_
      refine p_14_4 X f_Cr_36 rfl rfl d_Cr_receiveExpected_49 ?_
      refine j_aload_n X d_Cr_receiveExpected_52 rfl 0 rfl ?_
      refine j_iconst X (v := (1 : Int32)) d_Cr_receiveExpected_53 (by decide) ?_
      refine p_14_2 X f_Cr_15 d_Cr_receiveExpected_54 ?_
      exact j_vret X hlk hr d_Cr_receiveExpected_57 hw
    · have hw := hw.2 h
      refine j_aload_n X d_Cr_receiveExpected_8 rfl 0 rfl ?_
      refine g_14_0 X f_Cr_11 d_Cr_receiveExpected_9 ?_
      refine j_aload_n X d_Cr_receiveExpected_12 rfl 0 rfl ?_
      refine g_14_1 X f_Cr_19 (v := (σ 14 1)) rfl d_Cr_receiveExpected_13 ?_
      refine j_iload_n X d_Cr_receiveExpected_16 rfl 1 rfl ?_
      refine sr_15 X hw.1 d_Cr_receiveExpected_17 ?_
      have hw := hw.2
      refine j_aload_n X d_Cr_receiveExpected_18 rfl 0 rfl ?_
      refine j_dup X d_Cr_receiveExpected_19 rfl ?_
      refine g_14_1 X f_Cr_19 (v := (σ 14 1)) rfl d_Cr_receiveExpected_20 ?_
      refine j_iconst X (v := (1 : Int32)) d_Cr_receiveExpected_23 (by decide) ?_
      refine j_iadd X d_Cr_receiveExpected_24 ?_
      refine p_14_1 X f_Cr_19 d_Cr_receiveExpected_25 ?_
      refine j_aload_n X d_Cr_receiveExpected_28 rfl 0 rfl ?_
      refine j_aload_n X d_Cr_receiveExpected_29 rfl 0 rfl ?_
      refine g_14_3 X f_Cr_22 (v := (σ 14 3)) rfl d_Cr_receiveExpected_30 ?_
      refine j_callSNi (As := [.int (σ 14 3)]) X (c_T_following l D ca ad sz hD hw) (gcSN (n := 1) X rfl rfl rfl gc_T_following m_T_following (n_Cr_44 sz) (by decide +kernel) ⟨by decide, by decide⟩) (fun _ h => h) rfl rfl (Nat.le_of_ble_eq_true rfl) ⟨by decide, by decide⟩ d_Cr_receiveExpected_33 (fun r2 u1 hw => ?_)
      refine p_14_3 X f_Cr_22 d_Cr_receiveExpected_36 ?_
      refine j_aload_n X d_Cr_receiveExpected_39 rfl 0 rfl ?_
      refine j_iconst X (v := (0 : Int32)) d_Cr_receiveExpected_40 (by decide) ?_
      refine p_14_4 X f_Cr_36 rfl rfl d_Cr_receiveExpected_41 ?_
      refine j_goto X d_Cr_receiveExpected_44 (tgt := 57) (by decide) ?_
      exact j_vret X hlk hr d_Cr_receiveExpected_57 hw
  exact hX
def w_Cr_receiveCommand (a1 : Int32) (a2 : Int32) (σ : Jst) (K : Jst → Prop) : Prop := ((a1 ≤ (4 : Int32) → ((¬ (σ 14 2) = (0 : Int32) → K σ) ∧ ((σ 14 2) = (0 : Int32) → ((a1 ≤ (0 : Int32) → w_Cr_receiveExpected a2 σ (fun u1 => K u1)) ∧ (¬ a1 ≤ (0 : Int32) → K (jup σ 14 4 (1 : Int32))))))) ∧ (¬ a1 ≤ (4 : Int32) → (((10 : Int32) < a1 → K σ) ∧ (¬ (10 : Int32) < a1 → K (jup σ 14 2 (2 : Int32))))))
abbrev rm_Cr_receiveCommand : Room := { frames := 2, cells := 0, slots := 0, locals := 41 }
set_option maxRecDepth 100000 in
set_option maxHeartbeats 4000000 in
theorem c_Cr_receiveCommand (l : Launch) (D : va_G) (ca ad : Nat → Nat) (sz : Nat) (hD : Jd ca ad sz) {a1 a2 : Int32} {σ : Jst} {K : Jst → Prop} (hw : w_Cr_receiveCommand a1 a2 σ K) : Met l y_Cr_receiveCommand (wG y_Cr_receiveCommand b_Cr_receiveCommand 3 none) rm_Cr_receiveCommand (va_Pc [.ref (ad 14), .int a1, .int a2] (Jw D vwCl (tysT ca) (wlT ad ca) (NwT sz) σ)) (va_Qv K (Jq D vwCl (wlT ad ca)) (Aw sz)) 0 0 (Aw sz) := by
  refine j_met (cc := b_Cr_receiveCommand) (own := R_Cr) (by decide +kernel) rfl (Nat.le_of_ble_eq_true rfl) rfl hD (nwT_k sz) ?_
  intro p e s m args below meth c X hlk hr
  have hX : J p l e rm_Cr_receiveCommand s m args below meth c D vwCl (wlT ad ca) (Aw sz) 3 0 0 (MQ below (va_Qv K (Jq D vwCl (wlT ad ca)) (Aw sz)) args s 0 0 (Aw sz)) 0 [(0, .ref (ad 14)), (1, .int a1), (2, .int a2)] [] σ := by
    unfold w_Cr_receiveCommand at hw
    refine j_iload_n X d_Cr_receiveCommand_0 rfl 1 rfl ?_
    refine j_iconst X (v := (4 : Int32)) d_Cr_receiveCommand_1 (by decide) ?_
    refine j_icmp_le X d_Cr_receiveCommand_2 (tgt := 19) (by decide) (fun h => ?_) (fun h => ?_)
    · have hw := hw.1 h
      refine j_aload_n X d_Cr_receiveCommand_19 rfl 0 rfl ?_
      refine g_14_2 X f_Cr_15 (v := (σ 14 2)) rfl d_Cr_receiveCommand_20 ?_
      refine j_if_ne X d_Cr_receiveCommand_23 (tgt := 43) (by decide) (fun h => ?_) (fun h => ?_)
      · have hw := hw.1 h
        exact j_vret X hlk hr d_Cr_receiveCommand_43 hw
      · have hw := hw.2 h
        refine j_iload_n X d_Cr_receiveCommand_26 rfl 1 rfl ?_
        refine j_if_le X d_Cr_receiveCommand_27 (tgt := 38) (by decide) (fun h => ?_) (fun h => ?_)
        · have hw := hw.1 h
          refine j_aload_n X d_Cr_receiveCommand_38 rfl 0 rfl ?_
          refine j_iload_n X d_Cr_receiveCommand_39 rfl 2 rfl ?_
          refine j_callVv (As := [.int a2]) X (c_Cr_receiveExpected l D ca ad sz hD hw) (gcV (n := 1) X rfl rfl rfl gc_Cr_receiveExpected m_Cr_receiveExpected l_Cr_40 (by decide +kernel) ⟨by decide, by decide⟩) (q0 := 14) rfl rfl (fun _ h => h) rfl rfl (Nat.le_of_ble_eq_true rfl) ⟨by decide, by decide⟩ d_Cr_receiveCommand_40 (fun u1 hw => ?_)
          exact j_vret X hlk hr d_Cr_receiveCommand_43 hw
        · have hw := hw.2 h
          refine j_aload_n X d_Cr_receiveCommand_30 rfl 0 rfl ?_
          refine j_iconst X (v := (1 : Int32)) d_Cr_receiveCommand_31 (by decide) ?_
          refine p_14_4 X f_Cr_36 rfl rfl d_Cr_receiveCommand_32 ?_
          refine j_goto X d_Cr_receiveCommand_35 (tgt := 43) (by decide) ?_
          exact j_vret X hlk hr d_Cr_receiveCommand_43 hw
    · have hw := hw.2 h
      refine j_iload_n X d_Cr_receiveCommand_5 rfl 1 rfl ?_
      refine j_bipush X (v := (10 : Int32)) d_Cr_receiveCommand_6 (by decide) ?_
      refine j_icmp_gt X d_Cr_receiveCommand_8 (tgt := 43) (by decide) (fun h => ?_) (fun h => ?_)
      · have hw := hw.1 h
        exact j_vret X hlk hr d_Cr_receiveCommand_43 hw
      · have hw := hw.2 h
        refine j_aload_n X d_Cr_receiveCommand_11 rfl 0 rfl ?_
        refine j_iconst X (v := (2 : Int32)) d_Cr_receiveCommand_12 (by decide) ?_
        refine p_14_2 X f_Cr_15 d_Cr_receiveCommand_13 ?_
        refine j_goto X d_Cr_receiveCommand_16 (tgt := 43) (by decide) ?_
        exact j_vret X hlk hr d_Cr_receiveCommand_43 hw
  exact hX
def w_Cr_receive (a1 : Int32) (a2 : Int32) (a3 : Int32) (σ : Jst) (K : Jst → Prop) : Prop := ((¬ a1 = (0 : Int32) → ((¬ a1 = (1 : Int32) → (((σ 14 2) = (2 : Int32) → K σ) ∧ (¬ (σ 14 2) = (2 : Int32) → w_Cr_reopen (jup σ 14 3 a2) (fun u1 => K u1)))) ∧ (a1 = (1 : Int32) → w_Cr_reopen σ (fun u2 => K u2)))) ∧ (a1 = (0 : Int32) → w_T_distance (σ 14 3) a2 σ (fun r4 u3 => w_Cr_receiveCommand r4 a3 u3 (fun u5 => K u5))))
abbrev rm_Cr_receive : Room := { frames := 3, cells := 0, slots := 0, locals := 63 }
set_option maxRecDepth 100000 in
set_option maxHeartbeats 4000000 in
theorem c_Cr_receive (l : Launch) (D : va_G) (ca ad : Nat → Nat) (sz : Nat) (hD : Jd ca ad sz) {a1 a2 a3 : Int32} {σ : Jst} {K : Jst → Prop} (hw : w_Cr_receive a1 a2 a3 σ K) : Met l y_Cr_receive (wG y_Cr_receive b_Cr_receive 4 none) rm_Cr_receive (va_Pc [.ref (ad 14), .int a1, .int a2, .int a3] (Jw D vwCl (tysT ca) (wlT ad ca) (NwT sz) σ)) (va_Qv K (Jq D vwCl (wlT ad ca)) (Aw sz)) 0 0 (Aw sz) := by
  refine j_met (cc := b_Cr_receive) (own := R_Cr) (by decide +kernel) rfl (Nat.le_of_ble_eq_true rfl) rfl hD (nwT_k sz) ?_
  intro p e s m args below meth c X hlk hr
  have hX : J p l e rm_Cr_receive s m args below meth c D vwCl (wlT ad ca) (Aw sz) 4 0 0 (MQ below (va_Qv K (Jq D vwCl (wlT ad ca)) (Aw sz)) args s 0 0 (Aw sz)) 0 [(0, .ref (ad 14)), (1, .int a1), (2, .int a2), (3, .int a3)] [] σ := by
    unfold w_Cr_receive at hw
    refine j_iload_n X d_Cr_receive_0 rfl 1 rfl ?_
    refine j_if_ne X d_Cr_receive_1 (tgt := 20) (by decide) (fun h => ?_) (fun h => ?_)
    · have hw := hw.1 h
      refine j_iload_n X d_Cr_receive_20 rfl 1 rfl ?_
      refine j_iconst X (v := (1 : Int32)) d_Cr_receive_21 (by decide) ?_
      refine j_icmp_ne X d_Cr_receive_22 (tgt := 32) (by decide) (fun h => ?_) (fun h => ?_)
      · have hw := hw.1 h
        refine j_aload_n X d_Cr_receive_32 rfl 0 rfl ?_
        refine g_14_2 X f_Cr_15 (v := (σ 14 2)) rfl d_Cr_receive_33 ?_
        refine j_iconst X (v := (2 : Int32)) d_Cr_receive_36 (by decide) ?_
        refine j_icmp_eq X d_Cr_receive_37 (tgt := 49) (by decide) (fun h => ?_) (fun h => ?_)
        · have hw := hw.1 h
          exact j_vret X hlk hr d_Cr_receive_49 hw
        · have hw := hw.2 h
          refine j_aload_n X d_Cr_receive_40 rfl 0 rfl ?_
          refine j_iload_n X d_Cr_receive_41 rfl 2 rfl ?_
          refine p_14_3 X f_Cr_22 d_Cr_receive_42 ?_
          refine j_aload_n X d_Cr_receive_45 rfl 0 rfl ?_
          refine j_callVv (As := []) X (c_Cr_reopen l D ca ad sz hD hw) (gcV (n := 0) X rfl rfl rfl gc_Cr_reopen m_Cr_reopen l_Cr_33 (by decide +kernel) ⟨by decide, by decide⟩) (q0 := 14) rfl rfl (fun _ h => h) rfl rfl (Nat.le_of_ble_eq_true rfl) ⟨by decide, by decide⟩ d_Cr_receive_46 (fun u1 hw => ?_)
          exact j_vret X hlk hr d_Cr_receive_49 hw
      · have hw := hw.2 h
        refine j_aload_n X d_Cr_receive_25 rfl 0 rfl ?_
        refine j_callVv (As := []) X (c_Cr_reopen l D ca ad sz hD hw) (gcV (n := 0) X rfl rfl rfl gc_Cr_reopen m_Cr_reopen l_Cr_33 (by decide +kernel) ⟨by decide, by decide⟩) (q0 := 14) rfl rfl (fun _ h => h) rfl rfl (Nat.le_of_ble_eq_true rfl) ⟨by decide, by decide⟩ d_Cr_receive_26 (fun u2 hw => ?_)
        refine j_goto X d_Cr_receive_29 (tgt := 49) (by decide) ?_
        exact j_vret X hlk hr d_Cr_receive_49 hw
    · have hw := hw.2 h
      refine j_aload_n X d_Cr_receive_4 rfl 0 rfl ?_
      refine j_aload_n X d_Cr_receive_5 rfl 0 rfl ?_
      refine g_14_3 X f_Cr_22 (v := (σ 14 3)) rfl d_Cr_receive_6 ?_
      refine j_iload_n X d_Cr_receive_9 rfl 2 rfl ?_
      refine j_callSNi (As := [.int (σ 14 3), .int a2]) X (c_T_distance l D ca ad sz hD hw) (gcSN (n := 2) X rfl rfl rfl gc_T_distance m_T_distance (n_Cr_25 sz) (by decide +kernel) ⟨by decide, by decide⟩) (fun _ h => h) rfl rfl (Nat.le_of_ble_eq_true rfl) ⟨by decide, by decide⟩ d_Cr_receive_10 (fun r4 u3 hw => ?_)
      refine j_iload_n X d_Cr_receive_13 rfl 3 rfl ?_
      refine j_callVv (As := [.int r4, .int a3]) X (c_Cr_receiveCommand l D ca ad sz hD hw) (gcV (n := 2) X rfl rfl rfl gc_Cr_receiveCommand m_Cr_receiveCommand l_Cr_29 (by decide +kernel) ⟨by decide, by decide⟩) (q0 := 14) rfl rfl (fun _ h => h) rfl rfl (Nat.le_of_ble_eq_true rfl) ⟨by decide, by decide⟩ d_Cr_receive_14 (fun u5 hw => ?_)
      refine j_goto X d_Cr_receive_17 (tgt := 49) (by decide) ?_
      exact j_vret X hlk hr d_Cr_receive_49 hw
  exact hX
def w_Cr_tell (a1 : Int32) (σ : Jst) (K : Int32 → Jst → Prop) : Prop := ((a1 = (0 : Int32) → K (σ 14 2) σ) ∧ ((a1 = (1 : Int32) → K (σ 14 3) σ) ∧ ((a1 = (2 : Int32) → (((σ 14 4) = (0 : Int32) → K (0 : Int32) σ) ∧ (¬ (σ 14 4) = (0 : Int32) → K (1 : Int32) σ))) ∧ ((Int32.toInt a1 < 0 ∨ 2 < Int32.toInt a1) → K (σ 14 1) σ))))
abbrev rm_Cr_tell : Room := { frames := 0, cells := 0, slots := 0, locals := 0 }
set_option maxRecDepth 100000 in
set_option maxHeartbeats 4000000 in
theorem c_Cr_tell (l : Launch) (D : va_G) (ca ad : Nat → Nat) (sz : Nat) (hD : Jd ca ad sz) {a1 : Int32} {σ : Jst} {K : Int32 → Jst → Prop} (hw : w_Cr_tell a1 σ K) : Met l y_Cr_tell (wG y_Cr_tell b_Cr_tell 2 (some .int)) rm_Cr_tell (va_Pc [.ref (ad 14), .int a1] (Jw D vwCl (tysT ca) (wlT ad ca) (NwT sz) σ)) (va_Qi K (Jq D vwCl (wlT ad ca)) (Aw sz)) 0 0 (Aw sz) := by
  refine j_met (cc := b_Cr_tell) (own := R_Cr) (by decide +kernel) rfl (Nat.le_of_ble_eq_true rfl) rfl hD (nwT_k sz) ?_
  intro p e s m args below meth c X hlk hr
  have hX : J p l e rm_Cr_tell s m args below meth c D vwCl (wlT ad ca) (Aw sz) 2 0 0 (MQ below (va_Qi K (Jq D vwCl (wlT ad ca)) (Aw sz)) args s 0 0 (Aw sz)) 0 [(0, .ref (ad 14)), (1, .int a1)] [] σ := by
    unfold w_Cr_tell at hw
    refine j_iload_n X d_Cr_tell_0 rfl 1 rfl ?_
    by_cases h0 : a1 = (0 : Int32)
    · refine j_tin X d_Cr_tell_1 (0 : Int32) h0 (by decide) (by decide) (off := 27) (by decide) (tgt := 28) (by decide) ?_
      have hw := hw.1 h0
      refine j_aload_n X d_Cr_tell_28 rfl 0 rfl ?_
      refine g_14_2 X f_Cr_15 (v := (σ 14 2)) rfl d_Cr_tell_29 ?_
      exact j_iret X hlk hr d_Cr_tell_32 hw
    have hw := hw.2
    by_cases h1 : a1 = (1 : Int32)
    · refine j_tin X d_Cr_tell_1 (1 : Int32) h1 (by decide) (by decide) (off := 32) (by decide) (tgt := 33) (by decide) ?_
      have hw := hw.1 h1
      refine j_aload_n X d_Cr_tell_33 rfl 0 rfl ?_
      refine g_14_3 X f_Cr_22 (v := (σ 14 3)) rfl d_Cr_tell_34 ?_
      exact j_iret X hlk hr d_Cr_tell_37 hw
    have hw := hw.2
    by_cases h2 : a1 = (2 : Int32)
    · refine j_tin X d_Cr_tell_1 (2 : Int32) h2 (by decide) (by decide) (off := 37) (by decide) (tgt := 38) (by decide) ?_
      have hw := hw.1 h2
      refine j_aload_n X d_Cr_tell_38 rfl 0 rfl ?_
      refine g_14_4 X f_Cr_36 (v := (σ 14 4)) rfl d_Cr_tell_39 ?_
      refine j_if_eq X d_Cr_tell_42 (tgt := 49) (by decide) (fun h => ?_) (fun h => ?_)
      · have hw := hw.1 h
        refine j_iconst X (v := (0 : Int32)) d_Cr_tell_49 (by decide) ?_
        exact j_iret X hlk hr d_Cr_tell_50 hw
      · have hw := hw.2 h
        refine j_iconst X (v := (1 : Int32)) d_Cr_tell_45 (by decide) ?_
        refine j_goto X d_Cr_tell_46 (tgt := 50) (by decide) ?_
        exact j_iret X hlk hr d_Cr_tell_50 hw
    have hw := hw.2
    have ho : Int32.toInt a1 < 0 ∨ 2 < Int32.toInt a1 := by
      have eh0 := lv_neT h0 (a := 0) (by decide)
      have eh1 := lv_neT h1 (a := 1) (by decide)
      have eh2 := lv_neT h2 (a := 2) (by decide)
      omega
    refine j_tout X d_Cr_tell_1 ho (tgt := 51) (by decide) ?_
    have hw := hw ho
    refine j_aload_n X d_Cr_tell_51 rfl 0 rfl ?_
    refine g_14_1 X f_Cr_19 (v := (σ 14 1)) rfl d_Cr_tell_52 ?_
    exact j_iret X hlk hr d_Cr_tell_55 hw
  exact hX
