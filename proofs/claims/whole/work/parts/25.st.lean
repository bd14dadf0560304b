def w_St_size_18 (σ : Jst) (K : Int32 → Jst → Prop) : Prop := K (σ 18 2) σ
abbrev rm_St_size_18 : Room := { frames := 0, cells := 0, slots := 0, locals := 0 }
set_option maxRecDepth 100000 in
set_option maxHeartbeats 4000000 in
theorem c_St_size_18 (l : Launch) (D : va_G) (ca ad : Nat → Nat) (sz : Nat) (hD : Jd ca ad sz) {σ : Jst} {K : Int32 → Jst → Prop} (hw : w_St_size_18 σ K) : Met l y_St_size (wG y_St_size b_St_size 1 (some .int)) rm_St_size_18 (va_Pc [.ref (ad 18)] (Jw D vwCl (tysT ca) (wlT ad ca) (NwT sz) σ)) (va_Qi K (Jq D vwCl (wlT ad ca)) (Aw sz)) 0 0 (Aw sz) := by
  refine j_met (cc := b_St_size) (own := R_St) (by decide +kernel) rfl (Nat.le_of_ble_eq_true rfl) rfl hD (nwT_k sz) ?_
  intro p e s m args below meth c X hlk hr
  have hX : J p l e rm_St_size_18 s m args below meth c D vwCl (wlT ad ca) (Aw sz) 1 0 0 (MQ below (va_Qi K (Jq D vwCl (wlT ad ca)) (Aw sz)) args s 0 0 (Aw sz)) 0 [(0, .ref (ad 18))] [] σ := by
    unfold w_St_size_18 at hw
    refine j_aload_n X d_St_size_0 rfl 0 rfl ?_
    refine g_18_2 X f_St_19 (v := (σ 18 2)) rfl d_St_size_1 ?_
    exact j_iret X hlk hr d_St_size_4 hw
  exact hX
def w_St_put_18 (a1 : Int32) (a2 : Int32) (σ : Jst) (K : Jst → Prop) : Prop := (((60 : Int32) ≤ (σ 18 2) → K σ) ∧ (¬ (60 : Int32) ≤ (σ 18 2) → (vp_in (σ 18 2) 60 ∧ (vp_in (σ 18 2) 60 ∧ K (jup (jup (jup σ 19 (Int32.toNatClampNeg (σ 18 2)) a1) 20 (Int32.toNatClampNeg (σ 18 2)) (vp_nar .boolean a2)) 18 2 ((σ 18 2) + (1 : Int32)))))))
abbrev rm_St_put_18 : Room := { frames := 0, cells := 0, slots := 0, locals := 0 }
set_option maxRecDepth 100000 in
set_option maxHeartbeats 4000000 in
theorem c_St_put_18 (l : Launch) (D : va_G) (ca ad : Nat → Nat) (sz : Nat) (hD : Jd ca ad sz) {a1 a2 : Int32} {σ : Jst} {K : Jst → Prop} (hw : w_St_put_18 a1 a2 σ K) : Met l y_St_put (wG y_St_put b_St_put 3 none) rm_St_put_18 (va_Pc [.ref (ad 18), .int a1, .int a2] (Jw D vwCl (tysT ca) (wlT ad ca) (NwT sz) σ)) (va_Qv K (Jq D vwCl (wlT ad ca)) (Aw sz)) 0 0 (Aw sz) := by
  refine j_met (cc := b_St_put) (own := R_St) (by decide +kernel) rfl (Nat.le_of_ble_eq_true rfl) rfl hD (nwT_k sz) ?_
  intro p e s m args below meth c X hlk hr
  have hX : J p l e rm_St_put_18 s m args below meth c D vwCl (wlT ad ca) (Aw sz) 3 0 0 (MQ below (va_Qv K (Jq D vwCl (wlT ad ca)) (Aw sz)) args s 0 0 (Aw sz)) 0 [(0, .ref (ad 18)), (1, .int a1), (2, .int a2)] [] σ := by
    unfold w_St_put_18 at hw
    refine j_aload_n X d_St_put_0 rfl 0 rfl ?_
    refine g_18_2 X f_St_19 (v := (σ 18 2)) rfl d_St_put_1 ?_
    refine j_bipush X (v := (60 : Int32)) d_St_put_4 (by decide) ?_
    refine j_icmp_ge X d_St_put_6 (tgt := 39) (by decide) (fun h => ?_) (fun h => ?_)
    · have hw := hw.1 h
      exact j_vret X hlk hr d_St_put_39 hw
    · have hw := hw.2 h
      refine j_aload_n X d_St_put_9 rfl 0 rfl ?_
      refine g_18_0 X f_St_11 d_St_put_10 ?_
      refine j_aload_n X d_St_put_13 rfl 0 rfl ?_
      refine g_18_2 X f_St_19 (v := (σ 18 2)) rfl d_St_put_14 ?_
      refine j_iload_n X d_St_put_17 rfl 1 rfl ?_
      refine sr_19 X hw.1 d_St_put_18 ?_
      have hw := hw.2
      refine j_aload_n X d_St_put_19 rfl 0 rfl ?_
      refine g_18_1 X f_St_15 d_St_put_20 ?_
      refine j_aload_n X d_St_put_23 rfl 0 rfl ?_
      refine g_18_2 X f_St_19 (v := (σ 18 2)) rfl d_St_put_24 ?_
      refine j_iload_n X d_St_put_27 rfl 2 rfl ?_
      refine sr_20 X hw.1 d_St_put_28 ?_
      have hw := hw.2
      refine j_aload_n X d_St_put_29 rfl 0 rfl ?_
      refine j_dup X d_St_put_30 rfl ?_
      refine g_18_2 X f_St_19 (v := (σ 18 2)) rfl d_St_put_31 ?_
      refine j_iconst X (v := (1 : Int32)) d_St_put_34 (by decide) ?_
      refine j_iadd X d_St_put_35 ?_
      refine p_18_2 X f_St_19 d_St_put_36 ?_
      exact j_vret X hlk hr d_St_put_39 hw
  exact hX
def w_St_writeHead_18 (a1 : Int32) (a2 : Int32) (σ : Jst) (K : Jst → Prop) : Prop := w_St_put_18 a1 (1 : Int32) σ (fun u1 => w_St_put_18 a2 (0 : Int32) u1 (fun u2 => K u2))
abbrev rm_St_writeHead_18 : Room := { frames := 1, cells := 0, slots := 0, locals := 22 }
set_option maxRecDepth 100000 in
set_option maxHeartbeats 4000000 in
theorem c_St_writeHead_18 (l : Launch) (D : va_G) (ca ad : Nat → Nat) (sz : Nat) (hD : Jd ca ad sz) {a1 a2 : Int32} {σ : Jst} {K : Jst → Prop} (hw : w_St_writeHead_18 a1 a2 σ K) : Met l y_St_writeHead (wG y_St_writeHead b_St_writeHead 3 none) rm_St_writeHead_18 (va_Pc [.ref (ad 18), .int a1, .int a2] (Jw D vwCl (tysT ca) (wlT ad ca) (NwT sz) σ)) (va_Qv K (Jq D vwCl (wlT ad ca)) (Aw sz)) 0 0 (Aw sz) := by
  refine j_met (cc := b_St_writeHead) (own := R_St) (by decide +kernel) rfl (Nat.le_of_ble_eq_true rfl) rfl hD (nwT_k sz) ?_
  intro p e s m args below meth c X hlk hr
  have hX : J p l e rm_St_writeHead_18 s m args below meth c D vwCl (wlT ad ca) (Aw sz) 3 0 0 (MQ below (va_Qv K (Jq D vwCl (wlT ad ca)) (Aw sz)) args s 0 0 (Aw sz)) 0 [(0, .ref (ad 18)), (1, .int a1), (2, .int a2)] [] σ := by
    unfold w_St_writeHead_18 at hw
    refine j_aload_n X d_St_writeHead_0 rfl 0 rfl ?_
    refine j_iload_n X d_St_writeHead_1 rfl 1 rfl ?_
    refine j_iconst X (v := (1 : Int32)) d_St_writeHead_2 (by decide) ?_
    refine j_callVv (As := [.int a1, .int (1 : Int32)]) X (c_St_put_18 l D ca ad sz hD hw) (gcV (n := 2) X rfl rfl rfl gc_St_put m_St_put l_St_27 (by decide +kernel) ⟨by decide, by decide⟩) (q0 := 18) rfl rfl (fun _ h => h) rfl rfl (Nat.le_of_ble_eq_true rfl) ⟨by decide, by decide⟩ d_St_writeHead_3 (fun u1 hw => ?_)
    refine j_aload_n X d_St_writeHead_6 rfl 0 rfl ?_
    refine j_iload_n X d_St_writeHead_7 rfl 2 rfl ?_
    refine j_iconst X (v := (0 : Int32)) d_St_writeHead_8 (by decide) ?_
    refine j_callVv (As := [.int a2, .int (0 : Int32)]) X (c_St_put_18 l D ca ad sz hD hw) (gcV (n := 2) X rfl rfl rfl gc_St_put m_St_put l_St_27 (by decide +kernel) ⟨by decide, by decide⟩) (q0 := 18) rfl rfl (fun _ h => h) rfl rfl (Nat.le_of_ble_eq_true rfl) ⟨by decide, by decide⟩ d_St_writeHead_9 (fun u2 hw => ?_)
    exact j_vret X hlk hr d_St_writeHead_12 hw
  exact hX
def w_St_write_18_L23 (K : Int32 → Jst → Prop) : Nat → Int32 → Int32 → Int32 → Jst → Prop
  | 0, _, _, _, _ => False
  | n + 1, v1, v2, v3, s23 => ((v2 ≤ v3 → K (1 : Int32) s23) ∧ (¬ v2 ≤ v3 → w_St_put_18 ((v1 * (7 : Int32)) + v3) (0 : Int32) s23 (fun u1 => w_St_write_18_L23 K n v1 v2 (v3 + (1 : Int32)) u1)))
def w_St_write_18 (a1 : Int32) (a2 : Int32) (σ : Jst) (K : Int32 → Jst → Prop) : Prop := (((((σ 18 2) + (2 : Int32)) + a2) ≤ (60 : Int32) → w_St_writeHead_18 a1 a2 σ (fun u1 => (∃ n, w_St_write_18_L23 K n a1 a2 (0 : Int32) u1))) ∧ (¬ (((σ 18 2) + (2 : Int32)) + a2) ≤ (60 : Int32) → K (0 : Int32) σ))
abbrev rm_St_write_18 : Room := { frames := 2, cells := 0, slots := 0, locals := 44 }
set_option maxRecDepth 100000 in
set_option maxHeartbeats 4000000 in
theorem c_St_write_18 (l : Launch) (D : va_G) (ca ad : Nat → Nat) (sz : Nat) (hD : Jd ca ad sz) {a1 a2 : Int32} {σ : Jst} {K : Int32 → Jst → Prop} (hw : w_St_write_18 a1 a2 σ K) : Met l y_St_write (wG y_St_write b_St_write 4 (some .boolean)) rm_St_write_18 (va_Pc [.ref (ad 18), .int a1, .int a2] (Jw D vwCl (tysT ca) (wlT ad ca) (NwT sz) σ)) (va_Qi K (Jq D vwCl (wlT ad ca)) (Aw sz)) 0 0 (Aw sz) := by
  refine j_met (cc := b_St_write) (own := R_St) (by decide +kernel) rfl (Nat.le_of_ble_eq_true rfl) rfl hD (nwT_k sz) ?_
  intro p e s m args below meth c X hlk hr
  have hX : J p l e rm_St_write_18 s m args below meth c D vwCl (wlT ad ca) (Aw sz) 4 0 0 (MQ below (va_Qi K (Jq D vwCl (wlT ad ca)) (Aw sz)) args s 0 0 (Aw sz)) 0 [(0, .ref (ad 18)), (1, .int a1), (2, .int a2)] [] σ := by
    unfold w_St_write_18 at hw
    refine j_aload_n X d_St_write_0 rfl 0 rfl ?_
    refine g_18_2 X f_St_19 (v := (σ 18 2)) rfl d_St_write_1 ?_
    refine j_iconst X (v := (2 : Int32)) d_St_write_4 (by decide) ?_
    refine j_iadd X d_St_write_5 ?_
    refine j_iload_n X d_St_write_6 rfl 2 rfl ?_
    refine j_iadd X d_St_write_7 ?_
    refine j_bipush X (v := (60 : Int32)) d_St_write_8 (by decide) ?_
    refine j_icmp_le X d_St_write_10 (tgt := 15) (by decide) (fun h => ?_) (fun h => ?_)
    · have hw := hw.1 h
      refine j_aload_n X d_St_write_15 rfl 0 rfl ?_
      refine j_iload_n X d_St_write_16 rfl 1 rfl ?_
      refine j_iload_n X d_St_write_17 rfl 2 rfl ?_
      refine j_callVv (As := [.int a1, .int a2]) X (c_St_writeHead_18 l D ca ad sz hD hw) (gcV (n := 2) X rfl rfl rfl gc_St_writeHead m_St_writeHead l_St_23 (by decide +kernel) ⟨by decide, by decide⟩) (q0 := 18) rfl rfl (fun _ h => h) rfl rfl (Nat.le_of_ble_eq_true rfl) ⟨by decide, by decide⟩ d_St_write_18 (fun u1 hw => ?_)
      refine j_iconst X (v := (0 : Int32)) d_St_write_21 (by decide) ?_
      refine j_istore_n X d_St_write_22 rfl (by decide) rfl ?_
      have lp23 : ∀ (n : Nat) (v1 v2 v3 : Int32) (s23 : Jst), w_St_write_18_L23 K n v1 v2 v3 s23 → J p l e rm_St_write_18 s m args below meth c D vwCl (wlT ad ca) (Aw sz) 4 0 0 (MQ below (va_Qi K (Jq D vwCl (wlT ad ca)) (Aw sz)) args s 0 0 (Aw sz)) 23 [(0, .ref (ad 18)), (1, .int v1), (2, .int v2), (3, .int v3)] [] s23 := by
        intro n
        induction n with
        | zero => intro v1 v2 v3 s23 hw; exact (show False from hw).elim
        | succ n ih23 =>
          intro v1 v2 v3 s23 hw
          rw [w_St_write_18_L23] at hw
          refine j_iload_n X d_St_write_23 rfl 3 rfl ?_
          refine j_iload_n X d_St_write_24 rfl 2 rfl ?_
          refine j_icmp_ge X d_St_write_25 (tgt := 45) (by decide) (fun h => ?_) (fun h => ?_)
          · have hw := hw.1 h
            refine j_iconst X (v := (1 : Int32)) d_St_write_45 (by decide) ?_
            exact j_zret X hlk hr rfl d_St_write_46 hw
          · have hw := hw.2 h
            refine j_aload_n X d_St_write_28 rfl 0 rfl ?_
            refine j_iload_n X d_St_write_29 rfl 1 rfl ?_
            refine j_bipush X (v := (7 : Int32)) d_St_write_30 (by decide) ?_
            refine j_imul X d_St_write_32 ?_
            refine j_iload_n X d_St_write_33 rfl 3 rfl ?_
            refine j_iadd X d_St_write_34 ?_
            refine j_iconst X (v := (0 : Int32)) d_St_write_35 (by decide) ?_
            refine j_callVv (As := [.int ((v1 * (7 : Int32)) + v3), .int (0 : Int32)]) X (c_St_put_18 l D ca ad sz hD hw) (gcV (n := 2) X rfl rfl rfl gc_St_put m_St_put l_St_27 (by decide +kernel) ⟨by decide, by decide⟩) (q0 := 18) rfl rfl (fun _ h => h) rfl rfl (Nat.le_of_ble_eq_true rfl) ⟨by decide, by decide⟩ d_St_write_36 (fun u1 hw => ?_)
            refine j_iinc X (v := (1 : Int32)) d_St_write_39 3 rfl (by decide) (by decide) rfl ?_
            refine j_goto X d_St_write_42 (tgt := 23) (by decide) ?_
            refine j_locs [1, 2, 3, 0] rfl ?_
            exact ih23 _ _ _ _ hw
      obtain ⟨n, hw⟩ := hw
      refine j_locs [1, 2, 3, 0] rfl ?_
      exact lp23 n _ _ _ _ hw
    · have hw := hw.2 h
      refine j_iconst X (v := (0 : Int32)) d_St_write_13 (by decide) ?_
      exact j_zret X hlk hr rfl d_St_write_14 hw
  exact hX
def w_St_removeFrame_18_L3 (K : Jst → Prop) : Nat → Int32 → Jst → Prop
  | 0, _, _ => False
  | n + 1, v1, s3 => (((s3 18 2) ≤ v1 → K (jup s3 18 2 ((s3 18 2) - (6 : Int32)))) ∧ (¬ (s3 18 2) ≤ v1 → (vp_in v1 60 ∧ (vp_in (v1 - (6 : Int32)) 60 ∧ (vp_in v1 60 ∧ (vp_in (v1 - (6 : Int32)) 60 ∧ w_St_removeFrame_18_L3 K n (v1 + (1 : Int32)) (jup (jup s3 19 (Int32.toNatClampNeg (v1 - (6 : Int32))) (s3 19 (Int32.toNatClampNeg v1))) 20 (Int32.toNatClampNeg (v1 - (6 : Int32))) (vp_nar .boolean (s3 20 (Int32.toNatClampNeg v1))))))))))
def w_St_removeFrame_18 (σ : Jst) (K : Jst → Prop) : Prop := (∃ n, w_St_removeFrame_18_L3 K n (6 : Int32) σ)
abbrev rm_St_removeFrame_18 : Room := { frames := 0, cells := 0, slots := 0, locals := 0 }
set_option maxRecDepth 100000 in
set_option maxHeartbeats 4000000 in
theorem c_St_removeFrame_18 (l : Launch) (D : va_G) (ca ad : Nat → Nat) (sz : Nat) (hD : Jd ca ad sz) {σ : Jst} {K : Jst → Prop} (hw : w_St_removeFrame_18 σ K) : Met l y_St_removeFrame (wG y_St_removeFrame b_St_removeFrame 2 none) rm_St_removeFrame_18 (va_Pc [.ref (ad 18)] (Jw D vwCl (tysT ca) (wlT ad ca) (NwT sz) σ)) (va_Qv K (Jq D vwCl (wlT ad ca)) (Aw sz)) 0 0 (Aw sz) := by
  refine j_met (cc := b_St_removeFrame) (own := R_St) (by decide +kernel) rfl (Nat.le_of_ble_eq_true rfl) rfl hD (nwT_k sz) ?_
  intro p e s m args below meth c X hlk hr
  have hX : J p l e rm_St_removeFrame_18 s m args below meth c D vwCl (wlT ad ca) (Aw sz) 2 0 0 (MQ below (va_Qv K (Jq D vwCl (wlT ad ca)) (Aw sz)) args s 0 0 (Aw sz)) 0 [(0, .ref (ad 18))] [] σ := by
    unfold w_St_removeFrame_18 at hw
    refine j_bipush X (v := (6 : Int32)) d_St_removeFrame_0 (by decide) ?_
    refine j_istore_n X d_St_removeFrame_2 rfl (by decide) rfl ?_
    have lp3 : ∀ (n : Nat) (v1 : Int32) (s3 : Jst), w_St_removeFrame_18_L3 K n v1 s3 → J p l e rm_St_removeFrame_18 s m args below meth c D vwCl (wlT ad ca) (Aw sz) 2 0 0 (MQ below (va_Qv K (Jq D vwCl (wlT ad ca)) (Aw sz)) args s 0 0 (Aw sz)) 3 [(0, .ref (ad 18)), (1, .int v1)] [] s3 := by
      intro n
      induction n with
      | zero => intro v1 s3 hw; exact (show False from hw).elim
      | succ n ih3 =>
        intro v1 s3 hw
        rw [w_St_removeFrame_18_L3] at hw
        refine j_iload_n X d_St_removeFrame_3 rfl 1 rfl ?_
        refine j_aload_n X d_St_removeFrame_4 rfl 0 rfl ?_
        refine g_18_2 X f_St_19 (v := (s3 18 2)) rfl d_St_removeFrame_5 ?_
        refine j_icmp_ge X d_St_removeFrame_8 (tgt := 47) (by decide) (fun h => ?_) (fun h => ?_)
        · have hw := hw.1 h
          refine j_aload_n X d_St_removeFrame_47 rfl 0 rfl ?_
          refine j_dup X d_St_removeFrame_48 rfl ?_
          refine g_18_2 X f_St_19 (v := (s3 18 2)) rfl d_St_removeFrame_49 ?_
          refine j_bipush X (v := (6 : Int32)) d_St_removeFrame_52 (by decide) ?_
          refine j_isub X d_St_removeFrame_54 ?_
          refine p_18_2 X f_St_19 d_St_removeFrame_55 ?_
          exact j_vret X hlk hr d_St_removeFrame_58 hw
        · have hw := hw.2 h
          refine j_aload_n X d_St_removeFrame_11 rfl 0 rfl ?_
          refine g_18_0 X f_St_11 d_St_removeFrame_12 ?_
          refine j_iload_n X d_St_removeFrame_15 rfl 1 rfl ?_
          refine j_bipush X (v := (6 : Int32)) d_St_removeFrame_16 (by decide) ?_
          refine j_isub X d_St_removeFrame_18 ?_
          refine j_aload_n X d_St_removeFrame_19 rfl 0 rfl ?_
          refine g_18_0 X f_St_11 d_St_removeFrame_20 ?_
          refine j_iload_n X d_St_removeFrame_23 rfl 1 rfl ?_
          refine ld_19 X hw.1 (v := (s3 19 (Int32.toNatClampNeg v1))) rfl d_St_removeFrame_24 ?_
          have hw := hw.2
          refine sr_19 X hw.1 d_St_removeFrame_25 ?_
          have hw := hw.2
          refine j_aload_n X d_St_removeFrame_26 rfl 0 rfl ?_
          refine g_18_1 X f_St_15 d_St_removeFrame_27 ?_
          refine j_iload_n X d_St_removeFrame_30 rfl 1 rfl ?_
          refine j_bipush X (v := (6 : Int32)) d_St_removeFrame_31 (by decide) ?_
          refine j_isub X d_St_removeFrame_33 ?_
          refine j_aload_n X d_St_removeFrame_34 rfl 0 rfl ?_
          refine g_18_1 X f_St_15 d_St_removeFrame_35 ?_
          refine j_iload_n X d_St_removeFrame_38 rfl 1 rfl ?_
          refine ld_20 X hw.1 (v := (s3 20 (Int32.toNatClampNeg v1))) rfl d_St_removeFrame_39 ?_
          have hw := hw.2
          refine sr_20 X hw.1 d_St_removeFrame_40 ?_
          have hw := hw.2
          refine j_iinc X (v := (1 : Int32)) d_St_removeFrame_41 1 rfl (by decide) (by decide) rfl ?_
          refine j_goto X d_St_removeFrame_44 (tgt := 3) (by decide) ?_
          refine j_locs [1, 0] rfl ?_
          exact ih3 _ _ hw
    obtain ⟨n, hw⟩ := hw
    refine j_locs [1, 0] rfl ?_
    exact lp3 n _ _ hw
  exact hX
def w_Ma_max (a1 : Int32) (a2 : Int32) (σ : Jst) (K : Int32 → Jst → Prop) : Prop := ((a1 < a2 → K a2 σ) ∧ (¬ a1 < a2 → K a1 σ))
abbrev rm_Ma_max : Room := { frames := 0, cells := 0, slots := 0, locals := 0 }
set_option maxRecDepth 100000 in
set_option maxHeartbeats 4000000 in
theorem c_Ma_max (l : Launch) (D : va_G) (ca ad : Nat → Nat) (sz : Nat) (hD : Jd ca ad sz) {a1 a2 : Int32} {σ : Jst} {K : Int32 → Jst → Prop} (hw : w_Ma_max a1 a2 σ K) : Met l y_Ma_max (wG y_Ma_max b_Ma_max 2 (some .int)) rm_Ma_max (va_Pc [.int a1, .int a2] (Jw D vwCl (tysT ca) (wlT ad ca) (NwT sz) σ)) (va_Qi K (Jq D vwCl (wlT ad ca)) (Aw sz)) 0 0 (Aw sz) := by
  refine j_metF (cc := b_Ma_max) (own := R_Ma) (by decide +kernel) rfl (Nat.le_of_ble_eq_true rfl) rfl hD (nwT_k sz) ?_
  intro p e s m args below meth c X hlk hr
  have hX : J p l e rm_Ma_max s m args below meth c D vwCl (wlT ad ca) (Aw sz) 2 0 0 (MQ below (va_Qi K (Jq D vwCl (wlT ad ca)) (Aw sz)) args s 0 0 (Aw sz)) 0 [(0, .int a1), (1, .int a2)] [] σ := by
    unfold w_Ma_max at hw
    refine j_iload_n X d_Ma_max_0 rfl 0 rfl ?_
    refine j_iload_n X d_Ma_max_1 rfl 1 rfl ?_
    refine j_icmp_lt X d_Ma_max_2 (tgt := 9) (by decide) (fun h => ?_) (fun h => ?_)
    · have hw := hw.1 h
      refine j_iload_n X d_Ma_max_9 rfl 1 rfl ?_
      exact j_iret X hlk hr d_Ma_max_10 hw
    · have hw := hw.2 h
      refine j_iload_n X d_Ma_max_5 rfl 0 rfl ?_
      refine j_goto X d_Ma_max_6 (tgt := 10) (by decide) ?_
      exact j_iret X hlk hr d_Ma_max_10 hw
  exact hX
def w_St_writeIdle_18_L19 (K : Jst → Prop) : Nat → Int32 → Int32 → Jst → Prop
  | 0, _, _, _ => False
  | n + 1, v1, v2, s19 => ((v1 ≤ v2 → K s19) ∧ (¬ v1 ≤ v2 → w_St_put_18 (0 : Int32) (0 : Int32) s19 (fun u1 => w_St_writeIdle_18_L19 K n v1 (v2 + (1 : Int32)) u1)))
def w_St_writeIdle_18 (σ : Jst) (K : Jst → Prop) : Prop := w_Ma_max (0 : Int32) ((4 : Int32) - (σ 18 2)) σ (fun r2 u1 => w_St_writeHead_18 (0 : Int32) r2 u1 (fun u3 => (∃ n, w_St_writeIdle_18_L19 K n r2 (0 : Int32) u3)))
abbrev rm_St_writeIdle_18 : Room := { frames := 2, cells := 0, slots := 0, locals := 44 }
set_option maxRecDepth 100000 in
set_option maxHeartbeats 4000000 in
theorem c_St_writeIdle_18 (l : Launch) (D : va_G) (ca ad : Nat → Nat) (sz : Nat) (hD : Jd ca ad sz) {σ : Jst} {K : Jst → Prop} (hw : w_St_writeIdle_18 σ K) : Met l y_St_writeIdle (wG y_St_writeIdle b_St_writeIdle 3 none) rm_St_writeIdle_18 (va_Pc [.ref (ad 18)] (Jw D vwCl (tysT ca) (wlT ad ca) (NwT sz) σ)) (va_Qv K (Jq D vwCl (wlT ad ca)) (Aw sz)) 0 0 (Aw sz) := by
  refine j_met (cc := b_St_writeIdle) (own := R_St) (by decide +kernel) rfl (Nat.le_of_ble_eq_true rfl) rfl hD (nwT_k sz) ?_
  intro p e s m args below meth c X hlk hr
  have hX : J p l e rm_St_writeIdle_18 s m args below meth c D vwCl (wlT ad ca) (Aw sz) 3 0 0 (MQ below (va_Qv K (Jq D vwCl (wlT ad ca)) (Aw sz)) args s 0 0 (Aw sz)) 0 [(0, .ref (ad 18))] [] σ := by
    unfold w_St_writeIdle_18 at hw
    refine j_iconst X (v := (0 : Int32)) d_St_writeIdle_0 (by decide) ?_
    refine j_iconst X (v := (4 : Int32)) d_St_writeIdle_1 (by decide) ?_
    refine j_aload_n X d_St_writeIdle_2 rfl 0 rfl ?_
    refine g_18_2 X f_St_19 (v := (σ 18 2)) rfl d_St_writeIdle_3 ?_
    refine j_isub X d_St_writeIdle_6 ?_
    refine j_callSi (As := [.int (0 : Int32), .int ((4 : Int32) - (σ 18 2))]) X (c_Ma_max l D ca ad sz hD hw) (gcS (n := 2) X rfl rfl rfl gc_Ma_max m_Ma_max l_St_51 (by decide +kernel) ⟨by decide, by decide⟩) (fun _ h => h) rfl rfl (Nat.le_of_ble_eq_true rfl) ⟨by decide, by decide⟩ d_St_writeIdle_7 (fun r2 u1 hw => ?_)
    refine j_istore_n X d_St_writeIdle_10 rfl (by decide) rfl ?_
    refine j_aload_n X d_St_writeIdle_11 rfl 1 rfl ?_
    refine j_iconst X (v := (0 : Int32)) d_St_writeIdle_12 (by decide) ?_
    refine j_iload_n X d_St_writeIdle_13 rfl 0 rfl ?_
    refine j_callVv (As := [.int (0 : Int32), .int r2]) X (c_St_writeHead_18 l D ca ad sz hD hw) (gcV (n := 2) X rfl rfl rfl gc_St_writeHead m_St_writeHead l_St_23 (by decide +kernel) ⟨by decide, by decide⟩) (q0 := 18) rfl rfl (fun _ h => h) rfl rfl (Nat.le_of_ble_eq_true rfl) ⟨by decide, by decide⟩ d_St_writeIdle_14 (fun u3 hw => ?_)
    refine j_iconst X (v := (0 : Int32)) d_St_writeIdle_17 (by decide) ?_
    refine j_istore_n X d_St_writeIdle_18 rfl (by decide) rfl ?_
    have lp19 : ∀ (n : Nat) (v1 v2 : Int32) (s19 : Jst), w_St_writeIdle_18_L19 K n v1 v2 s19 → J p l e rm_St_writeIdle_18 s m args below meth c D vwCl (wlT ad ca) (Aw sz) 3 0 0 (MQ below (va_Qv K (Jq D vwCl (wlT ad ca)) (Aw sz)) args s 0 0 (Aw sz)) 19 [(0, .ref (ad 18)), (1, .int v1), (2, .int v2)] [] s19 := by
      intro n
      induction n with
      | zero => intro v1 v2 s19 hw; exact (show False from hw).elim
      | succ n ih19 =>
        intro v1 v2 s19 hw
        rw [w_St_writeIdle_18_L19] at hw
        refine j_iload_n X d_St_writeIdle_19 rfl 2 rfl ?_
        refine j_iload_n X d_St_writeIdle_20 rfl 1 rfl ?_
        refine j_icmp_ge X d_St_writeIdle_21 (tgt := 36) (by decide) (fun h => ?_) (fun h => ?_)
        · have hw := hw.1 h
          exact j_vret X hlk hr d_St_writeIdle_36 hw
        · have hw := hw.2 h
          refine j_aload_n X d_St_writeIdle_24 rfl 0 rfl ?_
          refine j_iconst X (v := (0 : Int32)) d_St_writeIdle_25 (by decide) ?_
          refine j_iconst X (v := (0 : Int32)) d_St_writeIdle_26 (by decide) ?_
          refine j_callVv (As := [.int (0 : Int32), .int (0 : Int32)]) X (c_St_put_18 l D ca ad sz hD hw) (gcV (n := 2) X rfl rfl rfl gc_St_put m_St_put l_St_27 (by decide +kernel) ⟨by decide, by decide⟩) (q0 := 18) rfl rfl (fun _ h => h) rfl rfl (Nat.le_of_ble_eq_true rfl) ⟨by decide, by decide⟩ d_St_writeIdle_27 (fun u1 hw => ?_)
          refine j_iinc X (v := (1 : Int32)) d_St_writeIdle_30 2 rfl (by decide) (by decide) rfl ?_
          refine j_goto X d_St_writeIdle_33 (tgt := 19) (by decide) ?_
          refine j_locs [1, 2, 0] rfl ?_
          exact ih19 _ _ _ hw
    obtain ⟨n, hw⟩ := hw
    refine j_locs [2, 1, 0] rfl ?_
    exact lp19 n _ _ _ hw
  exact hX
def w_St_fill_18_L29 (K : Jst → Prop) : Nat → Int32 → Jst → Prop
  | 0, _, _ => False
  | n + 1, v2, s29 => ((v2 < (0 : Int32) → w_T_following (s29 18 3) s29 (fun r2 u1 => w_St_removeFrame_18 (jup u1 18 3 r2) (fun u3 => K u3))) ∧ (¬ v2 < (0 : Int32) → (vp_in v2 60 ∧ (vp_in v2 6 ∧ (vp_in v2 60 ∧ (((s29 20 (Int32.toNatClampNeg v2)) = (0 : Int32) → w_St_fill_18_L29 K n (v2 + (-1 : Int32)) (jup s29 27 (Int32.toNatClampNeg v2) (s29 19 (Int32.toNatClampNeg v2)))) ∧ (¬ (s29 20 (Int32.toNatClampNeg v2)) = (0 : Int32) → w_St_fill_18_L29 K n (v2 + (-1 : Int32)) (jup (jup s29 27 (Int32.toNatClampNeg v2) (s29 19 (Int32.toNatClampNeg v2))) 26 2 v2))))))))
def w_St_fill_18 (σ : Jst) (K : Jst → Prop) : Prop := (((6 : Int32) ≤ (σ 18 2) → (∃ n, w_St_fill_18_L29 K n (5 : Int32) (jup (jup σ 26 1 (σ 18 3)) 26 2 (6 : Int32)))) ∧ (¬ (6 : Int32) ≤ (σ 18 2) → w_St_writeIdle_18 σ (fun u1 => (∃ n, w_St_fill_18_L29 K n (5 : Int32) (jup (jup u1 26 1 (u1 18 3)) 26 2 (6 : Int32))))))
abbrev rm_St_fill_18 : Room := { frames := 3, cells := 0, slots := 0, locals := 66 }
set_option maxRecDepth 100000 in
set_option maxHeartbeats 4000000 in
theorem c_St_fill_18 (l : Launch) (D : va_G) (ca ad : Nat → Nat) (sz : Nat) (hD : Jd ca ad sz) {σ : Jst} {K : Jst → Prop} (hw : w_St_fill_18 σ K) : Met l y_St_fill (wG y_St_fill b_St_fill 3 none) rm_St_fill_18 (va_Pc [.ref (ad 18), .ref (ad 26)] (Jw D vwCl (tysT ca) (wlT ad ca) (NwT sz) σ)) (va_Qv K (Jq D vwCl (wlT ad ca)) (Aw sz)) 0 0 (Aw sz) := by
  refine j_met (cc := b_St_fill) (own := R_St) (by decide +kernel) rfl (Nat.le_of_ble_eq_true rfl) rfl hD (nwT_k sz) ?_
  intro p e s m args below meth c X hlk hr
  have hX : J p l e rm_St_fill_18 s m args below meth c D vwCl (wlT ad ca) (Aw sz) 3 0 0 (MQ below (va_Qv K (Jq D vwCl (wlT ad ca)) (Aw sz)) args s 0 0 (Aw sz)) 0 [(0, .ref (ad 18)), (1, .ref (ad 26))] [] σ := by
    unfold w_St_fill_18 at hw
    refine j_aload_n X d_St_fill_0 rfl 0 rfl ?_
    refine g_18_2 X f_St_19 (v := (σ 18 2)) rfl d_St_fill_1 ?_
    refine j_bipush X (v := (6 : Int32)) d_St_fill_4 (by decide) ?_
    refine j_icmp_ge X d_St_fill_6 (tgt := 13) (by decide) (fun h => ?_) (fun h => ?_)
    · have hw := hw.1 h
      refine j_aload_n X d_St_fill_13 rfl 1 rfl ?_
      refine j_aload_n X d_St_fill_14 rfl 0 rfl ?_
      refine g_18_3 X f_St_34 (v := (σ 18 3)) rfl d_St_fill_15 ?_
      refine pN_26_1 X (n_St_37 sz) d_St_fill_18 ?_
      refine j_aload_n X d_St_fill_21 rfl 1 rfl ?_
      refine j_bipush X (v := (6 : Int32)) d_St_fill_22 (by decide) ?_
      refine pN_26_2 X (n_St_40 sz) d_St_fill_24 ?_
      refine j_iconst X (v := (5 : Int32)) d_St_fill_27 (by decide) ?_
      refine j_istore_n X d_St_fill_28 rfl (by decide) rfl ?_
      have lp29 : ∀ (n : Nat) (v2 : Int32) (s29 : Jst), w_St_fill_18_L29 K n v2 s29 → J p l e rm_St_fill_18 s m args below meth c D vwCl (wlT ad ca) (Aw sz) 3 0 0 (MQ below (va_Qv K (Jq D vwCl (wlT ad ca)) (Aw sz)) args s 0 0 (Aw sz)) 29 [(0, .ref (ad 18)), (1, .ref (ad 26)), (2, .int v2)] [] s29 := by
        intro n
        induction n with
        | zero => intro v2 s29 hw; exact (show False from hw).elim
        | succ n ih29 =>
          intro v2 s29 hw
          rw [w_St_fill_18_L29] at hw
          refine j_iload_n X d_St_fill_29 rfl 2 rfl ?_
          refine j_if_lt X d_St_fill_30 (tgt := 65) (by decide) (fun h => ?_) (fun h => ?_)
          · have hw := hw.1 h
            refine j_aload_n X d_St_fill_65 rfl 0 rfl ?_
            refine j_aload_n X d_St_fill_66 rfl 0 rfl ?_
            refine g_18_3 X f_St_34 (v := (s29 18 3)) rfl d_St_fill_67 ?_
            refine j_callSNi (As := [.int (s29 18 3)]) X (c_T_following l D ca ad sz hD hw) (gcSN (n := 1) X rfl rfl rfl gc_T_following m_T_following (n_St_44 sz) (by decide +kernel) ⟨by decide, by decide⟩) (fun _ h => h) rfl rfl (Nat.le_of_ble_eq_true rfl) ⟨by decide, by decide⟩ d_St_fill_70 (fun r2 u1 hw => ?_)
            refine p_18_3 X f_St_34 d_St_fill_73 ?_
            refine j_aload_n X d_St_fill_76 rfl 0 rfl ?_
            refine j_callVv (As := []) X (c_St_removeFrame_18 l D ca ad sz hD hw) (gcV (n := 0) X rfl rfl rfl gc_St_removeFrame m_St_removeFrame l_St_48 (by decide +kernel) ⟨by decide, by decide⟩) (q0 := 18) rfl rfl (fun _ h => h) rfl rfl (Nat.le_of_ble_eq_true rfl) ⟨by decide, by decide⟩ d_St_fill_77 (fun u3 hw => ?_)
            exact j_vret X hlk hr d_St_fill_80 hw
          · have hw := hw.2 h
            refine j_aload_n X d_St_fill_33 rfl 1 rfl ?_
            refine gN_26_0 X (n_St_43 sz) d_St_fill_34 ?_
            refine j_iload_n X d_St_fill_37 rfl 2 rfl ?_
            refine j_aload_n X d_St_fill_38 rfl 0 rfl ?_
            refine g_18_0 X f_St_11 d_St_fill_39 ?_
            refine j_iload_n X d_St_fill_42 rfl 2 rfl ?_
            refine ld_19 X hw.1 (v := (s29 19 (Int32.toNatClampNeg v2))) rfl d_St_fill_43 ?_
            have hw := hw.2
            refine sr_27 X hw.1 d_St_fill_44 ?_
            have hw := hw.2
            refine j_aload_n X d_St_fill_45 rfl 0 rfl ?_
            refine g_18_1 X f_St_15 d_St_fill_46 ?_
            refine j_iload_n X d_St_fill_49 rfl 2 rfl ?_
            refine ld_20 X hw.1 (v := (s29 20 (Int32.toNatClampNeg v2))) rfl d_St_fill_50 ?_
            have hw := hw.2
            refine j_if_eq X d_St_fill_51 (tgt := 59) (by decide) (fun h => ?_) (fun h => ?_)
            · have hw := hw.1 h
              refine j_iinc X (v := (-1 : Int32)) d_St_fill_59 2 rfl (by decide) (by decide) rfl ?_
              refine j_goto X d_St_fill_62 (tgt := 29) (by decide) ?_
              refine j_locs [1, 2, 0] rfl ?_
              exact ih29 _ _ hw
            · have hw := hw.2 h
              refine j_aload_n X d_St_fill_54 rfl 1 rfl ?_
              refine j_iload_n X d_St_fill_55 rfl 2 rfl ?_
              refine pN_26_2 X (n_St_40 sz) d_St_fill_56 ?_
              refine j_iinc X (v := (-1 : Int32)) d_St_fill_59 2 rfl (by decide) (by decide) rfl ?_
              refine j_goto X d_St_fill_62 (tgt := 29) (by decide) ?_
              refine j_locs [1, 2, 0] rfl ?_
              exact ih29 _ _ hw
      obtain ⟨n, hw⟩ := hw
      refine j_locs [1, 2, 0] rfl ?_
      exact lp29 n _ _ hw
    · have hw := hw.2 h
      refine j_aload_n X d_St_fill_9 rfl 0 rfl ?_
      refine j_callVv (As := []) X (c_St_writeIdle_18 l D ca ad sz hD hw) (gcV (n := 0) X rfl rfl rfl gc_St_writeIdle m_St_writeIdle l_St_31 (by decide +kernel) ⟨by decide, by decide⟩) (q0 := 18) rfl rfl (fun _ h => h) rfl rfl (Nat.le_of_ble_eq_true rfl) ⟨by decide, by decide⟩ d_St_fill_10 (fun u1 hw => ?_)
      refine j_aload_n X d_St_fill_13 rfl 1 rfl ?_
      refine j_aload_n X d_St_fill_14 rfl 0 rfl ?_
      refine g_18_3 X f_St_34 (v := (u1 18 3)) rfl d_St_fill_15 ?_
      refine pN_26_1 X (n_St_37 sz) d_St_fill_18 ?_
      refine j_aload_n X d_St_fill_21 rfl 1 rfl ?_
      refine j_bipush X (v := (6 : Int32)) d_St_fill_22 (by decide) ?_
      refine pN_26_2 X (n_St_40 sz) d_St_fill_24 ?_
      refine j_iconst X (v := (5 : Int32)) d_St_fill_27 (by decide) ?_
      refine j_istore_n X d_St_fill_28 rfl (by decide) rfl ?_
      have lp29 : ∀ (n : Nat) (v2 : Int32) (s29 : Jst), w_St_fill_18_L29 K n v2 s29 → J p l e rm_St_fill_18 s m args below meth c D vwCl (wlT ad ca) (Aw sz) 3 0 0 (MQ below (va_Qv K (Jq D vwCl (wlT ad ca)) (Aw sz)) args s 0 0 (Aw sz)) 29 [(0, .ref (ad 18)), (1, .ref (ad 26)), (2, .int v2)] [] s29 := by
        intro n
        induction n with
        | zero => intro v2 s29 hw; exact (show False from hw).elim
        | succ n ih29 =>
          intro v2 s29 hw
          rw [w_St_fill_18_L29] at hw
          refine j_iload_n X d_St_fill_29 rfl 2 rfl ?_
          refine j_if_lt X d_St_fill_30 (tgt := 65) (by decide) (fun h => ?_) (fun h => ?_)
          · have hw := hw.1 h
            refine j_aload_n X d_St_fill_65 rfl 0 rfl ?_
            refine j_aload_n X d_St_fill_66 rfl 0 rfl ?_
            refine g_18_3 X f_St_34 (v := (s29 18 3)) rfl d_St_fill_67 ?_
            refine j_callSNi (As := [.int (s29 18 3)]) X (c_T_following l D ca ad sz hD hw) (gcSN (n := 1) X rfl rfl rfl gc_T_following m_T_following (n_St_44 sz) (by decide +kernel) ⟨by decide, by decide⟩) (fun _ h => h) rfl rfl (Nat.le_of_ble_eq_true rfl) ⟨by decide, by decide⟩ d_St_fill_70 (fun r2 u1 hw => ?_)
            refine p_18_3 X f_St_34 d_St_fill_73 ?_
            refine j_aload_n X d_St_fill_76 rfl 0 rfl ?_
            refine j_callVv (As := []) X (c_St_removeFrame_18 l D ca ad sz hD hw) (gcV (n := 0) X rfl rfl rfl gc_St_removeFrame m_St_removeFrame l_St_48 (by decide +kernel) ⟨by decide, by decide⟩) (q0 := 18) rfl rfl (fun _ h => h) rfl rfl (Nat.le_of_ble_eq_true rfl) ⟨by decide, by decide⟩ d_St_fill_77 (fun u3 hw => ?_)
            exact j_vret X hlk hr d_St_fill_80 hw
          · have hw := hw.2 h
            refine j_aload_n X d_St_fill_33 rfl 1 rfl ?_
            refine gN_26_0 X (n_St_43 sz) d_St_fill_34 ?_
            refine j_iload_n X d_St_fill_37 rfl 2 rfl ?_
            refine j_aload_n X d_St_fill_38 rfl 0 rfl ?_
            refine g_18_0 X f_St_11 d_St_fill_39 ?_
            refine j_iload_n X d_St_fill_42 rfl 2 rfl ?_
            refine ld_19 X hw.1 (v := (s29 19 (Int32.toNatClampNeg v2))) rfl d_St_fill_43 ?_
            have hw := hw.2
            refine sr_27 X hw.1 d_St_fill_44 ?_
            have hw := hw.2
            refine j_aload_n X d_St_fill_45 rfl 0 rfl ?_
            refine g_18_1 X f_St_15 d_St_fill_46 ?_
            refine j_iload_n X d_St_fill_49 rfl 2 rfl ?_
            refine ld_20 X hw.1 (v := (s29 20 (Int32.toNatClampNeg v2))) rfl d_St_fill_50 ?_
            have hw := hw.2
            refine j_if_eq X d_St_fill_51 (tgt := 59) (by decide) (fun h => ?_) (fun h => ?_)
            · have hw := hw.1 h
              refine j_iinc X (v := (-1 : Int32)) d_St_fill_59 2 rfl (by decide) (by decide) rfl ?_
              refine j_goto X d_St_fill_62 (tgt := 29) (by decide) ?_
              refine j_locs [1, 2, 0] rfl ?_
              exact ih29 _ _ hw
            · have hw := hw.2 h
              refine j_aload_n X d_St_fill_54 rfl 1 rfl ?_
              refine j_iload_n X d_St_fill_55 rfl 2 rfl ?_
              refine pN_26_2 X (n_St_40 sz) d_St_fill_56 ?_
              refine j_iinc X (v := (-1 : Int32)) d_St_fill_59 2 rfl (by decide) (by decide) rfl ?_
              refine j_goto X d_St_fill_62 (tgt := 29) (by decide) ?_
              refine j_locs [1, 2, 0] rfl ?_
              exact ih29 _ _ hw
      obtain ⟨n, hw⟩ := hw
      refine j_locs [1, 2, 0] rfl ?_
      exact lp29 n _ _ hw
  exact hX
def w_St_size_22 (σ : Jst) (K : Int32 → Jst → Prop) : Prop := K (σ 22 2) σ
abbrev rm_St_size_22 : Room := { frames := 0, cells := 0, slots := 0, locals := 0 }
set_option maxRecDepth 100000 in
set_option maxHeartbeats 4000000 in
theorem c_St_size_22 (l : Launch) (D : va_G) (ca ad : Nat → Nat) (sz : Nat) (hD : Jd ca ad sz) {σ : Jst} {K : Int32 → Jst → Prop} (hw : w_St_size_22 σ K) : Met l y_St_size (wG y_St_size b_St_size 1 (some .int)) rm_St_size_22 (va_Pc [.ref (ad 22)] (Jw D vwCl (tysT ca) (wlT ad ca) (NwT sz) σ)) (va_Qi K (Jq D vwCl (wlT ad ca)) (Aw sz)) 0 0 (Aw sz) := by
  refine j_met (cc := b_St_size) (own := R_St) (by decide +kernel) rfl (Nat.le_of_ble_eq_true rfl) rfl hD (nwT_k sz) ?_
  intro p e s m args below meth c X hlk hr
  have hX : J p l e rm_St_size_22 s m args below meth c D vwCl (wlT ad ca) (Aw sz) 1 0 0 (MQ below (va_Qi K (Jq D vwCl (wlT ad ca)) (Aw sz)) args s 0 0 (Aw sz)) 0 [(0, .ref (ad 22))] [] σ := by
    unfold w_St_size_22 at hw
    refine j_aload_n X d_St_size_0 rfl 0 rfl ?_
    refine g_22_2 X f_St_19 (v := (σ 22 2)) rfl d_St_size_1 ?_
    exact j_iret X hlk hr d_St_size_4 hw
  exact hX
def w_St_put_22 (a1 : Int32) (a2 : Int32) (σ : Jst) (K : Jst → Prop) : Prop := (((60 : Int32) ≤ (σ 22 2) → K σ) ∧ (¬ (60 : Int32) ≤ (σ 22 2) → (vp_in (σ 22 2) 60 ∧ (vp_in (σ 22 2) 60 ∧ K (jup (jup (jup σ 23 (Int32.toNatClampNeg (σ 22 2)) a1) 24 (Int32.toNatClampNeg (σ 22 2)) (vp_nar .boolean a2)) 22 2 ((σ 22 2) + (1 : Int32)))))))
abbrev rm_St_put_22 : Room := { frames := 0, cells := 0, slots := 0, locals := 0 }
set_option maxRecDepth 100000 in
set_option maxHeartbeats 4000000 in
theorem c_St_put_22 (l : Launch) (D : va_G) (ca ad : Nat → Nat) (sz : Nat) (hD : Jd ca ad sz) {a1 a2 : Int32} {σ : Jst} {K : Jst → Prop} (hw : w_St_put_22 a1 a2 σ K) : Met l y_St_put (wG y_St_put b_St_put 3 none) rm_St_put_22 (va_Pc [.ref (ad 22), .int a1, .int a2] (Jw D vwCl (tysT ca) (wlT ad ca) (NwT sz) σ)) (va_Qv K (Jq D vwCl (wlT ad ca)) (Aw sz)) 0 0 (Aw sz) := by
  refine j_met (cc := b_St_put) (own := R_St) (by decide +kernel) rfl (Nat.le_of_ble_eq_true rfl) rfl hD (nwT_k sz) ?_
  intro p e s m args below meth c X hlk hr
  have hX : J p l e rm_St_put_22 s m args below meth c D vwCl (wlT ad ca) (Aw sz) 3 0 0 (MQ below (va_Qv K (Jq D vwCl (wlT ad ca)) (Aw sz)) args s 0 0 (Aw sz)) 0 [(0, .ref (ad 22)), (1, .int a1), (2, .int a2)] [] σ := by
    unfold w_St_put_22 at hw
    refine j_aload_n X d_St_put_0 rfl 0 rfl ?_
    refine g_22_2 X f_St_19 (v := (σ 22 2)) rfl d_St_put_1 ?_
    refine j_bipush X (v := (60 : Int32)) d_St_put_4 (by decide) ?_
    refine j_icmp_ge X d_St_put_6 (tgt := 39) (by decide) (fun h => ?_) (fun h => ?_)
    · have hw := hw.1 h
      exact j_vret X hlk hr d_St_put_39 hw
    · have hw := hw.2 h
      refine j_aload_n X d_St_put_9 rfl 0 rfl ?_
      refine g_22_0 X f_St_11 d_St_put_10 ?_
      refine j_aload_n X d_St_put_13 rfl 0 rfl ?_
      refine g_22_2 X f_St_19 (v := (σ 22 2)) rfl d_St_put_14 ?_
      refine j_iload_n X d_St_put_17 rfl 1 rfl ?_
      refine sr_23 X hw.1 d_St_put_18 ?_
      have hw := hw.2
      refine j_aload_n X d_St_put_19 rfl 0 rfl ?_
      refine g_22_1 X f_St_15 d_St_put_20 ?_
      refine j_aload_n X d_St_put_23 rfl 0 rfl ?_
      refine g_22_2 X f_St_19 (v := (σ 22 2)) rfl d_St_put_24 ?_
      refine j_iload_n X d_St_put_27 rfl 2 rfl ?_
      refine sr_24 X hw.1 d_St_put_28 ?_
      have hw := hw.2
      refine j_aload_n X d_St_put_29 rfl 0 rfl ?_
      refine j_dup X d_St_put_30 rfl ?_
      refine g_22_2 X f_St_19 (v := (σ 22 2)) rfl d_St_put_31 ?_
      refine j_iconst X (v := (1 : Int32)) d_St_put_34 (by decide) ?_
      refine j_iadd X d_St_put_35 ?_
      refine p_22_2 X f_St_19 d_St_put_36 ?_
      exact j_vret X hlk hr d_St_put_39 hw
  exact hX
def w_St_writeHead_22 (a1 : Int32) (a2 : Int32) (σ : Jst) (K : Jst → Prop) : Prop := w_St_put_22 a1 (1 : Int32) σ (fun u1 => w_St_put_22 a2 (0 : Int32) u1 (fun u2 => K u2))
abbrev rm_St_writeHead_22 : Room := { frames := 1, cells := 0, slots := 0, locals := 22 }
set_option maxRecDepth 100000 in
set_option maxHeartbeats 4000000 in
theorem c_St_writeHead_22 (l : Launch) (D : va_G) (ca ad : Nat → Nat) (sz : Nat) (hD : Jd ca ad sz) {a1 a2 : Int32} {σ : Jst} {K : Jst → Prop} (hw : w_St_writeHead_22 a1 a2 σ K) : Met l y_St_writeHead (wG y_St_writeHead b_St_writeHead 3 none) rm_St_writeHead_22 (va_Pc [.ref (ad 22), .int a1, .int a2] (Jw D vwCl (tysT ca) (wlT ad ca) (NwT sz) σ)) (va_Qv K (Jq D vwCl (wlT ad ca)) (Aw sz)) 0 0 (Aw sz) := by
  refine j_met (cc := b_St_writeHead) (own := R_St) (by decide +kernel) rfl (Nat.le_of_ble_eq_true rfl) rfl hD (nwT_k sz) ?_
  intro p e s m args below meth c X hlk hr
  have hX : J p l e rm_St_writeHead_22 s m args below meth c D vwCl (wlT ad ca) (Aw sz) 3 0 0 (MQ below (va_Qv K (Jq D vwCl (wlT ad ca)) (Aw sz)) args s 0 0 (Aw sz)) 0 [(0, .ref (ad 22)), (1, .int a1), (2, .int a2)] [] σ := by
    unfold w_St_writeHead_22 at hw
    refine j_aload_n X d_St_writeHead_0 rfl 0 rfl ?_
    refine j_iload_n X d_St_writeHead_1 rfl 1 rfl ?_
    refine j_iconst X (v := (1 : Int32)) d_St_writeHead_2 (by decide) ?_
    refine j_callVv (As := [.int a1, .int (1 : Int32)]) X (c_St_put_22 l D ca ad sz hD hw) (gcV (n := 2) X rfl rfl rfl gc_St_put m_St_put l_St_27 (by decide +kernel) ⟨by decide, by decide⟩) (q0 := 22) rfl rfl (fun _ h => h) rfl rfl (Nat.le_of_ble_eq_true rfl) ⟨by decide, by decide⟩ d_St_writeHead_3 (fun u1 hw => ?_)
    refine j_aload_n X d_St_writeHead_6 rfl 0 rfl ?_
    refine j_iload_n X d_St_writeHead_7 rfl 2 rfl ?_
    refine j_iconst X (v := (0 : Int32)) d_St_writeHead_8 (by decide) ?_
    refine j_callVv (As := [.int a2, .int (0 : Int32)]) X (c_St_put_22 l D ca ad sz hD hw) (gcV (n := 2) X rfl rfl rfl gc_St_put m_St_put l_St_27 (by decide +kernel) ⟨by decide, by decide⟩) (q0 := 22) rfl rfl (fun _ h => h) rfl rfl (Nat.le_of_ble_eq_true rfl) ⟨by decide, by decide⟩ d_St_writeHead_9 (fun u2 hw => ?_)
    exact j_vret X hlk hr d_St_writeHead_12 hw
  exact hX
def w_St_write_22_L23 (K : Int32 → Jst → Prop) : Nat → Int32 → Int32 → Int32 → Jst → Prop
  | 0, _, _, _, _ => False
  | n + 1, v1, v2, v3, s23 => ((v2 ≤ v3 → K (1 : Int32) s23) ∧ (¬ v2 ≤ v3 → w_St_put_22 ((v1 * (7 : Int32)) + v3) (0 : Int32) s23 (fun u1 => w_St_write_22_L23 K n v1 v2 (v3 + (1 : Int32)) u1)))
def w_St_write_22 (a1 : Int32) (a2 : Int32) (σ : Jst) (K : Int32 → Jst → Prop) : Prop := (((((σ 22 2) + (2 : Int32)) + a2) ≤ (60 : Int32) → w_St_writeHead_22 a1 a2 σ (fun u1 => (∃ n, w_St_write_22_L23 K n a1 a2 (0 : Int32) u1))) ∧ (¬ (((σ 22 2) + (2 : Int32)) + a2) ≤ (60 : Int32) → K (0 : Int32) σ))
abbrev rm_St_write_22 : Room := { frames := 2, cells := 0, slots := 0, locals := 44 }
set_option maxRecDepth 100000 in
set_option maxHeartbeats 4000000 in
theorem c_St_write_22 (l : Launch) (D : va_G) (ca ad : Nat → Nat) (sz : Nat) (hD : Jd ca ad sz) {a1 a2 : Int32} {σ : Jst} {K : Int32 → Jst → Prop} (hw : w_St_write_22 a1 a2 σ K) : Met l y_St_write (wG y_St_write b_St_write 4 (some .boolean)) rm_St_write_22 (va_Pc [.ref (ad 22), .int a1, .int a2] (Jw D vwCl (tysT ca) (wlT ad ca) (NwT sz) σ)) (va_Qi K (Jq D vwCl (wlT ad ca)) (Aw sz)) 0 0 (Aw sz) := by
  refine j_met (cc := b_St_write) (own := R_St) (by decide +kernel) rfl (Nat.le_of_ble_eq_true rfl) rfl hD (nwT_k sz) ?_
  intro p e s m args below meth c X hlk hr
  have hX : J p l e rm_St_write_22 s m args below meth c D vwCl (wlT ad ca) (Aw sz) 4 0 0 (MQ below (va_Qi K (Jq D vwCl (wlT ad ca)) (Aw sz)) args s 0 0 (Aw sz)) 0 [(0, .ref (ad 22)), (1, .int a1), (2, .int a2)] [] σ := by
    unfold w_St_write_22 at hw
    refine j_aload_n X d_St_write_0 rfl 0 rfl ?_
    refine g_22_2 X f_St_19 (v := (σ 22 2)) rfl d_St_write_1 ?_
    refine j_iconst X (v := (2 : Int32)) d_St_write_4 (by decide) ?_
    refine j_iadd X d_St_write_5 ?_
    refine j_iload_n X d_St_write_6 rfl 2 rfl ?_
    refine j_iadd X d_St_write_7 ?_
    refine j_bipush X (v := (60 : Int32)) d_St_write_8 (by decide) ?_
    refine j_icmp_le X d_St_write_10 (tgt := 15) (by decide) (fun h => ?_) (fun h => ?_)
    · have hw := hw.1 h
      refine j_aload_n X d_St_write_15 rfl 0 rfl ?_
      refine j_iload_n X d_St_write_16 rfl 1 rfl ?_
      refine j_iload_n X d_St_write_17 rfl 2 rfl ?_
      refine j_callVv (As := [.int a1, .int a2]) X (c_St_writeHead_22 l D ca ad sz hD hw) (gcV (n := 2) X rfl rfl rfl gc_St_writeHead m_St_writeHead l_St_23 (by decide +kernel) ⟨by decide, by decide⟩) (q0 := 22) rfl rfl (fun _ h => h) rfl rfl (Nat.le_of_ble_eq_true rfl) ⟨by decide, by decide⟩ d_St_write_18 (fun u1 hw => ?_)
      refine j_iconst X (v := (0 : Int32)) d_St_write_21 (by decide) ?_
      refine j_istore_n X d_St_write_22 rfl (by decide) rfl ?_
      have lp23 : ∀ (n : Nat) (v1 v2 v3 : Int32) (s23 : Jst), w_St_write_22_L23 K n v1 v2 v3 s23 → J p l e rm_St_write_22 s m args below meth c D vwCl (wlT ad ca) (Aw sz) 4 0 0 (MQ below (va_Qi K (Jq D vwCl (wlT ad ca)) (Aw sz)) args s 0 0 (Aw sz)) 23 [(0, .ref (ad 22)), (1, .int v1), (2, .int v2), (3, .int v3)] [] s23 := by
        intro n
        induction n with
        | zero => intro v1 v2 v3 s23 hw; exact (show False from hw).elim
        | succ n ih23 =>
          intro v1 v2 v3 s23 hw
          rw [w_St_write_22_L23] at hw
          refine j_iload_n X d_St_write_23 rfl 3 rfl ?_
          refine j_iload_n X d_St_write_24 rfl 2 rfl ?_
          refine j_icmp_ge X d_St_write_25 (tgt := 45) (by decide) (fun h => ?_) (fun h => ?_)
          · have hw := hw.1 h
            refine j_iconst X (v := (1 : Int32)) d_St_write_45 (by decide) ?_
            exact j_zret X hlk hr rfl d_St_write_46 hw
          · have hw := hw.2 h
            refine j_aload_n X d_St_write_28 rfl 0 rfl ?_
            refine j_iload_n X d_St_write_29 rfl 1 rfl ?_
            refine j_bipush X (v := (7 : Int32)) d_St_write_30 (by decide) ?_
            refine j_imul X d_St_write_32 ?_
            refine j_iload_n X d_St_write_33 rfl 3 rfl ?_
            refine j_iadd X d_St_write_34 ?_
            refine j_iconst X (v := (0 : Int32)) d_St_write_35 (by decide) ?_
            refine j_callVv (As := [.int ((v1 * (7 : Int32)) + v3), .int (0 : Int32)]) X (c_St_put_22 l D ca ad sz hD hw) (gcV (n := 2) X rfl rfl rfl gc_St_put m_St_put l_St_27 (by decide +kernel) ⟨by decide, by decide⟩) (q0 := 22) rfl rfl (fun _ h => h) rfl rfl (Nat.le_of_ble_eq_true rfl) ⟨by decide, by decide⟩ d_St_write_36 (fun u1 hw => ?_)
            refine j_iinc X (v := (1 : Int32)) d_St_write_39 3 rfl (by decide) (by decide) rfl ?_
            refine j_goto X d_St_write_42 (tgt := 23) (by decide) ?_
            refine j_locs [1, 2, 3, 0] rfl ?_
            exact ih23 _ _ _ _ hw
      obtain ⟨n, hw⟩ := hw
      refine j_locs [1, 2, 3, 0] rfl ?_
      exact lp23 n _ _ _ _ hw
    · have hw := hw.2 h
      refine j_iconst X (v := (0 : Int32)) d_St_write_13 (by decide) ?_
      exact j_zret X hlk hr rfl d_St_write_14 hw
  exact hX
def w_St_removeFrame_22_L3 (K : Jst → Prop) : Nat → Int32 → Jst → Prop
  | 0, _, _ => False
  | n + 1, v1, s3 => (((s3 22 2) ≤ v1 → K (jup s3 22 2 ((s3 22 2) - (6 : Int32)))) ∧ (¬ (s3 22 2) ≤ v1 → (vp_in v1 60 ∧ (vp_in (v1 - (6 : Int32)) 60 ∧ (vp_in v1 60 ∧ (vp_in (v1 - (6 : Int32)) 60 ∧ w_St_removeFrame_22_L3 K n (v1 + (1 : Int32)) (jup (jup s3 23 (Int32.toNatClampNeg (v1 - (6 : Int32))) (s3 23 (Int32.toNatClampNeg v1))) 24 (Int32.toNatClampNeg (v1 - (6 : Int32))) (vp_nar .boolean (s3 24 (Int32.toNatClampNeg v1))))))))))
def w_St_removeFrame_22 (σ : Jst) (K : Jst → Prop) : Prop := (∃ n, w_St_removeFrame_22_L3 K n (6 : Int32) σ)
abbrev rm_St_removeFrame_22 : Room := { frames := 0, cells := 0, slots := 0, locals := 0 }
set_option maxRecDepth 100000 in
set_option maxHeartbeats 4000000 in
theorem c_St_removeFrame_22 (l : Launch) (D : va_G) (ca ad : Nat → Nat) (sz : Nat) (hD : Jd ca ad sz) {σ : Jst} {K : Jst → Prop} (hw : w_St_removeFrame_22 σ K) : Met l y_St_removeFrame (wG y_St_removeFrame b_St_removeFrame 2 none) rm_St_removeFrame_22 (va_Pc [.ref (ad 22)] (Jw D vwCl (tysT ca) (wlT ad ca) (NwT sz) σ)) (va_Qv K (Jq D vwCl (wlT ad ca)) (Aw sz)) 0 0 (Aw sz) := by
  refine j_met (cc := b_St_removeFrame) (own := R_St) (by decide +kernel) rfl (Nat.le_of_ble_eq_true rfl) rfl hD (nwT_k sz) ?_
  intro p e s m args below meth c X hlk hr
  have hX : J p l e rm_St_removeFrame_22 s m args below meth c D vwCl (wlT ad ca) (Aw sz) 2 0 0 (MQ below (va_Qv K (Jq D vwCl (wlT ad ca)) (Aw sz)) args s 0 0 (Aw sz)) 0 [(0, .ref (ad 22))] [] σ := by
    unfold w_St_removeFrame_22 at hw
    refine j_bipush X (v := (6 : Int32)) d_St_removeFrame_0 (by decide) ?_
    refine j_istore_n X d_St_removeFrame_2 rfl (by decide) rfl ?_
    have lp3 : ∀ (n : Nat) (v1 : Int32) (s3 : Jst), w_St_removeFrame_22_L3 K n v1 s3 → J p l e rm_St_removeFrame_22 s m args below meth c D vwCl (wlT ad ca) (Aw sz) 2 0 0 (MQ below (va_Qv K (Jq D vwCl (wlT ad ca)) (Aw sz)) args s 0 0 (Aw sz)) 3 [(0, .ref (ad 22)), (1, .int v1)] [] s3 := by
      intro n
      induction n with
      | zero => intro v1 s3 hw; exact (show False from hw).elim
      | succ n ih3 =>
        intro v1 s3 hw
        rw [w_St_removeFrame_22_L3] at hw
        refine j_iload_n X d_St_removeFrame_3 rfl 1 rfl ?_
        refine j_aload_n X d_St_removeFrame_4 rfl 0 rfl ?_
        refine g_22_2 X f_St_19 (v := (s3 22 2)) rfl d_St_removeFrame_5 ?_
        refine j_icmp_ge X d_St_removeFrame_8 (tgt := 47) (by decide) (fun h => ?_) (fun h => ?_)
        · have hw := hw.1 h
          refine j_aload_n X d_St_removeFrame_47 rfl 0 rfl ?_
          refine j_dup X d_St_removeFrame_48 rfl ?_
          refine g_22_2 X f_St_19 (v := (s3 22 2)) rfl d_St_removeFrame_49 ?_
          refine j_bipush X (v := (6 : Int32)) d_St_removeFrame_52 (by decide) ?_
          refine j_isub X d_St_removeFrame_54 ?_
          refine p_22_2 X f_St_19 d_St_removeFrame_55 ?_
          exact j_vret X hlk hr d_St_removeFrame_58 hw
        · have hw := hw.2 h
          refine j_aload_n X d_St_removeFrame_11 rfl 0 rfl ?_
          refine g_22_0 X f_St_11 d_St_removeFrame_12 ?_
          refine j_iload_n X d_St_removeFrame_15 rfl 1 rfl ?_
          refine j_bipush X (v := (6 : Int32)) d_St_removeFrame_16 (by decide) ?_
          refine j_isub X d_St_removeFrame_18 ?_
          refine j_aload_n X d_St_removeFrame_19 rfl 0 rfl ?_
          refine g_22_0 X f_St_11 d_St_removeFrame_20 ?_
          refine j_iload_n X d_St_removeFrame_23 rfl 1 rfl ?_
          refine ld_23 X hw.1 (v := (s3 23 (Int32.toNatClampNeg v1))) rfl d_St_removeFrame_24 ?_
          have hw := hw.2
          refine sr_23 X hw.1 d_St_removeFrame_25 ?_
          have hw := hw.2
          refine j_aload_n X d_St_removeFrame_26 rfl 0 rfl ?_
          refine g_22_1 X f_St_15 d_St_removeFrame_27 ?_
          refine j_iload_n X d_St_removeFrame_30 rfl 1 rfl ?_
          refine j_bipush X (v := (6 : Int32)) d_St_removeFrame_31 (by decide) ?_
          refine j_isub X d_St_removeFrame_33 ?_
          refine j_aload_n X d_St_removeFrame_34 rfl 0 rfl ?_
          refine g_22_1 X f_St_15 d_St_removeFrame_35 ?_
          refine j_iload_n X d_St_removeFrame_38 rfl 1 rfl ?_
          refine ld_24 X hw.1 (v := (s3 24 (Int32.toNatClampNeg v1))) rfl d_St_removeFrame_39 ?_
          have hw := hw.2
          refine sr_24 X hw.1 d_St_removeFrame_40 ?_
          have hw := hw.2
          refine j_iinc X (v := (1 : Int32)) d_St_removeFrame_41 1 rfl (by decide) (by decide) rfl ?_
          refine j_goto X d_St_removeFrame_44 (tgt := 3) (by decide) ?_
          refine j_locs [1, 0] rfl ?_
          exact ih3 _ _ hw
    obtain ⟨n, hw⟩ := hw
    refine j_locs [1, 0] rfl ?_
    exact lp3 n _ _ hw
  exact hX
def w_St_writeIdle_22_L19 (K : Jst → Prop) : Nat → Int32 → Int32 → Jst → Prop
  | 0, _, _, _ => False
  | n + 1, v1, v2, s19 => ((v1 ≤ v2 → K s19) ∧ (¬ v1 ≤ v2 → w_St_put_22 (0 : Int32) (0 : Int32) s19 (fun u1 => w_St_writeIdle_22_L19 K n v1 (v2 + (1 : Int32)) u1)))
def w_St_writeIdle_22 (σ : Jst) (K : Jst → Prop) : Prop := w_Ma_max (0 : Int32) ((4 : Int32) - (σ 22 2)) σ (fun r2 u1 => w_St_writeHead_22 (0 : Int32) r2 u1 (fun u3 => (∃ n, w_St_writeIdle_22_L19 K n r2 (0 : Int32) u3)))
abbrev rm_St_writeIdle_22 : Room := { frames := 2, cells := 0, slots := 0, locals := 44 }
set_option maxRecDepth 100000 in
set_option maxHeartbeats 4000000 in
theorem c_St_writeIdle_22 (l : Launch) (D : va_G) (ca ad : Nat → Nat) (sz : Nat) (hD : Jd ca ad sz) {σ : Jst} {K : Jst → Prop} (hw : w_St_writeIdle_22 σ K) : Met l y_St_writeIdle (wG y_St_writeIdle b_St_writeIdle 3 none) rm_St_writeIdle_22 (va_Pc [.ref (ad 22)] (Jw D vwCl (tysT ca) (wlT ad ca) (NwT sz) σ)) (va_Qv K (Jq D vwCl (wlT ad ca)) (Aw sz)) 0 0 (Aw sz) := by
  refine j_met (cc := b_St_writeIdle) (own := R_St) (by decide +kernel) rfl (Nat.le_of_ble_eq_true rfl) rfl hD (nwT_k sz) ?_
  intro p e s m args below meth c X hlk hr
  have hX : J p l e rm_St_writeIdle_22 s m args below meth c D vwCl (wlT ad ca) (Aw sz) 3 0 0 (MQ below (va_Qv K (Jq D vwCl (wlT ad ca)) (Aw sz)) args s 0 0 (Aw sz)) 0 [(0, .ref (ad 22))] [] σ := by
    unfold w_St_writeIdle_22 at hw
    refine j_iconst X (v := (0 : Int32)) d_St_writeIdle_0 (by decide) ?_
    refine j_iconst X (v := (4 : Int32)) d_St_writeIdle_1 (by decide) ?_
    refine j_aload_n X d_St_writeIdle_2 rfl 0 rfl ?_
    refine g_22_2 X f_St_19 (v := (σ 22 2)) rfl d_St_writeIdle_3 ?_
    refine j_isub X d_St_writeIdle_6 ?_
    refine j_callSi (As := [.int (0 : Int32), .int ((4 : Int32) - (σ 22 2))]) X (c_Ma_max l D ca ad sz hD hw) (gcS (n := 2) X rfl rfl rfl gc_Ma_max m_Ma_max l_St_51 (by decide +kernel) ⟨by decide, by decide⟩) (fun _ h => h) rfl rfl (Nat.le_of_ble_eq_true rfl) ⟨by decide, by decide⟩ d_St_writeIdle_7 (fun r2 u1 hw => ?_)
    refine j_istore_n X d_St_writeIdle_10 rfl (by decide) rfl ?_
    refine j_aload_n X d_St_writeIdle_11 rfl 1 rfl ?_
    refine j_iconst X (v := (0 : Int32)) d_St_writeIdle_12 (by decide) ?_
    refine j_iload_n X d_St_writeIdle_13 rfl 0 rfl ?_
    refine j_callVv (As := [.int (0 : Int32), .int r2]) X (c_St_writeHead_22 l D ca ad sz hD hw) (gcV (n := 2) X rfl rfl rfl gc_St_writeHead m_St_writeHead l_St_23 (by decide +kernel) ⟨by decide, by decide⟩) (q0 := 22) rfl rfl (fun _ h => h) rfl rfl (Nat.le_of_ble_eq_true rfl) ⟨by decide, by decide⟩ d_St_writeIdle_14 (fun u3 hw => ?_)
    refine j_iconst X (v := (0 : Int32)) d_St_writeIdle_17 (by decide) ?_
    refine j_istore_n X d_St_writeIdle_18 rfl (by decide) rfl ?_
    have lp19 : ∀ (n : Nat) (v1 v2 : Int32) (s19 : Jst), w_St_writeIdle_22_L19 K n v1 v2 s19 → J p l e rm_St_writeIdle_22 s m args below meth c D vwCl (wlT ad ca) (Aw sz) 3 0 0 (MQ below (va_Qv K (Jq D vwCl (wlT ad ca)) (Aw sz)) args s 0 0 (Aw sz)) 19 [(0, .ref (ad 22)), (1, .int v1), (2, .int v2)] [] s19 := by
      intro n
      induction n with
      | zero => intro v1 v2 s19 hw; exact (show False from hw).elim
      | succ n ih19 =>
        intro v1 v2 s19 hw
        rw [w_St_writeIdle_22_L19] at hw
        refine j_iload_n X d_St_writeIdle_19 rfl 2 rfl ?_
        refine j_iload_n X d_St_writeIdle_20 rfl 1 rfl ?_
        refine j_icmp_ge X d_St_writeIdle_21 (tgt := 36) (by decide) (fun h => ?_) (fun h => ?_)
        · have hw := hw.1 h
          exact j_vret X hlk hr d_St_writeIdle_36 hw
        · have hw := hw.2 h
          refine j_aload_n X d_St_writeIdle_24 rfl 0 rfl ?_
          refine j_iconst X (v := (0 : Int32)) d_St_writeIdle_25 (by decide) ?_
          refine j_iconst X (v := (0 : Int32)) d_St_writeIdle_26 (by decide) ?_
          refine j_callVv (As := [.int (0 : Int32), .int (0 : Int32)]) X (c_St_put_22 l D ca ad sz hD hw) (gcV (n := 2) X rfl rfl rfl gc_St_put m_St_put l_St_27 (by decide +kernel) ⟨by decide, by decide⟩) (q0 := 22) rfl rfl (fun _ h => h) rfl rfl (Nat.le_of_ble_eq_true rfl) ⟨by decide, by decide⟩ d_St_writeIdle_27 (fun u1 hw => ?_)
          refine j_iinc X (v := (1 : Int32)) d_St_writeIdle_30 2 rfl (by decide) (by decide) rfl ?_
          refine j_goto X d_St_writeIdle_33 (tgt := 19) (by decide) ?_
          refine j_locs [1, 2, 0] rfl ?_
          exact ih19 _ _ _ hw
    obtain ⟨n, hw⟩ := hw
    refine j_locs [2, 1, 0] rfl ?_
    exact lp19 n _ _ _ hw
  exact hX
def w_St_fill_22_L29 (K : Jst → Prop) : Nat → Int32 → Jst → Prop
  | 0, _, _ => False
  | n + 1, v2, s29 => ((v2 < (0 : Int32) → w_T_following (s29 22 3) s29 (fun r2 u1 => w_St_removeFrame_22 (jup u1 22 3 r2) (fun u3 => K u3))) ∧ (¬ v2 < (0 : Int32) → (vp_in v2 60 ∧ (vp_in v2 6 ∧ (vp_in v2 60 ∧ (((s29 24 (Int32.toNatClampNeg v2)) = (0 : Int32) → w_St_fill_22_L29 K n (v2 + (-1 : Int32)) (jup s29 27 (Int32.toNatClampNeg v2) (s29 23 (Int32.toNatClampNeg v2)))) ∧ (¬ (s29 24 (Int32.toNatClampNeg v2)) = (0 : Int32) → w_St_fill_22_L29 K n (v2 + (-1 : Int32)) (jup (jup s29 27 (Int32.toNatClampNeg v2) (s29 23 (Int32.toNatClampNeg v2))) 26 2 v2))))))))
def w_St_fill_22 (σ : Jst) (K : Jst → Prop) : Prop := (((6 : Int32) ≤ (σ 22 2) → (∃ n, w_St_fill_22_L29 K n (5 : Int32) (jup (jup σ 26 1 (σ 22 3)) 26 2 (6 : Int32)))) ∧ (¬ (6 : Int32) ≤ (σ 22 2) → w_St_writeIdle_22 σ (fun u1 => (∃ n, w_St_fill_22_L29 K n (5 : Int32) (jup (jup u1 26 1 (u1 22 3)) 26 2 (6 : Int32))))))
abbrev rm_St_fill_22 : Room := { frames := 3, cells := 0, slots := 0, locals := 66 }
set_option maxRecDepth 100000 in
set_option maxHeartbeats 4000000 in
theorem c_St_fill_22 (l : Launch) (D : va_G) (ca ad : Nat → Nat) (sz : Nat) (hD : Jd ca ad sz) {σ : Jst} {K : Jst → Prop} (hw : w_St_fill_22 σ K) : Met l y_St_fill (wG y_St_fill b_St_fill 3 none) rm_St_fill_22 (va_Pc [.ref (ad 22), .ref (ad 26)] (Jw D vwCl (tysT ca) (wlT ad ca) (NwT sz) σ)) (va_Qv K (Jq D vwCl (wlT ad ca)) (Aw sz)) 0 0 (Aw sz) := by
  refine j_met (cc := b_St_fill) (own := R_St) (by decide +kernel) rfl (Nat.le_of_ble_eq_true rfl) rfl hD (nwT_k sz) ?_
  intro p e s m args below meth c X hlk hr
  have hX : J p l e rm_St_fill_22 s m args below meth c D vwCl (wlT ad ca) (Aw sz) 3 0 0 (MQ below (va_Qv K (Jq D vwCl (wlT ad ca)) (Aw sz)) args s 0 0 (Aw sz)) 0 [(0, .ref (ad 22)), (1, .ref (ad 26))] [] σ := by
    unfold w_St_fill_22 at hw
    refine j_aload_n X d_St_fill_0 rfl 0 rfl ?_
    refine g_22_2 X f_St_19 (v := (σ 22 2)) rfl d_St_fill_1 ?_
    refine j_bipush X (v := (6 : Int32)) d_St_fill_4 (by decide) ?_
    refine j_icmp_ge X d_St_fill_6 (tgt := 13) (by decide) (fun h => ?_) (fun h => ?_)
    · have hw := hw.1 h
      refine j_aload_n X d_St_fill_13 rfl 1 rfl ?_
      refine j_aload_n X d_St_fill_14 rfl 0 rfl ?_
      refine g_22_3 X f_St_34 (v := (σ 22 3)) rfl d_St_fill_15 ?_
      refine pN_26_1 X (n_St_37 sz) d_St_fill_18 ?_
      refine j_aload_n X d_St_fill_21 rfl 1 rfl ?_
      refine j_bipush X (v := (6 : Int32)) d_St_fill_22 (by decide) ?_
      refine pN_26_2 X (n_St_40 sz) d_St_fill_24 ?_
      refine j_iconst X (v := (5 : Int32)) d_St_fill_27 (by decide) ?_
      refine j_istore_n X d_St_fill_28 rfl (by decide) rfl ?_
      have lp29 : ∀ (n : Nat) (v2 : Int32) (s29 : Jst), w_St_fill_22_L29 K n v2 s29 → J p l e rm_St_fill_22 s m args below meth c D vwCl (wlT ad ca) (Aw sz) 3 0 0 (MQ below (va_Qv K (Jq D vwCl (wlT ad ca)) (Aw sz)) args s 0 0 (Aw sz)) 29 [(0, .ref (ad 22)), (1, .ref (ad 26)), (2, .int v2)] [] s29 := by
        intro n
        induction n with
        | zero => intro v2 s29 hw; exact (show False from hw).elim
        | succ n ih29 =>
          intro v2 s29 hw
          rw [w_St_fill_22_L29] at hw
          refine j_iload_n X d_St_fill_29 rfl 2 rfl ?_
          refine j_if_lt X d_St_fill_30 (tgt := 65) (by decide) (fun h => ?_) (fun h => ?_)
          · have hw := hw.1 h
            refine j_aload_n X d_St_fill_65 rfl 0 rfl ?_
            refine j_aload_n X d_St_fill_66 rfl 0 rfl ?_
            refine g_22_3 X f_St_34 (v := (s29 22 3)) rfl d_St_fill_67 ?_
            refine j_callSNi (As := [.int (s29 22 3)]) X (c_T_following l D ca ad sz hD hw) (gcSN (n := 1) X rfl rfl rfl gc_T_following m_T_following (n_St_44 sz) (by decide +kernel) ⟨by decide, by decide⟩) (fun _ h => h) rfl rfl (Nat.le_of_ble_eq_true rfl) ⟨by decide, by decide⟩ d_St_fill_70 (fun r2 u1 hw => ?_)
            refine p_22_3 X f_St_34 d_St_fill_73 ?_
            refine j_aload_n X d_St_fill_76 rfl 0 rfl ?_
            refine j_callVv (As := []) X (c_St_removeFrame_22 l D ca ad sz hD hw) (gcV (n := 0) X rfl rfl rfl gc_St_removeFrame m_St_removeFrame l_St_48 (by decide +kernel) ⟨by decide, by decide⟩) (q0 := 22) rfl rfl (fun _ h => h) rfl rfl (Nat.le_of_ble_eq_true rfl) ⟨by decide, by decide⟩ d_St_fill_77 (fun u3 hw => ?_)
            exact j_vret X hlk hr d_St_fill_80 hw
          · have hw := hw.2 h
            refine j_aload_n X d_St_fill_33 rfl 1 rfl ?_
            refine gN_26_0 X (n_St_43 sz) d_St_fill_34 ?_
            refine j_iload_n X d_St_fill_37 rfl 2 rfl ?_
            refine j_aload_n X d_St_fill_38 rfl 0 rfl ?_
            refine g_22_0 X f_St_11 d_St_fill_39 ?_
            refine j_iload_n X d_St_fill_42 rfl 2 rfl ?_
            refine ld_23 X hw.1 (v := (s29 23 (Int32.toNatClampNeg v2))) rfl d_St_fill_43 ?_
            have hw := hw.2
            refine sr_27 X hw.1 d_St_fill_44 ?_
            have hw := hw.2
            refine j_aload_n X d_St_fill_45 rfl 0 rfl ?_
            refine g_22_1 X f_St_15 d_St_fill_46 ?_
            refine j_iload_n X d_St_fill_49 rfl 2 rfl ?_
            refine ld_24 X hw.1 (v := (s29 24 (Int32.toNatClampNeg v2))) rfl d_St_fill_50 ?_
            have hw := hw.2
            refine j_if_eq X d_St_fill_51 (tgt := 59) (by decide) (fun h => ?_) (fun h => ?_)
            · have hw := hw.1 h
              refine j_iinc X (v := (-1 : Int32)) d_St_fill_59 2 rfl (by decide) (by decide) rfl ?_
              refine j_goto X d_St_fill_62 (tgt := 29) (by decide) ?_
              refine j_locs [1, 2, 0] rfl ?_
              exact ih29 _ _ hw
            · have hw := hw.2 h
              refine j_aload_n X d_St_fill_54 rfl 1 rfl ?_
              refine j_iload_n X d_St_fill_55 rfl 2 rfl ?_
              refine pN_26_2 X (n_St_40 sz) d_St_fill_56 ?_
              refine j_iinc X (v := (-1 : Int32)) d_St_fill_59 2 rfl (by decide) (by decide) rfl ?_
              refine j_goto X d_St_fill_62 (tgt := 29) (by decide) ?_
              refine j_locs [1, 2, 0] rfl ?_
              exact ih29 _ _ hw
      obtain ⟨n, hw⟩ := hw
      refine j_locs [1, 2, 0] rfl ?_
      exact lp29 n _ _ hw
    · have hw := hw.2 h
      refine j_aload_n X d_St_fill_9 rfl 0 rfl ?_
      refine j_callVv (As := []) X (c_St_writeIdle_22 l D ca ad sz hD hw) (gcV (n := 0) X rfl rfl rfl gc_St_writeIdle m_St_writeIdle l_St_31 (by decide +kernel) ⟨by decide, by decide⟩) (q0 := 22) rfl rfl (fun _ h => h) rfl rfl (Nat.le_of_ble_eq_true rfl) ⟨by decide, by decide⟩ d_St_fill_10 (fun u1 hw => ?_)
      refine j_aload_n X d_St_fill_13 rfl 1 rfl ?_
      refine j_aload_n X d_St_fill_14 rfl 0 rfl ?_
      refine g_22_3 X f_St_34 (v := (u1 22 3)) rfl d_St_fill_15 ?_
      refine pN_26_1 X (n_St_37 sz) d_St_fill_18 ?_
      refine j_aload_n X d_St_fill_21 rfl 1 rfl ?_
      refine j_bipush X (v := (6 : Int32)) d_St_fill_22 (by decide) ?_
      refine pN_26_2 X (n_St_40 sz) d_St_fill_24 ?_
      refine j_iconst X (v := (5 : Int32)) d_St_fill_27 (by decide) ?_
      refine j_istore_n X d_St_fill_28 rfl (by decide) rfl ?_
      have lp29 : ∀ (n : Nat) (v2 : Int32) (s29 : Jst), w_St_fill_22_L29 K n v2 s29 → J p l e rm_St_fill_22 s m args below meth c D vwCl (wlT ad ca) (Aw sz) 3 0 0 (MQ below (va_Qv K (Jq D vwCl (wlT ad ca)) (Aw sz)) args s 0 0 (Aw sz)) 29 [(0, .ref (ad 22)), (1, .ref (ad 26)), (2, .int v2)] [] s29 := by
        intro n
        induction n with
        | zero => intro v2 s29 hw; exact (show False from hw).elim
        | succ n ih29 =>
          intro v2 s29 hw
          rw [w_St_fill_22_L29] at hw
          refine j_iload_n X d_St_fill_29 rfl 2 rfl ?_
          refine j_if_lt X d_St_fill_30 (tgt := 65) (by decide) (fun h => ?_) (fun h => ?_)
          · have hw := hw.1 h
            refine j_aload_n X d_St_fill_65 rfl 0 rfl ?_
            refine j_aload_n X d_St_fill_66 rfl 0 rfl ?_
            refine g_22_3 X f_St_34 (v := (s29 22 3)) rfl d_St_fill_67 ?_
            refine j_callSNi (As := [.int (s29 22 3)]) X (c_T_following l D ca ad sz hD hw) (gcSN (n := 1) X rfl rfl rfl gc_T_following m_T_following (n_St_44 sz) (by decide +kernel) ⟨by decide, by decide⟩) (fun _ h => h) rfl rfl (Nat.le_of_ble_eq_true rfl) ⟨by decide, by decide⟩ d_St_fill_70 (fun r2 u1 hw => ?_)
            refine p_22_3 X f_St_34 d_St_fill_73 ?_
            refine j_aload_n X d_St_fill_76 rfl 0 rfl ?_
            refine j_callVv (As := []) X (c_St_removeFrame_22 l D ca ad sz hD hw) (gcV (n := 0) X rfl rfl rfl gc_St_removeFrame m_St_removeFrame l_St_48 (by decide +kernel) ⟨by decide, by decide⟩) (q0 := 22) rfl rfl (fun _ h => h) rfl rfl (Nat.le_of_ble_eq_true rfl) ⟨by decide, by decide⟩ d_St_fill_77 (fun u3 hw => ?_)
            exact j_vret X hlk hr d_St_fill_80 hw
          · have hw := hw.2 h
            refine j_aload_n X d_St_fill_33 rfl 1 rfl ?_
            refine gN_26_0 X (n_St_43 sz) d_St_fill_34 ?_
            refine j_iload_n X d_St_fill_37 rfl 2 rfl ?_
            refine j_aload_n X d_St_fill_38 rfl 0 rfl ?_
            refine g_22_0 X f_St_11 d_St_fill_39 ?_
            refine j_iload_n X d_St_fill_42 rfl 2 rfl ?_
            refine ld_23 X hw.1 (v := (s29 23 (Int32.toNatClampNeg v2))) rfl d_St_fill_43 ?_
            have hw := hw.2
            refine sr_27 X hw.1 d_St_fill_44 ?_
            have hw := hw.2
            refine j_aload_n X d_St_fill_45 rfl 0 rfl ?_
            refine g_22_1 X f_St_15 d_St_fill_46 ?_
            refine j_iload_n X d_St_fill_49 rfl 2 rfl ?_
            refine ld_24 X hw.1 (v := (s29 24 (Int32.toNatClampNeg v2))) rfl d_St_fill_50 ?_
            have hw := hw.2
            refine j_if_eq X d_St_fill_51 (tgt := 59) (by decide) (fun h => ?_) (fun h => ?_)
            · have hw := hw.1 h
              refine j_iinc X (v := (-1 : Int32)) d_St_fill_59 2 rfl (by decide) (by decide) rfl ?_
              refine j_goto X d_St_fill_62 (tgt := 29) (by decide) ?_
              refine j_locs [1, 2, 0] rfl ?_
              exact ih29 _ _ hw
            · have hw := hw.2 h
              refine j_aload_n X d_St_fill_54 rfl 1 rfl ?_
              refine j_iload_n X d_St_fill_55 rfl 2 rfl ?_
              refine pN_26_2 X (n_St_40 sz) d_St_fill_56 ?_
              refine j_iinc X (v := (-1 : Int32)) d_St_fill_59 2 rfl (by decide) (by decide) rfl ?_
              refine j_goto X d_St_fill_62 (tgt := 29) (by decide) ?_
              refine j_locs [1, 2, 0] rfl ?_
              exact ih29 _ _ hw
      obtain ⟨n, hw⟩ := hw
      refine j_locs [1, 2, 0] rfl ?_
      exact lp29 n _ _ hw
  exact hX
