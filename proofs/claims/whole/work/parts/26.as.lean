def w_As_read_21 (a1 : Int32) (σ : Jst) (K : Jst → Prop) : Prop := ((¬ (σ 21 3) = (0 : Int32) → ((¬ (σ 21 3) = (1 : Int32) → ((((σ 21 3) + (1 : Int32)) < (2 : Int32) → K (jup (jup σ 21 6 ((σ 21 6) + a1)) 21 3 ((σ 21 3) + (1 : Int32)))) ∧ (¬ ((σ 21 3) + (1 : Int32)) < (2 : Int32) → ((¬ (((σ 21 3) + (1 : Int32)) - (2 : Int32)) = (σ 21 5) → K (jup (jup σ 21 6 ((σ 21 6) + a1)) 21 3 ((σ 21 3) + (1 : Int32)))) ∧ ((((σ 21 3) + (1 : Int32)) - (2 : Int32)) = (σ 21 5) → (((σ 21 4) = (0 : Int32) → K (jup (jup (jup σ 21 6 ((σ 21 6) + a1)) 21 3 ((σ 21 3) + (1 : Int32))) 21 3 (0 : Int32))) ∧ (¬ (σ 21 4) = (0 : Int32) → w_Rc_add (σ 21 0) (σ 21 4) (σ 21 5) ((σ 21 6) + a1) (jup (jup (jup σ 21 6 ((σ 21 6) + a1)) 21 3 ((σ 21 3) + (1 : Int32))) 21 3 (0 : Int32)) (fun u1 => K u1)))))))) ∧ ((σ 21 3) = (1 : Int32) → ((((σ 21 3) + (1 : Int32)) < (2 : Int32) → K (jup (jup σ 21 5 a1) 21 3 ((σ 21 3) + (1 : Int32)))) ∧ (¬ ((σ 21 3) + (1 : Int32)) < (2 : Int32) → ((¬ (((σ 21 3) + (1 : Int32)) - (2 : Int32)) = a1 → K (jup (jup σ 21 5 a1) 21 3 ((σ 21 3) + (1 : Int32)))) ∧ ((((σ 21 3) + (1 : Int32)) - (2 : Int32)) = a1 → (((σ 21 4) = (0 : Int32) → K (jup (jup (jup σ 21 5 a1) 21 3 ((σ 21 3) + (1 : Int32))) 21 3 (0 : Int32))) ∧ (¬ (σ 21 4) = (0 : Int32) → w_Rc_add (σ 21 0) (σ 21 4) a1 (σ 21 6) (jup (jup (jup σ 21 5 a1) 21 3 ((σ 21 3) + (1 : Int32))) 21 3 (0 : Int32)) (fun u2 => K u2)))))))))) ∧ ((σ 21 3) = (0 : Int32) → ((((σ 21 3) + (1 : Int32)) < (2 : Int32) → K (jup (jup (jup σ 21 4 a1) 21 6 (0 : Int32)) 21 3 ((σ 21 3) + (1 : Int32)))) ∧ (¬ ((σ 21 3) + (1 : Int32)) < (2 : Int32) → ((¬ (((σ 21 3) + (1 : Int32)) - (2 : Int32)) = (σ 21 5) → K (jup (jup (jup σ 21 4 a1) 21 6 (0 : Int32)) 21 3 ((σ 21 3) + (1 : Int32)))) ∧ ((((σ 21 3) + (1 : Int32)) - (2 : Int32)) = (σ 21 5) → ((a1 = (0 : Int32) → K (jup (jup (jup (jup σ 21 4 a1) 21 6 (0 : Int32)) 21 3 ((σ 21 3) + (1 : Int32))) 21 3 (0 : Int32))) ∧ (¬ a1 = (0 : Int32) → w_Rc_add (σ 21 0) a1 (σ 21 5) (0 : Int32) (jup (jup (jup (jup σ 21 4 a1) 21 6 (0 : Int32)) 21 3 ((σ 21 3) + (1 : Int32))) 21 3 (0 : Int32)) (fun u3 => K u3)))))))))
abbrev rm_As_read_21 : Room := { frames := 1, cells := 0, slots := 0, locals := 24 }
set_option maxRecDepth 100000 in
set_option maxHeartbeats 4000000 in
theorem c_As_read_21 (l : Launch) (D : va_G) (ca ad : Nat → Nat) (sz : Nat) (hD : Jd ca ad sz) {a1 : Int32} {σ : Jst} {K : Jst → Prop} (hw : w_As_read_21 a1 σ K) : Met l y_As_read (wG y_As_read b_As_read 3 none) rm_As_read_21 (va_Pc [.ref (ad 21), .int a1, .ref (ad 28)] (Jw D vwCl (tysT ca) (wlT ad ca) (NwT sz) σ)) (va_Qv K (Jq D vwCl (wlT ad ca)) (Aw sz)) 0 0 (Aw sz) := by
  refine j_met (cc := b_As_read) (own := R_As) (by decide +kernel) rfl (Nat.le_of_ble_eq_true rfl) rfl hD (nwT_k sz) ?_
  intro p e s m args below meth c X hlk hr
  have hX : J p l e rm_As_read_21 s m args below meth c D vwCl (wlT ad ca) (Aw sz) 3 0 0 (MQ below (va_Qv K (Jq D vwCl (wlT ad ca)) (Aw sz)) args s 0 0 (Aw sz)) 0 [(0, .ref (ad 21)), (1, .int a1), (2, .ref (ad 28))] [] σ := by
    unfold w_As_read_21 at hw
    refine j_aload_n X d_As_read_0 rfl 0 rfl ?_
    refine g_21_3 X f_As_27 (v := (σ 21 3)) rfl d_As_read_1 ?_
    refine j_if_ne X d_As_read_4 (tgt := 20) (by decide) (fun h => ?_) (fun h => ?_)
    · have hw := hw.1 h
      refine j_aload_n X d_As_read_20 rfl 0 rfl ?_
      refine g_21_3 X f_As_27 (v := (σ 21 3)) rfl d_As_read_21 ?_
      refine j_iconst X (v := (1 : Int32)) d_As_read_24 (by decide) ?_
      refine j_icmp_ne X d_As_read_25 (tgt := 36) (by decide) (fun h => ?_) (fun h => ?_)
      · have hw := hw.1 h
        refine j_aload_n X d_As_read_36 rfl 0 rfl ?_
        refine j_dup X d_As_read_37 rfl ?_
        refine g_21_6 X f_As_48 (v := (σ 21 6)) rfl d_As_read_38 ?_
        refine j_iload_n X d_As_read_41 rfl 1 rfl ?_
        refine j_iadd X d_As_read_42 ?_
        refine p_21_6 X f_As_48 d_As_read_43 ?_
        refine j_aload_n X d_As_read_46 rfl 0 rfl ?_
        refine j_dup X d_As_read_47 rfl ?_
        refine g_21_3 X f_As_27 (v := (σ 21 3)) rfl d_As_read_48 ?_
        refine j_iconst X (v := (1 : Int32)) d_As_read_51 (by decide) ?_
        refine j_iadd X d_As_read_52 ?_
        refine p_21_3 X f_As_27 d_As_read_53 ?_
        refine j_aload_n X d_As_read_56 rfl 0 rfl ?_
        refine g_21_3 X f_As_27 (v := ((σ 21 3) + (1 : Int32))) rfl d_As_read_57 ?_
        refine j_iconst X (v := (2 : Int32)) d_As_read_60 (by decide) ?_
        refine j_icmp_lt X d_As_read_61 (tgt := 109) (by decide) (fun h => ?_) (fun h => ?_)
        · have hw := hw.1 h
          exact j_vret X hlk hr d_As_read_109 hw
        · have hw := hw.2 h
          refine j_aload_n X d_As_read_64 rfl 0 rfl ?_
          refine g_21_3 X f_As_27 (v := ((σ 21 3) + (1 : Int32))) rfl d_As_read_65 ?_
          refine j_iconst X (v := (2 : Int32)) d_As_read_68 (by decide) ?_
          refine j_isub X d_As_read_69 ?_
          refine j_aload_n X d_As_read_70 rfl 0 rfl ?_
          refine g_21_5 X f_As_51 (v := (σ 21 5)) rfl d_As_read_71 ?_
          refine j_icmp_ne X d_As_read_74 (tgt := 109) (by decide) (fun h => ?_) (fun h => ?_)
          · have hw := hw.1 h
            exact j_vret X hlk hr d_As_read_109 hw
          · have hw := hw.2 h
            refine j_aload_n X d_As_read_77 rfl 0 rfl ?_
            refine j_iconst X (v := (0 : Int32)) d_As_read_78 (by decide) ?_
            refine p_21_3 X f_As_27 d_As_read_79 ?_
            refine j_aload_n X d_As_read_82 rfl 0 rfl ?_
            refine g_21_4 X f_As_45 (v := (σ 21 4)) rfl d_As_read_83 ?_
            refine j_if_eq X d_As_read_86 (tgt := 109) (by decide) (fun h => ?_) (fun h => ?_)
            · have hw := hw.1 h
              exact j_vret X hlk hr d_As_read_109 hw
            · have hw := hw.2 h
              refine j_aload_n X d_As_read_89 rfl 2 rfl ?_
              refine j_aload_n X d_As_read_90 rfl 0 rfl ?_
              refine g_21_0 X f_As_15 (v := (σ 21 0)) rfl d_As_read_91 ?_
              refine j_aload_n X d_As_read_94 rfl 0 rfl ?_
              refine g_21_4 X f_As_45 (v := (σ 21 4)) rfl d_As_read_95 ?_
              refine j_aload_n X d_As_read_98 rfl 0 rfl ?_
              refine g_21_5 X f_As_51 (v := (σ 21 5)) rfl d_As_read_99 ?_
              refine j_aload_n X d_As_read_102 rfl 0 rfl ?_
              refine g_21_6 X f_As_48 (v := ((σ 21 6) + a1)) rfl d_As_read_103 ?_
              refine j_callVv (As := [.int (σ 21 0), .int (σ 21 4), .int (σ 21 5), .int ((σ 21 6) + a1)]) X (c_Rc_add l D ca ad sz hD hw) (gcV (n := 4) X rfl rfl rfl gc_Rc_add m_Rc_add l_As_54 (by decide +kernel) ⟨by decide, by decide⟩) (q0 := 28) rfl rfl (fun _ h => h) rfl rfl (Nat.le_of_ble_eq_true rfl) ⟨by decide, by decide⟩ d_As_read_106 (fun u1 hw => ?_)
              exact j_vret X hlk hr d_As_read_109 hw
      · have hw := hw.2 h
        refine j_aload_n X d_As_read_28 rfl 0 rfl ?_
        refine j_iload_n X d_As_read_29 rfl 1 rfl ?_
        refine p_21_5 X f_As_51 d_As_read_30 ?_
        refine j_goto X d_As_read_33 (tgt := 46) (by decide) ?_
        refine j_aload_n X d_As_read_46 rfl 0 rfl ?_
        refine j_dup X d_As_read_47 rfl ?_
        refine g_21_3 X f_As_27 (v := (σ 21 3)) rfl d_As_read_48 ?_
        refine j_iconst X (v := (1 : Int32)) d_As_read_51 (by decide) ?_
        refine j_iadd X d_As_read_52 ?_
        refine p_21_3 X f_As_27 d_As_read_53 ?_
        refine j_aload_n X d_As_read_56 rfl 0 rfl ?_
        refine g_21_3 X f_As_27 (v := ((σ 21 3) + (1 : Int32))) rfl d_As_read_57 ?_
        refine j_iconst X (v := (2 : Int32)) d_As_read_60 (by decide) ?_
        refine j_icmp_lt X d_As_read_61 (tgt := 109) (by decide) (fun h => ?_) (fun h => ?_)
        · have hw := hw.1 h
          exact j_vret X hlk hr d_As_read_109 hw
        · have hw := hw.2 h
          refine j_aload_n X d_As_read_64 rfl 0 rfl ?_
          refine g_21_3 X f_As_27 (v := ((σ 21 3) + (1 : Int32))) rfl d_As_read_65 ?_
          refine j_iconst X (v := (2 : Int32)) d_As_read_68 (by decide) ?_
          refine j_isub X d_As_read_69 ?_
          refine j_aload_n X d_As_read_70 rfl 0 rfl ?_
          refine g_21_5 X f_As_51 (v := a1) rfl d_As_read_71 ?_
          refine j_icmp_ne X d_As_read_74 (tgt := 109) (by decide) (fun h => ?_) (fun h => ?_)
          · have hw := hw.1 h
            exact j_vret X hlk hr d_As_read_109 hw
          · have hw := hw.2 h
            refine j_aload_n X d_As_read_77 rfl 0 rfl ?_
            refine j_iconst X (v := (0 : Int32)) d_As_read_78 (by decide) ?_
            refine p_21_3 X f_As_27 d_As_read_79 ?_
            refine j_aload_n X d_As_read_82 rfl 0 rfl ?_
            refine g_21_4 X f_As_45 (v := (σ 21 4)) rfl d_As_read_83 ?_
            refine j_if_eq X d_As_read_86 (tgt := 109) (by decide) (fun h => ?_) (fun h => ?_)
            · have hw := hw.1 h
              exact j_vret X hlk hr d_As_read_109 hw
            · have hw := hw.2 h
              refine j_aload_n X d_As_read_89 rfl 2 rfl ?_
              refine j_aload_n X d_As_read_90 rfl 0 rfl ?_
              refine g_21_0 X f_As_15 (v := (σ 21 0)) rfl d_As_read_91 ?_
              refine j_aload_n X d_As_read_94 rfl 0 rfl ?_
              refine g_21_4 X f_As_45 (v := (σ 21 4)) rfl d_As_read_95 ?_
              refine j_aload_n X d_As_read_98 rfl 0 rfl ?_
              refine g_21_5 X f_As_51 (v := a1) rfl d_As_read_99 ?_
              refine j_aload_n X d_As_read_102 rfl 0 rfl ?_
              refine g_21_6 X f_As_48 (v := (σ 21 6)) rfl d_As_read_103 ?_
              refine j_callVv (As := [.int (σ 21 0), .int (σ 21 4), .int a1, .int (σ 21 6)]) X (c_Rc_add l D ca ad sz hD hw) (gcV (n := 4) X rfl rfl rfl gc_Rc_add m_Rc_add l_As_54 (by decide +kernel) ⟨by decide, by decide⟩) (q0 := 28) rfl rfl (fun _ h => h) rfl rfl (Nat.le_of_ble_eq_true rfl) ⟨by decide, by decide⟩ d_As_read_106 (fun u2 hw => ?_)
              exact j_vret X hlk hr d_As_read_109 hw
    · have hw := hw.2 h
      refine j_aload_n X d_As_read_7 rfl 0 rfl ?_
      refine j_iload_n X d_As_read_8 rfl 1 rfl ?_
      refine p_21_4 X f_As_45 d_As_read_9 ?_
      refine j_aload_n X d_As_read_12 rfl 0 rfl ?_
      refine j_iconst X (v := (0 : Int32)) d_As_read_13 (by decide) ?_
      refine p_21_6 X f_As_48 d_As_read_14 ?_
      refine j_goto X d_As_read_17 (tgt := 46) (by decide) ?_
      refine j_aload_n X d_As_read_46 rfl 0 rfl ?_
      refine j_dup X d_As_read_47 rfl ?_
      refine g_21_3 X f_As_27 (v := (σ 21 3)) rfl d_As_read_48 ?_
      refine j_iconst X (v := (1 : Int32)) d_As_read_51 (by decide) ?_
      refine j_iadd X d_As_read_52 ?_
      refine p_21_3 X f_As_27 d_As_read_53 ?_
      refine j_aload_n X d_As_read_56 rfl 0 rfl ?_
      refine g_21_3 X f_As_27 (v := ((σ 21 3) + (1 : Int32))) rfl d_As_read_57 ?_
      refine j_iconst X (v := (2 : Int32)) d_As_read_60 (by decide) ?_
      refine j_icmp_lt X d_As_read_61 (tgt := 109) (by decide) (fun h => ?_) (fun h => ?_)
      · have hw := hw.1 h
        exact j_vret X hlk hr d_As_read_109 hw
      · have hw := hw.2 h
        refine j_aload_n X d_As_read_64 rfl 0 rfl ?_
        refine g_21_3 X f_As_27 (v := ((σ 21 3) + (1 : Int32))) rfl d_As_read_65 ?_
        refine j_iconst X (v := (2 : Int32)) d_As_read_68 (by decide) ?_
        refine j_isub X d_As_read_69 ?_
        refine j_aload_n X d_As_read_70 rfl 0 rfl ?_
        refine g_21_5 X f_As_51 (v := (σ 21 5)) rfl d_As_read_71 ?_
        refine j_icmp_ne X d_As_read_74 (tgt := 109) (by decide) (fun h => ?_) (fun h => ?_)
        · have hw := hw.1 h
          exact j_vret X hlk hr d_As_read_109 hw
        · have hw := hw.2 h
          refine j_aload_n X d_As_read_77 rfl 0 rfl ?_
          refine j_iconst X (v := (0 : Int32)) d_As_read_78 (by decide) ?_
          refine p_21_3 X f_As_27 d_As_read_79 ?_
          refine j_aload_n X d_As_read_82 rfl 0 rfl ?_
          refine g_21_4 X f_As_45 (v := a1) rfl d_As_read_83 ?_
          refine j_if_eq X d_As_read_86 (tgt := 109) (by decide) (fun h => ?_) (fun h => ?_)
          · have hw := hw.1 h
            exact j_vret X hlk hr d_As_read_109 hw
          · have hw := hw.2 h
            refine j_aload_n X d_As_read_89 rfl 2 rfl ?_
            refine j_aload_n X d_As_read_90 rfl 0 rfl ?_
            refine g_21_0 X f_As_15 (v := (σ 21 0)) rfl d_As_read_91 ?_
            refine j_aload_n X d_As_read_94 rfl 0 rfl ?_
            refine g_21_4 X f_As_45 (v := a1) rfl d_As_read_95 ?_
            refine j_aload_n X d_As_read_98 rfl 0 rfl ?_
            refine g_21_5 X f_As_51 (v := (σ 21 5)) rfl d_As_read_99 ?_
            refine j_aload_n X d_As_read_102 rfl 0 rfl ?_
            refine g_21_6 X f_As_48 (v := (0 : Int32)) rfl d_As_read_103 ?_
            refine j_callVv (As := [.int (σ 21 0), .int a1, .int (σ 21 5), .int (0 : Int32)]) X (c_Rc_add l D ca ad sz hD hw) (gcV (n := 4) X rfl rfl rfl gc_Rc_add m_Rc_add l_As_54 (by decide +kernel) ⟨by decide, by decide⟩) (q0 := 28) rfl rfl (fun _ h => h) rfl rfl (Nat.le_of_ble_eq_true rfl) ⟨by decide, by decide⟩ d_As_read_106 (fun u3 hw => ?_)
            exact j_vret X hlk hr d_As_read_109 hw
  exact hX
def w_As_receive_21_L48 (K : Jst → Prop) : Nat → Int32 → Int32 → Jst → Prop
  | 0, _, _, _ => False
  | n + 1, v3, v4, s48 => (((6 : Int32) ≤ v4 → w_T_following (s48 26 1) s48 (fun r2 u1 => K (jup u1 21 1 r2))) ∧ (¬ (6 : Int32) ≤ v4 → (vp_in v4 6 ∧ w_As_read_21 (s48 27 (Int32.toNatClampNeg v4)) s48 (fun u3 => w_As_receive_21_L48 K n v3 (v4 + (1 : Int32)) u3))))
def w_As_receive_21 (σ : Jst) (K : Jst → Prop) : Prop := (((σ 21 2) = (0 : Int32) → (((6 : Int32) ≤ (σ 26 2) → (∃ n, w_As_receive_21_L48 K n (σ 26 2) (σ 26 2) (jup (jup σ 21 3 (0 : Int32)) 21 2 (0 : Int32)))) ∧ (¬ (6 : Int32) ≤ (σ 26 2) → (∃ n, w_As_receive_21_L48 K n (σ 26 2) (σ 26 2) (jup (jup σ 21 3 (0 : Int32)) 21 2 (1 : Int32)))))) ∧ (¬ (σ 21 2) = (0 : Int32) → (((σ 26 1) = (σ 21 1) → (∃ n, w_As_receive_21_L48 K n (0 : Int32) (0 : Int32) σ)) ∧ (¬ (σ 26 1) = (σ 21 1) → (((6 : Int32) ≤ (σ 26 2) → (∃ n, w_As_receive_21_L48 K n (σ 26 2) (σ 26 2) (jup (jup σ 21 3 (0 : Int32)) 21 2 (0 : Int32)))) ∧ (¬ (6 : Int32) ≤ (σ 26 2) → (∃ n, w_As_receive_21_L48 K n (σ 26 2) (σ 26 2) (jup (jup σ 21 3 (0 : Int32)) 21 2 (1 : Int32)))))))))
abbrev rm_As_receive_21 : Room := { frames := 2, cells := 0, slots := 0, locals := 46 }
set_option maxRecDepth 100000 in
set_option maxHeartbeats 4000000 in
theorem c_As_receive_21 (l : Launch) (D : va_G) (ca ad : Nat → Nat) (sz : Nat) (hD : Jd ca ad sz) {σ : Jst} {K : Jst → Prop} (hw : w_As_receive_21 σ K) : Met l y_As_receive (wG y_As_receive b_As_receive 5 none) rm_As_receive_21 (va_Pc [.ref (ad 21), .ref (ad 26), .ref (ad 28)] (Jw D vwCl (tysT ca) (wlT ad ca) (NwT sz) σ)) (va_Qv K (Jq D vwCl (wlT ad ca)) (Aw sz)) 0 0 (Aw sz) := by
  refine j_met (cc := b_As_receive) (own := R_As) (by decide +kernel) rfl (Nat.le_of_ble_eq_true rfl) rfl hD (nwT_k sz) ?_
  intro p e s m args below meth c X hlk hr
  have hX : J p l e rm_As_receive_21 s m args below meth c D vwCl (wlT ad ca) (Aw sz) 5 0 0 (MQ below (va_Qv K (Jq D vwCl (wlT ad ca)) (Aw sz)) args s 0 0 (Aw sz)) 0 [(0, .ref (ad 21)), (1, .ref (ad 26)), (2, .ref (ad 28))] [] σ := by
    unfold w_As_receive_21 at hw
    refine j_iconst X (v := (0 : Int32)) d_As_receive_0 (by decide) ?_
    refine j_istore_n X d_As_receive_1 rfl (by decide) rfl ?_
    refine j_aload_n X d_As_receive_2 rfl 1 rfl ?_
    refine g_21_2 X f_As_9 (v := (σ 21 2)) rfl d_As_receive_3 ?_
    refine j_if_eq X d_As_receive_6 (tgt := 20) (by decide) (fun h => ?_) (fun h => ?_)
    · have hw := hw.1 h
      refine j_aload_n X d_As_receive_20 rfl 1 rfl ?_
      refine j_iconst X (v := (0 : Int32)) d_As_receive_21 (by decide) ?_
      refine p_21_3 X f_As_27 d_As_receive_22 ?_
      refine j_aload_n X d_As_receive_25 rfl 2 rfl ?_
      refine gN_26_2 X (n_As_30 sz) (v := (σ 26 2)) rfl d_As_receive_26 ?_
      refine j_istore_n X d_As_receive_29 rfl (by decide) rfl ?_
      refine j_aload_n X d_As_receive_30 rfl 1 rfl ?_
      refine j_iload_n X d_As_receive_31 rfl 0 rfl ?_
      refine j_bipush X (v := (6 : Int32)) d_As_receive_32 (by decide) ?_
      refine j_icmp_ge X d_As_receive_34 (tgt := 41) (by decide) (fun h => ?_) (fun h => ?_)
      · have hw := hw.1 h
        refine j_iconst X (v := (0 : Int32)) d_As_receive_41 (by decide) ?_
        refine p_21_2 X f_As_9 rfl rfl d_As_receive_42 ?_
        refine j_iload_n X d_As_receive_45 rfl 0 rfl ?_
        refine j_istore X d_As_receive_46 (by decide) rfl ?_
        have lp48 : ∀ (n : Nat) (v3 v4 : Int32) (s48 : Jst), w_As_receive_21_L48 K n v3 v4 s48 → J p l e rm_As_receive_21 s m args below meth c D vwCl (wlT ad ca) (Aw sz) 5 0 0 (MQ below (va_Qv K (Jq D vwCl (wlT ad ca)) (Aw sz)) args s 0 0 (Aw sz)) 48 [(0, .ref (ad 21)), (1, .ref (ad 26)), (2, .ref (ad 28)), (3, .int v3), (4, .int v4)] [] s48 := by
          intro n
          induction n with
          | zero => intro v3 v4 s48 hw; exact (show False from hw).elim
          | succ n ih48 =>
            intro v3 v4 s48 hw
            rw [w_As_receive_21_L48] at hw
            refine j_iload X d_As_receive_48 4 rfl ?_
            refine j_bipush X (v := (6 : Int32)) d_As_receive_50 (by decide) ?_
            refine j_icmp_ge X d_As_receive_52 (tgt := 73) (by decide) (fun h => ?_) (fun h => ?_)
            · have hw := hw.1 h
              refine j_aload_n X d_As_receive_73 rfl 0 rfl ?_
              refine j_aload_n X d_As_receive_74 rfl 1 rfl ?_
              refine gN_26_1 X (n_As_19 sz) (v := (s48 26 1)) rfl d_As_receive_75 ?_
              refine j_callSNi (As := [.int (s48 26 1)]) X (c_T_following l D ca ad sz hD hw) (gcSN (n := 1) X rfl rfl rfl gc_T_following m_T_following (n_As_41 sz) (by decide +kernel) ⟨by decide, by decide⟩) (fun _ h => h) rfl rfl (Nat.le_of_ble_eq_true rfl) ⟨by decide, by decide⟩ d_As_receive_78 (fun r2 u1 hw => ?_)
              refine p_21_1 X f_As_24 d_As_receive_81 ?_
              exact j_vret X hlk hr d_As_receive_84 hw
            · have hw := hw.2 h
              refine j_aload_n X d_As_receive_55 rfl 0 rfl ?_
              refine j_aload_n X d_As_receive_56 rfl 1 rfl ?_
              refine gN_26_0 X (n_As_33 sz) d_As_receive_57 ?_
              refine j_iload X d_As_receive_60 4 rfl ?_
              refine ld_27 X hw.1 (v := (s48 27 (Int32.toNatClampNeg v4))) rfl d_As_receive_62 ?_
              have hw := hw.2
              refine j_aload_n X d_As_receive_63 rfl 2 rfl ?_
              refine j_callVv (As := [.int (s48 27 (Int32.toNatClampNeg v4)), .ref (ad 28)]) X (c_As_read_21 l D ca ad sz hD hw) (gcV (n := 2) X rfl rfl rfl gc_As_read m_As_read l_As_37 (by decide +kernel) ⟨by decide, by decide⟩) (q0 := 21) rfl rfl (fun _ h => h) rfl rfl (Nat.le_of_ble_eq_true rfl) ⟨by decide, by decide⟩ d_As_receive_64 (fun u3 hw => ?_)
              refine j_iinc X (v := (1 : Int32)) d_As_receive_67 4 rfl (by decide) (by decide) rfl ?_
              refine j_goto X d_As_receive_70 (tgt := 48) (by decide) ?_
              refine j_locs [1, 2, 3, 4, 0] rfl ?_
              exact ih48 _ _ _ hw
        obtain ⟨n, hw⟩ := hw
        refine j_locs [2, 3, 4, 1, 0] rfl ?_
        exact lp48 n _ _ _ hw
      · have hw := hw.2 h
        refine j_iconst X (v := (1 : Int32)) d_As_receive_37 (by decide) ?_
        refine j_goto X d_As_receive_38 (tgt := 42) (by decide) ?_
        refine p_21_2 X f_As_9 rfl rfl d_As_receive_42 ?_
        refine j_iload_n X d_As_receive_45 rfl 0 rfl ?_
        refine j_istore X d_As_receive_46 (by decide) rfl ?_
        have lp48 : ∀ (n : Nat) (v3 v4 : Int32) (s48 : Jst), w_As_receive_21_L48 K n v3 v4 s48 → J p l e rm_As_receive_21 s m args below meth c D vwCl (wlT ad ca) (Aw sz) 5 0 0 (MQ below (va_Qv K (Jq D vwCl (wlT ad ca)) (Aw sz)) args s 0 0 (Aw sz)) 48 [(0, .ref (ad 21)), (1, .ref (ad 26)), (2, .ref (ad 28)), (3, .int v3), (4, .int v4)] [] s48 := by
          intro n
          induction n with
          | zero => intro v3 v4 s48 hw; exact (show False from hw).elim
          | succ n ih48 =>
            intro v3 v4 s48 hw
            rw [w_As_receive_21_L48] at hw
            refine j_iload X d_As_receive_48 4 rfl ?_
            refine j_bipush X (v := (6 : Int32)) d_As_receive_50 (by decide) ?_
            refine j_icmp_ge X d_As_receive_52 (tgt := 73) (by decide) (fun h => ?_) (fun h => ?_)
            · have hw := hw.1 h
              refine j_aload_n X d_As_receive_73 rfl 0 rfl ?_
              refine j_aload_n X d_As_receive_74 rfl 1 rfl ?_
              refine gN_26_1 X (n_As_19 sz) (v := (s48 26 1)) rfl d_As_receive_75 ?_
              refine j_callSNi (As := [.int (s48 26 1)]) X (c_T_following l D ca ad sz hD hw) (gcSN (n := 1) X rfl rfl rfl gc_T_following m_T_following (n_As_41 sz) (by decide +kernel) ⟨by decide, by decide⟩) (fun _ h => h) rfl rfl (Nat.le_of_ble_eq_true rfl) ⟨by decide, by decide⟩ d_As_receive_78 (fun r2 u1 hw => ?_)
              refine p_21_1 X f_As_24 d_As_receive_81 ?_
              exact j_vret X hlk hr d_As_receive_84 hw
            · have hw := hw.2 h
              refine j_aload_n X d_As_receive_55 rfl 0 rfl ?_
              refine j_aload_n X d_As_receive_56 rfl 1 rfl ?_
              refine gN_26_0 X (n_As_33 sz) d_As_receive_57 ?_
              refine j_iload X d_As_receive_60 4 rfl ?_
              refine ld_27 X hw.1 (v := (s48 27 (Int32.toNatClampNeg v4))) rfl d_As_receive_62 ?_
              have hw := hw.2
              refine j_aload_n X d_As_receive_63 rfl 2 rfl ?_
              refine j_callVv (As := [.int (s48 27 (Int32.toNatClampNeg v4)), .ref (ad 28)]) X (c_As_read_21 l D ca ad sz hD hw) (gcV (n := 2) X rfl rfl rfl gc_As_read m_As_read l_As_37 (by decide +kernel) ⟨by decide, by decide⟩) (q0 := 21) rfl rfl (fun _ h => h) rfl rfl (Nat.le_of_ble_eq_true rfl) ⟨by decide, by decide⟩ d_As_receive_64 (fun u3 hw => ?_)
              refine j_iinc X (v := (1 : Int32)) d_As_receive_67 4 rfl (by decide) (by decide) rfl ?_
              refine j_goto X d_As_receive_70 (tgt := 48) (by decide) ?_
              refine j_locs [1, 2, 3, 4, 0] rfl ?_
              exact ih48 _ _ _ hw
        obtain ⟨n, hw⟩ := hw
        refine j_locs [2, 3, 4, 1, 0] rfl ?_
        exact lp48 n _ _ _ hw
    · have hw := hw.2 h
      refine j_aload_n X d_As_receive_9 rfl 2 rfl ?_
      refine gN_26_1 X (n_As_19 sz) (v := (σ 26 1)) rfl d_As_receive_10 ?_
      refine j_aload_n X d_As_receive_13 rfl 1 rfl ?_
      refine g_21_1 X f_As_24 (v := (σ 21 1)) rfl d_As_receive_14 ?_
      refine j_icmp_eq X d_As_receive_17 (tgt := 45) (by decide) (fun h => ?_) (fun h => ?_)
      · have hw := hw.1 h
        refine j_iload_n X d_As_receive_45 rfl 0 rfl ?_
        refine j_istore X d_As_receive_46 (by decide) rfl ?_
        have lp48 : ∀ (n : Nat) (v3 v4 : Int32) (s48 : Jst), w_As_receive_21_L48 K n v3 v4 s48 → J p l e rm_As_receive_21 s m args below meth c D vwCl (wlT ad ca) (Aw sz) 5 0 0 (MQ below (va_Qv K (Jq D vwCl (wlT ad ca)) (Aw sz)) args s 0 0 (Aw sz)) 48 [(0, .ref (ad 21)), (1, .ref (ad 26)), (2, .ref (ad 28)), (3, .int v3), (4, .int v4)] [] s48 := by
          intro n
          induction n with
          | zero => intro v3 v4 s48 hw; exact (show False from hw).elim
          | succ n ih48 =>
            intro v3 v4 s48 hw
            rw [w_As_receive_21_L48] at hw
            refine j_iload X d_As_receive_48 4 rfl ?_
            refine j_bipush X (v := (6 : Int32)) d_As_receive_50 (by decide) ?_
            refine j_icmp_ge X d_As_receive_52 (tgt := 73) (by decide) (fun h => ?_) (fun h => ?_)
            · have hw := hw.1 h
              refine j_aload_n X d_As_receive_73 rfl 0 rfl ?_
              refine j_aload_n X d_As_receive_74 rfl 1 rfl ?_
              refine gN_26_1 X (n_As_19 sz) (v := (s48 26 1)) rfl d_As_receive_75 ?_
              refine j_callSNi (As := [.int (s48 26 1)]) X (c_T_following l D ca ad sz hD hw) (gcSN (n := 1) X rfl rfl rfl gc_T_following m_T_following (n_As_41 sz) (by decide +kernel) ⟨by decide, by decide⟩) (fun _ h => h) rfl rfl (Nat.le_of_ble_eq_true rfl) ⟨by decide, by decide⟩ d_As_receive_78 (fun r2 u1 hw => ?_)
              refine p_21_1 X f_As_24 d_As_receive_81 ?_
              exact j_vret X hlk hr d_As_receive_84 hw
            · have hw := hw.2 h
              refine j_aload_n X d_As_receive_55 rfl 0 rfl ?_
              refine j_aload_n X d_As_receive_56 rfl 1 rfl ?_
              refine gN_26_0 X (n_As_33 sz) d_As_receive_57 ?_
              refine j_iload X d_As_receive_60 4 rfl ?_
              refine ld_27 X hw.1 (v := (s48 27 (Int32.toNatClampNeg v4))) rfl d_As_receive_62 ?_
              have hw := hw.2
              refine j_aload_n X d_As_receive_63 rfl 2 rfl ?_
              refine j_callVv (As := [.int (s48 27 (Int32.toNatClampNeg v4)), .ref (ad 28)]) X (c_As_read_21 l D ca ad sz hD hw) (gcV (n := 2) X rfl rfl rfl gc_As_read m_As_read l_As_37 (by decide +kernel) ⟨by decide, by decide⟩) (q0 := 21) rfl rfl (fun _ h => h) rfl rfl (Nat.le_of_ble_eq_true rfl) ⟨by decide, by decide⟩ d_As_receive_64 (fun u3 hw => ?_)
              refine j_iinc X (v := (1 : Int32)) d_As_receive_67 4 rfl (by decide) (by decide) rfl ?_
              refine j_goto X d_As_receive_70 (tgt := 48) (by decide) ?_
              refine j_locs [1, 2, 3, 4, 0] rfl ?_
              exact ih48 _ _ _ hw
        obtain ⟨n, hw⟩ := hw
        refine j_locs [2, 3, 4, 1, 0] rfl ?_
        exact lp48 n _ _ _ hw
      · have hw := hw.2 h
        refine j_aload_n X d_As_receive_20 rfl 1 rfl ?_
        refine j_iconst X (v := (0 : Int32)) d_As_receive_21 (by decide) ?_
        refine p_21_3 X f_As_27 d_As_receive_22 ?_
        refine j_aload_n X d_As_receive_25 rfl 2 rfl ?_
        refine gN_26_2 X (n_As_30 sz) (v := (σ 26 2)) rfl d_As_receive_26 ?_
        refine j_istore_n X d_As_receive_29 rfl (by decide) rfl ?_
        refine j_aload_n X d_As_receive_30 rfl 1 rfl ?_
        refine j_iload_n X d_As_receive_31 rfl 0 rfl ?_
        refine j_bipush X (v := (6 : Int32)) d_As_receive_32 (by decide) ?_
        refine j_icmp_ge X d_As_receive_34 (tgt := 41) (by decide) (fun h => ?_) (fun h => ?_)
        · have hw := hw.1 h
          refine j_iconst X (v := (0 : Int32)) d_As_receive_41 (by decide) ?_
          refine p_21_2 X f_As_9 rfl rfl d_As_receive_42 ?_
          refine j_iload_n X d_As_receive_45 rfl 0 rfl ?_
          refine j_istore X d_As_receive_46 (by decide) rfl ?_
          have lp48 : ∀ (n : Nat) (v3 v4 : Int32) (s48 : Jst), w_As_receive_21_L48 K n v3 v4 s48 → J p l e rm_As_receive_21 s m args below meth c D vwCl (wlT ad ca) (Aw sz) 5 0 0 (MQ below (va_Qv K (Jq D vwCl (wlT ad ca)) (Aw sz)) args s 0 0 (Aw sz)) 48 [(0, .ref (ad 21)), (1, .ref (ad 26)), (2, .ref (ad 28)), (3, .int v3), (4, .int v4)] [] s48 := by
            intro n
            induction n with
            | zero => intro v3 v4 s48 hw; exact (show False from hw).elim
            | succ n ih48 =>
              intro v3 v4 s48 hw
              rw [w_As_receive_21_L48] at hw
              refine j_iload X d_As_receive_48 4 rfl ?_
              refine j_bipush X (v := (6 : Int32)) d_As_receive_50 (by decide) ?_
              refine j_icmp_ge X d_As_receive_52 (tgt := 73) (by decide) (fun h => ?_) (fun h => ?_)
              · have hw := hw.1 h
                refine j_aload_n X d_As_receive_73 rfl 0 rfl ?_
                refine j_aload_n X d_As_receive_74 rfl 1 rfl ?_
                refine gN_26_1 X (n_As_19 sz) (v := (s48 26 1)) rfl d_As_receive_75 ?_
                refine j_callSNi (As := [.int (s48 26 1)]) X (c_T_following l D ca ad sz hD hw) (gcSN (n := 1) X rfl rfl rfl gc_T_following m_T_following (n_As_41 sz) (by decide +kernel) ⟨by decide, by decide⟩) (fun _ h => h) rfl rfl (Nat.le_of_ble_eq_true rfl) ⟨by decide, by decide⟩ d_As_receive_78 (fun r2 u1 hw => ?_)
                refine p_21_1 X f_As_24 d_As_receive_81 ?_
                exact j_vret X hlk hr d_As_receive_84 hw
              · have hw := hw.2 h
                refine j_aload_n X d_As_receive_55 rfl 0 rfl ?_
                refine j_aload_n X d_As_receive_56 rfl 1 rfl ?_
                refine gN_26_0 X (n_As_33 sz) d_As_receive_57 ?_
                refine j_iload X d_As_receive_60 4 rfl ?_
                refine ld_27 X hw.1 (v := (s48 27 (Int32.toNatClampNeg v4))) rfl d_As_receive_62 ?_
                have hw := hw.2
                refine j_aload_n X d_As_receive_63 rfl 2 rfl ?_
                refine j_callVv (As := [.int (s48 27 (Int32.toNatClampNeg v4)), .ref (ad 28)]) X (c_As_read_21 l D ca ad sz hD hw) (gcV (n := 2) X rfl rfl rfl gc_As_read m_As_read l_As_37 (by decide +kernel) ⟨by decide, by decide⟩) (q0 := 21) rfl rfl (fun _ h => h) rfl rfl (Nat.le_of_ble_eq_true rfl) ⟨by decide, by decide⟩ d_As_receive_64 (fun u3 hw => ?_)
                refine j_iinc X (v := (1 : Int32)) d_As_receive_67 4 rfl (by decide) (by decide) rfl ?_
                refine j_goto X d_As_receive_70 (tgt := 48) (by decide) ?_
                refine j_locs [1, 2, 3, 4, 0] rfl ?_
                exact ih48 _ _ _ hw
          obtain ⟨n, hw⟩ := hw
          refine j_locs [2, 3, 4, 1, 0] rfl ?_
          exact lp48 n _ _ _ hw
        · have hw := hw.2 h
          refine j_iconst X (v := (1 : Int32)) d_As_receive_37 (by decide) ?_
          refine j_goto X d_As_receive_38 (tgt := 42) (by decide) ?_
          refine p_21_2 X f_As_9 rfl rfl d_As_receive_42 ?_
          refine j_iload_n X d_As_receive_45 rfl 0 rfl ?_
          refine j_istore X d_As_receive_46 (by decide) rfl ?_
          have lp48 : ∀ (n : Nat) (v3 v4 : Int32) (s48 : Jst), w_As_receive_21_L48 K n v3 v4 s48 → J p l e rm_As_receive_21 s m args below meth c D vwCl (wlT ad ca) (Aw sz) 5 0 0 (MQ below (va_Qv K (Jq D vwCl (wlT ad ca)) (Aw sz)) args s 0 0 (Aw sz)) 48 [(0, .ref (ad 21)), (1, .ref (ad 26)), (2, .ref (ad 28)), (3, .int v3), (4, .int v4)] [] s48 := by
            intro n
            induction n with
            | zero => intro v3 v4 s48 hw; exact (show False from hw).elim
            | succ n ih48 =>
              intro v3 v4 s48 hw
              rw [w_As_receive_21_L48] at hw
              refine j_iload X d_As_receive_48 4 rfl ?_
              refine j_bipush X (v := (6 : Int32)) d_As_receive_50 (by decide) ?_
              refine j_icmp_ge X d_As_receive_52 (tgt := 73) (by decide) (fun h => ?_) (fun h => ?_)
              · have hw := hw.1 h
                refine j_aload_n X d_As_receive_73 rfl 0 rfl ?_
                refine j_aload_n X d_As_receive_74 rfl 1 rfl ?_
                refine gN_26_1 X (n_As_19 sz) (v := (s48 26 1)) rfl d_As_receive_75 ?_
                refine j_callSNi (As := [.int (s48 26 1)]) X (c_T_following l D ca ad sz hD hw) (gcSN (n := 1) X rfl rfl rfl gc_T_following m_T_following (n_As_41 sz) (by decide +kernel) ⟨by decide, by decide⟩) (fun _ h => h) rfl rfl (Nat.le_of_ble_eq_true rfl) ⟨by decide, by decide⟩ d_As_receive_78 (fun r2 u1 hw => ?_)
                refine p_21_1 X f_As_24 d_As_receive_81 ?_
                exact j_vret X hlk hr d_As_receive_84 hw
              · have hw := hw.2 h
                refine j_aload_n X d_As_receive_55 rfl 0 rfl ?_
                refine j_aload_n X d_As_receive_56 rfl 1 rfl ?_
                refine gN_26_0 X (n_As_33 sz) d_As_receive_57 ?_
                refine j_iload X d_As_receive_60 4 rfl ?_
                refine ld_27 X hw.1 (v := (s48 27 (Int32.toNatClampNeg v4))) rfl d_As_receive_62 ?_
                have hw := hw.2
                refine j_aload_n X d_As_receive_63 rfl 2 rfl ?_
                refine j_callVv (As := [.int (s48 27 (Int32.toNatClampNeg v4)), .ref (ad 28)]) X (c_As_read_21 l D ca ad sz hD hw) (gcV (n := 2) X rfl rfl rfl gc_As_read m_As_read l_As_37 (by decide +kernel) ⟨by decide, by decide⟩) (q0 := 21) rfl rfl (fun _ h => h) rfl rfl (Nat.le_of_ble_eq_true rfl) ⟨by decide, by decide⟩ d_As_receive_64 (fun u3 hw => ?_)
                refine j_iinc X (v := (1 : Int32)) d_As_receive_67 4 rfl (by decide) (by decide) rfl ?_
                refine j_goto X d_As_receive_70 (tgt := 48) (by decide) ?_
                refine j_locs [1, 2, 3, 4, 0] rfl ?_
                exact ih48 _ _ _ hw
          obtain ⟨n, hw⟩ := hw
          refine j_locs [2, 3, 4, 1, 0] rfl ?_
          exact lp48 n _ _ _ hw
  exact hX
def w_As_read_25 (a1 : Int32) (σ : Jst) (K : Jst → Prop) : Prop := ((¬ (σ 25 3) = (0 : Int32) → ((¬ (σ 25 3) = (1 : Int32) → ((((σ 25 3) + (1 : Int32)) < (2 : Int32) → K (jup (jup σ 25 6 ((σ 25 6) + a1)) 25 3 ((σ 25 3) + (1 : Int32)))) ∧ (¬ ((σ 25 3) + (1 : Int32)) < (2 : Int32) → ((¬ (((σ 25 3) + (1 : Int32)) - (2 : Int32)) = (σ 25 5) → K (jup (jup σ 25 6 ((σ 25 6) + a1)) 25 3 ((σ 25 3) + (1 : Int32)))) ∧ ((((σ 25 3) + (1 : Int32)) - (2 : Int32)) = (σ 25 5) → (((σ 25 4) = (0 : Int32) → K (jup (jup (jup σ 25 6 ((σ 25 6) + a1)) 25 3 ((σ 25 3) + (1 : Int32))) 25 3 (0 : Int32))) ∧ (¬ (σ 25 4) = (0 : Int32) → w_Rc_add (σ 25 0) (σ 25 4) (σ 25 5) ((σ 25 6) + a1) (jup (jup (jup σ 25 6 ((σ 25 6) + a1)) 25 3 ((σ 25 3) + (1 : Int32))) 25 3 (0 : Int32)) (fun u1 => K u1)))))))) ∧ ((σ 25 3) = (1 : Int32) → ((((σ 25 3) + (1 : Int32)) < (2 : Int32) → K (jup (jup σ 25 5 a1) 25 3 ((σ 25 3) + (1 : Int32)))) ∧ (¬ ((σ 25 3) + (1 : Int32)) < (2 : Int32) → ((¬ (((σ 25 3) + (1 : Int32)) - (2 : Int32)) = a1 → K (jup (jup σ 25 5 a1) 25 3 ((σ 25 3) + (1 : Int32)))) ∧ ((((σ 25 3) + (1 : Int32)) - (2 : Int32)) = a1 → (((σ 25 4) = (0 : Int32) → K (jup (jup (jup σ 25 5 a1) 25 3 ((σ 25 3) + (1 : Int32))) 25 3 (0 : Int32))) ∧ (¬ (σ 25 4) = (0 : Int32) → w_Rc_add (σ 25 0) (σ 25 4) a1 (σ 25 6) (jup (jup (jup σ 25 5 a1) 25 3 ((σ 25 3) + (1 : Int32))) 25 3 (0 : Int32)) (fun u2 => K u2)))))))))) ∧ ((σ 25 3) = (0 : Int32) → ((((σ 25 3) + (1 : Int32)) < (2 : Int32) → K (jup (jup (jup σ 25 4 a1) 25 6 (0 : Int32)) 25 3 ((σ 25 3) + (1 : Int32)))) ∧ (¬ ((σ 25 3) + (1 : Int32)) < (2 : Int32) → ((¬ (((σ 25 3) + (1 : Int32)) - (2 : Int32)) = (σ 25 5) → K (jup (jup (jup σ 25 4 a1) 25 6 (0 : Int32)) 25 3 ((σ 25 3) + (1 : Int32)))) ∧ ((((σ 25 3) + (1 : Int32)) - (2 : Int32)) = (σ 25 5) → ((a1 = (0 : Int32) → K (jup (jup (jup (jup σ 25 4 a1) 25 6 (0 : Int32)) 25 3 ((σ 25 3) + (1 : Int32))) 25 3 (0 : Int32))) ∧ (¬ a1 = (0 : Int32) → w_Rc_add (σ 25 0) a1 (σ 25 5) (0 : Int32) (jup (jup (jup (jup σ 25 4 a1) 25 6 (0 : Int32)) 25 3 ((σ 25 3) + (1 : Int32))) 25 3 (0 : Int32)) (fun u3 => K u3)))))))))
abbrev rm_As_read_25 : Room := { frames := 1, cells := 0, slots := 0, locals := 24 }
set_option maxRecDepth 100000 in
set_option maxHeartbeats 4000000 in
theorem c_As_read_25 (l : Launch) (D : va_G) (ca ad : Nat → Nat) (sz : Nat) (hD : Jd ca ad sz) {a1 : Int32} {σ : Jst} {K : Jst → Prop} (hw : w_As_read_25 a1 σ K) : Met l y_As_read (wG y_As_read b_As_read 3 none) rm_As_read_25 (va_Pc [.ref (ad 25), .int a1, .ref (ad 28)] (Jw D vwCl (tysT ca) (wlT ad ca) (NwT sz) σ)) (va_Qv K (Jq D vwCl (wlT ad ca)) (Aw sz)) 0 0 (Aw sz) := by
  refine j_met (cc := b_As_read) (own := R_As) (by decide +kernel) rfl (Nat.le_of_ble_eq_true rfl) rfl hD (nwT_k sz) ?_
  intro p e s m args below meth c X hlk hr
  have hX : J p l e rm_As_read_25 s m args below meth c D vwCl (wlT ad ca) (Aw sz) 3 0 0 (MQ below (va_Qv K (Jq D vwCl (wlT ad ca)) (Aw sz)) args s 0 0 (Aw sz)) 0 [(0, .ref (ad 25)), (1, .int a1), (2, .ref (ad 28))] [] σ := by
    unfold w_As_read_25 at hw
    refine j_aload_n X d_As_read_0 rfl 0 rfl ?_
    refine g_25_3 X f_As_27 (v := (σ 25 3)) rfl d_As_read_1 ?_
    refine j_if_ne X d_As_read_4 (tgt := 20) (by decide) (fun h => ?_) (fun h => ?_)
    · have hw := hw.1 h
      refine j_aload_n X d_As_read_20 rfl 0 rfl ?_
      refine g_25_3 X f_As_27 (v := (σ 25 3)) rfl d_As_read_21 ?_
      refine j_iconst X (v := (1 : Int32)) d_As_read_24 (by decide) ?_
      refine j_icmp_ne X d_As_read_25 (tgt := 36) (by decide) (fun h => ?_) (fun h => ?_)
      · have hw := hw.1 h
        refine j_aload_n X d_As_read_36 rfl 0 rfl ?_
        refine j_dup X d_As_read_37 rfl ?_
        refine g_25_6 X f_As_48 (v := (σ 25 6)) rfl d_As_read_38 ?_
        refine j_iload_n X d_As_read_41 rfl 1 rfl ?_
        refine j_iadd X d_As_read_42 ?_
        refine p_25_6 X f_As_48 d_As_read_43 ?_
        refine j_aload_n X d_As_read_46 rfl 0 rfl ?_
        refine j_dup X d_As_read_47 rfl ?_
        refine g_25_3 X f_As_27 (v := (σ 25 3)) rfl d_As_read_48 ?_
        refine j_iconst X (v := (1 : Int32)) d_As_read_51 (by decide) ?_
        refine j_iadd X d_As_read_52 ?_
        refine p_25_3 X f_As_27 d_As_read_53 ?_
        refine j_aload_n X d_As_read_56 rfl 0 rfl ?_
        refine g_25_3 X f_As_27 (v := ((σ 25 3) + (1 : Int32))) rfl d_As_read_57 ?_
        refine j_iconst X (v := (2 : Int32)) d_As_read_60 (by decide) ?_
        refine j_icmp_lt X d_As_read_61 (tgt := 109) (by decide) (fun h => ?_) (fun h => ?_)
        · have hw := hw.1 h
          exact j_vret X hlk hr d_As_read_109 hw
        · have hw := hw.2 h
          refine j_aload_n X d_As_read_64 rfl 0 rfl ?_
          refine g_25_3 X f_As_27 (v := ((σ 25 3) + (1 : Int32))) rfl d_As_read_65 ?_
          refine j_iconst X (v := (2 : Int32)) d_As_read_68 (by decide) ?_
          refine j_isub X d_As_read_69 ?_
          refine j_aload_n X d_As_read_70 rfl 0 rfl ?_
          refine g_25_5 X f_As_51 (v := (σ 25 5)) rfl d_As_read_71 ?_
          refine j_icmp_ne X d_As_read_74 (tgt := 109) (by decide) (fun h => ?_) (fun h => ?_)
          · have hw := hw.1 h
            exact j_vret X hlk hr d_As_read_109 hw
          · have hw := hw.2 h
            refine j_aload_n X d_As_read_77 rfl 0 rfl ?_
            refine j_iconst X (v := (0 : Int32)) d_As_read_78 (by decide) ?_
            refine p_25_3 X f_As_27 d_As_read_79 ?_
            refine j_aload_n X d_As_read_82 rfl 0 rfl ?_
            refine g_25_4 X f_As_45 (v := (σ 25 4)) rfl d_As_read_83 ?_
            refine j_if_eq X d_As_read_86 (tgt := 109) (by decide) (fun h => ?_) (fun h => ?_)
            · have hw := hw.1 h
              exact j_vret X hlk hr d_As_read_109 hw
            · have hw := hw.2 h
              refine j_aload_n X d_As_read_89 rfl 2 rfl ?_
              refine j_aload_n X d_As_read_90 rfl 0 rfl ?_
              refine g_25_0 X f_As_15 (v := (σ 25 0)) rfl d_As_read_91 ?_
              refine j_aload_n X d_As_read_94 rfl 0 rfl ?_
              refine g_25_4 X f_As_45 (v := (σ 25 4)) rfl d_As_read_95 ?_
              refine j_aload_n X d_As_read_98 rfl 0 rfl ?_
              refine g_25_5 X f_As_51 (v := (σ 25 5)) rfl d_As_read_99 ?_
              refine j_aload_n X d_As_read_102 rfl 0 rfl ?_
              refine g_25_6 X f_As_48 (v := ((σ 25 6) + a1)) rfl d_As_read_103 ?_
              refine j_callVv (As := [.int (σ 25 0), .int (σ 25 4), .int (σ 25 5), .int ((σ 25 6) + a1)]) X (c_Rc_add l D ca ad sz hD hw) (gcV (n := 4) X rfl rfl rfl gc_Rc_add m_Rc_add l_As_54 (by decide +kernel) ⟨by decide, by decide⟩) (q0 := 28) rfl rfl (fun _ h => h) rfl rfl (Nat.le_of_ble_eq_true rfl) ⟨by decide, by decide⟩ d_As_read_106 (fun u1 hw => ?_)
              exact j_vret X hlk hr d_As_read_109 hw
      · have hw := hw.2 h
        refine j_aload_n X d_As_read_28 rfl 0 rfl ?_
        refine j_iload_n X d_As_read_29 rfl 1 rfl ?_
        refine p_25_5 X f_As_51 d_As_read_30 ?_
        refine j_goto X d_As_read_33 (tgt := 46) (by decide) ?_
        refine j_aload_n X d_As_read_46 rfl 0 rfl ?_
        refine j_dup X d_As_read_47 rfl ?_
        refine g_25_3 X f_As_27 (v := (σ 25 3)) rfl d_As_read_48 ?_
        refine j_iconst X (v := (1 : Int32)) d_As_read_51 (by decide) ?_
        refine j_iadd X d_As_read_52 ?_
        refine p_25_3 X f_As_27 d_As_read_53 ?_
        refine j_aload_n X d_As_read_56 rfl 0 rfl ?_
        refine g_25_3 X f_As_27 (v := ((σ 25 3) + (1 : Int32))) rfl d_As_read_57 ?_
        refine j_iconst X (v := (2 : Int32)) d_As_read_60 (by decide) ?_
        refine j_icmp_lt X d_As_read_61 (tgt := 109) (by decide) (fun h => ?_) (fun h => ?_)
        · have hw := hw.1 h
          exact j_vret X hlk hr d_As_read_109 hw
        · have hw := hw.2 h
          refine j_aload_n X d_As_read_64 rfl 0 rfl ?_
          refine g_25_3 X f_As_27 (v := ((σ 25 3) + (1 : Int32))) rfl d_As_read_65 ?_
          refine j_iconst X (v := (2 : Int32)) d_As_read_68 (by decide) ?_
          refine j_isub X d_As_read_69 ?_
          refine j_aload_n X d_As_read_70 rfl 0 rfl ?_
          refine g_25_5 X f_As_51 (v := a1) rfl d_As_read_71 ?_
          refine j_icmp_ne X d_As_read_74 (tgt := 109) (by decide) (fun h => ?_) (fun h => ?_)
          · have hw := hw.1 h
            exact j_vret X hlk hr d_As_read_109 hw
          · have hw := hw.2 h
            refine j_aload_n X d_As_read_77 rfl 0 rfl ?_
            refine j_iconst X (v := (0 : Int32)) d_As_read_78 (by decide) ?_
            refine p_25_3 X f_As_27 d_As_read_79 ?_
            refine j_aload_n X d_As_read_82 rfl 0 rfl ?_
            refine g_25_4 X f_As_45 (v := (σ 25 4)) rfl d_As_read_83 ?_
            refine j_if_eq X d_As_read_86 (tgt := 109) (by decide) (fun h => ?_) (fun h => ?_)
            · have hw := hw.1 h
              exact j_vret X hlk hr d_As_read_109 hw
            · have hw := hw.2 h
              refine j_aload_n X d_As_read_89 rfl 2 rfl ?_
              refine j_aload_n X d_As_read_90 rfl 0 rfl ?_
              refine g_25_0 X f_As_15 (v := (σ 25 0)) rfl d_As_read_91 ?_
              refine j_aload_n X d_As_read_94 rfl 0 rfl ?_
              refine g_25_4 X f_As_45 (v := (σ 25 4)) rfl d_As_read_95 ?_
              refine j_aload_n X d_As_read_98 rfl 0 rfl ?_
              refine g_25_5 X f_As_51 (v := a1) rfl d_As_read_99 ?_
              refine j_aload_n X d_As_read_102 rfl 0 rfl ?_
              refine g_25_6 X f_As_48 (v := (σ 25 6)) rfl d_As_read_103 ?_
              refine j_callVv (As := [.int (σ 25 0), .int (σ 25 4), .int a1, .int (σ 25 6)]) X (c_Rc_add l D ca ad sz hD hw) (gcV (n := 4) X rfl rfl rfl gc_Rc_add m_Rc_add l_As_54 (by decide +kernel) ⟨by decide, by decide⟩) (q0 := 28) rfl rfl (fun _ h => h) rfl rfl (Nat.le_of_ble_eq_true rfl) ⟨by decide, by decide⟩ d_As_read_106 (fun u2 hw => ?_)
              exact j_vret X hlk hr d_As_read_109 hw
    · have hw := hw.2 h
      refine j_aload_n X d_As_read_7 rfl 0 rfl ?_
      refine j_iload_n X d_As_read_8 rfl 1 rfl ?_
      refine p_25_4 X f_As_45 d_As_read_9 ?_
      refine j_aload_n X d_As_read_12 rfl 0 rfl ?_
      refine j_iconst X (v := (0 : Int32)) d_As_read_13 (by decide) ?_
      refine p_25_6 X f_As_48 d_As_read_14 ?_
      refine j_goto X d_As_read_17 (tgt := 46) (by decide) ?_
      refine j_aload_n X d_As_read_46 rfl 0 rfl ?_
      refine j_dup X d_As_read_47 rfl ?_
      refine g_25_3 X f_As_27 (v := (σ 25 3)) rfl d_As_read_48 ?_
      refine j_iconst X (v := (1 : Int32)) d_As_read_51 (by decide) ?_
      refine j_iadd X d_As_read_52 ?_
      refine p_25_3 X f_As_27 d_As_read_53 ?_
      refine j_aload_n X d_As_read_56 rfl 0 rfl ?_
      refine g_25_3 X f_As_27 (v := ((σ 25 3) + (1 : Int32))) rfl d_As_read_57 ?_
      refine j_iconst X (v := (2 : Int32)) d_As_read_60 (by decide) ?_
      refine j_icmp_lt X d_As_read_61 (tgt := 109) (by decide) (fun h => ?_) (fun h => ?_)
      · have hw := hw.1 h
        exact j_vret X hlk hr d_As_read_109 hw
      · have hw := hw.2 h
        refine j_aload_n X d_As_read_64 rfl 0 rfl ?_
        refine g_25_3 X f_As_27 (v := ((σ 25 3) + (1 : Int32))) rfl d_As_read_65 ?_
        refine j_iconst X (v := (2 : Int32)) d_As_read_68 (by decide) ?_
        refine j_isub X d_As_read_69 ?_
        refine j_aload_n X d_As_read_70 rfl 0 rfl ?_
        refine g_25_5 X f_As_51 (v := (σ 25 5)) rfl d_As_read_71 ?_
        refine j_icmp_ne X d_As_read_74 (tgt := 109) (by decide) (fun h => ?_) (fun h => ?_)
        · have hw := hw.1 h
          exact j_vret X hlk hr d_As_read_109 hw
        · have hw := hw.2 h
          refine j_aload_n X d_As_read_77 rfl 0 rfl ?_
          refine j_iconst X (v := (0 : Int32)) d_As_read_78 (by decide) ?_
          refine p_25_3 X f_As_27 d_As_read_79 ?_
          refine j_aload_n X d_As_read_82 rfl 0 rfl ?_
          refine g_25_4 X f_As_45 (v := a1) rfl d_As_read_83 ?_
          refine j_if_eq X d_As_read_86 (tgt := 109) (by decide) (fun h => ?_) (fun h => ?_)
          · have hw := hw.1 h
            exact j_vret X hlk hr d_As_read_109 hw
          · have hw := hw.2 h
            refine j_aload_n X d_As_read_89 rfl 2 rfl ?_
            refine j_aload_n X d_As_read_90 rfl 0 rfl ?_
            refine g_25_0 X f_As_15 (v := (σ 25 0)) rfl d_As_read_91 ?_
            refine j_aload_n X d_As_read_94 rfl 0 rfl ?_
            refine g_25_4 X f_As_45 (v := a1) rfl d_As_read_95 ?_
            refine j_aload_n X d_As_read_98 rfl 0 rfl ?_
            refine g_25_5 X f_As_51 (v := (σ 25 5)) rfl d_As_read_99 ?_
            refine j_aload_n X d_As_read_102 rfl 0 rfl ?_
            refine g_25_6 X f_As_48 (v := (0 : Int32)) rfl d_As_read_103 ?_
            refine j_callVv (As := [.int (σ 25 0), .int a1, .int (σ 25 5), .int (0 : Int32)]) X (c_Rc_add l D ca ad sz hD hw) (gcV (n := 4) X rfl rfl rfl gc_Rc_add m_Rc_add l_As_54 (by decide +kernel) ⟨by decide, by decide⟩) (q0 := 28) rfl rfl (fun _ h => h) rfl rfl (Nat.le_of_ble_eq_true rfl) ⟨by decide, by decide⟩ d_As_read_106 (fun u3 hw => ?_)
            exact j_vret X hlk hr d_As_read_109 hw
  exact hX
def w_As_receive_25_L48 (K : Jst → Prop) : Nat → Int32 → Int32 → Jst → Prop
  | 0, _, _, _ => False
  | n + 1, v3, v4, s48 => (((6 : Int32) ≤ v4 → w_T_following (s48 26 1) s48 (fun r2 u1 => K (jup u1 25 1 r2))) ∧ (¬ (6 : Int32) ≤ v4 → (vp_in v4 6 ∧ w_As_read_25 (s48 27 (Int32.toNatClampNeg v4)) s48 (fun u3 => w_As_receive_25_L48 K n v3 (v4 + (1 : Int32)) u3))))
def w_As_receive_25 (σ : Jst) (K : Jst → Prop) : Prop := (((σ 25 2) = (0 : Int32) → (((6 : Int32) ≤ (σ 26 2) → (∃ n, w_As_receive_25_L48 K n (σ 26 2) (σ 26 2) (jup (jup σ 25 3 (0 : Int32)) 25 2 (0 : Int32)))) ∧ (¬ (6 : Int32) ≤ (σ 26 2) → (∃ n, w_As_receive_25_L48 K n (σ 26 2) (σ 26 2) (jup (jup σ 25 3 (0 : Int32)) 25 2 (1 : Int32)))))) ∧ (¬ (σ 25 2) = (0 : Int32) → (((σ 26 1) = (σ 25 1) → (∃ n, w_As_receive_25_L48 K n (0 : Int32) (0 : Int32) σ)) ∧ (¬ (σ 26 1) = (σ 25 1) → (((6 : Int32) ≤ (σ 26 2) → (∃ n, w_As_receive_25_L48 K n (σ 26 2) (σ 26 2) (jup (jup σ 25 3 (0 : Int32)) 25 2 (0 : Int32)))) ∧ (¬ (6 : Int32) ≤ (σ 26 2) → (∃ n, w_As_receive_25_L48 K n (σ 26 2) (σ 26 2) (jup (jup σ 25 3 (0 : Int32)) 25 2 (1 : Int32)))))))))
abbrev rm_As_receive_25 : Room := { frames := 2, cells := 0, slots := 0, locals := 46 }
set_option maxRecDepth 100000 in
set_option maxHeartbeats 4000000 in
theorem c_As_receive_25 (l : Launch) (D : va_G) (ca ad : Nat → Nat) (sz : Nat) (hD : Jd ca ad sz) {σ : Jst} {K : Jst → Prop} (hw : w_As_receive_25 σ K) : Met l y_As_receive (wG y_As_receive b_As_receive 5 none) rm_As_receive_25 (va_Pc [.ref (ad 25), .ref (ad 26), .ref (ad 28)] (Jw D vwCl (tysT ca) (wlT ad ca) (NwT sz) σ)) (va_Qv K (Jq D vwCl (wlT ad ca)) (Aw sz)) 0 0 (Aw sz) := by
  refine j_met (cc := b_As_receive) (own := R_As) (by decide +kernel) rfl (Nat.le_of_ble_eq_true rfl) rfl hD (nwT_k sz) ?_
  intro p e s m args below meth c X hlk hr
  have hX : J p l e rm_As_receive_25 s m args below meth c D vwCl (wlT ad ca) (Aw sz) 5 0 0 (MQ below (va_Qv K (Jq D vwCl (wlT ad ca)) (Aw sz)) args s 0 0 (Aw sz)) 0 [(0, .ref (ad 25)), (1, .ref (ad 26)), (2, .ref (ad 28))] [] σ := by
    unfold w_As_receive_25 at hw
    refine j_iconst X (v := (0 : Int32)) d_As_receive_0 (by decide) ?_
    refine j_istore_n X d_As_receive_1 rfl (by decide) rfl ?_
    refine j_aload_n X d_As_receive_2 rfl 1 rfl ?_
    refine g_25_2 X f_As_9 (v := (σ 25 2)) rfl d_As_receive_3 ?_
    refine j_if_eq X d_As_receive_6 (tgt := 20) (by decide) (fun h => ?_) (fun h => ?_)
    · have hw := hw.1 h
      refine j_aload_n X d_As_receive_20 rfl 1 rfl ?_
      refine j_iconst X (v := (0 : Int32)) d_As_receive_21 (by decide) ?_
      refine p_25_3 X f_As_27 d_As_receive_22 ?_
      refine j_aload_n X d_As_receive_25 rfl 2 rfl ?_
      refine gN_26_2 X (n_As_30 sz) (v := (σ 26 2)) rfl d_As_receive_26 ?_
      refine j_istore_n X d_As_receive_29 rfl (by decide) rfl ?_
      refine j_aload_n X d_As_receive_30 rfl 1 rfl ?_
      refine j_iload_n X d_As_receive_31 rfl 0 rfl ?_
      refine j_bipush X (v := (6 : Int32)) d_As_receive_32 (by decide) ?_
      refine j_icmp_ge X d_As_receive_34 (tgt := 41) (by decide) (fun h => ?_) (fun h => ?_)
      · have hw := hw.1 h
        refine j_iconst X (v := (0 : Int32)) d_As_receive_41 (by decide) ?_
        refine p_25_2 X f_As_9 rfl rfl d_As_receive_42 ?_
        refine j_iload_n X d_As_receive_45 rfl 0 rfl ?_
        refine j_istore X d_As_receive_46 (by decide) rfl ?_
        have lp48 : ∀ (n : Nat) (v3 v4 : Int32) (s48 : Jst), w_As_receive_25_L48 K n v3 v4 s48 → J p l e rm_As_receive_25 s m args below meth c D vwCl (wlT ad ca) (Aw sz) 5 0 0 (MQ below (va_Qv K (Jq D vwCl (wlT ad ca)) (Aw sz)) args s 0 0 (Aw sz)) 48 [(0, .ref (ad 25)), (1, .ref (ad 26)), (2, .ref (ad 28)), (3, .int v3), (4, .int v4)] [] s48 := by
          intro n
          induction n with
          | zero => intro v3 v4 s48 hw; exact (show False from hw).elim
          | succ n ih48 =>
            intro v3 v4 s48 hw
            rw [w_As_receive_25_L48] at hw
            refine j_iload X d_As_receive_48 4 rfl ?_
            refine j_bipush X (v := (6 : Int32)) d_As_receive_50 (by decide) ?_
            refine j_icmp_ge X d_As_receive_52 (tgt := 73) (by decide) (fun h => ?_) (fun h => ?_)
            · have hw := hw.1 h
              refine j_aload_n X d_As_receive_73 rfl 0 rfl ?_
              refine j_aload_n X d_As_receive_74 rfl 1 rfl ?_
              refine gN_26_1 X (n_As_19 sz) (v := (s48 26 1)) rfl d_As_receive_75 ?_
              refine j_callSNi (As := [.int (s48 26 1)]) X (c_T_following l D ca ad sz hD hw) (gcSN (n := 1) X rfl rfl rfl gc_T_following m_T_following (n_As_41 sz) (by decide +kernel) ⟨by decide, by decide⟩) (fun _ h => h) rfl rfl (Nat.le_of_ble_eq_true rfl) ⟨by decide, by decide⟩ d_As_receive_78 (fun r2 u1 hw => ?_)
              refine p_25_1 X f_As_24 d_As_receive_81 ?_
              exact j_vret X hlk hr d_As_receive_84 hw
            · have hw := hw.2 h
              refine j_aload_n X d_As_receive_55 rfl 0 rfl ?_
              refine j_aload_n X d_As_receive_56 rfl 1 rfl ?_
              refine gN_26_0 X (n_As_33 sz) d_As_receive_57 ?_
              refine j_iload X d_As_receive_60 4 rfl ?_
              refine ld_27 X hw.1 (v := (s48 27 (Int32.toNatClampNeg v4))) rfl d_As_receive_62 ?_
              have hw := hw.2
              refine j_aload_n X d_As_receive_63 rfl 2 rfl ?_
              refine j_callVv (As := [.int (s48 27 (Int32.toNatClampNeg v4)), .ref (ad 28)]) X (c_As_read_25 l D ca ad sz hD hw) (gcV (n := 2) X rfl rfl rfl gc_As_read m_As_read l_As_37 (by decide +kernel) ⟨by decide, by decide⟩) (q0 := 25) rfl rfl (fun _ h => h) rfl rfl (Nat.le_of_ble_eq_true rfl) ⟨by decide, by decide⟩ d_As_receive_64 (fun u3 hw => ?_)
              refine j_iinc X (v := (1 : Int32)) d_As_receive_67 4 rfl (by decide) (by decide) rfl ?_
              refine j_goto X d_As_receive_70 (tgt := 48) (by decide) ?_
              refine j_locs [1, 2, 3, 4, 0] rfl ?_
              exact ih48 _ _ _ hw
        obtain ⟨n, hw⟩ := hw
        refine j_locs [2, 3, 4, 1, 0] rfl ?_
        exact lp48 n _ _ _ hw
      · have hw := hw.2 h
        refine j_iconst X (v := (1 : Int32)) d_As_receive_37 (by decide) ?_
        refine j_goto X d_As_receive_38 (tgt := 42) (by decide) ?_
        refine p_25_2 X f_As_9 rfl rfl d_As_receive_42 ?_
        refine j_iload_n X d_As_receive_45 rfl 0 rfl ?_
        refine j_istore X d_As_receive_46 (by decide) rfl ?_
        have lp48 : ∀ (n : Nat) (v3 v4 : Int32) (s48 : Jst), w_As_receive_25_L48 K n v3 v4 s48 → J p l e rm_As_receive_25 s m args below meth c D vwCl (wlT ad ca) (Aw sz) 5 0 0 (MQ below (va_Qv K (Jq D vwCl (wlT ad ca)) (Aw sz)) args s 0 0 (Aw sz)) 48 [(0, .ref (ad 25)), (1, .ref (ad 26)), (2, .ref (ad 28)), (3, .int v3), (4, .int v4)] [] s48 := by
          intro n
          induction n with
          | zero => intro v3 v4 s48 hw; exact (show False from hw).elim
          | succ n ih48 =>
            intro v3 v4 s48 hw
            rw [w_As_receive_25_L48] at hw
            refine j_iload X d_As_receive_48 4 rfl ?_
            refine j_bipush X (v := (6 : Int32)) d_As_receive_50 (by decide) ?_
            refine j_icmp_ge X d_As_receive_52 (tgt := 73) (by decide) (fun h => ?_) (fun h => ?_)
            · have hw := hw.1 h
              refine j_aload_n X d_As_receive_73 rfl 0 rfl ?_
              refine j_aload_n X d_As_receive_74 rfl 1 rfl ?_
              refine gN_26_1 X (n_As_19 sz) (v := (s48 26 1)) rfl d_As_receive_75 ?_
              refine j_callSNi (As := [.int (s48 26 1)]) X (c_T_following l D ca ad sz hD hw) (gcSN (n := 1) X rfl rfl rfl gc_T_following m_T_following (n_As_41 sz) (by decide +kernel) ⟨by decide, by decide⟩) (fun _ h => h) rfl rfl (Nat.le_of_ble_eq_true rfl) ⟨by decide, by decide⟩ d_As_receive_78 (fun r2 u1 hw => ?_)
              refine p_25_1 X f_As_24 d_As_receive_81 ?_
              exact j_vret X hlk hr d_As_receive_84 hw
            · have hw := hw.2 h
              refine j_aload_n X d_As_receive_55 rfl 0 rfl ?_
              refine j_aload_n X d_As_receive_56 rfl 1 rfl ?_
              refine gN_26_0 X (n_As_33 sz) d_As_receive_57 ?_
              refine j_iload X d_As_receive_60 4 rfl ?_
              refine ld_27 X hw.1 (v := (s48 27 (Int32.toNatClampNeg v4))) rfl d_As_receive_62 ?_
              have hw := hw.2
              refine j_aload_n X d_As_receive_63 rfl 2 rfl ?_
              refine j_callVv (As := [.int (s48 27 (Int32.toNatClampNeg v4)), .ref (ad 28)]) X (c_As_read_25 l D ca ad sz hD hw) (gcV (n := 2) X rfl rfl rfl gc_As_read m_As_read l_As_37 (by decide +kernel) ⟨by decide, by decide⟩) (q0 := 25) rfl rfl (fun _ h => h) rfl rfl (Nat.le_of_ble_eq_true rfl) ⟨by decide, by decide⟩ d_As_receive_64 (fun u3 hw => ?_)
              refine j_iinc X (v := (1 : Int32)) d_As_receive_67 4 rfl (by decide) (by decide) rfl ?_
              refine j_goto X d_As_receive_70 (tgt := 48) (by decide) ?_
              refine j_locs [1, 2, 3, 4, 0] rfl ?_
              exact ih48 _ _ _ hw
        obtain ⟨n, hw⟩ := hw
        refine j_locs [2, 3, 4, 1, 0] rfl ?_
        exact lp48 n _ _ _ hw
    · have hw := hw.2 h
      refine j_aload_n X d_As_receive_9 rfl 2 rfl ?_
      refine gN_26_1 X (n_As_19 sz) (v := (σ 26 1)) rfl d_As_receive_10 ?_
      refine j_aload_n X d_As_receive_13 rfl 1 rfl ?_
      refine g_25_1 X f_As_24 (v := (σ 25 1)) rfl d_As_receive_14 ?_
      refine j_icmp_eq X d_As_receive_17 (tgt := 45) (by decide) (fun h => ?_) (fun h => ?_)
      · have hw := hw.1 h
        refine j_iload_n X d_As_receive_45 rfl 0 rfl ?_
        refine j_istore X d_As_receive_46 (by decide) rfl ?_
        have lp48 : ∀ (n : Nat) (v3 v4 : Int32) (s48 : Jst), w_As_receive_25_L48 K n v3 v4 s48 → J p l e rm_As_receive_25 s m args below meth c D vwCl (wlT ad ca) (Aw sz) 5 0 0 (MQ below (va_Qv K (Jq D vwCl (wlT ad ca)) (Aw sz)) args s 0 0 (Aw sz)) 48 [(0, .ref (ad 25)), (1, .ref (ad 26)), (2, .ref (ad 28)), (3, .int v3), (4, .int v4)] [] s48 := by
          intro n
          induction n with
          | zero => intro v3 v4 s48 hw; exact (show False from hw).elim
          | succ n ih48 =>
            intro v3 v4 s48 hw
            rw [w_As_receive_25_L48] at hw
            refine j_iload X d_As_receive_48 4 rfl ?_
            refine j_bipush X (v := (6 : Int32)) d_As_receive_50 (by decide) ?_
            refine j_icmp_ge X d_As_receive_52 (tgt := 73) (by decide) (fun h => ?_) (fun h => ?_)
            · have hw := hw.1 h
              refine j_aload_n X d_As_receive_73 rfl 0 rfl ?_
              refine j_aload_n X d_As_receive_74 rfl 1 rfl ?_
              refine gN_26_1 X (n_As_19 sz) (v := (s48 26 1)) rfl d_As_receive_75 ?_
              refine j_callSNi (As := [.int (s48 26 1)]) X (c_T_following l D ca ad sz hD hw) (gcSN (n := 1) X rfl rfl rfl gc_T_following m_T_following (n_As_41 sz) (by decide +kernel) ⟨by decide, by decide⟩) (fun _ h => h) rfl rfl (Nat.le_of_ble_eq_true rfl) ⟨by decide, by decide⟩ d_As_receive_78 (fun r2 u1 hw => ?_)
              refine p_25_1 X f_As_24 d_As_receive_81 ?_
              exact j_vret X hlk hr d_As_receive_84 hw
            · have hw := hw.2 h
              refine j_aload_n X d_As_receive_55 rfl 0 rfl ?_
              refine j_aload_n X d_As_receive_56 rfl 1 rfl ?_
              refine gN_26_0 X (n_As_33 sz) d_As_receive_57 ?_
              refine j_iload X d_As_receive_60 4 rfl ?_
              refine ld_27 X hw.1 (v := (s48 27 (Int32.toNatClampNeg v4))) rfl d_As_receive_62 ?_
              have hw := hw.2
              refine j_aload_n X d_As_receive_63 rfl 2 rfl ?_
              refine j_callVv (As := [.int (s48 27 (Int32.toNatClampNeg v4)), .ref (ad 28)]) X (c_As_read_25 l D ca ad sz hD hw) (gcV (n := 2) X rfl rfl rfl gc_As_read m_As_read l_As_37 (by decide +kernel) ⟨by decide, by decide⟩) (q0 := 25) rfl rfl (fun _ h => h) rfl rfl (Nat.le_of_ble_eq_true rfl) ⟨by decide, by decide⟩ d_As_receive_64 (fun u3 hw => ?_)
              refine j_iinc X (v := (1 : Int32)) d_As_receive_67 4 rfl (by decide) (by decide) rfl ?_
              refine j_goto X d_As_receive_70 (tgt := 48) (by decide) ?_
              refine j_locs [1, 2, 3, 4, 0] rfl ?_
              exact ih48 _ _ _ hw
        obtain ⟨n, hw⟩ := hw
        refine j_locs [2, 3, 4, 1, 0] rfl ?_
        exact lp48 n _ _ _ hw
      · have hw := hw.2 h
        refine j_aload_n X d_As_receive_20 rfl 1 rfl ?_
        refine j_iconst X (v := (0 : Int32)) d_As_receive_21 (by decide) ?_
        refine p_25_3 X f_As_27 d_As_receive_22 ?_
        refine j_aload_n X d_As_receive_25 rfl 2 rfl ?_
        refine gN_26_2 X (n_As_30 sz) (v := (σ 26 2)) rfl d_As_receive_26 ?_
        refine j_istore_n X d_As_receive_29 rfl (by decide) rfl ?_
        refine j_aload_n X d_As_receive_30 rfl 1 rfl ?_
        refine j_iload_n X d_As_receive_31 rfl 0 rfl ?_
        refine j_bipush X (v := (6 : Int32)) d_As_receive_32 (by decide) ?_
        refine j_icmp_ge X d_As_receive_34 (tgt := 41) (by decide) (fun h => ?_) (fun h => ?_)
        · have hw := hw.1 h
          refine j_iconst X (v := (0 : Int32)) d_As_receive_41 (by decide) ?_
          refine p_25_2 X f_As_9 rfl rfl d_As_receive_42 ?_
          refine j_iload_n X d_As_receive_45 rfl 0 rfl ?_
          refine j_istore X d_As_receive_46 (by decide) rfl ?_
          have lp48 : ∀ (n : Nat) (v3 v4 : Int32) (s48 : Jst), w_As_receive_25_L48 K n v3 v4 s48 → J p l e rm_As_receive_25 s m args below meth c D vwCl (wlT ad ca) (Aw sz) 5 0 0 (MQ below (va_Qv K (Jq D vwCl (wlT ad ca)) (Aw sz)) args s 0 0 (Aw sz)) 48 [(0, .ref (ad 25)), (1, .ref (ad 26)), (2, .ref (ad 28)), (3, .int v3), (4, .int v4)] [] s48 := by
            intro n
            induction n with
            | zero => intro v3 v4 s48 hw; exact (show False from hw).elim
            | succ n ih48 =>
              intro v3 v4 s48 hw
              rw [w_As_receive_25_L48] at hw
              refine j_iload X d_As_receive_48 4 rfl ?_
              refine j_bipush X (v := (6 : Int32)) d_As_receive_50 (by decide) ?_
              refine j_icmp_ge X d_As_receive_52 (tgt := 73) (by decide) (fun h => ?_) (fun h => ?_)
              · have hw := hw.1 h
                refine j_aload_n X d_As_receive_73 rfl 0 rfl ?_
                refine j_aload_n X d_As_receive_74 rfl 1 rfl ?_
                refine gN_26_1 X (n_As_19 sz) (v := (s48 26 1)) rfl d_As_receive_75 ?_
                refine j_callSNi (As := [.int (s48 26 1)]) X (c_T_following l D ca ad sz hD hw) (gcSN (n := 1) X rfl rfl rfl gc_T_following m_T_following (n_As_41 sz) (by decide +kernel) ⟨by decide, by decide⟩) (fun _ h => h) rfl rfl (Nat.le_of_ble_eq_true rfl) ⟨by decide, by decide⟩ d_As_receive_78 (fun r2 u1 hw => ?_)
                refine p_25_1 X f_As_24 d_As_receive_81 ?_
                exact j_vret X hlk hr d_As_receive_84 hw
              · have hw := hw.2 h
                refine j_aload_n X d_As_receive_55 rfl 0 rfl ?_
                refine j_aload_n X d_As_receive_56 rfl 1 rfl ?_
                refine gN_26_0 X (n_As_33 sz) d_As_receive_57 ?_
                refine j_iload X d_As_receive_60 4 rfl ?_
                refine ld_27 X hw.1 (v := (s48 27 (Int32.toNatClampNeg v4))) rfl d_As_receive_62 ?_
                have hw := hw.2
                refine j_aload_n X d_As_receive_63 rfl 2 rfl ?_
                refine j_callVv (As := [.int (s48 27 (Int32.toNatClampNeg v4)), .ref (ad 28)]) X (c_As_read_25 l D ca ad sz hD hw) (gcV (n := 2) X rfl rfl rfl gc_As_read m_As_read l_As_37 (by decide +kernel) ⟨by decide, by decide⟩) (q0 := 25) rfl rfl (fun _ h => h) rfl rfl (Nat.le_of_ble_eq_true rfl) ⟨by decide, by decide⟩ d_As_receive_64 (fun u3 hw => ?_)
                refine j_iinc X (v := (1 : Int32)) d_As_receive_67 4 rfl (by decide) (by decide) rfl ?_
                refine j_goto X d_As_receive_70 (tgt := 48) (by decide) ?_
                refine j_locs [1, 2, 3, 4, 0] rfl ?_
                exact ih48 _ _ _ hw
          obtain ⟨n, hw⟩ := hw
          refine j_locs [2, 3, 4, 1, 0] rfl ?_
          exact lp48 n _ _ _ hw
        · have hw := hw.2 h
          refine j_iconst X (v := (1 : Int32)) d_As_receive_37 (by decide) ?_
          refine j_goto X d_As_receive_38 (tgt := 42) (by decide) ?_
          refine p_25_2 X f_As_9 rfl rfl d_As_receive_42 ?_
          refine j_iload_n X d_As_receive_45 rfl 0 rfl ?_
          refine j_istore X d_As_receive_46 (by decide) rfl ?_
          have lp48 : ∀ (n : Nat) (v3 v4 : Int32) (s48 : Jst), w_As_receive_25_L48 K n v3 v4 s48 → J p l e rm_As_receive_25 s m args below meth c D vwCl (wlT ad ca) (Aw sz) 5 0 0 (MQ below (va_Qv K (Jq D vwCl (wlT ad ca)) (Aw sz)) args s 0 0 (Aw sz)) 48 [(0, .ref (ad 25)), (1, .ref (ad 26)), (2, .ref (ad 28)), (3, .int v3), (4, .int v4)] [] s48 := by
            intro n
            induction n with
            | zero => intro v3 v4 s48 hw; exact (show False from hw).elim
            | succ n ih48 =>
              intro v3 v4 s48 hw
              rw [w_As_receive_25_L48] at hw
              refine j_iload X d_As_receive_48 4 rfl ?_
              refine j_bipush X (v := (6 : Int32)) d_As_receive_50 (by decide) ?_
              refine j_icmp_ge X d_As_receive_52 (tgt := 73) (by decide) (fun h => ?_) (fun h => ?_)
              · have hw := hw.1 h
                refine j_aload_n X d_As_receive_73 rfl 0 rfl ?_
                refine j_aload_n X d_As_receive_74 rfl 1 rfl ?_
                refine gN_26_1 X (n_As_19 sz) (v := (s48 26 1)) rfl d_As_receive_75 ?_
                refine j_callSNi (As := [.int (s48 26 1)]) X (c_T_following l D ca ad sz hD hw) (gcSN (n := 1) X rfl rfl rfl gc_T_following m_T_following (n_As_41 sz) (by decide +kernel) ⟨by decide, by decide⟩) (fun _ h => h) rfl rfl (Nat.le_of_ble_eq_true rfl) ⟨by decide, by decide⟩ d_As_receive_78 (fun r2 u1 hw => ?_)
                refine p_25_1 X f_As_24 d_As_receive_81 ?_
                exact j_vret X hlk hr d_As_receive_84 hw
              · have hw := hw.2 h
                refine j_aload_n X d_As_receive_55 rfl 0 rfl ?_
                refine j_aload_n X d_As_receive_56 rfl 1 rfl ?_
                refine gN_26_0 X (n_As_33 sz) d_As_receive_57 ?_
                refine j_iload X d_As_receive_60 4 rfl ?_
                refine ld_27 X hw.1 (v := (s48 27 (Int32.toNatClampNeg v4))) rfl d_As_receive_62 ?_
                have hw := hw.2
                refine j_aload_n X d_As_receive_63 rfl 2 rfl ?_
                refine j_callVv (As := [.int (s48 27 (Int32.toNatClampNeg v4)), .ref (ad 28)]) X (c_As_read_25 l D ca ad sz hD hw) (gcV (n := 2) X rfl rfl rfl gc_As_read m_As_read l_As_37 (by decide +kernel) ⟨by decide, by decide⟩) (q0 := 25) rfl rfl (fun _ h => h) rfl rfl (Nat.le_of_ble_eq_true rfl) ⟨by decide, by decide⟩ d_As_receive_64 (fun u3 hw => ?_)
                refine j_iinc X (v := (1 : Int32)) d_As_receive_67 4 rfl (by decide) (by decide) rfl ?_
                refine j_goto X d_As_receive_70 (tgt := 48) (by decide) ?_
                refine j_locs [1, 2, 3, 4, 0] rfl ?_
                exact ih48 _ _ _ hw
          obtain ⟨n, hw⟩ := hw
          refine j_locs [2, 3, 4, 1, 0] rfl ?_
          exact lp48 n _ _ _ hw
  exact hX
