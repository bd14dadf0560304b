/-! constructors -/
/-- what the constructors take of the tables beside the good words -/
def N1 (U : State) : Prop := (∀ w ∈ nwL, va_Nw w U) ∧ va_AO R_St U ∧ va_AO R_As U
theorem N1_warm {s U : State} (hW : s.WarmedH U.vm) (h : N1 s) : N1 U := ⟨fun w hw => nwK_warm ((by decide +kernel : ∀ w ∈ nwL, nwK w = true) w hw) hW (h.1 w hw), va_AO.moved hW.alike h.2.1, va_AO.moved hW.alike h.2.2⟩
def Kp (D : va_G) (sz : Nat) (ws : va_W) (U : State) : Prop := U.heap.size = sz ∧ va_P D vwCl ws U.heap ∧ va_K D vwCl [] U ∧ va_D (fun _ => True) ws ∧ N1 U
theorem k_blind {D : va_G} {sz : Nat} {ws : va_W} {vs : List Value} : FrameBlind (va_Pc vs (Kp D sz ws)) := fun a U g mk q => ⟨q.1, q.2.1, q.2.2.1, va_K.moved (u := U) (U := U.calling g mk a) (Vm.Alike.refl U.vm) q.2.2.2.1, q.2.2.2.2.1, N1_warm (s := U) (U := U.calling g mk a) (State.WarmedH.refl U) q.2.2.2.2.2⟩
theorem obi : Cond.instanceMethod objectInit ∈ Gw := gm 26 (by decide +kernel) (by decide)
theorem obc : Cond.code objectInit ⟨#[0xb1]⟩ 1 none ∈ Gw := gm 27 rfl (by decide)
theorem ac_int : Cond.arrayClass (newarray.typeOf .int) ∈ Gw := gm 47 (by decide +kernel) (by decide)
theorem ac_boolean : Cond.arrayClass (newarray.typeOf .boolean) ∈ Gw := gm 67 (by decide +kernel) (by decide)
theorem ac_long : Cond.arrayClass (newarray.typeOf .long) ∈ Gw := gm 1081 (by decide +kernel) (by decide)
theorem lo_T : Cond.methodLink R_T 1 objectInit ∈ Gw := gm 25 (by decide +kernel) (by decide)
theorem im_T : Cond.instanceMethod y_T_init ∈ Gw := gm 23 (by decide +kernel) (by decide)
theorem ins_T : Cond.instantiable R_T 8 ∈ Gw := gm 21 (by decide +kernel) (by decide)
theorem lo_As : Cond.methodLink R_As 3 objectInit ∈ Gw := gm 187 (by decide +kernel) (by decide)
theorem im_As : Cond.instanceMethod y_As_init ∈ Gw := gm 185 (by decide +kernel) (by decide)
theorem ins_As : Cond.instantiable R_As 7 ∈ Gw := gm 183 (by decide +kernel) (by decide)
theorem lo_Cr : Cond.methodLink R_Cr 3 objectInit ∈ Gw := gm 141 (by decide +kernel) (by decide)
theorem im_Cr : Cond.instanceMethod y_Cr_init ∈ Gw := gm 139 (by decide +kernel) (by decide)
theorem ins_Cr : Cond.instantiable R_Cr 5 ∈ Gw := gm 137 (by decide +kernel) (by decide)
theorem lo_Df : Cond.methodLink R_Df 3 objectInit ∈ Gw := gm 215 (by decide +kernel) (by decide)
theorem im_Df : Cond.instanceMethod y_Df_init ∈ Gw := gm 213 (by decide +kernel) (by decide)
theorem ins_Df : Cond.instantiable R_Df 3 ∈ Gw := gm 211 (by decide +kernel) (by decide)
theorem lo_Gr : Cond.methodLink R_Gr 3 objectInit ∈ Gw := gm 73 (by decide +kernel) (by decide)
theorem im_Gr : Cond.instanceMethod y_Gr_init ∈ Gw := gm 71 (by decide +kernel) (by decide)
theorem ins_Gr : Cond.instantiable R_Gr 14 ∈ Gw := gm 69 (by decide +kernel) (by decide)
theorem lo_Rc : Cond.methodLink R_Rc 1 objectInit ∈ Gw := gm 236 (by decide +kernel) (by decide)
theorem im_Rc : Cond.instanceMethod y_Rc_init ∈ Gw := gm 234 (by decide +kernel) (by decide)
theorem ins_Rc : Cond.instantiable R_Rc 5 ∈ Gw := gm 232 (by decide +kernel) (by decide)
theorem lo_Rp : Cond.methodLink R_Rp 3 objectInit ∈ Gw := gm 53 (by decide +kernel) (by decide)
theorem im_Rp : Cond.instanceMethod y_Rp_init ∈ Gw := gm 51 (by decide +kernel) (by decide)
theorem ins_Rp : Cond.instantiable R_Rp 4 ∈ Gw := gm 49 (by decide +kernel) (by decide)
theorem lo_St : Cond.methodLink R_St 3 objectInit ∈ Gw := gm 169 (by decide +kernel) (by decide)
theorem im_St : Cond.instanceMethod y_St_init ∈ Gw := gm 167 (by decide +kernel) (by decide)
theorem ins_St : Cond.instantiable R_St 4 ∈ Gw := gm 165 (by decide +kernel) (by decide)
theorem lo_Un : Cond.methodLink R_Un 3 objectInit ∈ Gw := gm 79 (by decide +kernel) (by decide)
theorem im_Un : Cond.instanceMethod y_Un_init ∈ Gw := gm 77 (by decide +kernel) (by decide)
theorem ins_Un : Cond.instantiable R_Un 4 ∈ Gw := gm 75 (by decide +kernel) (by decide)
theorem lo_Uf : Cond.methodLink R_Uf 3 objectInit ∈ Gw := gm 33 (by decide +kernel) (by decide)
theorem im_Uf : Cond.instanceMethod y_Uf_init ∈ Gw := gm 31 (by decide +kernel) (by decide)
theorem ins_Uf : Cond.instantiable R_Uf 4 ∈ Gw := gm 29 (by decide +kernel) (by decide)
theorem lo_M : Cond.methodLink R_M 1 objectInit ∈ Gw := gm 825 (by decide +kernel) (by decide)
theorem im_M : Cond.instanceMethod y_M_init ∈ Gw := gm 823 (by decide +kernel) (by decide)
theorem ins_M : Cond.instantiable R_M 41 ∈ Gw := gm 821 (by decide +kernel) (by decide)
theorem kl_T_7 : Cond.classLink R_T 7 R_Uf ∈ Gw := gm 28 (by decide +kernel) (by decide)
theorem kl_T_16 : Cond.classLink R_T 16 R_Rp ∈ Gw := gm 48 (by decide +kernel) (by decide)
theorem kl_T_23 : Cond.classLink R_T 23 R_Gr ∈ Gw := gm 68 (by decide +kernel) (by decide)
theorem kl_T_30 : Cond.classLink R_T 30 R_Cr ∈ Gw := gm 136 (by decide +kernel) (by decide)
theorem kl_T_37 : Cond.classLink R_T 37 R_St ∈ Gw := gm 161 (by decide +kernel) (by decide)
theorem kl_T_43 : Cond.classLink R_T 43 R_As ∈ Gw := gm 163 (by decide +kernel) (by decide)
theorem kl_T_53 : Cond.classLink R_T 53 R_Df ∈ Gw := gm 210 (by decide +kernel) (by decide)
theorem kl_T_60 : Cond.classLink R_T 60 R_Rc ∈ Gw := gm 231 (by decide +kernel) (by decide)
theorem kl_Gr_9 : Cond.classLink R_Gr 9 R_Un ∈ Gw := gm 74 (by decide +kernel) (by decide)
theorem kl_L_8 : Cond.classLink R_L 8 R_T ∈ Gw := gm 20 (by decide +kernel) (by decide)
theorem kl_L_72 : Cond.classLink R_L 72 R_M ∈ Gw := gm 820 (by decide +kernel) (by decide)
def Bk_Uf (D : va_G) (A : Nat → Prop) (h0 : Nat) (t : State) : Prop := (∃ q1 q3 q5 c2 c4 c6 : Nat, va_P D vwCl [(h0, .inr (9, [.ref q1, .ref q3, .ref q5, .int 0])), (q1, .inl (c2, 20, .inl (fun _ => 0))), (q3, .inl (c4, 20, .inl (fun _ => 0))), (q5, .inl (c6, 20, .inl (fun _ => 0)))] t.heap ∧ va_K D vwCl [(c2, .int), (c4, .int), (c6, .int)] t ∧ va_D A [(h0, .inr (9, [.ref q1, .ref q3, .ref q5, .int 0])), (q1, .inl (c2, 20, .inl (fun _ => 0))), (q3, .inl (c4, 20, .inl (fun _ => 0))), (q5, .inl (c6, 20, .inl (fun _ => 0)))])
set_option maxHeartbeats 8000000 in
set_option maxRecDepth 100000 in
theorem k_Uf (l : Launch) (D : va_G) (h0 sz : Nat) : Met l y_Uf_init (wG y_Uf_init b_Uf_init 1 none) { frames := 1, cells := 3, slots := 60, locals := 12 } (va_Pc [.ref h0] (Kp D sz [(h0, .inr (9, [.null, .null, .null, .int 0]))])) (va_Qv (fun _ : Unit => True) (fun _ t => Bk_Uf D (va_A [(h0, .inr (9, [.null, .null, .null, .int 0]))] sz) h0 t) (va_A [(h0, .inr (9, [.null, .null, .null, .int 0]))] sz)) 3 60 (va_A [(h0, .inr (9, [.null, .null, .null, .int 0]))] sz) := by
  refine Met.ofW (cc := b_Uf_init) (maxL := 1) (ret := none) (by decide) rfl ?_
  intro p e s m args below meth c s₁ B hml hv
  obtain ⟨rfl, hsz, hP, hK, hD0, hN⟩ := hv
  have hx := B.exec
  have hb := B.bytes
  have hr := B.returns
  have hts0 := atoms_spec (ws := wG y_Uf_init b_Uf_init 1 none) B.pre
  have hts := fun w (h : w ∈ Gw) => hts0 w (List.mem_cons_of_mem _ h)
  have hown : s.vm.findClass R_Uf = some m.cls := findClass_of_methodNamed B.named
  have hlocks := B.notSynchronized
  have hin : meth.name = "<init>" := (name_of_methodNamed B.named B.method).1
  subst hsz
  have hD := hD0.self (sz := s.heap.size)
  generalize hAe : va_A [(h0, .inr (9, [.null, .null, .null, .int 0]))] s.heap.size = A at hD ⊢
  have hA : ∀ q : Nat, s.heap.size ≤ q → A q := fun q h => by rw [← hAe]; exact Or.inr h
  have hS : va_S A s.heap s.heap [] := va_S.rf
  have hl := lv_entry ([.ref h0]) (n := 1) (Nat.le_of_ble_eq_true rfl)
  rw [lg_entry_eq]
  generalize (lg_sl ([.ref h0]) ++ List.replicate (1 - (lg_sl ([.ref h0])).length) Slot.unset).toArray = ls at hl ⊢
  have hl : lv_has ls 1 [(0, .ref h0)] := hl
  refine lv_aload_n hx hb d_Uf_init_0 rfl (lv_at hl 0 rfl) ?_
  refine W.objInit hx hb hown (hts _ lo_Uf) (hts _ obi) (hts _ obc) rfl (by rw [hml]; exact hl.1) rfl d_Uf_init_1 (Nat.le_of_ble_eq_true rfl) (Nat.le_of_ble_eq_true rfl) ?_
  refine W.eq (g2 := F0 m 4 ls []) rfl ?_
  refine lv_aload_n hx hb d_Uf_init_4 rfl (lv_at hl 0 rfl) ?_
  refine lv_bipush (v := (20 : Int32)) hx hb d_Uf_init_5 (by decide) ?_
  refine va_newa (ty := .int) (N' := 20) (a0 := (20, .inl (fun _ => 0))) hx hb (hts _ ac_int) rfl hK hP hD hS hA (fun _ => rfl) (by decide) (by decide) (by decide) (Nat.le_of_ble_eq_true rfl) (Nat.le_of_ble_eq_true rfl) d_Uf_init_7 (fun q1 c2 H hK hP hD hS => ?_)
  have hP : va_P D vwCl [(h0, .inr (9, [.null, .null, .null, .int 0])), (q1, .inl (c2, 20, .inl (fun _ => 0)))] H := hP
  have hD : va_D A [(h0, .inr (9, [.null, .null, .null, .int 0])), (q1, .inl (c2, 20, .inl (fun _ => 0)))] := hD
  have hK : va_K D vwCl [(c2, .int)] s := hK
  refine W.widen (k := 1) (n := 20) (Nat.le_of_ble_eq_true rfl) (Nat.le_of_ble_eq_true rfl) ?_
  refine va_putF (D := D) (ci := 9) (v := .ref q1) (ty := (.array (.int))) (C := R_Uf) (T := FT_Uf) (N := 4) hx hb hts uw_Uf Fy_Uf ty_Uf nm_Uf hown hK hP hD hS 0 rfl rfl 0 (by decide) (hts _ f_Uf_9) (fun _ h9 => h9) rfl hin rfl (by decide +kernel) rfl rfl (Nat.le_of_ble_eq_true rfl) d_Uf_init_9 (fun H locs hP hD hS => ?_)
  have hP : va_P D vwCl [(h0, .inr (9, [.ref q1, .null, .null, .int 0])), (q1, .inl (c2, 20, .inl (fun _ => 0)))] H := hP
  have hD : va_D A [(h0, .inr (9, [.ref q1, .null, .null, .int 0])), (q1, .inl (c2, 20, .inl (fun _ => 0)))] := hD
  refine lv_aload_n hx hb d_Uf_init_12 rfl (lv_at hl 0 rfl) ?_
  refine lv_bipush (v := (20 : Int32)) hx hb d_Uf_init_13 (by decide) ?_
  refine va_newa (ty := .int) (N' := 20) (a0 := (20, .inl (fun _ => 0))) hx hb (hts _ ac_int) rfl hK hP hD hS hA (fun _ => rfl) (by decide) (by decide) (by decide) (Nat.le_of_ble_eq_true rfl) (Nat.le_of_ble_eq_true rfl) d_Uf_init_15 (fun q3 c4 H hK hP hD hS => ?_)
  have hP : va_P D vwCl [(h0, .inr (9, [.ref q1, .null, .null, .int 0])), (q1, .inl (c2, 20, .inl (fun _ => 0))), (q3, .inl (c4, 20, .inl (fun _ => 0)))] H := hP
  have hD : va_D A [(h0, .inr (9, [.ref q1, .null, .null, .int 0])), (q1, .inl (c2, 20, .inl (fun _ => 0))), (q3, .inl (c4, 20, .inl (fun _ => 0)))] := hD
  have hK : va_K D vwCl [(c2, .int), (c4, .int)] s := hK
  refine W.widen (k := 2) (n := 40) (Nat.le_of_ble_eq_true rfl) (Nat.le_of_ble_eq_true rfl) ?_
  refine va_putF (D := D) (ci := 9) (v := .ref q3) (ty := (.array (.int))) (C := R_Uf) (T := FT_Uf) (N := 4) hx hb hts uw_Uf Fy_Uf ty_Uf nm_Uf hown hK hP hD hS 0 rfl rfl 1 (by decide) (hts _ f_Uf_15) (fun _ h9 => h9) rfl hin rfl (by decide +kernel) rfl rfl (Nat.le_of_ble_eq_true rfl) d_Uf_init_17 (fun H locs hP hD hS => ?_)
  have hP : va_P D vwCl [(h0, .inr (9, [.ref q1, .ref q3, .null, .int 0])), (q1, .inl (c2, 20, .inl (fun _ => 0))), (q3, .inl (c4, 20, .inl (fun _ => 0)))] H := hP
  have hD : va_D A [(h0, .inr (9, [.ref q1, .ref q3, .null, .int 0])), (q1, .inl (c2, 20, .inl (fun _ => 0))), (q3, .inl (c4, 20, .inl (fun _ => 0)))] := hD
  refine lv_aload_n hx hb d_Uf_init_20 rfl (lv_at hl 0 rfl) ?_
  refine lv_bipush (v := (20 : Int32)) hx hb d_Uf_init_21 (by decide) ?_
  refine va_newa (ty := .int) (N' := 20) (a0 := (20, .inl (fun _ => 0))) hx hb (hts _ ac_int) rfl hK hP hD hS hA (fun _ => rfl) (by decide) (by decide) (by decide) (Nat.le_of_ble_eq_true rfl) (Nat.le_of_ble_eq_true rfl) d_Uf_init_23 (fun q5 c6 H hK hP hD hS => ?_)
  have hP : va_P D vwCl [(h0, .inr (9, [.ref q1, .ref q3, .null, .int 0])), (q1, .inl (c2, 20, .inl (fun _ => 0))), (q3, .inl (c4, 20, .inl (fun _ => 0))), (q5, .inl (c6, 20, .inl (fun _ => 0)))] H := hP
  have hD : va_D A [(h0, .inr (9, [.ref q1, .ref q3, .null, .int 0])), (q1, .inl (c2, 20, .inl (fun _ => 0))), (q3, .inl (c4, 20, .inl (fun _ => 0))), (q5, .inl (c6, 20, .inl (fun _ => 0)))] := hD
  have hK : va_K D vwCl [(c2, .int), (c4, .int), (c6, .int)] s := hK
  refine W.widen (k := 3) (n := 60) (Nat.le_of_ble_eq_true rfl) (Nat.le_of_ble_eq_true rfl) ?_
  refine va_putF (D := D) (ci := 9) (v := .ref q5) (ty := (.array (.int))) (C := R_Uf) (T := FT_Uf) (N := 4) hx hb hts uw_Uf Fy_Uf ty_Uf nm_Uf hown hK hP hD hS 0 rfl rfl 2 (by decide) (hts _ f_Uf_18) (fun _ h9 => h9) rfl hin rfl (by decide +kernel) rfl rfl (Nat.le_of_ble_eq_true rfl) d_Uf_init_25 (fun H locs hP hD hS => ?_)
  have hP : va_P D vwCl [(h0, .inr (9, [.ref q1, .ref q3, .ref q5, .int 0])), (q1, .inl (c2, 20, .inl (fun _ => 0))), (q3, .inl (c4, 20, .inl (fun _ => 0))), (q5, .inl (c6, 20, .inl (fun _ => 0)))] H := hP
  have hD : va_D A [(h0, .inr (9, [.ref q1, .ref q3, .ref q5, .int 0])), (q1, .inl (c2, 20, .inl (fun _ => 0))), (q3, .inl (c4, 20, .inl (fun _ => 0))), (q5, .inl (c6, 20, .inl (fun _ => 0)))] := hD
  exact W.vret hx hb hr (fun t ht hW => ⟨⟨(), rfl, trivial, q1, q3, q5, c2, c4, c6, by rw [ht]; exact hP, va_K.moved hW.alike hK, hD⟩, hS.F ht⟩) hS.2.2 d_Uf_init_28
def Bk_Rp (D : va_G) (A : Nat → Prop) (h0 : Nat) (t : State) : Prop := (∃ q1 q3 q5 c2 c4 c6 : Nat, va_P D vwCl [(h0, .inr (6, [.ref q1, .ref q3, .ref q5, .int 0])), (q1, .inl (c2, 20, .inl (fun _ => 0))), (q3, .inl (c4, 20, .inl (fun _ => 0))), (q5, .inl (c6, 20, .inl (fun _ => 0)))] t.heap ∧ va_K D vwCl [(c2, .int), (c4, .boolean), (c6, .int)] t ∧ va_D A [(h0, .inr (6, [.ref q1, .ref q3, .ref q5, .int 0])), (q1, .inl (c2, 20, .inl (fun _ => 0))), (q3, .inl (c4, 20, .inl (fun _ => 0))), (q5, .inl (c6, 20, .inl (fun _ => 0)))])
set_option maxHeartbeats 8000000 in
set_option maxRecDepth 100000 in
theorem k_Rp (l : Launch) (D : va_G) (h0 sz : Nat) : Met l y_Rp_init (wG y_Rp_init b_Rp_init 1 none) { frames := 1, cells := 3, slots := 60, locals := 12 } (va_Pc [.ref h0] (Kp D sz [(h0, .inr (6, [.null, .null, .null, .int 0]))])) (va_Qv (fun _ : Unit => True) (fun _ t => Bk_Rp D (va_A [(h0, .inr (6, [.null, .null, .null, .int 0]))] sz) h0 t) (va_A [(h0, .inr (6, [.null, .null, .null, .int 0]))] sz)) 3 60 (va_A [(h0, .inr (6, [.null, .null, .null, .int 0]))] sz) := by
  refine Met.ofW (cc := b_Rp_init) (maxL := 1) (ret := none) (by decide) rfl ?_
  intro p e s m args below meth c s₁ B hml hv
  obtain ⟨rfl, hsz, hP, hK, hD0, hN⟩ := hv
  have hx := B.exec
  have hb := B.bytes
  have hr := B.returns
  have hts0 := atoms_spec (ws := wG y_Rp_init b_Rp_init 1 none) B.pre
  have hts := fun w (h : w ∈ Gw) => hts0 w (List.mem_cons_of_mem _ h)
  have hown : s.vm.findClass R_Rp = some m.cls := findClass_of_methodNamed B.named
  have hlocks := B.notSynchronized
  have hin : meth.name = "<init>" := (name_of_methodNamed B.named B.method).1
  subst hsz
  have hD := hD0.self (sz := s.heap.size)
  generalize hAe : va_A [(h0, .inr (6, [.null, .null, .null, .int 0]))] s.heap.size = A at hD ⊢
  have hA : ∀ q : Nat, s.heap.size ≤ q → A q := fun q h => by rw [← hAe]; exact Or.inr h
  have hS : va_S A s.heap s.heap [] := va_S.rf
  have hl := lv_entry ([.ref h0]) (n := 1) (Nat.le_of_ble_eq_true rfl)
  rw [lg_entry_eq]
  generalize (lg_sl ([.ref h0]) ++ List.replicate (1 - (lg_sl ([.ref h0])).length) Slot.unset).toArray = ls at hl ⊢
  have hl : lv_has ls 1 [(0, .ref h0)] := hl
  refine lv_aload_n hx hb d_Rp_init_0 rfl (lv_at hl 0 rfl) ?_
  refine W.objInit hx hb hown (hts _ lo_Rp) (hts _ obi) (hts _ obc) rfl (by rw [hml]; exact hl.1) rfl d_Rp_init_1 (Nat.le_of_ble_eq_true rfl) (Nat.le_of_ble_eq_true rfl) ?_
  refine W.eq (g2 := F0 m 4 ls []) rfl ?_
  refine lv_aload_n hx hb d_Rp_init_4 rfl (lv_at hl 0 rfl) ?_
  refine lv_bipush (v := (20 : Int32)) hx hb d_Rp_init_5 (by decide) ?_
  refine va_newa (ty := .int) (N' := 20) (a0 := (20, .inl (fun _ => 0))) hx hb (hts _ ac_int) rfl hK hP hD hS hA (fun _ => rfl) (by decide) (by decide) (by decide) (Nat.le_of_ble_eq_true rfl) (Nat.le_of_ble_eq_true rfl) d_Rp_init_7 (fun q1 c2 H hK hP hD hS => ?_)
  have hP : va_P D vwCl [(h0, .inr (6, [.null, .null, .null, .int 0])), (q1, .inl (c2, 20, .inl (fun _ => 0)))] H := hP
  have hD : va_D A [(h0, .inr (6, [.null, .null, .null, .int 0])), (q1, .inl (c2, 20, .inl (fun _ => 0)))] := hD
  have hK : va_K D vwCl [(c2, .int)] s := hK
  refine W.widen (k := 1) (n := 20) (Nat.le_of_ble_eq_true rfl) (Nat.le_of_ble_eq_true rfl) ?_
  refine va_putF (D := D) (ci := 6) (v := .ref q1) (ty := (.array (.int))) (C := R_Rp) (T := FT_Rp) (N := 4) hx hb hts uw_Rp Fy_Rp ty_Rp nm_Rp hown hK hP hD hS 0 rfl rfl 0 (by decide) (hts _ f_Rp_9) (fun _ h9 => h9) rfl hin rfl (by decide +kernel) rfl rfl (Nat.le_of_ble_eq_true rfl) d_Rp_init_9 (fun H locs hP hD hS => ?_)
  have hP : va_P D vwCl [(h0, .inr (6, [.ref q1, .null, .null, .int 0])), (q1, .inl (c2, 20, .inl (fun _ => 0)))] H := hP
  have hD : va_D A [(h0, .inr (6, [.ref q1, .null, .null, .int 0])), (q1, .inl (c2, 20, .inl (fun _ => 0)))] := hD
  refine lv_aload_n hx hb d_Rp_init_12 rfl (lv_at hl 0 rfl) ?_
  refine lv_bipush (v := (20 : Int32)) hx hb d_Rp_init_13 (by decide) ?_
  refine va_newa (ty := .boolean) (N' := 20) (a0 := (20, .inl (fun _ => 0))) hx hb (hts _ ac_boolean) rfl hK hP hD hS hA (fun _ => rfl) (by decide) (by decide) (by decide) (Nat.le_of_ble_eq_true rfl) (Nat.le_of_ble_eq_true rfl) d_Rp_init_15 (fun q3 c4 H hK hP hD hS => ?_)
  have hP : va_P D vwCl [(h0, .inr (6, [.ref q1, .null, .null, .int 0])), (q1, .inl (c2, 20, .inl (fun _ => 0))), (q3, .inl (c4, 20, .inl (fun _ => 0)))] H := hP
  have hD : va_D A [(h0, .inr (6, [.ref q1, .null, .null, .int 0])), (q1, .inl (c2, 20, .inl (fun _ => 0))), (q3, .inl (c4, 20, .inl (fun _ => 0)))] := hD
  have hK : va_K D vwCl [(c2, .int), (c4, .boolean)] s := hK
  refine W.widen (k := 2) (n := 40) (Nat.le_of_ble_eq_true rfl) (Nat.le_of_ble_eq_true rfl) ?_
  refine va_putF (D := D) (ci := 6) (v := .ref q3) (ty := (.array (.boolean))) (C := R_Rp) (T := FT_Rp) (N := 4) hx hb hts uw_Rp Fy_Rp ty_Rp nm_Rp hown hK hP hD hS 0 rfl rfl 1 (by decide) (hts _ f_Rp_15) (fun _ h9 => h9) rfl hin rfl (by decide +kernel) rfl rfl (Nat.le_of_ble_eq_true rfl) d_Rp_init_17 (fun H locs hP hD hS => ?_)
  have hP : va_P D vwCl [(h0, .inr (6, [.ref q1, .ref q3, .null, .int 0])), (q1, .inl (c2, 20, .inl (fun _ => 0))), (q3, .inl (c4, 20, .inl (fun _ => 0)))] H := hP
  have hD : va_D A [(h0, .inr (6, [.ref q1, .ref q3, .null, .int 0])), (q1, .inl (c2, 20, .inl (fun _ => 0))), (q3, .inl (c4, 20, .inl (fun _ => 0)))] := hD
  refine lv_aload_n hx hb d_Rp_init_20 rfl (lv_at hl 0 rfl) ?_
  refine lv_bipush (v := (20 : Int32)) hx hb d_Rp_init_21 (by decide) ?_
  refine va_newa (ty := .int) (N' := 20) (a0 := (20, .inl (fun _ => 0))) hx hb (hts _ ac_int) rfl hK hP hD hS hA (fun _ => rfl) (by decide) (by decide) (by decide) (Nat.le_of_ble_eq_true rfl) (Nat.le_of_ble_eq_true rfl) d_Rp_init_23 (fun q5 c6 H hK hP hD hS => ?_)
  have hP : va_P D vwCl [(h0, .inr (6, [.ref q1, .ref q3, .null, .int 0])), (q1, .inl (c2, 20, .inl (fun _ => 0))), (q3, .inl (c4, 20, .inl (fun _ => 0))), (q5, .inl (c6, 20, .inl (fun _ => 0)))] H := hP
  have hD : va_D A [(h0, .inr (6, [.ref q1, .ref q3, .null, .int 0])), (q1, .inl (c2, 20, .inl (fun _ => 0))), (q3, .inl (c4, 20, .inl (fun _ => 0))), (q5, .inl (c6, 20, .inl (fun _ => 0)))] := hD
  have hK : va_K D vwCl [(c2, .int), (c4, .boolean), (c6, .int)] s := hK
  refine W.widen (k := 3) (n := 60) (Nat.le_of_ble_eq_true rfl) (Nat.le_of_ble_eq_true rfl) ?_
  refine va_putF (D := D) (ci := 6) (v := .ref q5) (ty := (.array (.int))) (C := R_Rp) (T := FT_Rp) (N := 4) hx hb hts uw_Rp Fy_Rp ty_Rp nm_Rp hown hK hP hD hS 0 rfl rfl 2 (by decide) (hts _ f_Rp_19) (fun _ h9 => h9) rfl hin rfl (by decide +kernel) rfl rfl (Nat.le_of_ble_eq_true rfl) d_Rp_init_25 (fun H locs hP hD hS => ?_)
  have hP : va_P D vwCl [(h0, .inr (6, [.ref q1, .ref q3, .ref q5, .int 0])), (q1, .inl (c2, 20, .inl (fun _ => 0))), (q3, .inl (c4, 20, .inl (fun _ => 0))), (q5, .inl (c6, 20, .inl (fun _ => 0)))] H := hP
  have hD : va_D A [(h0, .inr (6, [.ref q1, .ref q3, .ref q5, .int 0])), (q1, .inl (c2, 20, .inl (fun _ => 0))), (q3, .inl (c4, 20, .inl (fun _ => 0))), (q5, .inl (c6, 20, .inl (fun _ => 0)))] := hD
  exact W.vret hx hb hr (fun t ht hW => ⟨⟨(), rfl, trivial, q1, q3, q5, c2, c4, c6, by rw [ht]; exact hP, va_K.moved hW.alike hK, hD⟩, hS.F ht⟩) hS.2.2 d_Rp_init_28
def Bk_Un (D : va_G) (A : Nat → Prop) (h0 : Nat) (t : State) : Prop := (∃ q1 q3 q5 c2 c4 c6 : Nat, va_P D vwCl [(h0, .inr (8, [.ref q1, .ref q3, .ref q5, .int 0])), (q1, .inl (c2, 4, .inl (fun _ => 0))), (q3, .inl (c4, 4, .inl (fun _ => 0))), (q5, .inl (c6, 4, .inl (fun _ => 0)))] t.heap ∧ va_K D vwCl [(c2, .int), (c4, .int), (c6, .boolean)] t ∧ va_D A [(h0, .inr (8, [.ref q1, .ref q3, .ref q5, .int 0])), (q1, .inl (c2, 4, .inl (fun _ => 0))), (q3, .inl (c4, 4, .inl (fun _ => 0))), (q5, .inl (c6, 4, .inl (fun _ => 0)))])
set_option maxHeartbeats 8000000 in
set_option maxRecDepth 100000 in
theorem k_Un (l : Launch) (D : va_G) (h0 sz : Nat) : Met l y_Un_init (wG y_Un_init b_Un_init 1 none) { frames := 1, cells := 3, slots := 12, locals := 12 } (va_Pc [.ref h0] (Kp D sz [(h0, .inr (8, [.null, .null, .null, .int 0]))])) (va_Qv (fun _ : Unit => True) (fun _ t => Bk_Un D (va_A [(h0, .inr (8, [.null, .null, .null, .int 0]))] sz) h0 t) (va_A [(h0, .inr (8, [.null, .null, .null, .int 0]))] sz)) 3 12 (va_A [(h0, .inr (8, [.null, .null, .null, .int 0]))] sz) := by
  refine Met.ofW (cc := b_Un_init) (maxL := 1) (ret := none) (by decide) rfl ?_
  intro p e s m args below meth c s₁ B hml hv
  obtain ⟨rfl, hsz, hP, hK, hD0, hN⟩ := hv
  have hx := B.exec
  have hb := B.bytes
  have hr := B.returns
  have hts0 := atoms_spec (ws := wG y_Un_init b_Un_init 1 none) B.pre
  have hts := fun w (h : w ∈ Gw) => hts0 w (List.mem_cons_of_mem _ h)
  have hown : s.vm.findClass R_Un = some m.cls := findClass_of_methodNamed B.named
  have hlocks := B.notSynchronized
  have hin : meth.name = "<init>" := (name_of_methodNamed B.named B.method).1
  subst hsz
  have hD := hD0.self (sz := s.heap.size)
  generalize hAe : va_A [(h0, .inr (8, [.null, .null, .null, .int 0]))] s.heap.size = A at hD ⊢
  have hA : ∀ q : Nat, s.heap.size ≤ q → A q := fun q h => by rw [← hAe]; exact Or.inr h
  have hS : va_S A s.heap s.heap [] := va_S.rf
  have hl := lv_entry ([.ref h0]) (n := 1) (Nat.le_of_ble_eq_true rfl)
  rw [lg_entry_eq]
  generalize (lg_sl ([.ref h0]) ++ List.replicate (1 - (lg_sl ([.ref h0])).length) Slot.unset).toArray = ls at hl ⊢
  have hl : lv_has ls 1 [(0, .ref h0)] := hl
  refine lv_aload_n hx hb d_Un_init_0 rfl (lv_at hl 0 rfl) ?_
  refine W.objInit hx hb hown (hts _ lo_Un) (hts _ obi) (hts _ obc) rfl (by rw [hml]; exact hl.1) rfl d_Un_init_1 (Nat.le_of_ble_eq_true rfl) (Nat.le_of_ble_eq_true rfl) ?_
  refine W.eq (g2 := F0 m 4 ls []) rfl ?_
  refine lv_aload_n hx hb d_Un_init_4 rfl (lv_at hl 0 rfl) ?_
  refine lv_iconst (v := (4 : Int32)) hx hb d_Un_init_5 (by decide) ?_
  refine va_newa (ty := .int) (N' := 4) (a0 := (4, .inl (fun _ => 0))) hx hb (hts _ ac_int) rfl hK hP hD hS hA (fun _ => rfl) (by decide) (by decide) (by decide) (Nat.le_of_ble_eq_true rfl) (Nat.le_of_ble_eq_true rfl) d_Un_init_6 (fun q1 c2 H hK hP hD hS => ?_)
  have hP : va_P D vwCl [(h0, .inr (8, [.null, .null, .null, .int 0])), (q1, .inl (c2, 4, .inl (fun _ => 0)))] H := hP
  have hD : va_D A [(h0, .inr (8, [.null, .null, .null, .int 0])), (q1, .inl (c2, 4, .inl (fun _ => 0)))] := hD
  have hK : va_K D vwCl [(c2, .int)] s := hK
  refine W.widen (k := 1) (n := 4) (Nat.le_of_ble_eq_true rfl) (Nat.le_of_ble_eq_true rfl) ?_
  refine va_putF (D := D) (ci := 8) (v := .ref q1) (ty := (.array (.int))) (C := R_Un) (T := FT_Un) (N := 4) hx hb hts uw_Un Fy_Un ty_Un nm_Un hown hK hP hD hS 0 rfl rfl 0 (by decide) (hts _ f_Un_9) (fun _ h9 => h9) rfl hin rfl (by decide +kernel) rfl rfl (Nat.le_of_ble_eq_true rfl) d_Un_init_8 (fun H locs hP hD hS => ?_)
  have hP : va_P D vwCl [(h0, .inr (8, [.ref q1, .null, .null, .int 0])), (q1, .inl (c2, 4, .inl (fun _ => 0)))] H := hP
  have hD : va_D A [(h0, .inr (8, [.ref q1, .null, .null, .int 0])), (q1, .inl (c2, 4, .inl (fun _ => 0)))] := hD
  refine lv_aload_n hx hb d_Un_init_11 rfl (lv_at hl 0 rfl) ?_
  refine lv_iconst (v := (4 : Int32)) hx hb d_Un_init_12 (by decide) ?_
  refine va_newa (ty := .int) (N' := 4) (a0 := (4, .inl (fun _ => 0))) hx hb (hts _ ac_int) rfl hK hP hD hS hA (fun _ => rfl) (by decide) (by decide) (by decide) (Nat.le_of_ble_eq_true rfl) (Nat.le_of_ble_eq_true rfl) d_Un_init_13 (fun q3 c4 H hK hP hD hS => ?_)
  have hP : va_P D vwCl [(h0, .inr (8, [.ref q1, .null, .null, .int 0])), (q1, .inl (c2, 4, .inl (fun _ => 0))), (q3, .inl (c4, 4, .inl (fun _ => 0)))] H := hP
  have hD : va_D A [(h0, .inr (8, [.ref q1, .null, .null, .int 0])), (q1, .inl (c2, 4, .inl (fun _ => 0))), (q3, .inl (c4, 4, .inl (fun _ => 0)))] := hD
  have hK : va_K D vwCl [(c2, .int), (c4, .int)] s := hK
  refine W.widen (k := 2) (n := 8) (Nat.le_of_ble_eq_true rfl) (Nat.le_of_ble_eq_true rfl) ?_
  refine va_putF (D := D) (ci := 8) (v := .ref q3) (ty := (.array (.int))) (C := R_Un) (T := FT_Un) (N := 4) hx hb hts uw_Un Fy_Un ty_Un nm_Un hown hK hP hD hS 0 rfl rfl 1 (by decide) (hts _ f_Un_15) (fun _ h9 => h9) rfl hin rfl (by decide +kernel) rfl rfl (Nat.le_of_ble_eq_true rfl) d_Un_init_15 (fun H locs hP hD hS => ?_)
  have hP : va_P D vwCl [(h0, .inr (8, [.ref q1, .ref q3, .null, .int 0])), (q1, .inl (c2, 4, .inl (fun _ => 0))), (q3, .inl (c4, 4, .inl (fun _ => 0)))] H := hP
  have hD : va_D A [(h0, .inr (8, [.ref q1, .ref q3, .null, .int 0])), (q1, .inl (c2, 4, .inl (fun _ => 0))), (q3, .inl (c4, 4, .inl (fun _ => 0)))] := hD
  refine lv_aload_n hx hb d_Un_init_18 rfl (lv_at hl 0 rfl) ?_
  refine lv_iconst (v := (4 : Int32)) hx hb d_Un_init_19 (by decide) ?_
  refine va_newa (ty := .boolean) (N' := 4) (a0 := (4, .inl (fun _ => 0))) hx hb (hts _ ac_boolean) rfl hK hP hD hS hA (fun _ => rfl) (by decide) (by decide) (by decide) (Nat.le_of_ble_eq_true rfl) (Nat.le_of_ble_eq_true rfl) d_Un_init_20 (fun q5 c6 H hK hP hD hS => ?_)
  have hP : va_P D vwCl [(h0, .inr (8, [.ref q1, .ref q3, .null, .int 0])), (q1, .inl (c2, 4, .inl (fun _ => 0))), (q3, .inl (c4, 4, .inl (fun _ => 0))), (q5, .inl (c6, 4, .inl (fun _ => 0)))] H := hP
  have hD : va_D A [(h0, .inr (8, [.ref q1, .ref q3, .null, .int 0])), (q1, .inl (c2, 4, .inl (fun _ => 0))), (q3, .inl (c4, 4, .inl (fun _ => 0))), (q5, .inl (c6, 4, .inl (fun _ => 0)))] := hD
  have hK : va_K D vwCl [(c2, .int), (c4, .int), (c6, .boolean)] s := hK
  refine W.widen (k := 3) (n := 12) (Nat.le_of_ble_eq_true rfl) (Nat.le_of_ble_eq_true rfl) ?_
  refine va_putF (D := D) (ci := 8) (v := .ref q5) (ty := (.array (.boolean))) (C := R_Un) (T := FT_Un) (N := 4) hx hb hts uw_Un Fy_Un ty_Un nm_Un hown hK hP hD hS 0 rfl rfl 2 (by decide) (hts _ f_Un_18) (fun _ h9 => h9) rfl hin rfl (by decide +kernel) rfl rfl (Nat.le_of_ble_eq_true rfl) d_Un_init_22 (fun H locs hP hD hS => ?_)
  have hP : va_P D vwCl [(h0, .inr (8, [.ref q1, .ref q3, .ref q5, .int 0])), (q1, .inl (c2, 4, .inl (fun _ => 0))), (q3, .inl (c4, 4, .inl (fun _ => 0))), (q5, .inl (c6, 4, .inl (fun _ => 0)))] H := hP
  have hD : va_D A [(h0, .inr (8, [.ref q1, .ref q3, .ref q5, .int 0])), (q1, .inl (c2, 4, .inl (fun _ => 0))), (q3, .inl (c4, 4, .inl (fun _ => 0))), (q5, .inl (c6, 4, .inl (fun _ => 0)))] := hD
  exact W.vret hx hb hr (fun t ht hW => ⟨⟨(), rfl, trivial, q1, q3, q5, c2, c4, c6, by rw [ht]; exact hP, va_K.moved hW.alike hK, hD⟩, hS.F ht⟩) hS.2.2 d_Un_init_25
def Bk_Gr (D : va_G) (A : Nat → Prop) (h0 : Nat) (t : State) : Prop := (∃ q1 q2 q3 q4 c5 c6 c7 : Nat, va_P D vwCl [(h0, .inr (4, [.ref q1, .int (0 : Int32), .int 0, .int 0, .int 0, .int 0, .int 0, .int 0, .int 0, .int (3 : Int32), .int (4 : Int32), .int (5 : Int32), .int 0, .int 0])), (q1, .inr (8, [.ref q2, .ref q3, .ref q4, .int 0])), (q2, .inl (c5, 4, .inl (fun _ => 0))), (q3, .inl (c6, 4, .inl (fun _ => 0))), (q4, .inl (c7, 4, .inl (fun _ => 0)))] t.heap ∧ va_K D vwCl [(c5, .int), (c6, .int), (c7, .boolean)] t ∧ va_D A [(h0, .inr (4, [.ref q1, .int (0 : Int32), .int 0, .int 0, .int 0, .int 0, .int 0, .int 0, .int 0, .int (3 : Int32), .int (4 : Int32), .int (5 : Int32), .int 0, .int 0])), (q1, .inr (8, [.ref q2, .ref q3, .ref q4, .int 0])), (q2, .inl (c5, 4, .inl (fun _ => 0))), (q3, .inl (c6, 4, .inl (fun _ => 0))), (q4, .inl (c7, 4, .inl (fun _ => 0)))])
set_option maxHeartbeats 8000000 in
set_option maxRecDepth 100000 in
theorem k_Gr (l : Launch) (D : va_G) (h0 sz : Nat) : Met l y_Gr_init (wG y_Gr_init b_Gr_init 1 none) { frames := 2, cells := 4, slots := 16, locals := 32 } (va_Pc [.ref h0] (Kp D sz [(h0, .inr (4, [.null, .int 0, .int 0, .int 0, .int 0, .int 0, .int 0, .int 0, .int 0, .int 0, .int 0, .int 0, .int 0, .int 0]))])) (va_Qv (fun _ : Unit => True) (fun _ t => Bk_Gr D (va_A [(h0, .inr (4, [.null, .int 0, .int 0, .int 0, .int 0, .int 0, .int 0, .int 0, .int 0, .int 0, .int 0, .int 0, .int 0, .int 0]))] sz) h0 t) (va_A [(h0, .inr (4, [.null, .int 0, .int 0, .int 0, .int 0, .int 0, .int 0, .int 0, .int 0, .int 0, .int 0, .int 0, .int 0, .int 0]))] sz)) 4 16 (va_A [(h0, .inr (4, [.null, .int 0, .int 0, .int 0, .int 0, .int 0, .int 0, .int 0, .int 0, .int 0, .int 0, .int 0, .int 0, .int 0]))] sz) := by
  refine Met.ofW (cc := b_Gr_init) (maxL := 1) (ret := none) (by decide) rfl ?_
  intro p e s m args below meth c s₁ B hml hv
  obtain ⟨rfl, hsz, hP, hK, hD0, hN⟩ := hv
  have hx := B.exec
  have hb := B.bytes
  have hr := B.returns
  have hts0 := atoms_spec (ws := wG y_Gr_init b_Gr_init 1 none) B.pre
  have hts := fun w (h : w ∈ Gw) => hts0 w (List.mem_cons_of_mem _ h)
  have hown : s.vm.findClass R_Gr = some m.cls := findClass_of_methodNamed B.named
  have hlocks := B.notSynchronized
  have hin : meth.name = "<init>" := (name_of_methodNamed B.named B.method).1
  subst hsz
  have hD := hD0.self (sz := s.heap.size)
  generalize hAe : va_A [(h0, .inr (4, [.null, .int 0, .int 0, .int 0, .int 0, .int 0, .int 0, .int 0, .int 0, .int 0, .int 0, .int 0, .int 0, .int 0]))] s.heap.size = A at hD ⊢
  have hA : ∀ q : Nat, s.heap.size ≤ q → A q := fun q h => by rw [← hAe]; exact Or.inr h
  have hS : va_S A s.heap s.heap [] := va_S.rf
  have hl := lv_entry ([.ref h0]) (n := 1) (Nat.le_of_ble_eq_true rfl)
  rw [lg_entry_eq]
  generalize (lg_sl ([.ref h0]) ++ List.replicate (1 - (lg_sl ([.ref h0])).length) Slot.unset).toArray = ls at hl ⊢
  have hl : lv_has ls 1 [(0, .ref h0)] := hl
  refine lv_aload_n hx hb d_Gr_init_0 rfl (lv_at hl 0 rfl) ?_
  refine W.objInit hx hb hown (hts _ lo_Gr) (hts _ obi) (hts _ obc) rfl (by rw [hml]; exact hl.1) rfl d_Gr_init_1 (Nat.le_of_ble_eq_true rfl) (Nat.le_of_ble_eq_true rfl) ?_
  refine W.eq (g2 := F0 m 4 ls []) rfl ?_
  refine lv_aload_n hx hb d_Gr_init_4 rfl (lv_at hl 0 rfl) ?_
  refine va_new (ci := 8) (fs := [.null, .null, .null, .int 0]) (C := R_Un) (T := FT_Un) (N := 4) hx hb hts uw_Un Fy_Un ty_Un hown (hts _ kl_Gr_9) (hts _ ins_Un) (hts _ gc_Un_init.2) hK hP hD hS hA rfl (by decide +kernel) (Nat.le_of_ble_eq_true rfl) (Nat.le_of_ble_eq_true rfl) d_Gr_init_5 (fun q1 H hP hD hS => ?_)
  have hP : va_P D vwCl [(h0, .inr (4, [.null, .int 0, .int 0, .int 0, .int 0, .int 0, .int 0, .int 0, .int 0, .int 0, .int 0, .int 0, .int 0, .int 0])), (q1, .inr (8, [.null, .null, .null, .int 0]))] H := hP
  have hD : va_D A [(h0, .inr (4, [.null, .int 0, .int 0, .int 0, .int 0, .int 0, .int 0, .int 0, .int 0, .int 0, .int 0, .int 0, .int 0, .int 0])), (q1, .inr (8, [.null, .null, .null, .int 0]))] := hD
  refine W.widen (k := 1) (n := 4) (Nat.le_of_ble_eq_true rfl) (Nat.le_of_ble_eq_true rfl) ?_
  refine lv_dup hx hb d_Gr_init_8 rfl ?_
  have hPc := hP.sub (ws' := [(q1, .inr (8, [.null, .null, .null, .int 0]))]) [1] rfl
  have hDc := hD.sub (ws' := [(q1, .inr (8, [.null, .null, .null, .int 0]))]) [1] (by decide) rfl
  have hKc := hK.sub (tys' := []) [] rfl
  have hFc := va_free (wc := [(q1, .inr (8, [.null, .null, .null, .int 0]))]) hD hS hA [1] rfl
  refine va_callv (va_runIN (As := []) (rest := [.ref q1, .ref h0]) ⟨hx, hb, hml, hown, hts⟩ (k_Un l D q1 H.size) ⟨va_cnB 0 hts (gw_call rfl gc_Un_init.1) rfl rfl rfl (hN.1 _ (by decide +kernel : Cond.methodLinkNest R_Gr 11 y_Un_init "TeleStack" ∈ nwL)) (hts _ gc_Un_init.2) (by decide +kernel) ⟨Nat.le_of_ble_eq_true rfl, Nat.le_of_ble_eq_true rfl⟩, rfl, hts _ im_Un⟩ ⟨k_blind, fun U hU hW => ⟨rfl, by rw [hU], by rw [hU]; exact hPc, va_K.moved hW.alike hKc, hDc.weaken (fun _ _ _ _ => trivial), N1_warm hW hN⟩⟩ rfl rfl hl.1 rfl (lv_room (Nat.le_of_ble_eq_true rfl)) d_Gr_init_9 ⟨Nat.le_of_ble_eq_true rfl, Nat.le_of_ble_eq_true rfl⟩) hS (fun q _ h => hFc q h) hFc (fun u t H1 locs ht hvm hw hB hz1 hk1 hS => ?_)
  obtain ⟨q2, q3, q4, c5, c6, c7, hP1, hK1, hD1⟩ := hB
  rw [ht] at hP1
  have hK1 := va_K.moved hvm.symm hK1
  obtain ⟨hP, hD⟩ := va_join (wr := [(h0, .inr (4, [.null, .int 0, .int 0, .int 0, .int 0, .int 0, .int 0, .int 0, .int 0, .int 0, .int 0, .int 0, .int 0, .int 0]))]) (w1 := [(q1, .inr (8, [.ref q2, .ref q3, .ref q4, .int 0])), (q2, .inl (c5, 4, .inl (fun _ => 0))), (q3, .inl (c6, 4, .inl (fun _ => 0))), (q4, .inl (c7, 4, .inl (fun _ => 0)))]) hP hD [1] [0] rfl rfl (by decide) (by decide) hk1 hFc hP1 hD1
  have hK := hK.app hK1
  generalize H1 = H at hP hS ⊢
  have hP : va_P D vwCl [(h0, .inr (4, [.null, .int 0, .int 0, .int 0, .int 0, .int 0, .int 0, .int 0, .int 0, .int 0, .int 0, .int 0, .int 0, .int 0])), (q1, .inr (8, [.ref q2, .ref q3, .ref q4, .int 0])), (q2, .inl (c5, 4, .inl (fun _ => 0))), (q3, .inl (c6, 4, .inl (fun _ => 0))), (q4, .inl (c7, 4, .inl (fun _ => 0)))] H := hP
  have hD : va_D A [(h0, .inr (4, [.null, .int 0, .int 0, .int 0, .int 0, .int 0, .int 0, .int 0, .int 0, .int 0, .int 0, .int 0, .int 0, .int 0])), (q1, .inr (8, [.ref q2, .ref q3, .ref q4, .int 0])), (q2, .inl (c5, 4, .inl (fun _ => 0))), (q3, .inl (c6, 4, .inl (fun _ => 0))), (q4, .inl (c7, 4, .inl (fun _ => 0)))] := hD
  have hK : va_K D vwCl [(c5, .int), (c6, .int), (c7, .boolean)] s := hK
  refine W.widen (k := 4) (n := 16) (Nat.le_of_ble_eq_true rfl) (Nat.le_of_ble_eq_true rfl) ?_
  refine va_putF (D := D) (ci := 4) (v := .ref q1) (ty := (.object "TeleStack$Unacknowledged")) (C := R_Gr) (T := FT_Gr) (N := 14) hx hb hts uw_Gr Fy_Gr ty_Gr nm_Gr hown hK hP hD hS 0 rfl rfl 0 (by decide) (hts _ f_Gr_12) (fun _ h9 => h9) rfl hin rfl (by decide +kernel) rfl rfl (Nat.le_of_ble_eq_true rfl) d_Gr_init_12 (fun H locs hP hD hS => ?_)
  have hP : va_P D vwCl [(h0, .inr (4, [.ref q1, .int 0, .int 0, .int 0, .int 0, .int 0, .int 0, .int 0, .int 0, .int 0, .int 0, .int 0, .int 0, .int 0])), (q1, .inr (8, [.ref q2, .ref q3, .ref q4, .int 0])), (q2, .inl (c5, 4, .inl (fun _ => 0))), (q3, .inl (c6, 4, .inl (fun _ => 0))), (q4, .inl (c7, 4, .inl (fun _ => 0)))] H := hP
  have hD : va_D A [(h0, .inr (4, [.ref q1, .int 0, .int 0, .int 0, .int 0, .int 0, .int 0, .int 0, .int 0, .int 0, .int 0, .int 0, .int 0, .int 0])), (q1, .inr (8, [.ref q2, .ref q3, .ref q4, .int 0])), (q2, .inl (c5, 4, .inl (fun _ => 0))), (q3, .inl (c6, 4, .inl (fun _ => 0))), (q4, .inl (c7, 4, .inl (fun _ => 0)))] := hD
  refine lv_aload_n hx hb d_Gr_init_15 rfl (lv_at hl 0 rfl) ?_
  refine lv_iconst (v := (0 : Int32)) hx hb d_Gr_init_16 (by decide) ?_
  refine va_put (D := D) (ci := 4) (v := .int (0 : Int32)) (ty := .int) (C := R_Gr) (T := FT_Gr) (N := 14) hx hb hts uw_Gr Fy_Gr ty_Gr nm_Gr hown hK hP hD hS 0 rfl rfl 1 (by decide) (hts _ f_Gr_18) (fun _ h9 => h9) rfl (by decide +kernel) rfl rfl (Nat.le_of_ble_eq_true rfl) d_Gr_init_17 (fun H locs hP hD hS => ?_)
  have hP : va_P D vwCl [(h0, .inr (4, [.ref q1, .int (0 : Int32), .int 0, .int 0, .int 0, .int 0, .int 0, .int 0, .int 0, .int 0, .int 0, .int 0, .int 0, .int 0])), (q1, .inr (8, [.ref q2, .ref q3, .ref q4, .int 0])), (q2, .inl (c5, 4, .inl (fun _ => 0))), (q3, .inl (c6, 4, .inl (fun _ => 0))), (q4, .inl (c7, 4, .inl (fun _ => 0)))] H := hP
  have hD : va_D A [(h0, .inr (4, [.ref q1, .int (0 : Int32), .int 0, .int 0, .int 0, .int 0, .int 0, .int 0, .int 0, .int 0, .int 0, .int 0, .int 0, .int 0])), (q1, .inr (8, [.ref q2, .ref q3, .ref q4, .int 0])), (q2, .inl (c5, 4, .inl (fun _ => 0))), (q3, .inl (c6, 4, .inl (fun _ => 0))), (q4, .inl (c7, 4, .inl (fun _ => 0)))] := hD
  refine lv_aload_n hx hb d_Gr_init_20 rfl (lv_at hl 0 rfl) ?_
  refine lv_iconst (v := (3 : Int32)) hx hb d_Gr_init_21 (by decide) ?_
  refine va_put (D := D) (ci := 4) (v := .int (3 : Int32)) (ty := .int) (C := R_Gr) (T := FT_Gr) (N := 14) hx hb hts uw_Gr Fy_Gr ty_Gr nm_Gr hown hK hP hD hS 0 rfl rfl 9 (by decide) (hts _ f_Gr_22) (fun _ h9 => h9) rfl (by decide +kernel) rfl rfl (Nat.le_of_ble_eq_true rfl) d_Gr_init_22 (fun H locs hP hD hS => ?_)
  have hP : va_P D vwCl [(h0, .inr (4, [.ref q1, .int (0 : Int32), .int 0, .int 0, .int 0, .int 0, .int 0, .int 0, .int 0, .int (3 : Int32), .int 0, .int 0, .int 0, .int 0])), (q1, .inr (8, [.ref q2, .ref q3, .ref q4, .int 0])), (q2, .inl (c5, 4, .inl (fun _ => 0))), (q3, .inl (c6, 4, .inl (fun _ => 0))), (q4, .inl (c7, 4, .inl (fun _ => 0)))] H := hP
  have hD : va_D A [(h0, .inr (4, [.ref q1, .int (0 : Int32), .int 0, .int 0, .int 0, .int 0, .int 0, .int 0, .int 0, .int (3 : Int32), .int 0, .int 0, .int 0, .int 0])), (q1, .inr (8, [.ref q2, .ref q3, .ref q4, .int 0])), (q2, .inl (c5, 4, .inl (fun _ => 0))), (q3, .inl (c6, 4, .inl (fun _ => 0))), (q4, .inl (c7, 4, .inl (fun _ => 0)))] := hD
  refine lv_aload_n hx hb d_Gr_init_25 rfl (lv_at hl 0 rfl) ?_
  refine lv_iconst (v := (4 : Int32)) hx hb d_Gr_init_26 (by decide) ?_
  refine va_put (D := D) (ci := 4) (v := .int (4 : Int32)) (ty := .int) (C := R_Gr) (T := FT_Gr) (N := 14) hx hb hts uw_Gr Fy_Gr ty_Gr nm_Gr hown hK hP hD hS 0 rfl rfl 10 (by decide) (hts _ f_Gr_25) (fun _ h9 => h9) rfl (by decide +kernel) rfl rfl (Nat.le_of_ble_eq_true rfl) d_Gr_init_27 (fun H locs hP hD hS => ?_)
  have hP : va_P D vwCl [(h0, .inr (4, [.ref q1, .int (0 : Int32), .int 0, .int 0, .int 0, .int 0, .int 0, .int 0, .int 0, .int (3 : Int32), .int (4 : Int32), .int 0, .int 0, .int 0])), (q1, .inr (8, [.ref q2, .ref q3, .ref q4, .int 0])), (q2, .inl (c5, 4, .inl (fun _ => 0))), (q3, .inl (c6, 4, .inl (fun _ => 0))), (q4, .inl (c7, 4, .inl (fun _ => 0)))] H := hP
  have hD : va_D A [(h0, .inr (4, [.ref q1, .int (0 : Int32), .int 0, .int 0, .int 0, .int 0, .int 0, .int 0, .int 0, .int (3 : Int32), .int (4 : Int32), .int 0, .int 0, .int 0])), (q1, .inr (8, [.ref q2, .ref q3, .ref q4, .int 0])), (q2, .inl (c5, 4, .inl (fun _ => 0))), (q3, .inl (c6, 4, .inl (fun _ => 0))), (q4, .inl (c7, 4, .inl (fun _ => 0)))] := hD
  refine lv_aload_n hx hb d_Gr_init_30 rfl (lv_at hl 0 rfl) ?_
  refine lv_iconst (v := (5 : Int32)) hx hb d_Gr_init_31 (by decide) ?_
  refine va_put (D := D) (ci := 4) (v := .int (5 : Int32)) (ty := .int) (C := R_Gr) (T := FT_Gr) (N := 14) hx hb hts uw_Gr Fy_Gr ty_Gr nm_Gr hown hK hP hD hS 0 rfl rfl 11 (by decide) (hts _ f_Gr_28) (fun _ h9 => h9) rfl (by decide +kernel) rfl rfl (Nat.le_of_ble_eq_true rfl) d_Gr_init_32 (fun H locs hP hD hS => ?_)
  have hP : va_P D vwCl [(h0, .inr (4, [.ref q1, .int (0 : Int32), .int 0, .int 0, .int 0, .int 0, .int 0, .int 0, .int 0, .int (3 : Int32), .int (4 : Int32), .int (5 : Int32), .int 0, .int 0])), (q1, .inr (8, [.ref q2, .ref q3, .ref q4, .int 0])), (q2, .inl (c5, 4, .inl (fun _ => 0))), (q3, .inl (c6, 4, .inl (fun _ => 0))), (q4, .inl (c7, 4, .inl (fun _ => 0)))] H := hP
  have hD : va_D A [(h0, .inr (4, [.ref q1, .int (0 : Int32), .int 0, .int 0, .int 0, .int 0, .int 0, .int 0, .int 0, .int (3 : Int32), .int (4 : Int32), .int (5 : Int32), .int 0, .int 0])), (q1, .inr (8, [.ref q2, .ref q3, .ref q4, .int 0])), (q2, .inl (c5, 4, .inl (fun _ => 0))), (q3, .inl (c6, 4, .inl (fun _ => 0))), (q4, .inl (c7, 4, .inl (fun _ => 0)))] := hD
  exact W.vret hx hb hr (fun t ht hW => ⟨⟨(), rfl, trivial, q1, q2, q3, q4, c5, c6, c7, by rw [ht]; exact hP, va_K.moved hW.alike hK, hD⟩, hS.F ht⟩) hS.2.2 d_Gr_init_35
def Bk_Cr (D : va_G) (A : Nat → Prop) (h0 : Nat) (t : State) : Prop := (∃ q1 c2 : Nat, va_P D vwCl [(h0, .inr (2, [.ref q1, .int 0, .int (0 : Int32), .int 0, .int 0])), (q1, .inl (c2, 3, .inl (fun _ => 0)))] t.heap ∧ va_K D vwCl [(c2, .int)] t ∧ va_D A [(h0, .inr (2, [.ref q1, .int 0, .int (0 : Int32), .int 0, .int 0])), (q1, .inl (c2, 3, .inl (fun _ => 0)))])
set_option maxHeartbeats 8000000 in
set_option maxRecDepth 100000 in
theorem k_Cr (l : Launch) (D : va_G) (h0 sz : Nat) : Met l y_Cr_init (wG y_Cr_init b_Cr_init 1 none) { frames := 1, cells := 1, slots := 3, locals := 12 } (va_Pc [.ref h0] (Kp D sz [(h0, .inr (2, [.null, .int 0, .int 0, .int 0, .int 0]))])) (va_Qv (fun _ : Unit => True) (fun _ t => Bk_Cr D (va_A [(h0, .inr (2, [.null, .int 0, .int 0, .int 0, .int 0]))] sz) h0 t) (va_A [(h0, .inr (2, [.null, .int 0, .int 0, .int 0, .int 0]))] sz)) 1 3 (va_A [(h0, .inr (2, [.null, .int 0, .int 0, .int 0, .int 0]))] sz) := by
  refine Met.ofW (cc := b_Cr_init) (maxL := 1) (ret := none) (by decide) rfl ?_
  intro p e s m args below meth c s₁ B hml hv
  obtain ⟨rfl, hsz, hP, hK, hD0, hN⟩ := hv
  have hx := B.exec
  have hb := B.bytes
  have hr := B.returns
  have hts0 := atoms_spec (ws := wG y_Cr_init b_Cr_init 1 none) B.pre
  have hts := fun w (h : w ∈ Gw) => hts0 w (List.mem_cons_of_mem _ h)
  have hown : s.vm.findClass R_Cr = some m.cls := findClass_of_methodNamed B.named
  have hlocks := B.notSynchronized
  have hin : meth.name = "<init>" := (name_of_methodNamed B.named B.method).1
  subst hsz
  have hD := hD0.self (sz := s.heap.size)
  generalize hAe : va_A [(h0, .inr (2, [.null, .int 0, .int 0, .int 0, .int 0]))] s.heap.size = A at hD ⊢
  have hA : ∀ q : Nat, s.heap.size ≤ q → A q := fun q h => by rw [← hAe]; exact Or.inr h
  have hS : va_S A s.heap s.heap [] := va_S.rf
  have hl := lv_entry ([.ref h0]) (n := 1) (Nat.le_of_ble_eq_true rfl)
  rw [lg_entry_eq]
  generalize (lg_sl ([.ref h0]) ++ List.replicate (1 - (lg_sl ([.ref h0])).length) Slot.unset).toArray = ls at hl ⊢
  have hl : lv_has ls 1 [(0, .ref h0)] := hl
  refine lv_aload_n hx hb d_Cr_init_0 rfl (lv_at hl 0 rfl) ?_
  refine W.objInit hx hb hown (hts _ lo_Cr) (hts _ obi) (hts _ obc) rfl (by rw [hml]; exact hl.1) rfl d_Cr_init_1 (Nat.le_of_ble_eq_true rfl) (Nat.le_of_ble_eq_true rfl) ?_
  refine W.eq (g2 := F0 m 4 ls []) rfl ?_
  refine lv_aload_n hx hb d_Cr_init_4 rfl (lv_at hl 0 rfl) ?_
  refine lv_iconst (v := (3 : Int32)) hx hb d_Cr_init_5 (by decide) ?_
  refine va_newa (ty := .int) (N' := 3) (a0 := (3, .inl (fun _ => 0))) hx hb (hts _ ac_int) rfl hK hP hD hS hA (fun _ => rfl) (by decide) (by decide) (by decide) (Nat.le_of_ble_eq_true rfl) (Nat.le_of_ble_eq_true rfl) d_Cr_init_6 (fun q1 c2 H hK hP hD hS => ?_)
  have hP : va_P D vwCl [(h0, .inr (2, [.null, .int 0, .int 0, .int 0, .int 0])), (q1, .inl (c2, 3, .inl (fun _ => 0)))] H := hP
  have hD : va_D A [(h0, .inr (2, [.null, .int 0, .int 0, .int 0, .int 0])), (q1, .inl (c2, 3, .inl (fun _ => 0)))] := hD
  have hK : va_K D vwCl [(c2, .int)] s := hK
  refine W.widen (k := 1) (n := 3) (Nat.le_of_ble_eq_true rfl) (Nat.le_of_ble_eq_true rfl) ?_
  refine va_putF (D := D) (ci := 2) (v := .ref q1) (ty := (.array (.int))) (C := R_Cr) (T := FT_Cr) (N := 5) hx hb hts uw_Cr Fy_Cr ty_Cr nm_Cr hown hK hP hD hS 0 rfl rfl 0 (by decide) (hts _ f_Cr_11) (fun _ h9 => h9) rfl hin rfl (by decide +kernel) rfl rfl (Nat.le_of_ble_eq_true rfl) d_Cr_init_8 (fun H locs hP hD hS => ?_)
  have hP : va_P D vwCl [(h0, .inr (2, [.ref q1, .int 0, .int 0, .int 0, .int 0])), (q1, .inl (c2, 3, .inl (fun _ => 0)))] H := hP
  have hD : va_D A [(h0, .inr (2, [.ref q1, .int 0, .int 0, .int 0, .int 0])), (q1, .inl (c2, 3, .inl (fun _ => 0)))] := hD
  refine lv_aload_n hx hb d_Cr_init_11 rfl (lv_at hl 0 rfl) ?_
  refine lv_iconst (v := (0 : Int32)) hx hb d_Cr_init_12 (by decide) ?_
  refine va_put (D := D) (ci := 2) (v := .int (0 : Int32)) (ty := .int) (C := R_Cr) (T := FT_Cr) (N := 5) hx hb hts uw_Cr Fy_Cr ty_Cr nm_Cr hown hK hP hD hS 0 rfl rfl 2 (by decide) (hts _ f_Cr_15) (fun _ h9 => h9) rfl (by decide +kernel) rfl rfl (Nat.le_of_ble_eq_true rfl) d_Cr_init_13 (fun H locs hP hD hS => ?_)
  have hP : va_P D vwCl [(h0, .inr (2, [.ref q1, .int 0, .int (0 : Int32), .int 0, .int 0])), (q1, .inl (c2, 3, .inl (fun _ => 0)))] H := hP
  have hD : va_D A [(h0, .inr (2, [.ref q1, .int 0, .int (0 : Int32), .int 0, .int 0])), (q1, .inl (c2, 3, .inl (fun _ => 0)))] := hD
  exact W.vret hx hb hr (fun t ht hW => ⟨⟨(), rfl, trivial, q1, c2, by rw [ht]; exact hP, va_K.moved hW.alike hK, hD⟩, hS.F ht⟩) hS.2.2 d_Cr_init_16
def Bk_St (D : va_G) (A : Nat → Prop) (h0 : Nat) (t : State) : Prop := (∃ q1 q3 c2 c4 : Nat, va_P D vwCl [(h0, .inr (7, [.ref q1, .ref q3, .int 0, .int 0])), (q1, .inl (c2, 60, .inl (fun _ => 0))), (q3, .inl (c4, 60, .inl (fun _ => 0)))] t.heap ∧ va_K D vwCl [(c2, .int), (c4, .boolean)] t ∧ va_D A [(h0, .inr (7, [.ref q1, .ref q3, .int 0, .int 0])), (q1, .inl (c2, 60, .inl (fun _ => 0))), (q3, .inl (c4, 60, .inl (fun _ => 0)))])
set_option maxHeartbeats 8000000 in
set_option maxRecDepth 100000 in
theorem k_St (l : Launch) (D : va_G) (h0 sz : Nat) : Met l y_St_init (wG y_St_init b_St_init 1 none) { frames := 1, cells := 2, slots := 120, locals := 12 } (va_Pc [.ref h0] (Kp D sz [(h0, .inr (7, [.null, .null, .int 0, .int 0]))])) (va_Qv (fun _ : Unit => True) (fun _ t => Bk_St D (va_A [(h0, .inr (7, [.null, .null, .int 0, .int 0]))] sz) h0 t) (va_A [(h0, .inr (7, [.null, .null, .int 0, .int 0]))] sz)) 2 120 (va_A [(h0, .inr (7, [.null, .null, .int 0, .int 0]))] sz) := by
  refine Met.ofW (cc := b_St_init) (maxL := 1) (ret := none) (by decide) rfl ?_
  intro p e s m args below meth c s₁ B hml hv
  obtain ⟨rfl, hsz, hP, hK, hD0, hN⟩ := hv
  have hx := B.exec
  have hb := B.bytes
  have hr := B.returns
  have hts0 := atoms_spec (ws := wG y_St_init b_St_init 1 none) B.pre
  have hts := fun w (h : w ∈ Gw) => hts0 w (List.mem_cons_of_mem _ h)
  have hown : s.vm.findClass R_St = some m.cls := findClass_of_methodNamed B.named
  have hlocks := B.notSynchronized
  have hin : meth.name = "<init>" := (name_of_methodNamed B.named B.method).1
  subst hsz
  have hD := hD0.self (sz := s.heap.size)
  generalize hAe : va_A [(h0, .inr (7, [.null, .null, .int 0, .int 0]))] s.heap.size = A at hD ⊢
  have hA : ∀ q : Nat, s.heap.size ≤ q → A q := fun q h => by rw [← hAe]; exact Or.inr h
  have hS : va_S A s.heap s.heap [] := va_S.rf
  have hl := lv_entry ([.ref h0]) (n := 1) (Nat.le_of_ble_eq_true rfl)
  rw [lg_entry_eq]
  generalize (lg_sl ([.ref h0]) ++ List.replicate (1 - (lg_sl ([.ref h0])).length) Slot.unset).toArray = ls at hl ⊢
  have hl : lv_has ls 1 [(0, .ref h0)] := hl
  refine lv_aload_n hx hb d_St_init_0 rfl (lv_at hl 0 rfl) ?_
  refine W.objInit hx hb hown (hts _ lo_St) (hts _ obi) (hts _ obc) rfl (by rw [hml]; exact hl.1) rfl d_St_init_1 (Nat.le_of_ble_eq_true rfl) (Nat.le_of_ble_eq_true rfl) ?_
  refine W.eq (g2 := F0 m 4 ls []) rfl ?_
  refine lv_aload_n hx hb d_St_init_4 rfl (lv_at hl 0 rfl) ?_
  refine lv_bipush (v := (60 : Int32)) hx hb d_St_init_5 (by decide) ?_
  refine va_newa (ty := .int) (N' := 60) (a0 := (60, .inl (fun _ => 0))) hx hb (hts _ ac_int) rfl hK hP hD hS hA (fun _ => rfl) (by decide) (by decide) (by decide) (Nat.le_of_ble_eq_true rfl) (Nat.le_of_ble_eq_true rfl) d_St_init_7 (fun q1 c2 H hK hP hD hS => ?_)
  have hP : va_P D vwCl [(h0, .inr (7, [.null, .null, .int 0, .int 0])), (q1, .inl (c2, 60, .inl (fun _ => 0)))] H := hP
  have hD : va_D A [(h0, .inr (7, [.null, .null, .int 0, .int 0])), (q1, .inl (c2, 60, .inl (fun _ => 0)))] := hD
  have hK : va_K D vwCl [(c2, .int)] s := hK
  refine W.widen (k := 1) (n := 60) (Nat.le_of_ble_eq_true rfl) (Nat.le_of_ble_eq_true rfl) ?_
  refine va_putF (D := D) (ci := 7) (v := .ref q1) (ty := (.array (.int))) (C := R_St) (T := FT_St) (N := 4) hx hb hts uw_St Fy_St ty_St nm_St hown hK hP hD hS 0 rfl rfl 0 (by decide) (hts _ f_St_11) (fun _ h9 => h9) rfl hin rfl (by decide +kernel) rfl rfl (Nat.le_of_ble_eq_true rfl) d_St_init_9 (fun H locs hP hD hS => ?_)
  have hP : va_P D vwCl [(h0, .inr (7, [.ref q1, .null, .int 0, .int 0])), (q1, .inl (c2, 60, .inl (fun _ => 0)))] H := hP
  have hD : va_D A [(h0, .inr (7, [.ref q1, .null, .int 0, .int 0])), (q1, .inl (c2, 60, .inl (fun _ => 0)))] := hD
  refine lv_aload_n hx hb d_St_init_12 rfl (lv_at hl 0 rfl) ?_
  refine lv_bipush (v := (60 : Int32)) hx hb d_St_init_13 (by decide) ?_
  refine va_newa (ty := .boolean) (N' := 60) (a0 := (60, .inl (fun _ => 0))) hx hb (hts _ ac_boolean) rfl hK hP hD hS hA (fun _ => rfl) (by decide) (by decide) (by decide) (Nat.le_of_ble_eq_true rfl) (Nat.le_of_ble_eq_true rfl) d_St_init_15 (fun q3 c4 H hK hP hD hS => ?_)
  have hP : va_P D vwCl [(h0, .inr (7, [.ref q1, .null, .int 0, .int 0])), (q1, .inl (c2, 60, .inl (fun _ => 0))), (q3, .inl (c4, 60, .inl (fun _ => 0)))] H := hP
  have hD : va_D A [(h0, .inr (7, [.ref q1, .null, .int 0, .int 0])), (q1, .inl (c2, 60, .inl (fun _ => 0))), (q3, .inl (c4, 60, .inl (fun _ => 0)))] := hD
  have hK : va_K D vwCl [(c2, .int), (c4, .boolean)] s := hK
  refine W.widen (k := 2) (n := 120) (Nat.le_of_ble_eq_true rfl) (Nat.le_of_ble_eq_true rfl) ?_
  refine va_putF (D := D) (ci := 7) (v := .ref q3) (ty := (.array (.boolean))) (C := R_St) (T := FT_St) (N := 4) hx hb hts uw_St Fy_St ty_St nm_St hown hK hP hD hS 0 rfl rfl 1 (by decide) (hts _ f_St_15) (fun _ h9 => h9) rfl hin rfl (by decide +kernel) rfl rfl (Nat.le_of_ble_eq_true rfl) d_St_init_17 (fun H locs hP hD hS => ?_)
  have hP : va_P D vwCl [(h0, .inr (7, [.ref q1, .ref q3, .int 0, .int 0])), (q1, .inl (c2, 60, .inl (fun _ => 0))), (q3, .inl (c4, 60, .inl (fun _ => 0)))] H := hP
  have hD : va_D A [(h0, .inr (7, [.ref q1, .ref q3, .int 0, .int 0])), (q1, .inl (c2, 60, .inl (fun _ => 0))), (q3, .inl (c4, 60, .inl (fun _ => 0)))] := hD
  exact W.vret hx hb hr (fun t ht hW => ⟨⟨(), rfl, trivial, q1, q3, c2, c4, by rw [ht]; exact hP, va_K.moved hW.alike hK, hD⟩, hS.F ht⟩) hS.2.2 d_St_init_20
def Bk_As (D : va_G) (A : Nat → Prop) (h0 : Nat) (a1 : Int32) (t : State) : Prop := (va_P D vwCl [(h0, .inr (1, [.int a1, .int 0, .int (1 : Int32), .int 0, .int 0, .int 0, .int 0]))] t.heap ∧ va_K D vwCl [] t ∧ va_D A [(h0, .inr (1, [.int a1, .int 0, .int (1 : Int32), .int 0, .int 0, .int 0, .int 0]))])
set_option maxHeartbeats 8000000 in
set_option maxRecDepth 100000 in
theorem k_As (l : Launch) (D : va_G) (h0 sz : Nat) (a1 : Int32) : Met l y_As_init (wG y_As_init b_As_init 2 none) { frames := 1, cells := 0, slots := 0, locals := 12 } (va_Pc [.ref h0, .int a1] (Kp D sz [(h0, .inr (1, [.int 0, .int 0, .int 0, .int 0, .int 0, .int 0, .int 0]))])) (va_Qv (fun _ : Unit => True) (fun _ t => Bk_As D (va_A [(h0, .inr (1, [.int 0, .int 0, .int 0, .int 0, .int 0, .int 0, .int 0]))] sz) h0 a1 t) (va_A [(h0, .inr (1, [.int 0, .int 0, .int 0, .int 0, .int 0, .int 0, .int 0]))] sz)) 0 0 (va_A [(h0, .inr (1, [.int 0, .int 0, .int 0, .int 0, .int 0, .int 0, .int 0]))] sz) := by
  refine Met.ofW (cc := b_As_init) (maxL := 2) (ret := none) (by decide) rfl ?_
  intro p e s m args below meth c s₁ B hml hv
  obtain ⟨rfl, hsz, hP, hK, hD0, hN⟩ := hv
  have hx := B.exec
  have hb := B.bytes
  have hr := B.returns
  have hts0 := atoms_spec (ws := wG y_As_init b_As_init 2 none) B.pre
  have hts := fun w (h : w ∈ Gw) => hts0 w (List.mem_cons_of_mem _ h)
  have hown : s.vm.findClass R_As = some m.cls := findClass_of_methodNamed B.named
  have hlocks := B.notSynchronized
  have hin : meth.name = "<init>" := (name_of_methodNamed B.named B.method).1
  subst hsz
  have hD := hD0.self (sz := s.heap.size)
  generalize hAe : va_A [(h0, .inr (1, [.int 0, .int 0, .int 0, .int 0, .int 0, .int 0, .int 0]))] s.heap.size = A at hD ⊢
  have hA : ∀ q : Nat, s.heap.size ≤ q → A q := fun q h => by rw [← hAe]; exact Or.inr h
  have hS : va_S A s.heap s.heap [] := va_S.rf
  have hl := lv_entry ([.ref h0, .int a1]) (n := 2) (Nat.le_of_ble_eq_true rfl)
  rw [lg_entry_eq]
  generalize (lg_sl ([.ref h0, .int a1]) ++ List.replicate (2 - (lg_sl ([.ref h0, .int a1])).length) Slot.unset).toArray = ls at hl ⊢
  have hl : lv_has ls 2 [(0, .ref h0), (1, .int a1)] := hl
  refine lv_aload_n hx hb d_As_init_0 rfl (lv_at hl 0 rfl) ?_
  refine W.objInit hx hb hown (hts _ lo_As) (hts _ obi) (hts _ obc) rfl (by rw [hml]; exact hl.1) rfl d_As_init_1 (Nat.le_of_ble_eq_true rfl) (Nat.le_of_ble_eq_true rfl) ?_
  refine W.eq (g2 := F0 m 4 ls []) rfl ?_
  refine lv_aload_n hx hb d_As_init_4 rfl (lv_at hl 0 rfl) ?_
  refine lv_iconst (v := (1 : Int32)) hx hb d_As_init_5 (by decide) ?_
  refine va_put (D := D) (ci := 1) (v := .int (1 : Int32)) (ty := .boolean) (C := R_As) (T := FT_As) (N := 7) hx hb hts uw_As Fy_As ty_As nm_As hown hK hP hD hS 0 rfl rfl 2 (by decide) (hts _ f_As_9) (fun _ h9 => h9) rfl (by decide +kernel) rfl rfl (Nat.le_of_ble_eq_true rfl) d_As_init_6 (fun H locs hP hD hS => ?_)
  have hP : va_P D vwCl [(h0, .inr (1, [.int 0, .int 0, .int (1 : Int32), .int 0, .int 0, .int 0, .int 0]))] H := hP
  have hD : va_D A [(h0, .inr (1, [.int 0, .int 0, .int (1 : Int32), .int 0, .int 0, .int 0, .int 0]))] := hD
  refine lv_aload_n hx hb d_As_init_9 rfl (lv_at hl 0 rfl) ?_
  refine lv_iload_n hx hb d_As_init_10 rfl (lv_at hl 1 rfl) ?_
  refine va_putF (D := D) (ci := 1) (v := .int a1) (ty := .int) (C := R_As) (T := FT_As) (N := 7) hx hb hts uw_As Fy_As ty_As nm_As hown hK hP hD hS 0 rfl rfl 0 (by decide) (hts _ f_As_15) (fun _ h9 => h9) rfl hin rfl (by decide +kernel) rfl rfl (Nat.le_of_ble_eq_true rfl) d_As_init_11 (fun H locs hP hD hS => ?_)
  have hP : va_P D vwCl [(h0, .inr (1, [.int a1, .int 0, .int (1 : Int32), .int 0, .int 0, .int 0, .int 0]))] H := hP
  have hD : va_D A [(h0, .inr (1, [.int a1, .int 0, .int (1 : Int32), .int 0, .int 0, .int 0, .int 0]))] := hD
  exact W.vret hx hb hr (fun t ht hW => ⟨⟨(), rfl, trivial, by rw [ht]; exact hP, va_K.moved hW.alike hK, hD⟩, hS.F ht⟩) hS.2.2 d_As_init_14
def Bk_Df (D : va_G) (A : Nat → Prop) (h0 : Nat) (t : State) : Prop := (∃ q1 c2 : Nat, va_P D vwCl [(h0, .inr (3, [.ref q1, .int 0, .int 0])), (q1, .inl (c2, 6, .inl (fun _ => 0)))] t.heap ∧ va_K D vwCl [(c2, .int)] t ∧ va_D A [(h0, .inr (3, [.ref q1, .int 0, .int 0])), (q1, .inl (c2, 6, .inl (fun _ => 0)))])
set_option maxHeartbeats 8000000 in
set_option maxRecDepth 100000 in
theorem k_Df (l : Launch) (D : va_G) (h0 sz : Nat) : Met l y_Df_init (wG y_Df_init b_Df_init 1 none) { frames := 1, cells := 1, slots := 6, locals := 12 } (va_Pc [.ref h0] (Kp D sz [(h0, .inr (3, [.null, .int 0, .int 0]))])) (va_Qv (fun _ : Unit => True) (fun _ t => Bk_Df D (va_A [(h0, .inr (3, [.null, .int 0, .int 0]))] sz) h0 t) (va_A [(h0, .inr (3, [.null, .int 0, .int 0]))] sz)) 1 6 (va_A [(h0, .inr (3, [.null, .int 0, .int 0]))] sz) := by
  refine Met.ofW (cc := b_Df_init) (maxL := 1) (ret := none) (by decide) rfl ?_
  intro p e s m args below meth c s₁ B hml hv
  obtain ⟨rfl, hsz, hP, hK, hD0, hN⟩ := hv
  have hx := B.exec
  have hb := B.bytes
  have hr := B.returns
  have hts0 := atoms_spec (ws := wG y_Df_init b_Df_init 1 none) B.pre
  have hts := fun w (h : w ∈ Gw) => hts0 w (List.mem_cons_of_mem _ h)
  have hown : s.vm.findClass R_Df = some m.cls := findClass_of_methodNamed B.named
  have hlocks := B.notSynchronized
  have hin : meth.name = "<init>" := (name_of_methodNamed B.named B.method).1
  subst hsz
  have hD := hD0.self (sz := s.heap.size)
  generalize hAe : va_A [(h0, .inr (3, [.null, .int 0, .int 0]))] s.heap.size = A at hD ⊢
  have hA : ∀ q : Nat, s.heap.size ≤ q → A q := fun q h => by rw [← hAe]; exact Or.inr h
  have hS : va_S A s.heap s.heap [] := va_S.rf
  have hl := lv_entry ([.ref h0]) (n := 1) (Nat.le_of_ble_eq_true rfl)
  rw [lg_entry_eq]
  generalize (lg_sl ([.ref h0]) ++ List.replicate (1 - (lg_sl ([.ref h0])).length) Slot.unset).toArray = ls at hl ⊢
  have hl : lv_has ls 1 [(0, .ref h0)] := hl
  refine lv_aload_n hx hb d_Df_init_0 rfl (lv_at hl 0 rfl) ?_
  refine W.objInit hx hb hown (hts _ lo_Df) (hts _ obi) (hts _ obc) rfl (by rw [hml]; exact hl.1) rfl d_Df_init_1 (Nat.le_of_ble_eq_true rfl) (Nat.le_of_ble_eq_true rfl) ?_
  refine W.eq (g2 := F0 m 4 ls []) rfl ?_
  refine lv_aload_n hx hb d_Df_init_4 rfl (lv_at hl 0 rfl) ?_
  refine lv_bipush (v := (6 : Int32)) hx hb d_Df_init_5 (by decide) ?_
  refine va_newa (ty := .int) (N' := 6) (a0 := (6, .inl (fun _ => 0))) hx hb (hts _ ac_int) rfl hK hP hD hS hA (fun _ => rfl) (by decide) (by decide) (by decide) (Nat.le_of_ble_eq_true rfl) (Nat.le_of_ble_eq_true rfl) d_Df_init_7 (fun q1 c2 H hK hP hD hS => ?_)
  have hP : va_P D vwCl [(h0, .inr (3, [.null, .int 0, .int 0])), (q1, .inl (c2, 6, .inl (fun _ => 0)))] H := hP
  have hD : va_D A [(h0, .inr (3, [.null, .int 0, .int 0])), (q1, .inl (c2, 6, .inl (fun _ => 0)))] := hD
  have hK : va_K D vwCl [(c2, .int)] s := hK
  refine W.widen (k := 1) (n := 6) (Nat.le_of_ble_eq_true rfl) (Nat.le_of_ble_eq_true rfl) ?_
  refine va_putF (D := D) (ci := 3) (v := .ref q1) (ty := (.array (.int))) (C := R_Df) (T := FT_Df) (N := 3) hx hb hts uw_Df Fy_Df ty_Df nm_Df hown hK hP hD hS 0 rfl rfl 0 (by decide) (hts _ f_Df_9) (fun _ h9 => h9) rfl hin rfl (by decide +kernel) rfl rfl (Nat.le_of_ble_eq_true rfl) d_Df_init_9 (fun H locs hP hD hS => ?_)
  have hP : va_P D vwCl [(h0, .inr (3, [.ref q1, .int 0, .int 0])), (q1, .inl (c2, 6, .inl (fun _ => 0)))] H := hP
  have hD : va_D A [(h0, .inr (3, [.ref q1, .int 0, .int 0])), (q1, .inl (c2, 6, .inl (fun _ => 0)))] := hD
  exact W.vret hx hb hr (fun t ht hW => ⟨⟨(), rfl, trivial, q1, c2, by rw [ht]; exact hP, va_K.moved hW.alike hK, hD⟩, hS.F ht⟩) hS.2.2 d_Df_init_12
def Bk_Rc (D : va_G) (A : Nat → Prop) (h0 : Nat) (t : State) : Prop := (∃ q1 q3 q5 q7 c2 c4 c6 c8 : Nat, va_P D vwCl [(h0, .inr (5, [.ref q1, .ref q3, .ref q5, .ref q7, .int 0])), (q1, .inl (c2, 40, .inl (fun _ => 0))), (q3, .inl (c4, 40, .inl (fun _ => 0))), (q5, .inl (c6, 40, .inl (fun _ => 0))), (q7, .inl (c8, 40, .inl (fun _ => 0)))] t.heap ∧ va_K D vwCl [(c2, .int), (c4, .int), (c6, .int), (c8, .int)] t ∧ va_D A [(h0, .inr (5, [.ref q1, .ref q3, .ref q5, .ref q7, .int 0])), (q1, .inl (c2, 40, .inl (fun _ => 0))), (q3, .inl (c4, 40, .inl (fun _ => 0))), (q5, .inl (c6, 40, .inl (fun _ => 0))), (q7, .inl (c8, 40, .inl (fun _ => 0)))])
set_option maxHeartbeats 8000000 in
set_option maxRecDepth 100000 in
theorem k_Rc (l : Launch) (D : va_G) (h0 sz : Nat) : Met l y_Rc_init (wG y_Rc_init b_Rc_init 1 none) { frames := 1, cells := 4, slots := 160, locals := 12 } (va_Pc [.ref h0] (Kp D sz [(h0, .inr (5, [.null, .null, .null, .null, .int 0]))])) (va_Qv (fun _ : Unit => True) (fun _ t => Bk_Rc D (va_A [(h0, .inr (5, [.null, .null, .null, .null, .int 0]))] sz) h0 t) (va_A [(h0, .inr (5, [.null, .null, .null, .null, .int 0]))] sz)) 4 160 (va_A [(h0, .inr (5, [.null, .null, .null, .null, .int 0]))] sz) := by
  refine Met.ofW (cc := b_Rc_init) (maxL := 1) (ret := none) (by decide) rfl ?_
  intro p e s m args below meth c s₁ B hml hv
  obtain ⟨rfl, hsz, hP, hK, hD0, hN⟩ := hv
  have hx := B.exec
  have hb := B.bytes
  have hr := B.returns
  have hts0 := atoms_spec (ws := wG y_Rc_init b_Rc_init 1 none) B.pre
  have hts := fun w (h : w ∈ Gw) => hts0 w (List.mem_cons_of_mem _ h)
  have hown : s.vm.findClass R_Rc = some m.cls := findClass_of_methodNamed B.named
  have hlocks := B.notSynchronized
  have hin : meth.name = "<init>" := (name_of_methodNamed B.named B.method).1
  subst hsz
  have hD := hD0.self (sz := s.heap.size)
  generalize hAe : va_A [(h0, .inr (5, [.null, .null, .null, .null, .int 0]))] s.heap.size = A at hD ⊢
  have hA : ∀ q : Nat, s.heap.size ≤ q → A q := fun q h => by rw [← hAe]; exact Or.inr h
  have hS : va_S A s.heap s.heap [] := va_S.rf
  have hl := lv_entry ([.ref h0]) (n := 1) (Nat.le_of_ble_eq_true rfl)
  rw [lg_entry_eq]
  generalize (lg_sl ([.ref h0]) ++ List.replicate (1 - (lg_sl ([.ref h0])).length) Slot.unset).toArray = ls at hl ⊢
  have hl : lv_has ls 1 [(0, .ref h0)] := hl
  refine lv_aload_n hx hb d_Rc_init_0 rfl (lv_at hl 0 rfl) ?_
  refine W.objInit hx hb hown (hts _ lo_Rc) (hts _ obi) (hts _ obc) rfl (by rw [hml]; exact hl.1) rfl d_Rc_init_1 (Nat.le_of_ble_eq_true rfl) (Nat.le_of_ble_eq_true rfl) ?_
  refine W.eq (g2 := F0 m 4 ls []) rfl ?_
  refine lv_aload_n hx hb d_Rc_init_4 rfl (lv_at hl 0 rfl) ?_
  refine lv_bipush (v := (40 : Int32)) hx hb d_Rc_init_5 (by decide) ?_
  refine va_newa (ty := .int) (N' := 40) (a0 := (40, .inl (fun _ => 0))) hx hb (hts _ ac_int) rfl hK hP hD hS hA (fun _ => rfl) (by decide) (by decide) (by decide) (Nat.le_of_ble_eq_true rfl) (Nat.le_of_ble_eq_true rfl) d_Rc_init_7 (fun q1 c2 H hK hP hD hS => ?_)
  have hP : va_P D vwCl [(h0, .inr (5, [.null, .null, .null, .null, .int 0])), (q1, .inl (c2, 40, .inl (fun _ => 0)))] H := hP
  have hD : va_D A [(h0, .inr (5, [.null, .null, .null, .null, .int 0])), (q1, .inl (c2, 40, .inl (fun _ => 0)))] := hD
  have hK : va_K D vwCl [(c2, .int)] s := hK
  refine W.widen (k := 1) (n := 40) (Nat.le_of_ble_eq_true rfl) (Nat.le_of_ble_eq_true rfl) ?_
  refine va_putF (D := D) (ci := 5) (v := .ref q1) (ty := (.array (.int))) (C := R_Rc) (T := FT_Rc) (N := 5) hx hb hts uw_Rc Fy_Rc ty_Rc nm_Rc hown hK hP hD hS 0 rfl rfl 0 (by decide) (hts _ f_Rc_9) (fun _ h9 => h9) rfl hin rfl (by decide +kernel) rfl rfl (Nat.le_of_ble_eq_true rfl) d_Rc_init_9 (fun H locs hP hD hS => ?_)
  have hP : va_P D vwCl [(h0, .inr (5, [.ref q1, .null, .null, .null, .int 0])), (q1, .inl (c2, 40, .inl (fun _ => 0)))] H := hP
  have hD : va_D A [(h0, .inr (5, [.ref q1, .null, .null, .null, .int 0])), (q1, .inl (c2, 40, .inl (fun _ => 0)))] := hD
  refine lv_aload_n hx hb d_Rc_init_12 rfl (lv_at hl 0 rfl) ?_
  refine lv_bipush (v := (40 : Int32)) hx hb d_Rc_init_13 (by decide) ?_
  refine va_newa (ty := .int) (N' := 40) (a0 := (40, .inl (fun _ => 0))) hx hb (hts _ ac_int) rfl hK hP hD hS hA (fun _ => rfl) (by decide) (by decide) (by decide) (Nat.le_of_ble_eq_true rfl) (Nat.le_of_ble_eq_true rfl) d_Rc_init_15 (fun q3 c4 H hK hP hD hS => ?_)
  have hP : va_P D vwCl [(h0, .inr (5, [.ref q1, .null, .null, .null, .int 0])), (q1, .inl (c2, 40, .inl (fun _ => 0))), (q3, .inl (c4, 40, .inl (fun _ => 0)))] H := hP
  have hD : va_D A [(h0, .inr (5, [.ref q1, .null, .null, .null, .int 0])), (q1, .inl (c2, 40, .inl (fun _ => 0))), (q3, .inl (c4, 40, .inl (fun _ => 0)))] := hD
  have hK : va_K D vwCl [(c2, .int), (c4, .int)] s := hK
  refine W.widen (k := 2) (n := 80) (Nat.le_of_ble_eq_true rfl) (Nat.le_of_ble_eq_true rfl) ?_
  refine va_putF (D := D) (ci := 5) (v := .ref q3) (ty := (.array (.int))) (C := R_Rc) (T := FT_Rc) (N := 5) hx hb hts uw_Rc Fy_Rc ty_Rc nm_Rc hown hK hP hD hS 0 rfl rfl 1 (by decide) (hts _ f_Rc_13) (fun _ h9 => h9) rfl hin rfl (by decide +kernel) rfl rfl (Nat.le_of_ble_eq_true rfl) d_Rc_init_17 (fun H locs hP hD hS => ?_)
  have hP : va_P D vwCl [(h0, .inr (5, [.ref q1, .ref q3, .null, .null, .int 0])), (q1, .inl (c2, 40, .inl (fun _ => 0))), (q3, .inl (c4, 40, .inl (fun _ => 0)))] H := hP
  have hD : va_D A [(h0, .inr (5, [.ref q1, .ref q3, .null, .null, .int 0])), (q1, .inl (c2, 40, .inl (fun _ => 0))), (q3, .inl (c4, 40, .inl (fun _ => 0)))] := hD
  refine lv_aload_n hx hb d_Rc_init_20 rfl (lv_at hl 0 rfl) ?_
  refine lv_bipush (v := (40 : Int32)) hx hb d_Rc_init_21 (by decide) ?_
  refine va_newa (ty := .int) (N' := 40) (a0 := (40, .inl (fun _ => 0))) hx hb (hts _ ac_int) rfl hK hP hD hS hA (fun _ => rfl) (by decide) (by decide) (by decide) (Nat.le_of_ble_eq_true rfl) (Nat.le_of_ble_eq_true rfl) d_Rc_init_23 (fun q5 c6 H hK hP hD hS => ?_)
  have hP : va_P D vwCl [(h0, .inr (5, [.ref q1, .ref q3, .null, .null, .int 0])), (q1, .inl (c2, 40, .inl (fun _ => 0))), (q3, .inl (c4, 40, .inl (fun _ => 0))), (q5, .inl (c6, 40, .inl (fun _ => 0)))] H := hP
  have hD : va_D A [(h0, .inr (5, [.ref q1, .ref q3, .null, .null, .int 0])), (q1, .inl (c2, 40, .inl (fun _ => 0))), (q3, .inl (c4, 40, .inl (fun _ => 0))), (q5, .inl (c6, 40, .inl (fun _ => 0)))] := hD
  have hK : va_K D vwCl [(c2, .int), (c4, .int), (c6, .int)] s := hK
  refine W.widen (k := 3) (n := 120) (Nat.le_of_ble_eq_true rfl) (Nat.le_of_ble_eq_true rfl) ?_
  refine va_putF (D := D) (ci := 5) (v := .ref q5) (ty := (.array (.int))) (C := R_Rc) (T := FT_Rc) (N := 5) hx hb hts uw_Rc Fy_Rc ty_Rc nm_Rc hown hK hP hD hS 0 rfl rfl 2 (by decide) (hts _ f_Rc_16) (fun _ h9 => h9) rfl hin rfl (by decide +kernel) rfl rfl (Nat.le_of_ble_eq_true rfl) d_Rc_init_25 (fun H locs hP hD hS => ?_)
  have hP : va_P D vwCl [(h0, .inr (5, [.ref q1, .ref q3, .ref q5, .null, .int 0])), (q1, .inl (c2, 40, .inl (fun _ => 0))), (q3, .inl (c4, 40, .inl (fun _ => 0))), (q5, .inl (c6, 40, .inl (fun _ => 0)))] H := hP
  have hD : va_D A [(h0, .inr (5, [.ref q1, .ref q3, .ref q5, .null, .int 0])), (q1, .inl (c2, 40, .inl (fun _ => 0))), (q3, .inl (c4, 40, .inl (fun _ => 0))), (q5, .inl (c6, 40, .inl (fun _ => 0)))] := hD
  refine lv_aload_n hx hb d_Rc_init_28 rfl (lv_at hl 0 rfl) ?_
  refine lv_bipush (v := (40 : Int32)) hx hb d_Rc_init_29 (by decide) ?_
  refine va_newa (ty := .int) (N' := 40) (a0 := (40, .inl (fun _ => 0))) hx hb (hts _ ac_int) rfl hK hP hD hS hA (fun _ => rfl) (by decide) (by decide) (by decide) (Nat.le_of_ble_eq_true rfl) (Nat.le_of_ble_eq_true rfl) d_Rc_init_31 (fun q7 c8 H hK hP hD hS => ?_)
  have hP : va_P D vwCl [(h0, .inr (5, [.ref q1, .ref q3, .ref q5, .null, .int 0])), (q1, .inl (c2, 40, .inl (fun _ => 0))), (q3, .inl (c4, 40, .inl (fun _ => 0))), (q5, .inl (c6, 40, .inl (fun _ => 0))), (q7, .inl (c8, 40, .inl (fun _ => 0)))] H := hP
  have hD : va_D A [(h0, .inr (5, [.ref q1, .ref q3, .ref q5, .null, .int 0])), (q1, .inl (c2, 40, .inl (fun _ => 0))), (q3, .inl (c4, 40, .inl (fun _ => 0))), (q5, .inl (c6, 40, .inl (fun _ => 0))), (q7, .inl (c8, 40, .inl (fun _ => 0)))] := hD
  have hK : va_K D vwCl [(c2, .int), (c4, .int), (c6, .int), (c8, .int)] s := hK
  refine W.widen (k := 4) (n := 160) (Nat.le_of_ble_eq_true rfl) (Nat.le_of_ble_eq_true rfl) ?_
  refine va_putF (D := D) (ci := 5) (v := .ref q7) (ty := (.array (.int))) (C := R_Rc) (T := FT_Rc) (N := 5) hx hb hts uw_Rc Fy_Rc ty_Rc nm_Rc hown hK hP hD hS 0 rfl rfl 3 (by decide) (hts _ f_Rc_19) (fun _ h9 => h9) rfl hin rfl (by decide +kernel) rfl rfl (Nat.le_of_ble_eq_true rfl) d_Rc_init_33 (fun H locs hP hD hS => ?_)
  have hP : va_P D vwCl [(h0, .inr (5, [.ref q1, .ref q3, .ref q5, .ref q7, .int 0])), (q1, .inl (c2, 40, .inl (fun _ => 0))), (q3, .inl (c4, 40, .inl (fun _ => 0))), (q5, .inl (c6, 40, .inl (fun _ => 0))), (q7, .inl (c8, 40, .inl (fun _ => 0)))] H := hP
  have hD : va_D A [(h0, .inr (5, [.ref q1, .ref q3, .ref q5, .ref q7, .int 0])), (q1, .inl (c2, 40, .inl (fun _ => 0))), (q3, .inl (c4, 40, .inl (fun _ => 0))), (q5, .inl (c6, 40, .inl (fun _ => 0))), (q7, .inl (c8, 40, .inl (fun _ => 0)))] := hD
  exact W.vret hx hb hr (fun t ht hW => ⟨⟨(), rfl, trivial, q1, q3, q5, q7, c2, c4, c6, c8, by rw [ht]; exact hP, va_K.moved hW.alike hK, hD⟩, hS.F ht⟩) hS.2.2 d_Rc_init_36
