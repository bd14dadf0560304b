def w_case (a0 a1 a2 a3 : Int32) (σ : Jst) (K : Jst → Prop) : Prop := (((a0 &&& (31 : Int32)) = (0 : Int32) → w_L_tune a1 a2 a3 σ (fun r2 u1 => w_M_tune a1 a2 a3 u1 (fun u3 => w_M_thrown u3 (fun r5 u4 => ((r5 = r2 → K u4) ∧ (¬ r5 = r2 → False)))))) ∧ (((a0 &&& (31 : Int32)) = (1 : Int32) → w_L_number a1 σ (fun r7 u6 => w_M_number a1 u6 (fun u8 => w_M_thrown u8 (fun r10 u9 => ((r10 = r7 → K u9) ∧ (¬ r10 = r7 → False)))))) ∧ (((a0 &&& (31 : Int32)) = (2 : Int32) → w_L_begin a1 σ (fun r12 u11 => w_M_begin a1 u11 (fun u13 => w_M_thrown u13 (fun r15 u14 => ((r15 = r12 → K u14) ∧ (¬ r15 = r12 → False)))))) ∧ (((a0 &&& (31 : Int32)) = (3 : Int32) → w_L_end σ (fun r17 u16 => w_M_end u16 (fun u18 => w_M_thrown u18 (fun r20 u19 => ((r20 = r17 → K u19) ∧ (¬ r20 = r17 → False)))))) ∧ (((a0 &&& (31 : Int32)) = (4 : Int32) → w_L_command a1 σ (fun r22 u21 => w_M_command a1 u21 (fun r24 u23 => w_M_thrown u23 (fun r26 u25 => ((r26 = r22 → ((¬ r22 = (0 : Int32) → K u25) ∧ (r22 = (0 : Int32) → ((r24 = (0 : Int32) → (((lg_cmp (Int32.toInt64 (u25 53 (Int32.toNatClampNeg (0 : Int32)))) (0 : Int64)) = (0 : Int32) → K u25) ∧ (¬ (lg_cmp (Int32.toInt64 (u25 53 (Int32.toNatClampNeg (0 : Int32)))) (0 : Int64)) = (0 : Int32) → False))) ∧ (¬ r24 = (0 : Int32) → (((lg_cmp (Int32.toInt64 (u25 53 (Int32.toNatClampNeg (0 : Int32)))) (1 : Int64)) = (0 : Int32) → K u25) ∧ (¬ (lg_cmp (Int32.toInt64 (u25 53 (Int32.toNatClampNeg (0 : Int32)))) (1 : Int64)) = (0 : Int32) → False))))))) ∧ (¬ r26 = r22 → False)))))) ∧ (((a0 &&& (31 : Int32)) = (5 : Int32) → w_T_tick σ (fun r28 u27 => w_M_tick u27 (fun r30 u29 => ((r28 = r30 → K u29) ∧ (¬ r28 = r30 → False))))) ∧ (((a0 &&& (31 : Int32)) = (6 : Int32) → w_L_raise a1 σ (fun r32 u31 => w_M_raise a1 u31 (fun u33 => w_M_thrown u33 (fun r35 u34 => ((r35 = r32 → K u34) ∧ (¬ r35 = r32 → False)))))) ∧ (((a0 &&& (31 : Int32)) = (7 : Int32) → w_L_drop a1 σ (fun r37 u36 => w_M_drop a1 u36 (fun u38 => w_M_thrown u38 (fun r40 u39 => ((r40 = r37 → K u39) ∧ (¬ r40 = r37 → False)))))) ∧ (((a0 &&& (31 : Int32)) = (8 : Int32) → w_L_take σ (fun r42 u41 => w_M_take u41 (fun r44 u43 => w_M_thrown u43 (fun r46 u45 => ((r46 = r42 → ((¬ r42 = (0 : Int32) → K u45) ∧ (r42 = (0 : Int32) → (((lg_cmp (Int32.toInt64 (u45 53 (Int32.toNatClampNeg (0 : Int32)))) (Int32.toInt64 r44)) = (0 : Int32) → K u45) ∧ (¬ (lg_cmp (Int32.toInt64 (u45 53 (Int32.toNatClampNeg (0 : Int32)))) (Int32.toInt64 r44)) = (0 : Int32) → False))))) ∧ (¬ r46 = r42 → False)))))) ∧ (((a0 &&& (31 : Int32)) = (9 : Int32) → w_T_report σ (fun r48 u47 => w_M_report u47 (fun r50 u49 => ((r48 = r50 → K u49) ∧ (¬ r48 = r50 → False))))) ∧ (((a0 &&& (31 : Int32)) = (10 : Int32) → ((a2 = (0 : Int32) → w_L_answer a1 (0 : Int32) σ (fun r52 u51 => ((a2 = (0 : Int32) → w_M_answer a1 (0 : Int32) u51 (fun u53 => w_M_thrown u53 (fun r55 u54 => ((r55 = r52 → K u54) ∧ (¬ r55 = r52 → False))))) ∧ (¬ a2 = (0 : Int32) → w_M_answer a1 (1 : Int32) u51 (fun u56 => w_M_thrown u56 (fun r58 u57 => ((r58 = r52 → K u57) ∧ (¬ r58 = r52 → False)))))))) ∧ (¬ a2 = (0 : Int32) → w_L_answer a1 (1 : Int32) σ (fun r60 u59 => ((a2 = (0 : Int32) → w_M_answer a1 (0 : Int32) u59 (fun u61 => w_M_thrown u61 (fun r63 u62 => ((r63 = r60 → K u62) ∧ (¬ r63 = r60 → False))))) ∧ (¬ a2 = (0 : Int32) → w_M_answer a1 (1 : Int32) u59 (fun u64 => w_M_thrown u64 (fun r66 u65 => ((r66 = r60 → K u65) ∧ (¬ r66 = r60 → False)))))))))) ∧ (((a0 &&& (31 : Int32)) = (11 : Int32) → w_L_packet a1 a2 a3 σ (fun r68 u67 => w_M_packet a1 a2 a3 u67 (fun r70 u69 => w_M_thrown u69 (fun r72 u71 => ((r72 = r68 → ((¬ r68 = (0 : Int32) → K u71) ∧ (r68 = (0 : Int32) → ((r70 = (0 : Int32) → (((lg_cmp (Int32.toInt64 (u71 53 (Int32.toNatClampNeg (0 : Int32)))) (0 : Int64)) = (0 : Int32) → K u71) ∧ (¬ (lg_cmp (Int32.toInt64 (u71 53 (Int32.toNatClampNeg (0 : Int32)))) (0 : Int64)) = (0 : Int32) → False))) ∧ (¬ r70 = (0 : Int32) → (((lg_cmp (Int32.toInt64 (u71 53 (Int32.toNatClampNeg (0 : Int32)))) (1 : Int64)) = (0 : Int32) → K u71) ∧ (¬ (lg_cmp (Int32.toInt64 (u71 53 (Int32.toNatClampNeg (0 : Int32)))) (1 : Int64)) = (0 : Int32) → False))))))) ∧ (¬ r72 = r68 → False)))))) ∧ (((a0 &&& (31 : Int32)) = (12 : Int32) → ((a2 = (0 : Int32) → w_L_frame a1 (0 : Int32) σ (fun r74 u73 => ((a2 = (0 : Int32) → w_M_frame a1 (0 : Int32) u73 (fun r76 u75 => w_M_thrown u75 (fun r78 u77 => ((r78 = r74 → ((¬ r74 = (0 : Int32) → K u77) ∧ (r74 = (0 : Int32) → (((lg_cmp (Int32.toInt64 (u77 53 (Int32.toNatClampNeg (0 : Int32)))) (Int32.toInt64 r76)) = (0 : Int32) → K u77) ∧ (¬ (lg_cmp (Int32.toInt64 (u77 53 (Int32.toNatClampNeg (0 : Int32)))) (Int32.toInt64 r76)) = (0 : Int32) → False))))) ∧ (¬ r78 = r74 → False))))) ∧ (¬ a2 = (0 : Int32) → w_M_frame a1 (1 : Int32) u73 (fun r80 u79 => w_M_thrown u79 (fun r82 u81 => ((r82 = r74 → ((¬ r74 = (0 : Int32) → K u81) ∧ (r74 = (0 : Int32) → (((lg_cmp (Int32.toInt64 (u81 53 (Int32.toNatClampNeg (0 : Int32)))) (Int32.toInt64 r80)) = (0 : Int32) → K u81) ∧ (¬ (lg_cmp (Int32.toInt64 (u81 53 (Int32.toNatClampNeg (0 : Int32)))) (Int32.toInt64 r80)) = (0 : Int32) → False))))) ∧ (¬ r82 = r74 → False)))))))) ∧ (¬ a2 = (0 : Int32) → w_L_frame a1 (1 : Int32) σ (fun r84 u83 => ((a2 = (0 : Int32) → w_M_frame a1 (0 : Int32) u83 (fun r86 u85 => w_M_thrown u85 (fun r88 u87 => ((r88 = r84 → ((¬ r84 = (0 : Int32) → K u87) ∧ (r84 = (0 : Int32) → (((lg_cmp (Int32.toInt64 (u87 53 (Int32.toNatClampNeg (0 : Int32)))) (Int32.toInt64 r86)) = (0 : Int32) → K u87) ∧ (¬ (lg_cmp (Int32.toInt64 (u87 53 (Int32.toNatClampNeg (0 : Int32)))) (Int32.toInt64 r86)) = (0 : Int32) → False))))) ∧ (¬ r88 = r84 → False))))) ∧ (¬ a2 = (0 : Int32) → w_M_frame a1 (1 : Int32) u83 (fun r90 u89 => w_M_thrown u89 (fun r92 u91 => ((r92 = r84 → ((¬ r84 = (0 : Int32) → K u91) ∧ (r84 = (0 : Int32) → (((lg_cmp (Int32.toInt64 (u91 53 (Int32.toNatClampNeg (0 : Int32)))) (Int32.toInt64 r90)) = (0 : Int32) → K u91) ∧ (¬ (lg_cmp (Int32.toInt64 (u91 53 (Int32.toNatClampNeg (0 : Int32)))) (Int32.toInt64 r90)) = (0 : Int32) → False))))) ∧ (¬ r92 = r84 → False)))))))))) ∧ (((a0 &&& (31 : Int32)) = (13 : Int32) → w_L_ground a1 σ (fun r94 u93 => w_M_ground a1 u93 (fun r96 u95 => w_M_thrown u95 (fun r98 u97 => ((r98 = r94 → ((¬ r94 = (0 : Int32) → K u97) ∧ (r94 = (0 : Int32) → (((lg_cmp (Int32.toInt64 (u97 53 (Int32.toNatClampNeg (0 : Int32)))) (Int32.toInt64 r96)) = (0 : Int32) → K u97) ∧ (¬ (lg_cmp (Int32.toInt64 (u97 53 (Int32.toNatClampNeg (0 : Int32)))) (Int32.toInt64 r96)) = (0 : Int32) → False))))) ∧ (¬ r98 = r94 → False)))))) ∧ (((a0 &&& (31 : Int32)) = (14 : Int32) → w_L_craft a1 σ (fun r100 u99 => w_M_craft a1 u99 (fun r102 u101 => w_M_thrown u101 (fun r104 u103 => ((r104 = r100 → ((¬ r100 = (0 : Int32) → K u103) ∧ (r100 = (0 : Int32) → (((lg_cmp (Int32.toInt64 (u103 53 (Int32.toNatClampNeg (0 : Int32)))) (Int32.toInt64 r102)) = (0 : Int32) → K u103) ∧ (¬ (lg_cmp (Int32.toInt64 (u103 53 (Int32.toNatClampNeg (0 : Int32)))) (Int32.toInt64 r102)) = (0 : Int32) → False))))) ∧ (¬ r104 = r100 → False)))))) ∧ (((a0 &&& (31 : Int32)) = (15 : Int32) → w_L_flight a1 a2 σ (fun r106 u105 => w_M_flight a1 a2 u105 (fun r108 u107 => w_M_thrown u107 (fun r110 u109 => ((r110 = r106 → ((¬ r106 = (0 : Int32) → K u109) ∧ (r106 = (0 : Int32) → (((lg_cmp (Int32.toInt64 (u109 53 (Int32.toNatClampNeg (0 : Int32)))) (Int32.toInt64 r108)) = (0 : Int32) → K u109) ∧ (¬ (lg_cmp (Int32.toInt64 (u109 53 (Int32.toNatClampNeg (0 : Int32)))) (Int32.toInt64 r108)) = (0 : Int32) → False))))) ∧ (¬ r110 = r106 → False)))))) ∧ (((a0 &&& (31 : Int32)) = (16 : Int32) → w_T_packets σ (fun r112 u111 => w_M_packets u111 (fun r114 u113 => ((r112 = r114 → K u113) ∧ (¬ r112 = r114 → False))))) ∧ (((a0 &&& (31 : Int32)) = (17 : Int32) → w_L_got a1 a2 σ (fun r116 u115 => w_M_got a1 a2 u115 (fun r118 u117 => w_M_thrown u117 (fun r120 u119 => ((r120 = r116 → ((¬ r116 = (0 : Int32) → K u119) ∧ (r116 = (0 : Int32) → (((lg_cmp (Int32.toInt64 (u119 53 (Int32.toNatClampNeg (0 : Int32)))) (Int32.toInt64 r118)) = (0 : Int32) → K u119) ∧ (¬ (lg_cmp (Int32.toInt64 (u119 53 (Int32.toNatClampNeg (0 : Int32)))) (Int32.toInt64 r118)) = (0 : Int32) → False))))) ∧ (¬ r120 = r116 → False)))))) ∧ ((Int32.toInt (a0 &&& (31 : Int32)) < 0 ∨ 17 < Int32.toInt (a0 &&& (31 : Int32))) → K σ)))))))))))))))))))
section LW
variable {p : Program} {l : Launch} {e : Env} {R : Room} {s : State} {m : MethodId} {args : Array Value} {below : List Frame} {meth : Method} {c : Code} {cells slots : Nat} {Q : State → Prop}
variable {cc : ByteArray} {pc nL : Nat} {rest : List Value} {loc loc' : List (Nat × Value)} {wl : Jst → va_W} {D : va_G} {cl : List vw_C} {tys : List (ClassId × FieldType)} {N0 : State → Prop} {σ : Jst} {own : String} {Ts : List Cond} {b L : Nat} {xs : Nat → Int32}
theorem jl_ld (X : Cx p s m args c cc nL own Ts D cl tys wl (Aw s.heap.size) N0) (hX : va_X b L xs s s.heap) (hbl : b < s.heap.size) {i v : Int32} (hin : vp_in i L) (hv : v = xs i.toNatClampNeg) (d : decode cc pc = .ok (.iaload, 1)) (k : J p l e R s m args below meth c D cl wl (Aw s.heap.size) nL cells slots Q (pc + 1) loc (.int v :: rest) σ) : J p l e R s m args below meth c D cl wl (Aw s.heap.size) nL cells slots Q pc loc (.int i :: .ref b :: rest) σ := by
  subst hv
  exact fun H locs ls hl hP hS => va_sld X.1 X.2.1 hX hbl (Nat.not_le.mpr hbl) hS hin d (k H locs ls hl hP hS)
theorem jl_len (X : Cx p s m args c cc nL own Ts D cl tys wl (Aw s.heap.size) N0) (hX : va_X b L xs s s.heap) (hbl : b < s.heap.size) (d : decode cc pc = .ok (.arraylength, 1)) (k : J p l e R s m args below meth c D cl wl (Aw s.heap.size) nL cells slots Q (pc + 1) loc (.int (Int32.ofNat L) :: rest) σ) : J p l e R s m args below meth c D cl wl (Aw s.heap.size) nL cells slots Q pc loc (.ref b :: rest) σ :=
  fun H locs ls hl hP hS => va_slen X.1 X.2.1 hX hbl (Nat.not_le.mpr hbl) hS d (k H locs ls hl hP hS)
end LW
set_option maxRecDepth 100000 in
set_option maxHeartbeats 8000000 in
theorem c_case {p : Program} {e : Env} {s : State} {m : MethodId} {below : List Frame} {meth : Method} {c : Code} {Q : State → Prop} (l : Launch) (hlt : l.stackTraces = false) (D : va_G) (ca ad : Nat → Nat) {b L : Nat} {xs : Nat → Int32} {sz : Nat} (hsz : sz = s.heap.size) (hD : Jd ca ad sz) (X : Cx p s m #[Value.ref b] c b_L_law 7 R_L Gw D vwCl (tysT ca) (wlT ad ca) (Aw sz) (NwT sz)) (hX : va_X b L xs s s.heap) (hbl : b < s.heap.size)
    {v4 a0 a1 a2 a3 : Int32} (hv0 : vp_in v4 L) (hv1 : vp_in (v4 + (1 : Int32)) L) (hv2 : vp_in (v4 + (2 : Int32)) L) (hv3 : vp_in (v4 + (3 : Int32)) L) (ha0 : a0 = xs (Int32.toNatClampNeg v4)) (ha1 : a1 = xs (Int32.toNatClampNeg (v4 + (1 : Int32)))) (ha2 : a2 = xs (Int32.toNatClampNeg (v4 + (2 : Int32)))) (ha3 : a3 = xs (Int32.toNatClampNeg (v4 + (3 : Int32))))
    {σ : Jst} {K : Jst → Prop} (hw : w_case a0 a1 a2 a3 σ K) {cells slots : Nat} (hc1 : cells + 1 ≤ 605972) (hs1 : slots + 6 ≤ 7278188)
    (kk : ∀ (u : Jst) (c' s' : Nat), c' ≤ cells + 1 → s' ≤ slots + 6 → K u → J p l e room_1 s m #[Value.ref b] below meth c D vwCl (wlT ad ca) (Aw sz) 7 c' s' Q 981 [(0, .ref b), (1, .ref (ad 0)), (2, .ref (ad 33)), (3, .ref (ad 53)), (4, .int v4)] [] u) :
    J p l e room_1 s m #[Value.ref b] below meth c D vwCl (wlT ad ca) (Aw sz) 7 cells slots Q 32 [(0, .ref b), (1, .ref (ad 0)), (2, .ref (ad 33)), (3, .ref (ad 53)), (4, .int v4)] [] σ := by
  subst hsz
  unfold w_case at hw
  refine j_aload_n X d_L_law_32 rfl 0 rfl ?_
  refine j_iload X d_L_law_33 4 rfl ?_
  refine jl_ld X hX hbl hv0 ha0 d_L_law_35 ?_
  refine j_bipush X (v := (31 : Int32)) d_L_law_36 (by decide) ?_
  refine j_iand X d_L_law_38 ?_
  by_cases h0 : (a0 &&& (31 : Int32)) = (0 : Int32)
  · refine j_tin X d_L_law_39 (0 : Int32) h0 (by decide) (by decide) (off := 85) (by decide) (tgt := 124) (by decide) ?_
    have hw := hw.1 h0
    refine j_aload_n X d_L_law_124 rfl 1 rfl ?_
    refine j_aload_n X d_L_law_125 rfl 0 rfl ?_
    refine j_iload X d_L_law_126 4 rfl ?_
    refine j_iconst X (v := (1 : Int32)) d_L_law_128 (by decide) ?_
    refine j_iadd X d_L_law_129 ?_
    refine jl_ld X hX hbl hv1 ha1 d_L_law_130 ?_
    refine j_aload_n X d_L_law_131 rfl 0 rfl ?_
    refine j_iload X d_L_law_132 4 rfl ?_
    refine j_iconst X (v := (2 : Int32)) d_L_law_134 (by decide) ?_
    refine j_iadd X d_L_law_135 ?_
    refine jl_ld X hX hbl hv2 ha2 d_L_law_136 ?_
    refine j_aload_n X d_L_law_137 rfl 0 rfl ?_
    refine j_iload X d_L_law_138 4 rfl ?_
    refine j_iconst X (v := (3 : Int32)) d_L_law_140 (by decide) ?_
    refine j_iadd X d_L_law_141 ?_
    refine jl_ld X hX hbl hv3 ha3 d_L_law_142 ?_
    refine j_callSWi (As := [.ref (ad 0), .int a1, .int a2, .int a3]) X (c_L_tune l hlt D ca ad _ hD hw) rfl rfl rfl gc_L_tune l_L_75 (n := 4) (by decide +kernel) ⟨by decide, by decide⟩ rfl rfl (Nat.le_of_ble_eq_true rfl) ⟨by show _ ≤ 605972; omega, by show _ ≤ 7278188; omega⟩ d_L_law_143 (fun r2 u1 hw => ?_)
    refine j_istore X d_L_law_146 (by decide) rfl ?_
    refine j_aload_n X d_L_law_148 rfl 3 rfl ?_
    refine j_aload_n X d_L_law_149 rfl 1 rfl ?_
    refine j_iload X d_L_law_150 5 rfl ?_
    refine j_iconst X (v := (1 : Int32)) d_L_law_152 (by decide) ?_
    refine j_iadd X d_L_law_153 ?_
    refine jl_ld X hX hbl hv1 ha1 d_L_law_154 ?_
    refine j_aload_n X d_L_law_155 rfl 1 rfl ?_
    refine j_iload X d_L_law_156 5 rfl ?_
    refine j_iconst X (v := (2 : Int32)) d_L_law_158 (by decide) ?_
    refine j_iadd X d_L_law_159 ?_
    refine jl_ld X hX hbl hv2 ha2 d_L_law_160 ?_
    refine j_aload_n X d_L_law_161 rfl 1 rfl ?_
    refine j_iload X d_L_law_162 5 rfl ?_
    refine j_iconst X (v := (3 : Int32)) d_L_law_164 (by decide) ?_
    refine j_iadd X d_L_law_165 ?_
    refine jl_ld X hX hbl hv3 ha3 d_L_law_166 ?_
    refine j_callVv (As := [.int a1, .int a2, .int a3]) X (c_M_tune l D ca ad _ hD hw) (gcV (n := 3) X rfl rfl rfl gc_M_tune m_M_tune l_L_80 (by decide +kernel) ⟨by decide, by decide⟩) (q0 := 33) rfl rfl (fun _ h => h) rfl rfl (Nat.le_of_ble_eq_true rfl) ⟨by show _ ≤ 605972; omega, by show _ ≤ 7278188; omega⟩ d_L_law_167 (fun u3 hw => ?_)
    refine j_aload_n X d_L_law_170 rfl 3 rfl ?_
    refine j_callVi (As := []) X (c_M_thrown l D ca ad _ hD hw) (gcV (n := 0) X rfl rfl rfl gc_M_thrown m_M_thrown l_L_81 (by decide +kernel) ⟨by decide, by decide⟩) (q0 := 33) rfl rfl (fun _ h => h) rfl rfl (Nat.le_of_ble_eq_true rfl) ⟨by show _ ≤ 605972; omega, by show _ ≤ 7278188; omega⟩ d_L_law_171 (fun r5 u4 hw => ?_)
    refine j_iload X d_L_law_174 0 rfl ?_
    refine j_icmp_eq X d_L_law_176 (tgt := 181) (by decide) (fun h => ?_) (fun h => ?_)
    · have hw := hw.1 h
      refine j_goto X d_L_law_181 (tgt := 981) (by decide) ?_
      refine j_locs [1, 2, 3, 4, 5] rfl ?_
      exact kk _ _ _ (by omega) (by omega) hw
    · have hw := hw.2 h
      refine j_iconst X (v := (0 : Int32)) d_L_law_179 (by decide) ?_
      exact hw.elim
  have hw := hw.2
  by_cases h1 : (a0 &&& (31 : Int32)) = (1 : Int32)
  · refine j_tin X d_L_law_39 (1 : Int32) h1 (by decide) (by decide) (off := 145) (by decide) (tgt := 184) (by decide) ?_
    have hw := hw.1 h1
    refine j_aload_n X d_L_law_184 rfl 1 rfl ?_
    refine j_aload_n X d_L_law_185 rfl 0 rfl ?_
    refine j_iload X d_L_law_186 4 rfl ?_
    refine j_iconst X (v := (1 : Int32)) d_L_law_188 (by decide) ?_
    refine j_iadd X d_L_law_189 ?_
    refine jl_ld X hX hbl hv1 ha1 d_L_law_190 ?_
    refine j_callSWi (As := [.ref (ad 0), .int a1]) X (c_L_number l hlt D ca ad _ hD hw) rfl rfl rfl gc_L_number l_L_84 (n := 2) (by decide +kernel) ⟨by decide, by decide⟩ rfl rfl (Nat.le_of_ble_eq_true rfl) ⟨by show _ ≤ 605972; omega, by show _ ≤ 7278188; omega⟩ d_L_law_191 (fun r7 u6 hw => ?_)
    refine j_istore X d_L_law_194 (by decide) rfl ?_
    refine j_aload_n X d_L_law_196 rfl 3 rfl ?_
    refine j_aload_n X d_L_law_197 rfl 1 rfl ?_
    refine j_iload X d_L_law_198 5 rfl ?_
    refine j_iconst X (v := (1 : Int32)) d_L_law_200 (by decide) ?_
    refine j_iadd X d_L_law_201 ?_
    refine jl_ld X hX hbl hv1 ha1 d_L_law_202 ?_
    refine j_callVv (As := [.int a1]) X (c_M_number l D ca ad _ hD hw) (gcV (n := 1) X rfl rfl rfl gc_M_number m_M_number l_L_87 (by decide +kernel) ⟨by decide, by decide⟩) (q0 := 33) rfl rfl (fun _ h => h) rfl rfl (Nat.le_of_ble_eq_true rfl) ⟨by show _ ≤ 605972; omega, by show _ ≤ 7278188; omega⟩ d_L_law_203 (fun u8 hw => ?_)
    refine j_aload_n X d_L_law_206 rfl 3 rfl ?_
    refine j_callVi (As := []) X (c_M_thrown l D ca ad _ hD hw) (gcV (n := 0) X rfl rfl rfl gc_M_thrown m_M_thrown l_L_81 (by decide +kernel) ⟨by decide, by decide⟩) (q0 := 33) rfl rfl (fun _ h => h) rfl rfl (Nat.le_of_ble_eq_true rfl) ⟨by show _ ≤ 605972; omega, by show _ ≤ 7278188; omega⟩ d_L_law_207 (fun r10 u9 hw => ?_)
    refine j_iload X d_L_law_210 0 rfl ?_
    refine j_icmp_eq X d_L_law_212 (tgt := 217) (by decide) (fun h => ?_) (fun h => ?_)
    · have hw := hw.1 h
      refine j_goto X d_L_law_217 (tgt := 981) (by decide) ?_
      refine j_locs [1, 2, 3, 4, 5] rfl ?_
      exact kk _ _ _ (by omega) (by omega) hw
    · have hw := hw.2 h
      refine j_iconst X (v := (0 : Int32)) d_L_law_215 (by decide) ?_
      exact hw.elim
  have hw := hw.2
  by_cases h2 : (a0 &&& (31 : Int32)) = (2 : Int32)
  · refine j_tin X d_L_law_39 (2 : Int32) h2 (by decide) (by decide) (off := 181) (by decide) (tgt := 220) (by decide) ?_
    have hw := hw.1 h2
    refine j_aload_n X d_L_law_220 rfl 1 rfl ?_
    refine j_aload_n X d_L_law_221 rfl 0 rfl ?_
    refine j_iload X d_L_law_222 4 rfl ?_
    refine j_iconst X (v := (1 : Int32)) d_L_law_224 (by decide) ?_
    refine j_iadd X d_L_law_225 ?_
    refine jl_ld X hX hbl hv1 ha1 d_L_law_226 ?_
    refine j_callSWi (As := [.ref (ad 0), .int a1]) X (c_L_begin l hlt D ca ad _ hD hw) rfl rfl rfl gc_L_begin l_L_88 (n := 2) (by decide +kernel) ⟨by decide, by decide⟩ rfl rfl (Nat.le_of_ble_eq_true rfl) ⟨by show _ ≤ 605972; omega, by show _ ≤ 7278188; omega⟩ d_L_law_227 (fun r12 u11 hw => ?_)
    refine j_istore X d_L_law_230 (by decide) rfl ?_
    refine j_aload_n X d_L_law_232 rfl 3 rfl ?_
    refine j_aload_n X d_L_law_233 rfl 1 rfl ?_
    refine j_iload X d_L_law_234 5 rfl ?_
    refine j_iconst X (v := (1 : Int32)) d_L_law_236 (by decide) ?_
    refine j_iadd X d_L_law_237 ?_
    refine jl_ld X hX hbl hv1 ha1 d_L_law_238 ?_
    refine j_callVv (As := [.int a1]) X (c_M_begin l D ca ad _ hD hw) (gcV (n := 1) X rfl rfl rfl gc_M_begin m_M_begin l_L_90 (by decide +kernel) ⟨by decide, by decide⟩) (q0 := 33) rfl rfl (fun _ h => h) rfl rfl (Nat.le_of_ble_eq_true rfl) ⟨by show _ ≤ 605972; omega, by show _ ≤ 7278188; omega⟩ d_L_law_239 (fun u13 hw => ?_)
    refine j_aload_n X d_L_law_242 rfl 3 rfl ?_
    refine j_callVi (As := []) X (c_M_thrown l D ca ad _ hD hw) (gcV (n := 0) X rfl rfl rfl gc_M_thrown m_M_thrown l_L_81 (by decide +kernel) ⟨by decide, by decide⟩) (q0 := 33) rfl rfl (fun _ h => h) rfl rfl (Nat.le_of_ble_eq_true rfl) ⟨by show _ ≤ 605972; omega, by show _ ≤ 7278188; omega⟩ d_L_law_243 (fun r15 u14 hw => ?_)
    refine j_iload X d_L_law_246 0 rfl ?_
    refine j_icmp_eq X d_L_law_248 (tgt := 253) (by decide) (fun h => ?_) (fun h => ?_)
    · have hw := hw.1 h
      refine j_goto X d_L_law_253 (tgt := 981) (by decide) ?_
      refine j_locs [1, 2, 3, 4, 5] rfl ?_
      exact kk _ _ _ (by omega) (by omega) hw
    · have hw := hw.2 h
      refine j_iconst X (v := (0 : Int32)) d_L_law_251 (by decide) ?_
      exact hw.elim
  have hw := hw.2
  by_cases h3 : (a0 &&& (31 : Int32)) = (3 : Int32)
  · refine j_tin X d_L_law_39 (3 : Int32) h3 (by decide) (by decide) (off := 217) (by decide) (tgt := 256) (by decide) ?_
    have hw := hw.1 h3
    refine j_aload_n X d_L_law_256 rfl 1 rfl ?_
    refine j_callSWi (As := [.ref (ad 0)]) X (c_L_end l hlt D ca ad _ hD hw) rfl rfl rfl gc_L_end l_L_91 (n := 1) (by decide +kernel) ⟨by decide, by decide⟩ rfl rfl (Nat.le_of_ble_eq_true rfl) ⟨by show _ ≤ 605972; omega, by show _ ≤ 7278188; omega⟩ d_L_law_257 (fun r17 u16 hw => ?_)
    refine j_istore X d_L_law_260 (by decide) rfl ?_
    refine j_aload_n X d_L_law_262 rfl 3 rfl ?_
    refine j_callVv (As := []) X (c_M_end l D ca ad _ hD hw) (gcV (n := 0) X rfl rfl rfl gc_M_end m_M_end l_L_94 (by decide +kernel) ⟨by decide, by decide⟩) (q0 := 33) rfl rfl (fun _ h => h) rfl rfl (Nat.le_of_ble_eq_true rfl) ⟨by show _ ≤ 605972; omega, by show _ ≤ 7278188; omega⟩ d_L_law_263 (fun u18 hw => ?_)
    refine j_aload_n X d_L_law_266 rfl 3 rfl ?_
    refine j_callVi (As := []) X (c_M_thrown l D ca ad _ hD hw) (gcV (n := 0) X rfl rfl rfl gc_M_thrown m_M_thrown l_L_81 (by decide +kernel) ⟨by decide, by decide⟩) (q0 := 33) rfl rfl (fun _ h => h) rfl rfl (Nat.le_of_ble_eq_true rfl) ⟨by show _ ≤ 605972; omega, by show _ ≤ 7278188; omega⟩ d_L_law_267 (fun r20 u19 hw => ?_)
    refine j_iload X d_L_law_270 0 rfl ?_
    refine j_icmp_eq X d_L_law_272 (tgt := 277) (by decide) (fun h => ?_) (fun h => ?_)
    · have hw := hw.1 h
      refine j_goto X d_L_law_277 (tgt := 981) (by decide) ?_
      refine j_locs [1, 2, 3, 4, 5] rfl ?_
      exact kk _ _ _ (by omega) (by omega) hw
    · have hw := hw.2 h
      refine j_iconst X (v := (0 : Int32)) d_L_law_275 (by decide) ?_
      exact hw.elim
  have hw := hw.2
  by_cases h4 : (a0 &&& (31 : Int32)) = (4 : Int32)
  · refine j_tin X d_L_law_39 (4 : Int32) h4 (by decide) (by decide) (off := 241) (by decide) (tgt := 280) (by decide) ?_
    have hw := hw.1 h4
    refine j_aload_n X d_L_law_280 rfl 1 rfl ?_
    refine j_aload_n X d_L_law_281 rfl 0 rfl ?_
    refine j_iload X d_L_law_282 4 rfl ?_
    refine j_iconst X (v := (1 : Int32)) d_L_law_284 (by decide) ?_
    refine j_iadd X d_L_law_285 ?_
    refine jl_ld X hX hbl hv1 ha1 d_L_law_286 ?_
    refine j_aload_n X d_L_law_287 rfl 3 rfl ?_
    refine j_callSWi (As := [.ref (ad 0), .int a1, .ref (ad 53)]) X (c_L_command l hlt D ca ad _ hD hw) rfl rfl rfl gc_L_command l_L_95 (n := 3) (by decide +kernel) ⟨by decide, by decide⟩ rfl rfl (Nat.le_of_ble_eq_true rfl) ⟨by show _ ≤ 605972; omega, by show _ ≤ 7278188; omega⟩ d_L_law_288 (fun r22 u21 hw => ?_)
    refine j_istore X d_L_law_291 (by decide) rfl ?_
    refine j_aload_n X d_L_law_293 rfl 3 rfl ?_
    refine j_aload_n X d_L_law_294 rfl 1 rfl ?_
    refine j_iload X d_L_law_295 5 rfl ?_
    refine j_iconst X (v := (1 : Int32)) d_L_law_297 (by decide) ?_
    refine j_iadd X d_L_law_298 ?_
    refine jl_ld X hX hbl hv1 ha1 d_L_law_299 ?_
    refine j_callVi (As := [.int a1]) X (c_M_command l D ca ad _ hD hw) (gcV (n := 1) X rfl rfl rfl gc_M_command m_M_command l_L_98 (by decide +kernel) ⟨by decide, by decide⟩) (q0 := 33) rfl rfl (fun _ h => h) rfl rfl (Nat.le_of_ble_eq_true rfl) ⟨by show _ ≤ 605972; omega, by show _ ≤ 7278188; omega⟩ d_L_law_300 (fun r24 u23 hw => ?_)
    refine j_istore X d_L_law_303 (by decide) rfl ?_
    refine j_aload_n X d_L_law_305 rfl 4 rfl ?_
    refine j_callVi (As := []) X (c_M_thrown l D ca ad _ hD hw) (gcV (n := 0) X rfl rfl rfl gc_M_thrown m_M_thrown l_L_81 (by decide +kernel) ⟨by decide, by decide⟩) (q0 := 33) rfl rfl (fun _ h => h) rfl rfl (Nat.le_of_ble_eq_true rfl) ⟨by show _ ≤ 605972; omega, by show _ ≤ 7278188; omega⟩ d_L_law_306 (fun r26 u25 hw => ?_)
    refine j_iload X d_L_law_309 1 rfl ?_
    refine j_icmp_eq X d_L_law_311 (tgt := 316) (by decide) (fun h => ?_) (fun h => ?_)
    · have hw := hw.1 h
      refine j_iload X d_L_law_316 1 rfl ?_
      refine j_if_ne X d_L_law_318 (tgt := 340) (by decide) (fun h => ?_) (fun h => ?_)
      · have hw := hw.1 h
        refine j_goto X d_L_law_340 (tgt := 981) (by decide) ?_
        refine j_locs [2, 3, 4, 5, 6] rfl ?_
        exact kk _ _ _ (by omega) (by omega) hw
      · have hw := hw.2 h
        refine j_aload_n X d_L_law_321 rfl 5 rfl ?_
        refine j_iconst X (v := (0 : Int32)) d_L_law_322 (by decide) ?_
        refine ll_53 X (v := (Int32.toInt64 (u25 53 (Int32.toNatClampNeg (0 : Int32))))) (vin_lit (0 : Int32) 1 (by decide)) rfl d_L_law_323 ?_
        refine j_iload X d_L_law_324 0 rfl ?_
        refine j_if_eq X d_L_law_326 (tgt := 333) (by decide) (fun h => ?_) (fun h => ?_)
        · have hw := hw.1 h
          refine j_lconst X (v := (0 : Int64)) d_L_law_333 (by decide) ?_
          refine j_lcmp X d_L_law_334 ?_
          refine j_if_eq X d_L_law_335 (tgt := 340) (by decide) (fun h => ?_) (fun h => ?_)
          · have hw := hw.1 h
            refine j_goto X d_L_law_340 (tgt := 981) (by decide) ?_
            refine j_locs [2, 3, 4, 5, 6] rfl ?_
            exact kk _ _ _ (by omega) (by omega) hw
          · have hw := hw.2 h
            refine j_iconst X (v := (0 : Int32)) d_L_law_338 (by decide) ?_
            exact hw.elim
        · have hw := hw.2 h
          refine j_lconst X (v := (1 : Int64)) d_L_law_329 (by decide) ?_
          refine j_goto X d_L_law_330 (tgt := 334) (by decide) ?_
          refine j_lcmp X d_L_law_334 ?_
          refine j_if_eq X d_L_law_335 (tgt := 340) (by decide) (fun h => ?_) (fun h => ?_)
          · have hw := hw.1 h
            refine j_goto X d_L_law_340 (tgt := 981) (by decide) ?_
            refine j_locs [2, 3, 4, 5, 6] rfl ?_
            exact kk _ _ _ (by omega) (by omega) hw
          · have hw := hw.2 h
            refine j_iconst X (v := (0 : Int32)) d_L_law_338 (by decide) ?_
            exact hw.elim
    · have hw := hw.2 h
      refine j_iconst X (v := (0 : Int32)) d_L_law_314 (by decide) ?_
      exact hw.elim
  have hw := hw.2
  by_cases h5 : (a0 &&& (31 : Int32)) = (5 : Int32)
  · refine j_tin X d_L_law_39 (5 : Int32) h5 (by decide) (by decide) (off := 304) (by decide) (tgt := 343) (by decide) ?_
    have hw := hw.1 h5
    refine j_aload_n X d_L_law_343 rfl 1 rfl ?_
    refine j_callVi (As := []) X (c_T_tick l D ca ad _ hD hw) (gcV (n := 0) X rfl rfl rfl gc_T_tick m_T_tick l_L_99 (by decide +kernel) ⟨by decide, by decide⟩) (q0 := 0) rfl rfl (fun _ h => h) rfl rfl (Nat.le_of_ble_eq_true rfl) ⟨by show _ ≤ 605972; omega, by show _ ≤ 7278188; omega⟩ d_L_law_344 (fun r28 u27 hw => ?_)
    refine j_aload_n X d_L_law_347 rfl 2 rfl ?_
    refine j_callVi (As := []) X (c_M_tick l D ca ad _ hD hw) (gcV (n := 0) X rfl rfl rfl gc_M_tick m_M_tick l_L_102 (by decide +kernel) ⟨by decide, by decide⟩) (q0 := 33) rfl rfl (fun _ h => h) rfl rfl (Nat.le_of_ble_eq_true rfl) ⟨by show _ ≤ 605972; omega, by show _ ≤ 7278188; omega⟩ d_L_law_348 (fun r30 u29 hw => ?_)
    refine j_icmp_eq X d_L_law_351 (tgt := 981) (by decide) (fun h => ?_) (fun h => ?_)
    · have hw := hw.1 h
      refine j_locs [0, 1, 2, 3, 4] rfl ?_
      exact kk _ _ _ (by omega) (by omega) hw
    · have hw := hw.2 h
      refine j_iconst X (v := (0 : Int32)) d_L_law_354 (by decide) ?_
      exact hw.elim
  have hw := hw.2
  by_cases h6 : (a0 &&& (31 : Int32)) = (6 : Int32)
  · refine j_tin X d_L_law_39 (6 : Int32) h6 (by decide) (by decide) (off := 317) (by decide) (tgt := 356) (by decide) ?_
    have hw := hw.1 h6
    refine j_aload_n X d_L_law_356 rfl 1 rfl ?_
    refine j_aload_n X d_L_law_357 rfl 0 rfl ?_
    refine j_iload X d_L_law_358 4 rfl ?_
    refine j_iconst X (v := (1 : Int32)) d_L_law_360 (by decide) ?_
    refine j_iadd X d_L_law_361 ?_
    refine jl_ld X hX hbl hv1 ha1 d_L_law_362 ?_
    refine j_callSWi (As := [.ref (ad 0), .int a1]) X (c_L_raise l hlt D ca ad _ hD hw) rfl rfl rfl gc_L_raise l_L_103 (n := 2) (by decide +kernel) ⟨by decide, by decide⟩ rfl rfl (Nat.le_of_ble_eq_true rfl) ⟨by show _ ≤ 605972; omega, by show _ ≤ 7278188; omega⟩ d_L_law_363 (fun r32 u31 hw => ?_)
    refine j_istore X d_L_law_366 (by decide) rfl ?_
    refine j_aload_n X d_L_law_368 rfl 3 rfl ?_
    refine j_aload_n X d_L_law_369 rfl 1 rfl ?_
    refine j_iload X d_L_law_370 5 rfl ?_
    refine j_iconst X (v := (1 : Int32)) d_L_law_372 (by decide) ?_
    refine j_iadd X d_L_law_373 ?_
    refine jl_ld X hX hbl hv1 ha1 d_L_law_374 ?_
    refine j_callVv (As := [.int a1]) X (c_M_raise l D ca ad _ hD hw) (gcV (n := 1) X rfl rfl rfl gc_M_raise m_M_raise l_L_105 (by decide +kernel) ⟨by decide, by decide⟩) (q0 := 33) rfl rfl (fun _ h => h) rfl rfl (Nat.le_of_ble_eq_true rfl) ⟨by show _ ≤ 605972; omega, by show _ ≤ 7278188; omega⟩ d_L_law_375 (fun u33 hw => ?_)
    refine j_aload_n X d_L_law_378 rfl 3 rfl ?_
    refine j_callVi (As := []) X (c_M_thrown l D ca ad _ hD hw) (gcV (n := 0) X rfl rfl rfl gc_M_thrown m_M_thrown l_L_81 (by decide +kernel) ⟨by decide, by decide⟩) (q0 := 33) rfl rfl (fun _ h => h) rfl rfl (Nat.le_of_ble_eq_true rfl) ⟨by show _ ≤ 605972; omega, by show _ ≤ 7278188; omega⟩ d_L_law_379 (fun r35 u34 hw => ?_)
    refine j_iload X d_L_law_382 0 rfl ?_
    refine j_icmp_eq X d_L_law_384 (tgt := 389) (by decide) (fun h => ?_) (fun h => ?_)
    · have hw := hw.1 h
      refine j_goto X d_L_law_389 (tgt := 981) (by decide) ?_
      refine j_locs [1, 2, 3, 4, 5] rfl ?_
      exact kk _ _ _ (by omega) (by omega) hw
    · have hw := hw.2 h
      refine j_iconst X (v := (0 : Int32)) d_L_law_387 (by decide) ?_
      exact hw.elim
  have hw := hw.2
  by_cases h7 : (a0 &&& (31 : Int32)) = (7 : Int32)
  · refine j_tin X d_L_law_39 (7 : Int32) h7 (by decide) (by decide) (off := 353) (by decide) (tgt := 392) (by decide) ?_
    have hw := hw.1 h7
    refine j_aload_n X d_L_law_392 rfl 1 rfl ?_
    refine j_aload_n X d_L_law_393 rfl 0 rfl ?_
    refine j_iload X d_L_law_394 4 rfl ?_
    refine j_iconst X (v := (1 : Int32)) d_L_law_396 (by decide) ?_
    refine j_iadd X d_L_law_397 ?_
    refine jl_ld X hX hbl hv1 ha1 d_L_law_398 ?_
    refine j_callSWi (As := [.ref (ad 0), .int a1]) X (c_L_drop l hlt D ca ad _ hD hw) rfl rfl rfl gc_L_drop l_L_106 (n := 2) (by decide +kernel) ⟨by decide, by decide⟩ rfl rfl (Nat.le_of_ble_eq_true rfl) ⟨by show _ ≤ 605972; omega, by show _ ≤ 7278188; omega⟩ d_L_law_399 (fun r37 u36 hw => ?_)
    refine j_istore X d_L_law_402 (by decide) rfl ?_
    refine j_aload_n X d_L_law_404 rfl 3 rfl ?_
    refine j_aload_n X d_L_law_405 rfl 1 rfl ?_
    refine j_iload X d_L_law_406 5 rfl ?_
    refine j_iconst X (v := (1 : Int32)) d_L_law_408 (by decide) ?_
    refine j_iadd X d_L_law_409 ?_
    refine jl_ld X hX hbl hv1 ha1 d_L_law_410 ?_
    refine j_callVv (As := [.int a1]) X (c_M_drop l D ca ad _ hD hw) (gcV (n := 1) X rfl rfl rfl gc_M_drop m_M_drop l_L_108 (by decide +kernel) ⟨by decide, by decide⟩) (q0 := 33) rfl rfl (fun _ h => h) rfl rfl (Nat.le_of_ble_eq_true rfl) ⟨by show _ ≤ 605972; omega, by show _ ≤ 7278188; omega⟩ d_L_law_411 (fun u38 hw => ?_)
    refine j_aload_n X d_L_law_414 rfl 3 rfl ?_
    refine j_callVi (As := []) X (c_M_thrown l D ca ad _ hD hw) (gcV (n := 0) X rfl rfl rfl gc_M_thrown m_M_thrown l_L_81 (by decide +kernel) ⟨by decide, by decide⟩) (q0 := 33) rfl rfl (fun _ h => h) rfl rfl (Nat.le_of_ble_eq_true rfl) ⟨by show _ ≤ 605972; omega, by show _ ≤ 7278188; omega⟩ d_L_law_415 (fun r40 u39 hw => ?_)
    refine j_iload X d_L_law_418 0 rfl ?_
    refine j_icmp_eq X d_L_law_420 (tgt := 425) (by decide) (fun h => ?_) (fun h => ?_)
    · have hw := hw.1 h
      refine j_goto X d_L_law_425 (tgt := 981) (by decide) ?_
      refine j_locs [1, 2, 3, 4, 5] rfl ?_
      exact kk _ _ _ (by omega) (by omega) hw
    · have hw := hw.2 h
      refine j_iconst X (v := (0 : Int32)) d_L_law_423 (by decide) ?_
      exact hw.elim
  have hw := hw.2
  by_cases h8 : (a0 &&& (31 : Int32)) = (8 : Int32)
  · refine j_tin X d_L_law_39 (8 : Int32) h8 (by decide) (by decide) (off := 389) (by decide) (tgt := 428) (by decide) ?_
    have hw := hw.1 h8
    refine j_aload_n X d_L_law_428 rfl 1 rfl ?_
    refine j_aload_n X d_L_law_429 rfl 3 rfl ?_
    refine j_callSWi (As := [.ref (ad 0), .ref (ad 53)]) X (c_L_take l hlt D ca ad _ hD hw) rfl rfl rfl gc_L_take l_L_109 (n := 2) (by decide +kernel) ⟨by decide, by decide⟩ rfl rfl (Nat.le_of_ble_eq_true rfl) ⟨by show _ ≤ 605972; omega, by show _ ≤ 7278188; omega⟩ d_L_law_430 (fun r42 u41 hw => ?_)
    refine j_istore X d_L_law_433 (by decide) rfl ?_
    refine j_aload_n X d_L_law_435 rfl 3 rfl ?_
    refine j_callVi (As := []) X (c_M_take l D ca ad _ hD hw) (gcV (n := 0) X rfl rfl rfl gc_M_take m_M_take l_L_112 (by decide +kernel) ⟨by decide, by decide⟩) (q0 := 33) rfl rfl (fun _ h => h) rfl rfl (Nat.le_of_ble_eq_true rfl) ⟨by show _ ≤ 605972; omega, by show _ ≤ 7278188; omega⟩ d_L_law_436 (fun r44 u43 hw => ?_)
    refine j_istore X d_L_law_439 (by decide) rfl ?_
    refine j_aload_n X d_L_law_441 rfl 4 rfl ?_
    refine j_callVi (As := []) X (c_M_thrown l D ca ad _ hD hw) (gcV (n := 0) X rfl rfl rfl gc_M_thrown m_M_thrown l_L_81 (by decide +kernel) ⟨by decide, by decide⟩) (q0 := 33) rfl rfl (fun _ h => h) rfl rfl (Nat.le_of_ble_eq_true rfl) ⟨by show _ ≤ 605972; omega, by show _ ≤ 7278188; omega⟩ d_L_law_442 (fun r46 u45 hw => ?_)
    refine j_iload X d_L_law_445 1 rfl ?_
    refine j_icmp_eq X d_L_law_447 (tgt := 452) (by decide) (fun h => ?_) (fun h => ?_)
    · have hw := hw.1 h
      refine j_iload X d_L_law_452 1 rfl ?_
      refine j_if_ne X d_L_law_454 (tgt := 469) (by decide) (fun h => ?_) (fun h => ?_)
      · have hw := hw.1 h
        refine j_goto X d_L_law_469 (tgt := 981) (by decide) ?_
        refine j_locs [2, 3, 4, 5, 6] rfl ?_
        exact kk _ _ _ (by omega) (by omega) hw
      · have hw := hw.2 h
        refine j_aload_n X d_L_law_457 rfl 5 rfl ?_
        refine j_iconst X (v := (0 : Int32)) d_L_law_458 (by decide) ?_
        refine ll_53 X (v := (Int32.toInt64 (u45 53 (Int32.toNatClampNeg (0 : Int32))))) (vin_lit (0 : Int32) 1 (by decide)) rfl d_L_law_459 ?_
        refine j_iload X d_L_law_460 0 rfl ?_
        refine j_i2l X d_L_law_462 ?_
        refine j_lcmp X d_L_law_463 ?_
        refine j_if_eq X d_L_law_464 (tgt := 469) (by decide) (fun h => ?_) (fun h => ?_)
        · have hw := hw.1 h
          refine j_goto X d_L_law_469 (tgt := 981) (by decide) ?_
          refine j_locs [2, 3, 4, 5, 6] rfl ?_
          exact kk _ _ _ (by omega) (by omega) hw
        · have hw := hw.2 h
          refine j_iconst X (v := (0 : Int32)) d_L_law_467 (by decide) ?_
          exact hw.elim
    · have hw := hw.2 h
      refine j_iconst X (v := (0 : Int32)) d_L_law_450 (by decide) ?_
      exact hw.elim
  have hw := hw.2
  by_cases h9 : (a0 &&& (31 : Int32)) = (9 : Int32)
  · refine j_tin X d_L_law_39 (9 : Int32) h9 (by decide) (by decide) (off := 433) (by decide) (tgt := 472) (by decide) ?_
    have hw := hw.1 h9
    refine j_aload_n X d_L_law_472 rfl 1 rfl ?_
    refine j_callVi (As := []) X (c_T_report l D ca ad _ hD hw) (gcV (n := 0) X rfl rfl rfl gc_T_report m_T_report l_L_113 (by decide +kernel) ⟨by decide, by decide⟩) (q0 := 0) rfl rfl (fun _ h => h) rfl rfl (Nat.le_of_ble_eq_true rfl) ⟨by show _ ≤ 605972; omega, by show _ ≤ 7278188; omega⟩ d_L_law_473 (fun r48 u47 hw => ?_)
    refine j_aload_n X d_L_law_476 rfl 2 rfl ?_
    refine j_callVi (As := []) X (c_M_report l D ca ad _ hD hw) (gcV (n := 0) X rfl rfl rfl gc_M_report m_M_report l_L_117 (by decide +kernel) ⟨by decide, by decide⟩) (q0 := 33) rfl rfl (fun _ h => h) rfl rfl (Nat.le_of_ble_eq_true rfl) ⟨by show _ ≤ 605972; omega, by show _ ≤ 7278188; omega⟩ d_L_law_477 (fun r50 u49 hw => ?_)
    refine j_icmp_eq X d_L_law_480 (tgt := 981) (by decide) (fun h => ?_) (fun h => ?_)
    · have hw := hw.1 h
      refine j_locs [0, 1, 2, 3, 4] rfl ?_
      exact kk _ _ _ (by omega) (by omega) hw
    · have hw := hw.2 h
      refine j_iconst X (v := (0 : Int32)) d_L_law_483 (by decide) ?_
      exact hw.elim
  have hw := hw.2
  by_cases h10 : (a0 &&& (31 : Int32)) = (10 : Int32)
  · refine j_tin X d_L_law_39 (10 : Int32) h10 (by decide) (by decide) (off := 446) (by decide) (tgt := 485) (by decide) ?_
    have hw := hw.1 h10
    refine j_aload_n X d_L_law_485 rfl 1 rfl ?_
    refine j_aload_n X d_L_law_486 rfl 0 rfl ?_
    refine j_iload X d_L_law_487 4 rfl ?_
    refine j_iconst X (v := (1 : Int32)) d_L_law_489 (by decide) ?_
    refine j_iadd X d_L_law_490 ?_
    refine jl_ld X hX hbl hv1 ha1 d_L_law_491 ?_
    refine j_aload_n X d_L_law_492 rfl 0 rfl ?_
    refine j_iload X d_L_law_493 4 rfl ?_
    refine j_iconst X (v := (2 : Int32)) d_L_law_495 (by decide) ?_
    refine j_iadd X d_L_law_496 ?_
    refine jl_ld X hX hbl hv2 ha2 d_L_law_497 ?_
    refine j_if_eq X d_L_law_498 (tgt := 505) (by decide) (fun h => ?_) (fun h => ?_)
    · have hw := hw.1 h
      refine j_iconst X (v := (0 : Int32)) d_L_law_505 (by decide) ?_
      refine j_callSWi (As := [.ref (ad 0), .int a1, .int (0 : Int32)]) X (c_L_answer l hlt D ca ad _ hD hw) rfl rfl rfl gc_L_answer l_L_118 (n := 3) (by decide +kernel) ⟨by decide, by decide⟩ rfl rfl (Nat.le_of_ble_eq_true rfl) ⟨by show _ ≤ 605972; omega, by show _ ≤ 7278188; omega⟩ d_L_law_506 (fun r52 u51 hw => ?_)
      refine j_istore X d_L_law_509 (by decide) rfl ?_
      refine j_aload_n X d_L_law_511 rfl 3 rfl ?_
      refine j_aload_n X d_L_law_512 rfl 1 rfl ?_
      refine j_iload X d_L_law_513 5 rfl ?_
      refine j_iconst X (v := (1 : Int32)) d_L_law_515 (by decide) ?_
      refine j_iadd X d_L_law_516 ?_
      refine jl_ld X hX hbl hv1 ha1 d_L_law_517 ?_
      refine j_aload_n X d_L_law_518 rfl 1 rfl ?_
      refine j_iload X d_L_law_519 5 rfl ?_
      refine j_iconst X (v := (2 : Int32)) d_L_law_521 (by decide) ?_
      refine j_iadd X d_L_law_522 ?_
      refine jl_ld X hX hbl hv2 ha2 d_L_law_523 ?_
      refine j_if_eq X d_L_law_524 (tgt := 531) (by decide) (fun h => ?_) (fun h => ?_)
      · have hw := hw.1 h
        refine j_iconst X (v := (0 : Int32)) d_L_law_531 (by decide) ?_
        refine j_callVv (As := [.int a1, .int (0 : Int32)]) X (c_M_answer l D ca ad _ hD hw) (gcV (n := 2) X rfl rfl rfl gc_M_answer m_M_answer l_L_121 (by decide +kernel) ⟨by decide, by decide⟩) (q0 := 33) rfl rfl (fun _ h => h) rfl rfl (Nat.le_of_ble_eq_true rfl) ⟨by show _ ≤ 605972; omega, by show _ ≤ 7278188; omega⟩ d_L_law_532 (fun u53 hw => ?_)
        refine j_aload_n X d_L_law_535 rfl 3 rfl ?_
        refine j_callVi (As := []) X (c_M_thrown l D ca ad _ hD hw) (gcV (n := 0) X rfl rfl rfl gc_M_thrown m_M_thrown l_L_81 (by decide +kernel) ⟨by decide, by decide⟩) (q0 := 33) rfl rfl (fun _ h => h) rfl rfl (Nat.le_of_ble_eq_true rfl) ⟨by show _ ≤ 605972; omega, by show _ ≤ 7278188; omega⟩ d_L_law_536 (fun r55 u54 hw => ?_)
        refine j_iload X d_L_law_539 0 rfl ?_
        refine j_icmp_eq X d_L_law_541 (tgt := 546) (by decide) (fun h => ?_) (fun h => ?_)
        · have hw := hw.1 h
          refine j_goto X d_L_law_546 (tgt := 981) (by decide) ?_
          refine j_locs [1, 2, 3, 4, 5] rfl ?_
          exact kk _ _ _ (by omega) (by omega) hw
        · have hw := hw.2 h
          refine j_iconst X (v := (0 : Int32)) d_L_law_544 (by decide) ?_
          exact hw.elim
      · have hw := hw.2 h
        refine j_iconst X (v := (1 : Int32)) d_L_law_527 (by decide) ?_
        refine j_goto X d_L_law_528 (tgt := 532) (by decide) ?_
        refine j_callVv (As := [.int a1, .int (1 : Int32)]) X (c_M_answer l D ca ad _ hD hw) (gcV (n := 2) X rfl rfl rfl gc_M_answer m_M_answer l_L_121 (by decide +kernel) ⟨by decide, by decide⟩) (q0 := 33) rfl rfl (fun _ h => h) rfl rfl (Nat.le_of_ble_eq_true rfl) ⟨by show _ ≤ 605972; omega, by show _ ≤ 7278188; omega⟩ d_L_law_532 (fun u56 hw => ?_)
        refine j_aload_n X d_L_law_535 rfl 3 rfl ?_
        refine j_callVi (As := []) X (c_M_thrown l D ca ad _ hD hw) (gcV (n := 0) X rfl rfl rfl gc_M_thrown m_M_thrown l_L_81 (by decide +kernel) ⟨by decide, by decide⟩) (q0 := 33) rfl rfl (fun _ h => h) rfl rfl (Nat.le_of_ble_eq_true rfl) ⟨by show _ ≤ 605972; omega, by show _ ≤ 7278188; omega⟩ d_L_law_536 (fun r58 u57 hw => ?_)
        refine j_iload X d_L_law_539 0 rfl ?_
        refine j_icmp_eq X d_L_law_541 (tgt := 546) (by decide) (fun h => ?_) (fun h => ?_)
        · have hw := hw.1 h
          refine j_goto X d_L_law_546 (tgt := 981) (by decide) ?_
          refine j_locs [1, 2, 3, 4, 5] rfl ?_
          exact kk _ _ _ (by omega) (by omega) hw
        · have hw := hw.2 h
          refine j_iconst X (v := (0 : Int32)) d_L_law_544 (by decide) ?_
          exact hw.elim
    · have hw := hw.2 h
      refine j_iconst X (v := (1 : Int32)) d_L_law_501 (by decide) ?_
      refine j_goto X d_L_law_502 (tgt := 506) (by decide) ?_
      refine j_callSWi (As := [.ref (ad 0), .int a1, .int (1 : Int32)]) X (c_L_answer l hlt D ca ad _ hD hw) rfl rfl rfl gc_L_answer l_L_118 (n := 3) (by decide +kernel) ⟨by decide, by decide⟩ rfl rfl (Nat.le_of_ble_eq_true rfl) ⟨by show _ ≤ 605972; omega, by show _ ≤ 7278188; omega⟩ d_L_law_506 (fun r60 u59 hw => ?_)
      refine j_istore X d_L_law_509 (by decide) rfl ?_
      refine j_aload_n X d_L_law_511 rfl 3 rfl ?_
      refine j_aload_n X d_L_law_512 rfl 1 rfl ?_
      refine j_iload X d_L_law_513 5 rfl ?_
      refine j_iconst X (v := (1 : Int32)) d_L_law_515 (by decide) ?_
      refine j_iadd X d_L_law_516 ?_
      refine jl_ld X hX hbl hv1 ha1 d_L_law_517 ?_
      refine j_aload_n X d_L_law_518 rfl 1 rfl ?_
      refine j_iload X d_L_law_519 5 rfl ?_
      refine j_iconst X (v := (2 : Int32)) d_L_law_521 (by decide) ?_
      refine j_iadd X d_L_law_522 ?_
      refine jl_ld X hX hbl hv2 ha2 d_L_law_523 ?_
      refine j_if_eq X d_L_law_524 (tgt := 531) (by decide) (fun h => ?_) (fun h => ?_)
      · have hw := hw.1 h
        refine j_iconst X (v := (0 : Int32)) d_L_law_531 (by decide) ?_
        refine j_callVv (As := [.int a1, .int (0 : Int32)]) X (c_M_answer l D ca ad _ hD hw) (gcV (n := 2) X rfl rfl rfl gc_M_answer m_M_answer l_L_121 (by decide +kernel) ⟨by decide, by decide⟩) (q0 := 33) rfl rfl (fun _ h => h) rfl rfl (Nat.le_of_ble_eq_true rfl) ⟨by show _ ≤ 605972; omega, by show _ ≤ 7278188; omega⟩ d_L_law_532 (fun u61 hw => ?_)
        refine j_aload_n X d_L_law_535 rfl 3 rfl ?_
        refine j_callVi (As := []) X (c_M_thrown l D ca ad _ hD hw) (gcV (n := 0) X rfl rfl rfl gc_M_thrown m_M_thrown l_L_81 (by decide +kernel) ⟨by decide, by decide⟩) (q0 := 33) rfl rfl (fun _ h => h) rfl rfl (Nat.le_of_ble_eq_true rfl) ⟨by show _ ≤ 605972; omega, by show _ ≤ 7278188; omega⟩ d_L_law_536 (fun r63 u62 hw => ?_)
        refine j_iload X d_L_law_539 0 rfl ?_
        refine j_icmp_eq X d_L_law_541 (tgt := 546) (by decide) (fun h => ?_) (fun h => ?_)
        · have hw := hw.1 h
          refine j_goto X d_L_law_546 (tgt := 981) (by decide) ?_
          refine j_locs [1, 2, 3, 4, 5] rfl ?_
          exact kk _ _ _ (by omega) (by omega) hw
        · have hw := hw.2 h
          refine j_iconst X (v := (0 : Int32)) d_L_law_544 (by decide) ?_
          exact hw.elim
      · have hw := hw.2 h
        refine j_iconst X (v := (1 : Int32)) d_L_law_527 (by decide) ?_
        refine j_goto X d_L_law_528 (tgt := 532) (by decide) ?_
        refine j_callVv (As := [.int a1, .int (1 : Int32)]) X (c_M_answer l D ca ad _ hD hw) (gcV (n := 2) X rfl rfl rfl gc_M_answer m_M_answer l_L_121 (by decide +kernel) ⟨by decide, by decide⟩) (q0 := 33) rfl rfl (fun _ h => h) rfl rfl (Nat.le_of_ble_eq_true rfl) ⟨by show _ ≤ 605972; omega, by show _ ≤ 7278188; omega⟩ d_L_law_532 (fun u64 hw => ?_)
        refine j_aload_n X d_L_law_535 rfl 3 rfl ?_
        refine j_callVi (As := []) X (c_M_thrown l D ca ad _ hD hw) (gcV (n := 0) X rfl rfl rfl gc_M_thrown m_M_thrown l_L_81 (by decide +kernel) ⟨by decide, by decide⟩) (q0 := 33) rfl rfl (fun _ h => h) rfl rfl (Nat.le_of_ble_eq_true rfl) ⟨by show _ ≤ 605972; omega, by show _ ≤ 7278188; omega⟩ d_L_law_536 (fun r66 u65 hw => ?_)
        refine j_iload X d_L_law_539 0 rfl ?_
        refine j_icmp_eq X d_L_law_541 (tgt := 546) (by decide) (fun h => ?_) (fun h => ?_)
        · have hw := hw.1 h
          refine j_goto X d_L_law_546 (tgt := 981) (by decide) ?_
          refine j_locs [1, 2, 3, 4, 5] rfl ?_
          exact kk _ _ _ (by omega) (by omega) hw
        · have hw := hw.2 h
          refine j_iconst X (v := (0 : Int32)) d_L_law_544 (by decide) ?_
          exact hw.elim
  have hw := hw.2
  by_cases h11 : (a0 &&& (31 : Int32)) = (11 : Int32)
  · refine j_tin X d_L_law_39 (11 : Int32) h11 (by decide) (by decide) (off := 510) (by decide) (tgt := 549) (by decide) ?_
    have hw := hw.1 h11
    refine j_aload_n X d_L_law_549 rfl 1 rfl ?_
    refine j_aload_n X d_L_law_550 rfl 0 rfl ?_
    refine j_iload X d_L_law_551 4 rfl ?_
    refine j_iconst X (v := (1 : Int32)) d_L_law_553 (by decide) ?_
    refine j_iadd X d_L_law_554 ?_
    refine jl_ld X hX hbl hv1 ha1 d_L_law_555 ?_
    refine j_aload_n X d_L_law_556 rfl 0 rfl ?_
    refine j_iload X d_L_law_557 4 rfl ?_
    refine j_iconst X (v := (2 : Int32)) d_L_law_559 (by decide) ?_
    refine j_iadd X d_L_law_560 ?_
    refine jl_ld X hX hbl hv2 ha2 d_L_law_561 ?_
    refine j_aload_n X d_L_law_562 rfl 0 rfl ?_
    refine j_iload X d_L_law_563 4 rfl ?_
    refine j_iconst X (v := (3 : Int32)) d_L_law_565 (by decide) ?_
    refine j_iadd X d_L_law_566 ?_
    refine jl_ld X hX hbl hv3 ha3 d_L_law_567 ?_
    refine j_aload_n X d_L_law_568 rfl 3 rfl ?_
    refine j_callSWi (As := [.ref (ad 0), .int a1, .int a2, .int a3, .ref (ad 53)]) X (c_L_packet l hlt D ca ad _ hD hw) rfl rfl rfl gc_L_packet l_L_122 (n := 5) (by decide +kernel) ⟨by decide, by decide⟩ rfl rfl (Nat.le_of_ble_eq_true rfl) ⟨by show _ ≤ 605972; omega, by show _ ≤ 7278188; omega⟩ d_L_law_569 (fun r68 u67 hw => ?_)
    refine j_istore X d_L_law_572 (by decide) rfl ?_
    refine j_aload_n X d_L_law_574 rfl 3 rfl ?_
    refine j_aload_n X d_L_law_575 rfl 1 rfl ?_
    refine j_iload X d_L_law_576 5 rfl ?_
    refine j_iconst X (v := (1 : Int32)) d_L_law_578 (by decide) ?_
    refine j_iadd X d_L_law_579 ?_
    refine jl_ld X hX hbl hv1 ha1 d_L_law_580 ?_
    refine j_aload_n X d_L_law_581 rfl 1 rfl ?_
    refine j_iload X d_L_law_582 5 rfl ?_
    refine j_iconst X (v := (2 : Int32)) d_L_law_584 (by decide) ?_
    refine j_iadd X d_L_law_585 ?_
    refine jl_ld X hX hbl hv2 ha2 d_L_law_586 ?_
    refine j_aload_n X d_L_law_587 rfl 1 rfl ?_
    refine j_iload X d_L_law_588 5 rfl ?_
    refine j_iconst X (v := (3 : Int32)) d_L_law_590 (by decide) ?_
    refine j_iadd X d_L_law_591 ?_
    refine jl_ld X hX hbl hv3 ha3 d_L_law_592 ?_
    refine j_callVi (As := [.int a1, .int a2, .int a3]) X (c_M_packet l D ca ad _ hD hw) (gcV (n := 3) X rfl rfl rfl gc_M_packet m_M_packet l_L_125 (by decide +kernel) ⟨by decide, by decide⟩) (q0 := 33) rfl rfl (fun _ h => h) rfl rfl (Nat.le_of_ble_eq_true rfl) ⟨by show _ ≤ 605972; omega, by show _ ≤ 7278188; omega⟩ d_L_law_593 (fun r70 u69 hw => ?_)
    refine j_istore X d_L_law_596 (by decide) rfl ?_
    refine j_aload_n X d_L_law_598 rfl 4 rfl ?_
    refine j_callVi (As := []) X (c_M_thrown l D ca ad _ hD hw) (gcV (n := 0) X rfl rfl rfl gc_M_thrown m_M_thrown l_L_81 (by decide +kernel) ⟨by decide, by decide⟩) (q0 := 33) rfl rfl (fun _ h => h) rfl rfl (Nat.le_of_ble_eq_true rfl) ⟨by show _ ≤ 605972; omega, by show _ ≤ 7278188; omega⟩ d_L_law_599 (fun r72 u71 hw => ?_)
    refine j_iload X d_L_law_602 1 rfl ?_
    refine j_icmp_eq X d_L_law_604 (tgt := 609) (by decide) (fun h => ?_) (fun h => ?_)
    · have hw := hw.1 h
      refine j_iload X d_L_law_609 1 rfl ?_
      refine j_if_ne X d_L_law_611 (tgt := 633) (by decide) (fun h => ?_) (fun h => ?_)
      · have hw := hw.1 h
        refine j_goto X d_L_law_633 (tgt := 981) (by decide) ?_
        refine j_locs [2, 3, 4, 5, 6] rfl ?_
        exact kk _ _ _ (by omega) (by omega) hw
      · have hw := hw.2 h
        refine j_aload_n X d_L_law_614 rfl 5 rfl ?_
        refine j_iconst X (v := (0 : Int32)) d_L_law_615 (by decide) ?_
        refine ll_53 X (v := (Int32.toInt64 (u71 53 (Int32.toNatClampNeg (0 : Int32))))) (vin_lit (0 : Int32) 1 (by decide)) rfl d_L_law_616 ?_
        refine j_iload X d_L_law_617 0 rfl ?_
        refine j_if_eq X d_L_law_619 (tgt := 626) (by decide) (fun h => ?_) (fun h => ?_)
        · have hw := hw.1 h
          refine j_lconst X (v := (0 : Int64)) d_L_law_626 (by decide) ?_
          refine j_lcmp X d_L_law_627 ?_
          refine j_if_eq X d_L_law_628 (tgt := 633) (by decide) (fun h => ?_) (fun h => ?_)
          · have hw := hw.1 h
            refine j_goto X d_L_law_633 (tgt := 981) (by decide) ?_
            refine j_locs [2, 3, 4, 5, 6] rfl ?_
            exact kk _ _ _ (by omega) (by omega) hw
          · have hw := hw.2 h
            refine j_iconst X (v := (0 : Int32)) d_L_law_631 (by decide) ?_
            exact hw.elim
        · have hw := hw.2 h
          refine j_lconst X (v := (1 : Int64)) d_L_law_622 (by decide) ?_
          refine j_goto X d_L_law_623 (tgt := 627) (by decide) ?_
          refine j_lcmp X d_L_law_627 ?_
          refine j_if_eq X d_L_law_628 (tgt := 633) (by decide) (fun h => ?_) (fun h => ?_)
          · have hw := hw.1 h
            refine j_goto X d_L_law_633 (tgt := 981) (by decide) ?_
            refine j_locs [2, 3, 4, 5, 6] rfl ?_
            exact kk _ _ _ (by omega) (by omega) hw
          · have hw := hw.2 h
            refine j_iconst X (v := (0 : Int32)) d_L_law_631 (by decide) ?_
            exact hw.elim
    · have hw := hw.2 h
      refine j_iconst X (v := (0 : Int32)) d_L_law_607 (by decide) ?_
      exact hw.elim
  have hw := hw.2
  by_cases h12 : (a0 &&& (31 : Int32)) = (12 : Int32)
  · refine j_tin X d_L_law_39 (12 : Int32) h12 (by decide) (by decide) (off := 597) (by decide) (tgt := 636) (by decide) ?_
    have hw := hw.1 h12
    refine j_aload_n X d_L_law_636 rfl 1 rfl ?_
    refine j_aload_n X d_L_law_637 rfl 0 rfl ?_
    refine j_iload X d_L_law_638 4 rfl ?_
    refine j_iconst X (v := (1 : Int32)) d_L_law_640 (by decide) ?_
    refine j_iadd X d_L_law_641 ?_
    refine jl_ld X hX hbl hv1 ha1 d_L_law_642 ?_
    refine j_aload_n X d_L_law_643 rfl 0 rfl ?_
    refine j_iload X d_L_law_644 4 rfl ?_
    refine j_iconst X (v := (2 : Int32)) d_L_law_646 (by decide) ?_
    refine j_iadd X d_L_law_647 ?_
    refine jl_ld X hX hbl hv2 ha2 d_L_law_648 ?_
    refine j_if_eq X d_L_law_649 (tgt := 656) (by decide) (fun h => ?_) (fun h => ?_)
    · have hw := hw.1 h
      refine j_iconst X (v := (0 : Int32)) d_L_law_656 (by decide) ?_
      refine j_aload_n X d_L_law_657 rfl 3 rfl ?_
      refine j_callSWi (As := [.ref (ad 0), .int a1, .int (0 : Int32), .ref (ad 53)]) X (c_L_frame l hlt D ca ad _ hD hw) rfl rfl rfl gc_L_frame l_L_126 (n := 4) (by decide +kernel) ⟨by decide, by decide⟩ rfl rfl (Nat.le_of_ble_eq_true rfl) ⟨by show _ ≤ 605972; omega, by show _ ≤ 7278188; omega⟩ d_L_law_658 (fun r74 u73 hw => ?_)
      refine j_istore X d_L_law_661 (by decide) rfl ?_
      refine j_aload_n X d_L_law_663 rfl 3 rfl ?_
      refine j_aload_n X d_L_law_664 rfl 1 rfl ?_
      refine j_iload X d_L_law_665 5 rfl ?_
      refine j_iconst X (v := (1 : Int32)) d_L_law_667 (by decide) ?_
      refine j_iadd X d_L_law_668 ?_
      refine jl_ld X hX hbl hv1 ha1 d_L_law_669 ?_
      refine j_aload_n X d_L_law_670 rfl 1 rfl ?_
      refine j_iload X d_L_law_671 5 rfl ?_
      refine j_iconst X (v := (2 : Int32)) d_L_law_673 (by decide) ?_
      refine j_iadd X d_L_law_674 ?_
      refine jl_ld X hX hbl hv2 ha2 d_L_law_675 ?_
      refine j_if_eq X d_L_law_676 (tgt := 683) (by decide) (fun h => ?_) (fun h => ?_)
      · have hw := hw.1 h
        refine j_iconst X (v := (0 : Int32)) d_L_law_683 (by decide) ?_
        refine j_callVi (As := [.int a1, .int (0 : Int32)]) X (c_M_frame l D ca ad _ hD hw) (gcV (n := 2) X rfl rfl rfl gc_M_frame m_M_frame l_L_129 (by decide +kernel) ⟨by decide, by decide⟩) (q0 := 33) rfl rfl (fun _ h => h) rfl rfl (Nat.le_of_ble_eq_true rfl) ⟨by show _ ≤ 605972; omega, by show _ ≤ 7278188; omega⟩ d_L_law_684 (fun r76 u75 hw => ?_)
        refine j_istore X d_L_law_687 (by decide) rfl ?_
        refine j_aload_n X d_L_law_689 rfl 4 rfl ?_
        refine j_callVi (As := []) X (c_M_thrown l D ca ad _ hD hw) (gcV (n := 0) X rfl rfl rfl gc_M_thrown m_M_thrown l_L_81 (by decide +kernel) ⟨by decide, by decide⟩) (q0 := 33) rfl rfl (fun _ h => h) rfl rfl (Nat.le_of_ble_eq_true rfl) ⟨by show _ ≤ 605972; omega, by show _ ≤ 7278188; omega⟩ d_L_law_690 (fun r78 u77 hw => ?_)
        refine j_iload X d_L_law_693 1 rfl ?_
        refine j_icmp_eq X d_L_law_695 (tgt := 700) (by decide) (fun h => ?_) (fun h => ?_)
        · have hw := hw.1 h
          refine j_iload X d_L_law_700 1 rfl ?_
          refine j_if_ne X d_L_law_702 (tgt := 717) (by decide) (fun h => ?_) (fun h => ?_)
          · have hw := hw.1 h
            refine j_goto X d_L_law_717 (tgt := 981) (by decide) ?_
            refine j_locs [2, 3, 4, 5, 6] rfl ?_
            exact kk _ _ _ (by omega) (by omega) hw
          · have hw := hw.2 h
            refine j_aload_n X d_L_law_705 rfl 5 rfl ?_
            refine j_iconst X (v := (0 : Int32)) d_L_law_706 (by decide) ?_
            refine ll_53 X (v := (Int32.toInt64 (u77 53 (Int32.toNatClampNeg (0 : Int32))))) (vin_lit (0 : Int32) 1 (by decide)) rfl d_L_law_707 ?_
            refine j_iload X d_L_law_708 0 rfl ?_
            refine j_i2l X d_L_law_710 ?_
            refine j_lcmp X d_L_law_711 ?_
            refine j_if_eq X d_L_law_712 (tgt := 717) (by decide) (fun h => ?_) (fun h => ?_)
            · have hw := hw.1 h
              refine j_goto X d_L_law_717 (tgt := 981) (by decide) ?_
              refine j_locs [2, 3, 4, 5, 6] rfl ?_
              exact kk _ _ _ (by omega) (by omega) hw
            · have hw := hw.2 h
              refine j_iconst X (v := (0 : Int32)) d_L_law_715 (by decide) ?_
              exact hw.elim
        · have hw := hw.2 h
          refine j_iconst X (v := (0 : Int32)) d_L_law_698 (by decide) ?_
          exact hw.elim
      · have hw := hw.2 h
        refine j_iconst X (v := (1 : Int32)) d_L_law_679 (by decide) ?_
        refine j_goto X d_L_law_680 (tgt := 684) (by decide) ?_
        refine j_callVi (As := [.int a1, .int (1 : Int32)]) X (c_M_frame l D ca ad _ hD hw) (gcV (n := 2) X rfl rfl rfl gc_M_frame m_M_frame l_L_129 (by decide +kernel) ⟨by decide, by decide⟩) (q0 := 33) rfl rfl (fun _ h => h) rfl rfl (Nat.le_of_ble_eq_true rfl) ⟨by show _ ≤ 605972; omega, by show _ ≤ 7278188; omega⟩ d_L_law_684 (fun r80 u79 hw => ?_)
        refine j_istore X d_L_law_687 (by decide) rfl ?_
        refine j_aload_n X d_L_law_689 rfl 4 rfl ?_
        refine j_callVi (As := []) X (c_M_thrown l D ca ad _ hD hw) (gcV (n := 0) X rfl rfl rfl gc_M_thrown m_M_thrown l_L_81 (by decide +kernel) ⟨by decide, by decide⟩) (q0 := 33) rfl rfl (fun _ h => h) rfl rfl (Nat.le_of_ble_eq_true rfl) ⟨by show _ ≤ 605972; omega, by show _ ≤ 7278188; omega⟩ d_L_law_690 (fun r82 u81 hw => ?_)
        refine j_iload X d_L_law_693 1 rfl ?_
        refine j_icmp_eq X d_L_law_695 (tgt := 700) (by decide) (fun h => ?_) (fun h => ?_)
        · have hw := hw.1 h
          refine j_iload X d_L_law_700 1 rfl ?_
          refine j_if_ne X d_L_law_702 (tgt := 717) (by decide) (fun h => ?_) (fun h => ?_)
          · have hw := hw.1 h
            refine j_goto X d_L_law_717 (tgt := 981) (by decide) ?_
            refine j_locs [2, 3, 4, 5, 6] rfl ?_
            exact kk _ _ _ (by omega) (by omega) hw
          · have hw := hw.2 h
            refine j_aload_n X d_L_law_705 rfl 5 rfl ?_
            refine j_iconst X (v := (0 : Int32)) d_L_law_706 (by decide) ?_
            refine ll_53 X (v := (Int32.toInt64 (u81 53 (Int32.toNatClampNeg (0 : Int32))))) (vin_lit (0 : Int32) 1 (by decide)) rfl d_L_law_707 ?_
            refine j_iload X d_L_law_708 0 rfl ?_
            refine j_i2l X d_L_law_710 ?_
            refine j_lcmp X d_L_law_711 ?_
            refine j_if_eq X d_L_law_712 (tgt := 717) (by decide) (fun h => ?_) (fun h => ?_)
            · have hw := hw.1 h
              refine j_goto X d_L_law_717 (tgt := 981) (by decide) ?_
              refine j_locs [2, 3, 4, 5, 6] rfl ?_
              exact kk _ _ _ (by omega) (by omega) hw
            · have hw := hw.2 h
              refine j_iconst X (v := (0 : Int32)) d_L_law_715 (by decide) ?_
              exact hw.elim
        · have hw := hw.2 h
          refine j_iconst X (v := (0 : Int32)) d_L_law_698 (by decide) ?_
          exact hw.elim
    · have hw := hw.2 h
      refine j_iconst X (v := (1 : Int32)) d_L_law_652 (by decide) ?_
      refine j_goto X d_L_law_653 (tgt := 657) (by decide) ?_
      refine j_aload_n X d_L_law_657 rfl 3 rfl ?_
      refine j_callSWi (As := [.ref (ad 0), .int a1, .int (1 : Int32), .ref (ad 53)]) X (c_L_frame l hlt D ca ad _ hD hw) rfl rfl rfl gc_L_frame l_L_126 (n := 4) (by decide +kernel) ⟨by decide, by decide⟩ rfl rfl (Nat.le_of_ble_eq_true rfl) ⟨by show _ ≤ 605972; omega, by show _ ≤ 7278188; omega⟩ d_L_law_658 (fun r84 u83 hw => ?_)
      refine j_istore X d_L_law_661 (by decide) rfl ?_
      refine j_aload_n X d_L_law_663 rfl 3 rfl ?_
      refine j_aload_n X d_L_law_664 rfl 1 rfl ?_
      refine j_iload X d_L_law_665 5 rfl ?_
      refine j_iconst X (v := (1 : Int32)) d_L_law_667 (by decide) ?_
      refine j_iadd X d_L_law_668 ?_
      refine jl_ld X hX hbl hv1 ha1 d_L_law_669 ?_
      refine j_aload_n X d_L_law_670 rfl 1 rfl ?_
      refine j_iload X d_L_law_671 5 rfl ?_
      refine j_iconst X (v := (2 : Int32)) d_L_law_673 (by decide) ?_
      refine j_iadd X d_L_law_674 ?_
      refine jl_ld X hX hbl hv2 ha2 d_L_law_675 ?_
      refine j_if_eq X d_L_law_676 (tgt := 683) (by decide) (fun h => ?_) (fun h => ?_)
      · have hw := hw.1 h
        refine j_iconst X (v := (0 : Int32)) d_L_law_683 (by decide) ?_
        refine j_callVi (As := [.int a1, .int (0 : Int32)]) X (c_M_frame l D ca ad _ hD hw) (gcV (n := 2) X rfl rfl rfl gc_M_frame m_M_frame l_L_129 (by decide +kernel) ⟨by decide, by decide⟩) (q0 := 33) rfl rfl (fun _ h => h) rfl rfl (Nat.le_of_ble_eq_true rfl) ⟨by show _ ≤ 605972; omega, by show _ ≤ 7278188; omega⟩ d_L_law_684 (fun r86 u85 hw => ?_)
        refine j_istore X d_L_law_687 (by decide) rfl ?_
        refine j_aload_n X d_L_law_689 rfl 4 rfl ?_
        refine j_callVi (As := []) X (c_M_thrown l D ca ad _ hD hw) (gcV (n := 0) X rfl rfl rfl gc_M_thrown m_M_thrown l_L_81 (by decide +kernel) ⟨by decide, by decide⟩) (q0 := 33) rfl rfl (fun _ h => h) rfl rfl (Nat.le_of_ble_eq_true rfl) ⟨by show _ ≤ 605972; omega, by show _ ≤ 7278188; omega⟩ d_L_law_690 (fun r88 u87 hw => ?_)
        refine j_iload X d_L_law_693 1 rfl ?_
        refine j_icmp_eq X d_L_law_695 (tgt := 700) (by decide) (fun h => ?_) (fun h => ?_)
        · have hw := hw.1 h
          refine j_iload X d_L_law_700 1 rfl ?_
          refine j_if_ne X d_L_law_702 (tgt := 717) (by decide) (fun h => ?_) (fun h => ?_)
          · have hw := hw.1 h
            refine j_goto X d_L_law_717 (tgt := 981) (by decide) ?_
            refine j_locs [2, 3, 4, 5, 6] rfl ?_
            exact kk _ _ _ (by omega) (by omega) hw
          · have hw := hw.2 h
            refine j_aload_n X d_L_law_705 rfl 5 rfl ?_
            refine j_iconst X (v := (0 : Int32)) d_L_law_706 (by decide) ?_
            refine ll_53 X (v := (Int32.toInt64 (u87 53 (Int32.toNatClampNeg (0 : Int32))))) (vin_lit (0 : Int32) 1 (by decide)) rfl d_L_law_707 ?_
            refine j_iload X d_L_law_708 0 rfl ?_
            refine j_i2l X d_L_law_710 ?_
            refine j_lcmp X d_L_law_711 ?_
            refine j_if_eq X d_L_law_712 (tgt := 717) (by decide) (fun h => ?_) (fun h => ?_)
            · have hw := hw.1 h
              refine j_goto X d_L_law_717 (tgt := 981) (by decide) ?_
              refine j_locs [2, 3, 4, 5, 6] rfl ?_
              exact kk _ _ _ (by omega) (by omega) hw
            · have hw := hw.2 h
              refine j_iconst X (v := (0 : Int32)) d_L_law_715 (by decide) ?_
              exact hw.elim
        · have hw := hw.2 h
          refine j_iconst X (v := (0 : Int32)) d_L_law_698 (by decide) ?_
          exact hw.elim
      · have hw := hw.2 h
        refine j_iconst X (v := (1 : Int32)) d_L_law_679 (by decide) ?_
        refine j_goto X d_L_law_680 (tgt := 684) (by decide) ?_
        refine j_callVi (As := [.int a1, .int (1 : Int32)]) X (c_M_frame l D ca ad _ hD hw) (gcV (n := 2) X rfl rfl rfl gc_M_frame m_M_frame l_L_129 (by decide +kernel) ⟨by decide, by decide⟩) (q0 := 33) rfl rfl (fun _ h => h) rfl rfl (Nat.le_of_ble_eq_true rfl) ⟨by show _ ≤ 605972; omega, by show _ ≤ 7278188; omega⟩ d_L_law_684 (fun r90 u89 hw => ?_)
        refine j_istore X d_L_law_687 (by decide) rfl ?_
        refine j_aload_n X d_L_law_689 rfl 4 rfl ?_
        refine j_callVi (As := []) X (c_M_thrown l D ca ad _ hD hw) (gcV (n := 0) X rfl rfl rfl gc_M_thrown m_M_thrown l_L_81 (by decide +kernel) ⟨by decide, by decide⟩) (q0 := 33) rfl rfl (fun _ h => h) rfl rfl (Nat.le_of_ble_eq_true rfl) ⟨by show _ ≤ 605972; omega, by show _ ≤ 7278188; omega⟩ d_L_law_690 (fun r92 u91 hw => ?_)
        refine j_iload X d_L_law_693 1 rfl ?_
        refine j_icmp_eq X d_L_law_695 (tgt := 700) (by decide) (fun h => ?_) (fun h => ?_)
        · have hw := hw.1 h
          refine j_iload X d_L_law_700 1 rfl ?_
          refine j_if_ne X d_L_law_702 (tgt := 717) (by decide) (fun h => ?_) (fun h => ?_)
          · have hw := hw.1 h
            refine j_goto X d_L_law_717 (tgt := 981) (by decide) ?_
            refine j_locs [2, 3, 4, 5, 6] rfl ?_
            exact kk _ _ _ (by omega) (by omega) hw
          · have hw := hw.2 h
            refine j_aload_n X d_L_law_705 rfl 5 rfl ?_
            refine j_iconst X (v := (0 : Int32)) d_L_law_706 (by decide) ?_
            refine ll_53 X (v := (Int32.toInt64 (u91 53 (Int32.toNatClampNeg (0 : Int32))))) (vin_lit (0 : Int32) 1 (by decide)) rfl d_L_law_707 ?_
            refine j_iload X d_L_law_708 0 rfl ?_
            refine j_i2l X d_L_law_710 ?_
            refine j_lcmp X d_L_law_711 ?_
            refine j_if_eq X d_L_law_712 (tgt := 717) (by decide) (fun h => ?_) (fun h => ?_)
            · have hw := hw.1 h
              refine j_goto X d_L_law_717 (tgt := 981) (by decide) ?_
              refine j_locs [2, 3, 4, 5, 6] rfl ?_
              exact kk _ _ _ (by omega) (by omega) hw
            · have hw := hw.2 h
              refine j_iconst X (v := (0 : Int32)) d_L_law_715 (by decide) ?_
              exact hw.elim
        · have hw := hw.2 h
          refine j_iconst X (v := (0 : Int32)) d_L_law_698 (by decide) ?_
          exact hw.elim
  have hw := hw.2
  by_cases h13 : (a0 &&& (31 : Int32)) = (13 : Int32)
  · refine j_tin X d_L_law_39 (13 : Int32) h13 (by decide) (by decide) (off := 681) (by decide) (tgt := 720) (by decide) ?_
    have hw := hw.1 h13
    refine j_aload_n X d_L_law_720 rfl 1 rfl ?_
    refine j_aload_n X d_L_law_721 rfl 0 rfl ?_
    refine j_iload X d_L_law_722 4 rfl ?_
    refine j_iconst X (v := (1 : Int32)) d_L_law_724 (by decide) ?_
    refine j_iadd X d_L_law_725 ?_
    refine jl_ld X hX hbl hv1 ha1 d_L_law_726 ?_
    refine j_aload_n X d_L_law_727 rfl 3 rfl ?_
    refine j_callSWi (As := [.ref (ad 0), .int a1, .ref (ad 53)]) X (c_L_ground l hlt D ca ad _ hD hw) rfl rfl rfl gc_L_ground l_L_130 (n := 3) (by decide +kernel) ⟨by decide, by decide⟩ rfl rfl (Nat.le_of_ble_eq_true rfl) ⟨by show _ ≤ 605972; omega, by show _ ≤ 7278188; omega⟩ d_L_law_728 (fun r94 u93 hw => ?_)
    refine j_istore X d_L_law_731 (by decide) rfl ?_
    refine j_aload_n X d_L_law_733 rfl 3 rfl ?_
    refine j_aload_n X d_L_law_734 rfl 1 rfl ?_
    refine j_iload X d_L_law_735 5 rfl ?_
    refine j_iconst X (v := (1 : Int32)) d_L_law_737 (by decide) ?_
    refine j_iadd X d_L_law_738 ?_
    refine jl_ld X hX hbl hv1 ha1 d_L_law_739 ?_
    refine j_callVi (As := [.int a1]) X (c_M_ground l D ca ad _ hD hw) (gcV (n := 1) X rfl rfl rfl gc_M_ground m_M_ground l_L_132 (by decide +kernel) ⟨by decide, by decide⟩) (q0 := 33) rfl rfl (fun _ h => h) rfl rfl (Nat.le_of_ble_eq_true rfl) ⟨by show _ ≤ 605972; omega, by show _ ≤ 7278188; omega⟩ d_L_law_740 (fun r96 u95 hw => ?_)
    refine j_istore X d_L_law_743 (by decide) rfl ?_
    refine j_aload_n X d_L_law_745 rfl 4 rfl ?_
    refine j_callVi (As := []) X (c_M_thrown l D ca ad _ hD hw) (gcV (n := 0) X rfl rfl rfl gc_M_thrown m_M_thrown l_L_81 (by decide +kernel) ⟨by decide, by decide⟩) (q0 := 33) rfl rfl (fun _ h => h) rfl rfl (Nat.le_of_ble_eq_true rfl) ⟨by show _ ≤ 605972; omega, by show _ ≤ 7278188; omega⟩ d_L_law_746 (fun r98 u97 hw => ?_)
    refine j_iload X d_L_law_749 1 rfl ?_
    refine j_icmp_eq X d_L_law_751 (tgt := 756) (by decide) (fun h => ?_) (fun h => ?_)
    · have hw := hw.1 h
      refine j_iload X d_L_law_756 1 rfl ?_
      refine j_if_ne X d_L_law_758 (tgt := 773) (by decide) (fun h => ?_) (fun h => ?_)
      · have hw := hw.1 h
        refine j_goto X d_L_law_773 (tgt := 981) (by decide) ?_
        refine j_locs [2, 3, 4, 5, 6] rfl ?_
        exact kk _ _ _ (by omega) (by omega) hw
      · have hw := hw.2 h
        refine j_aload_n X d_L_law_761 rfl 5 rfl ?_
        refine j_iconst X (v := (0 : Int32)) d_L_law_762 (by decide) ?_
        refine ll_53 X (v := (Int32.toInt64 (u97 53 (Int32.toNatClampNeg (0 : Int32))))) (vin_lit (0 : Int32) 1 (by decide)) rfl d_L_law_763 ?_
        refine j_iload X d_L_law_764 0 rfl ?_
        refine j_i2l X d_L_law_766 ?_
        refine j_lcmp X d_L_law_767 ?_
        refine j_if_eq X d_L_law_768 (tgt := 773) (by decide) (fun h => ?_) (fun h => ?_)
        · have hw := hw.1 h
          refine j_goto X d_L_law_773 (tgt := 981) (by decide) ?_
          refine j_locs [2, 3, 4, 5, 6] rfl ?_
          exact kk _ _ _ (by omega) (by omega) hw
        · have hw := hw.2 h
          refine j_iconst X (v := (0 : Int32)) d_L_law_771 (by decide) ?_
          exact hw.elim
    · have hw := hw.2 h
      refine j_iconst X (v := (0 : Int32)) d_L_law_754 (by decide) ?_
      exact hw.elim
  have hw := hw.2
  by_cases h14 : (a0 &&& (31 : Int32)) = (14 : Int32)
  · refine j_tin X d_L_law_39 (14 : Int32) h14 (by decide) (by decide) (off := 737) (by decide) (tgt := 776) (by decide) ?_
    have hw := hw.1 h14
    refine j_aload_n X d_L_law_776 rfl 1 rfl ?_
    refine j_aload_n X d_L_law_777 rfl 0 rfl ?_
    refine j_iload X d_L_law_778 4 rfl ?_
    refine j_iconst X (v := (1 : Int32)) d_L_law_780 (by decide) ?_
    refine j_iadd X d_L_law_781 ?_
    refine jl_ld X hX hbl hv1 ha1 d_L_law_782 ?_
    refine j_aload_n X d_L_law_783 rfl 3 rfl ?_
    refine j_callSWi (As := [.ref (ad 0), .int a1, .ref (ad 53)]) X (c_L_craft l hlt D ca ad _ hD hw) rfl rfl rfl gc_L_craft l_L_133 (n := 3) (by decide +kernel) ⟨by decide, by decide⟩ rfl rfl (Nat.le_of_ble_eq_true rfl) ⟨by show _ ≤ 605972; omega, by show _ ≤ 7278188; omega⟩ d_L_law_784 (fun r100 u99 hw => ?_)
    refine j_istore X d_L_law_787 (by decide) rfl ?_
    refine j_aload_n X d_L_law_789 rfl 3 rfl ?_
    refine j_aload_n X d_L_law_790 rfl 1 rfl ?_
    refine j_iload X d_L_law_791 5 rfl ?_
    refine j_iconst X (v := (1 : Int32)) d_L_law_793 (by decide) ?_
    refine j_iadd X d_L_law_794 ?_
    refine jl_ld X hX hbl hv1 ha1 d_L_law_795 ?_
    refine j_callVi (As := [.int a1]) X (c_M_craft l D ca ad _ hD hw) (gcV (n := 1) X rfl rfl rfl gc_M_craft m_M_craft l_L_135 (by decide +kernel) ⟨by decide, by decide⟩) (q0 := 33) rfl rfl (fun _ h => h) rfl rfl (Nat.le_of_ble_eq_true rfl) ⟨by show _ ≤ 605972; omega, by show _ ≤ 7278188; omega⟩ d_L_law_796 (fun r102 u101 hw => ?_)
    refine j_istore X d_L_law_799 (by decide) rfl ?_
    refine j_aload_n X d_L_law_801 rfl 4 rfl ?_
    refine j_callVi (As := []) X (c_M_thrown l D ca ad _ hD hw) (gcV (n := 0) X rfl rfl rfl gc_M_thrown m_M_thrown l_L_81 (by decide +kernel) ⟨by decide, by decide⟩) (q0 := 33) rfl rfl (fun _ h => h) rfl rfl (Nat.le_of_ble_eq_true rfl) ⟨by show _ ≤ 605972; omega, by show _ ≤ 7278188; omega⟩ d_L_law_802 (fun r104 u103 hw => ?_)
    refine j_iload X d_L_law_805 1 rfl ?_
    refine j_icmp_eq X d_L_law_807 (tgt := 812) (by decide) (fun h => ?_) (fun h => ?_)
    · have hw := hw.1 h
      refine j_iload X d_L_law_812 1 rfl ?_
      refine j_if_ne X d_L_law_814 (tgt := 829) (by decide) (fun h => ?_) (fun h => ?_)
      · have hw := hw.1 h
        refine j_goto X d_L_law_829 (tgt := 981) (by decide) ?_
        refine j_locs [2, 3, 4, 5, 6] rfl ?_
        exact kk _ _ _ (by omega) (by omega) hw
      · have hw := hw.2 h
        refine j_aload_n X d_L_law_817 rfl 5 rfl ?_
        refine j_iconst X (v := (0 : Int32)) d_L_law_818 (by decide) ?_
        refine ll_53 X (v := (Int32.toInt64 (u103 53 (Int32.toNatClampNeg (0 : Int32))))) (vin_lit (0 : Int32) 1 (by decide)) rfl d_L_law_819 ?_
        refine j_iload X d_L_law_820 0 rfl ?_
        refine j_i2l X d_L_law_822 ?_
        refine j_lcmp X d_L_law_823 ?_
        refine j_if_eq X d_L_law_824 (tgt := 829) (by decide) (fun h => ?_) (fun h => ?_)
        · have hw := hw.1 h
          refine j_goto X d_L_law_829 (tgt := 981) (by decide) ?_
          refine j_locs [2, 3, 4, 5, 6] rfl ?_
          exact kk _ _ _ (by omega) (by omega) hw
        · have hw := hw.2 h
          refine j_iconst X (v := (0 : Int32)) d_L_law_827 (by decide) ?_
          exact hw.elim
    · have hw := hw.2 h
      refine j_iconst X (v := (0 : Int32)) d_L_law_810 (by decide) ?_
      exact hw.elim
  have hw := hw.2
  by_cases h15 : (a0 &&& (31 : Int32)) = (15 : Int32)
  · refine j_tin X d_L_law_39 (15 : Int32) h15 (by decide) (by decide) (off := 793) (by decide) (tgt := 832) (by decide) ?_
    have hw := hw.1 h15
    refine j_aload_n X d_L_law_832 rfl 1 rfl ?_
    refine j_aload_n X d_L_law_833 rfl 0 rfl ?_
    refine j_iload X d_L_law_834 4 rfl ?_
    refine j_iconst X (v := (1 : Int32)) d_L_law_836 (by decide) ?_
    refine j_iadd X d_L_law_837 ?_
    refine jl_ld X hX hbl hv1 ha1 d_L_law_838 ?_
    refine j_aload_n X d_L_law_839 rfl 0 rfl ?_
    refine j_iload X d_L_law_840 4 rfl ?_
    refine j_iconst X (v := (2 : Int32)) d_L_law_842 (by decide) ?_
    refine j_iadd X d_L_law_843 ?_
    refine jl_ld X hX hbl hv2 ha2 d_L_law_844 ?_
    refine j_aload_n X d_L_law_845 rfl 3 rfl ?_
    refine j_callSWi (As := [.ref (ad 0), .int a1, .int a2, .ref (ad 53)]) X (c_L_flight l hlt D ca ad _ hD hw) rfl rfl rfl gc_L_flight l_L_136 (n := 4) (by decide +kernel) ⟨by decide, by decide⟩ rfl rfl (Nat.le_of_ble_eq_true rfl) ⟨by show _ ≤ 605972; omega, by show _ ≤ 7278188; omega⟩ d_L_law_846 (fun r106 u105 hw => ?_)
    refine j_istore X d_L_law_849 (by decide) rfl ?_
    refine j_aload_n X d_L_law_851 rfl 3 rfl ?_
    refine j_aload_n X d_L_law_852 rfl 1 rfl ?_
    refine j_iload X d_L_law_853 5 rfl ?_
    refine j_iconst X (v := (1 : Int32)) d_L_law_855 (by decide) ?_
    refine j_iadd X d_L_law_856 ?_
    refine jl_ld X hX hbl hv1 ha1 d_L_law_857 ?_
    refine j_aload_n X d_L_law_858 rfl 1 rfl ?_
    refine j_iload X d_L_law_859 5 rfl ?_
    refine j_iconst X (v := (2 : Int32)) d_L_law_861 (by decide) ?_
    refine j_iadd X d_L_law_862 ?_
    refine jl_ld X hX hbl hv2 ha2 d_L_law_863 ?_
    refine j_callVi (As := [.int a1, .int a2]) X (c_M_flight l D ca ad _ hD hw) (gcV (n := 2) X rfl rfl rfl gc_M_flight m_M_flight l_L_139 (by decide +kernel) ⟨by decide, by decide⟩) (q0 := 33) rfl rfl (fun _ h => h) rfl rfl (Nat.le_of_ble_eq_true rfl) ⟨by show _ ≤ 605972; omega, by show _ ≤ 7278188; omega⟩ d_L_law_864 (fun r108 u107 hw => ?_)
    refine j_istore X d_L_law_867 (by decide) rfl ?_
    refine j_aload_n X d_L_law_869 rfl 4 rfl ?_
    refine j_callVi (As := []) X (c_M_thrown l D ca ad _ hD hw) (gcV (n := 0) X rfl rfl rfl gc_M_thrown m_M_thrown l_L_81 (by decide +kernel) ⟨by decide, by decide⟩) (q0 := 33) rfl rfl (fun _ h => h) rfl rfl (Nat.le_of_ble_eq_true rfl) ⟨by show _ ≤ 605972; omega, by show _ ≤ 7278188; omega⟩ d_L_law_870 (fun r110 u109 hw => ?_)
    refine j_iload X d_L_law_873 1 rfl ?_
    refine j_icmp_eq X d_L_law_875 (tgt := 880) (by decide) (fun h => ?_) (fun h => ?_)
    · have hw := hw.1 h
      refine j_iload X d_L_law_880 1 rfl ?_
      refine j_if_ne X d_L_law_882 (tgt := 897) (by decide) (fun h => ?_) (fun h => ?_)
      · have hw := hw.1 h
        refine j_goto X d_L_law_897 (tgt := 981) (by decide) ?_
        refine j_locs [2, 3, 4, 5, 6] rfl ?_
        exact kk _ _ _ (by omega) (by omega) hw
      · have hw := hw.2 h
        refine j_aload_n X d_L_law_885 rfl 5 rfl ?_
        refine j_iconst X (v := (0 : Int32)) d_L_law_886 (by decide) ?_
        refine ll_53 X (v := (Int32.toInt64 (u109 53 (Int32.toNatClampNeg (0 : Int32))))) (vin_lit (0 : Int32) 1 (by decide)) rfl d_L_law_887 ?_
        refine j_iload X d_L_law_888 0 rfl ?_
        refine j_i2l X d_L_law_890 ?_
        refine j_lcmp X d_L_law_891 ?_
        refine j_if_eq X d_L_law_892 (tgt := 897) (by decide) (fun h => ?_) (fun h => ?_)
        · have hw := hw.1 h
          refine j_goto X d_L_law_897 (tgt := 981) (by decide) ?_
          refine j_locs [2, 3, 4, 5, 6] rfl ?_
          exact kk _ _ _ (by omega) (by omega) hw
        · have hw := hw.2 h
          refine j_iconst X (v := (0 : Int32)) d_L_law_895 (by decide) ?_
          exact hw.elim
    · have hw := hw.2 h
      refine j_iconst X (v := (0 : Int32)) d_L_law_878 (by decide) ?_
      exact hw.elim
  have hw := hw.2
  by_cases h16 : (a0 &&& (31 : Int32)) = (16 : Int32)
  · refine j_tin X d_L_law_39 (16 : Int32) h16 (by decide) (by decide) (off := 861) (by decide) (tgt := 900) (by decide) ?_
    have hw := hw.1 h16
    refine j_aload_n X d_L_law_900 rfl 1 rfl ?_
    refine j_callVi (As := []) X (c_T_packets l D ca ad _ hD hw) (gcV (n := 0) X rfl rfl rfl gc_T_packets m_T_packets l_L_140 (by decide +kernel) ⟨by decide, by decide⟩) (q0 := 0) rfl rfl (fun _ h => h) rfl rfl (Nat.le_of_ble_eq_true rfl) ⟨by show _ ≤ 605972; omega, by show _ ≤ 7278188; omega⟩ d_L_law_901 (fun r112 u111 hw => ?_)
    refine j_aload_n X d_L_law_904 rfl 2 rfl ?_
    refine j_callVi (As := []) X (c_M_packets l D ca ad _ hD hw) (gcV (n := 0) X rfl rfl rfl gc_M_packets m_M_packets l_L_143 (by decide +kernel) ⟨by decide, by decide⟩) (q0 := 33) rfl rfl (fun _ h => h) rfl rfl (Nat.le_of_ble_eq_true rfl) ⟨by show _ ≤ 605972; omega, by show _ ≤ 7278188; omega⟩ d_L_law_905 (fun r114 u113 hw => ?_)
    refine j_icmp_eq X d_L_law_908 (tgt := 981) (by decide) (fun h => ?_) (fun h => ?_)
    · have hw := hw.1 h
      refine j_locs [0, 1, 2, 3, 4] rfl ?_
      exact kk _ _ _ (by omega) (by omega) hw
    · have hw := hw.2 h
      refine j_iconst X (v := (0 : Int32)) d_L_law_911 (by decide) ?_
      exact hw.elim
  have hw := hw.2
  by_cases h17 : (a0 &&& (31 : Int32)) = (17 : Int32)
  · refine j_tin X d_L_law_39 (17 : Int32) h17 (by decide) (by decide) (off := 874) (by decide) (tgt := 913) (by decide) ?_
    have hw := hw.1 h17
    refine j_aload_n X d_L_law_913 rfl 1 rfl ?_
    refine j_aload_n X d_L_law_914 rfl 0 rfl ?_
    refine j_iload X d_L_law_915 4 rfl ?_
    refine j_iconst X (v := (1 : Int32)) d_L_law_917 (by decide) ?_
    refine j_iadd X d_L_law_918 ?_
    refine jl_ld X hX hbl hv1 ha1 d_L_law_919 ?_
    refine j_aload_n X d_L_law_920 rfl 0 rfl ?_
    refine j_iload X d_L_law_921 4 rfl ?_
    refine j_iconst X (v := (2 : Int32)) d_L_law_923 (by decide) ?_
    refine j_iadd X d_L_law_924 ?_
    refine jl_ld X hX hbl hv2 ha2 d_L_law_925 ?_
    refine j_aload_n X d_L_law_926 rfl 3 rfl ?_
    refine j_callSWi (As := [.ref (ad 0), .int a1, .int a2, .ref (ad 53)]) X (c_L_got l hlt D ca ad _ hD hw) rfl rfl rfl gc_L_got l_L_144 (n := 4) (by decide +kernel) ⟨by decide, by decide⟩ rfl rfl (Nat.le_of_ble_eq_true rfl) ⟨by show _ ≤ 605972; omega, by show _ ≤ 7278188; omega⟩ d_L_law_927 (fun r116 u115 hw => ?_)
    refine j_istore X d_L_law_930 (by decide) rfl ?_
    refine j_aload_n X d_L_law_932 rfl 3 rfl ?_
    refine j_aload_n X d_L_law_933 rfl 1 rfl ?_
    refine j_iload X d_L_law_934 5 rfl ?_
    refine j_iconst X (v := (1 : Int32)) d_L_law_936 (by decide) ?_
    refine j_iadd X d_L_law_937 ?_
    refine jl_ld X hX hbl hv1 ha1 d_L_law_938 ?_
    refine j_aload_n X d_L_law_939 rfl 1 rfl ?_
    refine j_iload X d_L_law_940 5 rfl ?_
    refine j_iconst X (v := (2 : Int32)) d_L_law_942 (by decide) ?_
    refine j_iadd X d_L_law_943 ?_
    refine jl_ld X hX hbl hv2 ha2 d_L_law_944 ?_
    refine j_callVi (As := [.int a1, .int a2]) X (c_M_got l D ca ad _ hD hw) (gcV (n := 2) X rfl rfl rfl gc_M_got m_M_got l_L_146 (by decide +kernel) ⟨by decide, by decide⟩) (q0 := 33) rfl rfl (fun _ h => h) rfl rfl (Nat.le_of_ble_eq_true rfl) ⟨by show _ ≤ 605972; omega, by show _ ≤ 7278188; omega⟩ d_L_law_945 (fun r118 u117 hw => ?_)
    refine j_istore X d_L_law_948 (by decide) rfl ?_
    refine j_aload_n X d_L_law_950 rfl 4 rfl ?_
    refine j_callVi (As := []) X (c_M_thrown l D ca ad _ hD hw) (gcV (n := 0) X rfl rfl rfl gc_M_thrown m_M_thrown l_L_81 (by decide +kernel) ⟨by decide, by decide⟩) (q0 := 33) rfl rfl (fun _ h => h) rfl rfl (Nat.le_of_ble_eq_true rfl) ⟨by show _ ≤ 605972; omega, by show _ ≤ 7278188; omega⟩ d_L_law_951 (fun r120 u119 hw => ?_)
    refine j_iload X d_L_law_954 1 rfl ?_
    refine j_icmp_eq X d_L_law_956 (tgt := 961) (by decide) (fun h => ?_) (fun h => ?_)
    · have hw := hw.1 h
      refine j_iload X d_L_law_961 1 rfl ?_
      refine j_if_ne X d_L_law_963 (tgt := 978) (by decide) (fun h => ?_) (fun h => ?_)
      · have hw := hw.1 h
        refine j_goto X d_L_law_978 (tgt := 981) (by decide) ?_
        refine j_locs [2, 3, 4, 5, 6] rfl ?_
        exact kk _ _ _ (by omega) (by omega) hw
      · have hw := hw.2 h
        refine j_aload_n X d_L_law_966 rfl 5 rfl ?_
        refine j_iconst X (v := (0 : Int32)) d_L_law_967 (by decide) ?_
        refine ll_53 X (v := (Int32.toInt64 (u119 53 (Int32.toNatClampNeg (0 : Int32))))) (vin_lit (0 : Int32) 1 (by decide)) rfl d_L_law_968 ?_
        refine j_iload X d_L_law_969 0 rfl ?_
        refine j_i2l X d_L_law_971 ?_
        refine j_lcmp X d_L_law_972 ?_
        refine j_if_eq X d_L_law_973 (tgt := 978) (by decide) (fun h => ?_) (fun h => ?_)
        · have hw := hw.1 h
          refine j_goto X d_L_law_978 (tgt := 981) (by decide) ?_
          refine j_locs [2, 3, 4, 5, 6] rfl ?_
          exact kk _ _ _ (by omega) (by omega) hw
        · have hw := hw.2 h
          refine j_iconst X (v := (0 : Int32)) d_L_law_976 (by decide) ?_
          exact hw.elim
    · have hw := hw.2 h
      refine j_iconst X (v := (0 : Int32)) d_L_law_959 (by decide) ?_
      exact hw.elim
  have hw := hw.2
  have ho : Int32.toInt (a0 &&& (31 : Int32)) < 0 ∨ 17 < Int32.toInt (a0 &&& (31 : Int32)) := by
    have eh0 := lv_neT h0 (a := 0) (by decide)
    have eh1 := lv_neT h1 (a := 1) (by decide)
    have eh2 := lv_neT h2 (a := 2) (by decide)
    have eh3 := lv_neT h3 (a := 3) (by decide)
    have eh4 := lv_neT h4 (a := 4) (by decide)
    have eh5 := lv_neT h5 (a := 5) (by decide)
    have eh6 := lv_neT h6 (a := 6) (by decide)
    have eh7 := lv_neT h7 (a := 7) (by decide)
    have eh8 := lv_neT h8 (a := 8) (by decide)
    have eh9 := lv_neT h9 (a := 9) (by decide)
    have eh10 := lv_neT h10 (a := 10) (by decide)
    have eh11 := lv_neT h11 (a := 11) (by decide)
    have eh12 := lv_neT h12 (a := 12) (by decide)
    have eh13 := lv_neT h13 (a := 13) (by decide)
    have eh14 := lv_neT h14 (a := 14) (by decide)
    have eh15 := lv_neT h15 (a := 15) (by decide)
    have eh16 := lv_neT h16 (a := 16) (by decide)
    have eh17 := lv_neT h17 (a := 17) (by decide)
    omega
  refine j_tout X d_L_law_39 ho (tgt := 981) (by decide) ?_
  have hw := hw ho
  refine j_locs [0, 1, 2, 3, 4] rfl ?_
  exact kk _ _ _ (by omega) (by omega) hw
