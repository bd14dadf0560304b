/-! the case of a frame -/
theorem frm (w : Int32) (hw : w = 0 ∨ w = 1) (a1 : Int32) (σ : Jst) (K : Jst → Prop) (hI : Inv σ) (hK : ∀ u, Inv u → K u) : w_L_frame a1 w σ (fun r74 u73 => w_M_frame a1 w u73 (fun r76 u75 => w_M_thrown u75 (fun r78 u77 => ((r78 = r74 → ((¬ r74 = (0 : Int32) → K u77) ∧ (r74 = (0 : Int32) → (((lg_cmp (Int32.toInt64 (u77 53 (Int32.toNatClampNeg (0 : Int32)))) (Int32.toInt64 r76)) = (0 : Int32) → K u77) ∧ (¬ (lg_cmp (Int32.toInt64 (u77 53 (Int32.toNatClampNeg (0 : Int32)))) (Int32.toInt64 r76)) = (0 : Int32) → False))))) ∧ (¬ r78 = r74 → False))))) := by
  obtain ⟨hG, hU, hR, hC, hS0, hS1, hA0, hA1, hP⟩ := id hI
  have nb0 : narrow .boolean (.int 0) = .int 0 := rfl
  by_cases p1 : a1 < 0 ∨ 1 < a1
  · simp [w_L_frame, w_T_frame, w_T_isChannel, w_M_frame, within_eq, outside_eq, fails_eq, thrown_eq, p1, nb0, jup_at]
    exact hK _ (inv_thr hI)
  have hend : ∀ (a b : Jst) (h : Nat), Inv (mg a b) → b 33 0 = 0 → b 53 0 = nI h → w_M_thrown (mg a b) (fun r78 u77 => ((r78 = (0 : Int32) → ((¬ (0 : Int32) = (0 : Int32) → K u77) ∧ ((0 : Int32) = (0 : Int32) → (((lg_cmp (Int32.toInt64 (u77 53 (Int32.toNatClampNeg (0 : Int32)))) (Int32.toInt64 (nI h))) = (0 : Int32) → K u77) ∧ (¬ (lg_cmp (Int32.toInt64 (u77 53 (Int32.toNatClampNeg (0 : Int32)))) (Int32.toInt64 (nI h))) = (0 : Int32) → False))))) ∧ (¬ r78 = (0 : Int32) → False))) := by
    intro a b h hi h0 h1
    have t0 : (mg a b) 33 0 = 0 := h0
    have t1 : (mg a b) 53 0 = nI h := h1
    simp [thrown_eq, t0, t1, tn0, lg_self]
    exact hK _ hi
  rcases en1 p1 with rfl | rfl
  · obtain ⟨n, f, s1, s2, s3, s4, s5, s6, ⟨ct, ct1, ct2⟩, -⟩ := id hS0
    have hI0 : Inv (mg σ σ) := by rw [mg_self]; exact hI
    obtain ⟨α, m, m1, m2, m3, m4, m5, m6⟩ := step_0 (σ := σ) s3 s1
    have hex1 : ∃ β : Jst, Inv (mg α β) := by
      obtain ⟨b, b1, -⟩ := m6 σ hI0
      exact ⟨b, b1⟩
    obtain ⟨a, X, h, hh, hX, x27, x261, x262, q1, q2⟩ := fil_0 m3 m1 m2 (m4.trans ct2) ct1 hex1
    have hex2 : ∃ β : Jst, Inv (mg a β) := by
      obtain ⟨b, b1⟩ := hex1
      obtain ⟨b', b1', -⟩ := q2 b b1
      exact ⟨b', b1'⟩
    have hIβ : Inv (mg σ (jup (jup σ 53 0 (nI h)) 33 0 0)) := hI
    unfold w_L_frame w_T_frame w_T_isChannel
    refine within_yes p1 ⟨rfl, ?_⟩
    refine ⟨fun _ => ⟨vi0, fun _ => ?_, fun h => absurd h (by decide)⟩, fun h => absurd h (by decide)⟩
    rcases hw with rfl | rfl
    · obtain ⟨a', y26, y1, y2⟩ := rcv_0 a X hX x27 ct h ct1 hh x261 x262 hex2
      rw [show σ = mg σ σ from (mg_self σ).symm]
      refine m5 σ _ (q1 σ _ ⟨fun h => absurd rfl h, fun _ => ⟨vi0, fun _ => ?_, fun h => absurd h (by decide)⟩⟩)
      refine y1 σ _ ⟨_, rfl, ?_⟩
      show w_M_frame 0 0 (jup (mg a' σ) 53 (Int32.toNatClampNeg 0) (a' 26 2)) _
      rw [y26, x262, tn0, mg_up, if_neg (by decide)]
      unfold w_M_frame
      refine outside_no p1 ?_
      refine fails_no ?_
      rw [mg_up, if_neg (by decide)]
      refine ⟨fun _ => ?_, fun h => absurd rfl h⟩
      obtain ⟨b, b1, b2, b3, b4⟩ := m6 _ hIβ
      obtain ⟨b', c1, c2, c3, c4, c5⟩ := q2 b b1
      obtain ⟨b'', d1, d2, d3, d4⟩ := y2 b' c1 c4
      refine b4 a' _ 0 (c5 a' _ 0 ⟨fun q => absurd rfl q, fun _ => d4 a' _ ?_⟩)
      exact hend a' b'' h d1 (by rw [d2, c2, b2]; rfl) (by rw [d3, c3, b3]; rfl)
    · rw [show σ = mg σ σ from (mg_self σ).symm]
      refine m5 σ _ (q1 σ _ ⟨fun _ => ⟨_, rfl, ?_⟩, fun q => absurd q (by decide)⟩)
      show w_M_frame 0 1 (jup (mg a σ) 53 (Int32.toNatClampNeg 0) (a 26 2)) _
      rw [x262, tn0, mg_up, if_neg (by decide)]
      unfold w_M_frame
      refine outside_no p1 ?_
      refine fails_no ?_
      rw [mg_up, if_neg (by decide)]
      refine ⟨fun _ => ?_, fun h => absurd rfl h⟩
      obtain ⟨b, b1, b2, b3, b4⟩ := m6 _ hIβ
      obtain ⟨b', c1, c2, c3, c4, c5⟩ := q2 b b1
      refine b4 a _ 1 (c5 a _ 1 ⟨fun _ => ?_, fun q => absurd q (by decide)⟩)
      exact hend a b' h c1 (by rw [c2, b2]; rfl) (by rw [c3, b3]; rfl)
  · obtain ⟨n, f, s1, s2, s3, s4, s5, s6, ⟨ct, ct1, ct2⟩, -⟩ := id hS1
    have hI0 : Inv (mg σ σ) := by rw [mg_self]; exact hI
    obtain ⟨α, m, m1, m2, m3, m4, m5, m6⟩ := step_1 (σ := σ) s3 s1
    have hex1 : ∃ β : Jst, Inv (mg α β) := by
      obtain ⟨b, b1, -⟩ := m6 σ hI0
      exact ⟨b, b1⟩
    obtain ⟨a, X, h, hh, hX, x27, x261, x262, q1, q2⟩ := fil_1 m3 m1 m2 (m4.trans ct2) ct1 hex1
    have hex2 : ∃ β : Jst, Inv (mg a β) := by
      obtain ⟨b, b1⟩ := hex1
      obtain ⟨b', b1', -⟩ := q2 b b1
      exact ⟨b', b1'⟩
    have hIβ : Inv (mg σ (jup (jup σ 53 0 (nI h)) 33 0 0)) := hI
    unfold w_L_frame w_T_frame w_T_isChannel
    refine within_yes p1 ⟨rfl, ?_⟩
    refine ⟨fun _ => ⟨vi1, fun h => absurd h (by decide), fun _ => ?_⟩, fun h => absurd h (by decide)⟩
    rcases hw with rfl | rfl
    · obtain ⟨a', y26, y1, y2⟩ := rcv_1 a X hX x27 ct h ct1 hh x261 x262 hex2
      rw [show σ = mg σ σ from (mg_self σ).symm]
      refine m5 σ _ (q1 σ _ ⟨fun h => absurd rfl h, fun _ => ⟨vi1, fun h => absurd h (by decide), fun _ => ?_⟩⟩)
      refine y1 σ _ ⟨_, rfl, ?_⟩
      show w_M_frame 1 0 (jup (mg a' σ) 53 (Int32.toNatClampNeg 0) (a' 26 2)) _
      rw [y26, x262, tn0, mg_up, if_neg (by decide)]
      unfold w_M_frame
      refine outside_no p1 ?_
      refine fails_no ?_
      rw [mg_up, if_neg (by decide)]
      refine ⟨fun _ => ?_, fun h => absurd rfl h⟩
      obtain ⟨b, b1, b2, b3, b4⟩ := m6 _ hIβ
      obtain ⟨b', c1, c2, c3, c4, c5⟩ := q2 b b1
      obtain ⟨b'', d1, d2, d3, d4⟩ := y2 b' c1 c4
      refine b4 a' _ 0 (c5 a' _ 0 ⟨fun q => absurd rfl q, fun _ => d4 a' _ ?_⟩)
      exact hend a' b'' h d1 (by rw [d2, c2, b2]; rfl) (by rw [d3, c3, b3]; rfl)
    · rw [show σ = mg σ σ from (mg_self σ).symm]
      refine m5 σ _ (q1 σ _ ⟨fun _ => ⟨_, rfl, ?_⟩, fun q => absurd q (by decide)⟩)
      show w_M_frame 1 1 (jup (mg a σ) 53 (Int32.toNatClampNeg 0) (a 26 2)) _
      rw [x262, tn0, mg_up, if_neg (by decide)]
      unfold w_M_frame
      refine outside_no p1 ?_
      refine fails_no ?_
      rw [mg_up, if_neg (by decide)]
      refine ⟨fun _ => ?_, fun h => absurd rfl h⟩
      obtain ⟨b, b1, b2, b3, b4⟩ := m6 _ hIβ
      obtain ⟨b', c1, c2, c3, c4, c5⟩ := q2 b b1
      refine b4 a _ 1 (c5 a _ 1 ⟨fun _ => ?_, fun q => absurd q (by decide)⟩)
      exact hend a b' h c1 (by rw [c2, b2]; rfl) (by rw [c3, b3]; rfl)
theorem q_12 (a1 a2 a3 : Int32) (σ : Jst) (K : Jst → Prop) (hI : Inv σ) (hK : ∀ u, Inv u → K u) : wc_12 a1 a2 a3 σ K := by
  by_cases h : a2 = 0
  · have key := frm 0 (Or.inl rfl) a1 σ K hI hK
    unfold wc_12
    simp only [h, not_true, false_imp_iff, true_imp_iff, and_true]
    exact key
  · have key := frm 1 (Or.inr rfl) a1 σ K hI hK
    unfold wc_12
    simp only [h, not_false_iff, false_imp_iff, true_imp_iff, true_and]
    exact key
