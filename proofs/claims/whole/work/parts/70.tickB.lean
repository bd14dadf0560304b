/-! what a tick sends -/
theorem pd_add {od : Int32} {nu cm mk cm' mk' : Nat → Int32} {o k : Nat} {c : Int32} (h1 : o < 16) (hk : k < 4) (h3 : od = nI o) (h7 : ∀ j, j < k → nu j = nI ((o + j) % 16) ∧ cm' j = cm j ∧ mk' j = mk j ∧ (mk j = 0 ∨ mk j = 1)) : iPd (nI (((o + k) % 16 + 1) % 16)) od (nI (k + 1)) (nI (k + 1)) (upd nu k (nI ((o + k) % 16))) (upd cm k c) (upd mk k 0) (upd cm' k c) (upd mk' k 0) := by
  refine ⟨o, k + 1, h1, by omega, h3, rfl, rfl, by congr 1; omega, fun j hj => ?_⟩
  unfold upd
  by_cases e : j = k
  · simp only [if_pos e]
    exact ⟨by rw [e], trivial, trivial, Or.inl trivial⟩
  · simp only [if_neg e]
    exact h7 j (by omega)
theorem pd_un {nx od sz op : Int32} {nu cm mk cm' mk' : Nat → Int32} {z : Nat} (h : iPd nx od sz op nu cm mk cm' mk') : iPd nx od sz op nu cm (upd mk z 0) cm' (upd mk' z 0) := by
  obtain ⟨o, k, h1, h2, h3, h4, h5, h6, h7⟩ := h
  refine ⟨o, k, h1, h2, h3, h4, h5, h6, fun j hj => ?_⟩
  unfold upd
  by_cases e : j = z
  · simp only [if_pos e]
    exact ⟨(h7 j hj).1, (h7 j hj).2.1, trivial, Or.inl trivial⟩
  · simp only [if_neg e]
    exact h7 j hj
theorem nar0 : vp_nar .boolean (0 : Int32) = 0 := rfl
theorem tickB (σ : Jst) (hI : Inv σ) : ∃ (a b : Jst) (r : Int32), Inv (mg a b) ∧ (∀ (t : Jst) (K : Int32 → Jst → Prop), K r (mg a t) → wB (mg σ t) K) ∧ (∀ (t : Jst) (K : Int32 → Jst → Prop), K r (mg t b) → mB (mg t σ) K) := by
  obtain ⟨hG, hU, hR, hC, hS0, hS1, hA0, hA1, hP⟩ := id hI
  obtain ⟨⟨e1, e2, e3, e4, e5, e6, e7, e8, e9, e10, e11⟩, g2, g3, g4, g5, g6, g7⟩ := id hG
  obtain ⟨o, k, h1, h2, h3, h4, h5, h6, h7⟩ := id g7
  have hX : (o + k) % 16 < 16 := Nat.mod_lt _ (by decide)
  have hself : Inv (mg σ σ) := by rw [mg_self]; exact hI
  have hsend : (σ 9 1 = 1 ∨ σ 9 1 = 2) → ∃ (a b : Jst) (r : Int32), Inv (mg a b) ∧ (∀ (t : Jst) (K : Int32 → Jst → Prop), K r (mg a t) → w_Gr_sendCommand (mg σ t) K) ∧ (∀ (t : Jst) (K : Int32 → Jst → Prop), K r (mg t b) → ∃ n, w_M_tick_L99 K n 0 (mg t σ)) := by
    intro hm
    have n0 : ¬ σ 9 1 = 0 := by rcases hm with q | q <;> rw [q] <;> decide
    have n5 : ¬ σ 9 1 = 5 := by rcases hm with q | q <;> rw [q] <;> decide
    rcases first_mark (σ 13) k with hn | ⟨z, z1, z2, z3⟩
    · have hn' : ∀ j, j < k → σ 35 j = 0 := fun j hj => (h7 j hj).2.2.1.trans (hn j hj)
      rcases g3 with f0 | f0
      · refine ⟨σ, σ, -1, hself, ?_, ?_⟩
        · intro t K h
          unfold w_Gr_sendCommand
          refine fm_none (m := k) h2 h4 hn ?_
          simp [mg_at, f0]
          exact h
        · intro t K h
          refine tk_none (m := k) h2 h5 hn' ?_
          rw [w_M_tick_L99]
          simp [mg_at, h5, f0, e10]
          exact h
      · obtain ⟨w, w1, w2, w3⟩ := g4
        by_cases hw : w ≤ k
        · have q1 : nI w ≤ nI k := (nI_leI (by omega) (by omega)).mpr hw
          have q2 : ¬ nI k < nI w := Int32.not_lt.mpr q1
          refine ⟨σ, σ, -1, hself, ?_, ?_⟩
          · intro t K h
            unfold w_Gr_sendCommand
            refine fm_none (m := k) h2 h4 hn ?_
            simp [mg_at, f0, w_Un_size, h4, w3, q1]
            exact h
          · intro t K h
            refine tk_none (m := k) h2 h5 hn' ?_
            rw [w_M_tick_L99]
            simp [mg_at, h5, f0, e7, e10, w3, q1, q2]
            exact h
        · have q1 : ¬ nI w ≤ nI k := fun q => hw ((nI_leI (by omega) (by omega)).mp q)
          have q2 : nI k < nI w := Int32.not_le.mp q1
          have q3 : ¬ (4 : Int32) ≤ nI k := fun q => absurd ((nI_leI (a := 4) (by decide) (by omega)).mp q) (by omega)
          have q4 : vp_in (nI k) 4 := vp_in_nI (by omega) (by omega)
          have q5 : (nI k).toNatClampNeg = k := nI_clamp (by omega)
          have q6 : nI k + 1 = nI (k + 1) := nI_1 k
          have pa := fun c : Int32 => pd_add (cm := σ 12) (mk := σ 13) (cm' := σ 34) (mk' := σ 35) (nu := σ 11) (c := c) h1 (show k < 4 by omega) h3 h7
          have z6 : nI ((o + k) % 16) + 1 - (nI ((o + k) % 16) + 1) / 16 * 16 = nI (((o + k) % 16 + 1) % 16) := by rw [nI_1]; exact pk_rem (d := 16) (by omega) (by decide) (by decide)
          have z7 : nI (((o + k) % 16 + 1) % 16) + 15 - (nI (((o + k) % 16 + 1) % 16) + 15) / 16 * 16 = nI ((o + k) % 16) := by
            rw [show nI (((o + k) % 16 + 1) % 16) + 15 = nI (((o + k) % 16 + 1) % 16 + 15) from nI_add _ 15]
            rw [show nI (((o + k) % 16 + 1) % 16 + 15) - nI (((o + k) % 16 + 1) % 16 + 15) / 16 * 16 = nI ((((o + k) % 16 + 1) % 16 + 15) % 16) from pk_rem (d := 16) (by omega) (by decide) (by decide)]
            congr 1
            omega
          have h6' : σ 9 2 = nI ((o + k) % 16) := h6
          generalize (o + k) % 16 = X at hX pa z6 z7 h6'
          by_cases hk0 : k = 0
          · have q7 : nI (k + 1) = 1 := by rw [hk0]; rfl
            have hI1 : Inv (mg (jup (jup (jup (jup (jup (jup (jup σ 11 k (nI X)) 12 k (σ 9 5)) 13 k 0) 10 3 (nI (k + 1))) 9 2 (nI ((X + 1) % 16))) 9 4 0) 9 6 1) (jup (jup (jup (jup (jup (jup σ 34 k (σ 9 5)) 35 k 0) 33 14 (nI (k + 1))) 33 10 0) 33 4 1) 33 2 (nI ((X + 1) % 16)))) := ⟨⟨⟨e1, rfl, e3, rfl, e5, e6, e7, e8, e9, rfl, e11⟩, g2, Or.inl rfl, ⟨w, w1, w2, w3⟩, fun h => absurd h n0, fun h => absurd h n5, pa (σ 9 5)⟩, hU, hR, hC, hS0, hS1, hA0, hA1, hP⟩
            obtain ⟨a', b', i1, i2, i3⟩ := snd _ hI1 n0 0 (σ 9 5) (Or.inl rfl) X hX
            simp only [mg_mg_l] at i2
            simp only [mg_mg_r] at i3
            simp only [q7] at i2 i3
            refine ⟨a', b', 0, i1, ?_, ?_⟩
            · intro t K h
              unfold w_Gr_sendCommand
              refine fm_none (m := k) h2 h4 hn ?_
              simp [mg_at, mg_up, f0, w_Un_size, w_Gr_sendSlot, w_Un_add, w_T_following, h4, w3, q1, q3, q4, q5, q6, q7, h6', z6, nar0, jup_at]
              exact i2 t K h
            · intro t K h
              refine tk_none (m := k) h2 h5 hn' ?_
              rw [w_M_tick_L99]
              simp [mg_at, mg_up, h5, f0, e2, e4, e7, e10, e11, w3, q1, q2, q4, q5, q6, q7, h6', z6, z7, nar0, jup_at]
              exact i3 t K h
          · have q7 : ¬ nI (k + 1) = 1 := fun q => hk0 (by have := (nI_eq (b := 1) (by omega) (by decide)).mp q; omega)
            have hI1 : Inv (mg (jup (jup (jup (jup (jup (jup σ 11 k (nI X)) 12 k (σ 9 5)) 13 k 0) 10 3 (nI (k + 1))) 9 2 (nI ((X + 1) % 16))) 9 4 0) (jup (jup (jup (jup (jup (jup σ 34 k (σ 9 5)) 35 k 0) 33 14 (nI (k + 1))) 33 10 0) 33 4 (σ 9 6)) 33 2 (nI ((X + 1) % 16)))) := ⟨⟨⟨e1, rfl, e3, rfl, e5, e6, e7, e8, e9, rfl, e11⟩, g2, Or.inl rfl, ⟨w, w1, w2, w3⟩, fun h => absurd h n0, fun h => absurd h n5, pa (σ 9 5)⟩, hU, hR, hC, hS0, hS1, hA0, hA1, hP⟩
            obtain ⟨a', b', i1, i2, i3⟩ := snd _ hI1 n0 0 (σ 9 5) (Or.inl rfl) X hX
            simp only [mg_mg_l] at i2
            simp only [mg_mg_r] at i3
            refine ⟨a', b', 0, i1, ?_, ?_⟩
            · intro t K h
              unfold w_Gr_sendCommand
              refine fm_none (m := k) h2 h4 hn ?_
              simp [mg_at, mg_up, f0, w_Un_size, w_Gr_sendSlot, w_Un_add, w_T_following, h4, w3, q1, q3, q4, q5, q6, q7, h6', z6, nar0, jup_at]
              exact i2 t K h
            · intro t K h
              refine tk_none (m := k) h2 h5 hn' ?_
              rw [w_M_tick_L99]
              simp [mg_at, mg_up, h5, f0, e2, e4, e7, e10, e11, w3, q1, q2, q4, q5, q6, q7, h6', z6, z7, nar0, jup_at]
              exact i3 t K h
    · have y1 : ¬ σ 35 z = 0 := by rw [(h7 z z1).2.2.1]; exact z2
      have z3' : ∀ j, j < z → σ 35 j = 0 := fun j hj => (h7 j (by omega)).2.2.1.trans (z3 j hj)
      have q1 : ¬ nI k ≤ nI z := fun q => absurd ((nI_leI (by omega) (by omega)).mp q) (by omega)
      have q2 : ¬ nI z < 0 := fun q => absurd ((nI_ltI (b := 0) (by omega) (by decide)).mp q) (by omega)
      have q4 : vp_in (nI z) 4 := vp_in_nI (by omega) (by omega)
      have q5 : (nI z).toNatClampNeg = z := nI_clamp (by omega)
      have q6 : nI o + nI z - (nI o + nI z) / 16 * 16 = nI ((o + z) % 16) := by rw [nI_add]; exact pk_rem (d := 16) (by omega) (by decide) (by decide)
      have q8 := (h7 z z1).1
      have q9 := (h7 z z1).2.1
      have hI1 : Inv (mg (jup σ 13 z 0) (jup σ 35 z 0)) := ⟨⟨⟨e1, e2, e3, e4, e5, e6, e7, e8, e9, e10, e11⟩, g2, g3, g4, g5, g6, pd_un g7⟩, hU, hR, hC, hS0, hS1, hA0, hA1, hP⟩
      obtain ⟨a', b', i1, i2, i3⟩ := snd _ hI1 n0 0 (σ 12 z) (Or.inl rfl) ((o + z) % 16) (Nat.mod_lt _ (by decide))
      simp only [mg_mg_l] at i2
      simp only [mg_mg_r] at i3
      refine ⟨a', b', 0, i1, ?_, ?_⟩
      · intro t K h
        unfold w_Gr_sendCommand
        refine fm_some (m := k) h2 z1 h4 z3 z2 ?_
        simp [mg_at, mg_up, w_Un_unmark, w_Un_numberOf, w_Un_commandOf, q2, q4, q5, q8, nar0, jup_at]
        exact i2 t K h
      · intro t K h
        refine tk_some (m := k) h2 z1 h5 z3' ?_
        rw [w_M_tick_L99]
        simp [mg_at, mg_up, h5, q1, q4, q5, y1, e3, h3, q6, q9, nar0, jup_at]
        exact i3 t K h
  rcases g2 with m0 | m0 | m0 | m0 | m0 | m0
  · exact ⟨σ, σ, -1, hself, fun t K h => by simp [wB, w_Gr_isSending, mg_at, m0]; exact h, fun t K h => by simp [mB, mg_at, e1, m0]; exact h⟩
  · obtain ⟨a, b, r, i1, i2, i3⟩ := hsend (Or.inl m0)
    exact ⟨a, b, r, i1, fun t K h => by simp [wB, w_Gr_isSending, mg_at, m0]; exact i2 t K h, fun t K h => by simp [mB, mg_at, e1, m0]; exact i3 t K h⟩
  · obtain ⟨a, b, r, i1, i2, i3⟩ := hsend (Or.inr m0)
    exact ⟨a, b, r, i1, fun t K h => by simp [wB, w_Gr_isSending, mg_at, m0]; exact i2 t K h, fun t K h => by simp [mB, mg_at, e1, m0]; exact i3 t K h⟩
  · exact ⟨σ, σ, -1, hself, fun t K h => by simp [wB, w_Gr_isSending, mg_at, m0]; exact h, fun t K h => by simp [mB, mg_at, e1, m0]; exact h⟩
  · exact ⟨σ, σ, -1, hself, fun t K h => by simp [wB, w_Gr_isSending, mg_at, m0]; exact h, fun t K h => by simp [mB, mg_at, e1, m0]; exact h⟩
  · obtain ⟨p1, p2, p3⟩ := g6 m0
    by_cases hd : σ 9 13 = 0
    · exact ⟨σ, σ, -1, hself, fun t K h => by simp [wB, w_Gr_isSending, mg_at, m0, hd]; exact h, fun t K h => by simp [mB, mg_at, e1, m0, p1, hd]; exact h⟩
    · have n0 : ¬ σ 9 1 = 0 := by rw [m0]; decide
      have hI1 : Inv (mg (jup σ 9 13 0) (jup σ 33 12 0)) := ⟨⟨⟨e1, e2, e3, e4, e5, e6, e7, e8, e9, e10, e11⟩, hG.2.1, g3, g4, g5, fun _ => ⟨rfl, p2, p3⟩, g7⟩, hU, hR, hC, hS0, hS1, hA0, hA1, hP⟩
      rcases p3 with p4 | p4
      · obtain ⟨a', b', i1, i2, i3⟩ := snd _ hI1 n0 1 0 (Or.inr (Or.inl rfl)) 0 (by decide)
        simp only [mg_mg_l] at i2
        simp only [mg_mg_r] at i3
        exact ⟨a', b', 1, i1, fun t K h => by simp [wB, w_Gr_sendStart, mg_at, mg_up, m0, hd, p4]; exact i2 t K h, fun t K h => by simp [mB, mg_at, mg_up, e1, m0, p1, p2, p4, hd]; exact i3 t K h⟩
      · obtain ⟨a', b', i1, i2, i3⟩ := snd _ hI1 n0 2 0 (Or.inr (Or.inr rfl)) ((o + k) % 16) hX
        simp only [mg_mg_l] at i2
        simp only [mg_mg_r] at i3
        exact ⟨a', b', 2, i1, fun t K h => by simp [wB, w_Gr_sendStart, mg_at, mg_up, m0, hd, p4, h6]; exact i2 t K h, fun t K h => by simp [mB, mg_at, mg_up, e1, e2, m0, p1, p2, p4, hd, h6]; exact i3 t K h⟩
theorem q_5 (a1 a2 a3 : Int32) (σ : Jst) (K : Jst → Prop) (hI : Inv σ) (hK : ∀ u, Inv u → K u) : wc_5 a1 a2 a3 σ K := by
  obtain ⟨a, b, i1, i2, i3⟩ := tickA σ hI
  obtain ⟨a', b', r, j1, j2, j3⟩ := tickB _ i1
  simp only [mg_mg_l] at j2
  simp only [mg_mg_r] at j3
  unfold wc_5 w_T_tick
  have key : ∀ Q : Int32 → Int32 → Jst → Prop, w_M_tick (mg a' σ) (Q r) → w_Gr_pass (mg σ σ) (fun r2 u1 => w_M_tick u1 (Q r2)) := fun Q h => i2 σ _ (j2 σ _ h)
  rw [mg_self] at key
  refine key (fun r28 r30 u29 => (r28 = r30 → K u29) ∧ (¬ r28 = r30 → False)) ?_
  refine i3 a' _ (j3 a' _ ?_)
  exact ⟨fun _ => hK _ j1, fun h => h rfl⟩
