/-! the law's cases that keep to scalars -/
theorem q_0 (a1 a2 a3 : Int32) (σ : Jst) (K : Jst → Prop) (hI : Inv σ) (hK : ∀ u, Inv u → K u) : wc_0 a1 a2 a3 σ K := by
  obtain ⟨hG, hU, hR, hC, hS0, hS1, hA0, hA1, hP⟩ := id hI
  have hm : σ 33 1 = σ 9 1 := hG.1.1
  by_cases h0 : σ 9 1 = 0
  · by_cases p1 : a1 < 1 ∨ 4 < a1
    · simp [wc_0, w_L_tune, w_T_tune, w_M_tune, idle_eq, within_eq, outside_eq, fails_eq, thrown_eq, w_Gr_adjust, h0, hm, p1, jup_at]
      exact hK _ (inv_thr hI)
    · by_cases p2 : a2 < 1 ∨ 9 < a2
      · simp [wc_0, w_L_tune, w_T_tune, w_M_tune, idle_eq, within_eq, outside_eq, fails_eq, thrown_eq, w_Gr_adjust, h0, hm, p1, p2, jup_at]
        exact hK _ (inv_thr hI)
      · by_cases p3 : a3 < 1 ∨ 20 < a3
        · simp [wc_0, w_L_tune, w_T_tune, w_M_tune, idle_eq, within_eq, outside_eq, fails_eq, thrown_eq, w_Gr_adjust, h0, hm, p1, p2, p3, jup_at]
          exact hK _ (inv_thr hI)
        · simp [wc_0, w_L_tune, w_T_tune, w_M_tune, idle_eq, within_eq, outside_eq, fails_eq, thrown_eq, w_Gr_adjust, h0, hm, p1, p2, p3, jup_at]
          obtain ⟨⟨e1, e2, e3, e4, e5, e6, e7, e8, e9, e10, e11⟩, g2, g3, g4, g5, g6, g7⟩ := hG
          exact hK _ ⟨⟨⟨e1, e2, e3, e4, e5, e6, rfl, rfl, rfl, e10, e11⟩, g2, g3, rng (l := 1) (n := 4) rfl rfl (by decide) (by decide) p1, g5, g6, g7⟩, hU, hR, hC, hS0, hS1, hA0, hA1, hP⟩
  · by_cases p1 : a1 < 1 ∨ 4 < a1 <;> by_cases p2 : a2 < 1 ∨ 9 < a2 <;> by_cases p3 : a3 < 1 ∨ 20 < a3 <;> simp [wc_0, w_L_tune, w_T_tune, w_M_tune, idle_eq, within_eq, outside_eq, fails_eq, thrown_eq, w_Gr_adjust, h0, hm, p1, p2, p3, jup_at]
    all_goals exact hK _ (inv_thr hI)
theorem pd0 {nx od sz op : Int32} {nu cm mk cm' mk' : Nat → Int32} (h : iPd nx od sz op nu cm mk cm' mk') (hz : sz = 0) {x : Int32} {w : Nat} (hw : w < 16) (hx : x = nI w) : iPd x x sz op nu cm mk cm' mk' := by
  obtain ⟨o, k, h1, h2, h3, h4, h5, h6, h7⟩ := h
  have hk : k = 0 := nI_z (by omega) (h4.symm.trans hz)
  subst hk
  exact ⟨w, 0, hw, by omega, hx, h4, h5, by rw [hx, Nat.add_zero, Nat.mod_eq_of_lt hw], fun j hj => absurd hj (Nat.not_lt_zero j)⟩
theorem q_1 (a1 a2 a3 : Int32) (σ : Jst) (K : Jst → Prop) (hI : Inv σ) (hK : ∀ u, Inv u → K u) : wc_1 a1 a2 a3 σ K := by
  obtain ⟨hG, hU, hR, hC, hS0, hS1, hA0, hA1, hP⟩ := id hI
  have hm : σ 33 1 = σ 9 1 := hG.1.1
  by_cases h0 : σ 9 1 = 0
  · by_cases p1 : a1 < 0 ∨ 15 < a1
    · simp [wc_1, w_L_number, w_T_number, w_M_number, idle_eq, within_eq, outside_eq, fails_eq, thrown_eq, w_Gr_renumber, h0, hm, p1, jup_at]
      exact hK _ (inv_thr hI)
    · simp [wc_1, w_L_number, w_T_number, w_M_number, idle_eq, within_eq, outside_eq, fails_eq, thrown_eq, w_Gr_renumber, h0, hm, p1, jup_at]
      obtain ⟨⟨e1, e2, e3, e4, e5, e6, e7, e8, e9, e10, e11⟩, g2, g3, g4, g5, g6, g7⟩ := hG
      obtain ⟨w, w1, w2, w3⟩ := rng (l := 0) (n := 15) rfl rfl (by decide) (by decide) p1
      exact hK _ ⟨⟨⟨e1, rfl, rfl, e4, e5, e6, e7, e8, e9, e10, e11⟩, g2, g3, g4, g5, g6, pd0 g7 (g5 h0).2 (by omega) w3⟩, hU, hR, hC, hS0, hS1, hA0, hA1, hP⟩
  · by_cases p1 : a1 < 0 ∨ 15 < a1 <;> simp [wc_1, w_L_number, w_T_number, w_M_number, idle_eq, within_eq, outside_eq, fails_eq, thrown_eq, w_Gr_renumber, h0, hm, p1, jup_at]
    all_goals exact hK _ (inv_thr hI)
theorem q_2 (a1 a2 a3 : Int32) (σ : Jst) (K : Jst → Prop) (hI : Inv σ) (hK : ∀ u, Inv u → K u) : wc_2 a1 a2 a3 σ K := by
  obtain ⟨hG, hU, hR, hC, hS0, hS1, hA0, hA1, hP⟩ := id hI
  have hm : σ 33 1 = σ 9 1 := hG.1.1
  by_cases h0 : σ 9 1 = 0
  · by_cases p1 : a1 < 0 ∨ 3 < a1
    · simp [wc_2, w_L_begin, w_T_begin, w_M_begin, idle_eq, within_eq, outside_eq, fails_eq, thrown_eq, w_Gr_start, h0, hm, p1, jup_at]
      exact hK _ (inv_thr hI)
    · obtain ⟨⟨e1, e2, e3, e4, e5, e6, e7, e8, e9, e10, e11⟩, g2, g3, g4, g5, g6, g7⟩ := hG
      obtain ⟨w, w1, w2, w3⟩ := rng (l := 0) (n := 3) rfl rfl (by decide) (by decide) p1
      have hw : a1 = 0 ∨ a1 = 1 ∨ a1 = 2 ∨ a1 = 3 := by
        have : w = 0 ∨ w = 1 ∨ w = 2 ∨ w = 3 := by omega
        rcases this with rfl | rfl | rfl | rfl
        · exact Or.inl w3
        · exact Or.inr (Or.inl w3)
        · exact Or.inr (Or.inr (Or.inl w3))
        · exact Or.inr (Or.inr (Or.inr w3))
      rcases hw with rfl | rfl | rfl | rfl
      · simp [wc_2, w_L_begin, w_T_begin, w_M_begin, idle_eq, within_eq, outside_eq, fails_eq, thrown_eq, w_Gr_start, h0, hm, jup_at]
        trace_state
        sorry
      · simp [wc_2, w_L_begin, w_T_begin, w_M_begin, idle_eq, within_eq, outside_eq, fails_eq, thrown_eq, w_Gr_start, h0, hm, jup_at]
        trace_state
        sorry
      · simp [wc_2, w_L_begin, w_T_begin, w_M_begin, idle_eq, within_eq, outside_eq, fails_eq, thrown_eq, w_Gr_start, h0, hm, jup_at]
        trace_state
        sorry
      · simp [wc_2, w_L_begin, w_T_begin, w_M_begin, idle_eq, within_eq, outside_eq, fails_eq, thrown_eq, w_Gr_start, h0, hm, jup_at]
        trace_state
        sorry
  · by_cases p1 : a1 < 0 ∨ 3 < a1 <;> simp [wc_2, w_L_begin, w_T_begin, w_M_begin, idle_eq, within_eq, outside_eq, fails_eq, thrown_eq, w_Gr_start, h0, hm, p1, jup_at]
    all_goals exact hK _ (inv_thr hI)
theorem q_3 (a1 a2 a3 : Int32) (σ : Jst) (K : Jst → Prop) (hI : Inv σ) (hK : ∀ u, Inv u → K u) : wc_3 a1 a2 a3 σ K := by
  obtain ⟨hG, hU, hR, hC, hS0, hS1, hA0, hA1, hP⟩ := id hI
  have hm : σ 33 1 = σ 9 1 := hG.1.1
  by_cases h0 : σ 9 1 = 0
  · simp [wc_3, w_L_end, w_T_end, w_M_end, idle_eq, fails_eq, thrown_eq, w_Gr_finish, w_Un_clear, w_M_ends, h0, hm, jup_at]
    exact hK _ (inv_thr hI)
  · simp [wc_3, w_L_end, w_T_end, w_M_end, idle_eq, fails_eq, thrown_eq, w_Gr_finish, w_Un_clear, w_M_ends, h0, hm, jup_at]
    trace_state
    sorry
theorem q_4 (a1 a2 a3 : Int32) (σ : Jst) (K : Jst → Prop) (hI : Inv σ) (hK : ∀ u, Inv u → K u) : wc_4 a1 a2 a3 σ K := by
  obtain ⟨hG, hU, hR, hC, hS0, hS1, hA0, hA1, hP⟩ := id hI
  obtain ⟨⟨e1, e2, e3, e4, e5, e6, e7, e8, e9, e10, e11⟩, g2, g3, g4, g5, g6, g7⟩ := id hG
  rcases g2 with h0 | h0 | h0 | h0 | h0 | h0 <;> rcases g3 with f0 | f0 <;> simp [wc_4, w_L_command, w_T_command, w_M_command, w_Gr_takesCommands, w_Gr_isSending, w_Gr_offer, outside_eq, fails_eq, thrown_eq, h0, f0, e1, e10, jup_at, lg_self]
  all_goals trace_state
  all_goals sorry
