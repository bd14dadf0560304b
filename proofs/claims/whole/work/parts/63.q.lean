/-! the law's cases that keep to scalars -/
theorem q_0 (a1 a2 a3 : Int32) (σ : Jst) (K : Jst → Prop) (hI : Inv σ) (hK : ∀ u, Inv u → K u) : wc_0 a1 a2 a3 σ K := by
  obtain ⟨hG, hU, hR, hC, hS0, hS1, hA0, hA1, hP⟩ := id hI
  have hm : σ 33 1 = σ 9 1 := hG.1.1
  by_cases h0 : σ 9 1 = 0
  · by_cases p1 : a1 < 1 ∨ 4 < a1
    · simp [wc_0, w_L_tune, w_T_tune, w_M_tune, idle_eq, within_eq, outside_eq, fails_eq, thrown_eq, w_Gr_adjust, h0, hm, p1, jup_at]
      exact hK _ (inv_thr hI)
    · by_cases p2 : a2 < 1 ∨ 9 < a2
      · simp [wc_0, w_L_tune, w_T_tune, w_M_tune, idle_eq, within_eq, outside_eq, fails_eq, thrown_eq, w_Gr_adjust, h0, hm, p1, p2, jup_at]
        exact hK _ (inv_thr hI)
      · by_cases p3 : a3 < 1 ∨ 20 < a3
        · simp [wc_0, w_L_tune, w_T_tune, w_M_tune, idle_eq, within_eq, outside_eq, fails_eq, thrown_eq, w_Gr_adjust, h0, hm, p1, p2, p3, jup_at]
          exact hK _ (inv_thr hI)
        · simp [wc_0, w_L_tune, w_T_tune, w_M_tune, idle_eq, within_eq, outside_eq, fails_eq, thrown_eq, w_Gr_adjust, h0, hm, p1, p2, p3, jup_at]
          obtain ⟨⟨e1, e2, e3, e4, e5, e6, e7, e8, e9, e10, e11⟩, g2, g3, g4, g5, g6, g7⟩ := hG
          exact hK _ ⟨⟨⟨e1, e2, e3, e4, e5, e6, rfl, rfl, rfl, e10, e11⟩, g2, g3, rng (l := 1) (n := 4) rfl rfl (by decide) (by decide) p1, g5, g6, g7⟩, hU, hR, hC, hS0, hS1, hA0, hA1, hP⟩
  · by_cases p1 : a1 < 1 ∨ 4 < a1 <;> by_cases p2 : a2 < 1 ∨ 9 < a2 <;> by_cases p3 : a3 < 1 ∨ 20 < a3 <;> simp [wc_0, w_L_tune, w_T_tune, w_M_tune, idle_eq, within_eq, outside_eq, fails_eq, thrown_eq, w_Gr_adjust, h0, hm, p1, p2, p3, jup_at]
    all_goals exact hK _ (inv_thr hI)
theorem pd0 {nx od sz op : Int32} {nu cm mk cm' mk' : Nat → Int32} (h : iPd nx od sz op nu cm mk cm' mk') (hz : sz = 0) {x : Int32} {w : Nat} (hw : w < 16) (hx : x = nI w) : iPd x x sz op nu cm mk cm' mk' := by
  obtain ⟨o, k, h1, h2, h3, h4, h5, h6, h7⟩ := h
  have hk : k = 0 := nI_z (by omega) (h4.symm.trans hz)
  subst hk
  exact ⟨w, 0, hw, by omega, hx, h4, h5, by rw [hx, Nat.add_zero, Nat.mod_eq_of_lt hw], fun j hj => absurd hj (Nat.not_lt_zero j)⟩
theorem pd1 {nx od sz op : Int32} {nu cm mk cm' mk' nu1 cm1 mk1 cm1' mk1' : Nat → Int32} (h : iPd nx od sz op nu cm mk cm' mk') : iPd nx nx 0 0 nu1 cm1 mk1 cm1' mk1' := by
  obtain ⟨o, k, h1, h2, h3, h4, h5, h6, h7⟩ := h
  exact ⟨(o + k) % 16, 0, Nat.mod_lt _ (by decide), by omega, h6, rfl, rfl, by rw [Nat.add_zero, Nat.mod_mod]; exact h6, fun j hj => absurd hj (Nat.not_lt_zero j)⟩
theorem q_1 (a1 a2 a3 : Int32) (σ : Jst) (K : Jst → Prop) (hI : Inv σ) (hK : ∀ u, Inv u → K u) : wc_1 a1 a2 a3 σ K := by
  obtain ⟨hG, hU, hR, hC, hS0, hS1, hA0, hA1, hP⟩ := id hI
  have hm : σ 33 1 = σ 9 1 := hG.1.1
  by_cases h0 : σ 9 1 = 0
  · by_cases p1 : a1 < 0 ∨ 15 < a1
    · simp [wc_1, w_L_number, w_T_number, w_M_number, idle_eq, within_eq, outside_eq, fails_eq, thrown_eq, w_Gr_renumber, h0, hm, p1, jup_at]
      exact hK _ (inv_thr hI)
    · simp [wc_1, w_L_number, w_T_number, w_M_number, idle_eq, within_eq, outside_eq, fails_eq, thrown_eq, w_Gr_renumber, h0, hm, p1, jup_at]
      obtain ⟨⟨e1, e2, e3, e4, e5, e6, e7, e8, e9, e10, e11⟩, g2, g3, g4, g5, g6, g7⟩ := hG
      obtain ⟨w, w1, w2, w3⟩ := rng (l := 0) (n := 15) rfl rfl (by decide) (by decide) p1
      exact hK _ ⟨⟨⟨e1, rfl, rfl, e4, e5, e6, e7, e8, e9, e10, e11⟩, g2, g3, g4, g5, g6, pd0 g7 (g5 h0).2 (by omega) w3⟩, hU, hR, hC, hS0, hS1, hA0, hA1, hP⟩
  · by_cases p1 : a1 < 0 ∨ 15 < a1 <;> simp [wc_1, w_L_number, w_T_number, w_M_number, idle_eq, within_eq, outside_eq, fails_eq, thrown_eq, w_Gr_renumber, h0, hm, p1, jup_at]
    all_goals exact hK _ (inv_thr hI)
theorem q_2 (a1 a2 a3 : Int32) (σ : Jst) (K : Jst → Prop) (hI : Inv σ) (hK : ∀ u, Inv u → K u) : wc_2 a1 a2 a3 σ K := by
  obtain ⟨hG, hU, hR, hC, hS0, hS1, hA0, hA1, hP⟩ := id hI
  have hm : σ 33 1 = σ 9 1 := hG.1.1
  by_cases h0 : σ 9 1 = 0
  · by_cases p1 : a1 < 0 ∨ 3 < a1
    · simp [wc_2, w_L_begin, w_T_begin, w_M_begin, idle_eq, within_eq, outside_eq, fails_eq, thrown_eq, w_Gr_start, h0, hm, p1, jup_at]
      exact hK _ (inv_thr hI)
    · obtain ⟨⟨e1, e2, e3, e4, e5, e6, e7, e8, e9, e10, e11⟩, g2, g3, g4, g5, g6, g7⟩ := hG
      obtain ⟨w, w1, w2, w3⟩ := rng (l := 0) (n := 3) rfl rfl (by decide) (by decide) p1
      have hw : a1 = 0 ∨ a1 = 1 ∨ a1 = 2 ∨ a1 = 3 := by
        have : w = 0 ∨ w = 1 ∨ w = 2 ∨ w = 3 := by omega
        rcases this with rfl | rfl | rfl | rfl
        · exact Or.inl w3
        · exact Or.inr (Or.inl w3)
        · exact Or.inr (Or.inr (Or.inl w3))
        · exact Or.inr (Or.inr (Or.inr w3))
      rcases hw with rfl | rfl | rfl | rfl
      · simp [wc_2, w_L_begin, w_T_begin, w_M_begin, idle_eq, within_eq, outside_eq, fails_eq, thrown_eq, w_Gr_start, h0, hm, jup_at]
        exact hK _ ⟨⟨⟨rfl, e2, e3, rfl, (g5 h0).1.symm, rfl, e7, e8, e9, e10, e11⟩, Or.inr (Or.inl rfl), g3, g4, fun h => absurd (show (1 : Int32) = 0 from h) (by decide), fun h => absurd (show (1 : Int32) = 5 from h) (by decide), g7⟩, hU, hR, hC, hS0, hS1, hA0, hA1, hP⟩
      · simp [wc_2, w_L_begin, w_T_begin, w_M_begin, idle_eq, within_eq, outside_eq, fails_eq, thrown_eq, w_Gr_start, h0, hm, jup_at]
        exact hK _ ⟨⟨⟨rfl, e2, e3, rfl, e9, rfl, e7, e8, e9, e10, e11⟩, Or.inr (Or.inr (Or.inr (Or.inr (Or.inl rfl)))), g3, g4, fun h => absurd (show (4 : Int32) = 0 from h) (by decide), fun h => absurd (show (4 : Int32) = 5 from h) (by decide), g7⟩, hU, hR, hC, hS0, hS1, hA0, hA1, hP⟩
      · simp [wc_2, w_L_begin, w_T_begin, w_M_begin, idle_eq, within_eq, outside_eq, fails_eq, thrown_eq, w_Gr_start, h0, hm, jup_at]
        exact hK _ ⟨⟨⟨rfl, e2, e3, rfl, (g5 h0).1.symm, rfl, e7, e8, e9, e10, e11⟩, Or.inr (Or.inr (Or.inr (Or.inr (Or.inr rfl)))), g3, g4, fun h => absurd (show (5 : Int32) = 0 from h) (by decide), fun _ => ⟨rfl, rfl, Or.inl rfl⟩, g7⟩, hU, hR, hC, hS0, hS1, hA0, hA1, hP⟩
      · simp [wc_2, w_L_begin, w_T_begin, w_M_begin, idle_eq, within_eq, outside_eq, fails_eq, thrown_eq, w_Gr_start, h0, hm, jup_at]
        exact hK _ ⟨⟨⟨rfl, e2, e3, rfl, (g5 h0).1.symm, rfl, e7, e8, e9, e10, e11⟩, Or.inr (Or.inr (Or.inr (Or.inr (Or.inr rfl)))), g3, g4, fun h => absurd (show (5 : Int32) = 0 from h) (by decide), fun _ => ⟨rfl, rfl, Or.inr rfl⟩, g7⟩, hU, hR, hC, hS0, hS1, hA0, hA1, hP⟩
  · by_cases p1 : a1 < 0 ∨ 3 < a1 <;> simp [wc_2, w_L_begin, w_T_begin, w_M_begin, idle_eq, within_eq, outside_eq, fails_eq, thrown_eq, w_Gr_start, h0, hm, p1, jup_at]
    all_goals exact hK _ (inv_thr hI)
theorem q_3 (a1 a2 a3 : Int32) (σ : Jst) (K : Jst → Prop) (hI : Inv σ) (hK : ∀ u, Inv u → K u) : wc_3 a1 a2 a3 σ K := by
  obtain ⟨hG, hU, hR, hC, hS0, hS1, hA0, hA1, hP⟩ := id hI
  have hm : σ 33 1 = σ 9 1 := hG.1.1
  by_cases h0 : σ 9 1 = 0
  · simp [wc_3, w_L_end, w_T_end, w_M_end, idle_eq, fails_eq, thrown_eq, w_Gr_finish, w_Un_clear, w_M_ends, h0, hm, jup_at]
    exact hK _ (inv_thr hI)
  · simp [wc_3, w_L_end, w_T_end, w_M_end, idle_eq, fails_eq, thrown_eq, w_Gr_finish, w_Un_clear, w_M_ends, h0, hm, jup_at]
    obtain ⟨⟨e1, e2, e3, e4, e5, e6, e7, e8, e9, e10, e11⟩, g2, g3, g4, g5, g6, g7⟩ := hG
    exact hK _ ⟨⟨⟨rfl, e2, e2, e4, rfl, e6, e7, e8, e9, rfl, e11⟩, Or.inl rfl, Or.inl rfl, g4, fun _ => ⟨rfl, rfl⟩, fun h => absurd (show (0 : Int32) = 5 from h) (by decide), pd1 g7⟩, hU, hR, hC, hS0, hS1, hA0, hA1, hP⟩
theorem q_4 (a1 a2 a3 : Int32) (σ : Jst) (K : Jst → Prop) (hI : Inv σ) (hK : ∀ u, Inv u → K u) : wc_4 a1 a2 a3 σ K := by
  obtain ⟨hG, hU, hR, hC, hS0, hS1, hA0, hA1, hP⟩ := id hI
  obtain ⟨⟨e1, e2, e3, e4, e5, e6, e7, e8, e9, e10, e11⟩, g2, g3, g4, g5, g6, g7⟩ := id hG
  rcases g2 with h0 | h0 | h0 | h0 | h0 | h0 <;> rcases g3 with f0 | f0 <;> simp [wc_4, w_L_command, w_T_command, w_M_command, w_Gr_takesCommands, w_Gr_isSending, w_Gr_offer, outside_eq, fails_eq, thrown_eq, h0, f0, e1, e10, jup_at, lg_self]
  all_goals first
    | exact hK _ (inv_thr hI)
    | exact ⟨by first | rfl | decide, hK _ (inv_thr (inv_out hI))⟩
    | exact ⟨by first | rfl | decide, hK _ ⟨⟨⟨e1, e2, e3, e4, e5, e6, e7, e8, e9, rfl, rfl⟩, hG.2.1, Or.inr rfl, g4, g5, g6, g7⟩, hU, hR, hC, hS0, hS1, hA0, hA1, hP⟩⟩
