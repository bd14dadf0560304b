/-! taking out, dropping, reporting -/
theorem js_at (σ : Jst) (h a b : Nat) (f : Nat → Int32) : jset σ h f a b = if a = h then f b else σ a b := by
  unfold jset
  by_cases h1 : a = h
  · subst h1; simp
  · simp [beq_ff h1, h1]
theorem outside_no {a lo hi : Int32} {σ : Jst} {K : Int32 → Jst → Prop} (h : ¬ (a < lo ∨ hi < a)) (hk : K 0 σ) : w_M_outside a lo hi σ K := by
  rw [outside_eq, if_neg h]; exact hk
theorem outside_yes {a lo hi : Int32} {σ : Jst} {K : Int32 → Jst → Prop} (h : a < lo ∨ hi < a) (hk : K 1 σ) : w_M_outside a lo hi σ K := by
  rw [outside_eq, if_pos h]; exact hk
theorem fails_no {σ : Jst} {K : Int32 → Jst → Prop} (hk : K 0 (jup σ 33 0 0)) : w_M_fails 0 0 σ K := by
  rw [fails_eq, if_pos rfl, if_pos rfl]; exact hk
theorem uf_remove_eq {σ : Jst} {K : Jst → Prop} {a m : Nat} (ha : a < m) (hm : m ≤ 20) (hs : σ 1 3 = nI m) (hk : K (jup (jset (jset (jset (σ) 2 (shk (σ 2) a 1 (m))) 3 (shk (σ 3) a 1 (m))) 4 (shk (σ 4) a 1 (m))) 1 3 (nI (m - 1)))) : w_Uf_remove (nI a) σ K := by
  have last : w_Uf_remove_L4 K 1 (nI a) (nI m) (jset (jset (jset (σ) 2 (shk (σ 2) a 1 (m))) 3 (shk (σ 3) a 1 (m))) 4 (shk (σ 4) a 1 (m))) := by
    rw [w_Uf_remove_L4]
    refine ⟨fun _ => ?_, fun h => absurd ?_ h⟩
    · show K (jup _ 1 3 (σ 1 3 - 1))
      rw [hs, show nI m - 1 = nI (m - 1) from pk_sub (b := 1) (by omega)]
      exact hk
    · show σ 1 3 ≤ _
      rw [hs]
      exact Int32.le_refl _
  have key := uf_rm_L K σ a m (nI a) hm hs last (m - (a + 1)) (a + 1) (by omega) (by omega)
  rw [shk_0, shk_0, shk_0, js_self, js_self, js_self] at key
  exact ⟨_, by rw [nI_1]; exact key⟩
theorem rp_remove_eq {σ : Jst} {K : Jst → Prop} {a m : Nat} (ha : a < m) (hm : m ≤ 20) (hs : σ 5 3 = nI m) (hb7 : ∀ j, j < m → σ 7 j = 0 ∨ σ 7 j = 1) (hk : K (jup (jset (jset (jset (σ) 6 (shk (σ 6) a 1 (m))) 7 (shk (σ 7) a 1 (m))) 8 (shk (σ 8) a 1 (m))) 5 3 (nI (m - 1)))) : w_Rp_remove (nI a) σ K := by
  have last : w_Rp_remove_L4 K 1 (nI a) (nI m) (jset (jset (jset (σ) 6 (shk (σ 6) a 1 (m))) 7 (shk (σ 7) a 1 (m))) 8 (shk (σ 8) a 1 (m))) := by
    rw [w_Rp_remove_L4]
    refine ⟨fun _ => ?_, fun h => absurd ?_ h⟩
    · show K (jup _ 5 3 (σ 5 3 - 1))
      rw [hs, show nI m - 1 = nI (m - 1) from pk_sub (b := 1) (by omega)]
      exact hk
    · show σ 5 3 ≤ _
      rw [hs]
      exact Int32.le_refl _
  have key := rp_rm_L K σ a m (nI a) hm hs hb7 last (m - (a + 1)) (a + 1) (by omega) (by omega)
  rw [shk_0, shk_0, shk_0, js_self, js_self, js_self] at key
  exact ⟨_, by rw [nI_1]; exact key⟩
theorem m_out_eq {σ : Jst} {K : Jst → Prop} {a m : Nat} (ha : a < m) (hm : m ≤ 20) (hs : σ 33 17 = nI m) (hk : K (jup (jset (jset (jset (σ) 36 (shk (σ 36) a 1 (m))) 37 (shk (σ 37) a 1 (m))) 38 (shk (σ 38) a 1 (m))) 33 17 (nI (m - 1)))) : w_M_out (nI a) σ K := by
  have last : w_M_out_L2 K 1 (nI a) (nI (m - 1)) (jset (jset (jset (σ) 36 (shk (σ 36) a 1 (m))) 37 (shk (σ 37) a 1 (m))) 38 (shk (σ 38) a 1 (m))) := by
    rw [w_M_out_L2]
    refine ⟨fun _ => ?_, fun h => absurd ?_ h⟩
    · show K (jup _ 33 17 (σ 33 17 - 1))
      rw [hs, show nI m - 1 = nI (m - 1) from pk_sub (b := 1) (by omega)]
      exact hk
    · show σ 33 17 ≤ _
      rw [hs, show nI (m - 1) + 1 = nI m from by rw [nI_1]; congr 1; omega]
      exact Int32.le_refl _
  have key := m_out_L K σ a m (nI a) hm hs last (m - (a + 1)) (a + 1) (by omega) (by omega)
  rw [Nat.add_sub_cancel, shk_0, shk_0, shk_0, js_self, js_self, js_self] at key
  exact ⟨_, key⟩
theorem un_rm_eq {σ : Jst} {K : Jst → Prop} {k m : Nat} (ha : k ≤ m) (hm : m ≤ 4) (hs : σ 10 3 = nI m) (hb13 : ∀ j, j < m → σ 13 j = 0 ∨ σ 13 j = 1) (hk : K (jup (jset (jset (jset (σ) 11 (shk (σ 11) 0 k (m))) 12 (shk (σ 12) 0 k (m))) 13 (shk (σ 13) 0 k (m))) 10 3 (nI (m - k)))) : w_Un_removeFirst (nI k) σ K := by
  have last : w_Un_removeFirst_L2 K 1 (nI k) (nI m) (jset (jset (jset (σ) 11 (shk (σ 11) 0 k (m))) 12 (shk (σ 12) 0 k (m))) 13 (shk (σ 13) 0 k (m))) := by
    rw [w_Un_removeFirst_L2]
    refine ⟨fun _ => ?_, fun h => absurd ?_ h⟩
    · show K (jup _ 10 3 (σ 10 3 - nI k))
      rw [hs, show nI m - nI k = nI (m - k) from pk_sub (b := k) (by omega)]
      exact hk
    · show σ 10 3 ≤ _
      rw [hs]
      exact Int32.le_refl _
  have key := un_rm_L K σ k m hm hs hb13 last (m - k) (0 + k) (by omega) (by omega)
  rw [shk_0, shk_0, shk_0, js_self, js_self, js_self] at key
  exact ⟨_, by rw [Nat.zero_add] at key; exact key⟩
theorem iUp_rm {k n c k' n' c' : Nat → Int32} {a m : Nat} (u : ∀ j, j < m → k' j = k j ∧ n' j = n j ∧ c' j = c j ∧ (k j = 0 ∨ k j = 1 ∨ k j = 2) ∧ ∃ x : Nat, x < 16 ∧ n j = nI x) (hm : m ≤ 20) (ha : a < m) : iUp (nI (m - 1)) (nI (m - 1)) (shk k a 1 m) (shk n a 1 m) (shk c a 1 m) (shk k' a 1 m) (shk n' a 1 m) (shk c' a 1 m) := by
  refine ⟨m - 1, by omega, rfl, rfl, fun j hj => ?_⟩
  unfold shk
  by_cases c : a ≤ j ∧ j + 1 < m
  · simp only [if_pos c]; exact u (j + 1) (by omega)
  · simp only [if_neg c]; exact u j (by omega)
theorem q_7 (a1 a2 a3 : Int32) (σ : Jst) (K : Jst → Prop) (hI : Inv σ) (hK : ∀ u, Inv u → K u) : wc_7 a1 a2 a3 σ K := by
  obtain ⟨hG, hU, hR, hC, hS0, hS1, hA0, hA1, hP⟩ := id hI
  obtain ⟨m, u1, u2, u3, u4⟩ := id hU
  have d17 : σ 33 17 = σ 1 3 := u3.trans u2.symm
  by_cases p : a1 < 0 ∨ σ 1 3 ≤ a1
  · simp [wc_7, w_L_drop, w_T_drop, w_M_drop, has_uf, outside_eq, fails_eq, thrown_eq, p, d17, (sub_lt (a := a1) (by omega) u2).mpr p, jup_at]
    exact hK _ (inv_thr hI)
  · have p' : ¬ (a1 < 0 ∨ σ 33 17 - 1 < a1) := by rw [d17]; exact (not_congr (sub_lt (a := a1) (by omega) u2)).mpr p
    obtain ⟨j, hj, rfl⟩ := ix_of (by omega) u2 p
    unfold wc_7 w_L_drop w_T_drop
    rw [has_uf, if_neg p]
    refine ⟨fun _ => ?_, fun h => absurd h (by decide)⟩
    refine uf_remove_eq hj u1 u2 ⟨rfl, ?_⟩
    unfold w_M_drop
    refine outside_no p' ?_
    refine fails_no ?_
    refine ⟨fun h => absurd rfl h, fun _ => ?_⟩
    refine m_out_eq hj u1 u3 ?_
    refine ⟨fun _ => hK _ ?_, fun h => h rfl⟩
    exact ⟨hG, iUp_rm u4 u1 hj, hR, hC, hS0, hS1, hA0, hA1, hP⟩
theorem q_8 (a1 a2 a3 : Int32) (σ : Jst) (K : Jst → Prop) (hI : Inv σ) (hK : ∀ u, Inv u → K u) : wc_8 a1 a2 a3 σ K := by
  obtain ⟨hG, hU, hR, hC, hS0, hS1, hA0, hA1, hP⟩ := id hI
  obtain ⟨c1, c2, c3, c4, c5, c6, m, c7, c8, c9, c10⟩ := id hC
  have d24 : σ 33 24 = σ 14 1 := c9.trans c8.symm
  have hm : m = 0 ∨ m = 1 ∨ m = 2 ∨ m = 3 := by omega
  rcases hm with rfl | rfl | rfl | rfl
  · have z : σ 14 1 = 0 := c8
    simp [wc_8, w_L_take, w_T_take, w_Cr_queued, w_M_take, fails_eq, thrown_eq, z, d24, jup_at]
    exact hK _ (inv_thr hI)
  · have z : σ 14 1 = 1 := c8
    have y : (1 : Int32) - 1 = 0 := by decide
    have q0 := c10 0 (by decide)
    unfold wc_8 w_L_take w_T_take w_Cr_queued
    refine ⟨fun _ => ?_, fun h => absurd (z.symm.trans h) (by decide)⟩
    refine ⟨2, ?_⟩
    rcases c4 with f0 | f0 | f0 <;> simp [w_Cr_takeFirst_L9, w_M_take, fails_eq, thrown_eq, z, d24, c1, f0, jup_at, lg_self, vp_in, y, q0]
    all_goals refine hK _ ⟨hG, hU, hR, ⟨by first | exact f0.symm | rfl, c2, c3, by first | exact Or.inl rfl | exact Or.inr (Or.inr rfl) | exact hC.2.2.2.1, c5, c6, 0, by decide, by first | rfl | exact y, by first | rfl | exact y, fun j hj => ?_⟩, hS0, hS1, hA0, hA1, hP⟩
    all_goals exact absurd hj (Nat.not_lt_zero j)
  · have z : σ 14 1 = 2 := c8
    have y : (2 : Int32) - 1 = 1 := by decide
    have q0 := c10 0 (by decide)
    have q1 := c10 1 (by decide)
    unfold wc_8 w_L_take w_T_take w_Cr_queued
    refine ⟨fun _ => ?_, fun h => absurd (z.symm.trans h) (by decide)⟩
    refine ⟨3, ?_⟩
    rcases c4 with f0 | f0 | f0 <;> simp [w_Cr_takeFirst_L9, w_M_take, fails_eq, thrown_eq, z, d24, c1, f0, jup_at, lg_self, vp_in, y, q0, q1]
    all_goals refine hK _ ⟨hG, hU, hR, ⟨by first | exact f0.symm | rfl, c2, c3, by first | exact Or.inl rfl | exact Or.inr (Or.inr rfl) | exact hC.2.2.2.1, c5, c6, 1, by decide, by first | rfl | exact y, by first | rfl | exact y, fun j hj => ?_⟩, hS0, hS1, hA0, hA1, hP⟩
    all_goals
      have e : j = 0 := by omega
      subst e
      simp [jup_h, upd, q0, q1]
  · have z : σ 14 1 = 3 := c8
    have y : (3 : Int32) - 1 = 2 := by decide
    have q0 := c10 0 (by decide)
    have q1 := c10 1 (by decide)
    have q2 := c10 2 (by decide)
    unfold wc_8 w_L_take w_T_take w_Cr_queued
    refine ⟨fun _ => ?_, fun h => absurd (z.symm.trans h) (by decide)⟩
    refine ⟨4, ?_⟩
    rcases c4 with f0 | f0 | f0 <;> simp [w_Cr_takeFirst_L9, w_M_take, fails_eq, thrown_eq, z, d24, c1, f0, jup_at, lg_self, vp_in, y, q0, q1, q2]
    all_goals refine hK _ ⟨hG, hU, hR, ⟨by first | exact f0.symm | rfl, c2, c3, by first | exact Or.inl rfl | exact Or.inr (Or.inr rfl) | exact hC.2.2.2.1, c5, c6, 2, by decide, by first | rfl | exact y, by first | rfl | exact y, fun j hj => ?_⟩, hS0, hS1, hA0, hA1, hP⟩
    all_goals
      have e : j = 0 ∨ j = 1 := by omega
      rcases e with rfl | rfl
      · simp [jup_h, upd, q0, q1, q2]
      · simp [jup_h, upd, q0, q1, q2]
theorem q_9 (a1 a2 a3 : Int32) (σ : Jst) (K : Jst → Prop) (hI : Inv σ) (hK : ∀ u, Inv u → K u) : wc_9 a1 a2 a3 σ K := by
  obtain ⟨hG, hU, hR, hC, hS0, hS1, hA0, hA1, hP⟩ := id hI
  obtain ⟨c1, c2, c3, c4, c5, ⟨x, x1, x2⟩, c7⟩ := id hC
  obtain ⟨m, r1, r2, r3, r4⟩ := id hR
  have d26 : σ 33 26 = σ 5 3 := r3.trans r2.symm
  by_cases hm : m = 20
  · subst hm
    have z : σ 5 3 = 20 := r2
    simp [wc_9, w_T_report, w_Rp_add, w_M_report, z, d26]
    exact ⟨by first | rfl | decide, hK _ (inv_thr hI)⟩
  · have n1 : σ 5 3 < 20 := by rw [r2]; exact (nI_ltI (b := 20) (by omega) (by decide)).mpr (by omega)
    have n2 : ¬ σ 5 3 = 20 := by rw [r2]; exact fun h => hm ((nI_eq (b := 20) (by omega) (by decide)).mp h)
    have hin : vp_in (σ 5 3) 20 := by rw [r2]; exact vp_in_nI (by omega) (by omega)
    have hc : (σ 5 3).toNatClampNeg = m := by rw [r2]; exact nI_clamp (by omega)
    have hs : σ 5 3 + 1 = nI (m + 1) := by rw [r2]; exact nI_1 m
    have hp : ∀ y : Nat, nI x + nI y = nI (x + y) := fun y => nI_add x y
    have p16 : nI x + 16 = nI (x + 16) := nI_add x 16
    have p32 : nI x + 32 = nI (x + 32) := nI_add x 32
    have p64 : nI x + 64 = nI (x + 64) := nI_add x 64
    have p48 : nI (x + 16) + 32 = nI (x + 16 + 32) := nI_add _ 32
    have p80 : nI (x + 16) + 64 = nI (x + 16 + 64) := nI_add _ 64
    have nb0 : narrow .boolean (.int 1) = .int 1 := by first | rfl | decide
    rcases c4 with f0 | f0 | f0 <;> rcases c5 with b0 | b0 <;> simp [wc_9, w_T_report, w_Rp_add, w_M_report, n1, n2, hin, hc, d26, c1, c2, c3, f0, b0, x2, p16, p32, p64, p48, p80, nb0, jup_at, hs]
    all_goals
      refine hK _ ⟨hG, hU, ?_, hC, hS0, hS1, hA0, hA1, hP⟩
      refine ⟨m + 1, by omega, rfl, rfl, fun j hj => ?_⟩
      by_cases e : j = m
      · subst e
        simp [jup_h, upd, nar01]
        exact ⟨x, x1, rfl, by simp [pack]⟩
      · simp [jup_h, upd, e]
        exact r4 j (by omega)
