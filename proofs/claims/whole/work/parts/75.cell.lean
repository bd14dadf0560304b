/-! a cell is read on the ground -/
theorem go_add {q : Nat} {ch tg ln su go : Nat → Int32} {a b d e : Int32} (hq : q < 40) (h : ∀ j, j < q → go (4 * j) = ch j ∧ go (4 * j + 1) = tg j ∧ go (4 * j + 2) = ln j ∧ go (4 * j + 3) = su j) : iGo (nI (q + 1)) (nI (q + 1)) (upd ch q a) (upd tg q b) (upd ln q d) (upd su q e) (upd (upd (upd (upd go (4 * q) a) (4 * q + 1) b) (4 * q + 2) d) (4 * q + 3) e) := by
  refine ⟨q + 1, by omega, rfl, rfl, fun j hj => ?_⟩
  unfold upd
  by_cases c : j = q
  · subst c
    refine ⟨?_, ?_, ?_, ?_⟩
    · rw [if_neg (by omega), if_neg (by omega), if_neg (by omega), if_pos rfl, if_pos rfl]
    · rw [if_neg (by omega), if_neg (by omega), if_pos rfl, if_pos rfl]
    · rw [if_neg (by omega), if_pos rfl, if_pos rfl]
    · rw [if_pos rfl, if_pos rfl]
  · simp only [if_neg c]
    obtain ⟨q1, q2, q3, q4⟩ := h j (by omega)
    refine ⟨?_, ?_, ?_, ?_⟩
    · rw [if_neg (by omega), if_neg (by omega), if_neg (by omega), if_neg (by omega)]; exact q1
    · rw [if_neg (by omega), if_neg (by omega), if_neg (by omega), if_neg (by omega)]; exact q2
    · rw [if_neg (by omega), if_neg (by omega), if_neg (by omega), if_neg (by omega)]; exact q3
    · rw [if_neg (by omega), if_neg (by omega), if_neg (by omega), if_neg (by omega)]; exact q4
theorem rd_0 {α : Jst} {x : Nat} (hx : x ≤ 1000) (hex : ∃ (β : Jst) (w : Int32), Inv (mg (jup α 21 1 w) β)) : ∃ a : Jst, a 27 = α 27 ∧ a 26 = α 26 ∧ (∀ (t : Jst) (K : Jst → Prop), K (mg a t) → w_As_read_21 (nI x) (mg α t) K) ∧ ∀ (β : Jst) (w : Int32), Inv (mg (jup α 21 1 w) β) → ∃ b : Jst, Inv (mg (jup a 21 1 w) b) ∧ b 33 0 = β 33 0 ∧ b 53 = β 53 ∧ b 51 = β 51 ∧ (∀ (t : Jst) (K : Jst → Prop), K (mg t b) → w_M_readCell 0 (nI x) (mg t β) K) := by
  obtain ⟨β0, w0, hI0⟩ := hex
  have hA0 : iAs (α 21 0) w0 (α 21 2) (α 21 3) (α 21 4) (α 21 5) (α 21 6) (β0 45 0) (β0 46 0) (β0 47 0) (β0 48 0) (β0 49 0) (β0 50 0) 0 := hI0.2.2.2.2.2.2.1
  have hP0 : iGo (α 28 4) (β0 33 39) (α 29) (α 30) (α 31) (α 32) (β0 52) := hI0.2.2.2.2.2.2.2.2
  obtain ⟨k0, -, -, -, -, -, kst, -, n, m, k1, k2, k3, k4⟩ := hA0
  obtain ⟨q, l1, l2, -, -⟩ := hP0
  have facts : ∀ (β : Jst) (w : Int32), Inv (mg (jup α 21 1 w) β) → (β 45 0 = w ∧ β 47 0 = α 21 3 ∧ β 48 0 = α 21 4 ∧ β 49 0 = α 21 5 ∧ β 50 0 = α 21 6 ∧ ((α 21 2 = 1 ∧ β 46 0 = 0) ∨ (α 21 2 = 0 ∧ β 46 0 = 1)) ∧ (∃ y : Nat, y < 16 ∧ w = nI y)) ∧ β 33 39 = nI q ∧ ∀ j, j < q → β 52 (4 * j) = α 29 j ∧ β 52 (4 * j + 1) = α 30 j ∧ β 52 (4 * j + 2) = α 31 j ∧ β 52 (4 * j + 3) = α 32 j := by
    intro β w hI
    have hA : iAs (α 21 0) w (α 21 2) (α 21 3) (α 21 4) (α 21 5) (α 21 6) (β 45 0) (β 46 0) (β 47 0) (β 48 0) (β 49 0) (β 50 0) 0 := hI.2.2.2.2.2.2.1
    have hP : iGo (α 28 4) (β 33 39) (α 29) (α 30) (α 31) (α 32) (β 52) := hI.2.2.2.2.2.2.2.2
    obtain ⟨v0, v1, v2, v3, v4, v5, v6, v7, -⟩ := hA
    obtain ⟨q', z1, z2, z3, z4⟩ := hP
    have e : q' = q := (nI_eq (by omega) (by omega)).mp (z2.symm.trans l2)
    subst e
    exact ⟨⟨v1, v2, v3, v4, v5, v6, v7⟩, z3, z4⟩
  by_cases n0 : n = 0
  · have k3' : α 21 3 = 0 := by rw [k3, n0]; rfl
    apply Exists.intro
    refine ⟨?_, ?_, ?_, ?_⟩
    rotate_left 2
    · intro t K h
      simp [w_As_read_21, w_Rc_add, mg_at, mg_up, jup_at, k0, k3']
      exact h
    · intro β w hI
      obtain ⟨⟨v1, v2, v3, v4, v5, v6, v7⟩, z3, z4⟩ := facts β w hI
      obtain ⟨hG, hU, hR, hC, hS0, hS1, hA0, hA1, hP⟩ := hI
      apply Exists.intro
      refine ⟨?_, ?_, ?_, ?_, ?_⟩
      rotate_left 4
      · intro t K h
        simp [w_M_readCell, mg_at, mg_up, jup_at, upd, tn0, vi0, v2, v3, v4, v5, z3, k3']
        exact h
      · exact ⟨hG, hU, hR, hC, hS0, hS1, ⟨k0, v1, rfl, rfl, v4, rfl, v6, v7, 1, m, k1, k2, rfl, Or.inl (by decide)⟩, hA1, hP⟩
      · rfl
      · rfl
      · rfl
    · rfl
    · rfl
  by_cases n1 : n = 1
  · have k3' : α 21 3 = 1 := by rw [k3, n1]; rfl
    have o2 : (1 : Int32) + 1 = 2 := by decide
    by_cases x0 : x = 0
    · have hx0 : nI x = 0 := by rw [x0]; rfl
      by_cases tg : α 21 4 = 0
      · apply Exists.intro
        refine ⟨?_, ?_, ?_, ?_⟩
        rotate_left 2
        · intro t K h
          simp [w_As_read_21, w_Rc_add, mg_at, mg_up, jup_at, k0, k3', o2, hx0, tg]
          exact h
        · intro β w hI
          obtain ⟨⟨v1, v2, v3, v4, v5, v6, v7⟩, z3, z4⟩ := facts β w hI
          obtain ⟨hG, hU, hR, hC, hS0, hS1, hA0, hA1, hP⟩ := hI
          apply Exists.intro
          refine ⟨?_, ?_, ?_, ?_, ?_⟩
          rotate_left 4
          · intro t K h
            simp [w_M_readCell, mg_at, mg_up, jup_at, upd, tn0, vi0, v2, v3, v4, v5, z3, k3', o2, hx0, tg]
            exact h
          · exact ⟨hG, hU, hR, hC, hS0, hS1, ⟨k0, v1, rfl, v3, rfl, v5, v6, v7, 0, x, hx, (by first | rfl | exact hx0.symm), rfl, Or.inl (by decide)⟩, hA1, hP⟩
          · rfl
          · rfl
          · rfl
        · rfl
        · rfl
      · by_cases q40 : q = 40
        · have l2' : α 28 4 = 40 := by rw [l2, q40]; rfl
          apply Exists.intro
          refine ⟨?_, ?_, ?_, ?_⟩
          rotate_left 2
          · intro t K h
            simp [w_As_read_21, w_Rc_add, mg_at, mg_up, jup_at, k0, k3', o2, hx0, tg, l2']
            exact h
          · intro β w hI
            obtain ⟨⟨v1, v2, v3, v4, v5, v6, v7⟩, z3, z4⟩ := facts β w hI
            obtain ⟨hG, hU, hR, hC, hS0, hS1, hA0, hA1, hP⟩ := hI
            apply Exists.intro
            refine ⟨?_, ?_, ?_, ?_, ?_⟩
            rotate_left 4
            · intro t K h
              simp [w_M_readCell, mg_at, mg_up, jup_at, upd, tn0, vi0, v2, v3, v4, v5, z3, k3', o2, hx0, tg, q40, show nI 40 = 40 from rfl]
              exact h
            · exact ⟨hG, hU, hR, hC, hS0, hS1, ⟨k0, v1, rfl, v3, rfl, v5, v6, v7, 0, x, hx, (by first | rfl | exact hx0.symm), rfl, Or.inl (by decide)⟩, hA1, hP⟩
            · rfl
            · rfl
            · rfl
          · rfl
          · rfl
        · have a1 : ¬ (40 : Int32) ≤ nI q := fun h => absurd ((nI_leI (a := 40) (by decide) (by omega)).mp h) (by omega)
          have a2 : ¬ nI q = 40 := fun h => q40 ((nI_eq (b := 40) (by omega) (by decide)).mp h)
          have a3 : vp_in (nI q) 40 := vp_in_nI (by omega) (by omega)
          have a4 : (nI q).toNatClampNeg = q := nI_clamp (by omega)
          have a5 : nI q + 1 = nI (q + 1) := nI_1 q
          have b0 : (4 : Int32) * nI q = nI (4 * q) := pk_mul 4 q
          have b1 : nI (4 * q) + 1 = nI (4 * q + 1) := nI_add _ 1
          have b2 : nI (4 * q) + 2 = nI (4 * q + 2) := nI_add _ 2
          have b3 : nI (4 * q) + 3 = nI (4 * q + 3) := nI_add _ 3
          have c0 : vp_in (nI (4 * q)) 160 := vp_in_nI (by omega) (by omega)
          have c1 : vp_in (nI (4 * q + 1)) 160 := vp_in_nI (by omega) (by omega)
          have c2 : vp_in (nI (4 * q + 2)) 160 := vp_in_nI (by omega) (by omega)
          have c3 : vp_in (nI (4 * q + 3)) 160 := vp_in_nI (by omega) (by omega)
          have d0 : (nI (4 * q)).toNatClampNeg = 4 * q := nI_clamp (by omega)
          have d1 : (nI (4 * q + 1)).toNatClampNeg = 4 * q + 1 := nI_clamp (by omega)
          have d2 : (nI (4 * q + 2)).toNatClampNeg = 4 * q + 2 := nI_clamp (by omega)
          have d3 : (nI (4 * q + 3)).toNatClampNeg = 4 * q + 3 := nI_clamp (by omega)
          apply Exists.intro
          refine ⟨?_, ?_, ?_, ?_⟩
          rotate_left 2
          · intro t K h
            simp [w_As_read_21, w_Rc_add, mg_at, mg_up, jup_at, k0, k3', o2, hx0, tg, l2, a1, a2, a3, a4, a5, b0, b1, b2, b3, c0, c1, c2, c3, d0, d1, d2, d3]
            exact h
          · intro β w hI
            obtain ⟨⟨v1, v2, v3, v4, v5, v6, v7⟩, z3, z4⟩ := facts β w hI
            obtain ⟨hG, hU, hR, hC, hS0, hS1, hA0, hA1, hP⟩ := hI
            apply Exists.intro
            refine ⟨?_, ?_, ?_, ?_, ?_⟩
            rotate_left 4
            · intro t K h
              simp [w_M_readCell, mg_at, mg_up, jup_at, upd, tn0, vi0, v2, v3, v4, v5, z3, k3', o2, hx0, tg, a1, a2, a3, a4, a5, b0, b1, b2, b3, c0, c1, c2, c3, d0, d1, d2, d3]
              exact h
            · exact ⟨hG, hU, hR, hC, hS0, hS1, ⟨k0, v1, rfl, v3, rfl, v5, v6, v7, 0, x, hx, (by first | rfl | exact hx0.symm), rfl, Or.inl (by decide)⟩, hA1, go_add (by omega) z4⟩
            · rfl
            · rfl
            · rfl
          · rfl
          · rfl
    · have hx0 : ¬ nI x = 0 := fun h => x0 (nI_z (by omega) h)
      have hx1 : ¬ (0 : Int32) = nI x := fun h => hx0 h.symm
      have y0 : (2 : Int32) + nI x = nI (2 + x) := nI_add 2 x
      have y1 : ¬ nI (2 + x) ≤ 2 := fun h => absurd ((nI_leI (b := 2) (by omega) (by decide)).mp h) (by omega)
      apply Exists.intro
      refine ⟨?_, ?_, ?_, ?_⟩
      rotate_left 2
      · intro t K h
        simp [w_As_read_21, w_Rc_add, mg_at, mg_up, jup_at, k0, k3', o2, hx0, hx1]
        exact h
      · intro β w hI
        obtain ⟨⟨v1, v2, v3, v4, v5, v6, v7⟩, z3, z4⟩ := facts β w hI
        obtain ⟨hG, hU, hR, hC, hS0, hS1, hA0, hA1, hP⟩ := hI
        apply Exists.intro
        refine ⟨?_, ?_, ?_, ?_, ?_⟩
        rotate_left 4
        · intro t K h
          simp [w_M_readCell, mg_at, mg_up, jup_at, upd, tn0, vi0, v2, v3, v4, v5, z3, k3', o2, y0, y1]
          exact h
        · exact ⟨hG, hU, hR, hC, hS0, hS1, ⟨k0, v1, rfl, v3, rfl, v5, v6, v7, 2, x, hx, rfl, rfl, Or.inr (by omega)⟩, hA1, hP⟩
        · rfl
        · rfl
        · rfl
      · rfl
      · rfl
  have u1 : ¬ nI n = 0 := fun h => n0 (nI_z (by omega) h)
  have u2 : ¬ nI n = 1 := fun h => n1 ((nI_eq (b := 1) (by omega) (by decide)).mp h)
  have u3 : nI n + 1 = nI (n + 1) := nI_1 n
  have u4 : ¬ nI (n + 1) < 2 := fun h => absurd ((nI_ltI (b := 2) (by omega) (by decide)).mp h) (by omega)
  have u5 : nI (n + 1) - 2 = nI (n - 1) := pk_sub (a := n + 1) (b := 2) (by omega)
  have u6 : (2 : Int32) + nI m = nI (2 + m) := nI_add 2 m
  by_cases fin : n + 1 = 2 + m
  · have u7 : nI (n - 1) = nI m := by congr 1; omega
    have u8 : nI (2 + m) ≤ nI (n + 1) := (nI_leI (by omega) (by omega)).mpr (by omega)
    by_cases tg : α 21 4 = 0
    · apply Exists.intro
      refine ⟨?_, ?_, ?_, ?_⟩
      rotate_left 2
      · intro t K h
        simp [w_As_read_21, w_Rc_add, mg_at, mg_up, jup_at, k0, k3, k2, u1, u2, u3, u4, u5, u6, u7, u8, tg]
        exact h
      · intro β w hI
        obtain ⟨⟨v1, v2, v3, v4, v5, v6, v7⟩, z3, z4⟩ := facts β w hI
        obtain ⟨hG, hU, hR, hC, hS0, hS1, hA0, hA1, hP⟩ := hI
        apply Exists.intro
        refine ⟨?_, ?_, ?_, ?_, ?_⟩
        rotate_left 4
        · intro t K h
          simp [w_M_readCell, mg_at, mg_up, jup_at, upd, tn0, vi0, v2, v3, v4, v5, z3, k3, k2, u1, u2, u3, u4, u5, u6, u7, u8, tg]
          exact h
        · exact ⟨hG, hU, hR, hC, hS0, hS1, ⟨k0, v1, rfl, v3, v4, (by first | rfl | exact congrArg (· + nI x) v5), v6, v7, 0, m, k1, k2, rfl, Or.inl (by decide)⟩, hA1, hP⟩
        · rfl
        · rfl
        · rfl
      · rfl
      · rfl
    · by_cases q40 : q = 40
      · have l2' : α 28 4 = 40 := by rw [l2, q40]; rfl
        apply Exists.intro
        refine ⟨?_, ?_, ?_, ?_⟩
        rotate_left 2
        · intro t K h
          simp [w_As_read_21, w_Rc_add, mg_at, mg_up, jup_at, k0, k3, k2, u1, u2, u3, u4, u5, u6, u7, u8, tg, l2']
          exact h
        · intro β w hI
          obtain ⟨⟨v1, v2, v3, v4, v5, v6, v7⟩, z3, z4⟩ := facts β w hI
          obtain ⟨hG, hU, hR, hC, hS0, hS1, hA0, hA1, hP⟩ := hI
          apply Exists.intro
          refine ⟨?_, ?_, ?_, ?_, ?_⟩
          rotate_left 4
          · intro t K h
            simp [w_M_readCell, mg_at, mg_up, jup_at, upd, tn0, vi0, v2, v3, v4, v5, z3, k3, k2, u1, u2, u3, u4, u5, u6, u7, u8, tg, q40, show nI 40 = 40 from rfl]
            exact h
          · exact ⟨hG, hU, hR, hC, hS0, hS1, ⟨k0, v1, rfl, v3, v4, (by first | rfl | exact congrArg (· + nI x) v5), v6, v7, 0, m, k1, k2, rfl, Or.inl (by decide)⟩, hA1, hP⟩
          · rfl
          · rfl
          · rfl
        · rfl
        · rfl
      · have a1 : ¬ (40 : Int32) ≤ nI q := fun h => absurd ((nI_leI (a := 40) (by decide) (by omega)).mp h) (by omega)
        have a2 : ¬ nI q = 40 := fun h => q40 ((nI_eq (b := 40) (by omega) (by decide)).mp h)
        have a3 : vp_in (nI q) 40 := vp_in_nI (by omega) (by omega)
        have a4 : (nI q).toNatClampNeg = q := nI_clamp (by omega)
        have a5 : nI q + 1 = nI (q + 1) := nI_1 q
        have b0 : (4 : Int32) * nI q = nI (4 * q) := pk_mul 4 q
        have b1 : nI (4 * q) + 1 = nI (4 * q + 1) := nI_add _ 1
        have b2 : nI (4 * q) + 2 = nI (4 * q + 2) := nI_add _ 2
        have b3 : nI (4 * q) + 3 = nI (4 * q + 3) := nI_add _ 3
        have c0 : vp_in (nI (4 * q)) 160 := vp_in_nI (by omega) (by omega)
        have c1 : vp_in (nI (4 * q + 1)) 160 := vp_in_nI (by omega) (by omega)
        have c2 : vp_in (nI (4 * q + 2)) 160 := vp_in_nI (by omega) (by omega)
        have c3 : vp_in (nI (4 * q + 3)) 160 := vp_in_nI (by omega) (by omega)
        have d0 : (nI (4 * q)).toNatClampNeg = 4 * q := nI_clamp (by omega)
        have d1 : (nI (4 * q + 1)).toNatClampNeg = 4 * q + 1 := nI_clamp (by omega)
        have d2 : (nI (4 * q + 2)).toNatClampNeg = 4 * q + 2 := nI_clamp (by omega)
        have d3 : (nI (4 * q + 3)).toNatClampNeg = 4 * q + 3 := nI_clamp (by omega)
        apply Exists.intro
        refine ⟨?_, ?_, ?_, ?_⟩
        rotate_left 2
        · intro t K h
          simp [w_As_read_21, w_Rc_add, mg_at, mg_up, jup_at, k0, k3, k2, u1, u2, u3, u4, u5, u6, u7, u8, tg, l2, a1, a2, a3, a4, a5, b0, b1, b2, b3, c0, c1, c2, c3, d0, d1, d2, d3]
          exact h
        · intro β w hI
          obtain ⟨⟨v1, v2, v3, v4, v5, v6, v7⟩, z3, z4⟩ := facts β w hI
          obtain ⟨hG, hU, hR, hC, hS0, hS1, hA0, hA1, hP⟩ := hI
          apply Exists.intro
          refine ⟨?_, ?_, ?_, ?_, ?_⟩
          rotate_left 4
          · intro t K h
            simp [w_M_readCell, mg_at, mg_up, jup_at, upd, tn0, vi0, v2, v3, v4, v5, z3, k3, k2, u1, u2, u3, u4, u5, u6, u7, u8, tg, a1, a2, a3, a4, a5, b0, b1, b2, b3, c0, c1, c2, c3, d0, d1, d2, d3]
            exact h
          · exact ⟨hG, hU, hR, hC, hS0, hS1, ⟨k0, v1, rfl, v3, v4, (by first | rfl | exact congrArg (· + nI x) v5), v6, v7, 0, m, k1, k2, rfl, Or.inl (by decide)⟩, hA1, go_add (by omega) z4⟩
          · rfl
          · rfl
          · rfl
        · rfl
        · rfl
  · have u7 : ¬ nI (n - 1) = nI m := fun h => absurd ((nI_eq (by omega) (by omega)).mp h) (by omega)
    have u8 : ¬ nI (2 + m) ≤ nI (n + 1) := fun h => absurd ((nI_leI (by omega) (by omega)).mp h) (by omega)
    apply Exists.intro
    refine ⟨?_, ?_, ?_, ?_⟩
    rotate_left 2
    · intro t K h
      simp [w_As_read_21, w_Rc_add, mg_at, mg_up, jup_at, k0, k3, k2, u1, u2, u3, u4, u5, u6, u7, u8]
      exact h
    · intro β w hI
      obtain ⟨⟨v1, v2, v3, v4, v5, v6, v7⟩, z3, z4⟩ := facts β w hI
      obtain ⟨hG, hU, hR, hC, hS0, hS1, hA0, hA1, hP⟩ := hI
      apply Exists.intro
      refine ⟨?_, ?_, ?_, ?_, ?_⟩
      rotate_left 4
      · intro t K h
        simp [w_M_readCell, mg_at, mg_up, jup_at, upd, tn0, vi0, v2, v3, v4, v5, z3, k3, k2, u1, u2, u3, u4, u5, u6, u7, u8]
        exact h
      · exact ⟨hG, hU, hR, hC, hS0, hS1, ⟨k0, v1, rfl, v3, v4, (by first | rfl | exact congrArg (· + nI x) v5), v6, v7, n + 1, m, k1, k2, rfl, Or.inr (by omega)⟩, hA1, hP⟩
      · rfl
      · rfl
      · rfl
    · rfl
    · rfl
theorem rd_1 {α : Jst} {x : Nat} (hx : x ≤ 1000) (hex : ∃ (β : Jst) (w : Int32), Inv (mg (jup α 25 1 w) β)) : ∃ a : Jst, a 27 = α 27 ∧ a 26 = α 26 ∧ (∀ (t : Jst) (K : Jst → Prop), K (mg a t) → w_As_read_25 (nI x) (mg α t) K) ∧ ∀ (β : Jst) (w : Int32), Inv (mg (jup α 25 1 w) β) → ∃ b : Jst, Inv (mg (jup a 25 1 w) b) ∧ b 33 0 = β 33 0 ∧ b 53 = β 53 ∧ b 51 = β 51 ∧ (∀ (t : Jst) (K : Jst → Prop), K (mg t b) → w_M_readCell 1 (nI x) (mg t β) K) := by
  obtain ⟨β0, w0, hI0⟩ := hex
  have hA0 : iAs (α 25 0) w0 (α 25 2) (α 25 3) (α 25 4) (α 25 5) (α 25 6) (β0 45 1) (β0 46 1) (β0 47 1) (β0 48 1) (β0 49 1) (β0 50 1) 1 := hI0.2.2.2.2.2.2.2.1
  have hP0 : iGo (α 28 4) (β0 33 39) (α 29) (α 30) (α 31) (α 32) (β0 52) := hI0.2.2.2.2.2.2.2.2
  obtain ⟨k0, -, -, -, -, -, kst, -, n, m, k1, k2, k3, k4⟩ := hA0
  obtain ⟨q, l1, l2, -, -⟩ := hP0
  have facts : ∀ (β : Jst) (w : Int32), Inv (mg (jup α 25 1 w) β) → (β 45 1 = w ∧ β 47 1 = α 25 3 ∧ β 48 1 = α 25 4 ∧ β 49 1 = α 25 5 ∧ β 50 1 = α 25 6 ∧ ((α 25 2 = 1 ∧ β 46 1 = 0) ∨ (α 25 2 = 0 ∧ β 46 1 = 1)) ∧ (∃ y : Nat, y < 16 ∧ w = nI y)) ∧ β 33 39 = nI q ∧ ∀ j, j < q → β 52 (4 * j) = α 29 j ∧ β 52 (4 * j + 1) = α 30 j ∧ β 52 (4 * j + 2) = α 31 j ∧ β 52 (4 * j + 3) = α 32 j := by
    intro β w hI
    have hA : iAs (α 25 0) w (α 25 2) (α 25 3) (α 25 4) (α 25 5) (α 25 6) (β 45 1) (β 46 1) (β 47 1) (β 48 1) (β 49 1) (β 50 1) 1 := hI.2.2.2.2.2.2.2.1
    have hP : iGo (α 28 4) (β 33 39) (α 29) (α 30) (α 31) (α 32) (β 52) := hI.2.2.2.2.2.2.2.2
    obtain ⟨v0, v1, v2, v3, v4, v5, v6, v7, -⟩ := hA
    obtain ⟨q', z1, z2, z3, z4⟩ := hP
    have e : q' = q := (nI_eq (by omega) (by omega)).mp (z2.symm.trans l2)
    subst e
    exact ⟨⟨v1, v2, v3, v4, v5, v6, v7⟩, z3, z4⟩
  by_cases n0 : n = 0
  · have k3' : α 25 3 = 0 := by rw [k3, n0]; rfl
    apply Exists.intro
    refine ⟨?_, ?_, ?_, ?_⟩
    rotate_left 2
    · intro t K h
      simp [w_As_read_25, w_Rc_add, mg_at, mg_up, jup_at, k0, k3']
      exact h
    · intro β w hI
      obtain ⟨⟨v1, v2, v3, v4, v5, v6, v7⟩, z3, z4⟩ := facts β w hI
      obtain ⟨hG, hU, hR, hC, hS0, hS1, hA0, hA1, hP⟩ := hI
      apply Exists.intro
      refine ⟨?_, ?_, ?_, ?_, ?_⟩
      rotate_left 4
      · intro t K h
        simp [w_M_readCell, mg_at, mg_up, jup_at, upd, tn1, vi1, v2, v3, v4, v5, z3, k3']
        exact h
      · exact ⟨hG, hU, hR, hC, hS0, hS1, hA0, ⟨k0, v1, rfl, rfl, v4, rfl, v6, v7, 1, m, k1, k2, rfl, Or.inl (by decide)⟩, hP⟩
      · rfl
      · rfl
      · rfl
    · rfl
    · rfl
  by_cases n1 : n = 1
  · have k3' : α 25 3 = 1 := by rw [k3, n1]; rfl
    have o2 : (1 : Int32) + 1 = 2 := by decide
    by_cases x0 : x = 0
    · have hx0 : nI x = 0 := by rw [x0]; rfl
      by_cases tg : α 25 4 = 0
      · apply Exists.intro
        refine ⟨?_, ?_, ?_, ?_⟩
        rotate_left 2
        · intro t K h
          simp [w_As_read_25, w_Rc_add, mg_at, mg_up, jup_at, k0, k3', o2, hx0, tg]
          exact h
        · intro β w hI
          obtain ⟨⟨v1, v2, v3, v4, v5, v6, v7⟩, z3, z4⟩ := facts β w hI
          obtain ⟨hG, hU, hR, hC, hS0, hS1, hA0, hA1, hP⟩ := hI
          apply Exists.intro
          refine ⟨?_, ?_, ?_, ?_, ?_⟩
          rotate_left 4
          · intro t K h
            simp [w_M_readCell, mg_at, mg_up, jup_at, upd, tn1, vi1, v2, v3, v4, v5, z3, k3', o2, hx0, tg]
            exact h
          · exact ⟨hG, hU, hR, hC, hS0, hS1, hA0, ⟨k0, v1, rfl, v3, rfl, v5, v6, v7, 0, x, hx, (by first | rfl | exact hx0.symm), rfl, Or.inl (by decide)⟩, hP⟩
          · rfl
          · rfl
          · rfl
        · rfl
        · rfl
      · by_cases q40 : q = 40
        · have l2' : α 28 4 = 40 := by rw [l2, q40]; rfl
          apply Exists.intro
          refine ⟨?_, ?_, ?_, ?_⟩
          rotate_left 2
          · intro t K h
            simp [w_As_read_25, w_Rc_add, mg_at, mg_up, jup_at, k0, k3', o2, hx0, tg, l2']
            exact h
          · intro β w hI
            obtain ⟨⟨v1, v2, v3, v4, v5, v6, v7⟩, z3, z4⟩ := facts β w hI
            obtain ⟨hG, hU, hR, hC, hS0, hS1, hA0, hA1, hP⟩ := hI
            apply Exists.intro
            refine ⟨?_, ?_, ?_, ?_, ?_⟩
            rotate_left 4
            · intro t K h
              simp [w_M_readCell, mg_at, mg_up, jup_at, upd, tn1, vi1, v2, v3, v4, v5, z3, k3', o2, hx0, tg, q40, show nI 40 = 40 from rfl]
              exact h
            · exact ⟨hG, hU, hR, hC, hS0, hS1, hA0, ⟨k0, v1, rfl, v3, rfl, v5, v6, v7, 0, x, hx, (by first | rfl | exact hx0.symm), rfl, Or.inl (by decide)⟩, hP⟩
            · rfl
            · rfl
            · rfl
          · rfl
          · rfl
        · have a1 : ¬ (40 : Int32) ≤ nI q := fun h => absurd ((nI_leI (a := 40) (by decide) (by omega)).mp h) (by omega)
          have a2 : ¬ nI q = 40 := fun h => q40 ((nI_eq (b := 40) (by omega) (by decide)).mp h)
          have a3 : vp_in (nI q) 40 := vp_in_nI (by omega) (by omega)
          have a4 : (nI q).toNatClampNeg = q := nI_clamp (by omega)
          have a5 : nI q + 1 = nI (q + 1) := nI_1 q
          have b0 : (4 : Int32) * nI q = nI (4 * q) := pk_mul 4 q
          have b1 : nI (4 * q) + 1 = nI (4 * q + 1) := nI_add _ 1
          have b2 : nI (4 * q) + 2 = nI (4 * q + 2) := nI_add _ 2
          have b3 : nI (4 * q) + 3 = nI (4 * q + 3) := nI_add _ 3
          have c0 : vp_in (nI (4 * q)) 160 := vp_in_nI (by omega) (by omega)
          have c1 : vp_in (nI (4 * q + 1)) 160 := vp_in_nI (by omega) (by omega)
          have c2 : vp_in (nI (4 * q + 2)) 160 := vp_in_nI (by omega) (by omega)
          have c3 : vp_in (nI (4 * q + 3)) 160 := vp_in_nI (by omega) (by omega)
          have d0 : (nI (4 * q)).toNatClampNeg = 4 * q := nI_clamp (by omega)
          have d1 : (nI (4 * q + 1)).toNatClampNeg = 4 * q + 1 := nI_clamp (by omega)
          have d2 : (nI (4 * q + 2)).toNatClampNeg = 4 * q + 2 := nI_clamp (by omega)
          have d3 : (nI (4 * q + 3)).toNatClampNeg = 4 * q + 3 := nI_clamp (by omega)
          apply Exists.intro
          refine ⟨?_, ?_, ?_, ?_⟩
          rotate_left 2
          · intro t K h
            simp [w_As_read_25, w_Rc_add, mg_at, mg_up, jup_at, k0, k3', o2, hx0, tg, l2, a1, a2, a3, a4, a5, b0, b1, b2, b3, c0, c1, c2, c3, d0, d1, d2, d3]
            exact h
          · intro β w hI
            obtain ⟨⟨v1, v2, v3, v4, v5, v6, v7⟩, z3, z4⟩ := facts β w hI
            obtain ⟨hG, hU, hR, hC, hS0, hS1, hA0, hA1, hP⟩ := hI
            apply Exists.intro
            refine ⟨?_, ?_, ?_, ?_, ?_⟩
            rotate_left 4
            · intro t K h
              simp [w_M_readCell, mg_at, mg_up, jup_at, upd, tn1, vi1, v2, v3, v4, v5, z3, k3', o2, hx0, tg, a1, a2, a3, a4, a5, b0, b1, b2, b3, c0, c1, c2, c3, d0, d1, d2, d3]
              exact h
            · exact ⟨hG, hU, hR, hC, hS0, hS1, hA0, ⟨k0, v1, rfl, v3, rfl, v5, v6, v7, 0, x, hx, (by first | rfl | exact hx0.symm), rfl, Or.inl (by decide)⟩, go_add (by omega) z4⟩
            · rfl
            · rfl
            · rfl
          · rfl
          · rfl
    · have hx0 : ¬ nI x = 0 := fun h => x0 (nI_z (by omega) h)
      have hx1 : ¬ (0 : Int32) = nI x := fun h => hx0 h.symm
      have y0 : (2 : Int32) + nI x = nI (2 + x) := nI_add 2 x
      have y1 : ¬ nI (2 + x) ≤ 2 := fun h => absurd ((nI_leI (b := 2) (by omega) (by decide)).mp h) (by omega)
      apply Exists.intro
      refine ⟨?_, ?_, ?_, ?_⟩
      rotate_left 2
      · intro t K h
        simp [w_As_read_25, w_Rc_add, mg_at, mg_up, jup_at, k0, k3', o2, hx0, hx1]
        exact h
      · intro β w hI
        obtain ⟨⟨v1, v2, v3, v4, v5, v6, v7⟩, z3, z4⟩ := facts β w hI
        obtain ⟨hG, hU, hR, hC, hS0, hS1, hA0, hA1, hP⟩ := hI
        apply Exists.intro
        refine ⟨?_, ?_, ?_, ?_, ?_⟩
        rotate_left 4
        · intro t K h
          simp [w_M_readCell, mg_at, mg_up, jup_at, upd, tn1, vi1, v2, v3, v4, v5, z3, k3', o2, y0, y1]
          exact h
        · exact ⟨hG, hU, hR, hC, hS0, hS1, hA0, ⟨k0, v1, rfl, v3, rfl, v5, v6, v7, 2, x, hx, rfl, rfl, Or.inr (by omega)⟩, hP⟩
        · rfl
        · rfl
        · rfl
      · rfl
      · rfl
  have u1 : ¬ nI n = 0 := fun h => n0 (nI_z (by omega) h)
  have u2 : ¬ nI n = 1 := fun h => n1 ((nI_eq (b := 1) (by omega) (by decide)).mp h)
  have u3 : nI n + 1 = nI (n + 1) := nI_1 n
  have u4 : ¬ nI (n + 1) < 2 := fun h => absurd ((nI_ltI (b := 2) (by omega) (by decide)).mp h) (by omega)
  have u5 : nI (n + 1) - 2 = nI (n - 1) := pk_sub (a := n + 1) (b := 2) (by omega)
  have u6 : (2 : Int32) + nI m = nI (2 + m) := nI_add 2 m
  by_cases fin : n + 1 = 2 + m
  · have u7 : nI (n - 1) = nI m := by congr 1; omega
    have u8 : nI (2 + m) ≤ nI (n + 1) := (nI_leI (by omega) (by omega)).mpr (by omega)
    by_cases tg : α 25 4 = 0
    · apply Exists.intro
      refine ⟨?_, ?_, ?_, ?_⟩
      rotate_left 2
      · intro t K h
        simp [w_As_read_25, w_Rc_add, mg_at, mg_up, jup_at, k0, k3, k2, u1, u2, u3, u4, u5, u6, u7, u8, tg]
        exact h
      · intro β w hI
        obtain ⟨⟨v1, v2, v3, v4, v5, v6, v7⟩, z3, z4⟩ := facts β w hI
        obtain ⟨hG, hU, hR, hC, hS0, hS1, hA0, hA1, hP⟩ := hI
        apply Exists.intro
        refine ⟨?_, ?_, ?_, ?_, ?_⟩
        rotate_left 4
        · intro t K h
          simp [w_M_readCell, mg_at, mg_up, jup_at, upd, tn1, vi1, v2, v3, v4, v5, z3, k3, k2, u1, u2, u3, u4, u5, u6, u7, u8, tg]
          exact h
        · exact ⟨hG, hU, hR, hC, hS0, hS1, hA0, ⟨k0, v1, rfl, v3, v4, (by first | rfl | exact congrArg (· + nI x) v5), v6, v7, 0, m, k1, k2, rfl, Or.inl (by decide)⟩, hP⟩
        · rfl
        · rfl
        · rfl
      · rfl
      · rfl
    · by_cases q40 : q = 40
      · have l2' : α 28 4 = 40 := by rw [l2, q40]; rfl
        apply Exists.intro
        refine ⟨?_, ?_, ?_, ?_⟩
        rotate_left 2
        · intro t K h
          simp [w_As_read_25, w_Rc_add, mg_at, mg_up, jup_at, k0, k3, k2, u1, u2, u3, u4, u5, u6, u7, u8, tg, l2']
          exact h
        · intro β w hI
          obtain ⟨⟨v1, v2, v3, v4, v5, v6, v7⟩, z3, z4⟩ := facts β w hI
          obtain ⟨hG, hU, hR, hC, hS0, hS1, hA0, hA1, hP⟩ := hI
          apply Exists.intro
          refine ⟨?_, ?_, ?_, ?_, ?_⟩
          rotate_left 4
          · intro t K h
            simp [w_M_readCell, mg_at, mg_up, jup_at, upd, tn1, vi1, v2, v3, v4, v5, z3, k3, k2, u1, u2, u3, u4, u5, u6, u7, u8, tg, q40, show nI 40 = 40 from rfl]
            exact h
          · exact ⟨hG, hU, hR, hC, hS0, hS1, hA0, ⟨k0, v1, rfl, v3, v4, (by first | rfl | exact congrArg (· + nI x) v5), v6, v7, 0, m, k1, k2, rfl, Or.inl (by decide)⟩, hP⟩
          · rfl
          · rfl
          · rfl
        · rfl
        · rfl
      · have a1 : ¬ (40 : Int32) ≤ nI q := fun h => absurd ((nI_leI (a := 40) (by decide) (by omega)).mp h) (by omega)
        have a2 : ¬ nI q = 40 := fun h => q40 ((nI_eq (b := 40) (by omega) (by decide)).mp h)
        have a3 : vp_in (nI q) 40 := vp_in_nI (by omega) (by omega)
        have a4 : (nI q).toNatClampNeg = q := nI_clamp (by omega)
        have a5 : nI q + 1 = nI (q + 1) := nI_1 q
        have b0 : (4 : Int32) * nI q = nI (4 * q) := pk_mul 4 q
        have b1 : nI (4 * q) + 1 = nI (4 * q + 1) := nI_add _ 1
        have b2 : nI (4 * q) + 2 = nI (4 * q + 2) := nI_add _ 2
        have b3 : nI (4 * q) + 3 = nI (4 * q + 3) := nI_add _ 3
        have c0 : vp_in (nI (4 * q)) 160 := vp_in_nI (by omega) (by omega)
        have c1 : vp_in (nI (4 * q + 1)) 160 := vp_in_nI (by omega) (by omega)
        have c2 : vp_in (nI (4 * q + 2)) 160 := vp_in_nI (by omega) (by omega)
        have c3 : vp_in (nI (4 * q + 3)) 160 := vp_in_nI (by omega) (by omega)
        have d0 : (nI (4 * q)).toNatClampNeg = 4 * q := nI_clamp (by omega)
        have d1 : (nI (4 * q + 1)).toNatClampNeg = 4 * q + 1 := nI_clamp (by omega)
        have d2 : (nI (4 * q + 2)).toNatClampNeg = 4 * q + 2 := nI_clamp (by omega)
        have d3 : (nI (4 * q + 3)).toNatClampNeg = 4 * q + 3 := nI_clamp (by omega)
        apply Exists.intro
        refine ⟨?_, ?_, ?_, ?_⟩
        rotate_left 2
        · intro t K h
          simp [w_As_read_25, w_Rc_add, mg_at, mg_up, jup_at, k0, k3, k2, u1, u2, u3, u4, u5, u6, u7, u8, tg, l2, a1, a2, a3, a4, a5, b0, b1, b2, b3, c0, c1, c2, c3, d0, d1, d2, d3]
          exact h
        · intro β w hI
          obtain ⟨⟨v1, v2, v3, v4, v5, v6, v7⟩, z3, z4⟩ := facts β w hI
          obtain ⟨hG, hU, hR, hC, hS0, hS1, hA0, hA1, hP⟩ := hI
          apply Exists.intro
          refine ⟨?_, ?_, ?_, ?_, ?_⟩
          rotate_left 4
          · intro t K h
            simp [w_M_readCell, mg_at, mg_up, jup_at, upd, tn1, vi1, v2, v3, v4, v5, z3, k3, k2, u1, u2, u3, u4, u5, u6, u7, u8, tg, a1, a2, a3, a4, a5, b0, b1, b2, b3, c0, c1, c2, c3, d0, d1, d2, d3]
            exact h
          · exact ⟨hG, hU, hR, hC, hS0, hS1, hA0, ⟨k0, v1, rfl, v3, v4, (by first | rfl | exact congrArg (· + nI x) v5), v6, v7, 0, m, k1, k2, rfl, Or.inl (by decide)⟩, go_add (by omega) z4⟩
          · rfl
          · rfl
          · rfl
        · rfl
        · rfl
  · have u7 : ¬ nI (n - 1) = nI m := fun h => absurd ((nI_eq (by omega) (by omega)).mp h) (by omega)
    have u8 : ¬ nI (2 + m) ≤ nI (n + 1) := fun h => absurd ((nI_leI (by omega) (by omega)).mp h) (by omega)
    apply Exists.intro
    refine ⟨?_, ?_, ?_, ?_⟩
    rotate_left 2
    · intro t K h
      simp [w_As_read_25, w_Rc_add, mg_at, mg_up, jup_at, k0, k3, k2, u1, u2, u3, u4, u5, u6, u7, u8]
      exact h
    · intro β w hI
      obtain ⟨⟨v1, v2, v3, v4, v5, v6, v7⟩, z3, z4⟩ := facts β w hI
      obtain ⟨hG, hU, hR, hC, hS0, hS1, hA0, hA1, hP⟩ := hI
      apply Exists.intro
      refine ⟨?_, ?_, ?_, ?_, ?_⟩
      rotate_left 4
      · intro t K h
        simp [w_M_readCell, mg_at, mg_up, jup_at, upd, tn1, vi1, v2, v3, v4, v5, z3, k3, k2, u1, u2, u3, u4, u5, u6, u7, u8]
        exact h
      · exact ⟨hG, hU, hR, hC, hS0, hS1, hA0, ⟨k0, v1, rfl, v3, v4, (by first | rfl | exact congrArg (· + nI x) v5), v6, v7, n + 1, m, k1, k2, rfl, Or.inr (by omega)⟩, hP⟩
      · rfl
      · rfl
      · rfl
    · rfl
    · rfl
