/-! the cases that only tell -/
theorem en1 {a : Int32} (h : ¬ (a < 0 ∨ 1 < a)) : a = 0 ∨ a = 1 := by
  obtain ⟨w, w1, w2, w3⟩ := rng (l := 0) (n := 1) rfl rfl (by decide) (by decide) h
  have : w = 0 ∨ w = 1 := by omega
  rcases this with rfl | rfl
  · exact Or.inl w3
  · exact Or.inr (w3)
theorem en2 {a : Int32} (h : ¬ (a < 0 ∨ 2 < a)) : a = 0 ∨ a = 1 ∨ a = 2 := by
  obtain ⟨w, w1, w2, w3⟩ := rng (l := 0) (n := 2) rfl rfl (by decide) (by decide) h
  have : w = 0 ∨ w = 1 ∨ w = 2 := by omega
  rcases this with rfl | rfl | rfl
  · exact Or.inl w3
  · exact Or.inr (Or.inl w3)
  · exact Or.inr (Or.inr (w3))
theorem en3 {a : Int32} (h : ¬ (a < 0 ∨ 3 < a)) : a = 0 ∨ a = 1 ∨ a = 2 ∨ a = 3 := by
  obtain ⟨w, w1, w2, w3⟩ := rng (l := 0) (n := 3) rfl rfl (by decide) (by decide) h
  have : w = 0 ∨ w = 1 ∨ w = 2 ∨ w = 3 := by omega
  rcases this with rfl | rfl | rfl | rfl
  · exact Or.inl w3
  · exact Or.inr (Or.inl w3)
  · exact Or.inr (Or.inr (Or.inl w3))
  · exact Or.inr (Or.inr (Or.inr (w3)))
theorem en5 {a : Int32} (h : ¬ (a < 0 ∨ 5 < a)) : a = 0 ∨ a = 1 ∨ a = 2 ∨ a = 3 ∨ a = 4 ∨ a = 5 := by
  obtain ⟨w, w1, w2, w3⟩ := rng (l := 0) (n := 5) rfl rfl (by decide) (by decide) h
  have : w = 0 ∨ w = 1 ∨ w = 2 ∨ w = 3 ∨ w = 4 ∨ w = 5 := by omega
  rcases this with rfl | rfl | rfl | rfl | rfl | rfl
  · exact Or.inl w3
  · exact Or.inr (Or.inl w3)
  · exact Or.inr (Or.inr (Or.inl w3))
  · exact Or.inr (Or.inr (Or.inr (Or.inl w3)))
  · exact Or.inr (Or.inr (Or.inr (Or.inr (Or.inl w3))))
  · exact Or.inr (Or.inr (Or.inr (Or.inr (Or.inr (w3)))))
theorem en10 {a : Int32} (h : ¬ (a < 0 ∨ 10 < a)) : a = 0 ∨ a = 1 ∨ a = 2 ∨ a = 3 ∨ a = 4 ∨ a = 5 ∨ a = 6 ∨ a = 7 ∨ a = 8 ∨ a = 9 ∨ a = 10 := by
  obtain ⟨w, w1, w2, w3⟩ := rng (l := 0) (n := 10) rfl rfl (by decide) (by decide) h
  have : w = 0 ∨ w = 1 ∨ w = 2 ∨ w = 3 ∨ w = 4 ∨ w = 5 ∨ w = 6 ∨ w = 7 ∨ w = 8 ∨ w = 9 ∨ w = 10 := by omega
  rcases this with rfl | rfl | rfl | rfl | rfl | rfl | rfl | rfl | rfl | rfl | rfl
  · exact Or.inl w3
  · exact Or.inr (Or.inl w3)
  · exact Or.inr (Or.inr (Or.inl w3))
  · exact Or.inr (Or.inr (Or.inr (Or.inl w3)))
  · exact Or.inr (Or.inr (Or.inr (Or.inr (Or.inl w3))))
  · exact Or.inr (Or.inr (Or.inr (Or.inr (Or.inr (Or.inl w3)))))
  · exact Or.inr (Or.inr (Or.inr (Or.inr (Or.inr (Or.inr (Or.inl w3))))))
  · exact Or.inr (Or.inr (Or.inr (Or.inr (Or.inr (Or.inr (Or.inr (Or.inl w3)))))))
  · exact Or.inr (Or.inr (Or.inr (Or.inr (Or.inr (Or.inr (Or.inr (Or.inr (Or.inl w3))))))))
  · exact Or.inr (Or.inr (Or.inr (Or.inr (Or.inr (Or.inr (Or.inr (Or.inr (Or.inr (Or.inl w3)))))))))
  · exact Or.inr (Or.inr (Or.inr (Or.inr (Or.inr (Or.inr (Or.inr (Or.inr (Or.inr (Or.inr (w3))))))))))
theorem out_lt {a : Int32} {n m : Int32} (hnm : n ≤ m) (h : a < 0 ∨ m < a) : a < 0 ∨ n < a := h.imp id (fun q => Int32.lt_of_le_of_lt hnm q)
theorem out_ne {a n m : Int32} (h0 : (0 : Int32) ≤ n) (hnm : n ≤ m) (h : a < 0 ∨ m < a) : ¬ a = n := by
  rintro rfl
  rcases h with h | h
  · exact absurd (Int32.lt_of_lt_of_le h h0) (Int32.lt_irrefl)
  · exact absurd (Int32.lt_of_le_of_lt hnm h) (Int32.lt_irrefl)
/-- how many marks from v on -/
def cnt (f : Nat → Int32) : Nat → Nat → Nat → Nat
  | 0, _, c => c
  | d + 1, v, c => cnt f d (v + 1) (if f v = 0 then c else c + 1)
theorem count_L (K : Int32 → Jst → Prop) (σ : Jst) (m : Nat) (hm : m ≤ 4) (hs : σ 10 3 = nI m) : ∀ d v c, v + d = m → K (nI (cnt (σ 13) d v c)) σ → w_Un_countMarked_L4 K (d + 1) (nI c) (nI v) σ := by
  intro d
  induction d with
  | zero =>
    intro v c hv hk
    rw [w_Un_countMarked_L4, hs]
    exact ⟨fun _ => hk, fun h => absurd ((nI_leI (by omega) (by omega)).mpr (by omega)) h⟩
  | succ d ih =>
    intro v c hv hk
    rw [w_Un_countMarked_L4, hs]
    refine ⟨fun h => absurd ((nI_leI (by omega) (by omega)).mp h) (by omega), fun _ => ⟨vp_in_nI (by omega) (by omega), ?_, ?_⟩⟩
    · intro h
      rw [nI_clamp (by omega)] at h
      rw [cnt, if_pos h] at hk
      rw [nI_1]
      exact ih (v + 1) c (by omega) hk
    · intro h
      rw [nI_clamp (by omega)] at h
      rw [cnt, if_neg h] at hk
      rw [nI_1, nI_1]
      exact ih (v + 1) (c + 1) (by omega) hk
theorem marks_L (K : Int32 → Jst → Prop) (σ : Jst) (m : Nat) (hm : m ≤ 4) (hs : σ 33 14 = nI m) : ∀ d v c, v + d = m → K (nI (cnt (σ 35) d v c)) σ → w_M_marks_L4 K (d + 1) (nI c) (nI v) σ := by
  intro d
  induction d with
  | zero =>
    intro v c hv hk
    rw [w_M_marks_L4, hs]
    exact ⟨fun _ => hk, fun h => absurd ((nI_leI (by omega) (by omega)).mpr (by omega)) h⟩
  | succ d ih =>
    intro v c hv hk
    rw [w_M_marks_L4, hs]
    refine ⟨fun h => absurd ((nI_leI (by omega) (by omega)).mp h) (by omega), fun _ => ⟨vp_in_nI (by omega) (by omega), ?_, ?_⟩⟩
    · intro h
      rw [nI_clamp (by omega)] at h
      rw [cnt, if_pos h] at hk
      rw [nI_1, Int32.add_zero]
      exact ih (v + 1) c (by omega) hk
    · intro h
      rw [nI_clamp (by omega)] at h
      rw [cnt, if_neg h] at hk
      rw [nI_1, nI_1]
      exact ih (v + 1) (c + 1) (by omega) hk
theorem cnt_eq {f g : Nat → Int32} : ∀ d v c, (∀ j, v ≤ j → j < v + d → g j = f j) → cnt g d v c = cnt f d v c := by
  intro d
  induction d with
  | zero => intro v c h; rfl
  | succ d ih =>
    intro v c h
    rw [cnt, cnt, h v (by omega) (by omega)]
    exact ih _ _ (fun j h1 h2 => h j (by omega) (by omega))
theorem count_eq (σ : Jst) (K : Int32 → Jst → Prop) (m : Nat) (hm : m ≤ 4) (hs : σ 10 3 = nI m) (hk : K (nI (cnt (σ 13) m 0 0)) σ) : w_Un_countMarked σ K := ⟨m + 1, count_L K σ m hm hs m 0 0 (by omega) hk⟩
theorem marks_eq (σ : Jst) (K : Int32 → Jst → Prop) (m : Nat) (hm : m ≤ 4) (hs : σ 33 14 = nI m) (hk : K (nI (cnt (σ 35) m 0 0)) σ) : w_M_marks σ K := ⟨m + 1, marks_L K σ m hm hs m 0 0 (by omega) hk⟩
theorem q_13 (a1 a2 a3 : Int32) (σ : Jst) (K : Jst → Prop) (hI : Inv σ) (hK : ∀ u, Inv u → K u) : wc_13 a1 a2 a3 σ K := by
  obtain ⟨hG, hU, hR, hC, hS0, hS1, hA0, hA1, hP⟩ := id hI
  obtain ⟨⟨e1, e2, e3, e4, e5, e6, e7, e8, e9, e10, e11⟩, g2, g3, g4, g5, g6, g7⟩ := id hG
  obtain ⟨m, u1, u2, u3, -⟩ := id hU
  obtain ⟨r, r1, r2, r3, -⟩ := id hR
  obtain ⟨o, k, h1, h2, h3, h4, h5, h6, h7⟩ := id g7
  have d17 : σ 33 17 = σ 1 3 := u3.trans u2.symm
  have d26 : σ 33 26 = σ 5 3 := r3.trans r2.symm
  have d14 : σ 33 14 = σ 10 3 := h5.trans h4.symm
  by_cases p : a1 < 0 ∨ 10 < a1
  · have n9 : ¬ a1 = 9 := out_ne (by decide) (by decide) p
    have n10 : ¬ a1 = 10 := out_ne (by decide) (by decide) p
    have p8 : a1 < 0 ∨ 8 < a1 := out_lt (by decide) p
    simp [wc_13, w_L_ground, w_T_ground, w_M_ground, within_eq, outside_eq, fails_eq, thrown_eq, p, p8, n9, n10, jup_at]
    exact hK _ (inv_thr hI)
  · rcases en10 p with rfl | rfl | rfl | rfl | rfl | rfl | rfl | rfl | rfl | rfl | rfl
    case inr.inr.inr.inr.inl =>
      simp [wc_13, w_L_ground, w_T_ground, w_M_ground, w_Gr_tell, within_eq, outside_eq, fails_eq, thrown_eq]
      refine count_eq _ _ k h2 h4 ?_
      refine marks_eq _ _ k h2 h5 ?_
      have hc : cnt ((jup (jup σ 53 0 (nI (cnt (σ 13) k 0 0))) 33 0 0) 35) k 0 0 = cnt (σ 13) k 0 0 := cnt_eq k 0 0 (fun j _ hj => (h7 j (by omega)).2.2.1)
      rw [hc]
      simp [jup_at, lg_self]
      exact hK _ (inv_thr (inv_out hI))
    all_goals
      rcases g3 with f0 | f0 <;> simp [wc_13, w_L_ground, w_T_ground, w_M_ground, w_Gr_tell, w_Uf_size, w_Rp_size, w_Un_size, within_eq, outside_eq, fails_eq, thrown_eq, jup_at, lg_self, e1, e2, e3, e4, e5, e6, d14, d17, d26, e10, f0]
      all_goals exact hK _ (inv_thr (inv_out hI))
theorem q_14 (a1 a2 a3 : Int32) (σ : Jst) (K : Jst → Prop) (hI : Inv σ) (hK : ∀ u, Inv u → K u) : wc_14 a1 a2 a3 σ K := by
  obtain ⟨hG, hU, hR, hC, hS0, hS1, hA0, hA1, hP⟩ := id hI
  obtain ⟨⟨e1, e2, e3, e4, e5, e6, e7, e8, e9, e10, e11⟩, g2, g3, g4, g5, g6, g7⟩ := id hG
  obtain ⟨c1, c2, c3, c4, c5, c6, m, c7, c8, c9, c10⟩ := id hC
  obtain ⟨n0, f0, s1, s2, s3, s4, -⟩ := id hS0
  obtain ⟨n1, f1, t1, t2, t3, t4, -⟩ := id hS1
  have d24 : σ 33 24 = σ 14 1 := c9.trans c8.symm
  have d0 : σ 42 0 = σ 18 2 := s4.trans s3.symm
  have d1 : σ 42 1 = σ 22 2 := t4.trans t3.symm
  by_cases p : a1 < 0 ∨ 5 < a1
  · have n9 : ¬ a1 = 4 := out_ne (by decide) (by decide) p
    have n10 : ¬ a1 = 5 := out_ne (by decide) (by decide) p
    have p8 : a1 < 0 ∨ 3 < a1 := out_lt (by decide) p
    simp [wc_14, w_L_craft, w_T_craft, w_M_craft, within_eq, outside_eq, fails_eq, thrown_eq, p, p8, n9, n10, jup_at]
    exact hK _ (inv_thr hI)
  · rcases en5 p with rfl | rfl | rfl | rfl | rfl | rfl
    all_goals
      rcases c5 with f0 | f0 <;> simp [wc_14, w_L_craft, w_T_craft, w_M_craft, w_Cr_tell, w_St_size_18, w_St_size_22, within_eq, outside_eq, fails_eq, thrown_eq, jup_at, lg_self, c1, c2, c3, d24, d0, d1, f0]
      all_goals exact hK _ (inv_thr (inv_out hI))
theorem has_uf (a : Int32) (σ : Jst) (K : Int32 → Jst → Prop) : w_Uf_has a σ K = (if a < 0 ∨ σ 1 3 ≤ a then K 0 σ else K 1 σ) := by
  unfold w_Uf_has
  by_cases h1 : a < 0 <;> by_cases h2 : σ 1 3 ≤ a <;> simp [h1, h2]
theorem has_rp (a : Int32) (σ : Jst) (K : Int32 → Jst → Prop) : w_Rp_has a σ K = (if a < 0 ∨ σ 5 3 ≤ a then K 0 σ else K 1 σ) := by
  unfold w_Rp_has
  by_cases h1 : a < 0 <;> by_cases h2 : σ 5 3 ≤ a <;> simp [h1, h2]
theorem has_rc (a : Int32) (σ : Jst) (K : Int32 → Jst → Prop) : w_Rc_has a σ K = (if a < 0 ∨ σ 28 4 ≤ a then K 0 σ else K 1 σ) := by
  unfold w_Rc_has
  by_cases h1 : a < 0 <;> by_cases h2 : σ 28 4 ≤ a <;> simp [h1, h2]
theorem sub_lt {a x : Int32} {n : Nat} (hn : n < 2 ^ 30) (hx : x = nI n) : (a < 0 ∨ x - 1 < a) ↔ (a < 0 ∨ x ≤ a) := by
  subst hx
  have e : (nI n - 1).toInt = (n : Int) - 1 := pk_sub_toInt (b := 1) hn (by decide)
  have e0 : (0 : Int32).toInt = 0 := by decide
  rw [Int32.lt_iff_toInt_lt, Int32.lt_iff_toInt_lt, Int32.le_iff_toInt_le, e, e0, nI_toInt (by omega)]
  omega
theorem ix_of {a x : Int32} {n : Nat} (hn : n < 2 ^ 30) (hx : x = nI n) (h : ¬ (a < 0 ∨ x ≤ a)) : ∃ j : Nat, j < n ∧ a = nI j := by
  subst hx
  rcases pk_ix a (n := n) (by omega) with q | q | q
  · exact absurd (Or.inl q) h
  · exact absurd (Or.inr q) h
  · exact q
theorem q_15 (a1 a2 a3 : Int32) (σ : Jst) (K : Jst → Prop) (hI : Inv σ) (hK : ∀ u, Inv u → K u) : wc_15 a1 a2 a3 σ K := by
  obtain ⟨hG, hU, hR, hC, hS0, hS1, hA0, hA1, hP⟩ := id hI
  obtain ⟨⟨e1, e2, e3, e4, e5, e6, e7, e8, e9, e10, e11⟩, g2, g3, g4, g5, g6, g7⟩ := id hG
  obtain ⟨m, u1, u2, u3, u4⟩ := id hU
  have d17 : σ 33 17 = σ 1 3 := u3.trans u2.symm
  by_cases p : a1 < 0 ∨ σ 1 3 ≤ a1
  · simp [wc_15, w_L_flight, w_T_flight, w_M_flight, has_uf, outside_eq, fails_eq, thrown_eq, p, (sub_lt (a := a1) (by omega) u2).mpr p, d17, jup_at]
    exact hK _ (inv_thr hI)
  · have p' := (not_congr (sub_lt (a := a1) (by omega) u2)).mpr p
    have na : ¬ a1 < 0 := fun q => p' (Or.inl q)
    have nb : ¬ _ := fun q => p' (Or.inr q)
    have nd := Int32.not_lt.mp nb
    have nc : ¬ _ := fun q => p (Or.inr q)
    obtain ⟨j, hj, rfl⟩ := ix_of (by omega) u2 p
    obtain ⟨v1, v2, v3, -⟩ := u4 j hj
    have hin : vp_in (nI j) 20 := vp_in_nI (by omega) (by omega)
    have hc : (nI j).toNatClampNeg = j := nI_clamp (by omega)
    by_cases q : a2 < 0 ∨ 2 < a2
    · have n0 : ¬ a2 = 0 := out_ne (by decide) (by decide) q
      have n1 : ¬ a2 = 1 := out_ne (by decide) (by decide) q
      have n2 : ¬ a2 = 2 := out_ne (by decide) (by decide) q
      simp [wc_15, w_L_flight, w_T_flight, w_M_flight, w_Uf_tell, has_uf, outside_eq, fails_eq, thrown_eq, p, d17, na, nb, nc, nd, jup_at, n0, n1, n2, lg_self]
      exact fun _ => hK _ (inv_thr (inv_out hI))
    · rcases en2 q with rfl | rfl | rfl <;> simp [wc_15, w_L_flight, w_T_flight, w_M_flight, w_Uf_tell, has_uf, outside_eq, fails_eq, thrown_eq, p, d17, na, nb, nc, nd, jup_at, lg_self, hin, hc, v1, v2, v3]
      all_goals exact hK _ (inv_thr (inv_out hI))
theorem q_16 (a1 a2 a3 : Int32) (σ : Jst) (K : Jst → Prop) (hI : Inv σ) (hK : ∀ u, Inv u → K u) : wc_16 a1 a2 a3 σ K := by
  obtain ⟨hG, hU, hR, hC, hS0, hS1, hA0, hA1, hP⟩ := id hI
  obtain ⟨⟨e1, e2, e3, e4, e5, e6, e7, e8, e9, e10, e11⟩, g2, g3, g4, g5, g6, g7⟩ := id hG
  obtain ⟨m, u1, u2, u3, u4⟩ := id hP
  have d : σ 33 39 = σ 28 4 := u3.trans u2.symm
  simp [wc_16, w_T_packets, w_M_packets, w_Rc_size, d]
  exact hK _ (inv_thr hI)
theorem q_17 (a1 a2 a3 : Int32) (σ : Jst) (K : Jst → Prop) (hI : Inv σ) (hK : ∀ u, Inv u → K u) : wc_17 a1 a2 a3 σ K := by
  obtain ⟨hG, hU, hR, hC, hS0, hS1, hA0, hA1, hP⟩ := id hI
  obtain ⟨⟨e1, e2, e3, e4, e5, e6, e7, e8, e9, e10, e11⟩, g2, g3, g4, g5, g6, g7⟩ := id hG
  obtain ⟨m, u1, u2, u3, u4⟩ := id hP
  have d : σ 33 39 = σ 28 4 := u3.trans u2.symm
  by_cases p : a1 < 0 ∨ σ 28 4 ≤ a1
  · simp [wc_17, w_L_got, w_T_got, w_M_got, has_rc, outside_eq, fails_eq, thrown_eq, p, (sub_lt (a := a1) (by omega) u2).mpr p, d, jup_at]
    exact hK _ (inv_thr hI)
  · have p' := (not_congr (sub_lt (a := a1) (by omega) u2)).mpr p
    have na : ¬ a1 < 0 := fun q => p' (Or.inl q)
    have nb : ¬ _ := fun q => p' (Or.inr q)
    have nd := Int32.not_lt.mp nb
    have nc : ¬ _ := fun q => p (Or.inr q)
    obtain ⟨j, hj, rfl⟩ := ix_of (by omega) u2 p
    obtain ⟨v0, v1, v2, v3⟩ := u4 j hj
    have hin : vp_in (nI j) 40 := vp_in_nI (by omega) (by omega)
    have hc : (nI j).toNatClampNeg = j := nI_clamp (by omega)
    have m0 : (4 : Int32) * nI j = nI (4 * j) := pk_mul 4 j
    by_cases q : a2 < 0 ∨ 3 < a2
    · have n0 : ¬ a2 = 0 := out_ne (by decide) (by decide) q
      have n1 : ¬ a2 = 1 := out_ne (by decide) (by decide) q
      have n2 : ¬ a2 = 2 := out_ne (by decide) (by decide) q
      have n3 : ¬ a2 = 3 := out_ne (by decide) (by decide) q
      simp [wc_17, w_L_got, w_T_got, w_M_got, w_Rc_tell, has_rc, outside_eq, fails_eq, thrown_eq, p, d, na, nb, nc, nd, jup_at, n0, n1, n2, n3, lg_self, q]
      exact fun _ => hK _ (inv_thr (inv_out hI))
    · rcases en3 q with rfl | rfl | rfl | rfl
      · have hi1 : vp_in (nI (4 * j)) 160 := vp_in_nI (by omega) (by omega)
        have hc1 : (nI (4 * j)).toNatClampNeg = 4 * j := nI_clamp (by omega)
        simp [wc_17, w_L_got, w_T_got, w_M_got, w_Rc_tell, has_rc, outside_eq, fails_eq, thrown_eq, p, d, na, nb, nc, nd, jup_at, lg_self, hin, hc, m0, hi1, hc1, v0]
        exact hK _ (inv_thr (inv_out hI))
      · have m1 : nI (4 * j) + 1 = nI (4 * j + 1) := nI_add _ 1
        have hi1 : vp_in (nI (4 * j + 1)) 160 := vp_in_nI (by omega) (by omega)
        have hc1 : (nI (4 * j + 1)).toNatClampNeg = 4 * j + 1 := nI_clamp (by omega)
        simp [wc_17, w_L_got, w_T_got, w_M_got, w_Rc_tell, has_rc, outside_eq, fails_eq, thrown_eq, p, d, na, nb, nc, nd, jup_at, lg_self, hin, hc, m0, m1, hi1, hc1, v1]
        exact hK _ (inv_thr (inv_out hI))
      · have m1 : nI (4 * j) + 2 = nI (4 * j + 2) := nI_add _ 2
        have hi1 : vp_in (nI (4 * j + 2)) 160 := vp_in_nI (by omega) (by omega)
        have hc1 : (nI (4 * j + 2)).toNatClampNeg = 4 * j + 2 := nI_clamp (by omega)
        simp [wc_17, w_L_got, w_T_got, w_M_got, w_Rc_tell, has_rc, outside_eq, fails_eq, thrown_eq, p, d, na, nb, nc, nd, jup_at, lg_self, hin, hc, m0, m1, hi1, hc1, v2]
        exact hK _ (inv_thr (inv_out hI))
      · have m1 : nI (4 * j) + 3 = nI (4 * j + 3) := nI_add _ 3
        have hi1 : vp_in (nI (4 * j + 3)) 160 := vp_in_nI (by omega) (by omega)
        have hc1 : (nI (4 * j + 3)).toNatClampNeg = 4 * j + 3 := nI_clamp (by omega)
        simp [wc_17, w_L_got, w_T_got, w_M_got, w_Rc_tell, has_rc, outside_eq, fails_eq, thrown_eq, p, d, na, nb, nc, nd, jup_at, lg_self, hin, hc, m0, m1, hi1, hc1, v3]
        exact hK _ (inv_thr (inv_out hI))
