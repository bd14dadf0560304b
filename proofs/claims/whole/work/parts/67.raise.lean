/-! a frame is raised -/
set_option maxRecDepth 100000 in
theorem fm16 : ∀ x : Fin 16, ∀ y : Fin 16, ((0 : Int32) ≤ ((nI x.1 - nI y.1) ^^^ (16 : Int32)) ∧ (nI x.1 - nI y.1) - (nI x.1 - nI y.1) / (16 : Int32) * (16 : Int32) = nI ((x.1 + 16 - y.1) % 16)) ∨ (¬ (0 : Int32) ≤ ((nI x.1 - nI y.1) ^^^ (16 : Int32)) ∧ (((nI x.1 - nI y.1) - (nI x.1 - nI y.1) / (16 : Int32) * (16 : Int32) = 0 ∧ nI ((x.1 + 16 - y.1) % 16) = 0) ∨ (¬ (nI x.1 - nI y.1) - (nI x.1 - nI y.1) / (16 : Int32) * (16 : Int32) = 0 ∧ (nI x.1 - nI y.1) - (nI x.1 - nI y.1) / (16 : Int32) * (16 : Int32) + (16 : Int32) = nI ((x.1 + 16 - y.1) % 16)))) := by decide
set_option maxRecDepth 100000 in
theorem fm16b : ∀ x : Fin 16, ∀ y : Fin 16, ((nI x.1 - nI y.1) + (16 : Int32)) - ((nI x.1 - nI y.1) + (16 : Int32)) / (16 : Int32) * (16 : Int32) = nI ((x.1 + 16 - y.1) % 16) := by decide
theorem dist_eq {x y : Nat} (hx : x < 16) (hy : y < 16) {σ : Jst} {K : Int32 → Jst → Prop} (hk : K (nI ((x + 16 - y) % 16)) σ) : w_T_distance (nI y) (nI x) σ K := by
  have h := fm16 ⟨x, hx⟩ ⟨y, hy⟩
  unfold w_T_distance w_Ma_floorMod
  refine ⟨by decide, ?_, ?_⟩
  · intro h1
    rcases h with ⟨h2, h3⟩ | ⟨h2, h3⟩
    · rw [h3]; exact hk
    · exact absurd h1 h2
  · intro h1
    rcases h with ⟨h2, h3⟩ | ⟨h2, h3⟩
    · exact absurd h2 h1
    · rcases h3 with ⟨h3, h4⟩ | ⟨h3, h4⟩
      · exact ⟨fun _ => by rw [h3, ← h4]; exact hk, fun q => absurd h3 q⟩
      · exact ⟨fun q => absurd q h3, fun _ => by rw [h4]; exact hk⟩
theorem d4 : ∀ D : Fin 16, (nI D.1 ≤ 4 ∧ nI D.1 ≤ 0 ∧ ¬ 10 < nI D.1 ∧ nI D.1 < 5 ∧ ¬ 0 < nI D.1) ∨ (nI D.1 ≤ 4 ∧ ¬ nI D.1 ≤ 0 ∧ ¬ 10 < nI D.1 ∧ nI D.1 < 5 ∧ 0 < nI D.1) ∨ (¬ nI D.1 ≤ 4 ∧ ¬ nI D.1 ≤ 0 ∧ ¬ 10 < nI D.1 ∧ ¬ nI D.1 < 5 ∧ 0 < nI D.1) ∨ (¬ nI D.1 ≤ 4 ∧ ¬ nI D.1 ≤ 0 ∧ 10 < nI D.1 ∧ ¬ nI D.1 < 5 ∧ 0 < nI D.1) := by decide
theorem q_6 (a1 a2 a3 : Int32) (σ : Jst) (K : Jst → Prop) (hI : Inv σ) (hK : ∀ u, Inv u → K u) : wc_6 a1 a2 a3 σ K := by
  obtain ⟨hG, hU, hR, hC, hS0, hS1, hA0, hA1, hP⟩ := id hI
  obtain ⟨m, u1, u2, u3, u4⟩ := id hU
  obtain ⟨c1, c2, c3, c4, c5, ⟨y, y1, y2⟩, w, c7, c8, c9, c10⟩ := id hC
  have d17 : σ 33 17 = σ 1 3 := u3.trans u2.symm
  have d24 : σ 33 24 = σ 14 1 := c9.trans c8.symm
  by_cases p : a1 < 0 ∨ σ 1 3 ≤ a1
  · simp [wc_6, w_L_raise, w_T_raise, w_M_raise, has_uf, outside_eq, fails_eq, thrown_eq, p, d17, (sub_lt (a := a1) (by omega) u2).mpr p, jup_at]
    exact hK _ (inv_thr hI)
  · have p' : ¬ (a1 < 0 ∨ σ 33 17 - 1 < a1) := by rw [d17]; exact (not_congr (sub_lt (a := a1) (by omega) u2)).mpr p
    obtain ⟨j, hj, rfl⟩ := ix_of (by omega) u2 p
    obtain ⟨v1, v2, v3, kd, x, x1, x2⟩ := u4 j hj
    have hin : vp_in (nI j) 20 := vp_in_nI (by omega) (by omega)
    have hc : (nI j).toNatClampNeg = j := nI_clamp (by omega)
    unfold wc_6 w_L_raise w_T_raise
    rw [has_uf, if_neg p]
    refine ⟨fun _ => ?_, fun h => absurd h (by decide)⟩
    refine ⟨hin, hin, hin, ?_⟩
    rw [hc]
    rcases kd with k0 | k0 | k0
    · have D1 : (x + 16 - y) % 16 < 16 := Nat.mod_lt _ (by decide)
      have fb := fm16b ⟨x, x1⟩ ⟨y, y1⟩
      have hd := d4 ⟨(x + 16 - y) % 16, D1⟩
      have hrec : ∀ K' : Jst → Prop, w_Cr_receiveCommand (nI ((x + 16 - y) % 16)) (σ 4 j) σ K' → w_Cr_receive (σ 2 j) (σ 3 j) (σ 4 j) σ K' := by
        intro K' h
        unfold w_Cr_receive
        refine ⟨fun q => absurd k0 q, fun _ => ?_⟩
        rw [y2, x2]
        exact dist_eq x1 y1 h
      simp only at fb hd
      generalize (x + 16 - y) % 16 = D at fb hd hrec
      by_cases g0 : σ 14 2 = 0
      · by_cases w3 : w = 3
        · have z : σ 14 1 = 3 := by rw [c8, w3]; rfl
          rcases hd with ⟨f1, f2, f3, f4, f5⟩ | ⟨f1, f2, f3, f4, f5⟩ | ⟨f1, f2, f3, f4, f5⟩ | ⟨f1, f2, f3, f4, f5⟩
          · refine hrec _ ?_
            refine (fun K' h => by simp [w_Cr_receiveCommand, w_Cr_receiveExpected, w_T_following, f1, f2, f3, g0, z]; exact h : ∀ K' : Jst → Prop, K' (jup (jup σ 14 4 1) 14 2 1) → w_Cr_receiveCommand (nI D) (σ 4 j) σ K') _ ?_
            refine uf_remove_eq hj u1 u2 ⟨rfl, ?_⟩
            unfold w_M_raise
            refine outside_no p' ?_
            refine fails_no ?_
            refine ⟨fun _ => ⟨hin, hin, hin, ?_⟩, fun h => absurd rfl h⟩
            refine m_out_eq hj u1 u3 ?_
            simp [w_M_comes, thrown_eq, hc, js_at, jup_at, v1, v2, v3, c1, c2, c3, d24, k0, x2, y2, fb, f1, f2, f3, f4, f5, g0, z]
            exact hK _ ⟨hG, iUp_rm u4 u1 hj, hR, ⟨rfl, c2, rfl, Or.inr (Or.inl rfl), Or.inr rfl, ⟨y, y1, y2⟩, w, c7, c8, c9, c10⟩, hS0, hS1, hA0, hA1, hP⟩
          · refine hrec _ ?_
            refine (fun K' h => by simp [w_Cr_receiveCommand, w_Cr_receiveExpected, w_T_following, f1, f2, f3, g0, z]; exact h : ∀ K' : Jst → Prop, K' (jup σ 14 4 1) → w_Cr_receiveCommand (nI D) (σ 4 j) σ K') _ ?_
            refine uf_remove_eq hj u1 u2 ⟨rfl, ?_⟩
            unfold w_M_raise
            refine outside_no p' ?_
            refine fails_no ?_
            refine ⟨fun _ => ⟨hin, hin, hin, ?_⟩, fun h => absurd rfl h⟩
            refine m_out_eq hj u1 u3 ?_
            simp [w_M_comes, thrown_eq, hc, js_at, jup_at, v1, v2, v3, c1, c2, c3, d24, k0, x2, y2, fb, f1, f2, f3, f4, f5, g0, z]
            exact hK _ ⟨hG, iUp_rm u4 u1 hj, hR, ⟨c1, c2, rfl, c4, Or.inr rfl, ⟨y, y1, y2⟩, w, c7, c8, c9, c10⟩, hS0, hS1, hA0, hA1, hP⟩
          · refine hrec _ ?_
            refine (fun K' h => by simp [w_Cr_receiveCommand, w_Cr_receiveExpected, w_T_following, f1, f2, f3, g0, z]; exact h : ∀ K' : Jst → Prop, K' (jup σ 14 2 2) → w_Cr_receiveCommand (nI D) (σ 4 j) σ K') _ ?_
            refine uf_remove_eq hj u1 u2 ⟨rfl, ?_⟩
            unfold w_M_raise
            refine outside_no p' ?_
            refine fails_no ?_
            refine ⟨fun _ => ⟨hin, hin, hin, ?_⟩, fun h => absurd rfl h⟩
            refine m_out_eq hj u1 u3 ?_
            simp [w_M_comes, thrown_eq, hc, js_at, jup_at, v1, v2, v3, c1, c2, c3, d24, k0, x2, y2, fb, f1, f2, f3, f4, f5, g0, z]
            exact hK _ ⟨hG, iUp_rm u4 u1 hj, hR, ⟨rfl, c2, c3, Or.inr (Or.inr rfl), c5, ⟨y, y1, y2⟩, w, c7, c8, c9, c10⟩, hS0, hS1, hA0, hA1, hP⟩
          · refine hrec _ ?_
            refine (fun K' h => by simp [w_Cr_receiveCommand, w_Cr_receiveExpected, w_T_following, f1, f2, f3, g0, z]; exact h : ∀ K' : Jst → Prop, K' (σ) → w_Cr_receiveCommand (nI D) (σ 4 j) σ K') _ ?_
            refine uf_remove_eq hj u1 u2 ⟨rfl, ?_⟩
            unfold w_M_raise
            refine outside_no p' ?_
            refine fails_no ?_
            refine ⟨fun _ => ⟨hin, hin, hin, ?_⟩, fun h => absurd rfl h⟩
            refine m_out_eq hj u1 u3 ?_
            simp [w_M_comes, thrown_eq, hc, js_at, jup_at, v1, v2, v3, c1, c2, c3, d24, k0, x2, y2, fb, f1, f2, f3, f4, f5, g0, z]
            exact hK _ ⟨hG, iUp_rm u4 u1 hj, hR, hC, hS0, hS1, hA0, hA1, hP⟩
        · have z1 : ¬ (3 : Int32) ≤ σ 14 1 := by rw [c8]; exact fun q => absurd ((nI_leI (a := 3) (by decide) (by omega)).mp q) (by omega)
          have z2 : ¬ σ 14 1 = 3 := by rw [c8]; exact fun q => w3 ((nI_eq (b := 3) (by omega) (by decide)).mp q)
          have z3 : vp_in (σ 14 1) 3 := by rw [c8]; exact vp_in_nI (by omega) (by omega)
          have z4 : (σ 14 1).toNatClampNeg = w := by rw [c8]; exact nI_clamp (by omega)
          have z5 : σ 14 1 + 1 = nI (w + 1) := by rw [c8]; exact nI_1 w
          have z6 : nI y + 1 - (nI y + 1) / 16 * 16 = nI ((y + 1) % 16) := by rw [nI_1]; exact pk_rem (d := 16) (by omega) (by decide) (by decide)
          rcases hd with ⟨f1, f2, f3, f4, f5⟩ | ⟨f1, f2, f3, f4, f5⟩ | ⟨f1, f2, f3, f4, f5⟩ | ⟨f1, f2, f3, f4, f5⟩
          · refine hrec _ ?_
            refine (fun K' h => by simp [w_Cr_receiveCommand, w_Cr_receiveExpected, w_T_following, f1, f2, f3, g0, z1, z3, z4, z5, y2, z6, jup_at]; exact h : ∀ K' : Jst → Prop, K' (jup (jup (jup (jup σ 15 w (σ 4 j)) 14 1 (nI (w + 1))) 14 3 (nI ((y + 1) % 16))) 14 4 0) → w_Cr_receiveCommand (nI D) (σ 4 j) σ K') _ ?_
            refine uf_remove_eq hj u1 u2 ⟨rfl, ?_⟩
            unfold w_M_raise
            refine outside_no p' ?_
            refine fails_no ?_
            refine ⟨fun _ => ⟨hin, hin, hin, ?_⟩, fun h => absurd rfl h⟩
            refine m_out_eq hj u1 u3 ?_
            simp [w_M_comes, thrown_eq, hc, js_at, jup_at, v1, v2, v3, c1, c2, c3, d24, k0, x2, y2, fb, f1, f2, f3, f4, f5, g0, z2, z3, z4, z5, z6]
            exact hK _ ⟨hG, iUp_rm u4 u1 hj, hR, (by
              refine ⟨c1, rfl, rfl, c4, Or.inl rfl, ⟨(y + 1) % 16, Nat.mod_lt _ (by decide), rfl⟩, w + 1, by omega, rfl, rfl, fun i hi => ?_⟩
              show (if i = w then σ 4 j else σ 39 i) = (if i = w then σ 4 j else σ 15 i)
              by_cases e : i = w
              · rw [if_pos e, if_pos e]
              · rw [if_neg e, if_neg e]; exact c10 i (by omega)), hS0, hS1, hA0, hA1, hP⟩
          · refine hrec _ ?_
            refine (fun K' h => by simp [w_Cr_receiveCommand, w_Cr_receiveExpected, w_T_following, f1, f2, f3, g0]; exact h : ∀ K' : Jst → Prop, K' (jup σ 14 4 1) → w_Cr_receiveCommand (nI D) (σ 4 j) σ K') _ ?_
            refine uf_remove_eq hj u1 u2 ⟨rfl, ?_⟩
            unfold w_M_raise
            refine outside_no p' ?_
            refine fails_no ?_
            refine ⟨fun _ => ⟨hin, hin, hin, ?_⟩, fun h => absurd rfl h⟩
            refine m_out_eq hj u1 u3 ?_
            simp [w_M_comes, thrown_eq, hc, js_at, jup_at, v1, v2, v3, c1, c2, c3, d24, k0, x2, y2, fb, f1, f2, f3, f4, f5, g0, z2]
            exact hK _ ⟨hG, iUp_rm u4 u1 hj, hR, ⟨c1, c2, rfl, c4, Or.inr rfl, ⟨y, y1, y2⟩, w, c7, c8, c9, c10⟩, hS0, hS1, hA0, hA1, hP⟩
          · refine hrec _ ?_
            refine (fun K' h => by simp [w_Cr_receiveCommand, w_Cr_receiveExpected, w_T_following, f1, f2, f3, g0]; exact h : ∀ K' : Jst → Prop, K' (jup σ 14 2 2) → w_Cr_receiveCommand (nI D) (σ 4 j) σ K') _ ?_
            refine uf_remove_eq hj u1 u2 ⟨rfl, ?_⟩
            unfold w_M_raise
            refine outside_no p' ?_
            refine fails_no ?_
            refine ⟨fun _ => ⟨hin, hin, hin, ?_⟩, fun h => absurd rfl h⟩
            refine m_out_eq hj u1 u3 ?_
            simp [w_M_comes, thrown_eq, hc, js_at, jup_at, v1, v2, v3, c1, c2, c3, d24, k0, x2, y2, fb, f1, f2, f3, f4, f5, g0, z2]
            exact hK _ ⟨hG, iUp_rm u4 u1 hj, hR, ⟨rfl, c2, c3, Or.inr (Or.inr rfl), c5, ⟨y, y1, y2⟩, w, c7, c8, c9, c10⟩, hS0, hS1, hA0, hA1, hP⟩
          · refine hrec _ ?_
            refine (fun K' h => by simp [w_Cr_receiveCommand, w_Cr_receiveExpected, w_T_following, f1, f2, f3, g0]; exact h : ∀ K' : Jst → Prop, K' (σ) → w_Cr_receiveCommand (nI D) (σ 4 j) σ K') _ ?_
            refine uf_remove_eq hj u1 u2 ⟨rfl, ?_⟩
            unfold w_M_raise
            refine outside_no p' ?_
            refine fails_no ?_
            refine ⟨fun _ => ⟨hin, hin, hin, ?_⟩, fun h => absurd rfl h⟩
            refine m_out_eq hj u1 u3 ?_
            simp [w_M_comes, thrown_eq, hc, js_at, jup_at, v1, v2, v3, c1, c2, c3, d24, k0, x2, y2, fb, f1, f2, f3, f4, f5, g0, z2]
            exact hK _ ⟨hG, iUp_rm u4 u1 hj, hR, hC, hS0, hS1, hA0, hA1, hP⟩
      · rcases hd with ⟨f1, f2, f3, f4, f5⟩ | ⟨f1, f2, f3, f4, f5⟩ | ⟨f1, f2, f3, f4, f5⟩ | ⟨f1, f2, f3, f4, f5⟩
        · refine hrec _ ?_
          refine (fun K' h => by simp [w_Cr_receiveCommand, w_Cr_receiveExpected, w_T_following, f1, f2, f3, g0]; exact h : ∀ K' : Jst → Prop, K' (σ) → w_Cr_receiveCommand (nI D) (σ 4 j) σ K') _ ?_
          refine uf_remove_eq hj u1 u2 ⟨rfl, ?_⟩
          unfold w_M_raise
          refine outside_no p' ?_
          refine fails_no ?_
          refine ⟨fun _ => ⟨hin, hin, hin, ?_⟩, fun h => absurd rfl h⟩
          refine m_out_eq hj u1 u3 ?_
          simp [w_M_comes, thrown_eq, hc, js_at, jup_at, v1, v2, v3, c1, c2, c3, d24, k0, x2, y2, fb, f1, f2, f3, f4, f5, g0]
          exact hK _ ⟨hG, iUp_rm u4 u1 hj, hR, hC, hS0, hS1, hA0, hA1, hP⟩
        · refine hrec _ ?_
          refine (fun K' h => by simp [w_Cr_receiveCommand, w_Cr_receiveExpected, w_T_following, f1, f2, f3, g0]; exact h : ∀ K' : Jst → Prop, K' (σ) → w_Cr_receiveCommand (nI D) (σ 4 j) σ K') _ ?_
          refine uf_remove_eq hj u1 u2 ⟨rfl, ?_⟩
          unfold w_M_raise
          refine outside_no p' ?_
          refine fails_no ?_
          refine ⟨fun _ => ⟨hin, hin, hin, ?_⟩, fun h => absurd rfl h⟩
          refine m_out_eq hj u1 u3 ?_
          simp [w_M_comes, thrown_eq, hc, js_at, jup_at, v1, v2, v3, c1, c2, c3, d24, k0, x2, y2, fb, f1, f2, f3, f4, f5, g0]
          exact hK _ ⟨hG, iUp_rm u4 u1 hj, hR, hC, hS0, hS1, hA0, hA1, hP⟩
        · refine hrec _ ?_
          refine (fun K' h => by simp [w_Cr_receiveCommand, w_Cr_receiveExpected, w_T_following, f1, f2, f3, g0]; exact h : ∀ K' : Jst → Prop, K' (jup σ 14 2 2) → w_Cr_receiveCommand (nI D) (σ 4 j) σ K') _ ?_
          refine uf_remove_eq hj u1 u2 ⟨rfl, ?_⟩
          unfold w_M_raise
          refine outside_no p' ?_
          refine fails_no ?_
          refine ⟨fun _ => ⟨hin, hin, hin, ?_⟩, fun h => absurd rfl h⟩
          refine m_out_eq hj u1 u3 ?_
          simp [w_M_comes, thrown_eq, hc, js_at, jup_at, v1, v2, v3, c1, c2, c3, d24, k0, x2, y2, fb, f1, f2, f3, f4, f5, g0]
          exact hK _ ⟨hG, iUp_rm u4 u1 hj, hR, ⟨rfl, c2, c3, Or.inr (Or.inr rfl), c5, ⟨y, y1, y2⟩, w, c7, c8, c9, c10⟩, hS0, hS1, hA0, hA1, hP⟩
        · refine hrec _ ?_
          refine (fun K' h => by simp [w_Cr_receiveCommand, w_Cr_receiveExpected, w_T_following, f1, f2, f3, g0]; exact h : ∀ K' : Jst → Prop, K' (σ) → w_Cr_receiveCommand (nI D) (σ 4 j) σ K') _ ?_
          refine uf_remove_eq hj u1 u2 ⟨rfl, ?_⟩
          unfold w_M_raise
          refine outside_no p' ?_
          refine fails_no ?_
          refine ⟨fun _ => ⟨hin, hin, hin, ?_⟩, fun h => absurd rfl h⟩
          refine m_out_eq hj u1 u3 ?_
          simp [w_M_comes, thrown_eq, hc, js_at, jup_at, v1, v2, v3, c1, c2, c3, d24, k0, x2, y2, fb, f1, f2, f3, f4, f5, g0]
          exact hK _ ⟨hG, iUp_rm u4 u1 hj, hR, hC, hS0, hS1, hA0, hA1, hP⟩
    · refine (fun K' h => by simp [w_Cr_receive, w_Cr_reopen, k0]; exact h : ∀ K' : Jst → Prop, K' (jup (jup σ 14 2 0) 14 4 0) → w_Cr_receive (σ 2 j) (σ 3 j) (σ 4 j) σ K') _ ?_
      refine uf_remove_eq hj u1 u2 ⟨rfl, ?_⟩
      unfold w_M_raise
      refine outside_no p' ?_
      refine fails_no ?_
      refine ⟨fun _ => ⟨hin, hin, hin, ?_⟩, fun h => absurd rfl h⟩
      refine m_out_eq hj u1 u3 ?_
      simp [w_M_comes, thrown_eq, hc, js_at, jup_at, v1, v2, v3, c1, c2, c3, d24, k0, c1]
      exact hK _ ⟨hG, iUp_rm u4 u1 hj, hR, ⟨rfl, rfl, rfl, Or.inl rfl, Or.inl rfl, ⟨y, y1, y2⟩, w, c7, c8, c9, c10⟩, hS0, hS1, hA0, hA1, hP⟩
    · by_cases g2 : σ 14 2 = 2
      · refine (fun K' h => by simp [w_Cr_receive, w_Cr_reopen, k0, g2]; exact h : ∀ K' : Jst → Prop, K' (σ) → w_Cr_receive (σ 2 j) (σ 3 j) (σ 4 j) σ K') _ ?_
        refine uf_remove_eq hj u1 u2 ⟨rfl, ?_⟩
        unfold w_M_raise
        refine outside_no p' ?_
        refine fails_no ?_
        refine ⟨fun _ => ⟨hin, hin, hin, ?_⟩, fun h => absurd rfl h⟩
        refine m_out_eq hj u1 u3 ?_
        simp [w_M_comes, thrown_eq, hc, js_at, jup_at, v1, v2, v3, c1, c2, c3, d24, k0, g2]
        exact hK _ ⟨hG, iUp_rm u4 u1 hj, hR, hC, hS0, hS1, hA0, hA1, hP⟩
      · refine (fun K' h => by simp [w_Cr_receive, w_Cr_reopen, k0, g2]; exact h : ∀ K' : Jst → Prop, K' (jup (jup (jup σ 14 3 (σ 3 j)) 14 2 0) 14 4 0) → w_Cr_receive (σ 2 j) (σ 3 j) (σ 4 j) σ K') _ ?_
        refine uf_remove_eq hj u1 u2 ⟨rfl, ?_⟩
        unfold w_M_raise
        refine outside_no p' ?_
        refine fails_no ?_
        refine ⟨fun _ => ⟨hin, hin, hin, ?_⟩, fun h => absurd rfl h⟩
        refine m_out_eq hj u1 u3 ?_
        simp [w_M_comes, thrown_eq, hc, js_at, jup_at, v1, v2, v3, c1, c2, c3, d24, k0, g2]
        exact hK _ ⟨hG, iUp_rm u4 u1 hj, hR, ⟨rfl, rfl, rfl, Or.inl rfl, Or.inl rfl, ⟨x, x1, x2⟩, w, c7, c8, c9, c10⟩, hS0, hS1, hA0, hA1, hP⟩
