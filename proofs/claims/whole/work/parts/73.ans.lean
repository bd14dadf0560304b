/-! a report comes, or is lost -/
theorem inv_fr {σ a b : Jst} (hI : Inv σ) (fa : ∀ h, h < 9 ∨ 13 < h → h < 33 → a h = σ h) (fb : ∀ h, 35 < h → b h = σ h) (f3 : ∀ j, 14 < j → b 33 j = σ 33 j) (hG : iG (mg a b)) : Inv (mg a b) := by
  obtain ⟨_, hU, hR, hC, hS0, hS1, hA0, hA1, hP⟩ := id hI
  refine ⟨hG, ?_, ?_, ?_, ?_, ?_, ?_, ?_, ?_⟩
  · show iUp (a 1 3) (b 33 17) (a 2) (a 3) (a 4) (b 36) (b 37) (b 38)
    rw [fa 1 (by omega) (by omega), fa 2 (by omega) (by omega), fa 3 (by omega) (by omega), fa 4 (by omega) (by omega), fb 36 (by omega), fb 37 (by omega), fb 38 (by omega), f3 17 (by omega)]
    exact hU
  · show iRe (a 5 3) (b 33 26) (a 6) (a 7) (a 8) (b 40)
    rw [fa 5 (by omega) (by omega), fa 6 (by omega) (by omega), fa 7 (by omega) (by omega), fa 8 (by omega) (by omega), fb 40 (by omega), f3 26 (by omega)]
    exact hR
  · show iCr (a 14 1) (a 14 2) (a 14 3) (a 14 4) (b 33 21) (b 33 22) (b 33 23) (b 33 24) (a 15) (b 39)
    rw [fa 14 (by omega) (by omega), fa 15 (by omega) (by omega), fb 39 (by omega), f3 21 (by omega), f3 22 (by omega), f3 23 (by omega), f3 24 (by omega)]
    exact hC
  · show iSt (a 18 2) (a 18 3) (b 41 0) (b 42 0) (b 44 0) (a 19) (a 20) (b 43) 0
    rw [fa 18 (by omega) (by omega), fa 19 (by omega) (by omega), fa 20 (by omega) (by omega), fb 41 (by omega), fb 42 (by omega), fb 43 (by omega), fb 44 (by omega)]
    exact hS0
  · show iSt (a 22 2) (a 22 3) (b 41 1) (b 42 1) (b 44 1) (a 23) (a 24) (b 43) 1
    rw [fa 22 (by omega) (by omega), fa 23 (by omega) (by omega), fa 24 (by omega) (by omega), fb 41 (by omega), fb 42 (by omega), fb 43 (by omega), fb 44 (by omega)]
    exact hS1
  · show iAs (a 21 0) (a 21 1) (a 21 2) (a 21 3) (a 21 4) (a 21 5) (a 21 6) (b 45 0) (b 46 0) (b 47 0) (b 48 0) (b 49 0) (b 50 0) 0
    rw [fa 21 (by omega) (by omega), fb 45 (by omega), fb 46 (by omega), fb 47 (by omega), fb 48 (by omega), fb 49 (by omega), fb 50 (by omega)]
    exact hA0
  · show iAs (a 25 0) (a 25 1) (a 25 2) (a 25 3) (a 25 4) (a 25 5) (a 25 6) (b 45 1) (b 46 1) (b 47 1) (b 48 1) (b 49 1) (b 50 1) 1
    rw [fa 25 (by omega) (by omega), fb 45 (by omega), fb 46 (by omega), fb 47 (by omega), fb 48 (by omega), fb 49 (by omega), fb 50 (by omega)]
    exact hA1
  · show iGo (a 28 4) (b 33 39) (a 29) (a 30) (a 31) (a 32) (b 52)
    rw [fa 28 (by omega) (by omega), fa 29 (by omega) (by omega), fa 30 (by omega) (by omega), fa 31 (by omega) (by omega), fa 32 (by omega) (by omega), fb 52 (by omega), f3 39 (by omega)]
    exact hP
theorem ans (w : Int32) (hw : w = 0 ∨ w = 1) (a1 : Int32) (σ : Jst) (K : Jst → Prop) (hI : Inv σ) (hK : ∀ u, Inv u → K u) : w_L_answer a1 w σ (fun r52 u51 => w_M_answer a1 w u51 (fun u53 => w_M_thrown u53 (fun r55 u54 => ((r55 = r52 → K u54) ∧ (¬ r55 = r52 → False))))) := by
  obtain ⟨hG, hU, hR, hC, hS0, hS1, hA0, hA1, hP⟩ := id hI
  obtain ⟨m, r1, r2, r3, r4⟩ := id hR
  have d26 : σ 33 26 = σ 5 3 := r3.trans r2.symm
  by_cases p : a1 < 0 ∨ σ 5 3 ≤ a1
  · simp [w_L_answer, w_T_answer, w_M_answer, has_rp, outside_eq, fails_eq, thrown_eq, p, d26, (sub_lt (a := a1) (by omega) r2).mpr p, jup_at]
    exact hK _ (inv_thr hI)
  · have p' : ¬ (a1 < 0 ∨ σ 33 26 - 1 < a1) := by rw [d26]; exact (not_congr (sub_lt (a := a1) (by omega) r2)).mpr p
    obtain ⟨j, hj, rfl⟩ := ix_of (by omega) r2 p
    have hin : vp_in (nI j) 20 := vp_in_nI (by omega) (by omega)
    have hc : (nI j).toNatClampNeg = j := nI_clamp (by omega)
    obtain ⟨q1, q2, x, x1, x2, x3⟩ := r4 j hj
    rw [show σ = mg σ σ from (mg_self σ).symm]
    unfold w_L_answer w_T_answer
    rw [has_rp, if_neg (show ¬ (nI j < 0 ∨ (mg σ σ) 5 3 ≤ nI j) from p)]
    refine ⟨fun _ => ?_, fun h => absurd h (by decide)⟩
    rcases hw with rfl | rfl
    · refine ⟨fun h => absurd rfl h, fun _ => ?_⟩
      refine ⟨hin, hin, ?_, hin, ?_⟩
      · rw [hc]
        show narrow .boolean (.int (σ 7 j)) = .int (σ 7 j)
        rcases q1 with e | e <;> rw [e] <;> rfl
      · rw [hc]
        show w_Gr_hear (σ 6 j) (σ 7 j) (σ 8 j) (mg σ σ) _
        rw [x2]
        have hG1 : iG (mg σ (jup (jset (jup σ 33 0 0) 40 (shk (σ 40) j 1 m)) 33 26 (nI (m - 1)))) := hG
        obtain ⟨a, b, i1, i2, i3, i4, i5, i6⟩ := hear σ _ hG1 x x1 (σ 7 j) (σ 8 j) q1 q2
        refine i1 σ _ ?_
        refine rp_rm_mg hj r1 (by rw [i3 5 (by omega)]; exact r2) (fun i hi => by rw [i3 7 (by omega)]; exact (r4 i hi).1) ⟨rfl, ?_⟩
        unfold w_M_answer
        refine outside_no p' ?_
        refine fails_no ?_
        rw [mg_up, if_neg (by decide)]
        refine ⟨fun _ => ⟨hin, ?_⟩, fun h => absurd rfl h⟩
        rw [hc]
        show ∃ n, w_M_answer_L30 _ n (nI j) 0 (σ 40 j) (nI j) _
        rw [x3]
        refine ans_mg (b := jup σ 33 0 0) _ hj r1 r3 ?_
        refine i2 _ _ ?_
        refine ⟨fun _ => hK _ ?_, fun h => h (i5 0 (Or.inl rfl))⟩
        have hI2 : Inv (mg (jup (jset (jset (jset σ 6 (shk (σ 6) j 1 m)) 7 (shk (σ 7) j 1 m)) 8 (shk (σ 8) j 1 m)) 5 3 (nI (m - 1))) (jup (jset σ 40 (shk (σ 40) j 1 m)) 33 26 (nI (m - 1)))) := ⟨hG, hU, iRe_rm r4 r1 hj, hC, hS0, hS1, hA0, hA1, hP⟩
        refine inv_fr hI2 ?_ ?_ ?_ i6
        · intro h hh h33
          rw [mg_h, if_pos h33]
          by_cases e5 : h = 5
          · subst e5; simp [jup_h, js_h, i3]
          · by_cases e6 : h = 6
            · subst e6; simp [jup_h, js_h, i3]
            · by_cases e7 : h = 7
              · subst e7; simp [jup_h, js_h, i3]
              · by_cases e8 : h = 8
                · subst e8; simp [jup_h, js_h, i3]
                · simp [jup_h, js_h, e5, e6, e7, e8]; exact i3 h hh
        · intro h hh
          rw [mg_h, if_neg (by omega), i4 h hh]
          have n33 : ¬ h = 33 := by omega
          simp [jup_h, js_h, n33]
        · intro i hi
          rw [mg_at, if_neg (by decide), i5 i (Or.inr hi)]
          have n0 : ¬ i = 0 := by omega
          simp [jup_at, js_at, n0]
    · refine ⟨fun _ => ?_, fun h => absurd h (by decide)⟩
      refine rp_rm_mg hj r1 r2 (fun i hi => (r4 i hi).1) ⟨rfl, ?_⟩
      unfold w_M_answer
      refine outside_no p' ?_
      refine fails_no ?_
      rw [mg_up, if_neg (by decide)]
      refine ⟨fun _ => ⟨hin, ?_⟩, fun h => absurd rfl h⟩
      refine ans1_mg (b := jup σ 33 0 0) _ hj r1 r3 ?_
      refine ⟨fun _ => hK _ ?_, fun h => h rfl⟩
      exact ⟨hG, hU, iRe_rm r4 r1 hj, hC, hS0, hS1, hA0, hA1, hP⟩
theorem q_10 (a1 a2 a3 : Int32) (σ : Jst) (K : Jst → Prop) (hI : Inv σ) (hK : ∀ u, Inv u → K u) : wc_10 a1 a2 a3 σ K := by
  by_cases h : a2 = 0
  · have key := ans 0 (Or.inl rfl) a1 σ K hI hK
    unfold wc_10
    simp only [h, not_true, false_imp_iff, true_imp_iff, and_true]
    exact key
  · have key := ans 1 (Or.inr rfl) a1 σ K hI hK
    unfold wc_10
    simp only [h, not_false_iff, false_imp_iff, true_imp_iff, true_and]
    exact key
