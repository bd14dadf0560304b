/-! a tick -/
def wB (u : Jst) (K : Int32 → Jst → Prop) : Prop := ((¬ (u 9 1) = (5 : Int32) → w_Gr_isSending u (fun r2 u1 => ((r2 = (0 : Int32) → K (-1 : Int32) u1) ∧ (¬ r2 = (0 : Int32) → w_Gr_sendCommand u1 (fun r4 u3 => K r4 u3))))) ∧ ((u 9 1) = (5 : Int32) → (((u 9 13) = (0 : Int32) → w_Gr_isSending u (fun r6 u5 => ((r6 = (0 : Int32) → K (-1 : Int32) u5) ∧ (¬ r6 = (0 : Int32) → w_Gr_sendCommand u5 (fun r8 u7 => K r8 u7))))) ∧ (¬ (u 9 13) = (0 : Int32) → w_Gr_sendStart u (fun r10 u9 => K r10 u9)))))
def mB (u : Jst) (K : Int32 → Jst → Prop) : Prop := ((¬ (u 33 1) = (5 : Int32) → (((u 33 1) = (1 : Int32) → (∃ n, w_M_tick_L99 K n (0 : Int32) u)) ∧ (¬ (u 33 1) = (1 : Int32) → (((u 33 1) = (2 : Int32) → (∃ n, w_M_tick_L99 K n (0 : Int32) u)) ∧ (¬ (u 33 1) = (2 : Int32) → K (-1 : Int32) u))))) ∧ ((u 33 1) = (5 : Int32) → (((u 33 12) = (0 : Int32) → (((u 33 1) = (1 : Int32) → (∃ n, w_M_tick_L99 K n (0 : Int32) u)) ∧ (¬ (u 33 1) = (1 : Int32) → (((u 33 1) = (2 : Int32) → (∃ n, w_M_tick_L99 K n (0 : Int32) u)) ∧ (¬ (u 33 1) = (2 : Int32) → K (-1 : Int32) u))))) ∧ (¬ (u 33 12) = (0 : Int32) → ((¬ (u 33 13) = (2 : Int32) → w_M_sends (u 33 13) (0 : Int32) (0 : Int32) (jup u 33 12 (0 : Int32)) (fun r2 u1 => K r2 u1)) ∧ ((u 33 13) = (2 : Int32) → w_M_sends (u 33 13) (u 33 2) (0 : Int32) (jup u 33 12 (0 : Int32)) (fun r4 u3 => K r4 u3)))))))
theorem pass_eq (σ : Jst) (K : Int32 → Jst → Prop) : w_Gr_pass σ K = (((σ 9 7) ≤ (0 : Int32) → wB σ K) ∧ (¬ (σ 9 7) ≤ (0 : Int32) → ((¬ ((σ 9 7) - (1 : Int32)) = (0 : Int32) → wB (jup σ 9 7 ((σ 9 7) - (1 : Int32))) K) ∧ (((σ 9 7) - (1 : Int32)) = (0 : Int32) → w_Gr_runOut (jup σ 9 7 ((σ 9 7) - (1 : Int32))) (fun u => wB u K))))) := rfl
theorem tick_eq (σ : Jst) (K : Int32 → Jst → Prop) : w_M_tick σ K = (((σ 33 5) ≤ (0 : Int32) → mB (jup σ 33 0 0) K) ∧ (¬ (σ 33 5) ≤ (0 : Int32) → ((¬ ((σ 33 5) - (1 : Int32)) = (0 : Int32) → mB (jup (jup σ 33 0 0) 33 5 ((σ 33 5) - (1 : Int32))) K) ∧ (((σ 33 5) - (1 : Int32)) = (0 : Int32) → w_M_rings (jup (jup σ 33 0 0) 33 5 ((σ 33 5) - (1 : Int32))) (fun u => mB u K))))) := rfl
/-- a send of both sides -/
theorem snd (τ : Jst) (hI : Inv τ) (hm : ¬ τ 9 1 = 0) (kd c : Int32) (hkd : kd = 0 ∨ kd = 1 ∨ kd = 2) (x : Nat) (hx : x < 16) : ∃ a b : Jst, Inv (mg a b) ∧ (∀ (t : Jst) (K : Int32 → Jst → Prop), K kd (mg a t) → w_Gr_send kd (nI x) c (mg τ t) K) ∧ (∀ (t : Jst) (K : Int32 → Jst → Prop), K kd (mg t b) → w_M_sends kd (nI x) c (mg t τ) K) := by
  obtain ⟨hG, hU, hR, hC, hS0, hS1, hA0, hA1, hP⟩ := id hI
  obtain ⟨⟨e1, e2, e3, e4, e5, e6, e7, e8, e9, e10, e11⟩, g2, g3, g4, g5, g6, g7⟩ := id hG
  obtain ⟨m, u1, u2, u3, u4⟩ := id hU
  by_cases q : m = 20
  · have z : τ 1 3 = 20 := by rw [u2, q]; rfl
    have z' : τ 33 17 = 20 := by rw [u3, q]; rfl
    refine ⟨jup τ 9 7 (τ 9 11), jup τ 33 5 (τ 33 9), ⟨⟨⟨e1, e2, e3, e4, e9, e6, e7, e8, e9, e10, e11⟩, g2, g3, g4, fun h => absurd h hm, g6, g7⟩, hU, hR, hC, hS0, hS1, hA0, hA1, hP⟩, ?_, ?_⟩
    · intro t K h
      simp [w_Gr_send, w_Uf_add, mg_at, mg_up, z]
      exact h
    · intro t K h
      simp [w_M_sends, mg_at, mg_up, z']
      exact h
  · have z1 : ¬ (20 : Int32) ≤ τ 1 3 := by rw [u2]; exact fun h => absurd ((nI_leI (a := 20) (by decide) (by omega)).mp h) (by omega)
    have z1' : ¬ (20 : Int32) ≤ τ 33 17 := by rw [u3]; exact fun h => absurd ((nI_leI (a := 20) (by decide) (by omega)).mp h) (by omega)
    have z2 : vp_in (τ 1 3) 20 := by rw [u2]; exact vp_in_nI (by omega) (by omega)
    have z2' : vp_in (τ 33 17) 20 := by rw [u3]; exact vp_in_nI (by omega) (by omega)
    have z3 : (τ 1 3).toNatClampNeg = m := by rw [u2]; exact nI_clamp (by omega)
    have z3' : (τ 33 17).toNatClampNeg = m := by rw [u3]; exact nI_clamp (by omega)
    have z4 : τ 1 3 + 1 = nI (m + 1) := by rw [u2]; exact nI_1 m
    have z4' : τ 33 17 + 1 = nI (m + 1) := by rw [u3]; exact nI_1 m
    refine ⟨jup (jup (jup (jup (jup τ 2 m kd) 3 m (nI x)) 4 m c) 1 3 (nI (m + 1))) 9 7 (τ 9 11), jup (jup (jup (jup (jup τ 33 5 (τ 33 9)) 36 m kd) 37 m (nI x)) 38 m c) 33 17 (nI (m + 1)), ⟨⟨⟨e1, e2, e3, e4, e9, e6, e7, e8, e9, e10, e11⟩, g2, g3, g4, fun h => absurd h hm, g6, g7⟩, ?_, hR, hC, hS0, hS1, hA0, hA1, hP⟩, ?_, ?_⟩
    · refine ⟨m + 1, by omega, rfl, rfl, fun j hj => ?_⟩
      show (if j = m then kd else τ 36 j) = (if j = m then kd else τ 2 j) ∧ (if j = m then nI x else τ 37 j) = (if j = m then nI x else τ 3 j) ∧ (if j = m then c else τ 38 j) = (if j = m then c else τ 4 j) ∧ ((if j = m then kd else τ 2 j) = 0 ∨ (if j = m then kd else τ 2 j) = 1 ∨ (if j = m then kd else τ 2 j) = 2) ∧ ∃ x1 : Nat, x1 < 16 ∧ (if j = m then nI x else τ 3 j) = nI x1
      by_cases e : j = m
      · simp only [if_pos e]
        exact ⟨trivial, trivial, trivial, hkd, x, hx, rfl⟩
      · simp only [if_neg e]
        exact u4 j (by omega)
    · intro t K h
      simp [w_Gr_send, w_Uf_add, mg_at, mg_up, z1, z2, z3, z4, jup_at]
      exact h
    · intro t K h
      simp [w_M_sends, mg_at, mg_up, z1', z2', z3', z4', jup_at]
      exact h
theorem tickA (σ : Jst) (hI : Inv σ) : ∃ a b : Jst, Inv (mg a b) ∧ (∀ (t : Jst) (K : Int32 → Jst → Prop), wB (mg a t) K → w_Gr_pass (mg σ t) K) ∧ (∀ (t : Jst) (K : Int32 → Jst → Prop), mB (mg t b) K → w_M_tick (mg t σ) K) := by
  obtain ⟨hG, hU, hR, hC, hS0, hS1, hA0, hA1, hP⟩ := id hI
  obtain ⟨⟨e1, e2, e3, e4, e5, e6, e7, e8, e9, e10, e11⟩, g2, g3, g4, g5, g6, g7⟩ := id hG
  by_cases n1 : σ 9 7 ≤ 0
  · refine ⟨σ, jup σ 33 0 0, hI, ?_, ?_⟩
    · intro t K h
      rw [pass_eq]
      simp [mg_at, n1]; exact h
    · intro t K h
      rw [tick_eq]
      simp [mg_at, mg_up, e5, n1]; exact h
  · have n0 : ¬ σ 9 1 = 0 := fun h => n1 (by rw [(g5 h).1]; decide)
    by_cases t1 : σ 9 7 - 1 = 0
    · by_cases ht : σ 9 6 < σ 9 10
      · have ht' : ¬ σ 9 10 ≤ σ 9 6 := Int32.not_le.mpr ht
        obtain ⟨o, k, h1, h2, h3, h4, h5, h6, h7⟩ := id g7
        rcases g2 with m0 | m0 | m0 | m0 | m0 | m0
        · exact absurd m0 n0
        · refine ⟨jset (jup (jup σ 9 7 (σ 9 7 - 1)) 9 6 (σ 9 6 + 1)) 13 (mkf (σ 13) k), jset (jup (jup (jup (jup σ 33 0 0) 33 5 (σ 33 5 - 1)) 33 4 (σ 33 4 + 1)) 33 1 (σ 33 1)) 35 (mkf (σ 35) k), ⟨⟨⟨e1, e2, e3, congrArg (· + 1) e4, congrArg (· - 1) e5, e6, e7, e8, e9, e10, e11⟩, hG.2.1, g3, g4, fun h => absurd h n0, fun h => absurd (m0.symm.trans h) (by decide), pd_mark h2 h4 g7⟩, hU, hR, hC, hS0, hS1, hA0, hA1, hP⟩, ?_, ?_⟩
          · intro t K h
            rw [pass_eq]
            simp [w_Gr_runOut, w_Gr_alarm, w_Gr_finish, w_Un_clear, w_Gr_isSending, mg_at, mg_up, jup_at, w_Gr_tryAgain, n1, t1, ht, m0]
            refine mark_eq (m := k) h2 h4 ?_
            rw [mg_js, if_pos (by decide)]
            rw [t1] at h
            exact h
          · intro t K h
            rw [tick_eq]
            simp [w_M_rings, w_M_alarm, w_M_ends, mg_at, mg_up, jup_at, e1, e4, e5, e8, w_M_resend, n1, t1, ht, ht', m0]
            refine res_eq (m := k) _ h2 h5 ?_
            rw [mg_js, if_neg (by decide)]
            simp [e1, e4, e5, t1, m0] at h
            exact h
        · refine ⟨jset (jup (jup σ 9 7 (σ 9 7 - 1)) 9 6 (σ 9 6 + 1)) 13 (mkf (σ 13) k), jset (jup (jup (jup (jup σ 33 0 0) 33 5 (σ 33 5 - 1)) 33 4 (σ 33 4 + 1)) 33 1 (σ 33 1)) 35 (mkf (σ 35) k), ⟨⟨⟨e1, e2, e3, congrArg (· + 1) e4, congrArg (· - 1) e5, e6, e7, e8, e9, e10, e11⟩, hG.2.1, g3, g4, fun h => absurd h n0, fun h => absurd (m0.symm.trans h) (by decide), pd_mark h2 h4 g7⟩, hU, hR, hC, hS0, hS1, hA0, hA1, hP⟩, ?_, ?_⟩
          · intro t K h
            rw [pass_eq]
            simp [w_Gr_runOut, w_Gr_alarm, w_Gr_finish, w_Un_clear, w_Gr_isSending, mg_at, mg_up, jup_at, w_Gr_tryAgain, n1, t1, ht, m0]
            refine mark_eq (m := k) h2 h4 ?_
            rw [mg_js, if_pos (by decide)]
            rw [t1] at h
            exact h
          · intro t K h
            rw [tick_eq]
            simp [w_M_rings, w_M_alarm, w_M_ends, mg_at, mg_up, jup_at, e1, e4, e5, e8, w_M_resend, n1, t1, ht, ht', m0]
            refine res_eq (m := k) _ h2 h5 ?_
            rw [mg_js, if_neg (by decide)]
            simp [e1, e4, e5, t1, m0] at h
            exact h
        · refine ⟨jup σ 9 7 (σ 9 7 - 1), jup (jup σ 33 0 0) 33 5 (σ 33 5 - 1), ⟨⟨⟨e1, e2, e3, e4, congrArg (· - 1) e5, e6, e7, e8, e9, e10, e11⟩, hG.2.1, g3, g4, fun h => absurd h n0, g6, g7⟩, hU, hR, hC, hS0, hS1, hA0, hA1, hP⟩, ?_, ?_⟩
          · intro t K h
            rw [pass_eq]
            simp [w_Gr_runOut, w_Gr_alarm, w_Gr_finish, w_Un_clear, w_Gr_isSending, mg_at, mg_up, jup_at, n1, t1, ht, m0]; rw [t1] at h; exact h
          · intro t K h
            rw [tick_eq]
            simp [w_M_rings, w_M_alarm, w_M_ends, mg_at, mg_up, jup_at, e1, e4, e5, e8, n1, t1, ht, ht', m0]; simp [e5, t1] at h; exact h
        · refine ⟨jup (jup (jup (jup (jup (jup (jup σ 9 7 (σ 9 7 - 1)) 9 8 5) 9 1 0) 10 3 0) 9 4 0) 9 3 (σ 9 2)) 9 7 0, jup (jup (jup (jup (jup (jup (jup (jup σ 33 0 0) 33 5 (σ 33 5 - 1)) 33 6 5) 33 1 0) 33 14 0) 33 10 0) 33 3 (σ 33 2)) 33 5 0, ⟨⟨⟨rfl, e2, e2, e4, rfl, rfl, e7, e8, e9, rfl, e11⟩, Or.inl rfl, Or.inl rfl, g4, fun _ => ⟨rfl, rfl⟩, fun h => absurd (show (0 : Int32) = 5 from h) (by decide), pd1 g7⟩, hU, hR, hC, hS0, hS1, hA0, hA1, hP⟩, ?_, ?_⟩
          · intro t K h
            rw [pass_eq]
            simp [w_Gr_runOut, w_Gr_alarm, w_Gr_finish, w_Un_clear, w_Gr_isSending, mg_at, mg_up, jup_at, n1, t1, ht, ht', m0]; simp [t1] at h; exact h
          · intro t K h
            rw [tick_eq]
            simp [w_M_rings, w_M_alarm, w_M_ends, mg_at, mg_up, jup_at, e1, e4, e5, e8, n1, t1, ht, ht', m0]; simp [e5, t1] at h; exact h
        · refine ⟨jup (jup (jup σ 9 7 (σ 9 7 - 1)) 9 6 (σ 9 6 + 1)) 9 13 1, jup (jup (jup (jup σ 33 0 0) 33 5 (σ 33 5 - 1)) 33 4 (σ 33 4 + 1)) 33 12 1, ⟨⟨⟨e1, e2, e3, congrArg (· + 1) e4, congrArg (· - 1) e5, e6, e7, e8, e9, e10, e11⟩, hG.2.1, g3, g4, fun h => absurd h n0, fun h => ⟨rfl, (g6 m0).2⟩, g7⟩, hU, hR, hC, hS0, hS1, hA0, hA1, hP⟩, ?_, ?_⟩
          · intro t K h
            rw [pass_eq]
            simp [w_Gr_runOut, w_Gr_alarm, w_Gr_finish, w_Un_clear, w_Gr_isSending, mg_at, mg_up, jup_at, n1, t1, ht, m0]; simp [t1] at h; exact h
          · intro t K h
            rw [tick_eq]
            simp [w_M_rings, w_M_alarm, w_M_ends, mg_at, mg_up, jup_at, e1, e4, e5, e8, n1, t1, ht, ht', m0]; simp [e4, e5, t1] at h; exact h
      · have ht' : σ 9 10 ≤ σ 9 6 := Int32.not_lt.mp ht
        rcases g2 with m0 | m0 | m0 | m0 | m0 | m0
        · exact absurd m0 n0
        · refine ⟨jup (jup (jup (jup (jup (jup (jup σ 9 7 (σ 9 7 - 1)) 9 8 5) 9 1 0) 10 3 0) 9 4 0) 9 3 (σ 9 2)) 9 7 0, jup (jup (jup (jup (jup (jup (jup (jup σ 33 0 0) 33 5 (σ 33 5 - 1)) 33 6 5) 33 1 0) 33 14 0) 33 10 0) 33 3 (σ 33 2)) 33 5 0, ⟨⟨⟨rfl, e2, e2, e4, rfl, rfl, e7, e8, e9, rfl, e11⟩, Or.inl rfl, Or.inl rfl, g4, fun _ => ⟨rfl, rfl⟩, fun h => absurd (show (0 : Int32) = 5 from h) (by decide), pd1 g7⟩, hU, hR, hC, hS0, hS1, hA0, hA1, hP⟩, ?_, ?_⟩
          · intro t K h
            rw [pass_eq]
            simp [w_Gr_runOut, w_Gr_alarm, w_Gr_finish, w_Un_clear, w_Gr_isSending, mg_at, mg_up, jup_at, n1, t1, ht, ht', m0]; simp [t1] at h; exact h
          · intro t K h
            rw [tick_eq]
            simp [w_M_rings, w_M_alarm, w_M_ends, mg_at, mg_up, jup_at, e1, e4, e5, e8, n1, t1, ht, ht', m0]; simp [e5, t1] at h; exact h
        · refine ⟨jup (jup (jup (jup (jup (jup (jup σ 9 7 (σ 9 7 - 1)) 9 8 5) 9 1 0) 10 3 0) 9 4 0) 9 3 (σ 9 2)) 9 7 0, jup (jup (jup (jup (jup (jup (jup (jup σ 33 0 0) 33 5 (σ 33 5 - 1)) 33 6 5) 33 1 0) 33 14 0) 33 10 0) 33 3 (σ 33 2)) 33 5 0, ⟨⟨⟨rfl, e2, e2, e4, rfl, rfl, e7, e8, e9, rfl, e11⟩, Or.inl rfl, Or.inl rfl, g4, fun _ => ⟨rfl, rfl⟩, fun h => absurd (show (0 : Int32) = 5 from h) (by decide), pd1 g7⟩, hU, hR, hC, hS0, hS1, hA0, hA1, hP⟩, ?_, ?_⟩
          · intro t K h
            rw [pass_eq]
            simp [w_Gr_runOut, w_Gr_alarm, w_Gr_finish, w_Un_clear, w_Gr_isSending, mg_at, mg_up, jup_at, n1, t1, ht, ht', m0]; simp [t1] at h; exact h
          · intro t K h
            rw [tick_eq]
            simp [w_M_rings, w_M_alarm, w_M_ends, mg_at, mg_up, jup_at, e1, e4, e5, e8, n1, t1, ht, ht', m0]; simp [e5, t1] at h; exact h
        · refine ⟨jup (jup (jup (jup (jup (jup (jup σ 9 7 (σ 9 7 - 1)) 9 8 5) 9 1 0) 10 3 0) 9 4 0) 9 3 (σ 9 2)) 9 7 0, jup (jup (jup (jup (jup (jup (jup (jup σ 33 0 0) 33 5 (σ 33 5 - 1)) 33 6 5) 33 1 0) 33 14 0) 33 10 0) 33 3 (σ 33 2)) 33 5 0, ⟨⟨⟨rfl, e2, e2, e4, rfl, rfl, e7, e8, e9, rfl, e11⟩, Or.inl rfl, Or.inl rfl, g4, fun _ => ⟨rfl, rfl⟩, fun h => absurd (show (0 : Int32) = 5 from h) (by decide), pd1 g7⟩, hU, hR, hC, hS0, hS1, hA0, hA1, hP⟩, ?_, ?_⟩
          · intro t K h
            rw [pass_eq]
            simp [w_Gr_runOut, w_Gr_alarm, w_Gr_finish, w_Un_clear, w_Gr_isSending, mg_at, mg_up, jup_at, n1, t1, ht, ht', m0]; simp [t1] at h; exact h
          · intro t K h
            rw [tick_eq]
            simp [w_M_rings, w_M_alarm, w_M_ends, mg_at, mg_up, jup_at, e1, e4, e5, e8, n1, t1, ht, ht', m0]; simp [e5, t1] at h; exact h
        · refine ⟨jup (jup (jup (jup (jup (jup (jup σ 9 7 (σ 9 7 - 1)) 9 8 5) 9 1 0) 10 3 0) 9 4 0) 9 3 (σ 9 2)) 9 7 0, jup (jup (jup (jup (jup (jup (jup (jup σ 33 0 0) 33 5 (σ 33 5 - 1)) 33 6 5) 33 1 0) 33 14 0) 33 10 0) 33 3 (σ 33 2)) 33 5 0, ⟨⟨⟨rfl, e2, e2, e4, rfl, rfl, e7, e8, e9, rfl, e11⟩, Or.inl rfl, Or.inl rfl, g4, fun _ => ⟨rfl, rfl⟩, fun h => absurd (show (0 : Int32) = 5 from h) (by decide), pd1 g7⟩, hU, hR, hC, hS0, hS1, hA0, hA1, hP⟩, ?_, ?_⟩
          · intro t K h
            rw [pass_eq]
            simp [w_Gr_runOut, w_Gr_alarm, w_Gr_finish, w_Un_clear, w_Gr_isSending, mg_at, mg_up, jup_at, n1, t1, ht, ht', m0]; simp [t1] at h; exact h
          · intro t K h
            rw [tick_eq]
            simp [w_M_rings, w_M_alarm, w_M_ends, mg_at, mg_up, jup_at, e1, e4, e5, e8, n1, t1, ht, ht', m0]; simp [e5, t1] at h; exact h
        · refine ⟨jup (jup (jup (jup (jup (jup (jup σ 9 7 (σ 9 7 - 1)) 9 8 5) 9 1 0) 10 3 0) 9 4 0) 9 3 (σ 9 2)) 9 7 0, jup (jup (jup (jup (jup (jup (jup (jup σ 33 0 0) 33 5 (σ 33 5 - 1)) 33 6 5) 33 1 0) 33 14 0) 33 10 0) 33 3 (σ 33 2)) 33 5 0, ⟨⟨⟨rfl, e2, e2, e4, rfl, rfl, e7, e8, e9, rfl, e11⟩, Or.inl rfl, Or.inl rfl, g4, fun _ => ⟨rfl, rfl⟩, fun h => absurd (show (0 : Int32) = 5 from h) (by decide), pd1 g7⟩, hU, hR, hC, hS0, hS1, hA0, hA1, hP⟩, ?_, ?_⟩
          · intro t K h
            rw [pass_eq]
            simp [w_Gr_runOut, w_Gr_alarm, w_Gr_finish, w_Un_clear, w_Gr_isSending, mg_at, mg_up, jup_at, n1, t1, ht, ht', m0]; simp [t1] at h; exact h
          · intro t K h
            rw [tick_eq]
            simp [w_M_rings, w_M_alarm, w_M_ends, mg_at, mg_up, jup_at, e1, e4, e5, e8, n1, t1, ht, ht', m0]; simp [e5, t1] at h; exact h
    · refine ⟨jup σ 9 7 (σ 9 7 - 1), jup (jup σ 33 0 0) 33 5 (σ 33 5 - 1), ⟨⟨⟨e1, e2, e3, e4, congrArg (· - 1) e5, e6, e7, e8, e9, e10, e11⟩, g2, g3, g4, fun h => absurd h n0, g6, g7⟩, hU, hR, hC, hS0, hS1, hA0, hA1, hP⟩, ?_, ?_⟩
      · intro t K h
        rw [pass_eq]
        simp [mg_at, mg_up, n1, t1]; exact h
      · intro t K h
        rw [tick_eq]
        simp [mg_at, mg_up, e5, n1, t1]; simp [e5] at h; exact h
