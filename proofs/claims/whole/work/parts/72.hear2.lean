/-! a report is heard -/
theorem js_h (σ : Jst) (h a : Nat) (f : Nat → Int32) : jset σ h f a = if a = h then f else σ a := by
  unfold jset
  by_cases h1 : a = h
  · subst h1; simp
  · simp [beq_ff h1, h1]
theorem pd_ack0 {nx od sz op : Int32} {nu cm mk cm' mk' : Nat → Int32} {o k D x : Nat} (z : nI (k - D) = 0) (hD : D ≤ k) (hx : x < 16) (hxo : (o + D) % 16 = x) (h2 : k ≤ 4) (h6 : nx = nI ((o + k) % 16)) (h7 : ∀ j, j < k → nu j = nI ((o + j) % 16) ∧ cm' j = cm j ∧ mk' j = mk j ∧ (mk j = 0 ∨ mk j = 1)) : iPd nx (nI x) 0 0 (shk nu 0 D k) (shk cm 0 D k) (shk mk 0 D k) (shk cm' 0 D k) (shk mk' 0 D k) := by
  have q := pd_ack (od := od) (sz := sz) (op := op) hD hx hxo h2 h6 h7
  rw [z] at q
  exact q
theorem hear (σ ρ : Jst) (hG : iG (mg σ ρ)) (x : Nat) (hx : x < 16) (ag ga : Int32) (hag : ag = 0 ∨ ag = 1) (hga : ga = 0 ∨ ga = 1 ∨ ga = 2) : ∃ a b : Jst, (∀ (t : Jst) (K : Jst → Prop), K (mg a t) → w_Gr_hear (nI x) ag ga (mg σ t) K) ∧ (∀ (t : Jst) (K : Jst → Prop), K (mg t b) → mH (pack x ag ga) (mg t ρ) K) ∧ (∀ h, h < 9 ∨ 13 < h → a h = σ h) ∧ (∀ h, 35 < h → b h = ρ h) ∧ (∀ j, j = 0 ∨ 14 < j → b 33 j = ρ 33 j) ∧ iG (mg a b) := by
  have hG' : iGr (σ 9 1) (σ 9 2) (σ 9 3) (σ 9 4) (σ 9 5) (σ 9 6) (σ 9 7) (σ 9 8) (σ 9 9) (σ 9 10) (σ 9 11) (σ 9 12) (σ 9 13) (σ 10 3) (ρ 33 1) (ρ 33 2) (ρ 33 3) (ρ 33 4) (ρ 33 5) (ρ 33 6) (ρ 33 7) (ρ 33 8) (ρ 33 9) (ρ 33 10) (ρ 33 11) (ρ 33 12) (ρ 33 13) (ρ 33 14) (σ 11) (σ 12) (σ 13) (ρ 34) (ρ 35) := hG
  obtain ⟨⟨e1, e2, e3, e4, e5, e6, e7, e8, e9, e10, e11⟩, g2, g3, g4, g5, g6, g7⟩ := id hG'
  obtain ⟨o, k, h1, h2, h3, h4, h5, h6, h7⟩ := id g7
  have r0 := pack_rem ⟨x, hx⟩
  have r1 := pack_16 ⟨x, hx⟩
  have r2 := pack_32 ⟨x, hx⟩
  have r3 := pack_lt ⟨x, hx⟩
  have r4 := pack_eq ⟨x, hx⟩
  simp only at r0 r1 r2 r3 r4
  obtain ⟨r00, r01, r02, r03⟩ := r0
  obtain ⟨r10, r11, r12, r13⟩ := r1
  obtain ⟨⟨r20, r21, r22, r23⟩, r24, r25⟩ := r2
  obtain ⟨r30, r31, r32, r33⟩ := r3
  obtain ⟨r40, r41, r42, r43, r44, r45⟩ := r4
  have same : (∀ (t : Jst) (K : Jst → Prop), K (mg σ t) → w_Gr_hear (nI x) ag ga (mg σ t) K) → (∀ (t : Jst) (K : Jst → Prop), K (mg t ρ) → mH (pack x ag ga) (mg t ρ) K) → ∃ a b : Jst, (∀ (t : Jst) (K : Jst → Prop), K (mg a t) → w_Gr_hear (nI x) ag ga (mg σ t) K) ∧ (∀ (t : Jst) (K : Jst → Prop), K (mg t b) → mH (pack x ag ga) (mg t ρ) K) ∧ (∀ h, h < 9 ∨ 13 < h → a h = σ h) ∧ (∀ h, 35 < h → b h = ρ h) ∧ (∀ j, j = 0 ∨ 14 < j → b 33 j = ρ 33 j) ∧ iG (mg a b) := fun s1 s2 => ⟨σ, ρ, s1, s2, fun _ _ => rfl, fun _ _ => rfl, fun _ _ => rfl, hG⟩
  by_cases n0 : σ 9 1 = 0
  · exact same (fun t K h => by simp [w_Gr_hear, mg_at, n0]; exact h) (fun t K h => by simp [mH, mg_at, e1, n0]; exact h)
  by_cases n5 : σ 9 1 = 5
  · have ne : ∀ c : Nat, 16 ≤ c → c ≤ 80 → ¬ nI (x + c) = nI ((o + k) % 16) := fun c _ _ q => by
      have := (nI_eq (by omega) (by omega)).mp q
      omega
    rcases hag with rfl | rfl <;> rcases hga with rfl | rfl | rfl
    · by_cases hxX : nI x = nI ((o + k) % 16)
      · apply Exists.intro
        apply Exists.intro
        refine ⟨?_, ?_, ?_, ?_, ?_, ?_⟩
        · intro t K h
          simp [w_Gr_hear, w_Gr_hearAtStart, mg_at, mg_up, n5, h6, hxX]
          exact h
        · intro t K h
          simp [mH, mg_at, mg_up, e1, e2, n5, h6, r40, hxX]
          exact h
        · intro h hh
          have n9 : ¬ h = 9 := by omega
          have n10 : ¬ h = 10 := by omega
          have n11 : ¬ h = 11 := by omega
          have n12 : ¬ h = 12 := by omega
          have n13 : ¬ h = 13 := by omega
          simp [jup_h, js_h, n9, n10, n11, n12, n13]
        · intro h hh
          have n33 : ¬ h = 33 := by omega
          have n34 : ¬ h = 34 := by omega
          have n35 : ¬ h = 35 := by omega
          simp [jup_h, js_h, n33, n34, n35]
        · intro j hj
          have n1' : ¬ j = 1 := by omega
          have n2' : ¬ j = 2 := by omega
          have n3' : ¬ j = 3 := by omega
          have n4' : ¬ j = 4 := by omega
          have n5' : ¬ j = 5 := by omega
          have n6' : ¬ j = 6 := by omega
          have n7' : ¬ j = 7 := by omega
          have n8' : ¬ j = 8 := by omega
          have n9' : ¬ j = 9 := by omega
          have n10' : ¬ j = 10 := by omega
          have n11' : ¬ j = 11 := by omega
          have n12' : ¬ j = 12 := by omega
          have n13' : ¬ j = 13 := by omega
          have n14' : ¬ j = 14 := by omega
          simp [jup_at, js_at, n1', n2', n3', n4', n5', n6', n7', n8', n9', n10', n11', n12', n13', n14']
        · exact ⟨⟨rfl, e2, e3, rfl, rfl, e6, e7, e8, e9, e10, e11⟩, Or.inr (Or.inl rfl), g3, g4, fun h => absurd (show (1 : Int32) = 0 from h) (by decide), fun h => absurd (show (1 : Int32) = 5 from h) (by decide), g7⟩
      · exact same (fun t K h => by simp [w_Gr_hear, w_Gr_hearAtStart, mg_at, n5, h6, hxX]; exact h) (fun t K h => by simp [mH, mg_at, e1, e2, n5, h6, r40, hxX]; exact h)
    · exact same (fun t K h => by simp [w_Gr_hear, w_Gr_hearAtStart, mg_at, n5]; exact h) (fun t K h => by simp [mH, mg_at, e1, e2, n5, h6, r41, ne 64 (by decide) (by decide)]; exact h)
    · exact same (fun t K h => by simp [w_Gr_hear, w_Gr_hearAtStart, mg_at, n5]; exact h) (fun t K h => by simp [mH, mg_at, e1, e2, n5, h6, r42, ne 32 (by decide) (by decide)]; exact h)
    · exact same (fun t K h => by simp [w_Gr_hear, w_Gr_hearAtStart, mg_at, n5]; exact h) (fun t K h => by simp [mH, mg_at, e1, e2, n5, h6, r43, ne 16 (by decide) (by decide)]; exact h)
    · exact same (fun t K h => by simp [w_Gr_hear, w_Gr_hearAtStart, mg_at, n5]; exact h) (fun t K h => by simp [mH, mg_at, e1, e2, n5, h6, r44, ne 80 (by decide) (by decide)]; exact h)
    · exact same (fun t K h => by simp [w_Gr_hear, w_Gr_hearAtStart, mg_at, n5]; exact h) (fun t K h => by simp [mH, mg_at, e1, e2, n5, h6, r45, ne 48 (by decide) (by decide)]; exact h)
  have hD1 : (x + 16 - o) % 16 < 16 := Nat.mod_lt _ (by decide)
  have hxo : (o + (x + 16 - o) % 16) % 16 = x := by omega
  have fb := fm16b ⟨x, hx⟩ ⟨o, h1⟩
  have hdist : ∀ (t : Jst) (K : Int32 → Jst → Prop), K (nI ((x + 16 - o) % 16)) (mg σ t) → w_T_distance ((mg σ t) 9 3) (nI x) (mg σ t) K := by
    intro t K h
    show w_T_distance (σ 9 3) (nI x) _ _
    rw [h3]
    exact dist_eq hx h1 h
  simp only at fb
  generalize (x + 16 - o) % 16 = D at hD1 hxo fb hdist
  rcases hga with rfl | rfl | rfl
  · rcases hag with rfl | rfl
    · by_cases hDk : D ≤ k
      · have dk : nI D ≤ nI k := (nI_leI (by omega) (by omega)).mpr hDk
        have c1 : nI (k - D) + nI D = nI k := by rw [nI_add]; congr 1; omega
        have c2 : nI k - nI D = nI (k - D) := pk_sub hDk
        have c3 : nI o + nI D - (nI o + nI D) / 16 * 16 = nI x := by rw [nI_add, show nI (o + D) - nI (o + D) / 16 * 16 = nI ((o + D) % 16) from pk_rem (d := 16) (by omega) (by decide) (by decide), hxo]
        · by_cases d0 : nI D ≤ 0
          · have d0' : ¬ 0 < nI D := Int32.not_lt.mpr d0
            by_cases z : nI (k - D) = 0
            · have kd : nI k ≤ nI D := (nI_leI (by omega) (by omega)).mpr (by have := nI_z (by omega) z; omega)
              · apply Exists.intro
                apply Exists.intro
                refine ⟨?_, ?_, ?_, ?_, ?_, ?_⟩
                · intro t K h
                  unfold w_Gr_hear
                  refine ⟨fun _ => ⟨fun _ => hdist t _ ?_, fun q => absurd q n5⟩, fun q => absurd q n0⟩
                  simp [w_Un_size, mg_at, h4, dk]
                  unfold w_Gr_acknowledge
                  refine un_rm_mg hDk h2 h4 (fun i hi => (h7 i hi).2.2.2) ?_
                  simp [w_Un_size, w_Gr_hearWithNonePending, w_Gr_hearWithSomePending, w_Gr_resend, w_Gr_tryAgain, w_Gr_alarm, w_Gr_finish, w_Un_clear, mg_at, mg_up, jup_at, js_at, d0, z, d0', kd]
                  exact h
                · intro t K h
                  simp [mH, mg_at, e1, e3, h3, h5, n0, n5, fb, dk, r00, r10, r20, r30]
                  refine read_mg _ _ hDk h2 h5 (fun i hi => by rw [(h7 i hi).2.2.1]; exact (h7 i hi).2.2.2) ?_
                  rw [w_M_read_L3]
                  simp [w_M_resend, w_M_alarm, w_M_ends, mg_at, mg_up, jup_at, js_at, e1, e2, e3, e4, e5, e8, h3, h5, c1, c2, c3, d0, z, d0', kd]
                  exact h
                · intro h hh
                  have n9 : ¬ h = 9 := by omega
                  have n10 : ¬ h = 10 := by omega
                  have n11 : ¬ h = 11 := by omega
                  have n12 : ¬ h = 12 := by omega
                  have n13 : ¬ h = 13 := by omega
                  simp [jup_h, js_h, n9, n10, n11, n12, n13]
                · intro h hh
                  have n33 : ¬ h = 33 := by omega
                  have n34 : ¬ h = 34 := by omega
                  have n35 : ¬ h = 35 := by omega
                  simp [jup_h, js_h, n33, n34, n35]
                · intro j hj
                  have n1' : ¬ j = 1 := by omega
                  have n2' : ¬ j = 2 := by omega
                  have n3' : ¬ j = 3 := by omega
                  have n4' : ¬ j = 4 := by omega
                  have n5' : ¬ j = 5 := by omega
                  have n6' : ¬ j = 6 := by omega
                  have n7' : ¬ j = 7 := by omega
                  have n8' : ¬ j = 8 := by omega
                  have n9' : ¬ j = 9 := by omega
                  have n10' : ¬ j = 10 := by omega
                  have n11' : ¬ j = 11 := by omega
                  have n12' : ¬ j = 12 := by omega
                  have n13' : ¬ j = 13 := by omega
                  have n14' : ¬ j = 14 := by omega
                  simp [jup_at, js_at, n1', n2', n3', n4', n5', n6', n7', n8', n9', n10', n11', n12', n13', n14']
                · exact ⟨⟨rfl, e2, rfl, (by first | rfl | exact e4), rfl, e6, e7, e8, e9, e10, e11⟩, Or.inr (Or.inl rfl), g3, g4, fun h => absurd (show (1 : Int32) = 0 from h) (by decide), fun h => absurd (show (1 : Int32) = 5 from h) (by decide), pd_ack0 (od := σ 9 3) (sz := σ 10 3) (op := σ 10 3) z hDk hx hxo h2 h6 h7⟩
            · apply Exists.intro
              apply Exists.intro
              refine ⟨?_, ?_, ?_, ?_, ?_, ?_⟩
              · intro t K h
                unfold w_Gr_hear
                refine ⟨fun _ => ⟨fun _ => hdist t _ ?_, fun q => absurd q n5⟩, fun q => absurd q n0⟩
                simp [w_Un_size, mg_at, h4, dk]
                unfold w_Gr_acknowledge
                refine un_rm_mg hDk h2 h4 (fun i hi => (h7 i hi).2.2.2) ?_
                simp [w_Un_size, w_Gr_hearWithNonePending, w_Gr_hearWithSomePending, w_Gr_resend, w_Gr_tryAgain, w_Gr_alarm, w_Gr_finish, w_Un_clear, mg_at, mg_up, jup_at, js_at, d0, z, d0']
                exact h
              · intro t K h
                simp [mH, mg_at, e1, e3, h3, h5, n0, n5, fb, dk, r00, r10, r20, r30]
                refine read_mg _ _ hDk h2 h5 (fun i hi => by rw [(h7 i hi).2.2.1]; exact (h7 i hi).2.2.2) ?_
                rw [w_M_read_L3]
                simp [w_M_resend, w_M_alarm, w_M_ends, mg_at, mg_up, jup_at, js_at, e1, e2, e3, e4, e5, e8, h3, h5, c1, c2, c3, d0, z, d0']
                exact h
              · intro h hh
                have n9 : ¬ h = 9 := by omega
                have n10 : ¬ h = 10 := by omega
                have n11 : ¬ h = 11 := by omega
                have n12 : ¬ h = 12 := by omega
                have n13 : ¬ h = 13 := by omega
                simp [jup_h, js_h, n9, n10, n11, n12, n13]
              · intro h hh
                have n33 : ¬ h = 33 := by omega
                have n34 : ¬ h = 34 := by omega
                have n35 : ¬ h = 35 := by omega
                simp [jup_h, js_h, n33, n34, n35]
              · intro j hj
                have n1' : ¬ j = 1 := by omega
                have n2' : ¬ j = 2 := by omega
                have n3' : ¬ j = 3 := by omega
                have n4' : ¬ j = 4 := by omega
                have n5' : ¬ j = 5 := by omega
                have n6' : ¬ j = 6 := by omega
                have n7' : ¬ j = 7 := by omega
                have n8' : ¬ j = 8 := by omega
                have n9' : ¬ j = 9 := by omega
                have n10' : ¬ j = 10 := by omega
                have n11' : ¬ j = 11 := by omega
                have n12' : ¬ j = 12 := by omega
                have n13' : ¬ j = 13 := by omega
                have n14' : ¬ j = 14 := by omega
                simp [jup_at, js_at, n1', n2', n3', n4', n5', n6', n7', n8', n9', n10', n11', n12', n13', n14']
              · exact ⟨⟨rfl, e2, rfl, (by first | rfl | exact e4), (by first | rfl | exact e5), e6, e7, e8, e9, e10, e11⟩, Or.inr (Or.inl rfl), g3, g4, fun h => absurd (show (1 : Int32) = 0 from h) (by decide), fun h => absurd (show (1 : Int32) = 5 from h) (by decide), pd_ack (od := σ 9 3) (sz := σ 10 3) (op := σ 10 3) hDk hx hxo h2 h6 h7⟩
          · have d0' : 0 < nI D := Int32.not_le.mp d0
            by_cases z : nI (k - D) = 0
            · have kd : nI k ≤ nI D := (nI_leI (by omega) (by omega)).mpr (by have := nI_z (by omega) z; omega)
              · apply Exists.intro
                apply Exists.intro
                refine ⟨?_, ?_, ?_, ?_, ?_, ?_⟩
                · intro t K h
                  unfold w_Gr_hear
                  refine ⟨fun _ => ⟨fun _ => hdist t _ ?_, fun q => absurd q n5⟩, fun q => absurd q n0⟩
                  simp [w_Un_size, mg_at, h4, dk]
                  unfold w_Gr_acknowledge
                  refine un_rm_mg hDk h2 h4 (fun i hi => (h7 i hi).2.2.2) ?_
                  simp [w_Un_size, w_Gr_hearWithNonePending, w_Gr_hearWithSomePending, w_Gr_resend, w_Gr_tryAgain, w_Gr_alarm, w_Gr_finish, w_Un_clear, mg_at, mg_up, jup_at, js_at, d0, z, d0', kd]
                  exact h
                · intro t K h
                  simp [mH, mg_at, e1, e3, h3, h5, n0, n5, fb, dk, r00, r10, r20, r30]
                  refine read_mg _ _ hDk h2 h5 (fun i hi => by rw [(h7 i hi).2.2.1]; exact (h7 i hi).2.2.2) ?_
                  rw [w_M_read_L3]
                  simp [w_M_resend, w_M_alarm, w_M_ends, mg_at, mg_up, jup_at, js_at, e1, e2, e3, e4, e5, e8, h3, h5, c1, c2, c3, d0, z, d0', kd]
                  exact h
                · intro h hh
                  have n9 : ¬ h = 9 := by omega
                  have n10 : ¬ h = 10 := by omega
                  have n11 : ¬ h = 11 := by omega
                  have n12 : ¬ h = 12 := by omega
                  have n13 : ¬ h = 13 := by omega
                  simp [jup_h, js_h, n9, n10, n11, n12, n13]
                · intro h hh
                  have n33 : ¬ h = 33 := by omega
                  have n34 : ¬ h = 34 := by omega
                  have n35 : ¬ h = 35 := by omega
                  simp [jup_h, js_h, n33, n34, n35]
                · intro j hj
                  have n1' : ¬ j = 1 := by omega
                  have n2' : ¬ j = 2 := by omega
                  have n3' : ¬ j = 3 := by omega
                  have n4' : ¬ j = 4 := by omega
                  have n5' : ¬ j = 5 := by omega
                  have n6' : ¬ j = 6 := by omega
                  have n7' : ¬ j = 7 := by omega
                  have n8' : ¬ j = 8 := by omega
                  have n9' : ¬ j = 9 := by omega
                  have n10' : ¬ j = 10 := by omega
                  have n11' : ¬ j = 11 := by omega
                  have n12' : ¬ j = 12 := by omega
                  have n13' : ¬ j = 13 := by omega
                  have n14' : ¬ j = 14 := by omega
                  simp [jup_at, js_at, n1', n2', n3', n4', n5', n6', n7', n8', n9', n10', n11', n12', n13', n14']
                · exact ⟨⟨rfl, e2, rfl, (by first | rfl | exact e4), rfl, e6, e7, e8, e9, e10, e11⟩, Or.inr (Or.inl rfl), g3, g4, fun h => absurd (show (1 : Int32) = 0 from h) (by decide), fun h => absurd (show (1 : Int32) = 5 from h) (by decide), pd_ack0 (od := σ 9 3) (sz := σ 10 3) (op := σ 10 3) z hDk hx hxo h2 h6 h7⟩
            · apply Exists.intro
              apply Exists.intro
              refine ⟨?_, ?_, ?_, ?_, ?_, ?_⟩
              · intro t K h
                unfold w_Gr_hear
                refine ⟨fun _ => ⟨fun _ => hdist t _ ?_, fun q => absurd q n5⟩, fun q => absurd q n0⟩
                simp [w_Un_size, mg_at, h4, dk]
                unfold w_Gr_acknowledge
                refine un_rm_mg hDk h2 h4 (fun i hi => (h7 i hi).2.2.2) ?_
                simp [w_Un_size, w_Gr_hearWithNonePending, w_Gr_hearWithSomePending, w_Gr_resend, w_Gr_tryAgain, w_Gr_alarm, w_Gr_finish, w_Un_clear, mg_at, mg_up, jup_at, js_at, d0, z, d0']
                exact h
              · intro t K h
                simp [mH, mg_at, e1, e3, h3, h5, n0, n5, fb, dk, r00, r10, r20, r30]
                refine read_mg _ _ hDk h2 h5 (fun i hi => by rw [(h7 i hi).2.2.1]; exact (h7 i hi).2.2.2) ?_
                rw [w_M_read_L3]
                simp [w_M_resend, w_M_alarm, w_M_ends, mg_at, mg_up, jup_at, js_at, e1, e2, e3, e4, e5, e8, h3, h5, c1, c2, c3, d0, z, d0']
                exact h
              · intro h hh
                have n9 : ¬ h = 9 := by omega
                have n10 : ¬ h = 10 := by omega
                have n11 : ¬ h = 11 := by omega
                have n12 : ¬ h = 12 := by omega
                have n13 : ¬ h = 13 := by omega
                simp [jup_h, js_h, n9, n10, n11, n12, n13]
              · intro h hh
                have n33 : ¬ h = 33 := by omega
                have n34 : ¬ h = 34 := by omega
                have n35 : ¬ h = 35 := by omega
                simp [jup_h, js_h, n33, n34, n35]
              · intro j hj
                have n1' : ¬ j = 1 := by omega
                have n2' : ¬ j = 2 := by omega
                have n3' : ¬ j = 3 := by omega
                have n4' : ¬ j = 4 := by omega
                have n5' : ¬ j = 5 := by omega
                have n6' : ¬ j = 6 := by omega
                have n7' : ¬ j = 7 := by omega
                have n8' : ¬ j = 8 := by omega
                have n9' : ¬ j = 9 := by omega
                have n10' : ¬ j = 10 := by omega
                have n11' : ¬ j = 11 := by omega
                have n12' : ¬ j = 12 := by omega
                have n13' : ¬ j = 13 := by omega
                have n14' : ¬ j = 14 := by omega
                simp [jup_at, js_at, n1', n2', n3', n4', n5', n6', n7', n8', n9', n10', n11', n12', n13', n14']
              · exact ⟨⟨rfl, e2, rfl, (by first | rfl | exact e4), (by first | rfl | exact e5), e6, e7, e8, e9, e10, e11⟩, Or.inr (Or.inl rfl), g3, g4, fun h => absurd (show (1 : Int32) = 0 from h) (by decide), fun h => absurd (show (1 : Int32) = 5 from h) (by decide), pd_ack (od := σ 9 3) (sz := σ 10 3) (op := σ 10 3) hDk hx hxo h2 h6 h7⟩
      · have dk : ¬ nI D ≤ nI k := fun q => hDk ((nI_leI (by omega) (by omega)).mp q)
        · apply Exists.intro
          apply Exists.intro
          refine ⟨?_, ?_, ?_, ?_, ?_, ?_⟩
          · intro t K h
            unfold w_Gr_hear
            refine ⟨fun _ => ⟨fun _ => hdist t _ ?_, fun q => absurd q n5⟩, fun q => absurd q n0⟩
            simp [w_Un_size, w_Gr_hearWithNonePending, w_Gr_hearWithSomePending, w_Gr_resend, w_Gr_tryAgain, w_Gr_alarm, w_Gr_finish, w_Un_clear, mg_at, mg_up, jup_at, js_at, h4, dk]
            exact h
          · intro t K h
            simp [mH, w_M_resend, w_M_alarm, w_M_ends, mg_at, mg_up, jup_at, js_at, e1, e2, e3, e4, e5, e8, h3, h5, n0, n5, fb, dk, r00, r10, r20, r30]
            exact h
          · intro h hh
            have n9 : ¬ h = 9 := by omega
            have n10 : ¬ h = 10 := by omega
            have n11 : ¬ h = 11 := by omega
            have n12 : ¬ h = 12 := by omega
            have n13 : ¬ h = 13 := by omega
            simp [jup_h, js_h, n9, n10, n11, n12, n13]
          · intro h hh
            have n33 : ¬ h = 33 := by omega
            have n34 : ¬ h = 34 := by omega
            have n35 : ¬ h = 35 := by omega
            simp [jup_h, js_h, n33, n34, n35]
          · intro j hj
            have n1' : ¬ j = 1 := by omega
            have n2' : ¬ j = 2 := by omega
            have n3' : ¬ j = 3 := by omega
            have n4' : ¬ j = 4 := by omega
            have n5' : ¬ j = 5 := by omega
            have n6' : ¬ j = 6 := by omega
            have n7' : ¬ j = 7 := by omega
            have n8' : ¬ j = 8 := by omega
            have n9' : ¬ j = 9 := by omega
            have n10' : ¬ j = 10 := by omega
            have n11' : ¬ j = 11 := by omega
            have n12' : ¬ j = 12 := by omega
            have n13' : ¬ j = 13 := by omega
            have n14' : ¬ j = 14 := by omega
            simp [jup_at, js_at, n1', n2', n3', n4', n5', n6', n7', n8', n9', n10', n11', n12', n13', n14']
          · exact ⟨⟨rfl, (by first | rfl | exact e2), (by first | rfl | exact e2), (by first | rfl | exact e4), rfl, rfl, e7, e8, e9, rfl, e11⟩, Or.inl rfl, Or.inl rfl, g4, fun _ => ⟨rfl, rfl⟩, fun h => absurd (show (0 : Int32) = 5 from h) (by decide), pd1 g7⟩
    · by_cases hDk : D ≤ k
      · have dk : nI D ≤ nI k := (nI_leI (by omega) (by omega)).mpr hDk
        have c1 : nI (k - D) + nI D = nI k := by rw [nI_add]; congr 1; omega
        have c2 : nI k - nI D = nI (k - D) := pk_sub hDk
        have c3 : nI o + nI D - (nI o + nI D) / 16 * 16 = nI x := by rw [nI_add, show nI (o + D) - nI (o + D) / 16 * 16 = nI ((o + D) % 16) from pk_rem (d := 16) (by omega) (by decide) (by decide), hxo]
        · by_cases d0 : nI D ≤ 0
          · have d0' : ¬ 0 < nI D := Int32.not_lt.mpr d0
            by_cases z : nI (k - D) = 0
            · have kd : nI k ≤ nI D := (nI_leI (by omega) (by omega)).mpr (by have := nI_z (by omega) z; omega)
              · apply Exists.intro
                apply Exists.intro
                refine ⟨?_, ?_, ?_, ?_, ?_, ?_⟩
                · intro t K h
                  unfold w_Gr_hear
                  refine ⟨fun _ => ⟨fun _ => hdist t _ ?_, fun q => absurd q n5⟩, fun q => absurd q n0⟩
                  simp [w_Un_size, mg_at, h4, dk]
                  unfold w_Gr_acknowledge
                  refine un_rm_mg hDk h2 h4 (fun i hi => (h7 i hi).2.2.2) ?_
                  simp [w_Un_size, w_Gr_hearWithNonePending, w_Gr_hearWithSomePending, w_Gr_resend, w_Gr_tryAgain, w_Gr_alarm, w_Gr_finish, w_Un_clear, mg_at, mg_up, jup_at, js_at, d0, z, d0', kd]
                  exact h
                · intro t K h
                  simp [mH, mg_at, e1, e3, h3, h5, n0, n5, fb, dk, r02, r12, r22, r32]
                  refine read_mg _ _ hDk h2 h5 (fun i hi => by rw [(h7 i hi).2.2.1]; exact (h7 i hi).2.2.2) ?_
                  rw [w_M_read_L3]
                  simp [w_M_resend, w_M_alarm, w_M_ends, mg_at, mg_up, jup_at, js_at, e1, e2, e3, e4, e5, e8, h3, h5, c1, c2, c3, d0, z, d0', kd]
                  exact h
                · intro h hh
                  have n9 : ¬ h = 9 := by omega
                  have n10 : ¬ h = 10 := by omega
                  have n11 : ¬ h = 11 := by omega
                  have n12 : ¬ h = 12 := by omega
                  have n13 : ¬ h = 13 := by omega
                  simp [jup_h, js_h, n9, n10, n11, n12, n13]
                · intro h hh
                  have n33 : ¬ h = 33 := by omega
                  have n34 : ¬ h = 34 := by omega
                  have n35 : ¬ h = 35 := by omega
                  simp [jup_h, js_h, n33, n34, n35]
                · intro j hj
                  have n1' : ¬ j = 1 := by omega
                  have n2' : ¬ j = 2 := by omega
                  have n3' : ¬ j = 3 := by omega
                  have n4' : ¬ j = 4 := by omega
                  have n5' : ¬ j = 5 := by omega
                  have n6' : ¬ j = 6 := by omega
                  have n7' : ¬ j = 7 := by omega
                  have n8' : ¬ j = 8 := by omega
                  have n9' : ¬ j = 9 := by omega
                  have n10' : ¬ j = 10 := by omega
                  have n11' : ¬ j = 11 := by omega
                  have n12' : ¬ j = 12 := by omega
                  have n13' : ¬ j = 13 := by omega
                  have n14' : ¬ j = 14 := by omega
                  simp [jup_at, js_at, n1', n2', n3', n4', n5', n6', n7', n8', n9', n10', n11', n12', n13', n14']
                · exact ⟨⟨rfl, (by first | rfl | exact e2), (by first | rfl | exact e2), (by first | rfl | exact e4), rfl, rfl, e7, e8, e9, rfl, e11⟩, Or.inl rfl, Or.inl rfl, g4, fun _ => ⟨rfl, rfl⟩, fun h => absurd (show (0 : Int32) = 5 from h) (by decide), pd1 g7⟩
            · by_cases m2 : σ 9 1 = 2
              · apply Exists.intro
                apply Exists.intro
                refine ⟨?_, ?_, ?_, ?_, ?_, ?_⟩
                · intro t K h
                  unfold w_Gr_hear
                  refine ⟨fun _ => ⟨fun _ => hdist t _ ?_, fun q => absurd q n5⟩, fun q => absurd q n0⟩
                  simp [w_Un_size, mg_at, h4, dk]
                  unfold w_Gr_acknowledge
                  refine un_rm_mg hDk h2 h4 (fun i hi => (h7 i hi).2.2.2) ?_
                  simp [w_Un_size, w_Gr_hearWithNonePending, w_Gr_hearWithSomePending, w_Gr_resend, w_Gr_tryAgain, w_Gr_alarm, w_Gr_finish, w_Un_clear, mg_at, mg_up, jup_at, js_at, d0, z, d0', m2]
                  exact h
                · intro t K h
                  simp [mH, mg_at, e1, e3, h3, h5, n0, n5, fb, dk, r02, r12, r22, r32]
                  refine read_mg _ _ hDk h2 h5 (fun i hi => by rw [(h7 i hi).2.2.1]; exact (h7 i hi).2.2.2) ?_
                  rw [w_M_read_L3]
                  simp [w_M_resend, w_M_alarm, w_M_ends, mg_at, mg_up, jup_at, js_at, e1, e2, e3, e4, e5, e8, h3, h5, c1, c2, c3, d0, z, d0', m2]
                  exact h
                · intro h hh
                  have n9 : ¬ h = 9 := by omega
                  have n10 : ¬ h = 10 := by omega
                  have n11 : ¬ h = 11 := by omega
                  have n12 : ¬ h = 12 := by omega
                  have n13 : ¬ h = 13 := by omega
                  simp [jup_h, js_h, n9, n10, n11, n12, n13]
                · intro h hh
                  have n33 : ¬ h = 33 := by omega
                  have n34 : ¬ h = 34 := by omega
                  have n35 : ¬ h = 35 := by omega
                  simp [jup_h, js_h, n33, n34, n35]
                · intro j hj
                  have n1' : ¬ j = 1 := by omega
                  have n2' : ¬ j = 2 := by omega
                  have n3' : ¬ j = 3 := by omega
                  have n4' : ¬ j = 4 := by omega
                  have n5' : ¬ j = 5 := by omega
                  have n6' : ¬ j = 6 := by omega
                  have n7' : ¬ j = 7 := by omega
                  have n8' : ¬ j = 8 := by omega
                  have n9' : ¬ j = 9 := by omega
                  have n10' : ¬ j = 10 := by omega
                  have n11' : ¬ j = 11 := by omega
                  have n12' : ¬ j = 12 := by omega
                  have n13' : ¬ j = 13 := by omega
                  have n14' : ¬ j = 14 := by omega
                  simp [jup_at, js_at, n1', n2', n3', n4', n5', n6', n7', n8', n9', n10', n11', n12', n13', n14']
                · exact ⟨⟨e1, e2, rfl, (by first | rfl | exact e4), e5, e6, e7, e8, e9, e10, e11⟩, g2, g3, g4, fun h => absurd h n0, fun h => absurd h n5, pd_ack (od := σ 9 3) (sz := σ 10 3) (op := σ 10 3) hDk hx hxo h2 h6 h7⟩
              · by_cases rt : σ 9 6 < σ 9 10
                · apply Exists.intro
                  apply Exists.intro
                  refine ⟨?_, ?_, ?_, ?_, ?_, ?_⟩
                  · intro t K h
                    unfold w_Gr_hear
                    refine ⟨fun _ => ⟨fun _ => hdist t _ ?_, fun q => absurd q n5⟩, fun q => absurd q n0⟩
                    simp [w_Un_size, mg_at, h4, dk]
                    unfold w_Gr_acknowledge
                    refine un_rm_mg hDk h2 h4 (fun i hi => (h7 i hi).2.2.2) ?_
                    simp [w_Un_size, w_Gr_hearWithNonePending, w_Gr_hearWithSomePending, w_Gr_resend, w_Gr_tryAgain, w_Gr_alarm, w_Gr_finish, w_Un_clear, mg_at, mg_up, jup_at, js_at, d0, z, d0', m2, rt]
                    refine mark_mg (m := k - D) (by omega) rfl ?_
                    rw [mg_up, if_pos (by decide)]
                    exact h
                  · intro t K h
                    simp [mH, mg_at, e1, e3, h3, h5, n0, n5, fb, dk, r02, r12, r22, r32]
                    refine read_mg _ _ hDk h2 h5 (fun i hi => by rw [(h7 i hi).2.2.1]; exact (h7 i hi).2.2.2) ?_
                    rw [w_M_read_L3]
                    simp [w_M_resend, w_M_alarm, w_M_ends, mg_at, mg_up, jup_at, js_at, e1, e2, e3, e4, e5, e8, h3, h5, c1, c2, c3, d0, z, d0', m2, rt]
                    refine res_mg (m := k - D) _ (by omega) rfl ?_
                    exact h
                  · intro h hh
                    have n9 : ¬ h = 9 := by omega
                    have n10 : ¬ h = 10 := by omega
                    have n11 : ¬ h = 11 := by omega
                    have n12 : ¬ h = 12 := by omega
                    have n13 : ¬ h = 13 := by omega
                    simp [jup_h, js_h, n9, n10, n11, n12, n13]
                  · intro h hh
                    have n33 : ¬ h = 33 := by omega
                    have n34 : ¬ h = 34 := by omega
                    have n35 : ¬ h = 35 := by omega
                    simp [jup_h, js_h, n33, n34, n35]
                  · intro j hj
                    have n1' : ¬ j = 1 := by omega
                    have n2' : ¬ j = 2 := by omega
                    have n3' : ¬ j = 3 := by omega
                    have n4' : ¬ j = 4 := by omega
                    have n5' : ¬ j = 5 := by omega
                    have n6' : ¬ j = 6 := by omega
                    have n7' : ¬ j = 7 := by omega
                    have n8' : ¬ j = 8 := by omega
                    have n9' : ¬ j = 9 := by omega
                    have n10' : ¬ j = 10 := by omega
                    have n11' : ¬ j = 11 := by omega
                    have n12' : ¬ j = 12 := by omega
                    have n13' : ¬ j = 13 := by omega
                    have n14' : ¬ j = 14 := by omega
                    simp [jup_at, js_at, n1', n2', n3', n4', n5', n6', n7', n8', n9', n10', n11', n12', n13', n14']
                  · exact ⟨⟨rfl, e2, rfl, (by first | rfl | exact e4 | exact congrArg (· + 1) e4), (by first | rfl | exact e5), e6, e7, e8, e9, e10, e11⟩, Or.inr (Or.inr (Or.inl rfl)), g3, g4, fun h => absurd (show (2 : Int32) = 0 from h) (by decide), fun h => absurd (show (2 : Int32) = 5 from h) (by decide), pd_mark (m := k - D) (by omega) rfl (pd_ack (od := σ 9 3) (sz := σ 10 3) (op := σ 10 3) hDk hx hxo h2 h6 h7)⟩
                · apply Exists.intro
                  apply Exists.intro
                  refine ⟨?_, ?_, ?_, ?_, ?_, ?_⟩
                  · intro t K h
                    unfold w_Gr_hear
                    refine ⟨fun _ => ⟨fun _ => hdist t _ ?_, fun q => absurd q n5⟩, fun q => absurd q n0⟩
                    simp [w_Un_size, mg_at, h4, dk]
                    unfold w_Gr_acknowledge
                    refine un_rm_mg hDk h2 h4 (fun i hi => (h7 i hi).2.2.2) ?_
                    simp [w_Un_size, w_Gr_hearWithNonePending, w_Gr_hearWithSomePending, w_Gr_resend, w_Gr_tryAgain, w_Gr_alarm, w_Gr_finish, w_Un_clear, mg_at, mg_up, jup_at, js_at, d0, z, d0', m2, rt]
                    exact h
                  · intro t K h
                    simp [mH, mg_at, e1, e3, h3, h5, n0, n5, fb, dk, r02, r12, r22, r32]
                    refine read_mg _ _ hDk h2 h5 (fun i hi => by rw [(h7 i hi).2.2.1]; exact (h7 i hi).2.2.2) ?_
                    rw [w_M_read_L3]
                    simp [w_M_resend, w_M_alarm, w_M_ends, mg_at, mg_up, jup_at, js_at, e1, e2, e3, e4, e5, e8, h3, h5, c1, c2, c3, d0, z, d0', m2, rt]
                    exact h
                  · intro h hh
                    have n9 : ¬ h = 9 := by omega
                    have n10 : ¬ h = 10 := by omega
                    have n11 : ¬ h = 11 := by omega
                    have n12 : ¬ h = 12 := by omega
                    have n13 : ¬ h = 13 := by omega
                    simp [jup_h, js_h, n9, n10, n11, n12, n13]
                  · intro h hh
                    have n33 : ¬ h = 33 := by omega
                    have n34 : ¬ h = 34 := by omega
                    have n35 : ¬ h = 35 := by omega
                    simp [jup_h, js_h, n33, n34, n35]
                  · intro j hj
                    have n1' : ¬ j = 1 := by omega
                    have n2' : ¬ j = 2 := by omega
                    have n3' : ¬ j = 3 := by omega
                    have n4' : ¬ j = 4 := by omega
                    have n5' : ¬ j = 5 := by omega
                    have n6' : ¬ j = 6 := by omega
                    have n7' : ¬ j = 7 := by omega
                    have n8' : ¬ j = 8 := by omega
                    have n9' : ¬ j = 9 := by omega
                    have n10' : ¬ j = 10 := by omega
                    have n11' : ¬ j = 11 := by omega
                    have n12' : ¬ j = 12 := by omega
                    have n13' : ¬ j = 13 := by omega
                    have n14' : ¬ j = 14 := by omega
                    simp [jup_at, js_at, n1', n2', n3', n4', n5', n6', n7', n8', n9', n10', n11', n12', n13', n14']
                  · exact ⟨⟨rfl, (by first | rfl | exact e2), (by first | rfl | exact e2), (by first | rfl | exact e4), rfl, rfl, e7, e8, e9, rfl, e11⟩, Or.inl rfl, Or.inl rfl, g4, fun _ => ⟨rfl, rfl⟩, fun h => absurd (show (0 : Int32) = 5 from h) (by decide), pd1 g7⟩
          · have d0' : 0 < nI D := Int32.not_le.mp d0
            by_cases z : nI (k - D) = 0
            · have kd : nI k ≤ nI D := (nI_leI (by omega) (by omega)).mpr (by have := nI_z (by omega) z; omega)
              · apply Exists.intro
                apply Exists.intro
                refine ⟨?_, ?_, ?_, ?_, ?_, ?_⟩
                · intro t K h
                  unfold w_Gr_hear
                  refine ⟨fun _ => ⟨fun _ => hdist t _ ?_, fun q => absurd q n5⟩, fun q => absurd q n0⟩
                  simp [w_Un_size, mg_at, h4, dk]
                  unfold w_Gr_acknowledge
                  refine un_rm_mg hDk h2 h4 (fun i hi => (h7 i hi).2.2.2) ?_
                  simp [w_Un_size, w_Gr_hearWithNonePending, w_Gr_hearWithSomePending, w_Gr_resend, w_Gr_tryAgain, w_Gr_alarm, w_Gr_finish, w_Un_clear, mg_at, mg_up, jup_at, js_at, d0, z, d0', kd]
                  exact h
                · intro t K h
                  simp [mH, mg_at, e1, e3, h3, h5, n0, n5, fb, dk, r02, r12, r22, r32]
                  refine read_mg _ _ hDk h2 h5 (fun i hi => by rw [(h7 i hi).2.2.1]; exact (h7 i hi).2.2.2) ?_
                  rw [w_M_read_L3]
                  simp [w_M_resend, w_M_alarm, w_M_ends, mg_at, mg_up, jup_at, js_at, e1, e2, e3, e4, e5, e8, h3, h5, c1, c2, c3, d0, z, d0', kd]
                  exact h
                · intro h hh
                  have n9 : ¬ h = 9 := by omega
                  have n10 : ¬ h = 10 := by omega
                  have n11 : ¬ h = 11 := by omega
                  have n12 : ¬ h = 12 := by omega
                  have n13 : ¬ h = 13 := by omega
                  simp [jup_h, js_h, n9, n10, n11, n12, n13]
                · intro h hh
                  have n33 : ¬ h = 33 := by omega
                  have n34 : ¬ h = 34 := by omega
                  have n35 : ¬ h = 35 := by omega
                  simp [jup_h, js_h, n33, n34, n35]
                · intro j hj
                  have n1' : ¬ j = 1 := by omega
                  have n2' : ¬ j = 2 := by omega
                  have n3' : ¬ j = 3 := by omega
                  have n4' : ¬ j = 4 := by omega
                  have n5' : ¬ j = 5 := by omega
                  have n6' : ¬ j = 6 := by omega
                  have n7' : ¬ j = 7 := by omega
                  have n8' : ¬ j = 8 := by omega
                  have n9' : ¬ j = 9 := by omega
                  have n10' : ¬ j = 10 := by omega
                  have n11' : ¬ j = 11 := by omega
                  have n12' : ¬ j = 12 := by omega
                  have n13' : ¬ j = 13 := by omega
                  have n14' : ¬ j = 14 := by omega
                  simp [jup_at, js_at, n1', n2', n3', n4', n5', n6', n7', n8', n9', n10', n11', n12', n13', n14']
                · exact ⟨⟨rfl, (by first | rfl | exact e2), (by first | rfl | exact e2), (by first | rfl | exact e4), rfl, rfl, e7, e8, e9, rfl, e11⟩, Or.inl rfl, Or.inl rfl, g4, fun _ => ⟨rfl, rfl⟩, fun h => absurd (show (0 : Int32) = 5 from h) (by decide), pd1 g7⟩
            · by_cases rt : 1 < σ 9 10
              · by_cases m2 : σ 9 1 = 2
                · apply Exists.intro
                  apply Exists.intro
                  refine ⟨?_, ?_, ?_, ?_, ?_, ?_⟩
                  · intro t K h
                    unfold w_Gr_hear
                    refine ⟨fun _ => ⟨fun _ => hdist t _ ?_, fun q => absurd q n5⟩, fun q => absurd q n0⟩
                    simp [w_Un_size, mg_at, h4, dk]
                    unfold w_Gr_acknowledge
                    refine un_rm_mg hDk h2 h4 (fun i hi => (h7 i hi).2.2.2) ?_
                    simp [w_Un_size, w_Gr_hearWithNonePending, w_Gr_hearWithSomePending, w_Gr_resend, w_Gr_tryAgain, w_Gr_alarm, w_Gr_finish, w_Un_clear, mg_at, mg_up, jup_at, js_at, d0, z, d0', m2, rt]
                    refine mark_mg (m := k - D) (by omega) rfl ?_
                    rw [mg_up, if_pos (by decide)]
                    exact h
                  · intro t K h
                    simp [mH, mg_at, e1, e3, h3, h5, n0, n5, fb, dk, r02, r12, r22, r32]
                    refine read_mg _ _ hDk h2 h5 (fun i hi => by rw [(h7 i hi).2.2.1]; exact (h7 i hi).2.2.2) ?_
                    rw [w_M_read_L3]
                    simp [w_M_resend, w_M_alarm, w_M_ends, mg_at, mg_up, jup_at, js_at, e1, e2, e3, e4, e5, e8, h3, h5, c1, c2, c3, d0, z, d0', m2, rt]
                    refine res_mg (m := k - D) _ (by omega) rfl ?_
                    exact h
                  · intro h hh
                    have n9 : ¬ h = 9 := by omega
                    have n10 : ¬ h = 10 := by omega
                    have n11 : ¬ h = 11 := by omega
                    have n12 : ¬ h = 12 := by omega
                    have n13 : ¬ h = 13 := by omega
                    simp [jup_h, js_h, n9, n10, n11, n12, n13]
                  · intro h hh
                    have n33 : ¬ h = 33 := by omega
                    have n34 : ¬ h = 34 := by omega
                    have n35 : ¬ h = 35 := by omega
                    simp [jup_h, js_h, n33, n34, n35]
                  · intro j hj
                    have n1' : ¬ j = 1 := by omega
                    have n2' : ¬ j = 2 := by omega
                    have n3' : ¬ j = 3 := by omega
                    have n4' : ¬ j = 4 := by omega
                    have n5' : ¬ j = 5 := by omega
                    have n6' : ¬ j = 6 := by omega
                    have n7' : ¬ j = 7 := by omega
                    have n8' : ¬ j = 8 := by omega
                    have n9' : ¬ j = 9 := by omega
                    have n10' : ¬ j = 10 := by omega
                    have n11' : ¬ j = 11 := by omega
                    have n12' : ¬ j = 12 := by omega
                    have n13' : ¬ j = 13 := by omega
                    have n14' : ¬ j = 14 := by omega
                    simp [jup_at, js_at, n1', n2', n3', n4', n5', n6', n7', n8', n9', n10', n11', n12', n13', n14']
                  · exact ⟨⟨rfl, e2, rfl, (by first | rfl | exact e4 | exact congrArg (· + 1) e4), (by first | rfl | exact e5), e6, e7, e8, e9, e10, e11⟩, Or.inr (Or.inr (Or.inl rfl)), g3, g4, fun h => absurd (show (2 : Int32) = 0 from h) (by decide), fun h => absurd (show (2 : Int32) = 5 from h) (by decide), pd_mark (m := k - D) (by omega) rfl (pd_ack (od := σ 9 3) (sz := σ 10 3) (op := σ 10 3) hDk hx hxo h2 h6 h7)⟩
                · apply Exists.intro
                  apply Exists.intro
                  refine ⟨?_, ?_, ?_, ?_, ?_, ?_⟩
                  · intro t K h
                    unfold w_Gr_hear
                    refine ⟨fun _ => ⟨fun _ => hdist t _ ?_, fun q => absurd q n5⟩, fun q => absurd q n0⟩
                    simp [w_Un_size, mg_at, h4, dk]
                    unfold w_Gr_acknowledge
                    refine un_rm_mg hDk h2 h4 (fun i hi => (h7 i hi).2.2.2) ?_
                    simp [w_Un_size, w_Gr_hearWithNonePending, w_Gr_hearWithSomePending, w_Gr_resend, w_Gr_tryAgain, w_Gr_alarm, w_Gr_finish, w_Un_clear, mg_at, mg_up, jup_at, js_at, d0, z, d0', m2, rt]
                    refine mark_mg (m := k - D) (by omega) rfl ?_
                    rw [mg_up, if_pos (by decide)]
                    exact h
                  · intro t K h
                    simp [mH, mg_at, e1, e3, h3, h5, n0, n5, fb, dk, r02, r12, r22, r32]
                    refine read_mg _ _ hDk h2 h5 (fun i hi => by rw [(h7 i hi).2.2.1]; exact (h7 i hi).2.2.2) ?_
                    rw [w_M_read_L3]
                    simp [w_M_resend, w_M_alarm, w_M_ends, mg_at, mg_up, jup_at, js_at, e1, e2, e3, e4, e5, e8, h3, h5, c1, c2, c3, d0, z, d0', m2, rt]
                    refine res_mg (m := k - D) _ (by omega) rfl ?_
                    exact h
                  · intro h hh
                    have n9 : ¬ h = 9 := by omega
                    have n10 : ¬ h = 10 := by omega
                    have n11 : ¬ h = 11 := by omega
                    have n12 : ¬ h = 12 := by omega
                    have n13 : ¬ h = 13 := by omega
                    simp [jup_h, js_h, n9, n10, n11, n12, n13]
                  · intro h hh
                    have n33 : ¬ h = 33 := by omega
                    have n34 : ¬ h = 34 := by omega
                    have n35 : ¬ h = 35 := by omega
                    simp [jup_h, js_h, n33, n34, n35]
                  · intro j hj
                    have n1' : ¬ j = 1 := by omega
                    have n2' : ¬ j = 2 := by omega
                    have n3' : ¬ j = 3 := by omega
                    have n4' : ¬ j = 4 := by omega
                    have n5' : ¬ j = 5 := by omega
                    have n6' : ¬ j = 6 := by omega
                    have n7' : ¬ j = 7 := by omega
                    have n8' : ¬ j = 8 := by omega
                    have n9' : ¬ j = 9 := by omega
                    have n10' : ¬ j = 10 := by omega
                    have n11' : ¬ j = 11 := by omega
                    have n12' : ¬ j = 12 := by omega
                    have n13' : ¬ j = 13 := by omega
                    have n14' : ¬ j = 14 := by omega
                    simp [jup_at, js_at, n1', n2', n3', n4', n5', n6', n7', n8', n9', n10', n11', n12', n13', n14']
                  · exact ⟨⟨rfl, e2, rfl, (by first | rfl | exact e4 | exact congrArg (· + 1) e4), (by first | rfl | exact e5), e6, e7, e8, e9, e10, e11⟩, Or.inr (Or.inr (Or.inl rfl)), g3, g4, fun h => absurd (show (2 : Int32) = 0 from h) (by decide), fun h => absurd (show (2 : Int32) = 5 from h) (by decide), pd_mark (m := k - D) (by omega) rfl (pd_ack (od := σ 9 3) (sz := σ 10 3) (op := σ 10 3) hDk hx hxo h2 h6 h7)⟩
              · by_cases m2 : σ 9 1 = 2
                · apply Exists.intro
                  apply Exists.intro
                  refine ⟨?_, ?_, ?_, ?_, ?_, ?_⟩
                  · intro t K h
                    unfold w_Gr_hear
                    refine ⟨fun _ => ⟨fun _ => hdist t _ ?_, fun q => absurd q n5⟩, fun q => absurd q n0⟩
                    simp [w_Un_size, mg_at, h4, dk]
                    unfold w_Gr_acknowledge
                    refine un_rm_mg hDk h2 h4 (fun i hi => (h7 i hi).2.2.2) ?_
                    simp [w_Un_size, w_Gr_hearWithNonePending, w_Gr_hearWithSomePending, w_Gr_resend, w_Gr_tryAgain, w_Gr_alarm, w_Gr_finish, w_Un_clear, mg_at, mg_up, jup_at, js_at, d0, z, d0', m2, rt]
                    exact h
                  · intro t K h
                    simp [mH, mg_at, e1, e3, h3, h5, n0, n5, fb, dk, r02, r12, r22, r32]
                    refine read_mg _ _ hDk h2 h5 (fun i hi => by rw [(h7 i hi).2.2.1]; exact (h7 i hi).2.2.2) ?_
                    rw [w_M_read_L3]
                    simp [w_M_resend, w_M_alarm, w_M_ends, mg_at, mg_up, jup_at, js_at, e1, e2, e3, e4, e5, e8, h3, h5, c1, c2, c3, d0, z, d0', m2, rt]
                    exact h
                  · intro h hh
                    have n9 : ¬ h = 9 := by omega
                    have n10 : ¬ h = 10 := by omega
                    have n11 : ¬ h = 11 := by omega
                    have n12 : ¬ h = 12 := by omega
                    have n13 : ¬ h = 13 := by omega
                    simp [jup_h, js_h, n9, n10, n11, n12, n13]
                  · intro h hh
                    have n33 : ¬ h = 33 := by omega
                    have n34 : ¬ h = 34 := by omega
                    have n35 : ¬ h = 35 := by omega
                    simp [jup_h, js_h, n33, n34, n35]
                  · intro j hj
                    have n1' : ¬ j = 1 := by omega
                    have n2' : ¬ j = 2 := by omega
                    have n3' : ¬ j = 3 := by omega
                    have n4' : ¬ j = 4 := by omega
                    have n5' : ¬ j = 5 := by omega
                    have n6' : ¬ j = 6 := by omega
                    have n7' : ¬ j = 7 := by omega
                    have n8' : ¬ j = 8 := by omega
                    have n9' : ¬ j = 9 := by omega
                    have n10' : ¬ j = 10 := by omega
                    have n11' : ¬ j = 11 := by omega
                    have n12' : ¬ j = 12 := by omega
                    have n13' : ¬ j = 13 := by omega
                    have n14' : ¬ j = 14 := by omega
                    simp [jup_at, js_at, n1', n2', n3', n4', n5', n6', n7', n8', n9', n10', n11', n12', n13', n14']
                  · exact ⟨⟨rfl, (by first | rfl | exact e2), (by first | rfl | exact e2), (by first | rfl | exact e4), rfl, rfl, e7, e8, e9, rfl, e11⟩, Or.inl rfl, Or.inl rfl, g4, fun _ => ⟨rfl, rfl⟩, fun h => absurd (show (0 : Int32) = 5 from h) (by decide), pd1 g7⟩
                · apply Exists.intro
                  apply Exists.intro
                  refine ⟨?_, ?_, ?_, ?_, ?_, ?_⟩
                  · intro t K h
                    unfold w_Gr_hear
                    refine ⟨fun _ => ⟨fun _ => hdist t _ ?_, fun q => absurd q n5⟩, fun q => absurd q n0⟩
                    simp [w_Un_size, mg_at, h4, dk]
                    unfold w_Gr_acknowledge
                    refine un_rm_mg hDk h2 h4 (fun i hi => (h7 i hi).2.2.2) ?_
                    simp [w_Un_size, w_Gr_hearWithNonePending, w_Gr_hearWithSomePending, w_Gr_resend, w_Gr_tryAgain, w_Gr_alarm, w_Gr_finish, w_Un_clear, mg_at, mg_up, jup_at, js_at, d0, z, d0', m2, rt]
                    exact h
                  · intro t K h
                    simp [mH, mg_at, e1, e3, h3, h5, n0, n5, fb, dk, r02, r12, r22, r32]
                    refine read_mg _ _ hDk h2 h5 (fun i hi => by rw [(h7 i hi).2.2.1]; exact (h7 i hi).2.2.2) ?_
                    rw [w_M_read_L3]
                    simp [w_M_resend, w_M_alarm, w_M_ends, mg_at, mg_up, jup_at, js_at, e1, e2, e3, e4, e5, e8, h3, h5, c1, c2, c3, d0, z, d0', m2, rt]
                    exact h
                  · intro h hh
                    have n9 : ¬ h = 9 := by omega
                    have n10 : ¬ h = 10 := by omega
                    have n11 : ¬ h = 11 := by omega
                    have n12 : ¬ h = 12 := by omega
                    have n13 : ¬ h = 13 := by omega
                    simp [jup_h, js_h, n9, n10, n11, n12, n13]
                  · intro h hh
                    have n33 : ¬ h = 33 := by omega
                    have n34 : ¬ h = 34 := by omega
                    have n35 : ¬ h = 35 := by omega
                    simp [jup_h, js_h, n33, n34, n35]
                  · intro j hj
                    have n1' : ¬ j = 1 := by omega
                    have n2' : ¬ j = 2 := by omega
                    have n3' : ¬ j = 3 := by omega
                    have n4' : ¬ j = 4 := by omega
                    have n5' : ¬ j = 5 := by omega
                    have n6' : ¬ j = 6 := by omega
                    have n7' : ¬ j = 7 := by omega
                    have n8' : ¬ j = 8 := by omega
                    have n9' : ¬ j = 9 := by omega
                    have n10' : ¬ j = 10 := by omega
                    have n11' : ¬ j = 11 := by omega
                    have n12' : ¬ j = 12 := by omega
                    have n13' : ¬ j = 13 := by omega
                    have n14' : ¬ j = 14 := by omega
                    simp [jup_at, js_at, n1', n2', n3', n4', n5', n6', n7', n8', n9', n10', n11', n12', n13', n14']
                  · exact ⟨⟨rfl, (by first | rfl | exact e2), (by first | rfl | exact e2), (by first | rfl | exact e4), rfl, rfl, e7, e8, e9, rfl, e11⟩, Or.inl rfl, Or.inl rfl, g4, fun _ => ⟨rfl, rfl⟩, fun h => absurd (show (0 : Int32) = 5 from h) (by decide), pd1 g7⟩
      · have dk : ¬ nI D ≤ nI k := fun q => hDk ((nI_leI (by omega) (by omega)).mp q)
        · apply Exists.intro
          apply Exists.intro
          refine ⟨?_, ?_, ?_, ?_, ?_, ?_⟩
          · intro t K h
            unfold w_Gr_hear
            refine ⟨fun _ => ⟨fun _ => hdist t _ ?_, fun q => absurd q n5⟩, fun q => absurd q n0⟩
            simp [w_Un_size, w_Gr_hearWithNonePending, w_Gr_hearWithSomePending, w_Gr_resend, w_Gr_tryAgain, w_Gr_alarm, w_Gr_finish, w_Un_clear, mg_at, mg_up, jup_at, js_at, h4, dk]
            exact h
          · intro t K h
            simp [mH, w_M_resend, w_M_alarm, w_M_ends, mg_at, mg_up, jup_at, js_at, e1, e2, e3, e4, e5, e8, h3, h5, n0, n5, fb, dk, r02, r12, r22, r32]
            exact h
          · intro h hh
            have n9 : ¬ h = 9 := by omega
            have n10 : ¬ h = 10 := by omega
            have n11 : ¬ h = 11 := by omega
            have n12 : ¬ h = 12 := by omega
            have n13 : ¬ h = 13 := by omega
            simp [jup_h, js_h, n9, n10, n11, n12, n13]
          · intro h hh
            have n33 : ¬ h = 33 := by omega
            have n34 : ¬ h = 34 := by omega
            have n35 : ¬ h = 35 := by omega
            simp [jup_h, js_h, n33, n34, n35]
          · intro j hj
            have n1' : ¬ j = 1 := by omega
            have n2' : ¬ j = 2 := by omega
            have n3' : ¬ j = 3 := by omega
            have n4' : ¬ j = 4 := by omega
            have n5' : ¬ j = 5 := by omega
            have n6' : ¬ j = 6 := by omega
            have n7' : ¬ j = 7 := by omega
            have n8' : ¬ j = 8 := by omega
            have n9' : ¬ j = 9 := by omega
            have n10' : ¬ j = 10 := by omega
            have n11' : ¬ j = 11 := by omega
            have n12' : ¬ j = 12 := by omega
            have n13' : ¬ j = 13 := by omega
            have n14' : ¬ j = 14 := by omega
            simp [jup_at, js_at, n1', n2', n3', n4', n5', n6', n7', n8', n9', n10', n11', n12', n13', n14']
          · exact ⟨⟨rfl, (by first | rfl | exact e2), (by first | rfl | exact e2), (by first | rfl | exact e4), rfl, rfl, e7, e8, e9, rfl, e11⟩, Or.inl rfl, Or.inl rfl, g4, fun _ => ⟨rfl, rfl⟩, fun h => absurd (show (0 : Int32) = 5 from h) (by decide), pd1 g7⟩
  · rcases hag with rfl | rfl
    · by_cases hDk : D ≤ k
      · have dk : nI D ≤ nI k := (nI_leI (by omega) (by omega)).mpr hDk
        have c1 : nI (k - D) + nI D = nI k := by rw [nI_add]; congr 1; omega
        have c2 : nI k - nI D = nI (k - D) := pk_sub hDk
        have c3 : nI o + nI D - (nI o + nI D) / 16 * 16 = nI x := by rw [nI_add, show nI (o + D) - nI (o + D) / 16 * 16 = nI ((o + D) % 16) from pk_rem (d := 16) (by omega) (by decide) (by decide), hxo]
        · by_cases d0 : nI D ≤ 0
          · have d0' : ¬ 0 < nI D := Int32.not_lt.mpr d0
            by_cases z : nI (k - D) = 0
            · have kd : nI k ≤ nI D := (nI_leI (by omega) (by omega)).mpr (by have := nI_z (by omega) z; omega)
              · apply Exists.intro
                apply Exists.intro
                refine ⟨?_, ?_, ?_, ?_, ?_, ?_⟩
                · intro t K h
                  unfold w_Gr_hear
                  refine ⟨fun _ => ⟨fun _ => hdist t _ ?_, fun q => absurd q n5⟩, fun q => absurd q n0⟩
                  simp [w_Un_size, mg_at, h4, dk]
                  unfold w_Gr_acknowledge
                  refine un_rm_mg hDk h2 h4 (fun i hi => (h7 i hi).2.2.2) ?_
                  simp [w_Un_size, w_Gr_hearWithNonePending, w_Gr_hearWithSomePending, w_Gr_resend, w_Gr_tryAgain, w_Gr_alarm, w_Gr_finish, w_Un_clear, mg_at, mg_up, jup_at, js_at, d0, z, d0', kd]
                  exact h
                · intro t K h
                  simp [mH, mg_at, e1, e3, h3, h5, n0, n5, fb, dk, r01, r11, r21, r31]
                  refine read_mg _ _ hDk h2 h5 (fun i hi => by rw [(h7 i hi).2.2.1]; exact (h7 i hi).2.2.2) ?_
                  rw [w_M_read_L3]
                  simp [w_M_resend, w_M_alarm, w_M_ends, mg_at, mg_up, jup_at, js_at, e1, e2, e3, e4, e5, e8, h3, h5, c1, c2, c3, d0, z, d0', kd]
                  exact h
                · intro h hh
                  have n9 : ¬ h = 9 := by omega
                  have n10 : ¬ h = 10 := by omega
                  have n11 : ¬ h = 11 := by omega
                  have n12 : ¬ h = 12 := by omega
                  have n13 : ¬ h = 13 := by omega
                  simp [jup_h, js_h, n9, n10, n11, n12, n13]
                · intro h hh
                  have n33 : ¬ h = 33 := by omega
                  have n34 : ¬ h = 34 := by omega
                  have n35 : ¬ h = 35 := by omega
                  simp [jup_h, js_h, n33, n34, n35]
                · intro j hj
                  have n1' : ¬ j = 1 := by omega
                  have n2' : ¬ j = 2 := by omega
                  have n3' : ¬ j = 3 := by omega
                  have n4' : ¬ j = 4 := by omega
                  have n5' : ¬ j = 5 := by omega
                  have n6' : ¬ j = 6 := by omega
                  have n7' : ¬ j = 7 := by omega
                  have n8' : ¬ j = 8 := by omega
                  have n9' : ¬ j = 9 := by omega
                  have n10' : ¬ j = 10 := by omega
                  have n11' : ¬ j = 11 := by omega
                  have n12' : ¬ j = 12 := by omega
                  have n13' : ¬ j = 13 := by omega
                  have n14' : ¬ j = 14 := by omega
                  simp [jup_at, js_at, n1', n2', n3', n4', n5', n6', n7', n8', n9', n10', n11', n12', n13', n14']
                · exact ⟨⟨rfl, (by first | rfl | exact e2), (by first | rfl | exact e2), (by first | rfl | exact e4), rfl, rfl, e7, e8, e9, rfl, e11⟩, Or.inl rfl, Or.inl rfl, g4, fun _ => ⟨rfl, rfl⟩, fun h => absurd (show (0 : Int32) = 5 from h) (by decide), pd1 g7⟩
            · apply Exists.intro
              apply Exists.intro
              refine ⟨?_, ?_, ?_, ?_, ?_, ?_⟩
              · intro t K h
                unfold w_Gr_hear
                refine ⟨fun _ => ⟨fun _ => hdist t _ ?_, fun q => absurd q n5⟩, fun q => absurd q n0⟩
                simp [w_Un_size, mg_at, h4, dk]
                unfold w_Gr_acknowledge
                refine un_rm_mg hDk h2 h4 (fun i hi => (h7 i hi).2.2.2) ?_
                simp [w_Un_size, w_Gr_hearWithNonePending, w_Gr_hearWithSomePending, w_Gr_resend, w_Gr_tryAgain, w_Gr_alarm, w_Gr_finish, w_Un_clear, mg_at, mg_up, jup_at, js_at, d0, z, d0']
                exact h
              · intro t K h
                simp [mH, mg_at, e1, e3, h3, h5, n0, n5, fb, dk, r01, r11, r21, r31]
                refine read_mg _ _ hDk h2 h5 (fun i hi => by rw [(h7 i hi).2.2.1]; exact (h7 i hi).2.2.2) ?_
                rw [w_M_read_L3]
                simp [w_M_resend, w_M_alarm, w_M_ends, mg_at, mg_up, jup_at, js_at, e1, e2, e3, e4, e5, e8, h3, h5, c1, c2, c3, d0, z, d0']
                exact h
              · intro h hh
                have n9 : ¬ h = 9 := by omega
                have n10 : ¬ h = 10 := by omega
                have n11 : ¬ h = 11 := by omega
                have n12 : ¬ h = 12 := by omega
                have n13 : ¬ h = 13 := by omega
                simp [jup_h, js_h, n9, n10, n11, n12, n13]
              · intro h hh
                have n33 : ¬ h = 33 := by omega
                have n34 : ¬ h = 34 := by omega
                have n35 : ¬ h = 35 := by omega
                simp [jup_h, js_h, n33, n34, n35]
              · intro j hj
                have n1' : ¬ j = 1 := by omega
                have n2' : ¬ j = 2 := by omega
                have n3' : ¬ j = 3 := by omega
                have n4' : ¬ j = 4 := by omega
                have n5' : ¬ j = 5 := by omega
                have n6' : ¬ j = 6 := by omega
                have n7' : ¬ j = 7 := by omega
                have n8' : ¬ j = 8 := by omega
                have n9' : ¬ j = 9 := by omega
                have n10' : ¬ j = 10 := by omega
                have n11' : ¬ j = 11 := by omega
                have n12' : ¬ j = 12 := by omega
                have n13' : ¬ j = 13 := by omega
                have n14' : ¬ j = 14 := by omega
                simp [jup_at, js_at, n1', n2', n3', n4', n5', n6', n7', n8', n9', n10', n11', n12', n13', n14']
              · exact ⟨⟨rfl, (by first | rfl | exact e2), (by first | rfl | exact e2), (by first | rfl | exact e4), rfl, rfl, e7, e8, e9, rfl, e11⟩, Or.inl rfl, Or.inl rfl, g4, fun _ => ⟨rfl, rfl⟩, fun h => absurd (show (0 : Int32) = 5 from h) (by decide), pd1 g7⟩
          · have d0' : 0 < nI D := Int32.not_le.mp d0
            by_cases z : nI (k - D) = 0
            · have kd : nI k ≤ nI D := (nI_leI (by omega) (by omega)).mpr (by have := nI_z (by omega) z; omega)
              · apply Exists.intro
                apply Exists.intro
                refine ⟨?_, ?_, ?_, ?_, ?_, ?_⟩
                · intro t K h
                  unfold w_Gr_hear
                  refine ⟨fun _ => ⟨fun _ => hdist t _ ?_, fun q => absurd q n5⟩, fun q => absurd q n0⟩
                  simp [w_Un_size, mg_at, h4, dk]
                  unfold w_Gr_acknowledge
                  refine un_rm_mg hDk h2 h4 (fun i hi => (h7 i hi).2.2.2) ?_
                  simp [w_Un_size, w_Gr_hearWithNonePending, w_Gr_hearWithSomePending, w_Gr_resend, w_Gr_tryAgain, w_Gr_alarm, w_Gr_finish, w_Un_clear, mg_at, mg_up, jup_at, js_at, d0, z, d0', kd]
                  exact h
                · intro t K h
                  simp [mH, mg_at, e1, e3, h3, h5, n0, n5, fb, dk, r01, r11, r21, r31]
                  refine read_mg _ _ hDk h2 h5 (fun i hi => by rw [(h7 i hi).2.2.1]; exact (h7 i hi).2.2.2) ?_
                  rw [w_M_read_L3]
                  simp [w_M_resend, w_M_alarm, w_M_ends, mg_at, mg_up, jup_at, js_at, e1, e2, e3, e4, e5, e8, h3, h5, c1, c2, c3, d0, z, d0', kd]
                  exact h
                · intro h hh
                  have n9 : ¬ h = 9 := by omega
                  have n10 : ¬ h = 10 := by omega
                  have n11 : ¬ h = 11 := by omega
                  have n12 : ¬ h = 12 := by omega
                  have n13 : ¬ h = 13 := by omega
                  simp [jup_h, js_h, n9, n10, n11, n12, n13]
                · intro h hh
                  have n33 : ¬ h = 33 := by omega
                  have n34 : ¬ h = 34 := by omega
                  have n35 : ¬ h = 35 := by omega
                  simp [jup_h, js_h, n33, n34, n35]
                · intro j hj
                  have n1' : ¬ j = 1 := by omega
                  have n2' : ¬ j = 2 := by omega
                  have n3' : ¬ j = 3 := by omega
                  have n4' : ¬ j = 4 := by omega
                  have n5' : ¬ j = 5 := by omega
                  have n6' : ¬ j = 6 := by omega
                  have n7' : ¬ j = 7 := by omega
                  have n8' : ¬ j = 8 := by omega
                  have n9' : ¬ j = 9 := by omega
                  have n10' : ¬ j = 10 := by omega
                  have n11' : ¬ j = 11 := by omega
                  have n12' : ¬ j = 12 := by omega
                  have n13' : ¬ j = 13 := by omega
                  have n14' : ¬ j = 14 := by omega
                  simp [jup_at, js_at, n1', n2', n3', n4', n5', n6', n7', n8', n9', n10', n11', n12', n13', n14']
                · exact ⟨⟨rfl, (by first | rfl | exact e2), (by first | rfl | exact e2), (by first | rfl | exact e4), rfl, rfl, e7, e8, e9, rfl, e11⟩, Or.inl rfl, Or.inl rfl, g4, fun _ => ⟨rfl, rfl⟩, fun h => absurd (show (0 : Int32) = 5 from h) (by decide), pd1 g7⟩
            · apply Exists.intro
              apply Exists.intro
              refine ⟨?_, ?_, ?_, ?_, ?_, ?_⟩
              · intro t K h
                unfold w_Gr_hear
                refine ⟨fun _ => ⟨fun _ => hdist t _ ?_, fun q => absurd q n5⟩, fun q => absurd q n0⟩
                simp [w_Un_size, mg_at, h4, dk]
                unfold w_Gr_acknowledge
                refine un_rm_mg hDk h2 h4 (fun i hi => (h7 i hi).2.2.2) ?_
                simp [w_Un_size, w_Gr_hearWithNonePending, w_Gr_hearWithSomePending, w_Gr_resend, w_Gr_tryAgain, w_Gr_alarm, w_Gr_finish, w_Un_clear, mg_at, mg_up, jup_at, js_at, d0, z, d0']
                exact h
              · intro t K h
                simp [mH, mg_at, e1, e3, h3, h5, n0, n5, fb, dk, r01, r11, r21, r31]
                refine read_mg _ _ hDk h2 h5 (fun i hi => by rw [(h7 i hi).2.2.1]; exact (h7 i hi).2.2.2) ?_
                rw [w_M_read_L3]
                simp [w_M_resend, w_M_alarm, w_M_ends, mg_at, mg_up, jup_at, js_at, e1, e2, e3, e4, e5, e8, h3, h5, c1, c2, c3, d0, z, d0']
                exact h
              · intro h hh
                have n9 : ¬ h = 9 := by omega
                have n10 : ¬ h = 10 := by omega
                have n11 : ¬ h = 11 := by omega
                have n12 : ¬ h = 12 := by omega
                have n13 : ¬ h = 13 := by omega
                simp [jup_h, js_h, n9, n10, n11, n12, n13]
              · intro h hh
                have n33 : ¬ h = 33 := by omega
                have n34 : ¬ h = 34 := by omega
                have n35 : ¬ h = 35 := by omega
                simp [jup_h, js_h, n33, n34, n35]
              · intro j hj
                have n1' : ¬ j = 1 := by omega
                have n2' : ¬ j = 2 := by omega
                have n3' : ¬ j = 3 := by omega
                have n4' : ¬ j = 4 := by omega
                have n5' : ¬ j = 5 := by omega
                have n6' : ¬ j = 6 := by omega
                have n7' : ¬ j = 7 := by omega
                have n8' : ¬ j = 8 := by omega
                have n9' : ¬ j = 9 := by omega
                have n10' : ¬ j = 10 := by omega
                have n11' : ¬ j = 11 := by omega
                have n12' : ¬ j = 12 := by omega
                have n13' : ¬ j = 13 := by omega
                have n14' : ¬ j = 14 := by omega
                simp [jup_at, js_at, n1', n2', n3', n4', n5', n6', n7', n8', n9', n10', n11', n12', n13', n14']
              · exact ⟨⟨rfl, (by first | rfl | exact e2), (by first | rfl | exact e2), (by first | rfl | exact e4), rfl, rfl, e7, e8, e9, rfl, e11⟩, Or.inl rfl, Or.inl rfl, g4, fun _ => ⟨rfl, rfl⟩, fun h => absurd (show (0 : Int32) = 5 from h) (by decide), pd1 g7⟩
      · have dk : ¬ nI D ≤ nI k := fun q => hDk ((nI_leI (by omega) (by omega)).mp q)
        · apply Exists.intro
          apply Exists.intro
          refine ⟨?_, ?_, ?_, ?_, ?_, ?_⟩
          · intro t K h
            unfold w_Gr_hear
            refine ⟨fun _ => ⟨fun _ => hdist t _ ?_, fun q => absurd q n5⟩, fun q => absurd q n0⟩
            simp [w_Un_size, w_Gr_hearWithNonePending, w_Gr_hearWithSomePending, w_Gr_resend, w_Gr_tryAgain, w_Gr_alarm, w_Gr_finish, w_Un_clear, mg_at, mg_up, jup_at, js_at, h4, dk]
            exact h
          · intro t K h
            simp [mH, w_M_resend, w_M_alarm, w_M_ends, mg_at, mg_up, jup_at, js_at, e1, e2, e3, e4, e5, e8, h3, h5, n0, n5, fb, dk, r01, r11, r21, r31]
            exact h
          · intro h hh
            have n9 : ¬ h = 9 := by omega
            have n10 : ¬ h = 10 := by omega
            have n11 : ¬ h = 11 := by omega
            have n12 : ¬ h = 12 := by omega
            have n13 : ¬ h = 13 := by omega
            simp [jup_h, js_h, n9, n10, n11, n12, n13]
          · intro h hh
            have n33 : ¬ h = 33 := by omega
            have n34 : ¬ h = 34 := by omega
            have n35 : ¬ h = 35 := by omega
            simp [jup_h, js_h, n33, n34, n35]
          · intro j hj
            have n1' : ¬ j = 1 := by omega
            have n2' : ¬ j = 2 := by omega
            have n3' : ¬ j = 3 := by omega
            have n4' : ¬ j = 4 := by omega
            have n5' : ¬ j = 5 := by omega
            have n6' : ¬ j = 6 := by omega
            have n7' : ¬ j = 7 := by omega
            have n8' : ¬ j = 8 := by omega
            have n9' : ¬ j = 9 := by omega
            have n10' : ¬ j = 10 := by omega
            have n11' : ¬ j = 11 := by omega
            have n12' : ¬ j = 12 := by omega
            have n13' : ¬ j = 13 := by omega
            have n14' : ¬ j = 14 := by omega
            simp [jup_at, js_at, n1', n2', n3', n4', n5', n6', n7', n8', n9', n10', n11', n12', n13', n14']
          · exact ⟨⟨rfl, (by first | rfl | exact e2), (by first | rfl | exact e2), (by first | rfl | exact e4), rfl, rfl, e7, e8, e9, rfl, e11⟩, Or.inl rfl, Or.inl rfl, g4, fun _ => ⟨rfl, rfl⟩, fun h => absurd (show (0 : Int32) = 5 from h) (by decide), pd1 g7⟩
    · by_cases hDk : D ≤ k
      · have dk : nI D ≤ nI k := (nI_leI (by omega) (by omega)).mpr hDk
        have c1 : nI (k - D) + nI D = nI k := by rw [nI_add]; congr 1; omega
        have c2 : nI k - nI D = nI (k - D) := pk_sub hDk
        have c3 : nI o + nI D - (nI o + nI D) / 16 * 16 = nI x := by rw [nI_add, show nI (o + D) - nI (o + D) / 16 * 16 = nI ((o + D) % 16) from pk_rem (d := 16) (by omega) (by decide) (by decide), hxo]
        · by_cases d0 : nI D ≤ 0
          · have d0' : ¬ 0 < nI D := Int32.not_lt.mpr d0
            by_cases z : nI (k - D) = 0
            · have kd : nI k ≤ nI D := (nI_leI (by omega) (by omega)).mpr (by have := nI_z (by omega) z; omega)
              · apply Exists.intro
                apply Exists.intro
                refine ⟨?_, ?_, ?_, ?_, ?_, ?_⟩
                · intro t K h
                  unfold w_Gr_hear
                  refine ⟨fun _ => ⟨fun _ => hdist t _ ?_, fun q => absurd q n5⟩, fun q => absurd q n0⟩
                  simp [w_Un_size, mg_at, h4, dk]
                  unfold w_Gr_acknowledge
                  refine un_rm_mg hDk h2 h4 (fun i hi => (h7 i hi).2.2.2) ?_
                  simp [w_Un_size, w_Gr_hearWithNonePending, w_Gr_hearWithSomePending, w_Gr_resend, w_Gr_tryAgain, w_Gr_alarm, w_Gr_finish, w_Un_clear, mg_at, mg_up, jup_at, js_at, d0, z, d0', kd]
                  exact h
                · intro t K h
                  simp [mH, mg_at, e1, e3, h3, h5, n0, n5, fb, dk, r03, r13, r23, r33]
                  refine read_mg _ _ hDk h2 h5 (fun i hi => by rw [(h7 i hi).2.2.1]; exact (h7 i hi).2.2.2) ?_
                  rw [w_M_read_L3]
                  simp [w_M_resend, w_M_alarm, w_M_ends, mg_at, mg_up, jup_at, js_at, e1, e2, e3, e4, e5, e8, h3, h5, c1, c2, c3, d0, z, d0', kd]
                  exact h
                · intro h hh
                  have n9 : ¬ h = 9 := by omega
                  have n10 : ¬ h = 10 := by omega
                  have n11 : ¬ h = 11 := by omega
                  have n12 : ¬ h = 12 := by omega
                  have n13 : ¬ h = 13 := by omega
                  simp [jup_h, js_h, n9, n10, n11, n12, n13]
                · intro h hh
                  have n33 : ¬ h = 33 := by omega
                  have n34 : ¬ h = 34 := by omega
                  have n35 : ¬ h = 35 := by omega
                  simp [jup_h, js_h, n33, n34, n35]
                · intro j hj
                  have n1' : ¬ j = 1 := by omega
                  have n2' : ¬ j = 2 := by omega
                  have n3' : ¬ j = 3 := by omega
                  have n4' : ¬ j = 4 := by omega
                  have n5' : ¬ j = 5 := by omega
                  have n6' : ¬ j = 6 := by omega
                  have n7' : ¬ j = 7 := by omega
                  have n8' : ¬ j = 8 := by omega
                  have n9' : ¬ j = 9 := by omega
                  have n10' : ¬ j = 10 := by omega
                  have n11' : ¬ j = 11 := by omega
                  have n12' : ¬ j = 12 := by omega
                  have n13' : ¬ j = 13 := by omega
                  have n14' : ¬ j = 14 := by omega
                  simp [jup_at, js_at, n1', n2', n3', n4', n5', n6', n7', n8', n9', n10', n11', n12', n13', n14']
                · exact ⟨⟨rfl, (by first | rfl | exact e2), (by first | rfl | exact e2), (by first | rfl | exact e4), rfl, rfl, e7, e8, e9, rfl, e11⟩, Or.inl rfl, Or.inl rfl, g4, fun _ => ⟨rfl, rfl⟩, fun h => absurd (show (0 : Int32) = 5 from h) (by decide), pd1 g7⟩
            · by_cases lm : σ 9 10 = 1
              · apply Exists.intro
                apply Exists.intro
                refine ⟨?_, ?_, ?_, ?_, ?_, ?_⟩
                · intro t K h
                  unfold w_Gr_hear
                  refine ⟨fun _ => ⟨fun _ => hdist t _ ?_, fun q => absurd q n5⟩, fun q => absurd q n0⟩
                  simp [w_Un_size, mg_at, h4, dk]
                  unfold w_Gr_acknowledge
                  refine un_rm_mg hDk h2 h4 (fun i hi => (h7 i hi).2.2.2) ?_
                  simp [w_Un_size, w_Gr_hearWithNonePending, w_Gr_hearWithSomePending, w_Gr_resend, w_Gr_tryAgain, w_Gr_alarm, w_Gr_finish, w_Un_clear, mg_at, mg_up, jup_at, js_at, d0, z, d0', lm]
                  exact h
                · intro t K h
                  simp [mH, mg_at, e1, e3, h3, h5, n0, n5, fb, dk, r03, r13, r23, r33]
                  refine read_mg _ _ hDk h2 h5 (fun i hi => by rw [(h7 i hi).2.2.1]; exact (h7 i hi).2.2.2) ?_
                  rw [w_M_read_L3]
                  simp [w_M_resend, w_M_alarm, w_M_ends, mg_at, mg_up, jup_at, js_at, e1, e2, e3, e4, e5, e8, h3, h5, c1, c2, c3, d0, z, d0', lm]
                  exact h
                · intro h hh
                  have n9 : ¬ h = 9 := by omega
                  have n10 : ¬ h = 10 := by omega
                  have n11 : ¬ h = 11 := by omega
                  have n12 : ¬ h = 12 := by omega
                  have n13 : ¬ h = 13 := by omega
                  simp [jup_h, js_h, n9, n10, n11, n12, n13]
                · intro h hh
                  have n33 : ¬ h = 33 := by omega
                  have n34 : ¬ h = 34 := by omega
                  have n35 : ¬ h = 35 := by omega
                  simp [jup_h, js_h, n33, n34, n35]
                · intro j hj
                  have n1' : ¬ j = 1 := by omega
                  have n2' : ¬ j = 2 := by omega
                  have n3' : ¬ j = 3 := by omega
                  have n4' : ¬ j = 4 := by omega
                  have n5' : ¬ j = 5 := by omega
                  have n6' : ¬ j = 6 := by omega
                  have n7' : ¬ j = 7 := by omega
                  have n8' : ¬ j = 8 := by omega
                  have n9' : ¬ j = 9 := by omega
                  have n10' : ¬ j = 10 := by omega
                  have n11' : ¬ j = 11 := by omega
                  have n12' : ¬ j = 12 := by omega
                  have n13' : ¬ j = 13 := by omega
                  have n14' : ¬ j = 14 := by omega
                  simp [jup_at, js_at, n1', n2', n3', n4', n5', n6', n7', n8', n9', n10', n11', n12', n13', n14']
                · exact ⟨⟨rfl, e2, rfl, (by first | rfl | exact e4), (by first | rfl | exact e5), e6, e7, e8, e9, e10, e11⟩, Or.inr (Or.inr (Or.inr (Or.inl rfl))), g3, g4, fun h => absurd (show (3 : Int32) = 0 from h) (by decide), fun h => absurd (show (3 : Int32) = 5 from h) (by decide), pd_ack (od := σ 9 3) (sz := σ 10 3) (op := σ 10 3) hDk hx hxo h2 h6 h7⟩
              · apply Exists.intro
                apply Exists.intro
                refine ⟨?_, ?_, ?_, ?_, ?_, ?_⟩
                · intro t K h
                  unfold w_Gr_hear
                  refine ⟨fun _ => ⟨fun _ => hdist t _ ?_, fun q => absurd q n5⟩, fun q => absurd q n0⟩
                  simp [w_Un_size, mg_at, h4, dk]
                  unfold w_Gr_acknowledge
                  refine un_rm_mg hDk h2 h4 (fun i hi => (h7 i hi).2.2.2) ?_
                  simp [w_Un_size, w_Gr_hearWithNonePending, w_Gr_hearWithSomePending, w_Gr_resend, w_Gr_tryAgain, w_Gr_alarm, w_Gr_finish, w_Un_clear, mg_at, mg_up, jup_at, js_at, d0, z, d0', lm]
                  exact h
                · intro t K h
                  simp [mH, mg_at, e1, e3, h3, h5, n0, n5, fb, dk, r03, r13, r23, r33]
                  refine read_mg _ _ hDk h2 h5 (fun i hi => by rw [(h7 i hi).2.2.1]; exact (h7 i hi).2.2.2) ?_
                  rw [w_M_read_L3]
                  simp [w_M_resend, w_M_alarm, w_M_ends, mg_at, mg_up, jup_at, js_at, e1, e2, e3, e4, e5, e8, h3, h5, c1, c2, c3, d0, z, d0', lm]
                  exact h
                · intro h hh
                  have n9 : ¬ h = 9 := by omega
                  have n10 : ¬ h = 10 := by omega
                  have n11 : ¬ h = 11 := by omega
                  have n12 : ¬ h = 12 := by omega
                  have n13 : ¬ h = 13 := by omega
                  simp [jup_h, js_h, n9, n10, n11, n12, n13]
                · intro h hh
                  have n33 : ¬ h = 33 := by omega
                  have n34 : ¬ h = 34 := by omega
                  have n35 : ¬ h = 35 := by omega
                  simp [jup_h, js_h, n33, n34, n35]
                · intro j hj
                  have n1' : ¬ j = 1 := by omega
                  have n2' : ¬ j = 2 := by omega
                  have n3' : ¬ j = 3 := by omega
                  have n4' : ¬ j = 4 := by omega
                  have n5' : ¬ j = 5 := by omega
                  have n6' : ¬ j = 6 := by omega
                  have n7' : ¬ j = 7 := by omega
                  have n8' : ¬ j = 8 := by omega
                  have n9' : ¬ j = 9 := by omega
                  have n10' : ¬ j = 10 := by omega
                  have n11' : ¬ j = 11 := by omega
                  have n12' : ¬ j = 12 := by omega
                  have n13' : ¬ j = 13 := by omega
                  have n14' : ¬ j = 14 := by omega
                  simp [jup_at, js_at, n1', n2', n3', n4', n5', n6', n7', n8', n9', n10', n11', n12', n13', n14']
                · exact ⟨⟨rfl, e2, rfl, (by first | rfl | exact e4), (by first | rfl | exact e5), e6, e7, e8, e9, e10, e11⟩, Or.inr (Or.inr (Or.inr (Or.inl rfl))), g3, g4, fun h => absurd (show (3 : Int32) = 0 from h) (by decide), fun h => absurd (show (3 : Int32) = 5 from h) (by decide), pd_ack (od := σ 9 3) (sz := σ 10 3) (op := σ 10 3) hDk hx hxo h2 h6 h7⟩
          · have d0' : 0 < nI D := Int32.not_le.mp d0
            by_cases z : nI (k - D) = 0
            · have kd : nI k ≤ nI D := (nI_leI (by omega) (by omega)).mpr (by have := nI_z (by omega) z; omega)
              · apply Exists.intro
                apply Exists.intro
                refine ⟨?_, ?_, ?_, ?_, ?_, ?_⟩
                · intro t K h
                  unfold w_Gr_hear
                  refine ⟨fun _ => ⟨fun _ => hdist t _ ?_, fun q => absurd q n5⟩, fun q => absurd q n0⟩
                  simp [w_Un_size, mg_at, h4, dk]
                  unfold w_Gr_acknowledge
                  refine un_rm_mg hDk h2 h4 (fun i hi => (h7 i hi).2.2.2) ?_
                  simp [w_Un_size, w_Gr_hearWithNonePending, w_Gr_hearWithSomePending, w_Gr_resend, w_Gr_tryAgain, w_Gr_alarm, w_Gr_finish, w_Un_clear, mg_at, mg_up, jup_at, js_at, d0, z, d0', kd]
                  exact h
                · intro t K h
                  simp [mH, mg_at, e1, e3, h3, h5, n0, n5, fb, dk, r03, r13, r23, r33]
                  refine read_mg _ _ hDk h2 h5 (fun i hi => by rw [(h7 i hi).2.2.1]; exact (h7 i hi).2.2.2) ?_
                  rw [w_M_read_L3]
                  simp [w_M_resend, w_M_alarm, w_M_ends, mg_at, mg_up, jup_at, js_at, e1, e2, e3, e4, e5, e8, h3, h5, c1, c2, c3, d0, z, d0', kd]
                  exact h
                · intro h hh
                  have n9 : ¬ h = 9 := by omega
                  have n10 : ¬ h = 10 := by omega
                  have n11 : ¬ h = 11 := by omega
                  have n12 : ¬ h = 12 := by omega
                  have n13 : ¬ h = 13 := by omega
                  simp [jup_h, js_h, n9, n10, n11, n12, n13]
                · intro h hh
                  have n33 : ¬ h = 33 := by omega
                  have n34 : ¬ h = 34 := by omega
                  have n35 : ¬ h = 35 := by omega
                  simp [jup_h, js_h, n33, n34, n35]
                · intro j hj
                  have n1' : ¬ j = 1 := by omega
                  have n2' : ¬ j = 2 := by omega
                  have n3' : ¬ j = 3 := by omega
                  have n4' : ¬ j = 4 := by omega
                  have n5' : ¬ j = 5 := by omega
                  have n6' : ¬ j = 6 := by omega
                  have n7' : ¬ j = 7 := by omega
                  have n8' : ¬ j = 8 := by omega
                  have n9' : ¬ j = 9 := by omega
                  have n10' : ¬ j = 10 := by omega
                  have n11' : ¬ j = 11 := by omega
                  have n12' : ¬ j = 12 := by omega
                  have n13' : ¬ j = 13 := by omega
                  have n14' : ¬ j = 14 := by omega
                  simp [jup_at, js_at, n1', n2', n3', n4', n5', n6', n7', n8', n9', n10', n11', n12', n13', n14']
                · exact ⟨⟨rfl, (by first | rfl | exact e2), (by first | rfl | exact e2), (by first | rfl | exact e4), rfl, rfl, e7, e8, e9, rfl, e11⟩, Or.inl rfl, Or.inl rfl, g4, fun _ => ⟨rfl, rfl⟩, fun h => absurd (show (0 : Int32) = 5 from h) (by decide), pd1 g7⟩
            · by_cases lm : σ 9 10 = 1
              · apply Exists.intro
                apply Exists.intro
                refine ⟨?_, ?_, ?_, ?_, ?_, ?_⟩
                · intro t K h
                  unfold w_Gr_hear
                  refine ⟨fun _ => ⟨fun _ => hdist t _ ?_, fun q => absurd q n5⟩, fun q => absurd q n0⟩
                  simp [w_Un_size, mg_at, h4, dk]
                  unfold w_Gr_acknowledge
                  refine un_rm_mg hDk h2 h4 (fun i hi => (h7 i hi).2.2.2) ?_
                  simp [w_Un_size, w_Gr_hearWithNonePending, w_Gr_hearWithSomePending, w_Gr_resend, w_Gr_tryAgain, w_Gr_alarm, w_Gr_finish, w_Un_clear, mg_at, mg_up, jup_at, js_at, d0, z, d0', lm]
                  exact h
                · intro t K h
                  simp [mH, mg_at, e1, e3, h3, h5, n0, n5, fb, dk, r03, r13, r23, r33]
                  refine read_mg _ _ hDk h2 h5 (fun i hi => by rw [(h7 i hi).2.2.1]; exact (h7 i hi).2.2.2) ?_
                  rw [w_M_read_L3]
                  simp [w_M_resend, w_M_alarm, w_M_ends, mg_at, mg_up, jup_at, js_at, e1, e2, e3, e4, e5, e8, h3, h5, c1, c2, c3, d0, z, d0', lm]
                  exact h
                · intro h hh
                  have n9 : ¬ h = 9 := by omega
                  have n10 : ¬ h = 10 := by omega
                  have n11 : ¬ h = 11 := by omega
                  have n12 : ¬ h = 12 := by omega
                  have n13 : ¬ h = 13 := by omega
                  simp [jup_h, js_h, n9, n10, n11, n12, n13]
                · intro h hh
                  have n33 : ¬ h = 33 := by omega
                  have n34 : ¬ h = 34 := by omega
                  have n35 : ¬ h = 35 := by omega
                  simp [jup_h, js_h, n33, n34, n35]
                · intro j hj
                  have n1' : ¬ j = 1 := by omega
                  have n2' : ¬ j = 2 := by omega
                  have n3' : ¬ j = 3 := by omega
                  have n4' : ¬ j = 4 := by omega
                  have n5' : ¬ j = 5 := by omega
                  have n6' : ¬ j = 6 := by omega
                  have n7' : ¬ j = 7 := by omega
                  have n8' : ¬ j = 8 := by omega
                  have n9' : ¬ j = 9 := by omega
                  have n10' : ¬ j = 10 := by omega
                  have n11' : ¬ j = 11 := by omega
                  have n12' : ¬ j = 12 := by omega
                  have n13' : ¬ j = 13 := by omega
                  have n14' : ¬ j = 14 := by omega
                  simp [jup_at, js_at, n1', n2', n3', n4', n5', n6', n7', n8', n9', n10', n11', n12', n13', n14']
                · exact ⟨⟨rfl, (by first | rfl | exact e2), (by first | rfl | exact e2), (by first | rfl | exact e4), rfl, rfl, e7, e8, e9, rfl, e11⟩, Or.inl rfl, Or.inl rfl, g4, fun _ => ⟨rfl, rfl⟩, fun h => absurd (show (0 : Int32) = 5 from h) (by decide), pd1 g7⟩
              · apply Exists.intro
                apply Exists.intro
                refine ⟨?_, ?_, ?_, ?_, ?_, ?_⟩
                · intro t K h
                  unfold w_Gr_hear
                  refine ⟨fun _ => ⟨fun _ => hdist t _ ?_, fun q => absurd q n5⟩, fun q => absurd q n0⟩
                  simp [w_Un_size, mg_at, h4, dk]
                  unfold w_Gr_acknowledge
                  refine un_rm_mg hDk h2 h4 (fun i hi => (h7 i hi).2.2.2) ?_
                  simp [w_Un_size, w_Gr_hearWithNonePending, w_Gr_hearWithSomePending, w_Gr_resend, w_Gr_tryAgain, w_Gr_alarm, w_Gr_finish, w_Un_clear, mg_at, mg_up, jup_at, js_at, d0, z, d0', lm]
                  exact h
                · intro t K h
                  simp [mH, mg_at, e1, e3, h3, h5, n0, n5, fb, dk, r03, r13, r23, r33]
                  refine read_mg _ _ hDk h2 h5 (fun i hi => by rw [(h7 i hi).2.2.1]; exact (h7 i hi).2.2.2) ?_
                  rw [w_M_read_L3]
                  simp [w_M_resend, w_M_alarm, w_M_ends, mg_at, mg_up, jup_at, js_at, e1, e2, e3, e4, e5, e8, h3, h5, c1, c2, c3, d0, z, d0', lm]
                  exact h
                · intro h hh
                  have n9 : ¬ h = 9 := by omega
                  have n10 : ¬ h = 10 := by omega
                  have n11 : ¬ h = 11 := by omega
                  have n12 : ¬ h = 12 := by omega
                  have n13 : ¬ h = 13 := by omega
                  simp [jup_h, js_h, n9, n10, n11, n12, n13]
                · intro h hh
                  have n33 : ¬ h = 33 := by omega
                  have n34 : ¬ h = 34 := by omega
                  have n35 : ¬ h = 35 := by omega
                  simp [jup_h, js_h, n33, n34, n35]
                · intro j hj
                  have n1' : ¬ j = 1 := by omega
                  have n2' : ¬ j = 2 := by omega
                  have n3' : ¬ j = 3 := by omega
                  have n4' : ¬ j = 4 := by omega
                  have n5' : ¬ j = 5 := by omega
                  have n6' : ¬ j = 6 := by omega
                  have n7' : ¬ j = 7 := by omega
                  have n8' : ¬ j = 8 := by omega
                  have n9' : ¬ j = 9 := by omega
                  have n10' : ¬ j = 10 := by omega
                  have n11' : ¬ j = 11 := by omega
                  have n12' : ¬ j = 12 := by omega
                  have n13' : ¬ j = 13 := by omega
                  have n14' : ¬ j = 14 := by omega
                  simp [jup_at, js_at, n1', n2', n3', n4', n5', n6', n7', n8', n9', n10', n11', n12', n13', n14']
                · exact ⟨⟨rfl, e2, rfl, (by first | rfl | exact e4), (by first | rfl | exact e5), e6, e7, e8, e9, e10, e11⟩, Or.inr (Or.inr (Or.inr (Or.inl rfl))), g3, g4, fun h => absurd (show (3 : Int32) = 0 from h) (by decide), fun h => absurd (show (3 : Int32) = 5 from h) (by decide), pd_ack (od := σ 9 3) (sz := σ 10 3) (op := σ 10 3) hDk hx hxo h2 h6 h7⟩
      · have dk : ¬ nI D ≤ nI k := fun q => hDk ((nI_leI (by omega) (by omega)).mp q)
        · apply Exists.intro
          apply Exists.intro
          refine ⟨?_, ?_, ?_, ?_, ?_, ?_⟩
          · intro t K h
            unfold w_Gr_hear
            refine ⟨fun _ => ⟨fun _ => hdist t _ ?_, fun q => absurd q n5⟩, fun q => absurd q n0⟩
            simp [w_Un_size, w_Gr_hearWithNonePending, w_Gr_hearWithSomePending, w_Gr_resend, w_Gr_tryAgain, w_Gr_alarm, w_Gr_finish, w_Un_clear, mg_at, mg_up, jup_at, js_at, h4, dk]
            exact h
          · intro t K h
            simp [mH, w_M_resend, w_M_alarm, w_M_ends, mg_at, mg_up, jup_at, js_at, e1, e2, e3, e4, e5, e8, h3, h5, n0, n5, fb, dk, r03, r13, r23, r33]
            exact h
          · intro h hh
            have n9 : ¬ h = 9 := by omega
            have n10 : ¬ h = 10 := by omega
            have n11 : ¬ h = 11 := by omega
            have n12 : ¬ h = 12 := by omega
            have n13 : ¬ h = 13 := by omega
            simp [jup_h, js_h, n9, n10, n11, n12, n13]
          · intro h hh
            have n33 : ¬ h = 33 := by omega
            have n34 : ¬ h = 34 := by omega
            have n35 : ¬ h = 35 := by omega
            simp [jup_h, js_h, n33, n34, n35]
          · intro j hj
            have n1' : ¬ j = 1 := by omega
            have n2' : ¬ j = 2 := by omega
            have n3' : ¬ j = 3 := by omega
            have n4' : ¬ j = 4 := by omega
            have n5' : ¬ j = 5 := by omega
            have n6' : ¬ j = 6 := by omega
            have n7' : ¬ j = 7 := by omega
            have n8' : ¬ j = 8 := by omega
            have n9' : ¬ j = 9 := by omega
            have n10' : ¬ j = 10 := by omega
            have n11' : ¬ j = 11 := by omega
            have n12' : ¬ j = 12 := by omega
            have n13' : ¬ j = 13 := by omega
            have n14' : ¬ j = 14 := by omega
            simp [jup_at, js_at, n1', n2', n3', n4', n5', n6', n7', n8', n9', n10', n11', n12', n13', n14']
          · exact ⟨⟨rfl, (by first | rfl | exact e2), (by first | rfl | exact e2), (by first | rfl | exact e4), rfl, rfl, e7, e8, e9, rfl, e11⟩, Or.inl rfl, Or.inl rfl, g4, fun _ => ⟨rfl, rfl⟩, fun h => absurd (show (0 : Int32) = 5 from h) (by decide), pd1 g7⟩
  · rcases hag with rfl | rfl
    · apply Exists.intro
      apply Exists.intro
      refine ⟨?_, ?_, ?_, ?_, ?_, ?_⟩
      · intro t K h
        unfold w_Gr_hear
        refine ⟨fun _ => ⟨fun _ => hdist t _ ?_, fun q => absurd q n5⟩, fun q => absurd q n0⟩
        simp [w_Un_size, w_Gr_hearWithNonePending, w_Gr_hearWithSomePending, w_Gr_resend, w_Gr_tryAgain, w_Gr_alarm, w_Gr_finish, w_Un_clear, mg_at, mg_up, jup_at, js_at, h4, n0]
        exact h
      · intro t K h
        simp [mH, w_M_resend, w_M_alarm, w_M_ends, mg_at, mg_up, jup_at, js_at, e1, e2, e3, e4, e5, e8, h3, h5, n0, n5, fb, r24]
        exact h
      · intro h hh
        have n9 : ¬ h = 9 := by omega
        have n10 : ¬ h = 10 := by omega
        have n11 : ¬ h = 11 := by omega
        have n12 : ¬ h = 12 := by omega
        have n13 : ¬ h = 13 := by omega
        simp [jup_h, js_h, n9, n10, n11, n12, n13]
      · intro h hh
        have n33 : ¬ h = 33 := by omega
        have n34 : ¬ h = 34 := by omega
        have n35 : ¬ h = 35 := by omega
        simp [jup_h, js_h, n33, n34, n35]
      · intro j hj
        have n1' : ¬ j = 1 := by omega
        have n2' : ¬ j = 2 := by omega
        have n3' : ¬ j = 3 := by omega
        have n4' : ¬ j = 4 := by omega
        have n5' : ¬ j = 5 := by omega
        have n6' : ¬ j = 6 := by omega
        have n7' : ¬ j = 7 := by omega
        have n8' : ¬ j = 8 := by omega
        have n9' : ¬ j = 9 := by omega
        have n10' : ¬ j = 10 := by omega
        have n11' : ¬ j = 11 := by omega
        have n12' : ¬ j = 12 := by omega
        have n13' : ¬ j = 13 := by omega
        have n14' : ¬ j = 14 := by omega
        simp [jup_at, js_at, n1', n2', n3', n4', n5', n6', n7', n8', n9', n10', n11', n12', n13', n14']
      · exact ⟨⟨rfl, (by first | rfl | exact e2), (by first | rfl | exact e2), (by first | rfl | exact e4), rfl, rfl, e7, e8, e9, rfl, e11⟩, Or.inl rfl, Or.inl rfl, g4, fun _ => ⟨rfl, rfl⟩, fun h => absurd (show (0 : Int32) = 5 from h) (by decide), pd1 g7⟩
    · apply Exists.intro
      apply Exists.intro
      refine ⟨?_, ?_, ?_, ?_, ?_, ?_⟩
      · intro t K h
        unfold w_Gr_hear
        refine ⟨fun _ => ⟨fun _ => hdist t _ ?_, fun q => absurd q n5⟩, fun q => absurd q n0⟩
        simp [w_Un_size, w_Gr_hearWithNonePending, w_Gr_hearWithSomePending, w_Gr_resend, w_Gr_tryAgain, w_Gr_alarm, w_Gr_finish, w_Un_clear, mg_at, mg_up, jup_at, js_at, h4, n0]
        exact h
      · intro t K h
        simp [mH, w_M_resend, w_M_alarm, w_M_ends, mg_at, mg_up, jup_at, js_at, e1, e2, e3, e4, e5, e8, h3, h5, n0, n5, fb, r25]
        exact h
      · intro h hh
        have n9 : ¬ h = 9 := by omega
        have n10 : ¬ h = 10 := by omega
        have n11 : ¬ h = 11 := by omega
        have n12 : ¬ h = 12 := by omega
        have n13 : ¬ h = 13 := by omega
        simp [jup_h, js_h, n9, n10, n11, n12, n13]
      · intro h hh
        have n33 : ¬ h = 33 := by omega
        have n34 : ¬ h = 34 := by omega
        have n35 : ¬ h = 35 := by omega
        simp [jup_h, js_h, n33, n34, n35]
      · intro j hj
        have n1' : ¬ j = 1 := by omega
        have n2' : ¬ j = 2 := by omega
        have n3' : ¬ j = 3 := by omega
        have n4' : ¬ j = 4 := by omega
        have n5' : ¬ j = 5 := by omega
        have n6' : ¬ j = 6 := by omega
        have n7' : ¬ j = 7 := by omega
        have n8' : ¬ j = 8 := by omega
        have n9' : ¬ j = 9 := by omega
        have n10' : ¬ j = 10 := by omega
        have n11' : ¬ j = 11 := by omega
        have n12' : ¬ j = 12 := by omega
        have n13' : ¬ j = 13 := by omega
        have n14' : ¬ j = 14 := by omega
        simp [jup_at, js_at, n1', n2', n3', n4', n5', n6', n7', n8', n9', n10', n11', n12', n13', n14']
      · exact ⟨⟨rfl, (by first | rfl | exact e2), (by first | rfl | exact e2), (by first | rfl | exact e4), rfl, rfl, e7, e8, e9, rfl, e11⟩, Or.inl rfl, Or.inl rfl, g4, fun _ => ⟨rfl, rfl⟩, fun h => absurd (show (0 : Int32) = 5 from h) (by decide), pd1 g7⟩
