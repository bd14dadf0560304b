/-! loops that move rows -/
theorem js_self (σ : Jst) (h : Nat) : jset σ h (σ h) = σ := by
  funext a
  unfold jset
  by_cases e : a = h
  · subst e; simp
  · simp [beq_ff e]
theorem ju_js (σ : Jst) (h j : Nat) (f : Nat → Int32) (x : Int32) : jup (jset σ h f) h j x = jset σ h (upd f j x) := by
  funext a
  unfold jup jset
  by_cases e : a = h
  · subst e; simp
  · simp [beq_ff e]
theorem ju_jsn (σ : Jst) {h h' : Nat} (j : Nat) (f : Nat → Int32) (x : Int32) (hn : h ≠ h') : jup (jset σ h' f) h j x = jset (jup σ h j x) h' f := by
  funext a
  unfold jup jset
  by_cases e : a = h
  · subst e; simp [beq_ff hn]
  · by_cases e' : a = h'
    · subst e'; simp [beq_ff e]
    · simp [beq_ff e, beq_ff e']
theorem js2 (σ : Jst) (p q : Nat) (f g : Nat → Int32) (i : Nat) (x y : Int32) (hpq : p ≠ q) : jup (jup (jset (jset σ p f) q g) p i x) q i y = jset (jset σ p (upd f i x)) q (upd g i y) := by
  rw [ju_jsn _ _ _ _ hpq, ju_js, ju_js]
theorem js3 (σ : Jst) (p q r : Nat) (f g h : Nat → Int32) (i : Nat) (x y z : Int32) (hpq : p ≠ q) (hpr : p ≠ r) (hqr : q ≠ r) : jup (jup (jup (jset (jset (jset σ p f) q g) r h) p i x) q i y) r i z = jset (jset (jset σ p (upd f i x)) q (upd g i y)) r (upd h i z) := by
  rw [ju_jsn _ _ _ _ hpr, ju_jsn _ _ _ _ hpq, ju_js, ju_jsn _ _ _ _ hqr, ju_js, ju_js]
def shk (f : Nat → Int32) (a k v : Nat) : Nat → Int32 := fun j => if a ≤ j ∧ j + k < v then f (j + k) else f j
theorem shk_0 (f : Nat → Int32) (a k : Nat) : shk f a k (a + k) = f := by
  funext j
  unfold shk
  rw [if_neg (by omega)]
theorem shk_v (f : Nat → Int32) (a k v : Nat) : shk f a k v v = f v := by
  unfold shk
  rw [if_neg (by omega)]
theorem shk_s {f : Nat → Int32} {a k v : Nat} (h : a + k ≤ v) : upd (shk f a k v) (v - k) (f v) = shk f a k (v + 1) := by
  funext j
  unfold upd shk
  by_cases e : j = v - k
  · subst e
    rw [if_pos rfl, if_pos (by omega)]
    congr 1
    omega
  · rw [if_neg e]
    by_cases c : a ≤ j ∧ j + k < v
    · rw [if_pos c, if_pos (by omega)]
    · rw [if_neg c, if_neg (by omega)]
theorem nar01 {x : Int32} (h : x = 0 ∨ x = 1) : vp_nar .boolean x = x := by
  rcases h with rfl | rfl <;> rfl
theorem uf_rm_L (K : Jst → Prop) (σ : Jst) (a m : Nat) (w : Int32) (hm : m ≤ 20) (hs : σ 1 3 = nI m) (last : w_Uf_remove_L4 K 1 w (nI (m)) (jset (jset (jset σ 2 (shk (σ 2) a 1 (m))) 3 (shk (σ 3) a 1 (m))) 4 (shk (σ 4) a 1 (m)))) : ∀ d v, v + d = m → a + 1 ≤ v → w_Uf_remove_L4 K (d + 1) w (nI (v)) (jset (jset (jset σ 2 (shk (σ 2) a 1 (v))) 3 (shk (σ 3) a 1 (v))) 4 (shk (σ 4) a 1 (v))) := by
  intro d
  induction d with
  | zero =>
    intro v hv ha
    have e : v = m := by omega
    subst e
    exact last
  | succ d ih =>
    intro v hv ha
    have key := ih (v + 1) (by omega) (by omega)
    rw [w_Uf_remove_L4]
    refine ⟨fun h => ?_, fun _ => ?_⟩
    · exfalso
      have h2 : σ 1 3 ≤ _ := h
      rw [hs] at h2
      exact absurd ((nI_leI (by omega) (by omega)).mp h2) (by omega)
    · have c1 : (nI v).toNatClampNeg = v := nI_clamp (by omega)
      have c2 : (nI (v - 1)).toNatClampNeg = v - 1 := nI_clamp (by omega)
      have hin : vp_in (nI v) 20 := vp_in_nI (by omega) (by omega)
      have hin2 : vp_in (nI (v - 1)) 20 := vp_in_nI (by omega) (by omega)
      have e1 : nI v - 1 = nI (v - 1) := pk_sub (b := 1) (by omega)
      simp only [e1, nI_1, c1, c2]
      have E : (jup (jup (jup (jset (jset (jset σ 2 (shk (σ 2) a 1 (v))) 3 (shk (σ 3) a 1 (v))) 4 (shk (σ 4) a 1 (v))) 2 (v - 1) ((jset (jset (jset σ 2 (shk (σ 2) a 1 (v))) 3 (shk (σ 3) a 1 (v))) 4 (shk (σ 4) a 1 (v))) 2 v)) 3 (v - 1) ((jset (jset (jset σ 2 (shk (σ 2) a 1 (v))) 3 (shk (σ 3) a 1 (v))) 4 (shk (σ 4) a 1 (v))) 3 v)) 4 (v - 1) ((jset (jset (jset σ 2 (shk (σ 2) a 1 (v))) 3 (shk (σ 3) a 1 (v))) 4 (shk (σ 4) a 1 (v))) 4 v)) = (jset (jset (jset σ 2 (shk (σ 2) a 1 (v + 1))) 3 (shk (σ 3) a 1 (v + 1))) 4 (shk (σ 4) a 1 (v + 1))) := by
        have r2 : (jset (jset (jset σ 2 (shk (σ 2) a 1 (v))) 3 (shk (σ 3) a 1 (v))) 4 (shk (σ 4) a 1 (v))) 2 v = σ 2 v := shk_v (σ 2) a 1 v
        have r3 : (jset (jset (jset σ 2 (shk (σ 2) a 1 (v))) 3 (shk (σ 3) a 1 (v))) 4 (shk (σ 4) a 1 (v))) 3 v = σ 3 v := shk_v (σ 3) a 1 v
        have r4 : (jset (jset (jset σ 2 (shk (σ 2) a 1 (v))) 3 (shk (σ 3) a 1 (v))) 4 (shk (σ 4) a 1 (v))) 4 v = σ 4 v := shk_v (σ 4) a 1 v
        rw [r2, r3, r4, js3 _ _ _ _ _ _ _ _ _ _ _ (by decide) (by decide) (by decide), shk_s ha, shk_s ha, shk_s ha]
      rw [E]
      exact ⟨hin, hin2, hin, hin2, hin, hin2, key⟩
theorem rp_rm_L (K : Jst → Prop) (σ : Jst) (a m : Nat) (w : Int32) (hm : m ≤ 20) (hs : σ 5 3 = nI m) (hb7 : ∀ j, j < m → σ 7 j = 0 ∨ σ 7 j = 1) (last : w_Rp_remove_L4 K 1 w (nI (m)) (jset (jset (jset σ 6 (shk (σ 6) a 1 (m))) 7 (shk (σ 7) a 1 (m))) 8 (shk (σ 8) a 1 (m)))) : ∀ d v, v + d = m → a + 1 ≤ v → w_Rp_remove_L4 K (d + 1) w (nI (v)) (jset (jset (jset σ 6 (shk (σ 6) a 1 (v))) 7 (shk (σ 7) a 1 (v))) 8 (shk (σ 8) a 1 (v))) := by
  intro d
  induction d with
  | zero =>
    intro v hv ha
    have e : v = m := by omega
    subst e
    exact last
  | succ d ih =>
    intro v hv ha
    have key := ih (v + 1) (by omega) (by omega)
    rw [w_Rp_remove_L4]
    refine ⟨fun h => ?_, fun _ => ?_⟩
    · exfalso
      have h2 : σ 5 3 ≤ _ := h
      rw [hs] at h2
      exact absurd ((nI_leI (by omega) (by omega)).mp h2) (by omega)
    · have c1 : (nI v).toNatClampNeg = v := nI_clamp (by omega)
      have c2 : (nI (v - 1)).toNatClampNeg = v - 1 := nI_clamp (by omega)
      have hin : vp_in (nI v) 20 := vp_in_nI (by omega) (by omega)
      have hin2 : vp_in (nI (v - 1)) 20 := vp_in_nI (by omega) (by omega)
      have e1 : nI v - 1 = nI (v - 1) := pk_sub (b := 1) (by omega)
      simp only [e1, nI_1, c1, c2]
      have E : (jup (jup (jup (jset (jset (jset σ 6 (shk (σ 6) a 1 (v))) 7 (shk (σ 7) a 1 (v))) 8 (shk (σ 8) a 1 (v))) 6 (v - 1) ((jset (jset (jset σ 6 (shk (σ 6) a 1 (v))) 7 (shk (σ 7) a 1 (v))) 8 (shk (σ 8) a 1 (v))) 6 v)) 7 (v - 1) (vp_nar .boolean ((jset (jset (jset σ 6 (shk (σ 6) a 1 (v))) 7 (shk (σ 7) a 1 (v))) 8 (shk (σ 8) a 1 (v))) 7 v))) 8 (v - 1) ((jset (jset (jset σ 6 (shk (σ 6) a 1 (v))) 7 (shk (σ 7) a 1 (v))) 8 (shk (σ 8) a 1 (v))) 8 v)) = (jset (jset (jset σ 6 (shk (σ 6) a 1 (v + 1))) 7 (shk (σ 7) a 1 (v + 1))) 8 (shk (σ 8) a 1 (v + 1))) := by
        have r6 : (jset (jset (jset σ 6 (shk (σ 6) a 1 (v))) 7 (shk (σ 7) a 1 (v))) 8 (shk (σ 8) a 1 (v))) 6 v = σ 6 v := shk_v (σ 6) a 1 v
        have r7 : (jset (jset (jset σ 6 (shk (σ 6) a 1 (v))) 7 (shk (σ 7) a 1 (v))) 8 (shk (σ 8) a 1 (v))) 7 v = σ 7 v := shk_v (σ 7) a 1 v
        have r8 : (jset (jset (jset σ 6 (shk (σ 6) a 1 (v))) 7 (shk (σ 7) a 1 (v))) 8 (shk (σ 8) a 1 (v))) 8 v = σ 8 v := shk_v (σ 8) a 1 v
        rw [r6, r7, r8, nar01 (hb7 v (by omega)), js3 _ _ _ _ _ _ _ _ _ _ _ (by decide) (by decide) (by decide), shk_s ha, shk_s ha, shk_s ha]
      rw [E]
      exact ⟨hin, hin2, hin, hin2, hin, hin2, key⟩
theorem m_out_L (K : Jst → Prop) (σ : Jst) (a m : Nat) (w : Int32) (hm : m ≤ 20) (hs : σ 33 17 = nI m) (last : w_M_out_L2 K 1 w (nI (m - 1)) (jset (jset (jset σ 36 (shk (σ 36) a 1 (m))) 37 (shk (σ 37) a 1 (m))) 38 (shk (σ 38) a 1 (m)))) : ∀ d v, v + d = m → a + 1 ≤ v → w_M_out_L2 K (d + 1) w (nI (v - 1)) (jset (jset (jset σ 36 (shk (σ 36) a 1 (v))) 37 (shk (σ 37) a 1 (v))) 38 (shk (σ 38) a 1 (v))) := by
  intro d
  induction d with
  | zero =>
    intro v hv ha
    have e : v = m := by omega
    subst e
    exact last
  | succ d ih =>
    intro v hv ha
    have key := ih (v + 1) (by omega) (by omega)
    rw [w_M_out_L2]
    refine ⟨fun h => ?_, fun _ => ?_⟩
    · exfalso
      have h2 : σ 33 17 ≤ _ := h
      have e1 : nI (v - 1) + 1 = nI v := by rw [nI_1]; congr 1; omega
      rw [hs, e1] at h2
      exact absurd ((nI_leI (by omega) (by omega)).mp h2) (by omega)
    · have c1 : (nI v).toNatClampNeg = v := nI_clamp (by omega)
      have c2 : (nI (v - 1)).toNatClampNeg = v - 1 := nI_clamp (by omega)
      have hin : vp_in (nI v) 20 := vp_in_nI (by omega) (by omega)
      have hin2 : vp_in (nI (v - 1)) 20 := vp_in_nI (by omega) (by omega)
      have e1 : nI (v - 1) + 1 = nI v := by rw [nI_1]; congr 1; omega
      have e2 : v + 1 - 1 = v := by omega
      rw [e2] at key
      simp only [e1, c1, c2]
      have E : (jup (jup (jup (jset (jset (jset σ 36 (shk (σ 36) a 1 (v))) 37 (shk (σ 37) a 1 (v))) 38 (shk (σ 38) a 1 (v))) 36 (v - 1) ((jset (jset (jset σ 36 (shk (σ 36) a 1 (v))) 37 (shk (σ 37) a 1 (v))) 38 (shk (σ 38) a 1 (v))) 36 v)) 37 (v - 1) ((jset (jset (jset σ 36 (shk (σ 36) a 1 (v))) 37 (shk (σ 37) a 1 (v))) 38 (shk (σ 38) a 1 (v))) 37 v)) 38 (v - 1) ((jset (jset (jset σ 36 (shk (σ 36) a 1 (v))) 37 (shk (σ 37) a 1 (v))) 38 (shk (σ 38) a 1 (v))) 38 v)) = (jset (jset (jset σ 36 (shk (σ 36) a 1 (v + 1))) 37 (shk (σ 37) a 1 (v + 1))) 38 (shk (σ 38) a 1 (v + 1))) := by
        have r36 : (jset (jset (jset σ 36 (shk (σ 36) a 1 (v))) 37 (shk (σ 37) a 1 (v))) 38 (shk (σ 38) a 1 (v))) 36 v = σ 36 v := shk_v (σ 36) a 1 v
        have r37 : (jset (jset (jset σ 36 (shk (σ 36) a 1 (v))) 37 (shk (σ 37) a 1 (v))) 38 (shk (σ 38) a 1 (v))) 37 v = σ 37 v := shk_v (σ 37) a 1 v
        have r38 : (jset (jset (jset σ 36 (shk (σ 36) a 1 (v))) 37 (shk (σ 37) a 1 (v))) 38 (shk (σ 38) a 1 (v))) 38 v = σ 38 v := shk_v (σ 38) a 1 v
        rw [r36, r37, r38, js3 _ _ _ _ _ _ _ _ _ _ _ (by decide) (by decide) (by decide), shk_s ha, shk_s ha, shk_s ha]
      rw [E]
      exact ⟨hin, hin2, hin, hin2, hin, hin2, key⟩
theorem m_ans_L (K : Jst → Prop) (σ : Jst) (a m : Nat) (w w2 w3 : Int32) (hm : m ≤ 20) (hs : σ 33 26 = nI m) (last : w_M_answer_L30 K 1 w w2 w3 (nI (m - 1)) (jset σ 40 (shk (σ 40) a 1 (m)))) : ∀ d v, v + d = m → a + 1 ≤ v → w_M_answer_L30 K (d + 1) w w2 w3 (nI (v - 1)) (jset σ 40 (shk (σ 40) a 1 (v))) := by
  intro d
  induction d with
  | zero =>
    intro v hv ha
    have e : v = m := by omega
    subst e
    exact last
  | succ d ih =>
    intro v hv ha
    have key := ih (v + 1) (by omega) (by omega)
    rw [w_M_answer_L30]
    refine ⟨fun h => ?_, fun _ => ?_⟩
    · exfalso
      have h2 : σ 33 26 ≤ _ := h
      have e1 : nI (v - 1) + 1 = nI v := by rw [nI_1]; congr 1; omega
      rw [hs, e1] at h2
      exact absurd ((nI_leI (by omega) (by omega)).mp h2) (by omega)
    · have c1 : (nI v).toNatClampNeg = v := nI_clamp (by omega)
      have c2 : (nI (v - 1)).toNatClampNeg = v - 1 := nI_clamp (by omega)
      have hin : vp_in (nI v) 20 := vp_in_nI (by omega) (by omega)
      have hin2 : vp_in (nI (v - 1)) 20 := vp_in_nI (by omega) (by omega)
      have e1 : nI (v - 1) + 1 = nI v := by rw [nI_1]; congr 1; omega
      have e2 : v + 1 - 1 = v := by omega
      rw [e2] at key
      simp only [e1, c1, c2]
      have E : (jup (jset σ 40 (shk (σ 40) a 1 (v))) 40 (v - 1) ((jset σ 40 (shk (σ 40) a 1 (v))) 40 v)) = (jset σ 40 (shk (σ 40) a 1 (v + 1))) := by
        have r40 : (jset σ 40 (shk (σ 40) a 1 (v))) 40 v = σ 40 v := shk_v (σ 40) a 1 v
        rw [r40, ju_js, shk_s ha]
      rw [E]
      exact ⟨hin, hin2, key⟩
theorem un_rm_L (K : Jst → Prop) (σ : Jst) (k m : Nat) (hm : m ≤ 4) (hs : σ 10 3 = nI m) (hb13 : ∀ j, j < m → σ 13 j = 0 ∨ σ 13 j = 1) (last : w_Un_removeFirst_L2 K 1 (nI k) (nI (m)) (jset (jset (jset σ 11 (shk (σ 11) 0 k (m))) 12 (shk (σ 12) 0 k (m))) 13 (shk (σ 13) 0 k (m)))) : ∀ d v, v + d = m → 0 + k ≤ v → w_Un_removeFirst_L2 K (d + 1) (nI k) (nI (v)) (jset (jset (jset σ 11 (shk (σ 11) 0 k (v))) 12 (shk (σ 12) 0 k (v))) 13 (shk (σ 13) 0 k (v))) := by
  intro d
  induction d with
  | zero =>
    intro v hv ha
    have e : v = m := by omega
    subst e
    exact last
  | succ d ih =>
    intro v hv ha
    have key := ih (v + 1) (by omega) (by omega)
    rw [w_Un_removeFirst_L2]
    refine ⟨fun h => ?_, fun _ => ?_⟩
    · exfalso
      have h2 : σ 10 3 ≤ _ := h
      rw [hs] at h2
      exact absurd ((nI_leI (by omega) (by omega)).mp h2) (by omega)
    · have c1 : (nI v).toNatClampNeg = v := nI_clamp (by omega)
      have c2 : (nI (v - k)).toNatClampNeg = v - k := nI_clamp (by omega)
      have hin : vp_in (nI v) 4 := vp_in_nI (by omega) (by omega)
      have hin2 : vp_in (nI (v - k)) 4 := vp_in_nI (by omega) (by omega)
      have e1 : nI v - nI k = nI (v - k) := pk_sub (b := k) (by omega)
      simp only [e1, nI_1, c1, c2]
      have E : (jup (jup (jup (jset (jset (jset σ 11 (shk (σ 11) 0 k (v))) 12 (shk (σ 12) 0 k (v))) 13 (shk (σ 13) 0 k (v))) 11 (v - k) ((jset (jset (jset σ 11 (shk (σ 11) 0 k (v))) 12 (shk (σ 12) 0 k (v))) 13 (shk (σ 13) 0 k (v))) 11 v)) 12 (v - k) ((jset (jset (jset σ 11 (shk (σ 11) 0 k (v))) 12 (shk (σ 12) 0 k (v))) 13 (shk (σ 13) 0 k (v))) 12 v)) 13 (v - k) (vp_nar .boolean ((jset (jset (jset σ 11 (shk (σ 11) 0 k (v))) 12 (shk (σ 12) 0 k (v))) 13 (shk (σ 13) 0 k (v))) 13 v))) = (jset (jset (jset σ 11 (shk (σ 11) 0 k (v + 1))) 12 (shk (σ 12) 0 k (v + 1))) 13 (shk (σ 13) 0 k (v + 1))) := by
        have r11 : (jset (jset (jset σ 11 (shk (σ 11) 0 k (v))) 12 (shk (σ 12) 0 k (v))) 13 (shk (σ 13) 0 k (v))) 11 v = σ 11 v := shk_v (σ 11) 0 k v
        have r12 : (jset (jset (jset σ 11 (shk (σ 11) 0 k (v))) 12 (shk (σ 12) 0 k (v))) 13 (shk (σ 13) 0 k (v))) 12 v = σ 12 v := shk_v (σ 12) 0 k v
        have r13 : (jset (jset (jset σ 11 (shk (σ 11) 0 k (v))) 12 (shk (σ 12) 0 k (v))) 13 (shk (σ 13) 0 k (v))) 13 v = σ 13 v := shk_v (σ 13) 0 k v
        rw [r11, r12, r13, nar01 (hb13 v (by omega)), js3 _ _ _ _ _ _ _ _ _ _ _ (by decide) (by decide) (by decide), shk_s ha, shk_s ha, shk_s ha]
      rw [E]
      exact ⟨hin, hin2, hin, hin2, hin, hin2, key⟩
theorem m_read_L (K : Jst → Prop) (σ : Jst) (k m : Nat) (w2 w3 : Int32) (hm : m ≤ 4) (hs : σ 33 14 = nI m) (hb35 : ∀ j, j < m → σ 35 j = 0 ∨ σ 35 j = 1) (last : w_M_read_L3 K 1 (nI k) w2 w3 (nI (m - k)) (jset (jset σ 34 (shk (σ 34) 0 k (m))) 35 (shk (σ 35) 0 k (m)))) : ∀ d v, v + d = m → 0 + k ≤ v → w_M_read_L3 K (d + 1) (nI k) w2 w3 (nI (v - k)) (jset (jset σ 34 (shk (σ 34) 0 k (v))) 35 (shk (σ 35) 0 k (v))) := by
  intro d
  induction d with
  | zero =>
    intro v hv ha
    have e : v = m := by omega
    subst e
    exact last
  | succ d ih =>
    intro v hv ha
    have key := ih (v + 1) (by omega) (by omega)
    rw [w_M_read_L3]
    refine ⟨fun h => ?_, fun _ => ?_⟩
    · exfalso
      have h2 : σ 33 14 ≤ _ := h
      have e1 : nI (v - k) + nI k = nI v := by rw [nI_add]; congr 1; omega
      rw [hs, e1] at h2
      exact absurd ((nI_leI (by omega) (by omega)).mp h2) (by omega)
    · have c1 : (nI v).toNatClampNeg = v := nI_clamp (by omega)
      have c2 : (nI (v - k)).toNatClampNeg = v - k := nI_clamp (by omega)
      have hin : vp_in (nI v) 4 := vp_in_nI (by omega) (by omega)
      have hin2 : vp_in (nI (v - k)) 4 := vp_in_nI (by omega) (by omega)
      have e1 : nI (v - k) + nI k = nI v := by rw [nI_add]; congr 1; omega
      have e2 : nI (v - k) + 1 = nI (v + 1 - k) := by rw [nI_1]; congr 1; omega
      simp only [e1, e2, c1, c2]
      have E : (jup (jup (jset (jset σ 34 (shk (σ 34) 0 k (v))) 35 (shk (σ 35) 0 k (v))) 34 (v - k) ((jset (jset σ 34 (shk (σ 34) 0 k (v))) 35 (shk (σ 35) 0 k (v))) 34 v)) 35 (v - k) (vp_nar .boolean ((jset (jset σ 34 (shk (σ 34) 0 k (v))) 35 (shk (σ 35) 0 k (v))) 35 v))) = (jset (jset σ 34 (shk (σ 34) 0 k (v + 1))) 35 (shk (σ 35) 0 k (v + 1))) := by
        have r34 : (jset (jset σ 34 (shk (σ 34) 0 k (v))) 35 (shk (σ 35) 0 k (v))) 34 v = σ 34 v := shk_v (σ 34) 0 k v
        have r35 : (jset (jset σ 34 (shk (σ 34) 0 k (v))) 35 (shk (σ 35) 0 k (v))) 35 v = σ 35 v := shk_v (σ 35) 0 k v
        rw [r34, r35, nar01 (hb35 v (by omega)), js2 _ _ _ _ _ _ _ _ (by decide), shk_s ha, shk_s ha]
      rw [E]
      exact ⟨hin, hin2, hin, hin2, key⟩
theorem st_rm_L (K : Jst → Prop) (σ : Jst) (m : Nat) (hm : m ≤ 60) (hs : σ 18 2 = nI m) (hb20 : ∀ j, j < m → σ 20 j = 0 ∨ σ 20 j = 1) (last : w_St_removeFrame_18_L3 K 1  (nI (m)) (jset (jset σ 19 (shk (σ 19) 0 6 (m))) 20 (shk (σ 20) 0 6 (m)))) : ∀ d v, v + d = m → 0 + 6 ≤ v → w_St_removeFrame_18_L3 K (d + 1)  (nI (v)) (jset (jset σ 19 (shk (σ 19) 0 6 (v))) 20 (shk (σ 20) 0 6 (v))) := by
  intro d
  induction d with
  | zero =>
    intro v hv ha
    have e : v = m := by omega
    subst e
    exact last
  | succ d ih =>
    intro v hv ha
    have key := ih (v + 1) (by omega) (by omega)
    rw [w_St_removeFrame_18_L3]
    refine ⟨fun h => ?_, fun _ => ?_⟩
    · exfalso
      have h2 : σ 18 2 ≤ _ := h
      rw [hs] at h2
      exact absurd ((nI_leI (by omega) (by omega)).mp h2) (by omega)
    · have c1 : (nI v).toNatClampNeg = v := nI_clamp (by omega)
      have c2 : (nI (v - 6)).toNatClampNeg = v - 6 := nI_clamp (by omega)
      have hin : vp_in (nI v) 60 := vp_in_nI (by omega) (by omega)
      have hin2 : vp_in (nI (v - 6)) 60 := vp_in_nI (by omega) (by omega)
      have e1 : nI v - 6 = nI (v - 6) := pk_sub (b := 6) (by omega)
      simp only [e1, nI_1, c1, c2]
      have E : (jup (jup (jset (jset σ 19 (shk (σ 19) 0 6 (v))) 20 (shk (σ 20) 0 6 (v))) 19 (v - 6) ((jset (jset σ 19 (shk (σ 19) 0 6 (v))) 20 (shk (σ 20) 0 6 (v))) 19 v)) 20 (v - 6) (vp_nar .boolean ((jset (jset σ 19 (shk (σ 19) 0 6 (v))) 20 (shk (σ 20) 0 6 (v))) 20 v))) = (jset (jset σ 19 (shk (σ 19) 0 6 (v + 1))) 20 (shk (σ 20) 0 6 (v + 1))) := by
        have r19 : (jset (jset σ 19 (shk (σ 19) 0 6 (v))) 20 (shk (σ 20) 0 6 (v))) 19 v = σ 19 v := shk_v (σ 19) 0 6 v
        have r20 : (jset (jset σ 19 (shk (σ 19) 0 6 (v))) 20 (shk (σ 20) 0 6 (v))) 20 v = σ 20 v := shk_v (σ 20) 0 6 v
        rw [r19, r20, nar01 (hb20 v (by omega)), js2 _ _ _ _ _ _ _ _ (by decide), shk_s ha, shk_s ha]
      rw [E]
      exact ⟨hin, hin2, hin, hin2, key⟩
theorem st_rm_L22 (K : Jst → Prop) (σ : Jst) (m : Nat) (hm : m ≤ 60) (hs : σ 22 2 = nI m) (hb24 : ∀ j, j < m → σ 24 j = 0 ∨ σ 24 j = 1) (last : w_St_removeFrame_22_L3 K 1  (nI (m)) (jset (jset σ 23 (shk (σ 23) 0 6 (m))) 24 (shk (σ 24) 0 6 (m)))) : ∀ d v, v + d = m → 0 + 6 ≤ v → w_St_removeFrame_22_L3 K (d + 1)  (nI (v)) (jset (jset σ 23 (shk (σ 23) 0 6 (v))) 24 (shk (σ 24) 0 6 (v))) := by
  intro d
  induction d with
  | zero =>
    intro v hv ha
    have e : v = m := by omega
    subst e
    exact last
  | succ d ih =>
    intro v hv ha
    have key := ih (v + 1) (by omega) (by omega)
    rw [w_St_removeFrame_22_L3]
    refine ⟨fun h => ?_, fun _ => ?_⟩
    · exfalso
      have h2 : σ 22 2 ≤ _ := h
      rw [hs] at h2
      exact absurd ((nI_leI (by omega) (by omega)).mp h2) (by omega)
    · have c1 : (nI v).toNatClampNeg = v := nI_clamp (by omega)
      have c2 : (nI (v - 6)).toNatClampNeg = v - 6 := nI_clamp (by omega)
      have hin : vp_in (nI v) 60 := vp_in_nI (by omega) (by omega)
      have hin2 : vp_in (nI (v - 6)) 60 := vp_in_nI (by omega) (by omega)
      have e1 : nI v - 6 = nI (v - 6) := pk_sub (b := 6) (by omega)
      simp only [e1, nI_1, c1, c2]
      have E : (jup (jup (jset (jset σ 23 (shk (σ 23) 0 6 (v))) 24 (shk (σ 24) 0 6 (v))) 23 (v - 6) ((jset (jset σ 23 (shk (σ 23) 0 6 (v))) 24 (shk (σ 24) 0 6 (v))) 23 v)) 24 (v - 6) (vp_nar .boolean ((jset (jset σ 23 (shk (σ 23) 0 6 (v))) 24 (shk (σ 24) 0 6 (v))) 24 v))) = (jset (jset σ 23 (shk (σ 23) 0 6 (v + 1))) 24 (shk (σ 24) 0 6 (v + 1))) := by
        have r23 : (jset (jset σ 23 (shk (σ 23) 0 6 (v))) 24 (shk (σ 24) 0 6 (v))) 23 v = σ 23 v := shk_v (σ 23) 0 6 v
        have r24 : (jset (jset σ 23 (shk (σ 23) 0 6 (v))) 24 (shk (σ 24) 0 6 (v))) 24 v = σ 24 v := shk_v (σ 24) 0 6 v
        rw [r23, r24, nar01 (hb24 v (by omega)), js2 _ _ _ _ _ _ _ _ (by decide), shk_s ha, shk_s ha]
      rw [E]
      exact ⟨hin, hin2, hin, hin2, key⟩
