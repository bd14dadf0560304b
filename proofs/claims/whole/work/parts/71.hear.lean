/-! a report is heard: the rules apart -/
def mH (v3 : Int32) (s : Jst) (K : Jst → Prop) : Prop := ((¬ (s 33 1) = (0 : Int32) → ((¬ (s 33 1) = (5 : Int32) → ((¬ ((v3 / (32 : Int32)) - (v3 / (32 : Int32)) / (2 : Int32) * (2 : Int32)) = (1 : Int32) → ((((((v3 - v3 / (16 : Int32) * (16 : Int32)) - (s 33 3)) + (16 : Int32)) - (((v3 - v3 / (16 : Int32) * (16 : Int32)) - (s 33 3)) + (16 : Int32)) / (16 : Int32) * (16 : Int32)) ≤ (s 33 14) → ((¬ ((v3 / (16 : Int32)) - (v3 / (16 : Int32)) / (2 : Int32) * (2 : Int32)) = (1 : Int32) → ((v3 < (64 : Int32) → w_M_read ((((v3 - v3 / (16 : Int32) * (16 : Int32)) - (s 33 3)) + (16 : Int32)) - (((v3 - v3 / (16 : Int32) * (16 : Int32)) - (s 33 3)) + (16 : Int32)) / (16 : Int32) * (16 : Int32)) (0 : Int32) (0 : Int32) s (fun u1 => K u1)) ∧ (¬ v3 < (64 : Int32) → w_M_read ((((v3 - v3 / (16 : Int32) * (16 : Int32)) - (s 33 3)) + (16 : Int32)) - (((v3 - v3 / (16 : Int32) * (16 : Int32)) - (s 33 3)) + (16 : Int32)) / (16 : Int32) * (16 : Int32)) (0 : Int32) (1 : Int32) s (fun u2 => K u2)))) ∧ (((v3 / (16 : Int32)) - (v3 / (16 : Int32)) / (2 : Int32) * (2 : Int32)) = (1 : Int32) → ((v3 < (64 : Int32) → w_M_read ((((v3 - v3 / (16 : Int32) * (16 : Int32)) - (s 33 3)) + (16 : Int32)) - (((v3 - v3 / (16 : Int32) * (16 : Int32)) - (s 33 3)) + (16 : Int32)) / (16 : Int32) * (16 : Int32)) (1 : Int32) (0 : Int32) s (fun u3 => K u3)) ∧ (¬ v3 < (64 : Int32) → w_M_read ((((v3 - v3 / (16 : Int32) * (16 : Int32)) - (s 33 3)) + (16 : Int32)) - (((v3 - v3 / (16 : Int32) * (16 : Int32)) - (s 33 3)) + (16 : Int32)) / (16 : Int32) * (16 : Int32)) (1 : Int32) (1 : Int32) s (fun u4 => K u4)))))) ∧ (¬ ((((v3 - v3 / (16 : Int32) * (16 : Int32)) - (s 33 3)) + (16 : Int32)) - (((v3 - v3 / (16 : Int32) * (16 : Int32)) - (s 33 3)) + (16 : Int32)) / (16 : Int32) * (16 : Int32)) ≤ (s 33 14) → w_M_alarm (4 : Int32) s (fun u5 => K u5)))) ∧ (((v3 / (32 : Int32)) - (v3 / (32 : Int32)) / (2 : Int32) * (2 : Int32)) = (1 : Int32) → w_M_alarm (2 : Int32) s (fun u6 => K u6)))) ∧ ((s 33 1) = (5 : Int32) → ((¬ v3 = (s 33 2) → K s) ∧ (v3 = (s 33 2) → K (jup (jup (jup s 33 1 (1 : Int32)) 33 4 (1 : Int32)) 33 5 (0 : Int32))))))) ∧ ((s 33 1) = (0 : Int32) → K s))
theorem mg_h (a b : Jst) (h : Nat) : mg a b h = if h < 33 then a h else b h := by
  unfold mg
  by_cases e : h < 33
  · rw [blt_t e, if_pos e]; rfl
  · rw [blt_f e, if_neg e]; rfl
theorem rp_rm_mg {a t : Jst} {K : Jst → Prop} {j m : Nat} (ha : j < m) (hm : m ≤ 20) (hs : a 5 3 = nI m) (hb : ∀ i, i < m → a 7 i = 0 ∨ a 7 i = 1) (hk : K (mg (jup (jset (jset (jset a 6 (shk (a 6) j 1 m)) 7 (shk (a 7) j 1 m)) 8 (shk (a 8) j 1 m)) 5 3 (nI (m - 1))) t)) : w_Rp_remove (nI j) (mg a t) K := by
  refine rp_remove_eq ha hm hs hb ?_
  show K (jup (jset (jset (jset (mg a t) 6 (shk (a 6) j 1 m)) 7 (shk (a 7) j 1 m)) 8 (shk (a 8) j 1 m)) 5 3 (nI (m - 1)))
  rw [mg_js, if_pos (by decide), mg_js, if_pos (by decide), mg_js, if_pos (by decide), mg_up, if_pos (by decide)]
  exact hk
theorem un_rm_mg {a t : Jst} {K : Jst → Prop} {k m : Nat} (ha : k ≤ m) (hm : m ≤ 4) (hs : a 10 3 = nI m) (hb : ∀ i, i < m → a 13 i = 0 ∨ a 13 i = 1) (hk : K (mg (jup (jset (jset (jset a 11 (shk (a 11) 0 k m)) 12 (shk (a 12) 0 k m)) 13 (shk (a 13) 0 k m)) 10 3 (nI (m - k))) t)) : w_Un_removeFirst (nI k) (mg a t) K := by
  refine un_rm_eq ha hm hs hb ?_
  show K (jup (jset (jset (jset (mg a t) 11 (shk (a 11) 0 k m)) 12 (shk (a 12) 0 k m)) 13 (shk (a 13) 0 k m)) 10 3 (nI (m - k)))
  rw [mg_js, if_pos (by decide), mg_js, if_pos (by decide), mg_js, if_pos (by decide), mg_up, if_pos (by decide)]
  exact hk
theorem mark_mg {a t : Jst} {K : Jst → Prop} {m : Nat} (hm : m ≤ 4) (hs : a 10 3 = nI m) (hk : K (mg (jset a 13 (mkf (a 13) m)) t)) : w_Un_markAll (mg a t) K := by
  refine mark_eq hm hs ?_
  show K (jset (mg a t) 13 (mkf (a 13) m))
  rw [mg_js, if_pos (by decide)]
  exact hk
theorem res_mg {b t : Jst} {K : Jst → Prop} {m : Nat} (w : Int32) (hm : m ≤ 4) (hs : b 33 14 = nI m) (hk : K (mg t (jset b 35 (mkf (b 35) m)))) : ∃ n, w_M_resend_L34 K n w 0 (mg t b) := by
  refine res_eq w hm hs ?_
  show K (jset (mg t b) 35 (mkf (b 35) m))
  rw [mg_js, if_neg (by decide)]
  exact hk
theorem read_mg {b t : Jst} {K : Jst → Prop} {k m : Nat} (w2 w3 : Int32) (ha : k ≤ m) (hm : m ≤ 4) (hs : b 33 14 = nI m) (hb : ∀ i, i < m → b 35 i = 0 ∨ b 35 i = 1) (hk : w_M_read_L3 K 1 (nI k) w2 w3 (nI (m - k)) (mg t (jset (jset b 34 (shk (b 34) 0 k m)) 35 (shk (b 35) 0 k m)))) : w_M_read (nI k) w2 w3 (mg t b) K := by
  have last : w_M_read_L3 K 1 (nI k) w2 w3 (nI (m - k)) (jset (jset (mg t b) 34 (shk ((mg t b) 34) 0 k m)) 35 (shk ((mg t b) 35) 0 k m)) := by
    show w_M_read_L3 K 1 (nI k) w2 w3 (nI (m - k)) (jset (jset (mg t b) 34 (shk (b 34) 0 k m)) 35 (shk (b 35) 0 k m))
    rw [mg_js, if_neg (by decide), mg_js, if_neg (by decide)]
    exact hk
  have key := m_read_L K (mg t b) k m w2 w3 hm hs hb last (m - k) (0 + k) (by omega) (by omega)
  rw [shk_0, shk_0, js_self, js_self, show 0 + k - k = 0 from by omega] at key
  exact ⟨_, key⟩
theorem ans_mg {b t : Jst} {K : Jst → Prop} {j m : Nat} (w3 : Int32) (ha : j < m) (hm : m ≤ 20) (hs : b 33 26 = nI m) (hk : mH w3 (mg t (jup (jset b 40 (shk (b 40) j 1 m)) 33 26 (nI (m - 1)))) K) : ∃ n, w_M_answer_L30 K n (nI j) 0 w3 (nI j) (mg t b) := by
  have e1 : nI (m - 1) + 1 = nI m := by rw [nI_1]; congr 1; omega
  have last : w_M_answer_L30 K 1 (nI j) 0 w3 (nI (m - 1)) (jset (mg t b) 40 (shk ((mg t b) 40) j 1 m)) := by
    rw [w_M_answer_L30]
    refine ⟨fun _ => ⟨fun h => absurd rfl h, fun _ => ?_⟩, fun h => absurd ?_ h⟩
    · have E : mg t (jup (jset b 40 (shk (b 40) j 1 m)) 33 26 (nI (m - 1))) = jup (jset (mg t b) 40 (shk ((mg t b) 40) j 1 m)) 33 26 ((jset (mg t b) 40 (shk ((mg t b) 40) j 1 m)) 33 26 - 1) := by
        show _ = jup (jset (mg t b) 40 (shk (b 40) j 1 m)) 33 26 (b 33 26 - 1)
        rw [hs, show nI m - 1 = nI (m - 1) from pk_sub (b := 1) (by omega), mg_js, if_neg (by decide), mg_up, if_neg (by decide)]
      rw [E] at hk
      exact hk
    · show b 33 26 ≤ _
      rw [hs, e1]
      exact Int32.le_refl _
  have key := m_ans_L K (mg t b) j m (nI j) 0 w3 hm hs last (m - (j + 1)) (j + 1) (by omega) (by omega)
  rw [shk_0, js_self, Nat.add_sub_cancel] at key
  exact ⟨_, key⟩
theorem ans1_mg {b t : Jst} {K : Jst → Prop} {j m : Nat} (w3 : Int32) (ha : j < m) (hm : m ≤ 20) (hs : b 33 26 = nI m) (hk : K (mg t (jup (jset b 40 (shk (b 40) j 1 m)) 33 26 (nI (m - 1))))) : ∃ n, w_M_answer_L30 K n (nI j) 1 w3 (nI j) (mg t b) := by
  have e1 : nI (m - 1) + 1 = nI m := by rw [nI_1]; congr 1; omega
  have last : w_M_answer_L30 K 1 (nI j) 1 w3 (nI (m - 1)) (jset (mg t b) 40 (shk ((mg t b) 40) j 1 m)) := by
    rw [w_M_answer_L30]
    refine ⟨fun _ => ⟨fun _ => ?_, fun h => absurd h (by decide)⟩, fun h => absurd ?_ h⟩
    · have E : mg t (jup (jset b 40 (shk (b 40) j 1 m)) 33 26 (nI (m - 1))) = jup (jset (mg t b) 40 (shk ((mg t b) 40) j 1 m)) 33 26 ((jset (mg t b) 40 (shk ((mg t b) 40) j 1 m)) 33 26 - 1) := by
        show _ = jup (jset (mg t b) 40 (shk (b 40) j 1 m)) 33 26 (b 33 26 - 1)
        rw [hs, show nI m - 1 = nI (m - 1) from pk_sub (b := 1) (by omega), mg_js, if_neg (by decide), mg_up, if_neg (by decide)]
      rw [E] at hk
      exact hk
    · show b 33 26 ≤ _
      rw [hs, e1]
      exact Int32.le_refl _
  have key := m_ans_L K (mg t b) j m (nI j) 1 w3 hm hs last (m - (j + 1)) (j + 1) (by omega) (by omega)
  rw [shk_0, js_self, Nat.add_sub_cancel] at key
  exact ⟨_, key⟩
theorem iRe_rm {ex ag ga rp : Nat → Int32} {a m : Nat} (u : ∀ j, j < m → (ag j = 0 ∨ ag j = 1) ∧ (ga j = 0 ∨ ga j = 1 ∨ ga j = 2) ∧ ∃ x : Nat, x < 16 ∧ ex j = nI x ∧ rp j = pack x (ag j) (ga j)) (hm : m ≤ 20) (ha : a < m) : iRe (nI (m - 1)) (nI (m - 1)) (shk ex a 1 m) (shk ag a 1 m) (shk ga a 1 m) (shk rp a 1 m) := by
  refine ⟨m - 1, by omega, rfl, rfl, fun j hj => ?_⟩
  unfold shk
  by_cases c : a ≤ j ∧ j + 1 < m
  · simp only [if_pos c]; exact u (j + 1) (by omega)
  · simp only [if_neg c]; exact u j (by omega)
theorem pd_ack {nx od sz op : Int32} {nu cm mk cm' mk' : Nat → Int32} {o k D x : Nat} (hD : D ≤ k) (hx : x < 16) (hxo : (o + D) % 16 = x) (h2 : k ≤ 4) (h6 : nx = nI ((o + k) % 16)) (h7 : ∀ j, j < k → nu j = nI ((o + j) % 16) ∧ cm' j = cm j ∧ mk' j = mk j ∧ (mk j = 0 ∨ mk j = 1)) : iPd nx (nI x) (nI (k - D)) (nI (k - D)) (shk nu 0 D k) (shk cm 0 D k) (shk mk 0 D k) (shk cm' 0 D k) (shk mk' 0 D k) := by
  refine ⟨x, k - D, hx, by omega, rfl, rfl, rfl, by rw [h6]; congr 1; omega, fun j hj => ?_⟩
  unfold shk
  simp only [if_pos (show 0 ≤ j ∧ j + D < k by omega)]
  obtain ⟨q1, q2⟩ := h7 (j + D) (by omega)
  exact ⟨by rw [q1]; congr 1; omega, q2⟩
set_option maxRecDepth 100000 in
theorem pack_rem : ∀ x : Fin 16, (pack x.1 0 0 - pack x.1 0 0 / 16 * 16 = nI x.1 ∧ pack x.1 0 1 - pack x.1 0 1 / 16 * 16 = nI x.1 ∧ pack x.1 1 0 - pack x.1 1 0 / 16 * 16 = nI x.1 ∧ pack x.1 1 1 - pack x.1 1 1 / 16 * 16 = nI x.1) := by decide
set_option maxRecDepth 100000 in
theorem pack_16 : ∀ x : Fin 16, (pack x.1 0 0 / 16 - pack x.1 0 0 / 16 / 2 * 2 = 0 ∧ pack x.1 0 1 / 16 - pack x.1 0 1 / 16 / 2 * 2 = 0 ∧ pack x.1 1 0 / 16 - pack x.1 1 0 / 16 / 2 * 2 = 1 ∧ pack x.1 1 1 / 16 - pack x.1 1 1 / 16 / 2 * 2 = 1) := by decide
set_option maxRecDepth 100000 in
theorem pack_32 : ∀ x : Fin 16, (pack x.1 0 0 / 32 - pack x.1 0 0 / 32 / 2 * 2 = 0 ∧ pack x.1 0 1 / 32 - pack x.1 0 1 / 32 / 2 * 2 = 0 ∧ pack x.1 1 0 / 32 - pack x.1 1 0 / 32 / 2 * 2 = 0 ∧ pack x.1 1 1 / 32 - pack x.1 1 1 / 32 / 2 * 2 = 0) ∧ (pack x.1 0 2 / 32 - pack x.1 0 2 / 32 / 2 * 2 = 1 ∧ pack x.1 1 2 / 32 - pack x.1 1 2 / 32 / 2 * 2 = 1) := by decide
set_option maxRecDepth 100000 in
theorem pack_lt : ∀ x : Fin 16, (pack x.1 0 0 < 64 ∧ ¬ pack x.1 0 1 < 64 ∧ pack x.1 1 0 < 64 ∧ ¬ pack x.1 1 1 < 64) := by decide
set_option maxRecDepth 100000 in
theorem pack_eq : ∀ x : Fin 16, pack x.1 0 0 = nI x.1 ∧ pack x.1 0 1 = nI (x.1 + 64) ∧ pack x.1 0 2 = nI (x.1 + 32) ∧ pack x.1 1 0 = nI (x.1 + 16) ∧ pack x.1 1 1 = nI (x.1 + 80) ∧ pack x.1 1 2 = nI (x.1 + 48) := by decide
