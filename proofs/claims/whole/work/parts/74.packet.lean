/-! cells come into a channel -/
theorem within_yes {a lo hi : Int32} {σ : Jst} {K : Int32 → Jst → Prop} (h : ¬ (a < lo ∨ hi < a)) (hk : K 1 σ) : w_T_isWithin a lo hi σ K := by
  rw [within_eq, if_neg h]; exact hk
theorem tn0 : Int32.toNatClampNeg (0 : Int32) = 0 := by decide
theorem tn1 : Int32.toNatClampNeg (1 : Int32) = 1 := by decide
theorem vi0 : vp_in (0 : Int32) 2 := vp_in_nI (n := 0) (by decide) (by decide)
theorem vi1 : vp_in (1 : Int32) 2 := vp_in_nI (n := 1) (by decide) (by decide)
def sg (tg : Int32) (x : Nat) : Int32 := if tg = 0 then nI x else (-1 : Int32) - nI x
theorem putc_0 {α t : Jst} {K : Jst → Prop} {n x : Nat} {tg : Int32} (hs : α 18 2 = nI n) (hn : n < 60) (htg : tg = 0 ∨ tg = 1) (h : K (mg (jup (jup (jup α 19 n (nI x)) 20 n tg) 18 2 (nI (n + 1))) t)) : w_St_put_18 (nI x) tg (mg α t) K := by
  have z1 : ¬ (60 : Int32) ≤ nI n := fun q => absurd ((nI_leI (a := 60) (by decide) (by omega)).mp q) (by omega)
  have z2 : vp_in (nI n) 60 := vp_in_nI (by omega) (by omega)
  have z3 : (nI n).toNatClampNeg = n := nI_clamp (by omega)
  have z4 : nI n + 1 = nI (n + 1) := nI_1 n
  have z5 := nar01 htg
  simp [w_St_put_18, mg_at, mg_up, jup_at, hs, z1, z2, z3, z4, z5]
  exact h
theorem putm_0 {β t : Jst} {K : Jst → Prop} {n f : Nat} {v : Int32} (hf : β 41 0 = nI f) (hn : β 42 0 = nI n) (f1 : f < 64) (n1 : n ≤ 64) (h : K (mg t (jup (jup β 43 ((f + n) % 64) v) 42 0 (nI (n + 1))))) : w_M_puts 0 v (mg t β) K := by
  have z1 : nI f + nI n - (nI f + nI n) / 64 * 64 = nI ((f + n) % 64) := by rw [nI_add]; exact pk_rem (d := 64) (by omega) (by decide) (by decide)
  have z2 : vp_in (nI ((f + n) % 64)) 128 := vp_in_nI (by omega) (by omega)
  have z3 : (nI ((f + n) % 64)).toNatClampNeg = ((f + n) % 64) := nI_clamp (by omega)
  have z4 : nI n + 1 = nI (n + 1) := nI_1 n
  simp [w_M_puts, mg_at, mg_up, jup_at, tn0, tn1, vi0, vi1, hf, hn, z1, z2, z3, z4]
  exact h
theorem puti_0 {α β : Jst} {n f x : Nat} {tg : Int32} (hI : Inv (mg α β)) (hs : α 18 2 = nI n) (hn60 : n < 60) (hf : β 41 0 = nI f) (f1 : f < 64) (hx : x ≤ 1000) (htg : tg = 0 ∨ tg = 1) : Inv (mg (jup (jup (jup α 19 n (nI x)) 20 n tg) 18 2 (nI (n + 1))) (jup (jup β 43 ((f + n) % 64) (sg tg x)) 42 0 (nI (n + 1)))) := by
  obtain ⟨hG, hU, hR, hC, hS0, hS1, hA0, hA1, hP⟩ := id hI
  have hS : iSt (α 18 2) (α 18 3) (β 41 0) (β 42 0) (β 44 0) (α 19) (α 20) (β 43) 0 := hS0
  obtain ⟨n', f', s1, s2, s3, s4, s5, s6, s7, s8⟩ := hS
  have en : n = n' := ((nI_eq (by omega) (by omega)).mp (s3.symm.trans hs)).symm
  have ef : f = f' := ((nI_eq (by omega) (by omega)).mp (s5.symm.trans hf)).symm
  subst en
  subst ef
  exact ⟨hG, hU, hR, hC, (by
    refine ⟨n + 1, f, by omega, f1, rfl, rfl, hf, s6, s7, fun j hj => ?_⟩
    show ((if j = n then tg else α 20 j) = 0 ∨ (if j = n then tg else α 20 j) = 1) ∧ ∃ y : Nat, y ≤ 1000 ∧ (if j = n then nI x else α 19 j) = nI y ∧ (if 64 * 0 + (f + j) % 64 = ((f + n) % 64) then sg tg x else β 43 (64 * 0 + (f + j) % 64)) = if (if j = n then tg else α 20 j) = 0 then nI y else (-1 : Int32) - nI y
    by_cases e : j = n
    · subst e
      rw [if_pos rfl, if_pos rfl, if_pos (by omega)]
      exact ⟨htg, x, hx, rfl, rfl⟩
    · rw [if_neg e, if_neg e, if_neg (by omega)]
      exact s8 j (by omega)), (by
    obtain ⟨n', f', o1, o2, o3, o4, o5, o6, o7, o8⟩ := hS1
    refine ⟨n', f', o1, o2, o3, o4, o5, o6, o7, fun j hj => ?_⟩
    have := o8 j hj
    show _ ∧ ∃ y : Nat, y ≤ 1000 ∧ _ = nI y ∧ (if 64 * 1 + (f' + j) % 64 = ((f + n) % 64) then sg tg x else β 43 (64 * 1 + (f' + j) % 64)) = _
    rw [if_neg (by omega)]
    exact this), hA0, hA1, hP⟩
theorem stf_0 {α β : Jst} {n : Nat} (hI : Inv (mg α β)) (hs : α 18 2 = nI n) (hn : n ≤ 60) : ∃ f, f < 64 ∧ β 41 0 = nI f ∧ β 42 0 = nI n := by
  have hS : iSt (α 18 2) (α 18 3) (β 41 0) (β 42 0) (β 44 0) (α 19) (α 20) (β 43) 0 := hI.2.2.2.2.1
  obtain ⟨n', f', s1, s2, s3, s4, s5, s6, s7, s8⟩ := hS
  have en : n' = n := (nI_eq (by omega) (by omega)).mp (s3.symm.trans hs)
  exact ⟨f', s2, s5, en ▸ s4⟩
theorem put_0 {α : Jst} {n x : Nat} {tg : Int32} (hs : α 18 2 = nI n) (hn : n < 60) (hx : x ≤ 1000) (htg : tg = 0 ∨ tg = 1) : ∃ a : Jst, a 18 2 = nI (n + 1) ∧ a 18 3 = α 18 3 ∧ (∀ (t : Jst) (K : Jst → Prop), K (mg a t) → w_St_put_18 (nI x) tg (mg α t) K) ∧ ∀ β : Jst, Inv (mg α β) → ∃ b : Jst, Inv (mg a b) ∧ b 33 0 = β 33 0 ∧ b 53 = β 53 ∧ (∀ (t : Jst) (K : Jst → Prop), K (mg t b) → w_M_puts 0 (sg tg x) (mg t β) K) := by
  refine ⟨jup (jup (jup α 19 n (nI x)) 20 n tg) 18 2 (nI (n + 1)), rfl, rfl, fun t K h => putc_0 hs hn htg h, fun β hI => ?_⟩
  obtain ⟨f, f1, f2, f3⟩ := stf_0 hI hs (by omega)
  exact ⟨_, puti_0 hI hs hn f2 f1 hx htg, rfl, rfl, fun t K h => putm_0 f2 f3 f1 (by omega) h⟩
theorem wrl_0 (v L : Nat) (hv : v ≤ 99) (hL : L ≤ 20) : ∀ d i n : Nat, ∀ α : Jst, i + d = L → n + d ≤ 60 → α 18 2 = nI n → ∃ a : Jst, (∀ (t : Jst) (K : Int32 → Jst → Prop), K 1 (mg a t) → w_St_write_18_L23 K (d + 1) (nI v) (nI L) (nI i) (mg α t)) ∧ ∀ β : Jst, Inv (mg α β) → ∃ b : Jst, Inv (mg a b) ∧ b 33 0 = β 33 0 ∧ b 53 = β 53 ∧ (∀ (t : Jst) (K : Int32 → Jst → Prop), K 1 (mg t b) → w_M_packet_L76 K (d + 1) 0 (nI v) (nI L) (nI i) (mg t β)) := by
  intro d
  induction d with
  | zero =>
    intro i n α hi hn hs
    have e : i = L := by omega
    subst e
    refine ⟨α, fun t K h => ?_, fun β hI => ⟨β, hI, rfl, rfl, fun t K h => ?_⟩⟩
    · rw [w_St_write_18_L23]
      exact ⟨fun _ => h, fun q => absurd (Int32.le_refl _) q⟩
    · rw [w_M_packet_L76]
      exact ⟨fun _ => h, fun q => absurd (Int32.le_refl _) q⟩
  | succ d ih =>
    intro i n α hi hn hs
    have ne : ¬ nI L ≤ nI i := fun q => absurd ((nI_leI (by omega) (by omega)).mp q) (by omega)
    have ev : nI v * 7 + nI i = nI (v * 7 + i) := by rw [show nI v * 7 = nI (v * 7) from pk_mul v 7, nI_add]
    obtain ⟨a1, p1, p2, p3, p4⟩ := put_0 (x := v * 7 + i) (tg := 0) hs (by omega) (by omega) (Or.inl rfl)
    obtain ⟨a, q1, q2⟩ := ih (i + 1) (n + 1) a1 (by omega) (by omega) p1
    refine ⟨a, fun t K h => ?_, fun β hI => ?_⟩
    · rw [w_St_write_18_L23]
      refine ⟨fun q => absurd q ne, fun _ => ?_⟩
      rw [ev, nI_1]
      exact p3 t _ (q1 t K h)
    · obtain ⟨b1, i1, i2, i3, i4⟩ := p4 β hI
      obtain ⟨b, j1, j2, j3, j4⟩ := q2 b1 i1
      refine ⟨b, j1, j2.trans i2, j3.trans i3, fun t K h => ?_⟩
      rw [w_M_packet_L76]
      refine ⟨fun q => absurd q ne, fun _ => ?_⟩
      rw [ev, nI_1]
      exact i4 t _ (j4 t K h)
theorem putc_1 {α t : Jst} {K : Jst → Prop} {n x : Nat} {tg : Int32} (hs : α 22 2 = nI n) (hn : n < 60) (htg : tg = 0 ∨ tg = 1) (h : K (mg (jup (jup (jup α 23 n (nI x)) 24 n tg) 22 2 (nI (n + 1))) t)) : w_St_put_22 (nI x) tg (mg α t) K := by
  have z1 : ¬ (60 : Int32) ≤ nI n := fun q => absurd ((nI_leI (a := 60) (by decide) (by omega)).mp q) (by omega)
  have z2 : vp_in (nI n) 60 := vp_in_nI (by omega) (by omega)
  have z3 : (nI n).toNatClampNeg = n := nI_clamp (by omega)
  have z4 : nI n + 1 = nI (n + 1) := nI_1 n
  have z5 := nar01 htg
  simp [w_St_put_22, mg_at, mg_up, jup_at, hs, z1, z2, z3, z4, z5]
  exact h
theorem putm_1 {β t : Jst} {K : Jst → Prop} {n f : Nat} {v : Int32} (hf : β 41 1 = nI f) (hn : β 42 1 = nI n) (f1 : f < 64) (n1 : n ≤ 64) (h : K (mg t (jup (jup β 43 (64 + (f + n) % 64) v) 42 1 (nI (n + 1))))) : w_M_puts 1 v (mg t β) K := by
  have z1 : nI f + nI n - (nI f + nI n) / 64 * 64 = nI ((f + n) % 64) := by rw [nI_add]; exact pk_rem (d := 64) (by omega) (by decide) (by decide)
  have z6 : (64 : Int32) + nI ((f + n) % 64) = nI (64 + (f + n) % 64) := nI_add 64 _
  have z2 : vp_in (nI (64 + (f + n) % 64)) 128 := vp_in_nI (by omega) (by omega)
  have z3 : (nI (64 + (f + n) % 64)).toNatClampNeg = (64 + (f + n) % 64) := nI_clamp (by omega)
  have z4 : nI n + 1 = nI (n + 1) := nI_1 n
  simp [w_M_puts, mg_at, mg_up, jup_at, tn0, tn1, vi0, vi1, hf, hn, z1, z6, z2, z3, z4]
  exact h
theorem puti_1 {α β : Jst} {n f x : Nat} {tg : Int32} (hI : Inv (mg α β)) (hs : α 22 2 = nI n) (hn60 : n < 60) (hf : β 41 1 = nI f) (f1 : f < 64) (hx : x ≤ 1000) (htg : tg = 0 ∨ tg = 1) : Inv (mg (jup (jup (jup α 23 n (nI x)) 24 n tg) 22 2 (nI (n + 1))) (jup (jup β 43 (64 + (f + n) % 64) (sg tg x)) 42 1 (nI (n + 1)))) := by
  obtain ⟨hG, hU, hR, hC, hS0, hS1, hA0, hA1, hP⟩ := id hI
  have hS : iSt (α 22 2) (α 22 3) (β 41 1) (β 42 1) (β 44 1) (α 23) (α 24) (β 43) 1 := hS1
  obtain ⟨n', f', s1, s2, s3, s4, s5, s6, s7, s8⟩ := hS
  have en : n = n' := ((nI_eq (by omega) (by omega)).mp (s3.symm.trans hs)).symm
  have ef : f = f' := ((nI_eq (by omega) (by omega)).mp (s5.symm.trans hf)).symm
  subst en
  subst ef
  exact ⟨hG, hU, hR, hC, (by
    obtain ⟨n', f', o1, o2, o3, o4, o5, o6, o7, o8⟩ := hS0
    refine ⟨n', f', o1, o2, o3, o4, o5, o6, o7, fun j hj => ?_⟩
    have := o8 j hj
    show _ ∧ ∃ y : Nat, y ≤ 1000 ∧ _ = nI y ∧ (if 64 * 0 + (f' + j) % 64 = (64 + (f + n) % 64) then sg tg x else β 43 (64 * 0 + (f' + j) % 64)) = _
    rw [if_neg (by omega)]
    exact this), (by
    refine ⟨n + 1, f, by omega, f1, rfl, rfl, hf, s6, s7, fun j hj => ?_⟩
    show ((if j = n then tg else α 24 j) = 0 ∨ (if j = n then tg else α 24 j) = 1) ∧ ∃ y : Nat, y ≤ 1000 ∧ (if j = n then nI x else α 23 j) = nI y ∧ (if 64 * 1 + (f + j) % 64 = (64 + (f + n) % 64) then sg tg x else β 43 (64 * 1 + (f + j) % 64)) = if (if j = n then tg else α 24 j) = 0 then nI y else (-1 : Int32) - nI y
    by_cases e : j = n
    · subst e
      rw [if_pos rfl, if_pos rfl, if_pos (by omega)]
      exact ⟨htg, x, hx, rfl, rfl⟩
    · rw [if_neg e, if_neg e, if_neg (by omega)]
      exact s8 j (by omega)), hA0, hA1, hP⟩
theorem stf_1 {α β : Jst} {n : Nat} (hI : Inv (mg α β)) (hs : α 22 2 = nI n) (hn : n ≤ 60) : ∃ f, f < 64 ∧ β 41 1 = nI f ∧ β 42 1 = nI n := by
  have hS : iSt (α 22 2) (α 22 3) (β 41 1) (β 42 1) (β 44 1) (α 23) (α 24) (β 43) 1 := hI.2.2.2.2.2.1
  obtain ⟨n', f', s1, s2, s3, s4, s5, s6, s7, s8⟩ := hS
  have en : n' = n := (nI_eq (by omega) (by omega)).mp (s3.symm.trans hs)
  exact ⟨f', s2, s5, en ▸ s4⟩
theorem put_1 {α : Jst} {n x : Nat} {tg : Int32} (hs : α 22 2 = nI n) (hn : n < 60) (hx : x ≤ 1000) (htg : tg = 0 ∨ tg = 1) : ∃ a : Jst, a 22 2 = nI (n + 1) ∧ a 22 3 = α 22 3 ∧ (∀ (t : Jst) (K : Jst → Prop), K (mg a t) → w_St_put_22 (nI x) tg (mg α t) K) ∧ ∀ β : Jst, Inv (mg α β) → ∃ b : Jst, Inv (mg a b) ∧ b 33 0 = β 33 0 ∧ b 53 = β 53 ∧ (∀ (t : Jst) (K : Jst → Prop), K (mg t b) → w_M_puts 1 (sg tg x) (mg t β) K) := by
  refine ⟨jup (jup (jup α 23 n (nI x)) 24 n tg) 22 2 (nI (n + 1)), rfl, rfl, fun t K h => putc_1 hs hn htg h, fun β hI => ?_⟩
  obtain ⟨f, f1, f2, f3⟩ := stf_1 hI hs (by omega)
  exact ⟨_, puti_1 hI hs hn f2 f1 hx htg, rfl, rfl, fun t K h => putm_1 f2 f3 f1 (by omega) h⟩
theorem wrl_1 (v L : Nat) (hv : v ≤ 99) (hL : L ≤ 20) : ∀ d i n : Nat, ∀ α : Jst, i + d = L → n + d ≤ 60 → α 22 2 = nI n → ∃ a : Jst, (∀ (t : Jst) (K : Int32 → Jst → Prop), K 1 (mg a t) → w_St_write_22_L23 K (d + 1) (nI v) (nI L) (nI i) (mg α t)) ∧ ∀ β : Jst, Inv (mg α β) → ∃ b : Jst, Inv (mg a b) ∧ b 33 0 = β 33 0 ∧ b 53 = β 53 ∧ (∀ (t : Jst) (K : Int32 → Jst → Prop), K 1 (mg t b) → w_M_packet_L76 K (d + 1) 1 (nI v) (nI L) (nI i) (mg t β)) := by
  intro d
  induction d with
  | zero =>
    intro i n α hi hn hs
    have e : i = L := by omega
    subst e
    refine ⟨α, fun t K h => ?_, fun β hI => ⟨β, hI, rfl, rfl, fun t K h => ?_⟩⟩
    · rw [w_St_write_22_L23]
      exact ⟨fun _ => h, fun q => absurd (Int32.le_refl _) q⟩
    · rw [w_M_packet_L76]
      exact ⟨fun _ => h, fun q => absurd (Int32.le_refl _) q⟩
  | succ d ih =>
    intro i n α hi hn hs
    have ne : ¬ nI L ≤ nI i := fun q => absurd ((nI_leI (by omega) (by omega)).mp q) (by omega)
    have ev : nI v * 7 + nI i = nI (v * 7 + i) := by rw [show nI v * 7 = nI (v * 7) from pk_mul v 7, nI_add]
    obtain ⟨a1, p1, p2, p3, p4⟩ := put_1 (x := v * 7 + i) (tg := 0) hs (by omega) (by omega) (Or.inl rfl)
    obtain ⟨a, q1, q2⟩ := ih (i + 1) (n + 1) a1 (by omega) (by omega) p1
    refine ⟨a, fun t K h => ?_, fun β hI => ?_⟩
    · rw [w_St_write_22_L23]
      refine ⟨fun q => absurd q ne, fun _ => ?_⟩
      rw [ev, nI_1]
      exact p3 t _ (q1 t K h)
    · obtain ⟨b1, i1, i2, i3, i4⟩ := p4 β hI
      obtain ⟨b, j1, j2, j3, j4⟩ := q2 b1 i1
      refine ⟨b, j1, j2.trans i2, j3.trans i3, fun t K h => ?_⟩
      rw [w_M_packet_L76]
      refine ⟨fun q => absurd q ne, fun _ => ?_⟩
      rw [ev, nI_1]
      exact i4 t _ (j4 t K h)
theorem q_11 (a1 a2 a3 : Int32) (σ : Jst) (K : Jst → Prop) (hI : Inv σ) (hK : ∀ u, Inv u → K u) : wc_11 a1 a2 a3 σ K := by
  obtain ⟨hG, hU, hR, hC, hS0, hS1, hA0, hA1, hP⟩ := id hI
  have nb1 : narrow .boolean (.int 1) = .int 1 := rfl
  have nb0 : narrow .boolean (.int 0) = .int 0 := rfl
  by_cases p1 : a1 < 0 ∨ 1 < a1
  · simp [wc_11, w_L_packet, w_T_packet, w_T_isChannel, w_M_packet, within_eq, outside_eq, fails_eq, thrown_eq, p1, nb0, jup_at]
    exact hK _ (inv_thr hI)
  by_cases p2 : a2 < 1 ∨ 99 < a2
  · simp [wc_11, w_L_packet, w_T_packet, w_T_isChannel, w_M_packet, within_eq, outside_eq, fails_eq, thrown_eq, p1, p2, nb1, jup_at]
    exact hK _ (inv_thr hI)
  by_cases p3 : a3 < 0 ∨ 20 < a3
  · simp [wc_11, w_L_packet, w_T_packet, w_T_isChannel, w_M_packet, within_eq, outside_eq, fails_eq, thrown_eq, p1, p2, p3, nb1, jup_at]
    exact hK _ (inv_thr hI)
  obtain ⟨v, v1, v2, rfl⟩ := rng (l := 1) (n := 99) rfl rfl (by decide) (by decide) p2
  obtain ⟨L, -, L2, rfl⟩ := rng (l := 0) (n := 20) rfl rfl (by decide) (by decide) p3
  rcases en1 p1 with rfl | rfl
  · obtain ⟨n, f, s1, s2, s3, s4, s5, -⟩ := id hS0
    have e60 : nI n + 2 + nI L = nI (n + 2 + L) := by rw [show nI n + 2 = nI (n + 2) from nI_add n 2, nI_add]
    unfold wc_11 w_L_packet w_T_packet w_T_isChannel
    refine within_yes p1 ⟨rfl, ?_⟩
    refine ⟨fun h => absurd h (by decide), fun _ => ?_⟩
    refine within_yes p2 ?_
    refine ⟨fun h => absurd h (by decide), fun _ => ?_⟩
    refine within_yes p3 ?_
    refine ⟨fun _ => ⟨vi0, fun _ => ?_, fun h => absurd h (by decide)⟩, fun h => absurd h (by decide)⟩
    unfold w_St_write_18
    by_cases full : n + 2 + L ≤ 60
    · have le1 : σ 18 2 + 2 + nI L ≤ 60 := by rw [s3, e60]; exact (nI_leI (b := 60) (by omega) (by decide)).mpr full
      have le2 : σ 42 0 + 2 + nI L ≤ 60 := by rw [s4, e60]; exact (nI_leI (b := 60) (by omega) (by decide)).mpr full
      refine ⟨fun _ => ?_, fun h => absurd le1 h⟩
      unfold w_St_writeHead_18
      obtain ⟨A1, x1, -, x2, x3⟩ := put_0 (α := σ) (x := v) (tg := 1) s3 (by omega) (by omega) (Or.inr rfl)
      obtain ⟨A2, y1, -, y2, y3⟩ := put_0 (x := L) (tg := 0) x1 (by omega) (by omega) (Or.inl rfl)
      obtain ⟨A3, z1, z2⟩ := wrl_0 v L v2 L2 L 0 (n + 1 + 1) A2 (by omega) (by omega) y1
      rw [show σ = mg σ σ from (mg_self σ).symm]
      refine x2 σ _ (y2 σ _ ⟨_, z1 σ _ ⟨rfl, 1, rfl, fun h => absurd h (by decide), fun _ => ?_⟩⟩)
      rw [tn0, mg_up, if_neg (by decide)]
      unfold w_M_packet
      refine outside_no p1 ⟨fun h => absurd rfl h, fun _ => ?_⟩
      refine outside_no p2 ⟨fun h => absurd rfl h, fun _ => ?_⟩
      refine outside_no p3 ⟨fun _ => ?_, fun h => absurd rfl h⟩
      refine fails_no ⟨fun h => absurd rfl h, fun _ => ?_⟩
      rw [mg_up, if_neg (by decide)]
      have hI0 : Inv (mg σ (jup (jup σ 53 0 1) 33 0 0)) := hI
      obtain ⟨B1, b1, b2, b3, b4⟩ := x3 _ hI0
      obtain ⟨B2, c1, c2, c3, c4⟩ := y3 _ b1
      obtain ⟨B3, d1, d2, d3, d4⟩ := z2 _ c1
      refine ⟨vi0, fun _ => ?_, fun h => absurd (show _ from le2) h⟩
      refine b4 _ _ (c4 _ _ ⟨_, d4 _ _ ?_⟩)
      have t0 : (mg A3 B3) 33 0 = 0 := by
        show B3 33 0 = 0
        rw [d2, c2, b2]; rfl
      have t1 : (mg A3 B3) 53 0 = 1 := by
        show B3 53 0 = 1
        rw [d3, c3, b3]; rfl
      simp [thrown_eq, t0, t1, tn0, lg_cmp]
      exact hK _ d1
    · have le1 : ¬ σ 18 2 + 2 + nI L ≤ 60 := by rw [s3, e60]; exact fun q => full ((nI_leI (b := 60) (by omega) (by decide)).mp q)
      have le2 : ¬ σ 42 0 + 2 + nI L ≤ 60 := by rw [s4, e60]; exact fun q => full ((nI_leI (b := 60) (by omega) (by decide)).mp q)
      refine ⟨fun h => absurd h le1, fun _ => ⟨rfl, 0, rfl, fun _ => ?_, fun h => absurd rfl h⟩⟩
      unfold w_M_packet
      refine outside_no p1 ⟨fun h => absurd rfl h, fun _ => ?_⟩
      refine outside_no p2 ⟨fun h => absurd rfl h, fun _ => ?_⟩
      refine outside_no p3 ⟨fun _ => ?_, fun h => absurd rfl h⟩
      refine fails_no ⟨fun h => absurd rfl h, fun _ => ?_⟩
      refine ⟨vi0, fun h => absurd h le2, fun _ => ?_⟩
      simp [thrown_eq, jup_at, tn0, lg_self]
      exact hK _ (inv_thr (inv_out hI))
  · obtain ⟨n, f, s1, s2, s3, s4, s5, -⟩ := id hS1
    have e60 : nI n + 2 + nI L = nI (n + 2 + L) := by rw [show nI n + 2 = nI (n + 2) from nI_add n 2, nI_add]
    unfold wc_11 w_L_packet w_T_packet w_T_isChannel
    refine within_yes p1 ⟨rfl, ?_⟩
    refine ⟨fun h => absurd h (by decide), fun _ => ?_⟩
    refine within_yes p2 ?_
    refine ⟨fun h => absurd h (by decide), fun _ => ?_⟩
    refine within_yes p3 ?_
    refine ⟨fun _ => ⟨vi1, fun h => absurd h (by decide), fun _ => ?_⟩, fun h => absurd h (by decide)⟩
    unfold w_St_write_22
    by_cases full : n + 2 + L ≤ 60
    · have le1 : σ 22 2 + 2 + nI L ≤ 60 := by rw [s3, e60]; exact (nI_leI (b := 60) (by omega) (by decide)).mpr full
      have le2 : σ 42 1 + 2 + nI L ≤ 60 := by rw [s4, e60]; exact (nI_leI (b := 60) (by omega) (by decide)).mpr full
      refine ⟨fun _ => ?_, fun h => absurd le1 h⟩
      unfold w_St_writeHead_22
      obtain ⟨A1, x1, -, x2, x3⟩ := put_1 (α := σ) (x := v) (tg := 1) s3 (by omega) (by omega) (Or.inr rfl)
      obtain ⟨A2, y1, -, y2, y3⟩ := put_1 (x := L) (tg := 0) x1 (by omega) (by omega) (Or.inl rfl)
      obtain ⟨A3, z1, z2⟩ := wrl_1 v L v2 L2 L 0 (n + 1 + 1) A2 (by omega) (by omega) y1
      rw [show σ = mg σ σ from (mg_self σ).symm]
      refine x2 σ _ (y2 σ _ ⟨_, z1 σ _ ⟨rfl, 1, rfl, fun h => absurd h (by decide), fun _ => ?_⟩⟩)
      rw [tn0, mg_up, if_neg (by decide)]
      unfold w_M_packet
      refine outside_no p1 ⟨fun h => absurd rfl h, fun _ => ?_⟩
      refine outside_no p2 ⟨fun h => absurd rfl h, fun _ => ?_⟩
      refine outside_no p3 ⟨fun _ => ?_, fun h => absurd rfl h⟩
      refine fails_no ⟨fun h => absurd rfl h, fun _ => ?_⟩
      rw [mg_up, if_neg (by decide)]
      have hI0 : Inv (mg σ (jup (jup σ 53 0 1) 33 0 0)) := hI
      obtain ⟨B1, b1, b2, b3, b4⟩ := x3 _ hI0
      obtain ⟨B2, c1, c2, c3, c4⟩ := y3 _ b1
      obtain ⟨B3, d1, d2, d3, d4⟩ := z2 _ c1
      refine ⟨vi1, fun _ => ?_, fun h => absurd (show _ from le2) h⟩
      refine b4 _ _ (c4 _ _ ⟨_, d4 _ _ ?_⟩)
      have t0 : (mg A3 B3) 33 0 = 0 := by
        show B3 33 0 = 0
        rw [d2, c2, b2]; rfl
      have t1 : (mg A3 B3) 53 0 = 1 := by
        show B3 53 0 = 1
        rw [d3, c3, b3]; rfl
      simp [thrown_eq, t0, t1, tn0, lg_cmp]
      exact hK _ d1
    · have le1 : ¬ σ 22 2 + 2 + nI L ≤ 60 := by rw [s3, e60]; exact fun q => full ((nI_leI (b := 60) (by omega) (by decide)).mp q)
      have le2 : ¬ σ 42 1 + 2 + nI L ≤ 60 := by rw [s4, e60]; exact fun q => full ((nI_leI (b := 60) (by omega) (by decide)).mp q)
      refine ⟨fun h => absurd h le1, fun _ => ⟨rfl, 0, rfl, fun _ => ?_, fun h => absurd rfl h⟩⟩
      unfold w_M_packet
      refine outside_no p1 ⟨fun h => absurd rfl h, fun _ => ?_⟩
      refine outside_no p2 ⟨fun h => absurd rfl h, fun _ => ?_⟩
      refine outside_no p3 ⟨fun _ => ?_, fun h => absurd rfl h⟩
      refine fails_no ⟨fun h => absurd rfl h, fun _ => ?_⟩
      refine ⟨vi1, fun h => absurd h le2, fun _ => ?_⟩
      simp [thrown_eq, jup_at, tn0, lg_self]
      exact hK _ (inv_thr (inv_out hI))
