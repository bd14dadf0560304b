/-! class and reference apart -/
def mg (a b : Jst) : Jst := fun h => cond (Nat.blt h 33) (a h) (b h)
theorem blt_t {h : Nat} (e : h < 33) : Nat.blt h 33 = true := by simp [Nat.blt_eq, e]
theorem blt_f {h : Nat} (e : ¬ h < 33) : Nat.blt h 33 = false := by
  cases q : Nat.blt h 33 with
  | false => rfl
  | true => exact absurd (Nat.blt_eq.mp q) e
theorem mg_self (σ : Jst) : mg σ σ = σ := by
  funext h
  unfold mg
  cases Nat.blt h 33 <;> rfl
theorem mg_mg_l (a b t : Jst) : mg (mg a b) t = mg a t := by
  funext h
  unfold mg
  cases Nat.blt h 33 <;> rfl
theorem mg_mg_r (a b t : Jst) : mg t (mg a b) = mg t b := by
  funext h
  unfold mg
  cases Nat.blt h 33 <;> rfl
theorem mg_at (a b : Jst) (h j : Nat) : mg a b h j = if h < 33 then a h j else b h j := by
  unfold mg
  by_cases e : h < 33
  · rw [blt_t e, if_pos e]; rfl
  · rw [blt_f e, if_neg e]; rfl
theorem mg_up (a b : Jst) (h j : Nat) (x : Int32) : jup (mg a b) h j x = if h < 33 then mg (jup a h j x) b else mg a (jup b h j x) := by
  by_cases e : h < 33
  · rw [if_pos e]
    funext k
    unfold jup mg
    by_cases q : k = h
    · subst q; simp [blt_t e]
    · simp [beq_ff q]
  · rw [if_neg e]
    funext k
    unfold jup mg
    by_cases q : k = h
    · subst q; simp [blt_f e]
    · simp [beq_ff q]
theorem mg_js (a b : Jst) (h : Nat) (f : Nat → Int32) : jset (mg a b) h f = if h < 33 then mg (jset a h f) b else mg a (jset b h f) := by
  by_cases e : h < 33
  · rw [if_pos e]
    funext k
    unfold jset mg
    by_cases q : k = h
    · subst q; simp [blt_t e]
    · simp [beq_ff q]
  · rw [if_neg e]
    funext k
    unfold jset mg
    by_cases q : k = h
    · subst q; simp [blt_f e]
    · simp [beq_ff q]
/-! marks -/
def mkf (f : Nat → Int32) (v : Nat) : Nat → Int32 := fun j => if j < v then 1 else f j
theorem mkf_0 (f : Nat → Int32) : mkf f 0 = f := by
  funext j; unfold mkf; rw [if_neg (by omega)]
theorem mkf_s (f : Nat → Int32) (v : Nat) : upd (mkf f v) v 1 = mkf f (v + 1) := by
  funext j
  unfold upd mkf
  by_cases e : j = v
  · rw [if_pos e, if_pos (by omega)]
  · rw [if_neg e]
    by_cases c : j < v
    · rw [if_pos c, if_pos (by omega)]
    · rw [if_neg c, if_neg (by omega)]
theorem mark_L (K : Jst → Prop) (σ : Jst) (m : Nat) (hm : m ≤ 4) (hs : σ 10 3 = nI m) (last : K (jset σ 13 (mkf (σ 13) m))) : ∀ d v, v + d = m → w_Un_markAll_L2 K (d + 1) (nI v) (jset σ 13 (mkf (σ 13) v)) := by
  intro d
  induction d with
  | zero =>
    intro v hv
    have e : v = m := by omega
    subst e
    rw [w_Un_markAll_L2]
    refine ⟨fun _ => last, fun h => absurd ?_ h⟩
    show σ 10 3 ≤ _
    rw [hs]
    exact Int32.le_refl _
  | succ d ih =>
    intro v hv
    have key := ih (v + 1) (by omega)
    rw [w_Un_markAll_L2]
    refine ⟨fun h => ?_, fun _ => ?_⟩
    · exfalso
      have h2 : σ 10 3 ≤ _ := h
      rw [hs] at h2
      exact absurd ((nI_leI (by omega) (by omega)).mp h2) (by omega)
    · refine ⟨vp_in_nI (by omega) (by omega), ?_⟩
      rw [nI_clamp (by omega), nI_1, show vp_nar .boolean 1 = 1 from rfl, ju_js, mkf_s]
      exact key
theorem res_L (K : Jst → Prop) (σ : Jst) (m : Nat) (w : Int32) (hm : m ≤ 4) (hs : σ 33 14 = nI m) (last : K (jset σ 35 (mkf (σ 35) m))) : ∀ d v, v + d = m → w_M_resend_L34 K (d + 1) w (nI v) (jset σ 35 (mkf (σ 35) v)) := by
  intro d
  induction d with
  | zero =>
    intro v hv
    have e : v = m := by omega
    subst e
    rw [w_M_resend_L34]
    refine ⟨fun _ => last, fun h => absurd ?_ h⟩
    show σ 33 14 ≤ _
    rw [hs]
    exact Int32.le_refl _
  | succ d ih =>
    intro v hv
    have key := ih (v + 1) (by omega)
    rw [w_M_resend_L34]
    refine ⟨fun h => ?_, fun _ => ?_⟩
    · exfalso
      have h2 : σ 33 14 ≤ _ := h
      rw [hs] at h2
      exact absurd ((nI_leI (by omega) (by omega)).mp h2) (by omega)
    · refine ⟨vp_in_nI (by omega) (by omega), ?_⟩
      rw [nI_clamp (by omega), nI_1, show vp_nar .boolean 1 = 1 from rfl, ju_js, mkf_s]
      exact key
theorem mark_eq {K : Jst → Prop} {σ : Jst} {m : Nat} (hm : m ≤ 4) (hs : σ 10 3 = nI m) (hk : K (jset σ 13 (mkf (σ 13) m))) : w_Un_markAll σ K := by
  have key := mark_L K σ m hm hs hk m 0 (by omega)
  rw [mkf_0, js_self] at key
  exact ⟨_, key⟩
theorem res_eq {K : Jst → Prop} {σ : Jst} {m : Nat} (w : Int32) (hm : m ≤ 4) (hs : σ 33 14 = nI m) (hk : K (jset σ 35 (mkf (σ 35) m))) : ∃ n, w_M_resend_L34 K n w 0 σ := by
  have key := res_L K σ m w hm hs hk m 0 (by omega)
  rw [mkf_0, js_self] at key
  exact ⟨_, key⟩
theorem pd_mark {nx od sz op : Int32} {nu cm mk cm' mk' : Nat → Int32} {m : Nat} (hm : m ≤ 4) (hs : sz = nI m) (h : iPd nx od sz op nu cm mk cm' mk') : iPd nx od sz op nu cm (mkf mk m) cm' (mkf mk' m) := by
  obtain ⟨o, k, h1, h2, h3, h4, h5, h6, h7⟩ := h
  have e : k = m := (nI_eq (by omega) (by omega)).mp (h4.symm.trans hs)
  subst e
  refine ⟨o, k, h1, h2, h3, h4, h5, h6, fun j hj => ⟨(h7 j hj).1, (h7 j hj).2.1, ?_, ?_⟩⟩
  · unfold mkf; rw [if_pos hj, if_pos hj]
  · unfold mkf; rw [if_pos hj]; exact Or.inr rfl
/-- the search: skip what is not marked -/
theorem skip_L (K : Int32 → Jst → Prop) (σ : Jst) (m z n : Nat) (hm : m ≤ 4) (hz : z ≤ m) (hs : σ 10 3 = nI m) (hn : ∀ j, j < z → σ 13 j = 0) (last : w_Un_firstMarked_L2 K (n + 1) (nI z) σ) : ∀ d v, v + d = z → w_Un_firstMarked_L2 K (d + n + 1) (nI v) σ := by
  intro d
  induction d with
  | zero =>
    intro v hv
    have e : v = z := by omega
    subst e
    rw [Nat.zero_add]
    exact last
  | succ d ih =>
    intro v hv
    have key := ih (v + 1) (by omega)
    rw [w_Un_firstMarked_L2]
    refine ⟨fun h => ?_, fun _ => ?_⟩
    · exfalso
      rw [hs] at h
      exact absurd ((nI_leI (by omega) (by omega)).mp h) (by omega)
    · refine ⟨vp_in_nI (by omega) (by omega), ?_⟩
      rw [nI_clamp (by omega), hn v (by omega), nI_1]
      refine ⟨fun _ => ?_, fun h => absurd rfl h⟩
      rw [show d + 1 + n = d + n + 1 from by omega]
      exact key
theorem tskip_L (K : Int32 → Jst → Prop) (σ : Jst) (m z n : Nat) (hm : m ≤ 4) (hz : z ≤ m) (hs : σ 33 14 = nI m) (hn : ∀ j, j < z → σ 35 j = 0) (last : w_M_tick_L99 K (n + 1) (nI z) σ) : ∀ d v, v + d = z → w_M_tick_L99 K (d + n + 1) (nI v) σ := by
  intro d
  induction d with
  | zero =>
    intro v hv
    have e : v = z := by omega
    subst e
    rw [Nat.zero_add]
    exact last
  | succ d ih =>
    intro v hv
    have key := ih (v + 1) (by omega)
    rw [w_M_tick_L99]
    refine ⟨fun h => ?_, fun _ => ?_⟩
    · exfalso
      rw [hs] at h
      exact absurd ((nI_leI (by omega) (by omega)).mp h) (by omega)
    · refine ⟨vp_in_nI (by omega) (by omega), ?_⟩
      rw [nI_clamp (by omega), hn v (by omega), nI_1]
      refine ⟨fun _ => ?_, fun h => absurd rfl h⟩
      rw [show d + 1 + n = d + n + 1 from by omega]
      exact key
theorem first_mark (f : Nat → Int32) : ∀ m : Nat, (∀ j, j < m → f j = 0) ∨ ∃ z, z < m ∧ ¬ f z = 0 ∧ ∀ j, j < z → f j = 0 := by
  intro m
  induction m with
  | zero => exact Or.inl (fun j hj => absurd hj (Nat.not_lt_zero j))
  | succ m ih =>
    rcases ih with h | ⟨z, h1, h2, h3⟩
    · by_cases e : f m = 0
      · refine Or.inl (fun j hj => ?_)
        by_cases q : j = m
        · rw [q]; exact e
        · exact h j (by omega)
      · exact Or.inr ⟨m, by omega, e, h⟩
    · exact Or.inr ⟨z, by omega, h2, h3⟩
theorem fm_none {K : Int32 → Jst → Prop} {σ : Jst} {m : Nat} (hm : m ≤ 4) (hs : σ 10 3 = nI m) (hn : ∀ j, j < m → σ 13 j = 0) (hk : K (-1) σ) : w_Un_firstMarked σ K := by
  refine ⟨m + 0 + 1, skip_L K σ m m 0 hm (by omega) hs hn ?_ m 0 (by omega)⟩
  rw [w_Un_firstMarked_L2, hs]
  exact ⟨fun _ => hk, fun h => absurd (Int32.le_refl _) h⟩
theorem fm_some {K : Int32 → Jst → Prop} {σ : Jst} {m z : Nat} (hm : m ≤ 4) (hz : z < m) (hs : σ 10 3 = nI m) (hn : ∀ j, j < z → σ 13 j = 0) (he : ¬ σ 13 z = 0) (hk : K (nI z) σ) : w_Un_firstMarked σ K := by
  refine ⟨z + 0 + 1, skip_L K σ m z 0 hm (by omega) hs hn ?_ z 0 (by omega)⟩
  rw [w_Un_firstMarked_L2, hs]
  refine ⟨fun h => absurd ((nI_leI (by omega) (by omega)).mp h) (by omega), fun _ => ⟨vp_in_nI (by omega) (by omega), fun h => absurd h ?_, fun _ => hk⟩⟩
  rw [nI_clamp (by omega)]
  exact he
theorem tk_none {K : Int32 → Jst → Prop} {σ : Jst} {m : Nat} (hm : m ≤ 4) (hs : σ 33 14 = nI m) (hn : ∀ j, j < m → σ 35 j = 0) (hk : w_M_tick_L99 K 1 (nI m) σ) : ∃ n, w_M_tick_L99 K n 0 σ := ⟨m + 0 + 1, tskip_L K σ m m 0 hm (by omega) hs hn hk m 0 (by omega)⟩
theorem tk_some {K : Int32 → Jst → Prop} {σ : Jst} {m z : Nat} (hm : m ≤ 4) (hz : z < m) (hs : σ 33 14 = nI m) (hn : ∀ j, j < z → σ 35 j = 0) (hk : w_M_tick_L99 K 1 (nI z) σ) : ∃ n, w_M_tick_L99 K n 0 σ := ⟨z + 0 + 1, tskip_L K σ m z 0 hm (by omega) hs hn hk z 0 (by omega)⟩
