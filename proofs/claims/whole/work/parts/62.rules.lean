/-! rules for the small steps -/
theorem within_eq (a lo hi : Int32) (σ : Jst) (K : Int32 → Jst → Prop) : w_T_isWithin a lo hi σ K = (if a < lo ∨ hi < a then K 0 σ else K 1 σ) := by
  unfold w_T_isWithin
  by_cases h1 : a < lo <;> by_cases h2 : hi < a <;> simp [h1, h2]
theorem outside_eq (a lo hi : Int32) (σ : Jst) (K : Int32 → Jst → Prop) : w_M_outside a lo hi σ K = (if a < lo ∨ hi < a then K 1 σ else K 0 σ) := by
  unfold w_M_outside
  by_cases h1 : a < lo <;> by_cases h2 : hi < a
  · simp [h1]
  · simp [h1]
  · have h3 : ¬ a ≤ hi := Int32.not_le.mpr h2
    simp [h1, h2, h3]
  · have h3 : a ≤ hi := Int32.not_lt.mp h2
    simp [h1, h2, h3]
theorem fails_eq (a b : Int32) (σ : Jst) (K : Int32 → Jst → Prop) : w_M_fails a b σ K = (if a = 0 then (if b = 0 then K 0 (jup σ 33 0 0) else K 1 (jup σ 33 0 2)) else K 1 (jup σ 33 0 1)) := by
  unfold w_M_fails
  by_cases h1 : a = 0 <;> by_cases h2 : b = 0 <;> simp [h1, h2]
theorem idle_eq (σ : Jst) (K : Int32 → Jst → Prop) : w_Gr_isIdle σ K = (if σ 9 1 = 0 then K 1 σ else K 0 σ) := by
  unfold w_Gr_isIdle
  by_cases h1 : σ 9 1 = 0 <;> simp [h1]
theorem thrown_eq (σ : Jst) (K : Int32 → Jst → Prop) : w_M_thrown σ K = K (σ 33 0) σ := rfl
theorem beq_ff {a h : Nat} (h1 : ¬ a = h) : Nat.beq a h = false := by
  cases hh : Nat.beq a h with
  | false => rfl
  | true => exact absurd (Nat.eq_of_beq_eq_true hh) h1
theorem jup_eq (σ : Jst) (h j : Nat) (x : Int32) : jup σ h j x h j = x := by
  unfold jup upd
  simp
theorem jup_at (σ : Jst) (h j a b : Nat) (x : Int32) : jup σ h j x a b = if a = h ∧ b = j then x else σ a b := by
  unfold jup upd
  by_cases h1 : a = h
  · subst h1; simp
  · have : Nat.beq a h = false := beq_ff h1
    simp [this, h1]
theorem jup_h (σ : Jst) (h j a : Nat) (x : Int32) : jup σ h j x a = if a = h then upd (σ a) j x else σ a := by
  unfold jup
  by_cases h1 : a = h
  · subst h1; simp
  · have : Nat.beq a h = false := beq_ff h1
    simp [this, h1]
theorem i10 : ((1 : Int32) = 0) = False := by decide
theorem i20 : ((2 : Int32) = 0) = False := by decide
theorem i01 : ((0 : Int32) = 1) = False := by decide
theorem i02 : ((0 : Int32) = 2) = False := by decide
theorem i12 : ((1 : Int32) = 2) = False := by decide
theorem i21 : ((2 : Int32) = 1) = False := by decide
theorem lg_self (x : Int64) : lg_cmp x x = 0 := by
  unfold lg_cmp
  simp
theorem inv_thr {σ : Jst} {x : Int32} (h : Inv σ) : Inv (jup σ 33 0 x) := h
theorem inv_out {σ : Jst} {j : Nat} {x : Int32} (h : Inv σ) : Inv (jup σ 53 j x) := h
theorem rng {a lo hi : Int32} {l n : Nat} (hl : lo = nI l) (hh : hi = nI n) (hln : l < 2 ^ 31) (hn : n < 2 ^ 31) (h : ¬ (a < lo ∨ hi < a)) : ∃ w : Nat, l ≤ w ∧ w ≤ n ∧ a = nI w := by
  subst hl; subst hh
  have h1 : nI l ≤ a := Int32.not_lt.mp (fun q => h (Or.inl q))
  have h2 : a ≤ nI n := Int32.not_lt.mp (fun q => h (Or.inr q))
  rw [Int32.le_iff_toInt_le, nI_toInt hln] at h1
  rw [Int32.le_iff_toInt_le, nI_toInt hn] at h2
  refine ⟨a.toInt.toNat, by omega, by omega, ?_⟩
  apply Int32.toInt_inj.mp
  rw [nI_toInt (by omega)]
  omega
theorem nI_z {k : Nat} (hk : k < 2 ^ 31) (h : nI k = 0) : k = 0 := (nI_eq hk (by decide : (0 : Nat) < 2 ^ 31)).mp h
