/-! the pure part: what class and reference hold alike -/
def jset (σ : Jst) (h : Nat) (f : Nat → Int32) : Jst := fun a => cond (Nat.beq a h) f (σ a)
/-- unacknowledged frames: next, oldest, size, the reference's count; numbers, commands, marks; the reference's -/
def iPd (nx od sz op : Int32) (nu cm mk cm' mk' : Nat → Int32) : Prop := ∃ o k : Nat, o < 16 ∧ k ≤ 4 ∧ od = nI o ∧ sz = nI k ∧ op = nI k ∧ nx = nI ((o + k) % 16) ∧ ∀ j, j < k → nu j = nI ((o + j) % 16) ∧ cm' j = cm j ∧ mk' j = mk j ∧ (mk j = 0 ∨ mk j = 1)
def iGr (mode next oldest full slot tries timer reason window limit span kind due size : Int32) (mode' next' oldest' tries' timer' reason' window' limit' span' full' slot' due' begins' opn' : Int32) (nu cm mk cm' mk' : Nat → Int32) : Prop :=
  (mode' = mode ∧ next' = next ∧ oldest' = oldest ∧ tries' = tries ∧ timer' = timer ∧ reason' = reason ∧ window' = window ∧ limit' = limit ∧ span' = span ∧ full' = full ∧ slot' = slot) ∧
  (mode = 0 ∨ mode = 1 ∨ mode = 2 ∨ mode = 3 ∨ mode = 4 ∨ mode = 5) ∧ (full = 0 ∨ full = 1) ∧ (∃ w : Nat, 1 ≤ w ∧ w ≤ 4 ∧ window = nI w) ∧ (mode = 0 → timer = 0 ∧ size = 0) ∧ (mode = 5 → due' = due ∧ begins' = kind ∧ (kind = 1 ∨ kind = 2)) ∧
  iPd next oldest size opn' nu cm mk cm' mk'
def iG (σ : Jst) : Prop := iGr (σ 9 1) (σ 9 2) (σ 9 3) (σ 9 4) (σ 9 5) (σ 9 6) (σ 9 7) (σ 9 8) (σ 9 9) (σ 9 10) (σ 9 11) (σ 9 12) (σ 9 13) (σ 10 3) (σ 33 1) (σ 33 2) (σ 33 3) (σ 33 4) (σ 33 5) (σ 33 6) (σ 33 7) (σ 33 8) (σ 33 9) (σ 33 10) (σ 33 11) (σ 33 12) (σ 33 13) (σ 33 14) (σ 11) (σ 12) (σ 13) (σ 34) (σ 35)
/-- frames on their way up -/
def iUp (sz fl : Int32) (k n c k' n' c' : Nat → Int32) : Prop := ∃ m : Nat, m ≤ 20 ∧ sz = nI m ∧ fl = nI m ∧ ∀ j, j < m → k' j = k j ∧ n' j = n j ∧ c' j = c j ∧ (k j = 0 ∨ k j = 1 ∨ k j = 2) ∧ ∃ x : Nat, x < 16 ∧ n j = nI x
def iU (σ : Jst) : Prop := iUp (σ 1 3) (σ 33 17) (σ 2) (σ 3) (σ 4) (σ 36) (σ 37) (σ 38)
/-- a report as the reference packs it -/
def pack (e : Nat) (a g : Int32) : Int32 := nI (e + (if a = 0 then 0 else 16) + (if g = 2 then 32 else 0) + (if g = 1 then 64 else 0))
def iRe (sz re : Int32) (ex ag ga rp : Nat → Int32) : Prop := ∃ m : Nat, m ≤ 20 ∧ sz = nI m ∧ re = nI m ∧ ∀ j, j < m → (ag j = 0 ∨ ag j = 1) ∧ (ga j = 0 ∨ ga j = 1 ∨ ga j = 2) ∧ ∃ x : Nat, x < 16 ∧ ex j = nI x ∧ rp j = pack x (ag j) (ga j)
def iR (σ : Jst) : Prop := iRe (σ 5 3) (σ 33 26) (σ 6) (σ 7) (σ 8) (σ 40)
def iCr (qd ga ex ag ga' ex' ag' qd' : Int32) (q q' : Nat → Int32) : Prop := ga' = ga ∧ ex' = ex ∧ ag' = ag ∧ (ga = 0 ∨ ga = 1 ∨ ga = 2) ∧ (ag = 0 ∨ ag = 1) ∧ (∃ x : Nat, x < 16 ∧ ex = nI x) ∧ ∃ m : Nat, m ≤ 3 ∧ qd = nI m ∧ qd' = nI m ∧ ∀ j, j < m → q' j = q j
def iC (σ : Jst) : Prop := iCr (σ 14 1) (σ 14 2) (σ 14 3) (σ 14 4) (σ 33 21) (σ 33 22) (σ 33 23) (σ 33 24) (σ 15) (σ 39)
/-- a channel's cells: size, count; the reference's begin, number, count; tags and cells; the reference's row of 128, from 64 c on -/
def iSt (sz ct fr nc mc : Int32) (ce tg sm : Nat → Int32) (c : Nat) : Prop := ∃ n f : Nat, n ≤ 60 ∧ f < 64 ∧ sz = nI n ∧ nc = nI n ∧ fr = nI f ∧ mc = ct ∧ (∃ x : Nat, x < 16 ∧ ct = nI x) ∧ ∀ j, j < n → (tg j = 0 ∨ tg j = 1) ∧ ∃ x : Nat, x ≤ 1000 ∧ ce j = nI x ∧ sm (64 * c + (f + j) % 64) = if tg j = 0 then nI x else (-1 : Int32) - nI x
def iS0 (σ : Jst) : Prop := iSt (σ 18 2) (σ 18 3) (σ 41 0) (σ 42 0) (σ 44 0) (σ 19) (σ 20) (σ 43) 0
def iS1 (σ : Jst) : Prop := iSt (σ 22 2) (σ 22 3) (σ 41 1) (σ 42 1) (σ 44 1) (σ 23) (σ 24) (σ 43) 1
def iAs (ch aw st cr tg ln su aw' ls' ha' tg' sz' su' : Int32) (c : Int32) : Prop := ch = c ∧ aw' = aw ∧ ha' = cr ∧ tg' = tg ∧ sz' = ln ∧ su' = su ∧ ((st = 1 ∧ ls' = 0) ∨ (st = 0 ∧ ls' = 1)) ∧ (∃ x : Nat, x < 16 ∧ aw = nI x) ∧ ∃ n m : Nat, m ≤ 1000 ∧ ln = nI m ∧ cr = nI n ∧ (n < 2 ∨ n < 2 + m)
def iA0 (σ : Jst) : Prop := iAs (σ 21 0) (σ 21 1) (σ 21 2) (σ 21 3) (σ 21 4) (σ 21 5) (σ 21 6) (σ 45 0) (σ 46 0) (σ 47 0) (σ 48 0) (σ 49 0) (σ 50 0) 0
def iA1 (σ : Jst) : Prop := iAs (σ 25 0) (σ 25 1) (σ 25 2) (σ 25 3) (σ 25 4) (σ 25 5) (σ 25 6) (σ 45 1) (σ 46 1) (σ 47 1) (σ 48 1) (σ 49 1) (σ 50 1) 1
def iGo (sz pk : Int32) (ch tg ln su go : Nat → Int32) : Prop := ∃ m : Nat, m ≤ 40 ∧ sz = nI m ∧ pk = nI m ∧ ∀ j, j < m → go (4 * j) = ch j ∧ go (4 * j + 1) = tg j ∧ go (4 * j + 2) = ln j ∧ go (4 * j + 3) = su j
def iP (σ : Jst) : Prop := iGo (σ 28 4) (σ 33 39) (σ 29) (σ 30) (σ 31) (σ 32) (σ 52)
def Inv (σ : Jst) : Prop := iG σ ∧ iU σ ∧ iR σ ∧ iC σ ∧ iS0 σ ∧ iS1 σ ∧ iA0 σ ∧ iA1 σ ∧ iP σ
theorem inv_0 : Inv st0 := by
  refine ⟨⟨⟨rfl, rfl, rfl, rfl, rfl, rfl, rfl, rfl, rfl, rfl, rfl⟩, Or.inl rfl, Or.inl rfl, ⟨3, by decide, by decide, by decide⟩, fun _ => ⟨rfl, rfl⟩, fun h => absurd h (by decide), 0, 0, by decide, by decide, by decide, by decide, by decide, by decide, fun j h => absurd h (Nat.not_lt_zero j)⟩, ⟨0, by decide, by decide, by decide, fun j h => absurd h (Nat.not_lt_zero j)⟩, ⟨0, by decide, by decide, by decide, fun j h => absurd h (Nat.not_lt_zero j)⟩, ⟨rfl, rfl, rfl, Or.inl rfl, Or.inl rfl, ⟨0, by decide, by decide⟩, 0, by decide, by decide, by decide, fun j h => absurd h (Nat.not_lt_zero j)⟩, ⟨0, 0, by decide, by decide, by decide, by decide, by decide, rfl, ⟨0, by decide, by decide⟩, fun j h => absurd h (Nat.not_lt_zero j)⟩, ⟨0, 0, by decide, by decide, by decide, by decide, by decide, rfl, ⟨0, by decide, by decide⟩, fun j h => absurd h (Nat.not_lt_zero j)⟩, ⟨rfl, rfl, rfl, rfl, rfl, rfl, Or.inl ⟨rfl, rfl⟩, ⟨0, by decide, by decide⟩, 0, 0, by decide, by decide, by decide, Or.inl (by decide)⟩, ⟨rfl, rfl, rfl, rfl, rfl, rfl, Or.inl ⟨rfl, rfl⟩, ⟨0, by decide, by decide⟩, 0, 0, by decide, by decide, by decide, Or.inl (by decide)⟩, ⟨0, by decide, by decide, by decide, fun j h => absurd h (Nat.not_lt_zero j)⟩⟩
theorem pure_of (hcase : ∀ (a0 a1 a2 a3 : Int32) (σ : Jst) (K : Jst → Prop), Inv σ → (∀ u, Inv u → K u) → w_case a0 a1 a2 a3 σ K) (xs : Nat → Int32) (L : Nat) (hL : L ≤ 2048) : ∀ (n i : Nat) (σ : Jst), L / 4 < n + i → i ≤ L / 4 → Inv σ → w_law xs L n (nI (4 * i)) σ := by
  intro n
  induction n with
  | zero => intro i σ h1 h2 _; omega
  | succ n ih =>
    intro i σ h1 h2 hI
    rw [w_law]
    intro hlt
    have hle : 4 * i + 4 ≤ L := by
      by_cases h4 : 4 ≤ L
      · have e : Int32.ofNat L - (4 : Int32) = nI (L - 4) := pk_sub (a := L) (b := 4) h4
        rw [e] at hlt
        have := (not_congr (nI_ltI (a := L - 4) (b := 4 * i) (by omega) (by omega))).mp hlt
        omega
      · exfalso
        apply hlt
        have hi0 : i = 0 := by omega
        subst hi0
        exact pk_sneg (a := L) (b := 4) (by omega) (by omega)
    have e1 : nI (4 * i) + (1 : Int32) = nI (4 * i + 1) := nI_add _ 1
    have e2 : nI (4 * i) + (2 : Int32) = nI (4 * i + 2) := nI_add _ 2
    have e3 : nI (4 * i) + (3 : Int32) = nI (4 * i + 3) := nI_add _ 3
    have e4 : nI (4 * i) + (4 : Int32) = nI (4 * (i + 1)) := nI_add _ 4
    refine ⟨⟨vp_in_nI (by omega) (by omega), by rw [e1]; exact vp_in_nI (by omega) (by omega), by rw [e2]; exact vp_in_nI (by omega) (by omega), by rw [e3]; exact vp_in_nI (by omega) (by omega)⟩, ?_⟩
    refine hcase _ _ _ _ _ _ hI (fun u hu => ?_)
    rw [e4]
    exact ih (i + 1) u (by omega) (by omega) hu
