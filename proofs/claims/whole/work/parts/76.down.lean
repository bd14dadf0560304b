/-! a frame comes down -/
theorem neg1 (y : Int32) : (-1 : Int32) - y = 0 - (y + 1) := by
  rw [Int32.sub_eq_add_neg, Int32.sub_eq_add_neg, Int32.zero_add, Int32.neg_add, Int32.add_comm, Int32.sub_eq_add_neg]
theorem neg2 (y : Int32) : (-1 : Int32) - ((-1 : Int32) - y) = y := by
  have h : (-1 : Int32) - ((-1 : Int32) - y) + ((-1 : Int32) - y) = y + ((-1 : Int32) - y) := by rw [Int32.sub_add_cancel, Int32.add_comm, Int32.sub_add_cancel]
  first
    | exact Int32.add_right_cancel h
    | exact (Int32.add_left_inj _).mp h
    | exact (Int32.add_right_inj _).mp h
    | grind
theorem neg3 {x : Nat} (hx : x ≤ 1000) : ¬ (0 : Int32) ≤ (-1 : Int32) - nI x := by
  intro h
  rw [neg1, nI_1, Int32.le_iff_toInt_le, show ((0 : Int32) - nI (x + 1)).toInt = ((0 : Nat) : Int) - ((x + 1 : Nat) : Int) from pk_sub_toInt (a := 0) (by decide) (by omega), show (0 : Int32).toInt = 0 from by decide] at h
  omega
theorem pos3 {x : Nat} (hx : x ≤ 1000) : (0 : Int32) ≤ nI x := (nI_leI (a := 0) (by decide) (by omega)).mpr (by omega)
theorem ju_self (s : Jst) (h j : Nat) : jup s h j (s h j) = s := by
  funext a
  unfold jup
  by_cases e : a = h
  · subst e
    simp
    funext i
    unfold upd
    by_cases q : i = j
    · rw [if_pos q, q]
    · rw [if_neg q]
  · simp [beq_ff e]
theorem ju_ju (s : Jst) (h j : Nat) (x y : Int32) : jup (jup s h j x) h j y = jup s h j y := by
  funext a
  unfold jup
  by_cases e : a = h
  · subst e
    simp
    funext i
    unfold upd
    by_cases q : i = j
    · rw [if_pos q, if_pos q]
    · rw [if_neg q, if_neg q, if_neg q]
  · simp [beq_ff e]
theorem js_ju (s : Jst) (h j : Nat) (x : Int32) (f : Nat → Int32) : jset (jup s h j x) h f = jset s h f := by
  funext a
  unfold jset jup
  by_cases e : a = h
  · subst e; simp
  · simp [beq_ff e]
theorem js_js (s : Jst) (h : Nat) (f g : Nat → Int32) : jset (jset s h f) h g = jset s h g := by
  funext a
  unfold jset
  by_cases e : a = h
  · subst e; simp
  · simp [beq_ff e]
def cpy (g C : Nat → Int32) (d : Nat) : Nat → Int32 := fun j => if j < d then C j else g j
theorem cpy_0 (g C : Nat → Int32) : cpy g C 0 = g := by
  funext j; unfold cpy; rw [if_neg (by omega)]
theorem cpy_s (g C : Nat → Int32) (d : Nat) : cpy (upd g d (C d)) C d = cpy g C (d + 1) := by
  funext j
  unfold cpy upd
  by_cases e : j = d
  · rw [if_neg (by omega), if_pos e, if_pos (by omega), e]
  · by_cases q : j < d
    · rw [if_pos q, if_pos (by omega)]
    · rw [if_neg q, if_neg e, if_neg (by omega)]
def hp (T : Nat → Int32) : Nat → Int32 → Int32
  | 0, r => r
  | d + 1, r => hp T d (if T d = 0 then r else nI d)
theorem hp_le (T : Nat → Int32) : ∀ d r, d ≤ 6 → (∃ h : Nat, h ≤ 6 ∧ r = nI h) → ∃ h : Nat, h ≤ 6 ∧ hp T d r = nI h := by
  intro d
  induction d with
  | zero => intro r _ h; exact h
  | succ d ih =>
    intro r hd h
    rw [hp]
    refine ih _ (by omega) ?_
    by_cases e : T d = 0
    · rw [if_pos e]; exact h
    · rw [if_neg e]; exact ⟨d, by omega, rfl⟩
theorem rdl_0 (X : Nat → Nat) (hX : ∀ j, j < 6 → X j ≤ 1000) : ∀ (d v : Nat) (α : Jst), v + d = 6 → (∀ j, j < 6 → α 27 j = nI (X j)) → (∃ (β : Jst) (w : Int32), Inv (mg (jup α 21 1 w) β)) → ∃ a : Jst, a 26 = α 26 ∧ (∀ (t : Jst) (K : Jst → Prop) (w3 : Int32), w_As_receive_21_L48 K 1 w3 (nI 6) (mg a t) → w_As_receive_21_L48 K (d + 1) w3 (nI v) (mg α t)) ∧ ∀ (β : Jst) (w : Int32), Inv (mg (jup α 21 1 w) β) → (∀ j, j < 6 → β 51 j = nI (X j) ∨ β 51 j = (-1 : Int32) - nI (X j)) → ∃ b : Jst, Inv (mg (jup a 21 1 w) b) ∧ b 33 0 = β 33 0 ∧ b 53 = β 53 ∧ (∀ (t : Jst) (K : Jst → Prop) (v2 v3 v4 : Int32), K (mg t b) → w_M_comesDown_L79 K (d + 1) 0 v2 v3 v4 (nI v) (mg t β)) := by
  intro d
  induction d with
  | zero =>
    intro v α hv _ _
    have e : v = 6 := by omega
    subst e
    refine ⟨α, rfl, fun t K w3 h => h, fun β w hI _ => ⟨β, hI, rfl, rfl, fun t K v2 v3 v4 h => ?_⟩⟩
    rw [w_M_comesDown_L79]
    exact ⟨fun _ => h, fun q => absurd (show (6 : Int32) ≤ nI 6 by decide) q⟩
  | succ d ih =>
    intro v α hv h27 hex
    have ne : ¬ (6 : Int32) ≤ nI v := fun q => absurd ((nI_leI (a := 6) (by decide) (by omega)).mp q) (by omega)
    have hin : vp_in (nI v) 6 := vp_in_nI (by omega) (by omega)
    have hc : (nI v).toNatClampNeg = v := nI_clamp (by omega)
    obtain ⟨a1, p1, p2, p3, p4⟩ := rd_0 (x := X v) (hX v (by omega)) hex
    have hex1 : ∃ (β : Jst) (w : Int32), Inv (mg (jup a1 21 1 w) β) := by
      obtain ⟨β, w, hI⟩ := hex
      obtain ⟨b, i1, -⟩ := p4 β w hI
      exact ⟨b, w, i1⟩
    obtain ⟨a, q1, q2, q3⟩ := ih (v + 1) a1 (by omega) (by rw [p1]; exact h27) hex1
    refine ⟨a, q1.trans p2, fun t K w3 h => ?_, fun β w hI h51 => ?_⟩
    · rw [w_As_receive_21_L48]
      refine ⟨fun q => absurd q ne, fun _ => ⟨hin, ?_⟩⟩
      rw [hc, nI_1]
      show w_As_read_21 (α 27 v) (mg α t) _
      rw [h27 v (by omega)]
      exact p3 t _ (q2 t K w3 h)
    · obtain ⟨b1, i1, i2, i3, i4, i5⟩ := p4 β w hI
      obtain ⟨b, j1, j2, j3, j4⟩ := q3 b1 w i1 (by rw [i4]; exact h51)
      refine ⟨b, j1, j2.trans i2, j3.trans i3, fun t K v2 v3 v4 h => ?_⟩
      rw [w_M_comesDown_L79]
      refine ⟨fun q => absurd q ne, fun _ => ⟨hin, ?_⟩⟩
      rw [hc, nI_1]
      have key : w_M_readCell 0 (nI (X v)) (mg t β) (fun u1 => w_M_comesDown_L79 K (d + 1) 0 v2 v3 v4 (nI (v + 1)) u1) := i5 t _ (j4 t K v2 v3 v4 h)
      have e51 : (mg t β) 51 v = β 51 v := rfl
      rw [e51]
      rcases h51 v (by omega) with e | e
      · rw [e]
        exact ⟨fun _ => ⟨hin, key⟩, fun q => absurd (pos3 (hX v (by omega))) q⟩
      · rw [e]
        refine ⟨fun q => absurd q (neg3 (hX v (by omega))), fun _ => ⟨hin, ?_⟩⟩
        rw [neg2]
        exact key
theorem rcv_0 (α : Jst) (X : Nat → Nat) (hX : ∀ j, j < 6 → X j ≤ 1000) (h27 : ∀ j, j < 6 → α 27 j = nI (X j)) (ct h : Nat) (hct : ct < 16) (hh : h ≤ 6) (h1 : α 26 1 = nI ct) (h2 : α 26 2 = nI h) (hex : ∃ β : Jst, Inv (mg α β)) : ∃ a : Jst, a 26 = α 26 ∧ (∀ (t : Jst) (K : Jst → Prop), K (mg a t) → w_As_receive_21 (mg α t) K) ∧ ∀ β : Jst, Inv (mg α β) → (∀ j, j < 6 → β 51 j = nI (X j) ∨ β 51 j = (-1 : Int32) - nI (X j)) → ∃ b : Jst, Inv (mg a b) ∧ b 33 0 = β 33 0 ∧ b 53 = β 53 ∧ (∀ (t : Jst) (K : Jst → Prop), K (mg t b) → w_M_comesDown 0 (nI ct) (nI h) (mg t β) K) := by
  have hw : nI ct + 1 - (nI ct + 1) / 16 * 16 = nI ((ct + 1) % 16) := by rw [nI_1]; exact pk_rem (d := 16) (by omega) (by decide) (by decide)
  have hw1 : (ct + 1) % 16 < 16 := Nat.mod_lt _ (by decide)
  generalize (ct + 1) % 16 = W at hw hw1
  have hlast : ∀ (a : Jst), a 26 = α 26 → ∀ (t : Jst) (K : Jst → Prop) (w3 : Int32), K (mg (jup a 21 1 (nI W)) t) → w_As_receive_21_L48 K 1 w3 (nI 6) (mg a t) := by
    intro a ha t K w3 hk
    rw [w_As_receive_21_L48]
    refine ⟨fun _ => ?_, fun q => absurd (show (6 : Int32) ≤ nI 6 by decide) q⟩
    unfold w_T_following
    show K (jup (mg a t) 21 1 (a 26 1 + 1 - (a 26 1 + 1) / 16 * 16))
    rw [ha, h1, hw, mg_up, if_pos (by decide)]
    exact hk
  have hA : ∀ β : Jst, Inv (mg α β) → iAs (α 21 0) (α 21 1) (α 21 2) (α 21 3) (α 21 4) (α 21 5) (α 21 6) (β 45 0) (β 46 0) (β 47 0) (β 48 0) (β 49 0) (β 50 0) 0 := fun β hI => hI.2.2.2.2.2.2.1
  have hkey : ∀ (st ls : Int32) (v : Nat), ((st = 1 ∧ ls = 0) ∨ (st = 0 ∧ ls = 1)) → v ≤ 6 → ∃ a : Jst, a 26 = α 26 ∧ (∀ (t : Jst) (K : Jst → Prop) (w3 : Int32), K (mg a t) → ∃ n, w_As_receive_21_L48 K n w3 (nI v) (mg (jup (jup α 21 3 0) 21 2 st) t)) ∧ ∀ β : Jst, Inv (mg α β) → (∀ j, j < 6 → β 51 j = nI (X j) ∨ β 51 j = (-1 : Int32) - nI (X j)) → ∃ b : Jst, Inv (mg a b) ∧ b 33 0 = β 33 0 ∧ b 53 = β 53 ∧ (∀ (t : Jst) (K : Jst → Prop) (v2 v3 v4 : Int32), K (mg t b) → ∃ n, w_M_comesDown_L79 K n 0 v2 v3 v4 (nI v) (mg t (jup (jup (jup β 45 0 (nI W)) 47 0 0) 46 0 ls))) := by
    intro st ls v hst hv
    have hset : ∀ β : Jst, Inv (mg α β) → Inv (mg (jup (jup (jup α 21 3 0) 21 2 st) 21 1 (nI W)) (jup (jup (jup β 45 0 (nI W)) 47 0 0) 46 0 ls)) := by
      intro β hI
      obtain ⟨v0, v1, v2, v3, v4, v5, v6, v7, n, m, k1, k2, k3, k4⟩ := hA β hI
      obtain ⟨hG, hU, hR, hC, hS0, hS1, hA0, hA1, hP⟩ := hI
      have hN : iAs (α 21 0) (nI W) st 0 (α 21 4) (α 21 5) (α 21 6) (nI W) ls 0 (β 48 0) (β 49 0) (β 50 0) 0 := ⟨v0, rfl, rfl, v3, v4, v5, hst, ⟨W, hw1, rfl⟩, 0, m, k1, k2, rfl, Or.inl (by decide)⟩
      exact ⟨hG, hU, hR, hC, hS0, hS1, hN, hA1, hP⟩
    have hex1 : ∃ (β : Jst) (w : Int32), Inv (mg (jup (jup (jup α 21 3 0) 21 2 st) 21 1 w) β) := by
      obtain ⟨β, hI⟩ := hex
      exact ⟨_, _, hset β hI⟩
    obtain ⟨a, q1, q2, q3⟩ := rdl_0 X hX (6 - v) v (jup (jup α 21 3 0) 21 2 st) (by omega) h27 hex1
    refine ⟨jup a 21 1 (nI W), q1, fun t K w3 hk => ⟨_, q2 t K w3 (hlast a q1 t K w3 hk)⟩, fun β hI h51 => ?_⟩
    obtain ⟨b, j1, j2, j3, j4⟩ := q3 _ _ (hset β hI) h51
    exact ⟨b, j1, j2, j3, fun t K v2 v3 v4 hk => ⟨_, j4 t K v2 v3 v4 hk⟩⟩
  have hkeep : ∃ a : Jst, a 26 = α 26 ∧ (∀ (t : Jst) (K : Jst → Prop) (w3 : Int32), K (mg a t) → ∃ n, w_As_receive_21_L48 K n w3 0 (mg α t)) ∧ ∀ β : Jst, Inv (mg α β) → (∀ j, j < 6 → β 51 j = nI (X j) ∨ β 51 j = (-1 : Int32) - nI (X j)) → ∃ b : Jst, Inv (mg a b) ∧ b 33 0 = β 33 0 ∧ b 53 = β 53 ∧ (∀ (t : Jst) (K : Jst → Prop) (v2 v3 v4 : Int32), K (mg t b) → ∃ n, w_M_comesDown_L79 K n 0 v2 v3 v4 0 (mg t (jup β 45 0 (nI W)))) := by
    have hset : ∀ β : Jst, Inv (mg α β) → Inv (mg (jup α 21 1 (nI W)) (jup β 45 0 (nI W))) := by
      intro β hI
      obtain ⟨v0, v1, v2, v3, v4, v5, v6, v7, n, m, k1, k2, k3, k4⟩ := hA β hI
      obtain ⟨hG, hU, hR, hC, hS0, hS1, hA0, hA1, hP⟩ := hI
      have hN : iAs (α 21 0) (nI W) (α 21 2) (α 21 3) (α 21 4) (α 21 5) (α 21 6) (nI W) (β 46 0) (β 47 0) (β 48 0) (β 49 0) (β 50 0) 0 := ⟨v0, rfl, v2, v3, v4, v5, v6, ⟨W, hw1, rfl⟩, n, m, k1, k2, k3, k4⟩
      exact ⟨hG, hU, hR, hC, hS0, hS1, hN, hA1, hP⟩
    have hex1 : ∃ (β : Jst) (w : Int32), Inv (mg (jup α 21 1 w) β) := by
      obtain ⟨β, hI⟩ := hex
      exact ⟨_, _, hset β hI⟩
    obtain ⟨a, q1, q2, q3⟩ := rdl_0 X hX 6 0 α (by omega) h27 hex1
    refine ⟨jup a 21 1 (nI W), q1, fun t K w3 hk => ⟨_, q2 t K w3 (hlast a q1 t K w3 hk)⟩, fun β hI h51 => ?_⟩
    obtain ⟨b, j1, j2, j3, j4⟩ := q3 _ _ (hset β hI) h51
    exact ⟨b, j1, j2, j3, fun t K v2 v3 v4 hk => ⟨_, j4 t K v2 v3 v4 hk⟩⟩
  have hst : (α 21 2 = 1 ∧ ∀ β : Jst, Inv (mg α β) → β 46 0 = 0) ∨ (α 21 2 = 0 ∧ ∀ β : Jst, Inv (mg α β) → β 46 0 = 1) := by
    obtain ⟨β, hI⟩ := hex
    obtain ⟨-, -, -, -, -, -, v6, -⟩ := hA β hI
    rcases v6 with ⟨e1, -⟩ | ⟨e1, -⟩
    · refine Or.inl ⟨e1, fun β' hI' => ?_⟩
      obtain ⟨-, -, -, -, -, -, v6, -⟩ := hA β' hI'
      rcases v6 with ⟨-, e2⟩ | ⟨e2, -⟩
      · exact e2
      · exact absurd (e1.symm.trans e2) (by decide)
    · refine Or.inr ⟨e1, fun β' hI' => ?_⟩
      obtain ⟨-, -, -, -, -, -, v6, -⟩ := hA β' hI'
      rcases v6 with ⟨e2, -⟩ | ⟨-, e2⟩
      · exact absurd (e1.symm.trans e2) (by decide)
      · exact e2
  have n45 : ∀ β : Jst, Inv (mg α β) → β 45 0 = α 21 1 := fun β hI => (hA β hI).2.1
  have nar1 : vp_nar .boolean (1 : Int32) = 1 := rfl
  by_cases hsame : α 21 2 = 1 ∧ nI ct = α 21 1
  · obtain ⟨s1, s2⟩ := hsame
    obtain ⟨a, q1, q2, q3⟩ := hkeep
    refine ⟨a, q1, fun t K hk => ?_, fun β hI h51 => ?_⟩
    · have key := q2 t K 0 hk
      simp [w_As_receive_21, mg_at, s1, h1, s2]
      exact key
    · obtain ⟨b, j1, j2, j3, j4⟩ := q3 β hI h51
      refine ⟨b, j1, j2, j3, fun t K hk => ?_⟩
      have key := j4 t K (nI ct) (nI h) 1 hk
      have e46 : β 46 0 = 0 := by
        rcases hst with ⟨-, e⟩ | ⟨e, -⟩
        · exact e β hI
        · exact absurd (s1.symm.trans e) (by decide)
      have e45 : nI ct = β 45 0 := by rw [n45 β hI]; exact s2
      have hw' := hw
      unfold w_M_comesDown
      rw [tn0]
      refine ⟨vi0, fun q => absurd e46 q, fun _ => ⟨vi0, fun q => absurd e45 q, fun _ => ⟨vi0, ?_⟩⟩⟩
      rw [hw, mg_up, if_neg (by decide)]
      exact key
  · have hb : ∀ β : Jst, Inv (mg α β) → (¬ β 46 0 = 0) ∨ (β 46 0 = 0 ∧ ¬ nI ct = β 45 0) := by
      intro β hI
      rcases hst with ⟨e, e'⟩ | ⟨e, e'⟩
      · exact Or.inr ⟨e' β hI, fun q => hsame ⟨e, q.trans (n45 β hI)⟩⟩
      · exact Or.inl (by rw [e' β hI]; decide)
    have ha : (α 21 2 = 0) ∨ (¬ α 21 2 = 0 ∧ ¬ nI ct = α 21 1) := by
      rcases hst with ⟨e, -⟩ | ⟨e, -⟩
      · exact Or.inr ⟨by rw [e]; decide, fun q => hsame ⟨e, q⟩⟩
      · exact Or.inl e
    by_cases h6 : h = 6
    · have e6 : nI h = 6 := by rw [h6]; rfl
      obtain ⟨a, q1, q2, q3⟩ := hkey 0 1 h (Or.inr ⟨rfl, rfl⟩) hh
      refine ⟨a, q1, fun t K hk => ?_, fun β hI h51 => ?_⟩
      · have key := q2 t K (nI h) hk
        rw [e6] at key
        rcases ha with e | ⟨e, e'⟩
        · simp [w_As_receive_21, mg_at, mg_up, e, h2, e6]
          exact key
        · simp [w_As_receive_21, mg_at, mg_up, e, h1, e', h2, e6]
          exact key
      · obtain ⟨b, j1, j2, j3, j4⟩ := q3 β hI h51
        refine ⟨b, j1, j2, j3, fun t K hk => ?_⟩
        have key := j4 t K (nI ct) (nI h) 0 hk
        rw [e6] at key
        rw [e6]
        unfold w_M_comesDown
        rw [tn0]
        have fin : ∃ n, w_M_comesDown_L79 K n 0 (nI ct) 6 0 6 (jup (jup (jup (mg t β) 45 0 (nI ct + 1 - (nI ct + 1) / 16 * 16)) 47 0 0) 46 0 (vp_nar .boolean 1)) := by
          rw [hw, nar1, mg_up, if_neg (by decide), mg_up, if_neg (by decide), mg_up, if_neg (by decide)]
          exact key
        rcases hb β hI with e | ⟨e, e'⟩
        · exact ⟨vi0, fun _ => ⟨vi0, vi0, fun q => absurd rfl q, fun _ => ⟨vi0, fin⟩⟩, fun q => absurd q e⟩
        · exact ⟨vi0, fun q => absurd e q, fun _ => ⟨vi0, fun _ => ⟨vi0, vi0, fun q => absurd rfl q, fun _ => ⟨vi0, fin⟩⟩, fun q => absurd q e'⟩⟩
    · have e6 : ¬ nI h = 6 := fun q => h6 ((nI_eq (b := 6) (by omega) (by decide)).mp q)
      have e7 : ¬ (6 : Int32) ≤ nI h := fun q => absurd ((nI_leI (a := 6) (by decide) (by omega)).mp q) (by omega)
      obtain ⟨a, q1, q2, q3⟩ := hkey 1 0 h (Or.inl ⟨rfl, rfl⟩) hh
      refine ⟨a, q1, fun t K hk => ?_, fun β hI h51 => ?_⟩
      · have key := q2 t K (nI h) hk
        rcases ha with e | ⟨e, e'⟩
        · simp [w_As_receive_21, mg_at, mg_up, e, h2, e7]
          exact key
        · simp [w_As_receive_21, mg_at, mg_up, e, h1, e', h2, e7]
          exact key
      · obtain ⟨b, j1, j2, j3, j4⟩ := q3 β hI h51
        refine ⟨b, j1, j2, j3, fun t K hk => ?_⟩
        have key := j4 t K (nI ct) (nI h) 0 hk
        unfold w_M_comesDown
        rw [tn0]
        have fin : ∃ n, w_M_comesDown_L79 K n 0 (nI ct) (nI h) 0 (nI h) (jup (jup (jup (mg t β) 45 0 (nI ct + 1 - (nI ct + 1) / 16 * 16)) 47 0 0) 46 0 (vp_nar .boolean 0)) := by
          rw [hw, nar0, mg_up, if_neg (by decide), mg_up, if_neg (by decide), mg_up, if_neg (by decide)]
          exact key
        rcases hb β hI with e | ⟨e, e'⟩
        · exact ⟨vi0, fun _ => ⟨vi0, vi0, fun _ => ⟨vi0, fin⟩, fun q => absurd q e6⟩, fun q => absurd q e⟩
        · exact ⟨vi0, fun q => absurd e q, fun _ => ⟨vi0, fun _ => ⟨vi0, vi0, fun _ => ⟨vi0, fin⟩, fun q => absurd q e6⟩, fun q => absurd q e'⟩⟩
theorem rdl_1 (X : Nat → Nat) (hX : ∀ j, j < 6 → X j ≤ 1000) : ∀ (d v : Nat) (α : Jst), v + d = 6 → (∀ j, j < 6 → α 27 j = nI (X j)) → (∃ (β : Jst) (w : Int32), Inv (mg (jup α 25 1 w) β)) → ∃ a : Jst, a 26 = α 26 ∧ (∀ (t : Jst) (K : Jst → Prop) (w3 : Int32), w_As_receive_25_L48 K 1 w3 (nI 6) (mg a t) → w_As_receive_25_L48 K (d + 1) w3 (nI v) (mg α t)) ∧ ∀ (β : Jst) (w : Int32), Inv (mg (jup α 25 1 w) β) → (∀ j, j < 6 → β 51 j = nI (X j) ∨ β 51 j = (-1 : Int32) - nI (X j)) → ∃ b : Jst, Inv (mg (jup a 25 1 w) b) ∧ b 33 0 = β 33 0 ∧ b 53 = β 53 ∧ (∀ (t : Jst) (K : Jst → Prop) (v2 v3 v4 : Int32), K (mg t b) → w_M_comesDown_L79 K (d + 1) 1 v2 v3 v4 (nI v) (mg t β)) := by
  intro d
  induction d with
  | zero =>
    intro v α hv _ _
    have e : v = 6 := by omega
    subst e
    refine ⟨α, rfl, fun t K w3 h => h, fun β w hI _ => ⟨β, hI, rfl, rfl, fun t K v2 v3 v4 h => ?_⟩⟩
    rw [w_M_comesDown_L79]
    exact ⟨fun _ => h, fun q => absurd (show (6 : Int32) ≤ nI 6 by decide) q⟩
  | succ d ih =>
    intro v α hv h27 hex
    have ne : ¬ (6 : Int32) ≤ nI v := fun q => absurd ((nI_leI (a := 6) (by decide) (by omega)).mp q) (by omega)
    have hin : vp_in (nI v) 6 := vp_in_nI (by omega) (by omega)
    have hc : (nI v).toNatClampNeg = v := nI_clamp (by omega)
    obtain ⟨a1, p1, p2, p3, p4⟩ := rd_1 (x := X v) (hX v (by omega)) hex
    have hex1 : ∃ (β : Jst) (w : Int32), Inv (mg (jup a1 25 1 w) β) := by
      obtain ⟨β, w, hI⟩ := hex
      obtain ⟨b, i1, -⟩ := p4 β w hI
      exact ⟨b, w, i1⟩
    obtain ⟨a, q1, q2, q3⟩ := ih (v + 1) a1 (by omega) (by rw [p1]; exact h27) hex1
    refine ⟨a, q1.trans p2, fun t K w3 h => ?_, fun β w hI h51 => ?_⟩
    · rw [w_As_receive_25_L48]
      refine ⟨fun q => absurd q ne, fun _ => ⟨hin, ?_⟩⟩
      rw [hc, nI_1]
      show w_As_read_25 (α 27 v) (mg α t) _
      rw [h27 v (by omega)]
      exact p3 t _ (q2 t K w3 h)
    · obtain ⟨b1, i1, i2, i3, i4, i5⟩ := p4 β w hI
      obtain ⟨b, j1, j2, j3, j4⟩ := q3 b1 w i1 (by rw [i4]; exact h51)
      refine ⟨b, j1, j2.trans i2, j3.trans i3, fun t K v2 v3 v4 h => ?_⟩
      rw [w_M_comesDown_L79]
      refine ⟨fun q => absurd q ne, fun _ => ⟨hin, ?_⟩⟩
      rw [hc, nI_1]
      have key : w_M_readCell 1 (nI (X v)) (mg t β) (fun u1 => w_M_comesDown_L79 K (d + 1) 1 v2 v3 v4 (nI (v + 1)) u1) := i5 t _ (j4 t K v2 v3 v4 h)
      have e51 : (mg t β) 51 v = β 51 v := rfl
      rw [e51]
      rcases h51 v (by omega) with e | e
      · rw [e]
        exact ⟨fun _ => ⟨hin, key⟩, fun q => absurd (pos3 (hX v (by omega))) q⟩
      · rw [e]
        refine ⟨fun q => absurd q (neg3 (hX v (by omega))), fun _ => ⟨hin, ?_⟩⟩
        rw [neg2]
        exact key
theorem rcv_1 (α : Jst) (X : Nat → Nat) (hX : ∀ j, j < 6 → X j ≤ 1000) (h27 : ∀ j, j < 6 → α 27 j = nI (X j)) (ct h : Nat) (hct : ct < 16) (hh : h ≤ 6) (h1 : α 26 1 = nI ct) (h2 : α 26 2 = nI h) (hex : ∃ β : Jst, Inv (mg α β)) : ∃ a : Jst, a 26 = α 26 ∧ (∀ (t : Jst) (K : Jst → Prop), K (mg a t) → w_As_receive_25 (mg α t) K) ∧ ∀ β : Jst, Inv (mg α β) → (∀ j, j < 6 → β 51 j = nI (X j) ∨ β 51 j = (-1 : Int32) - nI (X j)) → ∃ b : Jst, Inv (mg a b) ∧ b 33 0 = β 33 0 ∧ b 53 = β 53 ∧ (∀ (t : Jst) (K : Jst → Prop), K (mg t b) → w_M_comesDown 1 (nI ct) (nI h) (mg t β) K) := by
  have hw : nI ct + 1 - (nI ct + 1) / 16 * 16 = nI ((ct + 1) % 16) := by rw [nI_1]; exact pk_rem (d := 16) (by omega) (by decide) (by decide)
  have hw1 : (ct + 1) % 16 < 16 := Nat.mod_lt _ (by decide)
  generalize (ct + 1) % 16 = W at hw hw1
  have hlast : ∀ (a : Jst), a 26 = α 26 → ∀ (t : Jst) (K : Jst → Prop) (w3 : Int32), K (mg (jup a 25 1 (nI W)) t) → w_As_receive_25_L48 K 1 w3 (nI 6) (mg a t) := by
    intro a ha t K w3 hk
    rw [w_As_receive_25_L48]
    refine ⟨fun _ => ?_, fun q => absurd (show (6 : Int32) ≤ nI 6 by decide) q⟩
    unfold w_T_following
    show K (jup (mg a t) 25 1 (a 26 1 + 1 - (a 26 1 + 1) / 16 * 16))
    rw [ha, h1, hw, mg_up, if_pos (by decide)]
    exact hk
  have hA : ∀ β : Jst, Inv (mg α β) → iAs (α 25 0) (α 25 1) (α 25 2) (α 25 3) (α 25 4) (α 25 5) (α 25 6) (β 45 1) (β 46 1) (β 47 1) (β 48 1) (β 49 1) (β 50 1) 1 := fun β hI => hI.2.2.2.2.2.2.2.1
  have hkey : ∀ (st ls : Int32) (v : Nat), ((st = 1 ∧ ls = 0) ∨ (st = 0 ∧ ls = 1)) → v ≤ 6 → ∃ a : Jst, a 26 = α 26 ∧ (∀ (t : Jst) (K : Jst → Prop) (w3 : Int32), K (mg a t) → ∃ n, w_As_receive_25_L48 K n w3 (nI v) (mg (jup (jup α 25 3 0) 25 2 st) t)) ∧ ∀ β : Jst, Inv (mg α β) → (∀ j, j < 6 → β 51 j = nI (X j) ∨ β 51 j = (-1 : Int32) - nI (X j)) → ∃ b : Jst, Inv (mg a b) ∧ b 33 0 = β 33 0 ∧ b 53 = β 53 ∧ (∀ (t : Jst) (K : Jst → Prop) (v2 v3 v4 : Int32), K (mg t b) → ∃ n, w_M_comesDown_L79 K n 1 v2 v3 v4 (nI v) (mg t (jup (jup (jup β 45 1 (nI W)) 47 1 0) 46 1 ls))) := by
    intro st ls v hst hv
    have hset : ∀ β : Jst, Inv (mg α β) → Inv (mg (jup (jup (jup α 25 3 0) 25 2 st) 25 1 (nI W)) (jup (jup (jup β 45 1 (nI W)) 47 1 0) 46 1 ls)) := by
      intro β hI
      obtain ⟨v0, v1, v2, v3, v4, v5, v6, v7, n, m, k1, k2, k3, k4⟩ := hA β hI
      obtain ⟨hG, hU, hR, hC, hS0, hS1, hA0, hA1, hP⟩ := hI
      have hN : iAs (α 25 0) (nI W) st 0 (α 25 4) (α 25 5) (α 25 6) (nI W) ls 0 (β 48 1) (β 49 1) (β 50 1) 1 := ⟨v0, rfl, rfl, v3, v4, v5, hst, ⟨W, hw1, rfl⟩, 0, m, k1, k2, rfl, Or.inl (by decide)⟩
      exact ⟨hG, hU, hR, hC, hS0, hS1, hA0, hN, hP⟩
    have hex1 : ∃ (β : Jst) (w : Int32), Inv (mg (jup (jup (jup α 25 3 0) 25 2 st) 25 1 w) β) := by
      obtain ⟨β, hI⟩ := hex
      exact ⟨_, _, hset β hI⟩
    obtain ⟨a, q1, q2, q3⟩ := rdl_1 X hX (6 - v) v (jup (jup α 25 3 0) 25 2 st) (by omega) h27 hex1
    refine ⟨jup a 25 1 (nI W), q1, fun t K w3 hk => ⟨_, q2 t K w3 (hlast a q1 t K w3 hk)⟩, fun β hI h51 => ?_⟩
    obtain ⟨b, j1, j2, j3, j4⟩ := q3 _ _ (hset β hI) h51
    exact ⟨b, j1, j2, j3, fun t K v2 v3 v4 hk => ⟨_, j4 t K v2 v3 v4 hk⟩⟩
  have hkeep : ∃ a : Jst, a 26 = α 26 ∧ (∀ (t : Jst) (K : Jst → Prop) (w3 : Int32), K (mg a t) → ∃ n, w_As_receive_25_L48 K n w3 0 (mg α t)) ∧ ∀ β : Jst, Inv (mg α β) → (∀ j, j < 6 → β 51 j = nI (X j) ∨ β 51 j = (-1 : Int32) - nI (X j)) → ∃ b : Jst, Inv (mg a b) ∧ b 33 0 = β 33 0 ∧ b 53 = β 53 ∧ (∀ (t : Jst) (K : Jst → Prop) (v2 v3 v4 : Int32), K (mg t b) → ∃ n, w_M_comesDown_L79 K n 1 v2 v3 v4 0 (mg t (jup β 45 1 (nI W)))) := by
    have hset : ∀ β : Jst, Inv (mg α β) → Inv (mg (jup α 25 1 (nI W)) (jup β 45 1 (nI W))) := by
      intro β hI
      obtain ⟨v0, v1, v2, v3, v4, v5, v6, v7, n, m, k1, k2, k3, k4⟩ := hA β hI
      obtain ⟨hG, hU, hR, hC, hS0, hS1, hA0, hA1, hP⟩ := hI
      have hN : iAs (α 25 0) (nI W) (α 25 2) (α 25 3) (α 25 4) (α 25 5) (α 25 6) (nI W) (β 46 1) (β 47 1) (β 48 1) (β 49 1) (β 50 1) 1 := ⟨v0, rfl, v2, v3, v4, v5, v6, ⟨W, hw1, rfl⟩, n, m, k1, k2, k3, k4⟩
      exact ⟨hG, hU, hR, hC, hS0, hS1, hA0, hN, hP⟩
    have hex1 : ∃ (β : Jst) (w : Int32), Inv (mg (jup α 25 1 w) β) := by
      obtain ⟨β, hI⟩ := hex
      exact ⟨_, _, hset β hI⟩
    obtain ⟨a, q1, q2, q3⟩ := rdl_1 X hX 6 0 α (by omega) h27 hex1
    refine ⟨jup a 25 1 (nI W), q1, fun t K w3 hk => ⟨_, q2 t K w3 (hlast a q1 t K w3 hk)⟩, fun β hI h51 => ?_⟩
    obtain ⟨b, j1, j2, j3, j4⟩ := q3 _ _ (hset β hI) h51
    exact ⟨b, j1, j2, j3, fun t K v2 v3 v4 hk => ⟨_, j4 t K v2 v3 v4 hk⟩⟩
  have hst : (α 25 2 = 1 ∧ ∀ β : Jst, Inv (mg α β) → β 46 1 = 0) ∨ (α 25 2 = 0 ∧ ∀ β : Jst, Inv (mg α β) → β 46 1 = 1) := by
    obtain ⟨β, hI⟩ := hex
    obtain ⟨-, -, -, -, -, -, v6, -⟩ := hA β hI
    rcases v6 with ⟨e1, -⟩ | ⟨e1, -⟩
    · refine Or.inl ⟨e1, fun β' hI' => ?_⟩
      obtain ⟨-, -, -, -, -, -, v6, -⟩ := hA β' hI'
      rcases v6 with ⟨-, e2⟩ | ⟨e2, -⟩
      · exact e2
      · exact absurd (e1.symm.trans e2) (by decide)
    · refine Or.inr ⟨e1, fun β' hI' => ?_⟩
      obtain ⟨-, -, -, -, -, -, v6, -⟩ := hA β' hI'
      rcases v6 with ⟨e2, -⟩ | ⟨-, e2⟩
      · exact absurd (e1.symm.trans e2) (by decide)
      · exact e2
  have n45 : ∀ β : Jst, Inv (mg α β) → β 45 1 = α 25 1 := fun β hI => (hA β hI).2.1
  have nar1 : vp_nar .boolean (1 : Int32) = 1 := rfl
  by_cases hsame : α 25 2 = 1 ∧ nI ct = α 25 1
  · obtain ⟨s1, s2⟩ := hsame
    obtain ⟨a, q1, q2, q3⟩ := hkeep
    refine ⟨a, q1, fun t K hk => ?_, fun β hI h51 => ?_⟩
    · have key := q2 t K 0 hk
      simp [w_As_receive_25, mg_at, s1, h1, s2]
      exact key
    · obtain ⟨b, j1, j2, j3, j4⟩ := q3 β hI h51
      refine ⟨b, j1, j2, j3, fun t K hk => ?_⟩
      have key := j4 t K (nI ct) (nI h) 1 hk
      have e46 : β 46 1 = 0 := by
        rcases hst with ⟨-, e⟩ | ⟨e, -⟩
        · exact e β hI
        · exact absurd (s1.symm.trans e) (by decide)
      have e45 : nI ct = β 45 1 := by rw [n45 β hI]; exact s2
      have hw' := hw
      unfold w_M_comesDown
      rw [tn1]
      refine ⟨vi1, fun q => absurd e46 q, fun _ => ⟨vi1, fun q => absurd e45 q, fun _ => ⟨vi1, ?_⟩⟩⟩
      rw [hw, mg_up, if_neg (by decide)]
      exact key
  · have hb : ∀ β : Jst, Inv (mg α β) → (¬ β 46 1 = 0) ∨ (β 46 1 = 0 ∧ ¬ nI ct = β 45 1) := by
      intro β hI
      rcases hst with ⟨e, e'⟩ | ⟨e, e'⟩
      · exact Or.inr ⟨e' β hI, fun q => hsame ⟨e, q.trans (n45 β hI)⟩⟩
      · exact Or.inl (by rw [e' β hI]; decide)
    have ha : (α 25 2 = 0) ∨ (¬ α 25 2 = 0 ∧ ¬ nI ct = α 25 1) := by
      rcases hst with ⟨e, -⟩ | ⟨e, -⟩
      · exact Or.inr ⟨by rw [e]; decide, fun q => hsame ⟨e, q⟩⟩
      · exact Or.inl e
    by_cases h6 : h = 6
    · have e6 : nI h = 6 := by rw [h6]; rfl
      obtain ⟨a, q1, q2, q3⟩ := hkey 0 1 h (Or.inr ⟨rfl, rfl⟩) hh
      refine ⟨a, q1, fun t K hk => ?_, fun β hI h51 => ?_⟩
      · have key := q2 t K (nI h) hk
        rw [e6] at key
        rcases ha with e | ⟨e, e'⟩
        · simp [w_As_receive_25, mg_at, mg_up, e, h2, e6]
          exact key
        · simp [w_As_receive_25, mg_at, mg_up, e, h1, e', h2, e6]
          exact key
      · obtain ⟨b, j1, j2, j3, j4⟩ := q3 β hI h51
        refine ⟨b, j1, j2, j3, fun t K hk => ?_⟩
        have key := j4 t K (nI ct) (nI h) 0 hk
        rw [e6] at key
        rw [e6]
        unfold w_M_comesDown
        rw [tn1]
        have fin : ∃ n, w_M_comesDown_L79 K n 1 (nI ct) 6 0 6 (jup (jup (jup (mg t β) 45 1 (nI ct + 1 - (nI ct + 1) / 16 * 16)) 47 1 0) 46 1 (vp_nar .boolean 1)) := by
          rw [hw, nar1, mg_up, if_neg (by decide), mg_up, if_neg (by decide), mg_up, if_neg (by decide)]
          exact key
        rcases hb β hI with e | ⟨e, e'⟩
        · exact ⟨vi1, fun _ => ⟨vi1, vi1, fun q => absurd rfl q, fun _ => ⟨vi1, fin⟩⟩, fun q => absurd q e⟩
        · exact ⟨vi1, fun q => absurd e q, fun _ => ⟨vi1, fun _ => ⟨vi1, vi1, fun q => absurd rfl q, fun _ => ⟨vi1, fin⟩⟩, fun q => absurd q e'⟩⟩
    · have e6 : ¬ nI h = 6 := fun q => h6 ((nI_eq (b := 6) (by omega) (by decide)).mp q)
      have e7 : ¬ (6 : Int32) ≤ nI h := fun q => absurd ((nI_leI (a := 6) (by decide) (by omega)).mp q) (by omega)
      obtain ⟨a, q1, q2, q3⟩ := hkey 1 0 h (Or.inl ⟨rfl, rfl⟩) hh
      refine ⟨a, q1, fun t K hk => ?_, fun β hI h51 => ?_⟩
      · have key := q2 t K (nI h) hk
        rcases ha with e | ⟨e, e'⟩
        · simp [w_As_receive_25, mg_at, mg_up, e, h2, e7]
          exact key
        · simp [w_As_receive_25, mg_at, mg_up, e, h1, e', h2, e7]
          exact key
      · obtain ⟨b, j1, j2, j3, j4⟩ := q3 β hI h51
        refine ⟨b, j1, j2, j3, fun t K hk => ?_⟩
        have key := j4 t K (nI ct) (nI h) 0 hk
        unfold w_M_comesDown
        rw [tn1]
        have fin : ∃ n, w_M_comesDown_L79 K n 1 (nI ct) (nI h) 0 (nI h) (jup (jup (jup (mg t β) 45 1 (nI ct + 1 - (nI ct + 1) / 16 * 16)) 47 1 0) 46 1 (vp_nar .boolean 0)) := by
          rw [hw, nar0, mg_up, if_neg (by decide), mg_up, if_neg (by decide), mg_up, if_neg (by decide)]
          exact key
        rcases hb β hI with e | ⟨e, e'⟩
        · exact ⟨vi1, fun _ => ⟨vi1, vi1, fun _ => ⟨vi1, fin⟩, fun q => absurd q e6⟩, fun q => absurd q e⟩
        · exact ⟨vi1, fun q => absurd e q, fun _ => ⟨vi1, fun _ => ⟨vi1, vi1, fun _ => ⟨vi1, fin⟩, fun q => absurd q e6⟩, fun q => absurd q e'⟩⟩
