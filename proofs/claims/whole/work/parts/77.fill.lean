/-! a channel's frame -/
def rfr (c v2 : Int32) (u : Jst) (K : Int32 → Jst → Prop) : Prop := (vp_in c 2 ∧ (((6 : Int32) ≤ (u 42 (Int32.toNatClampNeg c)) → (∃ n, w_M_frame_L89 K n c v2 (6 : Int32) (5 : Int32) u)) ∧ (¬ (6 : Int32) ≤ (u 42 (Int32.toNatClampNeg c)) → (vp_in c 2 ∧ (((5 : Int32) ≤ (u 42 (Int32.toNatClampNeg c)) → w_M_puts c (-1 : Int32) u (fun u5 => w_M_puts c (0 : Int32) u5 (fun u6 => (∃ n, w_M_frame_L65 K n c v2 (0 : Int32) (0 : Int32) u6)))) ∧ (¬ (5 : Int32) ≤ (u 42 (Int32.toNatClampNeg c)) → (vp_in c 2 ∧ w_M_puts c (-1 : Int32) u (fun u7 => w_M_puts c ((4 : Int32) - (u 42 (Int32.toNatClampNeg c))) u7 (fun u8 => (∃ n, w_M_frame_L65 K n c v2 ((4 : Int32) - (u 42 (Int32.toNatClampNeg c))) (0 : Int32) u8))))))))))
theorem st_rm_mg_0 {a t : Jst} {K : Jst → Prop} {m : Nat} (h6 : 6 ≤ m) (hm : m ≤ 60) (hs : a 18 2 = nI m) (hb : ∀ i, i < m → a 20 i = 0 ∨ a 20 i = 1) (hk : K (mg (jup (jset (jset a 19 (shk (a 19) 0 6 m)) 20 (shk (a 20) 0 6 m)) 18 2 (nI (m - 6))) t)) : w_St_removeFrame_18 (mg a t) K := by
  have last : w_St_removeFrame_18_L3 K 1 (nI m) (jset (jset (mg a t) 19 (shk ((mg a t) 19) 0 6 m)) 20 (shk ((mg a t) 20) 0 6 m)) := by
    rw [w_St_removeFrame_18_L3]
    refine ⟨fun _ => ?_, fun h => absurd ?_ h⟩
    · show K (jup (jset (jset (mg a t) 19 (shk (a 19) 0 6 m)) 20 (shk (a 20) 0 6 m)) 18 2 (a 18 2 - 6))
      rw [hs, show nI m - 6 = nI (m - 6) from pk_sub (b := 6) h6, mg_js, if_pos (by decide), mg_js, if_pos (by decide), mg_up, if_pos (by decide)]
      exact hk
    · show a 18 2 ≤ _
      rw [hs]
      exact Int32.le_refl _
  have key := st_rm_L K (mg a t) m hm hs hb last (m - 6) (0 + 6) (by omega) (by omega)
  rw [shk_0, shk_0, js_self, js_self] at key
  exact ⟨_, key⟩
theorem fl_L_0 {t : Jst} {K : Jst → Prop} : ∀ (d : Nat) (s : Jst), d ≤ 6 → w_St_fill_18_L29 K 1 (nI 0 + (-1)) (mg (jup (jset s 27 (cpy (s 27) (s 19) d)) 26 2 (hp (s 20) d (s 26 2))) t) → w_St_fill_18_L29 K (d + 1) (nI d + (-1)) (mg s t) := by
  intro d
  induction d with
  | zero =>
    intro s _ h
    rw [cpy_0, hp, js_self, ju_self] at h
    exact h
  | succ d ih =>
    intro s hd h
    have c1 : (nI d).toNatClampNeg = d := nI_clamp (by omega)
    rw [hp] at h
    rw [pk_m1, w_St_fill_18_L29, c1]
    refine ⟨fun q => absurd ((nI_ltI (b := 0) (by omega) (by decide)).mp q) (by omega), fun _ => ⟨vp_in_nI (by omega) (by omega), vp_in_nI (by omega) (by omega), vp_in_nI (by omega) (by omega), fun q => ?_, fun q => ?_⟩⟩
    · have q' : s 20 d = 0 := q
      rw [if_pos q'] at h
      rw [mg_up, if_pos (by decide)]
      refine ih _ (by omega) ?_
      show w_St_fill_18_L29 K 1 (nI 0 + (-1)) (mg (jup (jset (jup s 27 d (s 19 d)) 27 (cpy (upd (s 27) d (s 19 d)) (s 19) d)) 26 2 (hp (s 20) d (s 26 2))) t)
      rw [cpy_s, js_ju]
      exact h
    · have q' : ¬ s 20 d = 0 := q
      rw [if_neg q'] at h
      rw [mg_up, if_pos (by decide), mg_up, if_pos (by decide)]
      refine ih _ (by omega) ?_
      show w_St_fill_18_L29 K 1 (nI 0 + (-1)) (mg (jup (jset (jup (jup s 27 d (s 19 d)) 26 2 (nI d)) 27 (cpy (upd (s 27) d (s 19 d)) (s 19) d)) 26 2 (hp (s 20) d (nI d))) t)
      rw [cpy_s, ← ju_jsn _ _ _ _ (show (26 : Nat) ≠ 27 by decide), js_ju, ju_ju]
      exact h
theorem fr_L_0 {t : Jst} {K : Int32 → Jst → Prop} {v2 : Int32} {f : Nat} {Tg : Nat → Int32} (f1 : f < 64) : ∀ (d : Nat) (s : Jst) (v3 : Int32), d ≤ 6 → s 41 0 = nI f → (∀ j, j < 6 → ((0 : Int32) ≤ s 43 ((f + j) % 64) ↔ Tg j = 0)) → w_M_frame_L89 K 1 0 v2 (hp Tg d v3) (nI 0 + (-1)) (mg t (jset s 51 (cpy (s 51) (fun j => s 43 ((f + j) % 64)) d))) → w_M_frame_L89 K (d + 1) 0 v2 v3 (nI d + (-1)) (mg t s) := by
  intro d
  induction d with
  | zero =>
    intro s v3 _ _ _ h
    rw [cpy_0, hp, js_self] at h
    exact h
  | succ d ih =>
    intro s v3 hd h41 hT h
    have c1 : (nI d).toNatClampNeg = d := nI_clamp (by omega)
    have c2 : (nI ((f + d) % 64)).toNatClampNeg = ((f + d) % 64) := nI_clamp (by omega)
    have z1 : (64 : Int32) * 0 + (nI f + nI d - (nI f + nI d) / 64 * 64) = nI ((f + d) % 64) := by rw [nI_add, show nI (f + d) - nI (f + d) / 64 * 64 = nI ((f + d) % 64) from pk_rem (d := 64) (by omega) (by decide) (by decide), show (64 : Int32) * 0 = 0 from by decide, Int32.zero_add]
    have e41 : (mg t s) 41 0 = nI f := h41
    rw [hp] at h
    rw [pk_m1, w_M_frame_L89, tn0, e41, z1, c1, c2, pk_us]
    refine ⟨fun q => absurd ((nI_ltI (b := 0) (by omega) (by decide)).mp q) (by omega), fun _ => ⟨vi0, vp_in_nI (by omega) (by omega), vp_in_nI (by omega) (by omega), vp_in_nI (by omega) (by omega), fun q => ?_, fun q => ?_⟩⟩
    · rw [if_pos ((hT d (by omega)).mp q)] at h
      rw [mg_up, if_neg (by decide)]
      refine ih _ _ (by omega) h41 hT ?_
      show w_M_frame_L89 K 1 0 v2 (hp Tg d v3) (nI 0 + (-1)) (mg t (jset (jup s 51 d (s 43 ((f + d) % 64))) 51 (cpy (upd (s 51) d (s 43 ((f + d) % 64))) (fun j => s 43 ((f + j) % 64)) d)))
      rw [show cpy (upd (s 51) d (s 43 ((f + d) % 64))) (fun j => s 43 ((f + j) % 64)) d = cpy (s 51) (fun j => s 43 ((f + j) % 64)) (d + 1) from cpy_s _ _ _, js_ju]
      exact h
    · rw [if_neg (fun e => q ((hT d (by omega)).mpr e))] at h
      rw [mg_up, if_neg (by decide)]
      refine ih _ _ (by omega) h41 hT ?_
      show w_M_frame_L89 K 1 0 v2 (hp Tg d (nI d)) (nI 0 + (-1)) (mg t (jset (jup s 51 d (s 43 ((f + d) % 64))) 51 (cpy (upd (s 51) d (s 43 ((f + d) % 64))) (fun j => s 43 ((f + j) % 64)) d)))
      rw [show cpy (upd (s 51) d (s 43 ((f + d) % 64))) (fun j => s 43 ((f + j) % 64)) d = cpy (s 51) (fun j => s 43 ((f + j) % 64)) (d + 1) from cpy_s _ _ _, js_ju]
      exact h
theorem fil_0 {α : Jst} {n ct : Nat} (hs : α 18 2 = nI n) (n6 : 6 ≤ n) (n60 : n ≤ 60) (hct : α 18 3 = nI ct) (c16 : ct < 16) (hex : ∃ β : Jst, Inv (mg α β)) : ∃ (a : Jst) (X : Nat → Nat) (h : Nat), h ≤ 6 ∧ (∀ j, j < 6 → X j ≤ 1000) ∧ (∀ j, j < 6 → a 27 j = nI (X j)) ∧ a 26 1 = nI ct ∧ a 26 2 = nI h ∧ (∀ (t : Jst) (K : Jst → Prop), K (mg a t) → ∃ n, w_St_fill_18_L29 K n 5 (jup (jup (mg α t) 26 1 ((mg α t) 18 3)) 26 2 6)) ∧ ∀ β : Jst, Inv (mg α β) → ∃ b : Jst, Inv (mg a b) ∧ b 33 0 = β 33 0 ∧ b 53 = β 53 ∧ (∀ j, j < 6 → b 51 j = nI (X j) ∨ b 51 j = (-1 : Int32) - nI (X j)) ∧ (∀ (t : Jst) (K : Int32 → Jst → Prop) (v2 : Int32), ((¬ v2 = 0 → K (nI h) (mg t b)) ∧ (v2 = 0 → w_M_comesDown 0 (nI ct) (nI h) (mg t b) (fun u => K (nI h) u))) → ∃ n, w_M_frame_L89 K n 0 v2 6 5 (mg t β)) := by
  have hS : ∀ β : Jst, Inv (mg α β) → iSt (α 18 2) (α 18 3) (β 41 0) (β 42 0) (β 44 0) (α 19) (α 20) (β 43) 0 := fun β hI => hI.2.2.2.2.1
  have hcell : ∀ j, j < n → (α 20 j = 0 ∨ α 20 j = 1) ∧ (α 19 j).toNatClampNeg ≤ 1000 ∧ α 19 j = nI (α 19 j).toNatClampNeg := by
    obtain ⟨β, hI⟩ := hex
    obtain ⟨n', f', s1, s2, s3, s4, s5, s6, s7, s8⟩ := hS β hI
    have en : n' = n := (nI_eq (by omega) (by omega)).mp (s3.symm.trans hs)
    intro j hj
    obtain ⟨t1, x, x1, x2, -⟩ := s8 j (by omega)
    have e : (α 19 j).toNatClampNeg = x := by rw [x2]; exact nI_clamp (by omega)
    exact ⟨t1, by omega, by rw [e]; exact x2⟩
  obtain ⟨h, hh, eh⟩ := hp_le (α 20) 6 6 (by omega) ⟨6, by omega, rfl⟩
  have hw : nI ct + 1 - (nI ct + 1) / 16 * 16 = nI ((ct + 1) % 16) := by rw [nI_1]; exact pk_rem (d := 16) (by omega) (by decide) (by decide)
  have e5 : (5 : Int32) = nI 6 + (-1) := by decide
  refine ⟨jup (jset (jset (jup (jup (jset (jup (jup α 26 1 (nI ct)) 26 2 6) 27 (cpy (α 27) (α 19) 6)) 26 2 (nI h)) 18 3 (nI ((ct + 1) % 16))) 19 (shk (α 19) 0 6 n)) 20 (shk (α 20) 0 6 n)) 18 2 (nI (n - 6)), fun j => (α 19 j).toNatClampNeg, h, hh, fun j hj => (hcell j (by omega)).2.1, ?_, rfl, rfl, ?_, ?_⟩
  · intro j hj
    show (if j < 6 then α 19 j else α 27 j) = _
    rw [if_pos hj]
    exact (hcell j (by omega)).2.2
  · intro t K hk
    show ∃ n, w_St_fill_18_L29 K n 5 (jup (jup (mg α t) 26 1 (α 18 3)) 26 2 6)
    rw [hct, mg_up, if_pos (by decide), mg_up, if_pos (by decide)]
    refine ⟨6 + 1, ?_⟩
    rw [e5]
    refine fl_L_0 6 _ (by omega) ?_
    show w_St_fill_18_L29 K 1 (nI 0 + (-1)) (mg (jup (jset (jup (jup α 26 1 (nI ct)) 26 2 6) 27 (cpy (α 27) (α 19) 6)) 26 2 (hp (α 20) 6 6)) t)
    rw [eh, w_St_fill_18_L29]
    refine ⟨fun _ => ?_, fun q => absurd (by decide) q⟩
    unfold w_T_following
    show w_St_removeFrame_18 (jup (mg (jup (jset (jup (jup α 26 1 (nI ct)) 26 2 6) 27 (cpy (α 27) (α 19) 6)) 26 2 (nI h)) t) 18 3 (α 18 3 + 1 - (α 18 3 + 1) / 16 * 16)) _
    rw [hct, hw, mg_up, if_pos (by decide)]
    exact st_rm_mg_0 n6 n60 hs (fun i hi => (hcell i hi).1) hk
  · intro β hI
    obtain ⟨n', f, s1, f1, s3, s4, hf, s6, s7, s8⟩ := hS β hI
    have en : n = n' := ((nI_eq (by omega) (by omega)).mp (s3.symm.trans hs)).symm
    subst en
    have i0 : ∀ j, 64 * 0 + (f + j) % 64 = ((f + j) % 64) := fun j => by omega
    have hv : ∀ j, j < 6 → (α 20 j = 0 ∧ β 43 ((f + j) % 64) = nI (α 19 j).toNatClampNeg) ∨ (¬ α 20 j = 0 ∧ β 43 ((f + j) % 64) = (-1 : Int32) - nI (α 19 j).toNatClampNeg) := by
      intro j hj
      obtain ⟨t1, x, x1, x2, x3⟩ := s8 j (by omega)
      rw [i0 j] at x3
      have e : (α 19 j).toNatClampNeg = x := by rw [x2]; exact nI_clamp (by omega)
      rw [e]
      by_cases z : α 20 j = 0
      · rw [if_pos z] at x3; exact Or.inl ⟨z, x3⟩
      · rw [if_neg z] at x3; exact Or.inr ⟨z, x3⟩
    have hT : ∀ j, j < 6 → ((0 : Int32) ≤ β 43 ((f + j) % 64) ↔ α 20 j = 0) := by
      intro j hj
      have hle := (hcell j (by omega)).2.1
      rcases hv j hj with ⟨z, e⟩ | ⟨z, e⟩
      · rw [e]; exact ⟨fun _ => z, fun _ => pos3 hle⟩
      · rw [e]; exact ⟨fun q => absurd q (neg3 hle), fun q => absurd q z⟩
    have h44 : β 44 0 = nI ct := s6.trans hct
    have z64 : nI f + 6 - (nI f + 6) / 64 * 64 = nI ((f + 6) % 64) := by rw [show nI f + 6 = nI (f + 6) from nI_add f 6]; exact pk_rem (d := 64) (by omega) (by decide) (by decide)
    obtain ⟨hG, hU, hR, hC, hS0, hS1, hA0, hA1, hP⟩ := id hI
    have hN : iSt (nI (n - 6)) (nI ((ct + 1) % 16)) (nI ((f + 6) % 64)) (nI (n - 6)) (nI ((ct + 1) % 16)) (shk (α 19) 0 6 n) (shk (α 20) 0 6 n) (β 43) 0 := ⟨n - 6, (f + 6) % 64, by omega, by omega, rfl, rfl, rfl, rfl, ⟨(ct + 1) % 16, Nat.mod_lt _ (by decide), rfl⟩, fun j hj => by
      have key := s8 (j + 6) (by omega)
      unfold shk
      simp only [if_pos (show 0 ≤ j ∧ j + 6 < n by omega)]
      rw [show 64 * 0 + ((f + 6) % 64 + j) % 64 = 64 * 0 + (f + (j + 6)) % 64 by omega]
      exact key⟩
    refine ⟨jup (jup (jup (jset β 51 (cpy (β 51) (fun j => β 43 ((f + j) % 64)) 6)) 41 0 (nI ((f + 6) % 64))) 42 0 (nI (n - 6))) 44 0 (nI ((ct + 1) % 16)), ⟨hG, hU, hR, hC, hN, hS1, hA0, hA1, hP⟩, rfl, rfl, ?_, ?_⟩
    · intro j hj
      show (if j < 6 then β 43 ((f + j) % 64) else β 51 j) = _ ∨ (if j < 6 then β 43 ((f + j) % 64) else β 51 j) = _
      rw [if_pos hj]
      rcases hv j hj with ⟨-, e⟩ | ⟨-, e⟩
      · exact Or.inl e
      · exact Or.inr e
    · intro t K v2 hk
      refine ⟨6 + 1, ?_⟩
      rw [e5]
      refine fr_L_0 (Tg := α 20) f1 6 β 6 (by omega) hf hT ?_
      rw [eh, w_M_frame_L89, tn0]
      refine ⟨fun _ => ⟨vi0, vi0, vi0, vi0, vi0, vi0, ?_⟩, fun q => absurd (by decide) q⟩
      have E : jup (jup (jup (mg t (jset β 51 (cpy (β 51) (fun j => β 43 ((f + j) % 64)) 6))) 41 0 (β 41 0 + 6 - (β 41 0 + 6) / 64 * 64)) 42 0 (β 42 0 - 6)) 44 0 (β 44 0 + 1 - (β 44 0 + 1) / 16 * 16) = mg t (jup (jup (jup (jset β 51 (cpy (β 51) (fun j => β 43 ((f + j) % 64)) 6)) 41 0 (nI ((f + 6) % 64))) 42 0 (nI (n - 6))) 44 0 (nI ((ct + 1) % 16))) := by
        rw [hf, z64, s4, show nI n - 6 = nI (n - 6) from pk_sub (b := 6) n6, h44, hw, mg_up, if_neg (by decide), mg_up, if_neg (by decide), mg_up, if_neg (by decide)]
      rw [← E] at hk
      refine ⟨fun q => hk.1 q, fun q => ?_⟩
      have key := hk.2 q
      rw [← h44] at key
      exact key
theorem idl_0 (L : Nat) (hL : L ≤ 4) : ∀ d i n : Nat, ∀ α : Jst, i + d = L → n + d ≤ 60 → α 18 2 = nI n → ∃ a : Jst, a 18 2 = nI (n + d) ∧ a 18 3 = α 18 3 ∧ (∀ (t : Jst) (K : Jst → Prop), K (mg a t) → w_St_writeIdle_18_L19 K (d + 1) (nI L) (nI i) (mg α t)) ∧ ∀ β : Jst, Inv (mg α β) → ∃ b : Jst, Inv (mg a b) ∧ b 33 0 = β 33 0 ∧ b 53 = β 53 ∧ (∀ (t : Jst) (K : Int32 → Jst → Prop) (v2 : Int32), (∃ n, w_M_frame_L89 K n 0 v2 6 5 (mg t b)) → w_M_frame_L65 K (d + 1) 0 v2 (nI L) (nI i) (mg t β)) := by
  intro d
  induction d with
  | zero =>
    intro i n α hi hn hs
    have e : i = L := by omega
    subst e
    refine ⟨α, hs, rfl, fun t K h => ?_, fun β hI => ⟨β, hI, rfl, rfl, fun t K v2 h => ?_⟩⟩
    · rw [w_St_writeIdle_18_L19]
      exact ⟨fun _ => h, fun q => absurd (Int32.le_refl _) q⟩
    · rw [w_M_frame_L65]
      exact ⟨fun _ => h, fun q => absurd (Int32.le_refl _) q⟩
  | succ d ih =>
    intro i n α hi hn hs
    have ne : ¬ nI L ≤ nI i := fun q => absurd ((nI_leI (by omega) (by omega)).mp q) (by omega)
    obtain ⟨a1, p1, p2, p3, p4⟩ := put_0 (x := 0) (tg := 0) hs (by omega) (by omega) (Or.inl rfl)
    obtain ⟨a, q0, q00, q1, q2⟩ := ih (i + 1) (n + 1) a1 (by omega) (by omega) p1
    refine ⟨a, by rw [q0]; congr 1; omega, q00.trans p2, fun t K h => ?_, fun β hI => ?_⟩
    · rw [w_St_writeIdle_18_L19]
      refine ⟨fun q => absurd q ne, fun _ => ?_⟩
      rw [nI_1]
      exact p3 t _ (q1 t K h)
    · obtain ⟨b1, i1, i2, i3, i4⟩ := p4 β hI
      obtain ⟨b, j1, j2, j3, j4⟩ := q2 b1 i1
      refine ⟨b, j1, j2.trans i2, j3.trans i3, fun t K v2 h => ?_⟩
      rw [w_M_frame_L65]
      refine ⟨fun q => absurd q ne, fun _ => ?_⟩
      rw [nI_1]
      exact i4 t _ (j4 t K v2 h)
theorem step_0 {σ : Jst} {n : Nat} (hs : σ 18 2 = nI n) (n60 : n ≤ 60) : ∃ (α : Jst) (m : Nat), 6 ≤ m ∧ m ≤ 60 ∧ α 18 2 = nI m ∧ α 18 3 = σ 18 3 ∧ (∀ (t : Jst) (K : Jst → Prop), (∃ n, w_St_fill_18_L29 K n 5 (jup (jup (mg α t) 26 1 ((mg α t) 18 3)) 26 2 6)) → w_St_fill_18 (mg σ t) K) ∧ ∀ β : Jst, Inv (mg σ β) → ∃ b : Jst, Inv (mg α b) ∧ b 33 0 = β 33 0 ∧ b 53 = β 53 ∧ (∀ (t : Jst) (K : Int32 → Jst → Prop) (v2 : Int32), (∃ n, w_M_frame_L89 K n 0 v2 6 5 (mg t b)) → rfr 0 v2 (mg t β) K) := by
  by_cases n6 : 6 ≤ n
  · have le : (6 : Int32) ≤ nI n := (nI_leI (a := 6) (by decide) (by omega)).mpr n6
    refine ⟨σ, n, n6, n60, hs, rfl, fun t K h => ?_, fun β hI => ⟨β, hI, rfl, rfl, fun t K v2 h => ?_⟩⟩
    · unfold w_St_fill_18
      exact ⟨fun _ => h, fun q => absurd (show (6 : Int32) ≤ σ 18 2 by rw [hs]; exact le) q⟩
    · obtain ⟨f, f1, f2, f3⟩ := stf_0 hI hs n60
      unfold rfr
      rw [tn0]
      exact ⟨vi0, fun _ => h, fun q => absurd (show (6 : Int32) ≤ β 42 0 by rw [f3]; exact le) q⟩
  · have le : ¬ (6 : Int32) ≤ nI n := fun q => n6 ((nI_leI (a := 6) (by decide) (by omega)).mp q)
    have hcl : (0 < 4 - nI n ∧ 4 - nI n = nI (4 - n)) ∨ (¬ 0 < 4 - nI n ∧ nI (4 - n) = 0) := by
      have : n = 0 ∨ n = 1 ∨ n = 2 ∨ n = 3 ∨ n = 4 ∨ n = 5 := by omega
      rcases this with rfl | rfl | rfl | rfl | rfl | rfl <;> first | exact Or.inl (by decide) | exact Or.inr (by decide)
    have hcm : ((5 : Int32) ≤ nI n ∧ nI (4 - n) = 0) ∨ (¬ (5 : Int32) ≤ nI n ∧ 4 - nI n = nI (4 - n)) := by
      have : n = 0 ∨ n = 1 ∨ n = 2 ∨ n = 3 ∨ n = 4 ∨ n = 5 := by omega
      rcases this with rfl | rfl | rfl | rfl | rfl | rfl <;> first | exact Or.inl (by decide) | exact Or.inr (by decide)
    obtain ⟨a1, x1, x0, x2, x3⟩ := put_0 (x := 0) (tg := 1) hs (by omega) (by omega) (Or.inr rfl)
    obtain ⟨a2, y1, y0, y2, y3⟩ := put_0 (x := 4 - n) (tg := 0) x1 (by omega) (by omega) (Or.inl rfl)
    obtain ⟨a3, z0, z00, z1, z2⟩ := idl_0 (4 - n) (by omega) (4 - n) 0 (n + 1 + 1) a2 (by omega) (by omega) y1
    refine ⟨a3, n + 1 + 1 + (4 - n), by omega, by omega, z0, z00.trans (y0.trans x0), fun t K h => ?_, fun β hI => ?_⟩
    · unfold w_St_fill_18
      refine ⟨fun q => absurd q (show ¬ (6 : Int32) ≤ σ 18 2 by rw [hs]; exact le), fun _ => ?_⟩
      unfold w_St_writeIdle_18 w_Ma_max w_St_writeHead_18
      have key := x2 t (fun u1 => w_St_put_18 (nI (4 - n)) 0 u1 (fun u2 => ∃ n1, w_St_writeIdle_18_L19 (fun u1 => ∃ n, w_St_fill_18_L29 K n 5 (jup (jup u1 26 1 (u1 18 3)) 26 2 6)) n1 (nI (4 - n)) 0 u2)) (y2 t _ ⟨_, z1 t _ h⟩)
      show (0 < 4 - σ 18 2 → _) ∧ (¬ 0 < 4 - σ 18 2 → _)
      rw [hs]
      rcases hcl with ⟨l1, l2⟩ | ⟨l1, l2⟩
      · refine ⟨fun _ => ?_, fun q => absurd l1 q⟩
        rw [← l2] at key
        show w_St_put_18 0 1 (mg σ t) (fun u1 => w_St_put_18 (4 - σ 18 2) 0 u1 (fun u2 => ∃ n1, w_St_writeIdle_18_L19 (fun u1 => ∃ n, w_St_fill_18_L29 K n 5 (jup (jup u1 26 1 (u1 18 3)) 26 2 6)) n1 (4 - σ 18 2) 0 u2))
        rw [hs]
        exact key
      · refine ⟨fun q => absurd q l1, fun _ => ?_⟩
        rw [l2] at key
        exact key
    · obtain ⟨f, f1, f2, f3⟩ := stf_0 hI hs n60
      obtain ⟨B1, b1, b2, b3, b4⟩ := x3 _ hI
      obtain ⟨B2, c1, c2, c3, c4⟩ := y3 _ b1
      obtain ⟨B3, d1, d2, d3, d4⟩ := z2 _ c1
      refine ⟨B3, d1, d2.trans (c2.trans b2), d3.trans (c3.trans b3), fun t K v2 h => ?_⟩
      unfold rfr
      rw [tn0]
      have e42 : (mg t β) 42 0 = nI n := f3
      rw [e42]
      refine ⟨vi0, fun q => absurd q le, fun _ => ⟨vi0, ?_⟩⟩
      have key : w_M_puts 0 (-1) (mg t β) (fun u5 => w_M_puts 0 (nI (4 - n)) u5 (fun u6 => ∃ n1, w_M_frame_L65 K n1 0 v2 (nI (4 - n)) 0 u6)) := b4 t _ (c4 t _ ⟨_, d4 t K v2 h⟩)
      rcases hcm with ⟨l1, l2⟩ | ⟨l1, l2⟩
      · rw [l2] at key
        exact ⟨fun _ => key, fun q => absurd l1 q⟩
      · rw [← l2] at key
        exact ⟨fun q => absurd q l1, fun _ => ⟨vi0, key⟩⟩
theorem st_rm_mg_1 {a t : Jst} {K : Jst → Prop} {m : Nat} (h6 : 6 ≤ m) (hm : m ≤ 60) (hs : a 22 2 = nI m) (hb : ∀ i, i < m → a 24 i = 0 ∨ a 24 i = 1) (hk : K (mg (jup (jset (jset a 23 (shk (a 23) 0 6 m)) 24 (shk (a 24) 0 6 m)) 22 2 (nI (m - 6))) t)) : w_St_removeFrame_22 (mg a t) K := by
  have last : w_St_removeFrame_22_L3 K 1 (nI m) (jset (jset (mg a t) 23 (shk ((mg a t) 23) 0 6 m)) 24 (shk ((mg a t) 24) 0 6 m)) := by
    rw [w_St_removeFrame_22_L3]
    refine ⟨fun _ => ?_, fun h => absurd ?_ h⟩
    · show K (jup (jset (jset (mg a t) 23 (shk (a 23) 0 6 m)) 24 (shk (a 24) 0 6 m)) 22 2 (a 22 2 - 6))
      rw [hs, show nI m - 6 = nI (m - 6) from pk_sub (b := 6) h6, mg_js, if_pos (by decide), mg_js, if_pos (by decide), mg_up, if_pos (by decide)]
      exact hk
    · show a 22 2 ≤ _
      rw [hs]
      exact Int32.le_refl _
  have key := st_rm_L22 K (mg a t) m hm hs hb last (m - 6) (0 + 6) (by omega) (by omega)
  rw [shk_0, shk_0, js_self, js_self] at key
  exact ⟨_, key⟩
theorem fl_L_1 {t : Jst} {K : Jst → Prop} : ∀ (d : Nat) (s : Jst), d ≤ 6 → w_St_fill_22_L29 K 1 (nI 0 + (-1)) (mg (jup (jset s 27 (cpy (s 27) (s 23) d)) 26 2 (hp (s 24) d (s 26 2))) t) → w_St_fill_22_L29 K (d + 1) (nI d + (-1)) (mg s t) := by
  intro d
  induction d with
  | zero =>
    intro s _ h
    rw [cpy_0, hp, js_self, ju_self] at h
    exact h
  | succ d ih =>
    intro s hd h
    have c1 : (nI d).toNatClampNeg = d := nI_clamp (by omega)
    rw [hp] at h
    rw [pk_m1, w_St_fill_22_L29, c1]
    refine ⟨fun q => absurd ((nI_ltI (b := 0) (by omega) (by decide)).mp q) (by omega), fun _ => ⟨vp_in_nI (by omega) (by omega), vp_in_nI (by omega) (by omega), vp_in_nI (by omega) (by omega), fun q => ?_, fun q => ?_⟩⟩
    · have q' : s 24 d = 0 := q
      rw [if_pos q'] at h
      rw [mg_up, if_pos (by decide)]
      refine ih _ (by omega) ?_
      show w_St_fill_22_L29 K 1 (nI 0 + (-1)) (mg (jup (jset (jup s 27 d (s 23 d)) 27 (cpy (upd (s 27) d (s 23 d)) (s 23) d)) 26 2 (hp (s 24) d (s 26 2))) t)
      rw [cpy_s, js_ju]
      exact h
    · have q' : ¬ s 24 d = 0 := q
      rw [if_neg q'] at h
      rw [mg_up, if_pos (by decide), mg_up, if_pos (by decide)]
      refine ih _ (by omega) ?_
      show w_St_fill_22_L29 K 1 (nI 0 + (-1)) (mg (jup (jset (jup (jup s 27 d (s 23 d)) 26 2 (nI d)) 27 (cpy (upd (s 27) d (s 23 d)) (s 23) d)) 26 2 (hp (s 24) d (nI d))) t)
      rw [cpy_s, ← ju_jsn _ _ _ _ (show (26 : Nat) ≠ 27 by decide), js_ju, ju_ju]
      exact h
theorem fr_L_1 {t : Jst} {K : Int32 → Jst → Prop} {v2 : Int32} {f : Nat} {Tg : Nat → Int32} (f1 : f < 64) : ∀ (d : Nat) (s : Jst) (v3 : Int32), d ≤ 6 → s 41 1 = nI f → (∀ j, j < 6 → ((0 : Int32) ≤ s 43 (64 + (f + j) % 64) ↔ Tg j = 0)) → w_M_frame_L89 K 1 1 v2 (hp Tg d v3) (nI 0 + (-1)) (mg t (jset s 51 (cpy (s 51) (fun j => s 43 (64 + (f + j) % 64)) d))) → w_M_frame_L89 K (d + 1) 1 v2 v3 (nI d + (-1)) (mg t s) := by
  intro d
  induction d with
  | zero =>
    intro s v3 _ _ _ h
    rw [cpy_0, hp, js_self] at h
    exact h
  | succ d ih =>
    intro s v3 hd h41 hT h
    have c1 : (nI d).toNatClampNeg = d := nI_clamp (by omega)
    have c2 : (nI (64 + (f + d) % 64)).toNatClampNeg = (64 + (f + d) % 64) := nI_clamp (by omega)
    have z1 : (64 : Int32) * 1 + (nI f + nI d - (nI f + nI d) / 64 * 64) = nI (64 + (f + d) % 64) := by rw [nI_add, show nI (f + d) - nI (f + d) / 64 * 64 = nI ((f + d) % 64) from pk_rem (d := 64) (by omega) (by decide) (by decide), show (64 : Int32) * 1 = nI 64 from by decide, nI_add]
    have e41 : (mg t s) 41 1 = nI f := h41
    rw [hp] at h
    rw [pk_m1, w_M_frame_L89, tn1, e41, z1, c1, c2, pk_us]
    refine ⟨fun q => absurd ((nI_ltI (b := 0) (by omega) (by decide)).mp q) (by omega), fun _ => ⟨vi1, vp_in_nI (by omega) (by omega), vp_in_nI (by omega) (by omega), vp_in_nI (by omega) (by omega), fun q => ?_, fun q => ?_⟩⟩
    · rw [if_pos ((hT d (by omega)).mp q)] at h
      rw [mg_up, if_neg (by decide)]
      refine ih _ _ (by omega) h41 hT ?_
      show w_M_frame_L89 K 1 1 v2 (hp Tg d v3) (nI 0 + (-1)) (mg t (jset (jup s 51 d (s 43 (64 + (f + d) % 64))) 51 (cpy (upd (s 51) d (s 43 (64 + (f + d) % 64))) (fun j => s 43 (64 + (f + j) % 64)) d)))
      rw [show cpy (upd (s 51) d (s 43 (64 + (f + d) % 64))) (fun j => s 43 (64 + (f + j) % 64)) d = cpy (s 51) (fun j => s 43 (64 + (f + j) % 64)) (d + 1) from cpy_s _ _ _, js_ju]
      exact h
    · rw [if_neg (fun e => q ((hT d (by omega)).mpr e))] at h
      rw [mg_up, if_neg (by decide)]
      refine ih _ _ (by omega) h41 hT ?_
      show w_M_frame_L89 K 1 1 v2 (hp Tg d (nI d)) (nI 0 + (-1)) (mg t (jset (jup s 51 d (s 43 (64 + (f + d) % 64))) 51 (cpy (upd (s 51) d (s 43 (64 + (f + d) % 64))) (fun j => s 43 (64 + (f + j) % 64)) d)))
      rw [show cpy (upd (s 51) d (s 43 (64 + (f + d) % 64))) (fun j => s 43 (64 + (f + j) % 64)) d = cpy (s 51) (fun j => s 43 (64 + (f + j) % 64)) (d + 1) from cpy_s _ _ _, js_ju]
      exact h
theorem fil_1 {α : Jst} {n ct : Nat} (hs : α 22 2 = nI n) (n6 : 6 ≤ n) (n60 : n ≤ 60) (hct : α 22 3 = nI ct) (c16 : ct < 16) (hex : ∃ β : Jst, Inv (mg α β)) : ∃ (a : Jst) (X : Nat → Nat) (h : Nat), h ≤ 6 ∧ (∀ j, j < 6 → X j ≤ 1000) ∧ (∀ j, j < 6 → a 27 j = nI (X j)) ∧ a 26 1 = nI ct ∧ a 26 2 = nI h ∧ (∀ (t : Jst) (K : Jst → Prop), K (mg a t) → ∃ n, w_St_fill_22_L29 K n 5 (jup (jup (mg α t) 26 1 ((mg α t) 22 3)) 26 2 6)) ∧ ∀ β : Jst, Inv (mg α β) → ∃ b : Jst, Inv (mg a b) ∧ b 33 0 = β 33 0 ∧ b 53 = β 53 ∧ (∀ j, j < 6 → b 51 j = nI (X j) ∨ b 51 j = (-1 : Int32) - nI (X j)) ∧ (∀ (t : Jst) (K : Int32 → Jst → Prop) (v2 : Int32), ((¬ v2 = 0 → K (nI h) (mg t b)) ∧ (v2 = 0 → w_M_comesDown 1 (nI ct) (nI h) (mg t b) (fun u => K (nI h) u))) → ∃ n, w_M_frame_L89 K n 1 v2 6 5 (mg t β)) := by
  have hS : ∀ β : Jst, Inv (mg α β) → iSt (α 22 2) (α 22 3) (β 41 1) (β 42 1) (β 44 1) (α 23) (α 24) (β 43) 1 := fun β hI => hI.2.2.2.2.2.1
  have hcell : ∀ j, j < n → (α 24 j = 0 ∨ α 24 j = 1) ∧ (α 23 j).toNatClampNeg ≤ 1000 ∧ α 23 j = nI (α 23 j).toNatClampNeg := by
    obtain ⟨β, hI⟩ := hex
    obtain ⟨n', f', s1, s2, s3, s4, s5, s6, s7, s8⟩ := hS β hI
    have en : n' = n := (nI_eq (by omega) (by omega)).mp (s3.symm.trans hs)
    intro j hj
    obtain ⟨t1, x, x1, x2, -⟩ := s8 j (by omega)
    have e : (α 23 j).toNatClampNeg = x := by rw [x2]; exact nI_clamp (by omega)
    exact ⟨t1, by omega, by rw [e]; exact x2⟩
  obtain ⟨h, hh, eh⟩ := hp_le (α 24) 6 6 (by omega) ⟨6, by omega, rfl⟩
  have hw : nI ct + 1 - (nI ct + 1) / 16 * 16 = nI ((ct + 1) % 16) := by rw [nI_1]; exact pk_rem (d := 16) (by omega) (by decide) (by decide)
  have e5 : (5 : Int32) = nI 6 + (-1) := by decide
  refine ⟨jup (jset (jset (jup (jup (jset (jup (jup α 26 1 (nI ct)) 26 2 6) 27 (cpy (α 27) (α 23) 6)) 26 2 (nI h)) 22 3 (nI ((ct + 1) % 16))) 23 (shk (α 23) 0 6 n)) 24 (shk (α 24) 0 6 n)) 22 2 (nI (n - 6)), fun j => (α 23 j).toNatClampNeg, h, hh, fun j hj => (hcell j (by omega)).2.1, ?_, rfl, rfl, ?_, ?_⟩
  · intro j hj
    show (if j < 6 then α 23 j else α 27 j) = _
    rw [if_pos hj]
    exact (hcell j (by omega)).2.2
  · intro t K hk
    show ∃ n, w_St_fill_22_L29 K n 5 (jup (jup (mg α t) 26 1 (α 22 3)) 26 2 6)
    rw [hct, mg_up, if_pos (by decide), mg_up, if_pos (by decide)]
    refine ⟨6 + 1, ?_⟩
    rw [e5]
    refine fl_L_1 6 _ (by omega) ?_
    show w_St_fill_22_L29 K 1 (nI 0 + (-1)) (mg (jup (jset (jup (jup α 26 1 (nI ct)) 26 2 6) 27 (cpy (α 27) (α 23) 6)) 26 2 (hp (α 24) 6 6)) t)
    rw [eh, w_St_fill_22_L29]
    refine ⟨fun _ => ?_, fun q => absurd (by decide) q⟩
    unfold w_T_following
    show w_St_removeFrame_22 (jup (mg (jup (jset (jup (jup α 26 1 (nI ct)) 26 2 6) 27 (cpy (α 27) (α 23) 6)) 26 2 (nI h)) t) 22 3 (α 22 3 + 1 - (α 22 3 + 1) / 16 * 16)) _
    rw [hct, hw, mg_up, if_pos (by decide)]
    exact st_rm_mg_1 n6 n60 hs (fun i hi => (hcell i hi).1) hk
  · intro β hI
    obtain ⟨n', f, s1, f1, s3, s4, hf, s6, s7, s8⟩ := hS β hI
    have en : n = n' := ((nI_eq (by omega) (by omega)).mp (s3.symm.trans hs)).symm
    subst en
    have i0 : ∀ j, 64 * 1 + (f + j) % 64 = (64 + (f + j) % 64) := fun j => by omega
    have hv : ∀ j, j < 6 → (α 24 j = 0 ∧ β 43 (64 + (f + j) % 64) = nI (α 23 j).toNatClampNeg) ∨ (¬ α 24 j = 0 ∧ β 43 (64 + (f + j) % 64) = (-1 : Int32) - nI (α 23 j).toNatClampNeg) := by
      intro j hj
      obtain ⟨t1, x, x1, x2, x3⟩ := s8 j (by omega)
      rw [i0 j] at x3
      have e : (α 23 j).toNatClampNeg = x := by rw [x2]; exact nI_clamp (by omega)
      rw [e]
      by_cases z : α 24 j = 0
      · rw [if_pos z] at x3; exact Or.inl ⟨z, x3⟩
      · rw [if_neg z] at x3; exact Or.inr ⟨z, x3⟩
    have hT : ∀ j, j < 6 → ((0 : Int32) ≤ β 43 (64 + (f + j) % 64) ↔ α 24 j = 0) := by
      intro j hj
      have hle := (hcell j (by omega)).2.1
      rcases hv j hj with ⟨z, e⟩ | ⟨z, e⟩
      · rw [e]; exact ⟨fun _ => z, fun _ => pos3 hle⟩
      · rw [e]; exact ⟨fun q => absurd q (neg3 hle), fun q => absurd q z⟩
    have h44 : β 44 1 = nI ct := s6.trans hct
    have z64 : nI f + 6 - (nI f + 6) / 64 * 64 = nI ((f + 6) % 64) := by rw [show nI f + 6 = nI (f + 6) from nI_add f 6]; exact pk_rem (d := 64) (by omega) (by decide) (by decide)
    obtain ⟨hG, hU, hR, hC, hS0, hS1, hA0, hA1, hP⟩ := id hI
    have hN : iSt (nI (n - 6)) (nI ((ct + 1) % 16)) (nI ((f + 6) % 64)) (nI (n - 6)) (nI ((ct + 1) % 16)) (shk (α 23) 0 6 n) (shk (α 24) 0 6 n) (β 43) 1 := ⟨n - 6, (f + 6) % 64, by omega, by omega, rfl, rfl, rfl, rfl, ⟨(ct + 1) % 16, Nat.mod_lt _ (by decide), rfl⟩, fun j hj => by
      have key := s8 (j + 6) (by omega)
      unfold shk
      simp only [if_pos (show 0 ≤ j ∧ j + 6 < n by omega)]
      rw [show 64 * 1 + ((f + 6) % 64 + j) % 64 = 64 * 1 + (f + (j + 6)) % 64 by omega]
      exact key⟩
    refine ⟨jup (jup (jup (jset β 51 (cpy (β 51) (fun j => β 43 (64 + (f + j) % 64)) 6)) 41 1 (nI ((f + 6) % 64))) 42 1 (nI (n - 6))) 44 1 (nI ((ct + 1) % 16)), ⟨hG, hU, hR, hC, hS0, hN, hA0, hA1, hP⟩, rfl, rfl, ?_, ?_⟩
    · intro j hj
      show (if j < 6 then β 43 (64 + (f + j) % 64) else β 51 j) = _ ∨ (if j < 6 then β 43 (64 + (f + j) % 64) else β 51 j) = _
      rw [if_pos hj]
      rcases hv j hj with ⟨-, e⟩ | ⟨-, e⟩
      · exact Or.inl e
      · exact Or.inr e
    · intro t K v2 hk
      refine ⟨6 + 1, ?_⟩
      rw [e5]
      refine fr_L_1 (Tg := α 24) f1 6 β 6 (by omega) hf hT ?_
      rw [eh, w_M_frame_L89, tn1]
      refine ⟨fun _ => ⟨vi1, vi1, vi1, vi1, vi1, vi1, ?_⟩, fun q => absurd (by decide) q⟩
      have E : jup (jup (jup (mg t (jset β 51 (cpy (β 51) (fun j => β 43 (64 + (f + j) % 64)) 6))) 41 1 (β 41 1 + 6 - (β 41 1 + 6) / 64 * 64)) 42 1 (β 42 1 - 6)) 44 1 (β 44 1 + 1 - (β 44 1 + 1) / 16 * 16) = mg t (jup (jup (jup (jset β 51 (cpy (β 51) (fun j => β 43 (64 + (f + j) % 64)) 6)) 41 1 (nI ((f + 6) % 64))) 42 1 (nI (n - 6))) 44 1 (nI ((ct + 1) % 16))) := by
        rw [hf, z64, s4, show nI n - 6 = nI (n - 6) from pk_sub (b := 6) n6, h44, hw, mg_up, if_neg (by decide), mg_up, if_neg (by decide), mg_up, if_neg (by decide)]
      rw [← E] at hk
      refine ⟨fun q => hk.1 q, fun q => ?_⟩
      have key := hk.2 q
      rw [← h44] at key
      exact key
theorem idl_1 (L : Nat) (hL : L ≤ 4) : ∀ d i n : Nat, ∀ α : Jst, i + d = L → n + d ≤ 60 → α 22 2 = nI n → ∃ a : Jst, a 22 2 = nI (n + d) ∧ a 22 3 = α 22 3 ∧ (∀ (t : Jst) (K : Jst → Prop), K (mg a t) → w_St_writeIdle_22_L19 K (d + 1) (nI L) (nI i) (mg α t)) ∧ ∀ β : Jst, Inv (mg α β) → ∃ b : Jst, Inv (mg a b) ∧ b 33 0 = β 33 0 ∧ b 53 = β 53 ∧ (∀ (t : Jst) (K : Int32 → Jst → Prop) (v2 : Int32), (∃ n, w_M_frame_L89 K n 1 v2 6 5 (mg t b)) → w_M_frame_L65 K (d + 1) 1 v2 (nI L) (nI i) (mg t β)) := by
  intro d
  induction d with
  | zero =>
    intro i n α hi hn hs
    have e : i = L := by omega
    subst e
    refine ⟨α, hs, rfl, fun t K h => ?_, fun β hI => ⟨β, hI, rfl, rfl, fun t K v2 h => ?_⟩⟩
    · rw [w_St_writeIdle_22_L19]
      exact ⟨fun _ => h, fun q => absurd (Int32.le_refl _) q⟩
    · rw [w_M_frame_L65]
      exact ⟨fun _ => h, fun q => absurd (Int32.le_refl _) q⟩
  | succ d ih =>
    intro i n α hi hn hs
    have ne : ¬ nI L ≤ nI i := fun q => absurd ((nI_leI (by omega) (by omega)).mp q) (by omega)
    obtain ⟨a1, p1, p2, p3, p4⟩ := put_1 (x := 0) (tg := 0) hs (by omega) (by omega) (Or.inl rfl)
    obtain ⟨a, q0, q00, q1, q2⟩ := ih (i + 1) (n + 1) a1 (by omega) (by omega) p1
    refine ⟨a, by rw [q0]; congr 1; omega, q00.trans p2, fun t K h => ?_, fun β hI => ?_⟩
    · rw [w_St_writeIdle_22_L19]
      refine ⟨fun q => absurd q ne, fun _ => ?_⟩
      rw [nI_1]
      exact p3 t _ (q1 t K h)
    · obtain ⟨b1, i1, i2, i3, i4⟩ := p4 β hI
      obtain ⟨b, j1, j2, j3, j4⟩ := q2 b1 i1
      refine ⟨b, j1, j2.trans i2, j3.trans i3, fun t K v2 h => ?_⟩
      rw [w_M_frame_L65]
      refine ⟨fun q => absurd q ne, fun _ => ?_⟩
      rw [nI_1]
      exact i4 t _ (j4 t K v2 h)
theorem step_1 {σ : Jst} {n : Nat} (hs : σ 22 2 = nI n) (n60 : n ≤ 60) : ∃ (α : Jst) (m : Nat), 6 ≤ m ∧ m ≤ 60 ∧ α 22 2 = nI m ∧ α 22 3 = σ 22 3 ∧ (∀ (t : Jst) (K : Jst → Prop), (∃ n, w_St_fill_22_L29 K n 5 (jup (jup (mg α t) 26 1 ((mg α t) 22 3)) 26 2 6)) → w_St_fill_22 (mg σ t) K) ∧ ∀ β : Jst, Inv (mg σ β) → ∃ b : Jst, Inv (mg α b) ∧ b 33 0 = β 33 0 ∧ b 53 = β 53 ∧ (∀ (t : Jst) (K : Int32 → Jst → Prop) (v2 : Int32), (∃ n, w_M_frame_L89 K n 1 v2 6 5 (mg t b)) → rfr 1 v2 (mg t β) K) := by
  by_cases n6 : 6 ≤ n
  · have le : (6 : Int32) ≤ nI n := (nI_leI (a := 6) (by decide) (by omega)).mpr n6
    refine ⟨σ, n, n6, n60, hs, rfl, fun t K h => ?_, fun β hI => ⟨β, hI, rfl, rfl, fun t K v2 h => ?_⟩⟩
    · unfold w_St_fill_22
      exact ⟨fun _ => h, fun q => absurd (show (6 : Int32) ≤ σ 22 2 by rw [hs]; exact le) q⟩
    · obtain ⟨f, f1, f2, f3⟩ := stf_1 hI hs n60
      unfold rfr
      rw [tn1]
      exact ⟨vi1, fun _ => h, fun q => absurd (show (6 : Int32) ≤ β 42 1 by rw [f3]; exact le) q⟩
  · have le : ¬ (6 : Int32) ≤ nI n := fun q => n6 ((nI_leI (a := 6) (by decide) (by omega)).mp q)
    have hcl : (0 < 4 - nI n ∧ 4 - nI n = nI (4 - n)) ∨ (¬ 0 < 4 - nI n ∧ nI (4 - n) = 0) := by
      have : n = 0 ∨ n = 1 ∨ n = 2 ∨ n = 3 ∨ n = 4 ∨ n = 5 := by omega
      rcases this with rfl | rfl | rfl | rfl | rfl | rfl <;> first | exact Or.inl (by decide) | exact Or.inr (by decide)
    have hcm : ((5 : Int32) ≤ nI n ∧ nI (4 - n) = 0) ∨ (¬ (5 : Int32) ≤ nI n ∧ 4 - nI n = nI (4 - n)) := by
      have : n = 0 ∨ n = 1 ∨ n = 2 ∨ n = 3 ∨ n = 4 ∨ n = 5 := by omega
      rcases this with rfl | rfl | rfl | rfl | rfl | rfl <;> first | exact Or.inl (by decide) | exact Or.inr (by decide)
    obtain ⟨a1, x1, x0, x2, x3⟩ := put_1 (x := 0) (tg := 1) hs (by omega) (by omega) (Or.inr rfl)
    obtain ⟨a2, y1, y0, y2, y3⟩ := put_1 (x := 4 - n) (tg := 0) x1 (by omega) (by omega) (Or.inl rfl)
    obtain ⟨a3, z0, z00, z1, z2⟩ := idl_1 (4 - n) (by omega) (4 - n) 0 (n + 1 + 1) a2 (by omega) (by omega) y1
    refine ⟨a3, n + 1 + 1 + (4 - n), by omega, by omega, z0, z00.trans (y0.trans x0), fun t K h => ?_, fun β hI => ?_⟩
    · unfold w_St_fill_22
      refine ⟨fun q => absurd q (show ¬ (6 : Int32) ≤ σ 22 2 by rw [hs]; exact le), fun _ => ?_⟩
      unfold w_St_writeIdle_22 w_Ma_max w_St_writeHead_22
      have key := x2 t (fun u1 => w_St_put_22 (nI (4 - n)) 0 u1 (fun u2 => ∃ n1, w_St_writeIdle_22_L19 (fun u1 => ∃ n, w_St_fill_22_L29 K n 5 (jup (jup u1 26 1 (u1 22 3)) 26 2 6)) n1 (nI (4 - n)) 0 u2)) (y2 t _ ⟨_, z1 t _ h⟩)
      show (0 < 4 - σ 22 2 → _) ∧ (¬ 0 < 4 - σ 22 2 → _)
      rw [hs]
      rcases hcl with ⟨l1, l2⟩ | ⟨l1, l2⟩
      · refine ⟨fun _ => ?_, fun q => absurd l1 q⟩
        rw [← l2] at key
        show w_St_put_22 0 1 (mg σ t) (fun u1 => w_St_put_22 (4 - σ 22 2) 0 u1 (fun u2 => ∃ n1, w_St_writeIdle_22_L19 (fun u1 => ∃ n, w_St_fill_22_L29 K n 5 (jup (jup u1 26 1 (u1 22 3)) 26 2 6)) n1 (4 - σ 22 2) 0 u2))
        rw [hs]
        exact key
      · refine ⟨fun q => absurd q l1, fun _ => ?_⟩
        rw [l2] at key
        exact key
    · obtain ⟨f, f1, f2, f3⟩ := stf_1 hI hs n60
      obtain ⟨B1, b1, b2, b3, b4⟩ := x3 _ hI
      obtain ⟨B2, c1, c2, c3, c4⟩ := y3 _ b1
      obtain ⟨B3, d1, d2, d3, d4⟩ := z2 _ c1
      refine ⟨B3, d1, d2.trans (c2.trans b2), d3.trans (c3.trans b3), fun t K v2 h => ?_⟩
      unfold rfr
      rw [tn1]
      have e42 : (mg t β) 42 1 = nI n := f3
      rw [e42]
      refine ⟨vi1, fun q => absurd q le, fun _ => ⟨vi1, ?_⟩⟩
      have key : w_M_puts 1 (-1) (mg t β) (fun u5 => w_M_puts 1 (nI (4 - n)) u5 (fun u6 => ∃ n1, w_M_frame_L65 K n1 1 v2 (nI (4 - n)) 0 u6)) := b4 t _ (c4 t _ ⟨_, d4 t K v2 h⟩)
      rcases hcm with ⟨l1, l2⟩ | ⟨l1, l2⟩
      · rw [l2] at key
        exact ⟨fun _ => key, fun q => absurd l1 q⟩
      · rw [← l2] at key
        exact ⟨fun q => absurd q l1, fun _ => ⟨vi1, key⟩⟩
