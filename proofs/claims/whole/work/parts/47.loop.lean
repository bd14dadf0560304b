/-! the law's loop -/
def w_law (xs : Nat → Int32) (L : Nat) : Nat → Int32 → Jst → Prop
  | 0, _, _ => False
  | n + 1, v4, s0 => ¬ (Int32.ofNat L - (4 : Int32)) < v4 → (vp_in v4 L ∧ vp_in (v4 + (1 : Int32)) L ∧ vp_in (v4 + (2 : Int32)) L ∧ vp_in (v4 + (3 : Int32)) L) ∧ w_case (xs (Int32.toNatClampNeg v4)) (xs (Int32.toNatClampNeg (v4 + (1 : Int32)))) (xs (Int32.toNatClampNeg (v4 + (2 : Int32)))) (xs (Int32.toNatClampNeg (v4 + (3 : Int32)))) s0 (fun u => w_law xs L n (v4 + (4 : Int32)) u)
set_option maxRecDepth 100000 in
set_option maxHeartbeats 4000000 in
theorem c_loop {p : Program} {e : Env} {s : State} {m : MethodId} {below : List Frame} {meth : Method} {c : Code} (l : Launch) (hlt : l.stackTraces = false) (D : va_G) (ca ad : Nat → Nat) {b L : Nat} {xs : Nat → Int32} {sz : Nat} (hsz : sz = s.heap.size) (hD : Jd ca ad sz) (X : Cx p s m #[Value.ref b] c b_L_law 7 R_L Gw D vwCl (tysT ca) (wlT ad ca) (Aw sz) (NwT sz)) (hX : va_X b L xs s s.heap) (hbl : b < s.heap.size) (hr : meth.sig.returnType = ret) (hlk : meth.locks = false) :
    ∀ (n : Nat) (v4 : Int32) (s0 : Jst) (cells slots : Nat), cells + n ≤ 605972 → slots + 6 * n ≤ 7278188 → w_law xs L n v4 s0 →
      J p l e room_1 s m #[Value.ref b] below meth c D vwCl (wlT ad ca) (Aw sz) 7 cells slots (lw_Z below #[Value.ref b] s) 23 [(0, .ref b), (1, .ref (ad 0)), (2, .ref (ad 33)), (3, .ref (ad 53)), (4, .int v4)] [] s0 := by
  intro n
  induction n with
  | zero => intro v4 s0 cells slots _ _ hw; exact (show False from hw).elim
  | succ n ih =>
    intro v4 s0 cells slots hc hs hw
    rw [w_law] at hw
    subst hsz
    refine j_iload X d_L_law_23 4 rfl ?_
    refine j_aload_n X d_L_law_25 rfl 0 rfl ?_
    refine jl_len X hX hbl d_L_law_26 ?_
    refine j_iconst X (v := (4 : Int32)) d_L_law_27 (by decide) ?_
    refine j_isub X d_L_law_28 ?_
    refine j_icmp_gt X d_L_law_29 (tgt := 987) (by decide) (fun h => ?_) (fun h => ?_)
    · refine j_iconst X (v := (1 : Int32)) d_L_law_987 (by decide) ?_
      intro H locs ls hl hP hS
      refine va_forget (fun q hq => hS.2.2 q hq) ?_
      refine W.widen (k := 605972) (n := 7278188) (by omega) (by omega) ?_
      exact lw_ret X.1 X.2.1 hr hlk d_L_law_988
    · obtain ⟨⟨hv0, hv1, hv2, hv3⟩, hw⟩ := hw h
      refine c_case l hlt D ca ad rfl hD X hX hbl hv0 hv1 hv2 hv3 rfl rfl rfl rfl hw (by omega) (by omega) (fun u c' s' hc' hs' hw => ?_)
      refine j_iinc X (v := (4 : Int32)) d_L_law_981 4 rfl (by decide) (by decide) rfl ?_
      refine j_goto X d_L_law_984 (tgt := 23) (by decide) ?_
      refine j_locs [1, 2, 3, 4, 0] rfl ?_
      exact ih _ _ _ _ (by omega) (by omega) hw
