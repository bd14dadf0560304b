/-! a call of a method that may throw, from a method with a table of handlers -/
section XC
variable {p : Program} {l : Launch} {e : Env} {R : Room} {s : State} {m : MethodId} {args : Array Value} {below : List Frame} {meth : Method} {c : Code} {cells slots : Nat} {Q : State → Prop}
variable {cc : ByteArray} {pc nL : Nat} {rest : List Value} {loc loc' : List (Nat × Value)} {wl : Jst → va_W} {D : va_G} {cl : List vw_C} {tys : List (ClassId × FieldType)} {A : Nat → Prop} {N0 : State → Prop} {σ : Jst} {own : String} {Ts : List Cond}
variable {K : Option Int32 → Jst → Prop} {KX : String → Jst → Prop} {mc ms : Nat}
set_option maxHeartbeats 2000000 in
theorem x_callV (X : Cx p s m args c cc nL own Ts D cl tys wl A N0) {y : MethodName} {ws : List Cond} {rm : Room} {bytes : ByteArray} {maxL idx n : Nat} {ret : Option FieldType} {As st0 : List Value} {b ci q0 : Nat} {C : String} {T0 : u_T} {N : Nat} {fs : List Value}
    (hM : XMet l y ws rm (va_Pc (.ref b :: As) (Jw D cl tys wl N0 σ)) D cl wl A K KX mc ms) (cw : CallW R s args own C idx y bytes maxL ret ws rm mc ms n) (he : (wl σ)[q0]? = some (b, .inr (ci, fs))) (hc : cl[ci]? = some (C, T0, N)) (hst : st0 = As.reverse ++ .ref b :: rest) (hn : As.length = n) (hro : (rest.map fun v => v.category).sum ≤ 8) (hcs : cells + mc ≤ R.cells ∧ slots + ms ≤ R.slots) (d : decode cc pc = .ok (.invokevirtual idx, 3))
    (k : ∀ (r : Option Int32) (σ1 : Jst), K r σ1 → J p l e R s m args below meth c D cl wl A nL (cells + mc) (slots + ms) Q (pc + 3) loc ((r.map Value.int).toList ++ rest) σ1)
    (kx : ∀ (E : String) (σ1 : Jst), KX E σ1 → ∃ (pre : List ExceptionTableEntry) (x : ExceptionTableEntry) (suf : List ExceptionTableEntry), c.exceptionTable.toList = pre ++ x :: suf ∧ (∀ z ∈ pre, z.catchType ≠ 0 ∧ ∃ nm : String, (Cond.classLink own z.catchType nm).before args s = true ∧ va_Nc E nm s) ∧ covers x pc = true ∧ x.catchType ≠ 0 ∧
      (∃ nm : String, (Cond.classLink own x.catchType nm).before args s = true ∧ va_Nw (.castable E nm) s) ∧ ∀ q : Addr, J p l e R s m args below meth c D cl wl A nL (cells + mc) (slots + ms) Q x.handlerPc loc [.ref q] σ1) :
    J p l e R s m args below meth c D cl wl A nL cells slots Q pc loc st0 σ := by
  intro H locs ls hl hP hS T hT XT
  obtain ⟨hx, hb, hml, hown, hts, hK, hD, hN, hJk⟩ := X
  obtain ⟨⟨hrc, hrs, hfr, hlo, hws, hcw, hcode, hini, hyy, hlen, hlink⟩, hin, hse⟩ := cw
  obtain ⟨cellB, hcB, hoB, hclB⟩ := va_recv hK hP hc he
  obtain ⟨mk, methM, hnamed, hmethM, hstM, habM⟩ := Cond.instanceMethod_spec hin
  obtain ⟨methM', cM, hmethM', hcM, -, hlM, -, -, -, hsigM⟩ := Cond.code_spec hnamed hcode
  cases hmethM.symm.trans hmethM'
  obtain ⟨c2, r2, m2, q1, q2, q3, q4, kP, hkP, hkPi⟩ := Cond.selects_spec hse
  cases hclB.symm.trans q1
  cases (State.methodFound?_of_named hnamed hyy).symm.trans q2
  cases hnamed.symm.trans q3
  have hselP : selectMethod e.platform s.vm cellB.cls mk = .method mk := by rw [Launch.admits_selectMethod XT.admits]; exact q4
  have dg : decode c.code pc = .ok (.invokevirtual idx, 3) := by rw [hb]; exact d
  obtain ⟨vm1, X1, hstep1⟩ := XT.invokevirtual hx hown hlink hnamed hmethM hstM hkP hkPi hyy (a := b) (cell := cellB) (by rw [hT]; exact hcB)
    (fun z h => by rw [h] at hoB; cases hoB) hselP hmethM habM hkP hkPi (g := F0 m pc ls st0) rfl (argsL := As) (rest := rest) (hn.trans (hlen _ hsigM)) hst dg
  have hn1 := X1.named hnamed
  obtain ⟨methY, cY, hmY, hcY, -, hlY, -, -, -, -⟩ := Cond.code_spec (args := args) hn1 (hws _ hcw args _ X1.warmed)
  obtain ⟨kY, hkY, -⟩ := className_of_methodNamed hn1
  have hinitY : kY.init = .initialized := Cond.initialized_spec (args := args) (findClass_of_methodNamed hn1) hkY (word_at X1.warmed (Or.inl (by first | rfl | simp [Cond.onTables, Cond.keeps, Cond.steady])) hini)
  have hAt : At (T.setVm vm1) m c below := X1.here
  have hsz : (F0 m pc ls rest).locals.size = c.maxLocals := hl.1.trans hml.symm
  have hcat : 2 * (F0 m pc ls rest).monitorRoom + ((F0 m pc ls rest).stack.map fun v => v.category).sum ≤ 8 := lv_room hro
  have happ : (headSpec ws rm).appliesLoose y e.platform ((T.setVm vm1).calling (F0 m pc ls rest) mk (Value.ref b :: As).toArray) = true :=
    Spec.appliesLoose_calling (g := F0 m pc ls rest) hAt dg hn1 hkY hinitY
      (X1.room_calling (g := F0 m pc ls rest) (R' := rm) hsz hmY hcY hfr (by rw [hlY]; omega) (by rw [hrc]; exact hcs.1) (by rw [hrs]; exact hcs.2)) (atoms_intro fun w hw => hws w hw _ _ X1.warmed)
  obtain ⟨mid, hmid⟩ := hAt.above
  have hfr9 : ((T.setVm vm1).setTop (F0 m pc ls rest)).frames = (.java (F0 m pc ls rest) :: mid) ++ below := by rw [State.frames_setTop' _ hAt.top, hmid]; rfl
  have hJw : Jw D cl tys wl N0 σ (T.setVm vm1) := ⟨by show va_P D cl (wl σ) T.heap; rw [hT]; exact hP, va_K.moved X1.warmed.alike hK, hJk s _ X1.warmed (by show s.heap.size ≤ T.heap.size; rw [hT]; exact hS.1) (by show ∀ q : Nat, q < s.heap.size → ¬ A q → T.heap[q]? = s.heap[q]?; rw [hT]; exact hS.2.1) hN⟩
  obtain ⟨o, s2, hsteps, -, hend, hq⟩ := Steps.callFree hM p X1.admits X1.cas X1.clock (acts := []) hfr9 happ (j_blind hJk _ _ _ _ ⟨rfl, hJw⟩) trivial
  have hq' : XQ D cl wl A K KX mc ms (Value.ref b :: As).toArray ((T.setVm vm1).calling (F0 m pc ls rest) mk (Value.ref b :: As).toArray) o s2 := hq
  rw [State.frames_setTop' _ hAt.top, X1.tail] at hend
  obtain ⟨hW2, ⟨L, hsame, hL⟩, hF, hcase⟩ := hq'
  have hF1 : H.size ≤ s2.heap.size := by have := hF.1; rw [show ((T.setVm vm1).calling (F0 m pc ls rest) mk (Value.ref b :: As).toArray).heap = T.heap from rfl, hT] at this; exact this
  have hF2 : ∀ q : Nat, q < H.size → ¬ A q → s2.heap[q]? = H[q]? := by have := hF.2; rw [show ((T.setVm vm1).calling (F0 m pc ls rest) mk (Value.ref b :: As).toArray).heap = T.heap from rfl, hT] at this; exact this
  have hS2 : va_S A s.heap s2.heap (locs ++ L) := ⟨Nat.le_trans hS.1 hF1, fun q h1 h2 => (hF2 q (Nat.lt_of_lt_of_le h1 hS.1) h2).trans (hS.2.1 q h1 h2), fun q hq => (List.mem_append.mp hq).elim (hS.2.2 q) (hL q)⟩
  rcases hcase with ⟨r, u, rfl, hk, hP2⟩ | ⟨q, E, ce, u, rfl, hk, hP2, hce, hcv, hcl⟩
  · obtain ⟨T2, X2, -, -, ht⟩ := X1.outOf (g := F0 m pc ls rest) rfl dg hend hW2 hsame
    have hh2 : T2.heap = s2.heap := by rw [ht]; rfl
    obtain ⟨t, a1, b1⟩ := k r u hk T2.heap (locs ++ L) ls hl (by rw [hh2]; exact hP2) (by rw [hh2]; exact hS2) T2 rfl X2
    refine ⟨t, hstep1 _ fun acts => ?_, b1⟩
    rw [doInvoke_state]
    refine hsteps.trans ?_
    rw [ht]
    exact a1
  · obtain ⟨T2, X2, -, -, ht⟩ := X1.outOfThrown (g := F0 m pc ls rest) rfl hend hW2 hsame
    have hh2 : T2.heap = s2.heap := by rw [ht, throwing_heap]
    obtain ⟨pre, x, suf, hsplit, hpass, hcov, h0, ⟨nm, hl1, hca⟩, kk⟩ := kx E u hk
    have hpl : e.platform.magicAccessors = ({} : Platform).magicAccessors := by rw [XT.admits.platform]
    have hcl' : s.vm.findClass E = some ce.cls := by
      have h9 : (T.setVm vm1).vm.findClass E = some ce.cls := hcl
      rw [X1.warmed.alike.findClass] at h9
      exact h9
    obtain ⟨c3, c4, hc3, hc4, hasg⟩ := Cond.castable_spec (va_Nw.use (A := args) rfl hca)
    cases Option.some.inj (hc3.symm.trans hcl')
    obtain ⟨c5, hc5, hcl5⟩ := Cond.classLink_spec hown hl1 e.platform hpl
    cases Option.some.inj (hc4.symm.trans hc5)
    obtain ⟨vm3, X3, st3⟩ := X2.thenCaughtThrough q (g := F0 m pc ls rest) rfl (Steps.refl _) (by rw [hh2]; exact hce) (by rw [hcv]; rfl) (by obtain ⟨k9, h9, -⟩ := Vm.findClass_spec hcl'; exact ⟨k9, h9⟩) pre x suf hsplit
      (fun z hz => by
        obtain ⟨hz0, nm2, hl2, hn2⟩ := hpass z hz
        obtain ⟨c6, hc6, hcl6⟩ := Cond.classLink_spec hown hl2 e.platform hpl
        obtain ⟨a8, b8, g1, g2, g3⟩ := hn2
        cases Option.some.inj (g1.symm.trans hcl')
        cases Option.some.inj (g2.symm.trans hc6)
        exact Or.inr ⟨hz0, _, hcl6, g3⟩) hcov (Or.inr ⟨h0, c4, hcl5, hasg⟩)
    obtain ⟨t, a1, b1⟩ := kk q (T2.setVm vm3).heap (locs ++ L) ls hl (by show va_P D cl (wl u) T2.heap; rw [hh2]; exact hP2) (by show va_S A s.heap T2.heap _; rw [hh2]; exact hS2) (T2.setVm vm3) rfl X3
    refine ⟨t, hstep1 _ fun acts => ?_, b1⟩
    rw [doInvoke_state]
    refine hsteps.trans ?_
    rw [ht]
    exact st3.trans a1
/-- a method with a table of handlers -/
theorem x_metW {y : MethodName} {ws ws' : List Cond} {rm : Room} {maxL : Nat} {ret : Option FieldType} {hh : List (Nat × Nat × Nat × Nat)} {vs : List Value} {Qc : Array Value → State → Outcome → State → Prop} {free : Addr → Prop} (hy : plainName y.cls = true) (hw : ws = Cond.codeWith y cc maxL ret hh :: ws') (hn : (lg_sl vs).length ≤ maxL) (ho : own = y.cls) (hD : ∀ σ, va_D A (wl σ)) (hN : Jk A N0)
    (body : ∀ (p : Program) (e : Env) (s : State) (m : MethodId) (args : Array Value) (below : List Frame) (meth : Method) (c : Code), Cx p s m args c cc maxL own ws' D cl tys wl A N0 → meth.locks = false → meth.sig.returnType = ret → c.exceptionTable.toList.map (fun h => (h.startPc, h.endPc, h.handlerPc, h.catchType)) = hh → J p l e rm s m args below meth c D cl wl A maxL 0 0 (MQ below Qc args s mc ms free) 0 (lv_args 0 vs) [] σ) :
    Met l y ws rm (va_Pc vs (Jw D cl tys wl N0 σ)) Qc mc ms free := by
  refine va_MetW hy hw ?_
  intro p e s m args below meth c s₁ B hml hv
  obtain ⟨rfl, hP, hK, hN1⟩ := hv
  have hts := atoms_spec (ws := ws) B.pre
  have hown : s.vm.findClass own = some m.cls := by rw [ho]; exact findClass_of_methodNamed B.named
  obtain ⟨m9, meth9, c9, hn9, hm9, hc9, -, -, htab, -⟩ := Cond.codeWith_spec (hts _ (by rw [hw]; exact List.mem_cons_self))
  cases B.named.symm.trans hn9
  cases B.method.symm.trans hm9
  cases (Stand.of_body B).code.symm.trans hc9
  rw [lg_entry_eq]
  exact body p e s m _ below meth c ⟨B.exec, B.bytes, hml, hown, fun w h => hts w (by rw [hw]; exact List.mem_cons_of_mem _ h), hK, hD, hN1, hN⟩ B.notSynchronized B.returns htab s.heap [] _ (lv_entry vs hn) hP va_S.rf
end XC
