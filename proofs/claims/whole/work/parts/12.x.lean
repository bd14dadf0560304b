/-! methods that may throw: how they end, how they throw, how a caller with a table of handlers goes on -/
/-- the end of a call that returned (K) or threw an object of class E (KX E) -/
def XQ (D : va_G) (cl : List vw_C) (wl : Jst → va_W) (A : Nat → Prop) (K : Option Int32 → Jst → Prop) (KX : String → Jst → Prop) (mc ms : Nat) : Array Value → State → Outcome → State → Prop := fun _ st o t =>
  st.WarmedH t.vm ∧ (∃ L, st.sameButNew ({ t with vm := st.vm } : State) L mc ms ∧ ∀ q ∈ L, A q.base) ∧ va_F A st t ∧
  ((∃ (r : Option Int32) (u : Jst), o = .returned (r.map Value.int) ∧ K r u ∧ va_P D cl (wl u) t.heap) ∨
   (∃ (q : Addr) (E : String) (ce : Cell) (u : Jst), o = .threw q ∧ KX E u ∧ va_P D cl (wl u) t.heap ∧ t.heap[q]? = some ce ∧ ce.vm = .none ∧ st.vm.findClass E = some ce.cls))
def XMet (l : Launch) (y : MethodName) (ws : List Cond) (rm : Room) (Pc : Array Value → State → Prop) (D : va_G) (cl : List vw_C) (wl : Jst → va_W) (A : Nat → Prop) (K : Option Int32 → Jst → Prop) (KX : String → Jst → Prop) (mc ms : Nat) : Prop :=
  MetFree l y (headSpec ws rm) Pc (fun _ _ _ _ _ => True) (XQ D cl wl A K KX mc ms)
def XE (below : List Frame) (D : va_G) (cl : List vw_C) (wl : Jst → va_W) (A : Nat → Prop) (K : Option Int32 → Jst → Prop) (KX : String → Jst → Prop) (args : Array Value) (s : State) (mc ms : Nat) : State → Prop := fun t =>
  ∃ o, t.status = .running ∧ Ended t below o ∧ XQ D cl wl A K KX mc ms args s o t
section XX
variable {p : Program} {l : Launch} {e : Env} {R : Room} {s : State} {m : MethodId} {args : Array Value} {below : List Frame} {meth : Method} {c : Code} {cells slots : Nat} {Q : State → Prop}
variable {cc : ByteArray} {pc nL : Nat} {rest : List Value} {loc loc' : List (Nat × Value)} {wl : Jst → va_W} {D : va_G} {cl : List vw_C} {tys : List (ClassId × FieldType)} {A : Nat → Prop} {N0 : State → Prop} {σ : Jst} {own : String} {Ts : List Cond}
variable {K : Option Int32 → Jst → Prop} {KX : String → Jst → Prop} {mc ms : Nat}
theorem x_iret (X : Cx p s m args c cc nL own Ts D cl tys wl A N0) (hlk : meth.locks = false) (hr : meth.sig.returnType = some .int) {v : Int32} (hc : cells ≤ mc) (hs : slots ≤ ms) (d : decode cc pc = .ok (.ireturn, 1)) (h : K (some v) σ) : J p l e R s m args below meth c D cl wl A nL cells slots (XE below D cl wl A K KX args s mc ms) pc loc [.int v] σ := by
  intro H locs ls hl hP hS T hT XT
  obtain ⟨t, st, o, h1, h2, h3, L, hF, hL⟩ := j_iret (K := fun r u => K (some r) u) (R := R) (l := l) (e := e) (below := below) (cells := cells) (slots := slots) (loc := loc) X hlk hr d h H locs ls hl hP hS T hT XT
  obtain ⟨⟨r, u, ho, hk, hp⟩, hf⟩ := h3
  exact ⟨t, st, o, h1, h2, hF.2.1, ⟨L, hF.2.2.mono hc hs, hL⟩, hf, Or.inl ⟨some r, u, ho, hk, hp⟩⟩
theorem x_zret (X : Cx p s m args c cc nL own Ts D cl tys wl A N0) (hlk : meth.locks = false) (hr : meth.sig.returnType = some .boolean) {v : Int32} (hc : cells ≤ mc) (hs : slots ≤ ms) (hn : narrow .boolean (.int v) = .int v) (d : decode cc pc = .ok (.ireturn, 1)) (h : K (some v) σ) : J p l e R s m args below meth c D cl wl A nL cells slots (XE below D cl wl A K KX args s mc ms) pc loc [.int v] σ := by
  intro H locs ls hl hP hS T hT XT
  obtain ⟨t, st, o, h1, h2, h3, L, hF, hL⟩ := j_zret (K := fun r u => K (some r) u) (R := R) (l := l) (e := e) (below := below) (cells := cells) (slots := slots) (loc := loc) X hlk hr hn d h H locs ls hl hP hS T hT XT
  obtain ⟨⟨r, u, ho, hk, hp⟩, hf⟩ := h3
  exact ⟨t, st, o, h1, h2, hF.2.1, ⟨L, hF.2.2.mono hc hs, hL⟩, hf, Or.inl ⟨some r, u, ho, hk, hp⟩⟩
theorem x_vret (X : Cx p s m args c cc nL own Ts D cl tys wl A N0) (hlk : meth.locks = false) (hr : meth.sig.returnType = none) (hc : cells ≤ mc) (hs : slots ≤ ms) (d : decode cc pc = .ok (.return_, 1)) (h : K none σ) : J p l e R s m args below meth c D cl wl A nL cells slots (XE below D cl wl A K KX args s mc ms) pc loc [] σ := by
  intro H locs ls hl hP hS T hT XT
  obtain ⟨t, st, o, h1, h2, h3, L, hF, hL⟩ := j_vret (K := fun u => K none u) (R := R) (l := l) (e := e) (below := below) (cells := cells) (slots := slots) (loc := loc) X hlk hr d h H locs ls hl hP hS T hT XT
  obtain ⟨⟨u, ho, hk, hp⟩, hf⟩ := h3
  exact ⟨t, st, o, h1, h2, hF.2.1, ⟨L, hF.2.2.mono hc hs, hL⟩, hf, Or.inl ⟨none, u, ho, hk, hp⟩⟩
theorem x_met {y : MethodName} {ws ws' : List Cond} {rm : Room} {maxL : Nat} {ret : Option FieldType} {vs : List Value} (hy : plainName y.cls = true) (hw : ws = Cond.code y cc maxL ret :: ws') (hn : (lg_sl vs).length ≤ maxL) (ho : own = y.cls) (hD : ∀ σ, va_D A (wl σ)) (hN : Jk A N0)
    (body : ∀ (p : Program) (e : Env) (s : State) (m : MethodId) (args : Array Value) (below : List Frame) (meth : Method) (c : Code), Cx p s m args c cc maxL own ws' D cl tys wl A N0 → meth.locks = false → meth.sig.returnType = ret → c.exceptionTable.isEmpty = true → J p l e rm s m args below meth c D cl wl A maxL 0 0 (XE below D cl wl A K KX args s mc ms) 0 (lv_args 0 vs) [] σ) :
    XMet l y ws rm (va_Pc vs (Jw D cl tys wl N0 σ)) D cl wl A K KX mc ms := by
  refine MetFree.of_bodyS (code := cc) (maxLocals := maxL) (ret := ret) hy ?_ ?_
  · intro args s m h hn
    obtain ⟨meth, c, h1, h2, h3, h4, h5, h6, -, -⟩ := Cond.code_spec hn (atoms_spec (ws := ws) h _ (by rw [hw]; exact List.mem_cons_self))
    exact ⟨meth, c, h1, h2, h3, h4, h5, h6⟩
  · intro p e s m args below meth c s₁ B hml hv _
    obtain ⟨rfl, hP, hK, hN1⟩ := hv
    have hts := atoms_spec (ws := ws) B.pre
    have hown : s.vm.findClass own = some m.cls := by rw [ho]; exact findClass_of_methodNamed B.named
    have hh0 : s₁.heap = s.heap := by rw [B.state]; rfl
    have hE := B.noHandlers (hts _ (by rw [hw]; exact List.mem_cons_self))
    have hb := body p e s m _ below meth c ⟨B.exec, B.bytes, hml, hown, fun w h => hts w (by rw [hw]; exact List.mem_cons_of_mem _ h), hK, hD, hN1, hN⟩ B.notSynchronized B.returns hE s.heap [] _ (lv_entry vs hn) hP va_S.rf
    rw [← lg_entry_eq] at hb
    obtain ⟨t, a1, o, b1, b2, b3⟩ := hb s₁ hh0 (Stand.of_body B)
    exact ⟨t, o, a1, b1, b2, b3⟩
/-- the walk's own state is taken as a start -/
theorem x_rebase {T : State} {locs : List Loc} (X : Stand p l e R s m args below meth c T locs cells slots) (hc : cells + 1 ≤ R.cells) (hs : slots + 6 ≤ R.slots) :
    Stand p l e { frames := R.frames, locals := R.locals, cells := 1, slots := 6 } ((T.setVm s.vm).setFrames (.invoking m args :: below)) m args below meth c T [] 0 0 := by
  have htop : (T.setVm s.vm).topJava?.isSome := X.here.top
  have hF : ((T.setVm s.vm).setFrames (.invoking m args :: below)).frames = .invoking m args :: below := State.frames_setFrames _ (State.cur_lt_of_top htop)
  obtain ⟨g0, hg0⟩ := Option.isSome_iff_exists.mp htop
  obtain ⟨r, hr⟩ := State.topJava?_eq_some.mp hg0
  obtain ⟨th, hth, -⟩ := State.frames_cons hr
  have hl9 : e.platform.stackLimits (T.setVm s.vm).me = e.platform.stackLimits s.me := X.limits
  have hb9 : (T.setVm s.vm).me.stackBytes = s.me.stackBytes := X.bytes
  have hdrop : (T.heap.toList.drop T.heap.size).map (fun z : Cell => z.slots.size) = [] := by
    rw [List.drop_eq_nil_of_le (Nat.le_of_eq Array.length_toList)]; rfl
  have hU : ((T.setVm s.vm).setFrames (.invoking m args :: below)).localsInUse = s.localsInUse := by
    rw [State.localsInUse_invoking hF (meth := meth) (c := c) X.method X.code, State.localsInUse_invoking X.frames X.method X.code]
  have hroom := X.room
  have q1 := X.heapSize
  have q2 := X.used
  refine ⟨X.admits, X.cas, X.clock, hF, ?_, X.hears, X.method, X.code, X.here, X.tail, X.warmed, ?_, ?_, ?_⟩
  · simp only [State.hasRoom, Bool.and_eq_true, decide_eq_true_eq] at hroom ⊢
    obtain ⟨⟨⟨⟨h1, h2, h3, h4, h5, h6⟩, h7⟩, h8⟩, h9⟩ := hroom
    rw [X.frames, List.length_cons] at h2 h3
    simp only [hF, hU, List.length_cons, State.stackLimits_setFrames, State.stackBytes_setFrames, hl9, hb9]
    refine ⟨⟨⟨⟨by omega, by omega, by omega, by omega, by omega, h6⟩, ?_⟩, ?_⟩, X.book⟩
    · show T.heap.size + 1 ≤ e.platform.maxCells
      omega
    · show T.slotsUsed + 6 ≤ e.platform.maxSlots
      omega
  · rw [State.stackLimits_setFrames]; rfl
  · rw [State.stackBytes_setFrames]; rfl
  · refine ⟨?_, Nat.le_refl _, Nat.le_refl _, ?_, ?_, fun a z h => ⟨z, h, rfl, rfl, fun _ _ => rfl⟩⟩
    · show T.setVm s.vm = { ((T.setVm s.vm).setFrames (.invoking m args :: below)).setFrames (T.setVm s.vm).frames with heap := T.heap, slotsUsed := T.slotsUsed }
      rw [State.setFrames_setFrames, State.setFrames_self hth]
      rfl
    · show T.slotsUsed = T.slotsUsed + ((T.heap.toList.drop T.heap.size).map (fun z : Cell => z.slots.size)).sum
      rw [hdrop]; rfl
    · show ((T.heap.toList.drop T.heap.size).map (fun z : Cell => z.slots.size)).sum ≤ 0
      rw [hdrop]; exact Nat.le_refl _
/-- nothing old was written: the old cells stand -/
theorem x_old {s U : State} {k n : Nat} (h : s.sameButNew ({ U with vm := s.vm } : State) [] k n) : s.heap.size ≤ U.heap.size ∧ ∀ q : Nat, q < s.heap.size → U.heap[q]? = s.heap[q]? := by
  obtain ⟨-, h2, -, -, -, h6⟩ := h
  refine ⟨h2, fun q hq => ?_⟩
  obtain ⟨z, e1, e2, -, e4⟩ := h6 q _ (Array.getElem?_eq_getElem hq)
  have e1' : U.heap[q]? = some z := e1
  have hs : z.slots = (s.heap[q]).slots := Array.ext_getElem? fun i => e4 i (fun hm => nomatch hm)
  rw [hs] at e2
  rw [e1', e2, Array.getElem?_eq_getElem hq]
set_option maxHeartbeats 2000000 in
/-- throw new E("text") -/
theorem x_throw (X : Cx p s m args c cc nL own Gw D cl tys wl A N0) (hlt : l.stackTraces = false) (hlk : meth.locks = false) (hE : c.exceptionTable.isEmpty = true) {cls text : String} {names : List String} {ik is ic : Nat} (hcls : Bundle.fit cls = true) (hnm : ∀ n ∈ names, Bundle.fit n = true)
    (hat : ∀ s' : State, N0 s' → (∀ w ∈ Gw, w.before args s' = true) → (∀ w ∈ Bundle.ownAtoms own ic cls names, w.before args s' = true) ∧ (Cond.classLink own ik cls).before args s' = true ∧ (Cond.initialized cls).before args s' = true ∧ ∃ sa, (Cond.stringRef own is text).before args s' = true ∧ (Term.string own is).eval args s' none [] s' = some (.ref sa))
    (d0 : decode cc pc = .ok (.new ik, 3)) (d3 : decode cc (pc + 3) = .ok (.dup, 1)) (d4 : decode cc (pc + 4) = .ok (.ldc is, 2)) (d6 : decode cc (pc + 6) = .ok (.invokespecial ic, 3)) (d9 : decode cc (pc + 9) = .ok (.athrow, 1))
    (hf : names.length + 3 < R.frames) (hlo : (rest.map fun v => v.category).sum + (13 * (names.length + 1) + 43) ≤ R.locals) (hc : cells + 1 ≤ R.cells) (hs : slots + 6 ≤ R.slots) (hmc : cells + 1 ≤ mc) (hms : slots + 6 ≤ ms) (h : KX cls σ) :
    J p l e R s m args below meth c D cl wl A nL cells slots (XE below D cl wl A K KX args s mc ms) pc loc rest σ := by
  intro H locs ls hl hP hS T hT XT
  obtain ⟨hx, hb, hml, hown, hts, hK, hD, hN, hJk⟩ := X
  have htr : e.platform.stackTraces = false := (show e.platform.stackTraces = l.stackTraces by rw [XT.admits.platform]).trans hlt
  have Y := x_rebase XT hc hs
  obtain ⟨s', hA⟩ : ∃ z, z = (T.setVm s.vm).setFrames (.invoking m args :: below) := ⟨_, rfl⟩
  rw [← hA] at Y
  have hvm : s'.vm = s.vm := by rw [hA]; rfl
  have hhp : s'.heap = H := by rw [hA]; exact hT
  have hW0 : s.WarmedH s'.vm := by rw [hvm]; exact State.WarmedH.refl s
  have hN' : N0 s' := hJk s s' hW0 (by rw [hhp]; exact hS.1) (by rw [hhp]; exact hS.2.1) hN
  have hts' : ∀ w ∈ Gw, w.before args s' = true := fun w hw => word_at hW0 (gw_good hw) (hts w hw)
  obtain ⟨hatoms, hk', hini', sa, hstr1, hstr2⟩ := hat s' hN' hts'
  have hown' : s'.vm.findClass own = some m.cls := by rw [hvm]; exact hown
  have hins : (Cond.instantiable cls 6).before args s' = true := hatoms _ (by simp [Bundle.ownAtoms])
  have hout : ∀ x ∈ c.exceptionTable.toList, covers x (pc + 9) = false := by
    intro x hx
    have : c.exceptionTable.toList = [] := by simpa using hE
    rw [this] at hx
    cases hx
  obtain ⟨vm1, cX, kX, hfX, hkX, -, -, X1, st1⟩ := Y.newCold hx (own := own) (C := cls) (index := ik) (n := 6) hown' hk' hins hini' (g := F0 m pc ls rest) rfl (by rw [hb]; exact d0) (Nat.le_refl _) (Nat.le_refl _)
  generalize hT1 : (T.setVm vm1).pushCell { cls := cX, slots := kX.instanceTypes.map defaultValue, vm := .none } = T1 at X1 st1
  have hcat : (Value.ref T.heap.size).category = 1 := rfl
  have hcellA : T1.heap[T.heap.size]? = some (freshCell cX kX) := by rw [← hT1]; exact State.heap_pushCell_size _ _
  have d3' : decode c.code (pc + 3) = .ok (.dup, 1) := by rw [hb]; exact d3
  have d4' : decode c.code (pc + 4) = .ok (.ldc is, 2) := by rw [hb]; exact d4
  obtain ⟨U, hsteps, hrun, hend, hW, hsame, ce, hce, hO⟩ := X1.ctorThrowS hx htr (own := own) (cls := cls) (names := names) (ic := ic) hown' hcls hnm hatoms (fun x hx => nomatch hx) hfX hkX hcellA (by rw [hhp, hT]; exact Nat.le_refl _) (msg := .ref sa) rfl
    (g := { method := m, pc := pc + 6, locals := ls, stack := .ref sa :: .ref T.heap.size :: .ref T.heap.size :: rest, locked := none }) rfl (hl.1.trans hml.symm) rfl rfl (rest := rest) rfl
    (by rw [hb]; exact d6) (by rw [hb]; exact d9) hout hf (by show 2 * 0 + _ + _ ≤ R.locals; simp only [List.map_cons, List.sum_cons, hcat]; omega) hlk
  obtain ⟨f1, f2⟩ := x_old hsame
  rw [hhp] at f1 f2
  have hWs : s.WarmedH U.vm := State.WarmedH.trans hW0 hW
  have hcl : s.vm.findClass cls = some ce.cls := by
    have h9 := hO.cls
    rw [hvm] at h9
    exact h9
  have hall : s.sameButNew ({ U with vm := s.vm } : State) locs mc ms := by
    subst hA
    obtain ⟨e1, e2⟩ := hsame
    rw [State.setFrames_setFrames] at e1
    have h2 : (T.setVm s.vm).sameButNew ({ U with vm := s.vm } : State) [] (0 + 1) (0 + 6) := ⟨e1, e2⟩
    have h3 := XT.same.trans h2
    rw [List.append_nil] at h3
    exact h3.mono hmc hms
  refine ⟨U, ?_, .threw T.heap.size, hrun, hend, hWs, ⟨locs, hall, hS.2.2⟩, ⟨Nat.le_trans hS.1 f1, fun q h1 h2 => (f2 q (Nat.lt_of_lt_of_le h1 hS.1)).trans (hS.2.1 q h1 h2)⟩, Or.inr ⟨T.heap.size, cls, ce, σ, rfl, h, hP.kept (fun k q hk => f2 q.1 ((hP k q hk).lt)), hce, hO.vm, hcl⟩⟩
  refine st1 _ ?_
  show Steps p.tables e below (T1.setTop { method := m, pc := pc + 3, locals := ls, stack := .ref T.heap.size :: rest, locked := none }) _
  jvm_step X1.here [X1.here.top, hx, d3', Value.category]
  exact X1.ldcString hx (own := own) (text := text) (index := is) (a := sa) hown' hstr1 hstr2
    (g := { method := m, pc := pc + 4, locals := ls, stack := .ref T.heap.size :: .ref T.heap.size :: rest, locked := none }) rfl d4' _ hsteps
end XX
