/-! the throw sites of TeleStack; the handlers of the law's methods -/
abbrev excN : List String := ["java/lang/RuntimeException", "java/lang/Exception"]
def stL : List Cond := [.laysStatic Bundle.tN "UNASSIGNED_STACK" Bundle.steD, .laysStatic Bundle.tN "SUPPRESSED_SENTINEL" Bundle.listD, .isRef (.static Bundle.tN "UNASSIGNED_STACK" Bundle.steD), .isRef (.static Bundle.tN "SUPPRESSED_SENTINEL" Bundle.listD)]
theorem stL_ok {sz : Nat} {U : State} {args : Array Value} (h : NwT sz U) : ∀ w ∈ stL, w.before args U = true := by
  intro w hw
  simp only [stL, List.mem_cons, List.not_mem_nil, or_false] at hw
  rcases hw with rfl | rfl | rfl | rfl
  · exact h.2.2.1.lays
  · exact h.2.2.2.1.lays
  · exact h.2.2.1.ref
  · exact h.2.2.2.1.ref
theorem nwL_use {sz : Nat} {U : State} {args : Array Value} (h : NwT sz U) : ∀ w ∈ nwL, w.before args U = true := fun w hw => va_Nw.use ((by decide +kernel : ∀ w ∈ nwL, w.onTables = true) w hw) (h.1 w hw)
theorem str_use {sz : Nat} {U : State} {args : Array Value} (h : NwT sz U) {k : Nat} {t : String} (hk : (k, t) ∈ strL) : ∃ sa, (Cond.stringRef R_T k t).before args U = true ∧ (Term.string R_T k).eval args U none [] U = some (.ref sa) := by
  obtain ⟨a, h1, h2⟩ := h.2.2.2.2.1 _ hk
  exact ⟨a, h1, h2⟩
theorem tab1 {L : List ExceptionTableEntry} {a b h t : Nat} (hm : L.map (fun h => (h.startPc, h.endPc, h.handlerPc, h.catchType)) = [(a, b, h, t)]) : ∃ x : ExceptionTableEntry, L = [x] ∧ x.startPc = a ∧ x.endPc = b ∧ x.handlerPc = h ∧ x.catchType = t := by
  match L, hm with
  | [x], hm =>
    simp only [List.map_cons, List.map_nil, List.cons.injEq, Prod.mk.injEq, and_true] at hm
    exact ⟨x, rfl, hm.1, hm.2.1, hm.2.2.1, hm.2.2.2⟩
theorem tab2 {L : List ExceptionTableEntry} {a b h t a2 b2 h2 t2 : Nat} (hm : L.map (fun h => (h.startPc, h.endPc, h.handlerPc, h.catchType)) = [(a, b, h, t), (a2, b2, h2, t2)]) : ∃ x y : ExceptionTableEntry, L = [x, y] ∧ (x.startPc = a ∧ x.endPc = b ∧ x.handlerPc = h ∧ x.catchType = t) ∧ (y.startPc = a2 ∧ y.endPc = b2 ∧ y.handlerPc = h2 ∧ y.catchType = t2) := by
  match L, hm with
  | [x, y], hm =>
    simp only [List.map_cons, List.map_nil, List.cons.injEq, Prod.mk.injEq, and_true] at hm
    exact ⟨x, y, rfl, ⟨hm.1.1, hm.1.2.1, hm.1.2.2.1, hm.1.2.2.2⟩, ⟨hm.2.1, hm.2.2.1, hm.2.2.2.1, hm.2.2.2.2⟩⟩
