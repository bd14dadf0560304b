/-! two statics of Throwable: laid below sz, holding a reference or null -/
def Zst (C n d : String) (sz : Nat) (U : State) : Prop := ∃ (c : ClassId) (k : Class) (i : Nat) (f : Field) (a : Nat) (cell : Cell), U.vm.findClass C = some c ∧ U.fieldFound? C n d = some (c, k, i, f) ∧ f.isStatic = true ∧ k.statics = some a ∧ U.heap[a]? = some cell ∧ cell.vm.isStatics = true ∧ cell.cls = c ∧ f.slot < cell.slots.size ∧ k.staticTypes[f.slot]? = some f.type ∧ (∃ u : RefV, cell.slots[f.slot]? = some u.v) ∧ a < sz
theorem Zst.of {C n d : String} {args : Array Value} {s : State} (hl : (Cond.laysStatic C n d).before args s = true) (hr : (Cond.isRef (.static C n d)).before args s = true) : Zst C n d s.heap.size s := by
  obtain ⟨c, k, i, f, a, cell, h1, h2, h3, h4, h5, h6, h7, h8, h9⟩ := Cond.laysStatic_spec hl
  exact ⟨c, k, i, f, a, cell, h1, h2, h3, h4, h5, h6, h7, h8, h9, Cond.staticRefV h2 h3 h4 h5 h6 hr, (Array.getElem?_eq_some_iff.mp h5).1⟩
theorem Zst.moved {C n d : String} {sz : Nat} {s U : State} (hW : s.WarmedH U.vm) (hz : sz ≤ s.heap.size) (hk : ∀ q : Nat, q < s.heap.size → ¬ sz ≤ q → U.heap[q]? = s.heap[q]?) (h : Zst C n d sz s) : Zst C n d sz U := by
  obtain ⟨c, k, i, f, a, cell, h1, h2, h3, h4, h5, h6, h7, h8, h9, h10, h11⟩ := h
  obtain ⟨k', hi', he⟩ := State.fieldFound?_setVm hW.alike h2
  exact ⟨c, k', i, f, a, cell, by rw [hW.alike.findClass]; exact h1, hi', h3, by rw [he]; exact h4, by rw [hk a (Nat.lt_of_lt_of_le h11 hz) (Nat.not_le.mpr h11)]; exact h5, h6, h7, h8, by rw [he]; exact h9, h10, h11⟩
theorem Zst.lays {C n d : String} {sz : Nat} {U : State} {args : Array Value} (h : Zst C n d sz U) : (Cond.laysStatic C n d).before args U = true := by
  obtain ⟨c, k, i, f, a, cell, h1, h2, h3, h4, h5, h6, h7, h8, h9, h10, h11⟩ := h
  simp [Cond.before, Cond.holds, Cond.value, h1, h2, h3, h4, h5, h6, h7, h8, h9]
theorem Zst.ref {C n d : String} {sz : Nat} {U : State} {args : Array Value} (h : Zst C n d sz U) : (Cond.isRef (.static C n d)).before args U = true := by
  obtain ⟨c, k, i, f, a, cell, h1, h2, h3, h4, h5, h6, h7, h8, h9, ⟨⟨v, hv⟩, h10⟩, h11⟩ := h
  have he : (Term.static C n d).eval args U none [] U = some v := by
    simp [Term.eval, State.fieldNamed?, h2, h3, h4, h5, h6, h10]
  simp only [Cond.before, Cond.holds, Cond.value, he]
  cases v <;> first | rfl | (simp [Value.isRef] at hv)
