/-! EVIDENCE, no proof of the claim: no start meets the words of tables_1. Two of them say of one method, LoopLifter$Machine.calculate, that it is not static ('declares') and that it is static ('static'). -/
set_option maxRecDepth 100000 in
theorem em_declares : Jvm.Cond.declares ⟨"LoopLifter$Machine", "calculate", "(III)I"⟩ ∈ tables_1 := by decide +kernel
set_option maxRecDepth 100000 in
theorem em_static : Jvm.Cond.static ⟨"LoopLifter$Machine", "calculate", "(III)I"⟩ ∈ tables_1 := by decide +kernel
theorem em_none {args : Array Value} {s : State} (h : ∀ w ∈ tables_1, w.before args s = true) : False := by
  obtain ⟨m, meth, h1, h2, h3, -⟩ := Cond.declares_spec (h _ em_declares)
  have h4 := Cond.static_spec h1 h2 (h _ em_static)
  rw [h3] at h4
  cases h4
