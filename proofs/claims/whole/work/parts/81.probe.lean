/-! probe -/
theorem kE_probe1 {args : Array Value} {s : State} (h : (Cond.arrayClass .int).before args s = true) : False := by
  have h2 := Cond.arrayClass_spec h
  trace_state
  sorry
theorem kE_probe2 {args : Array Value} {s : State} (h : (Cond.arrayOver (.object RX2)).before args s = true) : False := by
  have h2 := Cond.arrayOver_spec h
  trace_state
  sorry
theorem kE_probe3 {l : Launch} (h : l.flags = flags0) : l.stackTraces = false := by
  unfold Launch.stackTraces
  rw [h]
  trace_state
  decide +kernel
