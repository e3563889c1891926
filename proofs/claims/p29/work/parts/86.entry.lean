/-! the law's entry: what the statement gives of the start -/
theorem kE_str {args : Array Value} {s : State} {k : Nat} {tx : String} (h1 : (Cond.stringRef RX4 k tx).before args s = true) (h2 : (Cond.exactly (.string RX4 k) "java/lang/String").before args s = true) : ∃ sa, vk_R RX4 k tx sa s := by
  cases hv : (Term.string RX4 k).eval args s none [] s with
  | none => simp [Cond.before, Cond.holds, Cond.value, hv] at h2
  | some w =>
    cases w with
    | ref a => exact ⟨a, vk_R.of h1 hv⟩
    | null => cases hf : s.vm.findClass "java/lang/String" <;> simp [Cond.before, Cond.holds, Cond.value, hv, hf] at h2
    | _ => simp [Cond.before, Cond.holds, Cond.value, hv] at h2
abbrev kE_f : List Cond := flatC (Jvm.Cond.and given_1 narrow_1)
theorem kE_strs {args : Array Value} {s : State} (hs : ∀ w ∈ kE_f, w.before args s = true) (hts : ∀ w ∈ lw_tbl, w.before args s = true) : ∀ q ∈ k_strs, ∃ sa, vk_R RX4 q.1 q.2 sa s := by
  exact List.forall_mem_cons.mpr ⟨kE_str (k := 53) (hts _ (by decide +kernel)) (hs _ (by decide +kernel)), List.forall_mem_cons.mpr ⟨kE_str (k := 64) (hts _ (by decide +kernel)) (hs _ (by decide +kernel)), List.forall_mem_cons.mpr ⟨kE_str (k := 69) (hts _ (by decide +kernel)) (hs _ (by decide +kernel)), List.forall_mem_cons.mpr ⟨kE_str (k := 248) (hts _ (by decide +kernel)) (hs _ (by decide +kernel)), List.forall_mem_cons.mpr ⟨kE_str (k := 115) (hts _ (by decide +kernel)) (hs _ (by decide +kernel)), List.forall_mem_cons.mpr ⟨kE_str (k := 123) (hts _ (by decide +kernel)) (hs _ (by decide +kernel)), List.forall_mem_cons.mpr ⟨kE_str (k := 250) (hts _ (by decide +kernel)) (hs _ (by decide +kernel)), List.forall_mem_cons.mpr ⟨kE_str (k := 252) (hts _ (by decide +kernel)) (hs _ (by decide +kernel)), List.forall_mem_cons.mpr ⟨kE_str (k := 147) (hts _ (by decide +kernel)) (hs _ (by decide +kernel)), List.forall_mem_cons.mpr ⟨kE_str (k := 175) (hts _ (by decide +kernel)) (hs _ (by decide +kernel)), List.forall_mem_cons.mpr ⟨kE_str (k := 180) (hts _ (by decide +kernel)) (hs _ (by decide +kernel)), List.forall_mem_cons.mpr ⟨kE_str (k := 185) (hts _ (by decide +kernel)) (hs _ (by decide +kernel)), List.forall_mem_cons.mpr ⟨kE_str (k := 196) (hts _ (by decide +kernel)) (hs _ (by decide +kernel)), List.forall_mem_cons.mpr ⟨kE_str (k := 201) (hts _ (by decide +kernel)) (hs _ (by decide +kernel)), fun _ h9 => absurd h9 List.not_mem_nil⟩⟩⟩⟩⟩⟩⟩⟩⟩⟩⟩⟩⟩⟩
theorem kE_k_lo {args : Array Value} {s : State} (hs : ∀ w ∈ kE_f, w.before args s = true) (hts : ∀ w ∈ lw_tbl, w.before args s = true) : ∃ t : Nat, va_Z "FloatOrder" "LEAST_SETTINGS" "[I" (.ref t) (fun q : Nat => s.heap.size ≤ q) s s.heap ∧ va_T .int t 4 (fun j => .int (k_lo j)) (fun q : Nat => s.heap.size ≤ q) s s.heap := by
  have hA : ∀ a : Nat, a < s.heap.size → ¬ (fun q : Nat => s.heap.size ≤ q) a := fun a h => Nat.not_le.mpr h
  have hel : ∀ j : Nat, j < 4 → (Term.elem (.static "FloatOrder" "LEAST_SETTINGS" "[I") (.int (Int32.ofNat j))).eval args s none [] s = some (Value.int (k_lo j)) := by
    intro j hj
    rcases (show j = 0 ∨ j = 1 ∨ j = 2 ∨ j = 3 by omega) with rfl | rfl | rfl | rfl
    · exact va_eqt (z := 1) (hs (.eq (.elem (.static "FloatOrder" "LEAST_SETTINGS" "[I") (.int (Int32.ofNat 0))) (.int 1)) (by decide +kernel))
    · exact va_eqt (z := 1) (hs (.eq (.elem (.static "FloatOrder" "LEAST_SETTINGS" "[I") (.int (Int32.ofNat 1))) (.int 1)) (by decide +kernel))
    · exact va_eqt (z := 1) (hs (.eq (.elem (.static "FloatOrder" "LEAST_SETTINGS" "[I") (.int (Int32.ofNat 2))) (.int 1)) (by decide +kernel))
    · exact va_eqt (z := 0) (hs (.eq (.elem (.static "FloatOrder" "LEAST_SETTINGS" "[I") (.int (Int32.ofNat 3))) (.int 0)) (by decide +kernel))
  obtain ⟨t, ht, hT⟩ := va_Tof (tm := .static "FloatOrder" "LEAST_SETTINGS" "[I") (ty := .int) (N := 4) (f := fun j => .int (k_lo j)) (A := fun q : Nat => s.heap.size ≤ q) (by decide) (hs _ (by decide +kernel)) (va_eqt (z := Int32.ofNat 4) (hs _ (by decide +kernel))) hel hA
  exact ⟨t, va_Zref (hts (.laysStatic "FloatOrder" "LEAST_SETTINGS" "[I") (by decide +kernel)) (hts (.initialized "FloatOrder") (by decide +kernel)) ht hA, hT⟩
theorem kE_k_hi {args : Array Value} {s : State} (hs : ∀ w ∈ kE_f, w.before args s = true) (hts : ∀ w ∈ lw_tbl, w.before args s = true) : ∃ t : Nat, va_Z "FloatOrder" "GREATEST_SETTINGS" "[I" (.ref t) (fun q : Nat => s.heap.size ≤ q) s s.heap ∧ va_T .int t 4 (fun j => .int (k_hi j)) (fun q : Nat => s.heap.size ≤ q) s s.heap := by
  have hA : ∀ a : Nat, a < s.heap.size → ¬ (fun q : Nat => s.heap.size ≤ q) a := fun a h => Nat.not_le.mpr h
  have hel : ∀ j : Nat, j < 4 → (Term.elem (.static "FloatOrder" "GREATEST_SETTINGS" "[I") (.int (Int32.ofNat j))).eval args s none [] s = some (Value.int (k_hi j)) := by
    intro j hj
    rcases (show j = 0 ∨ j = 1 ∨ j = 2 ∨ j = 3 by omega) with rfl | rfl | rfl | rfl
    · exact va_eqt (z := 6) (hs (.eq (.elem (.static "FloatOrder" "GREATEST_SETTINGS" "[I") (.int (Int32.ofNat 0))) (.int 6)) (by decide +kernel))
    · exact va_eqt (z := 9) (hs (.eq (.elem (.static "FloatOrder" "GREATEST_SETTINGS" "[I") (.int (Int32.ofNat 1))) (.int 9)) (by decide +kernel))
    · exact va_eqt (z := 9) (hs (.eq (.elem (.static "FloatOrder" "GREATEST_SETTINGS" "[I") (.int (Int32.ofNat 2))) (.int 9)) (by decide +kernel))
    · exact va_eqt (z := 20) (hs (.eq (.elem (.static "FloatOrder" "GREATEST_SETTINGS" "[I") (.int (Int32.ofNat 3))) (.int 20)) (by decide +kernel))
  obtain ⟨t, ht, hT⟩ := va_Tof (tm := .static "FloatOrder" "GREATEST_SETTINGS" "[I") (ty := .int) (N := 4) (f := fun j => .int (k_hi j)) (A := fun q : Nat => s.heap.size ≤ q) (by decide) (hs _ (by decide +kernel)) (va_eqt (z := Int32.ofNat 4) (hs _ (by decide +kernel))) hel hA
  exact ⟨t, va_Zref (hts (.laysStatic "FloatOrder" "GREATEST_SETTINGS" "[I") (by decide +kernel)) (hts (.initialized "FloatOrder") (by decide +kernel)) ht hA, hT⟩
theorem kE_Gs {args : Array Value} {s : State} (hs : ∀ w ∈ kE_f, w.before args s = true) (hts : ∀ w ∈ lw_tbl, w.before args s = true) : k_Gs (fun q : Nat => s.heap.size ≤ q) s s.heap := by
  have hA : ∀ a : Nat, a < s.heap.size → ¬ (fun q : Nat => s.heap.size ≤ q) a := fun a h => Nat.not_le.mpr h
  have hi : (Cond.initialized Bundle.tN).before args s = true := hts _ (by decide +kernel)
  have c1 : va_Nw (.castable "java/lang/IndexOutOfBoundsException" "java/lang/IndexOutOfBoundsException") s := va_Nw.of rfl (hts _ (by decide +kernel))
  have c2 : va_Nw (.castable "java/lang/IllegalArgumentException" "java/lang/IllegalArgumentException") s := va_Nw.of rfl (hts _ (by decide +kernel))
  have c3 : va_Nw (.castable "java/lang/IllegalStateException" "java/lang/IllegalStateException") s := va_Nw.of rfl (hts _ (by decide +kernel))
  refine ⟨⟨vx_Zqof (hts _ (by decide +kernel)) hi (hs _ (by decide +kernel)) hA, vx_Zqof (hts _ (by decide +kernel)) hi (hs _ (by decide +kernel)) hA⟩, ⟨kE_k_lo hs hts, kE_k_hi hs hts⟩, kE_strs hs hts, ?_, ?_⟩
  · intro k
    match k with
    | 0 => exact c3
    | 1 => exact c1
    | 2 => exact c2
    | k + 3 => exact c3
  · exact List.forall_mem_cons.mpr ⟨va_Nw.of rfl (hts _ (by decide +kernel)), List.forall_mem_cons.mpr ⟨va_Nw.of rfl (hts _ (by decide +kernel)), List.forall_mem_cons.mpr ⟨va_Nw.of rfl (hts _ (by decide +kernel)), fun _ h9 => absurd h9 List.not_mem_nil⟩⟩⟩
theorem kE_Ns {args : Array Value} {s : State} (hts : ∀ w ∈ lw_tbl, w.before args s = true) : k_Ns s :=
  ⟨va_AO.of (hts _ (by decide +kernel)), va_Nw.of rfl (hts _ (by decide +kernel)), va_Nw.of rfl (hts _ (by decide +kernel)), va_Nw.of rfl (hts _ (by decide +kernel)), va_Nw.of rfl (hts _ (by decide +kernel))⟩
theorem kE_flags {l : Launch} (h : l.flags = flags0) : l.stackTraces = false := by
  unfold Launch.stackTraces
  rw [h]
  decide +kernel
theorem kE_arrI {args : Array Value} {s : State} (h : (Cond.arrayClass .int).before args s = true) : ∃ c, ArrOfT s c .int ∧ va_RA s c .int := by
  obtain ⟨c, k, comp, h1, h2, h3⟩ := Cond.arrayClass_spec h
  exact ⟨c, fun n z => ⟨fun k h => (by cases h), k, h2, comp, h3⟩, h1⟩
theorem kE_arrZ {args : Array Value} {s : State} (h : (Cond.arrayClass .boolean).before args s = true) : ∃ c, ArrOfT s c .boolean ∧ va_RA s c .boolean := by
  obtain ⟨c, k, comp, h1, h2, h3⟩ := Cond.arrayClass_spec h
  exact ⟨c, fun n z => ⟨fun k h => (by cases h), k, h2, comp, h3⟩, h1⟩
theorem kE_arrQ {args : Array Value} {s : State} {C : String} (h : (Cond.arrayOver (.object C)).before args s = true) : ∃ c, ArrOfT s c (.object C) ∧ va_RA s c (.object C) := by
  obtain ⟨comp, c, k, h1, h2, h3, h4, h5⟩ := Cond.arrayOver_spec h
  exact ⟨c, fun n z => ⟨fun k h => (by cases h), k, h3, comp, h4⟩, k, comp, h3, h4, h1, h5⟩
