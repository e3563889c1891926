/-! the law, from its entry -/
theorem kE_K {args : Array Value} {s : State} (hts : ∀ w ∈ lw_tbl, w.before args s = true) : ∃ g : kG, va_K g.1 vwCl (kT g) s := by
  obtain ⟨c0, i0, h0⟩ := u_known (C := RX0) (T := TX0) (N := 2) (n := 2) hts inX0 (hts (.instantiable RX0 2) (by decide +kernel))
  obtain ⟨c1, i1, h1⟩ := u_known (C := RX1) (T := TX1) (N := 2) (n := 2) hts inX1 (hts (.instantiable RX1 2) (by decide +kernel))
  obtain ⟨c2, i2, h2⟩ := u_known (C := RX2) (T := TX2) (N := 11) (n := 11) hts inX2 (hts (.instantiable RX2 11) (by decide +kernel))
  obtain ⟨c3, i3, h3⟩ := u_known (C := RX3) (T := TX3) (N := 4) (n := 4) hts inX3 (hts (.instantiable RX3 4) (by decide +kernel))
  obtain ⟨c4, i4, h4⟩ := u_known (C := RX4) (T := TX4) (N := 7) (n := 7) hts inX4 (hts (.instantiable RX4 7) (by decide +kernel))
  obtain ⟨cI, aI⟩ := kE_arrI (hts (.arrayClass .int) (by decide +kernel))
  obtain ⟨cZ, aZ⟩ := kE_arrZ (hts (.arrayClass .boolean) (by decide +kernel))
  obtain ⟨cQ, aQ⟩ := kE_arrQ (C := RX2) (hts (.arrayOver (.object RX2)) (by decide +kernel))
  refine ⟨((fun k => if k = 0 then c0 else if k = 1 then c1 else if k = 2 then c2 else if k = 3 then c3 else c4, fun k => if k = 0 then i0 else if k = 1 then i1 else if k = 2 then i2 else if k = 3 then i3 else i4), cI, cZ, cQ), fun k q hq => ?_, fun k q hk => ?_⟩
  · match k, hq with
    | 0, hq => cases hq; exact h0
    | 1, hq => cases hq; exact h1
    | 2, hq => cases hq; exact h2
    | 3, hq => cases hq; exact h3
    | 4, hq => cases hq; exact h4
    | k + 5, hq => simp [vwCl] at hq
  · match k, hk with
    | 0, hk => cases hk; exact aI
    | 1, hk => cases hk; exact aZ
    | 2, hk => cases hk; exact aQ
    | k + 3, hk => simp [kT] at hk
theorem k_wfN {g : kG} {b : Nat} {a h : Nat → Nat → Nat} (e : a 0 0 = b) : k_wN g a h = (b, .inr (4, [.ref (a 1 0), .ref (a 2 0), .ref (h 0 0), .ref (a 3 0), .ref (a 4 0), .ref (a 0 5), .int 0])) :: (k_wN g a h).tail := by rw [← e]; rfl
set_option maxHeartbeats 8000000 in
set_option maxRecDepth 100000 in
/-- from the entry, for every script of at most 260 ints, the law comes to its end with true -/
theorem whole_start {p : Program} {e : Env} {s : State} {m : MethodId} {below : List Frame} {meth : Method} {c : Code} (l : Launch) (hflags : l.flags = flags0) {b L : Nat} {xs : Nat → Int32} (hL : L ≤ 260) (C0 : lw_At p s m meth c b L xs) : W p l e room_1 s m #[Value.ref b] below meth c s.heap [] 0 0 (lw_Z below #[Value.ref b] s) (entryFrame m ([Value.ref b] : List Value).toArray 12) := by
  obtain ⟨hx, hb, hr, hml, hown, hts, hX, hbl, hlocks, hgv⟩ := id C0
  have hst := kE_flags hflags
  have hs := flat_of_before _ hgv
  have hA : ∀ q : Nat, s.heap.size ≤ q → (fun q : Nat => s.heap.size ≤ q) q := fun _ h => h
  have hbA : ¬ (fun q : Nat => s.heap.size ≤ q) b := Nat.not_le.mpr hbl
  have hts2 : ∀ w ∈ wsL_law, w.before #[Value.ref b] s = true := fun w hw => hts w (wsL_law_in w hw)
  have hC : CallFix p m c cL_law 12 s #[Value.ref b] wsL_law RL := ⟨hx, hb, hml, hown, hts2⟩
  obtain ⟨g, hK⟩ := kE_K hts
  have hG := kE_Gs hs hts
  have hN := kE_Ns hts
  have hS0 : va_S (fun q : Nat => s.heap.size ≤ q) s.heap s.heap [] := va_S.rf
  have hP0 : va_P g.1 vwCl [] s.heap := fun k q h => by simp at h
  have hD0 : va_D (fun q : Nat => s.heap.size ≤ q) [] := ⟨fun i j p q h => by simp at h, fun k q h => by simp at h⟩
  have hl := lv_entry ([.ref b]) (n := 12) (Nat.le_of_ble_eq_true rfl)
  rw [lg_entry_eq]
  generalize (lg_sl ([.ref b]) ++ List.replicate (12 - (lg_sl ([.ref b])).length) Slot.unset).toArray = ls at hl ⊢
  have hl : lv_has ls 12 [(0, .ref b)] := hl
  refine va_new (ci := 4) (fs := [.null, .null, .null, .null, .null, .null, .int 0]) (C := RX4) (T := TX4) (N := 7) hx hb hts inX4 tyX4 tyX4_ok hown (hts (.classLink RL 10 RX4) (by decide +kernel)) (hts (.instantiable RX4 7) (by decide +kernel)) (hts (.initialized RX4) (by decide +kernel)) hK hP0 hD0 hS0 hA rfl (fun j hj => by rcases (show j = 0 ∨ j = 1 ∨ j = 2 ∨ j = 3 ∨ j = 4 ∨ j = 5 ∨ j = 6 by omega) with rfl | rfl | rfl | rfl | rfl | rfl | rfl <;> rfl) (Nat.le_of_ble_eq_true rfl) (Nat.le_of_ble_eq_true rfl) dL_law_0 (fun q0 H hPa hDa hSa => ?_)
  clear hP0 hD0 hS0
  refine lv_dup hx hb dL_law_3 rfl ?_
  refine kn_callI (e0 := .inr (4, [.null, .null, .null, .null, .null, .null, .int 0])) (E := fun u : (Nat → Nat → Nat) × (Nat → Nat → Nat) => .inr (4, [.ref (u.1 1 0), .ref (u.1 2 0), .ref (u.2 0 0), .ref (u.1 3 0), .ref (u.1 4 0), .ref (u.1 0 5), .int 0])) (T := fun u : (Nat → Nat → Nat) × (Nat → Nat → Nat) => (k_wN g u.1 u.2).tail) (w' := fun u : (Nat → Nat → Nat) × (Nat → Nat → Nat) => k_wN g u.1 u.2) 0 hC (sX4_init l g q0) (cwI 0 hts2 gL_law_X4_init rfl rfl rfl (hts (.initialized RX4) (by decide +kernel)) (hts (.methodLink RL 94 yX4_init) (by decide +kernel)) (hts (.instanceMethod yX4_init) (by decide +kernel)) rfl (by decide +kernel) ⟨Nat.le_of_ble_eq_true rfl, Nat.le_of_ble_eq_true rfl⟩) hK hN hPa hDa hSa hA rfl (fun u hu => k_wfN (g := g) (a := u.1) (h := u.2) hu.1) (fun u hu => (k_wfN (g := g) (a := u.1) (h := u.2) hu.1).symm) hl.1 (Nat.le_of_ble_eq_true rfl) dL_law_4 ⟨Nat.le_of_ble_eq_true rfl, Nat.le_of_ble_eq_true rfl⟩ (fun u H locs hu hP hD hS => ?_)
  clear hPa hDa hSa
  obtain ⟨a, h⟩ := u
  obtain ⟨h1, e2⟩ := hu
  replace h1 : a 0 0 = q0 := h1
  replace e2 : a 0 2 = h 0 0 := e2
  subst h1
  obtain ⟨hP, hD⟩ := kn_order e2 hP hD
  refine lv_astore_n (lv' := [(1, .ref (a 0 0)), (0, .ref b)]) hx hb dL_law_7 rfl hl (by decide) rfl (fun ls hl => ?_)
  refine lv_iconst (v := nI 1) hx hb dL_law_8 (by decide) ?_
  refine lv_istore_n (i := 2) (lv' := [(2, .int (nI 1)), (1, .ref (a 0 0)), (0, .ref b)]) hx hb dL_law_9 rfl hl (by decide) rfl (fun ls hl => ?_)
  have J28 : ∀ (T9 : Nat), T9 ≤ 40 → ∀ (ls : Array Slot), lv_has ls 12 [(2, .int (nI 1)), (1, .ref (a 0 0)), (0, .ref b)] → W p l e room_1 s m #[Value.ref b] below meth c H locs (86 + 6 * 0) 729 (lw_Z below #[Value.ref b] s) (F0 m 28 ls [.int (nI T9)]) := by
    intro T9 hT ls hl
    refine lv_istore_n (i := 3) (lv' := [(3, .int (nI T9)), (2, .int (nI 1)), (1, .ref (a 0 0)), (0, .ref b)]) hx hb dL_law_28 rfl hl (by decide) rfl (fun ls hl => ?_)
    refine lv_iconst (v := nI 0) hx hb dL_law_29 (by decide) ?_
    refine lv_istore (i := 4) (lv' := [(4, .int (nI 0)), (3, .int (nI T9)), (2, .int (nI 1)), (1, .ref (a 0 0)), (0, .ref b)]) hx hb dL_law_30 hl (by decide) rfl (fun ls hl => ?_)
    refine kw_widen (k := 86 + 0) (j := 729 + 6 * 0) (by decide) (by decide) ?_
    refine kL_loop (n := 300000) (g := g) (A := fun q : Nat => s.heap.size ≤ q) (b := b) (L := L) (xs := xs) (a := a) (h := h) (Nat.le_refl _) hst hC hK hG hA hX hbl hbA hL hT (fun s9 c9 G V H locs ls hRS hP hD hS hl => ?_) T9 0 rfl s_new 0 k_G0 k_V0 H locs ls RS_fresh hP hD hS (lv_sub hl [0, 2, 1, 3, 4] rfl)
    refine lv_iload_n hx hb dL_law_255 rfl (lv_at hl 1 rfl) ?_
    refine kr_nmi (x := 1) rfl ?_
    refine va_forget (fun q hq => hS.2.2 q hq) ?_
    refine kw_widen (k := 600104) (j := 7301314) (by omega) (by omega) ?_
    exact lw_ret (s := s) (d0 := s.drawn) (Drawn.sameBut.refl s.drawn lw_cs) hx hb hr hlocks dL_law_256
  have hdiv : Int32.ofNat L / nI 3 = nI (L / 3) := pk_div (a := L) (d := 3) (by omega) (by omega) (by omega)
  refine lv_aload_n hx hb dL_law_10 rfl (lv_at hl 2 rfl) ?_
  refine va_slen hx hb hX hbl hbA hS dL_law_11 ?_
  refine lv_iconst (v := nI 3) hx hb dL_law_12 (by decide) ?_
  refine lv_idiv hx hb dL_law_13 (by decide) ?_
  refine kr_nmi (x := nI (L / 3)) hdiv.symm ?_
  refine lv_bipush (v := nI 40) hx hb dL_law_14 (by decide) ?_
  refine lv_icmp_le (tgt := 24) hx hb dL_law_16 (by decide) (fun k9 => ?_) (fun k9 => ?_)
  · replace k9 : nI (L / 3) ≤ nI 40 := k9
    rw [kl_le (by omega) (by omega)] at k9
    refine lv_aload_n hx hb dL_law_24 rfl (lv_at hl 2 rfl) ?_
    refine va_slen hx hb hX hbl hbA hS dL_law_25 ?_
    refine lv_iconst (v := nI 3) hx hb dL_law_26 (by decide) ?_
    refine lv_idiv hx hb dL_law_27 (by decide) ?_
    refine kr_nmi (x := nI (L / 3)) hdiv.symm ?_
    exact J28 (L / 3) k9 ls hl
  · refine lv_bipush (v := nI 40) hx hb dL_law_19 (by decide) ?_
    refine lv_goto (tgt := 28) hx hb dL_law_21 (by decide) ?_
    exact J28 40 (Nat.le_refl _) ls hl
