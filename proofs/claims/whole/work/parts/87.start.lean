/-! the law, from its entry -/
theorem kE_K {args : Array Value} {s : State} (hts : ∀ w ∈ lw_tbl, w.before args s = true) : ∃ g : kG, va_K g.1 vwCl (kT g) s := by
  obtain ⟨c0, i0, h0⟩ := u_known (C := RX0) (T := TX0) (N := 2) (n := 2) hts inX0 (hts (.instantiable RX0 2) (by decide +kernel))
  obtain ⟨c1, i1, h1⟩ := u_known (C := RX1) (T := TX1) (N := 2) (n := 2) hts inX1 (hts (.instantiable RX1 2) (by decide +kernel))
  obtain ⟨c2, i2, h2⟩ := u_known (C := RX2) (T := TX2) (N := 11) (n := 11) hts inX2 (hts (.instantiable RX2 11) (by decide +kernel))
  obtain ⟨c3, i3, h3⟩ := u_known (C := RX3) (T := TX3) (N := 4) (n := 4) hts inX3 (hts (.instantiable RX3 4) (by decide +kernel))
  obtain ⟨c4, i4, h4⟩ := u_known (C := RX4) (T := TX4) (N := 7) (n := 7) hts inX4 (hts (.instantiable RX4 7) (by decide +kernel))
  obtain ⟨c5, i5, h5⟩ := u_known (C := RX5) (T := TX5) (N := 12) (n := 12) hts inX5 (hts (.instantiable RX5 12) (by decide +kernel))
  obtain ⟨cI, aI⟩ := kE_arrI (hts (.arrayClass .int) (by decide +kernel))
  obtain ⟨cZ, aZ⟩ := kE_arrZ (hts (.arrayClass .boolean) (by decide +kernel))
  obtain ⟨cQ, aQ⟩ := kE_arrQ (C := RX2) (hts (.arrayOver (.object RX2)) (by decide +kernel))
  refine ⟨((fun k => if k = 0 then c0 else if k = 1 then c1 else if k = 2 then c2 else if k = 3 then c3 else if k = 4 then c4 else c5, fun k => if k = 0 then i0 else if k = 1 then i1 else if k = 2 then i2 else if k = 3 then i3 else if k = 4 then i4 else i5), cI, cZ, cQ), fun k q hq => ?_, fun k q hk => ?_⟩
  · match k, hq with
    | 0, hq => cases hq; exact h0
    | 1, hq => cases hq; exact h1
    | 2, hq => cases hq; exact h2
    | 3, hq => cases hq; exact h3
    | 4, hq => cases hq; exact h4
    | 5, hq => cases hq; exact h5
    | k + 6, hq => simp [vwCl] at hq
  · match k, hk with
    | 0, hk => cases hk; exact aI
    | 1, hk => cases hk; exact aZ
    | 2, hk => cases hk; exact aQ
    | k + 3, hk => simp [kT] at hk
theorem k_wfN {g : kG} {b : Nat} {a h : Nat → Nat → Nat} (e : a 0 0 = b) : k_wN g a h = (b, .inr (4, [.ref (a 1 0), .ref (a 2 0), .ref (h 0 0), .ref (a 3 0), .ref (a 4 0), .ref (a 0 5), .int 0])) :: (k_wN g a h).tail := by rw [← e]; rfl
theorem k_wfM {g : kG} {b : Nat} {u : Nat → Nat} (e : u 0 = b) : w_M g u k_M0 = (b, .inr (5, [.ref (u 1), .ref (u 2), .ref (u 3), .int (k_M0 3 0), .ref (u 5), .int (k_M0 5 0), .int (k_M0 6 0), .int (k_M0 7 0), .int (k_M0 8 0), .ref (u 10), .int (k_M0 10 0), .ref (u 12)])) :: (w_M g u k_M0).tail := by rw [← e]; rfl
set_option maxHeartbeats 8000000 in
set_option maxRecDepth 100000 in
/-- from the entry, for every script of at most 2560 ints, the law comes to its end with true -/
theorem whole_start {p : Program} {e : Env} {s : State} {m : MethodId} {below : List Frame} {meth : Method} {c : Code} (l : Launch) (hflags : l.flags = flags0) {b L : Nat} {xs : Nat → Int32} (hL : L ≤ 2560) (C0 : lw_At p s m meth c b L xs) : W p l e room_1 s m #[Value.ref b] below meth c s.heap [] 0 0 (lw_Z below #[Value.ref b] s) (entryFrame m ([Value.ref b] : List Value).toArray 9) := by
  obtain ⟨hx, hb, hr, hml, hown, hts, hX, hbl, hlocks, hgv⟩ := id C0
  have hst := kE_flags hflags
  have hs := flat_of_before _ hgv
  have hA : ∀ q : Nat, s.heap.size ≤ q → (fun q : Nat => s.heap.size ≤ q) q := fun _ h => h
  have hbA : ¬ (fun q : Nat => s.heap.size ≤ q) b := Nat.not_le.mpr hbl
  have hts2 : ∀ w ∈ wsL_law, w.before #[Value.ref b] s = true := fun w hw => hts w (wsL_law_in w hw)
  have hC : CallFix p m c cL_law 9 s #[Value.ref b] wsL_law RL := ⟨hx, hb, hml, hown, hts2⟩
  obtain ⟨g, hK⟩ := kE_K hts
  have hG := kE_Gs hs hts
  have hNx := kE_Nx hs
  have hN := kE_Ns hts
  have hS0 : va_S (fun q : Nat => s.heap.size ≤ q) s.heap s.heap [] := va_S.rf
  have hP0 : va_P g.1 vwCl [] s.heap := fun k q h => by simp at h
  have hD0 : va_D (fun q : Nat => s.heap.size ≤ q) [] := ⟨fun i j p q h => by simp at h, fun k q h => by simp at h⟩
  have hl := lv_entry ([.ref b]) (n := 9) (Nat.le_of_ble_eq_true rfl)
  rw [lg_entry_eq]
  generalize (lg_sl ([.ref b]) ++ List.replicate (9 - (lg_sl ([.ref b])).length) Slot.unset).toArray = ls at hl ⊢
  have hl : lv_has ls 9 [(0, .ref b)] := hl
  refine va_new (ci := 4) (fs := [.null, .null, .null, .null, .null, .null, .int 0]) (C := RX4) (T := TX4) (N := 7) hx hb hts inX4 tyX4 tyX4_ok hown (hts (.classLink RL 8 RX4) (by decide +kernel)) (hts (.instantiable RX4 7) (by decide +kernel)) (hts (.initialized RX4) (by decide +kernel)) hK hP0 hD0 hS0 hA rfl (fun j hj => by rcases (show j = 0 ∨ j = 1 ∨ j = 2 ∨ j = 3 ∨ j = 4 ∨ j = 5 ∨ j = 6 by omega) with rfl | rfl | rfl | rfl | rfl | rfl | rfl <;> rfl) (Nat.le_of_ble_eq_true rfl) (Nat.le_of_ble_eq_true rfl) dL_law_0 (fun q0 H hPa hDa hSa => ?_)
  clear hP0 hD0 hS0
  refine lv_dup hx hb dL_law_3 rfl ?_
  refine kn_callI (e0 := .inr (4, [.null, .null, .null, .null, .null, .null, .int 0])) (E := fun u : (Nat → Nat → Nat) × (Nat → Nat → Nat) => .inr (4, [.ref (u.1 1 0), .ref (u.1 2 0), .ref (u.2 0 0), .ref (u.1 3 0), .ref (u.1 4 0), .ref (u.1 0 5), .int 0])) (T := fun u : (Nat → Nat → Nat) × (Nat → Nat → Nat) => (k_wN g u.1 u.2).tail) (w' := fun u : (Nat → Nat → Nat) × (Nat → Nat → Nat) => k_wN g u.1 u.2) 0 hC (sX4_init l g q0) (cwI 0 hts2 gL_law_X4_init rfl rfl rfl (hts (.initialized RX4) (by decide +kernel)) (hts (.methodLink RL 78 yX4_init) (by decide +kernel)) (hts (.instanceMethod yX4_init) (by decide +kernel)) rfl (by decide +kernel) ⟨Nat.le_of_ble_eq_true rfl, Nat.le_of_ble_eq_true rfl⟩) hK hN hPa hDa hSa hA rfl (fun u hu => k_wfN (g := g) (a := u.1) (h := u.2) hu.1) (fun u hu => (k_wfN (g := g) (a := u.1) (h := u.2) hu.1).symm) hl.1 (Nat.le_of_ble_eq_true rfl) dL_law_4 ⟨Nat.le_of_ble_eq_true rfl, Nat.le_of_ble_eq_true rfl⟩ (fun u H locs hu hP hD hS => ?_)
  clear hPa hDa hSa
  obtain ⟨a, h⟩ := u
  obtain ⟨h1, e2⟩ := hu
  replace h1 : a 0 0 = q0 := h1
  replace e2 : a 0 2 = h 0 0 := e2
  subst h1
  obtain ⟨hP, hD⟩ := kn_order e2 hP hD
  refine lv_astore_n (lv' := [(1, .ref (a 0 0)), (0, .ref b)]) hx hb dL_law_7 rfl hl (by decide) rfl (fun ls hl => ?_)
  refine va_new (ci := 5) (fs := [.null, .null, .null, .int 0, .null, .int 0, .int 0, .int 0, .int 0, .null, .int 0, .null]) (C := RX5) (T := TX5) (N := 12) hx hb hts inX5 tyX5 tyX5_ok hown (hts (.classLink RL 79 RX5) (by decide +kernel)) (hts (.instantiable RX5 12) (by decide +kernel)) (hts (.initialized RX5) (by decide +kernel)) hK hP hD hS hA rfl (fun j hj => by rcases (show j = 0 ∨ j = 1 ∨ j = 2 ∨ j = 3 ∨ j = 4 ∨ j = 5 ∨ j = 6 ∨ j = 7 ∨ j = 8 ∨ j = 9 ∨ j = 10 ∨ j = 11 by omega) with rfl | rfl | rfl | rfl | rfl | rfl | rfl | rfl | rfl | rfl | rfl | rfl <;> rfl) (Nat.le_of_ble_eq_true rfl) (Nat.le_of_ble_eq_true rfl) dL_law_8 (fun q1 H hPa hDa hSa => ?_)
  clear hP hD hS
  refine lv_dup hx hb dL_law_11 rfl ?_
  refine kn_callI (e0 := .inr (5, [.null, .null, .null, .int 0, .null, .int 0, .int 0, .int 0, .int 0, .null, .int 0, .null])) (T := fun u => (w_M g u k_M0).tail) (w' := fun u => w_F g a k_G0 ++ w_H g (a 0 2) h k_V0 ++ w_M g u k_M0) 86 hC (sX5_init l g q1) (cwI 0 hts2 gL_law_X5_init rfl rfl rfl (hts (.initialized RX5) (by decide +kernel)) (hts (.methodLink RL 81 yX5_init) (by decide +kernel)) (hts (.instanceMethod yX5_init) (by decide +kernel)) rfl (by decide +kernel) ⟨Nat.le_of_ble_eq_true rfl, Nat.le_of_ble_eq_true rfl⟩) hK hN hPa hDa hSa hA (kn_lastg rfl) (fun u hu => k_wfM hu) (fun u hu => (kn_last rfl).trans (congrArg _ (k_wfM hu).symm)) hl.1 (Nat.le_of_ble_eq_true rfl) dL_law_12 ⟨Nat.le_of_ble_eq_true rfl, Nat.le_of_ble_eq_true rfl⟩ (fun u H locs hu hP hD hS => ?_)
  clear hPa hDa hSa
  replace hu : u 0 = q1 := hu
  subst hu
  refine lv_astore_n (lv' := [(2, .ref (u 0)), (1, .ref (a 0 0)), (0, .ref b)]) hx hb dL_law_15 rfl hl (by decide) rfl (fun ls hl => ?_)
  refine lv_iconst (v := (1 : Int32)) hx hb dL_law_16 (by decide) ?_
  refine va_newa (N' := 1) (a0 := (1, .inr (.inl fun _ => 0))) (atype := .long) hx hb (hts (.arrayClass .long) (by decide +kernel)) rfl hK hP hD hS hA (fun _ => rfl) (by decide) (by decide) (Nat.le_of_ble_eq_true rfl) (Nat.le_of_ble_eq_true rfl) (Nat.le_of_ble_eq_true rfl) dL_law_17 (fun o cA H hK4 hP hD hS => ?_)
  refine lv_astore_n (lv' := [(3, .ref o), (2, .ref (u 0)), (1, .ref (a 0 0)), (0, .ref b)]) hx hb dL_law_19 rfl hl (by decide) rfl (fun ls hl => ?_)
  refine lv_iconst (v := nI (5 * 0)) hx hb dL_law_20 (by decide) ?_
  refine lv_istore (i := 4) (lv' := [(4, .int (nI (5 * 0))), (3, .ref o), (2, .ref (u 0)), (1, .ref (a 0 0)), (0, .ref b)]) hx hb dL_law_21 hl (by decide) rfl (fun ls hl => ?_)
  refine kw_widen (k := 94 + 0) (j := 1421 + 6 * 0) (by decide) (by decide) ?_
  refine kB_loop (n := 300000) (g := g) (cL := cA) (A := fun q : Nat => s.heap.size ≤ q) (b := b) (L := L) (xs := xs) (a := a) (h := h) (mb := u) (o := o) ⟨hC, hst, hK4, hG, hNx, hA, hX, hbl, hbA, hL⟩ (Nat.le_refl _) ?_ 512 0 rfl (Nat.zero_le _) k_G0 k_V0 k_M0 (fun _ => 0) H locs ls hP hD hS RR_fresh (lv_sub hl [4, 3, 2, 1, 0] rfl)
  intro k hk G V M f H locs ls hP hD hS hRR hl
  refine lv_iconst (v := (1 : Int32)) hx hb dL_law_1506 (by decide) ?_
  refine va_forget (fun q hq => hS.2.2 q hq) ?_
  refine kw_widen (k := 617796) (j := 7242715) (by omega) (by omega) ?_
  exact lw_ret (s := s) (d0 := s.drawn) (Drawn.sameBut.refl s.drawn lw_cs) hx hb hr hlocks dL_law_1507
