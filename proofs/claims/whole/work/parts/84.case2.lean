/-! the law, case by case -/
section KBody
variable {p : Program} {l : Launch} {e : Env} {s : State} {m : MethodId} {args : Array Value} {below : List Frame} {meth : Method} {c : Code} {Q : State → Prop} {g : kG} {cL : ClassId} {A : Nat → Prop} {b L : Nat} {xs : Nat → Int32} {a h : Nat → Nat → Nat} {mb : Nat → Nat} {o k n : Nat}
set_option maxHeartbeats 8000000 in
set_option maxRecDepth 100000 in
theorem kB_arrange (E : kL_E p l s m args c g cL A b L xs) (hk : 5 * k + 5 ≤ L) (hn : 300000 ≤ n) {c0 s0 : Nat} (hf : c0 + 1 ≤ 617796 ∧ s0 + 6 ≤ 7242715) (J : kL_J p l e s m args below meth c Q g cL A b a h mb o k 1500 (c0 + 1) (s0 + 6)) {G V : St2} {M : St1} {f : Nat → Int64} (hRR : RR G V M) {H : Heap} {locs : List Loc} {ls : Array Slot} (hP : va_P g.1 vwCl (kL_w g cL a h mb o G V M f) H) (hD : va_D A (kL_w g cL a h mb o G V M f)) (hS : va_S A s.heap H locs) (hl : lv_has ls 9 (kL_l b a mb o k)) : W p l e room_1 s m args below meth c H locs c0 s0 Q (F0 m 524 ls []) := by
  obtain ⟨hC, hst, hK4, hG, hNx, hA, hX, hbl, hbA, hL⟩ := id E
  obtain ⟨hx, hb, hml, hown, hts⟩ := id hC
  have hK := kT4_sub hK4
  obtain ⟨h_0, h_1, h_2, h_3, h_4⟩ := kL_in hk hL
  obtain ⟨r, G1, V1, M1, e1, e2, -, hR2⟩ := st_arrange (n := n) hn hRR
  obtain ⟨fs, hfs⟩ := kL_0 (g := g) (cL := cL) (a := a) (h := h) (b := mb) (o := o) (G := G) (V := V) (M := M) (f := f)
  obtain ⟨fs2, hfs2⟩ := (kL_86 (g := g) (cL := cL) (a := a) (h := h) (b := mb) (o := o) (G := G1) (V := V1) (M := M) (f := f))
  refine kw_widen (k := c0 + 1) (j := s0 + 6) (Nat.le_add_right _ _) (Nat.le_add_right _ _) ?_
  refine lv_aload_n hx hb dL_law_524 rfl (lv_at hl 1 rfl) ?_
  refine kr_Vi (w' := kL_w g cL a h mb o G1 V1 M f) (As := []) (rest := []) 0 4 hC (sX4_arrange l g n a h G V (r, G1, V1) e1) (cwV 0 hts gL_law_X4_arrange rfl rfl rfl (by decide +kernel) ⟨Nat.le_of_ble_eq_true rfl, Nat.le_of_ble_eq_true rfl⟩) hK hP hD hS hA kL_iA kL_mA kL_nA rfl kL_sA rfl hfs rfl rfl rfl hl.1 (Nat.le_of_ble_eq_true rfl) dL_law_525 hf (fun H locs hP hD hS => ?_)
  refine lv_aload_n hx hb dL_law_528 rfl (lv_at hl 2 rfl) ?_
  refine kr_Vi (w' := kL_w g cL a h mb o G1 V1 M1 f) (As := []) (rest := [.int r]) 86 5 hC (sX5_arrange l g n mb M (r, M1) e2) (cwV 0 hts gL_law_X5_arrange rfl rfl rfl (by decide +kernel) ⟨Nat.le_of_ble_eq_true rfl, Nat.le_of_ble_eq_true rfl⟩) hK hP hD hS hA kL_iM kL_mM kL_nM rfl kL_sM rfl hfs2 rfl rfl rfl hl.1 (Nat.le_of_ble_eq_true rfl) dL_law_529 hf (fun H locs hP hD hS => ?_)
  exact lv_icmp_eq (tgt := 1500) hx hb dL_law_532 (by decide) (fun _ => J G1 V1 M1 f H locs ls hP hD hS hR2 hl) (fun c9 => absurd rfl c9)
set_option maxHeartbeats 8000000 in
set_option maxRecDepth 100000 in
theorem kB_bridge_T (E : kL_E p l s m args c g cL A b L xs) (hk : 5 * k + 5 ≤ L) {c1 s1 : Nat} (hf : c1 ≤ 617796 ∧ s1 ≤ 7242715) (J : kL_J p l e s m args below meth c Q g cL A b a h mb o k 1500 c1 s1) {G V : St2} {M M1 : St1} {f : Nat → Int64} {r v5 : Int32} (hM : fX5_bridge n M (kL_x xs k 1) (kL_x xs k 2) = some (r, M1)) (h6 : M1 6 0 = v5) (h0 : v5 = 0 → f (0 : Int32).toNatClampNeg = r.toInt64) (hRR : RR G V M1) {H : Heap} {locs : List Loc} {ls : Array Slot} (hP : va_P g.1 vwCl (kL_w g cL a h mb o G V M f) H) (hD : va_D A (kL_w g cL a h mb o G V M f)) (hS : va_S A s.heap H locs) (hl : lv_has ls 9 (kL_l b a mb o k)) : W p l e room_1 s m args below meth c H locs c1 s1 Q (F0 m 554 ls [.int v5]) := by
  obtain ⟨hC, hst, hK4, hG, hNx, hA, hX, hbl, hbA, hL⟩ := id E
  obtain ⟨hx, hb, hml, hown, hts⟩ := id hC
  have hK := kT4_sub hK4
  obtain ⟨h_0, h_1, h_2, h_3, h_4⟩ := kL_in hk hL
  obtain ⟨fs, hfs⟩ := (kL_86 (g := g) (cL := cL) (a := a) (h := h) (b := mb) (o := o) (G := G) (V := V) (M := M) (f := f))
  obtain ⟨fs2, hfs2⟩ := (kL_86 (g := g) (cL := cL) (a := a) (h := h) (b := mb) (o := o) (G := G) (V := V) (M := M1) (f := f))
  refine lv_istore (i := 5) (lv' := (5, .int v5) :: kL_l b a mb o k) hx hb dL_law_554 hl (by decide) rfl (fun ls hl => ?_)
  refine lv_aload_n hx hb dL_law_556 rfl (lv_at hl 3 rfl) ?_
  refine lv_aload_n hx hb dL_law_557 rfl (lv_at hl 1 rfl) ?_
  refine lv_iload hx hb dL_law_558 (lv_at hl 5 rfl) ?_
  refine lv_iconst (v := (1 : Int32)) hx hb dL_law_560 (by decide) ?_
  refine lv_iadd hx hb dL_law_561 ?_
  refine va_sld hx hb hX hbl hbA hS h_1 dL_law_562 ?_
  refine lv_aload_n hx hb dL_law_563 rfl (lv_at hl 1 rfl) ?_
  refine lv_iload hx hb dL_law_564 (lv_at hl 5 rfl) ?_
  refine lv_iconst (v := (2 : Int32)) hx hb dL_law_566 (by decide) ?_
  refine lv_iadd hx hb dL_law_567 ?_
  refine va_sld hx hb hX hbl hbA hS h_2 dL_law_568 ?_
  refine kr_Vi (w' := kL_w g cL a h mb o G V M1 f) (As := [.int (kL_x xs k 1), .int (kL_x xs k 2)]) (rest := []) 86 5 hC (sX5_bridge l g n mb M (kL_x xs k 1) (kL_x xs k 2) (r, M1) hM) (cwV 2 hts gL_law_X5_bridge rfl rfl rfl (by decide +kernel) ⟨Nat.le_of_ble_eq_true rfl, Nat.le_of_ble_eq_true rfl⟩) hK hP hD hS hA kL_iM kL_mM kL_nM rfl kL_sM rfl hfs rfl rfl rfl hl.1 (Nat.le_of_ble_eq_true rfl) dL_law_569 hf (fun H locs hP hD hS => ?_)
  refine lv_istore (i := 6) (lv' := (6, .int r) :: (5, .int v5) :: kL_l b a mb o k) hx hb dL_law_572 hl (by decide) rfl (fun ls hl => ?_)
  refine lv_aload_n hx hb dL_law_574 rfl (lv_at hl 4 rfl) ?_
  refine kr_Vi (w' := kL_w g cL a h mb o G V M1 f) (As := []) (rest := []) 86 5 hC (sX5_thrown l g n mb M1 (M1 6 0) rfl) (cwV 0 hts gL_law_X5_thrown rfl rfl rfl (by decide +kernel) ⟨Nat.le_of_ble_eq_true rfl, Nat.le_of_ble_eq_true rfl⟩) hK hP hD hS hA kL_iM kL_mM kL_nM rfl kL_sM rfl hfs2 rfl rfl rfl hl.1 (Nat.le_of_ble_eq_true rfl) dL_law_575 hf (fun H locs hP hD hS => ?_)
  refine lv_iload hx hb dL_law_578 (lv_at hl 1 rfl) ?_
  refine lv_icmp_eq (tgt := 585) hx hb dL_law_580 (by decide) (fun _ => ?_) (fun c9 => absurd h6 c9)
  refine lv_iload hx hb dL_law_585 (lv_at hl 1 rfl) ?_
  have J2 : W p l e room_1 s m args below meth c H locs c1 s1 Q (F0 m 602 ls []) := lv_goto (tgt := 1500) hx hb dL_law_602 (by decide) (J G V M1 f H locs ls hP hD hS hRR (lv_sub hl [2, 3, 4, 5, 6] rfl))
  refine lv_if_ne (tgt := 602) hx hb dL_law_587 (by decide) (fun _ => J2) (fun c9 => ?_)
  refine lv_aload_n hx hb dL_law_590 rfl (lv_at hl 5 rfl) ?_
  refine lv_iconst (v := (0 : Int32)) hx hb dL_law_591 (by decide) ?_
  refine va_lald hx hb hK4 hP 93 3 kL_93 rfl (kk_in 0 1 (by decide) (by decide) rfl) dL_law_592 ?_
  refine lv_iload hx hb dL_law_593 (lv_at hl 0 rfl) ?_
  refine lv_i2l (v := r.toInt64) hx hb dL_law_595 rfl ?_
  refine W.lcmp hx hb dL_law_596 ?_
  exact lv_if_eq (tgt := 602) hx hb dL_law_597 (by decide) (fun _ => J2) (fun c9 => absurd (kL_cm (h0 (by assumption))) c9)
set_option maxHeartbeats 8000000 in
set_option maxRecDepth 100000 in
theorem kB_bridge (E : kL_E p l s m args c g cL A b L xs) (hk : 5 * k + 5 ≤ L) (hn : 300000 ≤ n) {c0 s0 : Nat} (hf : c0 + 1 ≤ 617796 ∧ s0 + 6 ≤ 7242715) (J : kL_J p l e s m args below meth c Q g cL A b a h mb o k 1500 (c0 + 1) (s0 + 6)) {G V : St2} {M : St1} {f : Nat → Int64} (hRR : RR G V M) {H : Heap} {locs : List Loc} {ls : Array Slot} (hP : va_P g.1 vwCl (kL_w g cL a h mb o G V M f) H) (hD : va_D A (kL_w g cL a h mb o G V M f)) (hS : va_S A s.heap H locs) (hl : lv_has ls 9 (kL_l b a mb o k)) : W p l e room_1 s m args below meth c H locs c0 s0 Q (F0 m 537 ls []) := by
  obtain ⟨hC, hst, hK4, hG, hNx, hA, hX, hbl, hbA, hL⟩ := id E
  obtain ⟨hx, hb, hml, hown, hts⟩ := id hC
  have hK := kT4_sub hK4
  obtain ⟨h_0, h_1, h_2, h_3, h_4⟩ := kL_in hk hL
  refine lv_aload_n hx hb dL_law_537 rfl (lv_at hl 1 rfl) ?_
  refine lv_aload_n hx hb dL_law_538 rfl (lv_at hl 0 rfl) ?_
  refine lv_iload hx hb dL_law_539 (lv_at hl 4 rfl) ?_
  refine lv_iconst (v := (1 : Int32)) hx hb dL_law_541 (by decide) ?_
  refine lv_iadd hx hb dL_law_542 ?_
  refine va_sld hx hb hX hbl hbA hS h_1 dL_law_543 ?_
  refine lv_aload_n hx hb dL_law_544 rfl (lv_at hl 0 rfl) ?_
  refine lv_iload hx hb dL_law_545 (lv_at hl 4 rfl) ?_
  refine lv_iconst (v := (2 : Int32)) hx hb dL_law_547 (by decide) ?_
  refine lv_iadd hx hb dL_law_548 ?_
  refine va_sld hx hb hX hbl hbA hS h_2 dL_law_549 ?_
  refine lv_aload_n hx hb dL_law_550 rfl (lv_at hl 3 rfl) ?_
  rcases st_bridge (n := n) (by omega) hRR (kL_x xs k 1) (kL_x xs k 2) with ⟨t, r, M1, e1, hk9, e2, e3, hR2⟩ | ⟨r, G1, V1, M1, e1, e2, e3, hR2⟩
  · simp only [List.mem_cons, List.not_mem_nil, or_false] at hk9
    rcases hk9 with rfl | rfl
    · refine kr_wrap (w' := kL_w g cL a h mb o G V M f) (As := [.ref (a 0 0), .int (kL_x xs k 1), .int (kL_x xs k 2), .ref o]) (rest := []) hC (sL_bridge_t2 l hst g cL n a h G V o f (kL_x xs k 1) (kL_x xs k 2) e1) (vx_cwSW 4 hts gL_law_L_bridge rfl rfl rfl (by decide +kernel) ⟨Nat.le_of_ble_eq_true rfl, Nat.le_of_ble_eq_true rfl⟩) hK4 hG hNx hP hD hS hA kL_iF kL_mF kL_nF rfl kL_sF rfl rfl hl.1 (Nat.le_of_ble_eq_true rfl) dL_law_551 hf (fun H locs hP hD hS => ?_)
      exact kB_bridge_T E hk hf J e2 (e3.trans rfl) (fun h9 => absurd h9 (by decide)) hR2 hP hD hS hl
    · refine kr_wrap (w' := kL_w g cL a h mb o G V M f) (As := [.ref (a 0 0), .int (kL_x xs k 1), .int (kL_x xs k 2), .ref o]) (rest := []) hC (sL_bridge_t3 l hst g cL n a h G V o f (kL_x xs k 1) (kL_x xs k 2) e1) (vx_cwSW 4 hts gL_law_L_bridge rfl rfl rfl (by decide +kernel) ⟨Nat.le_of_ble_eq_true rfl, Nat.le_of_ble_eq_true rfl⟩) hK4 hG hNx hP hD hS hA kL_iF kL_mF kL_nF rfl kL_sF rfl rfl hl.1 (Nat.le_of_ble_eq_true rfl) dL_law_551 hf (fun H locs hP hD hS => ?_)
      exact kB_bridge_T E hk hf J e2 (e3.trans rfl) (fun h9 => absurd h9 (by decide)) hR2 hP hD hS hl
  · refine kr_wrap (w' := kL_w g cL a h mb o G1 V1 M (vp_updL f (0 : Int32).toNatClampNeg r.toInt64)) (As := [.ref (a 0 0), .int (kL_x xs k 1), .int (kL_x xs k 2), .ref o]) (rest := []) hC (sL_bridge l hst g cL n a h G V o f (kL_x xs k 1) (kL_x xs k 2) (r, G1, V1) e1) (vx_cwSW 4 hts gL_law_L_bridge rfl rfl rfl (by decide +kernel) ⟨Nat.le_of_ble_eq_true rfl, Nat.le_of_ble_eq_true rfl⟩) hK4 hG hNx hP hD hS hA kL_iF kL_mF kL_nF rfl kL_sF rfl rfl hl.1 (Nat.le_of_ble_eq_true rfl) dL_law_551 hf (fun H locs hP hD hS => ?_)
    exact kB_bridge_T E hk hf J e2 (e3.trans rfl) (fun _ => kL_u0) hR2 hP hD hS hl
set_option maxHeartbeats 8000000 in
set_option maxRecDepth 100000 in
theorem kB_unbridge_T (E : kL_E p l s m args c g cL A b L xs) (hk : 5 * k + 5 ≤ L) {c1 s1 : Nat} (hf : c1 ≤ 617796 ∧ s1 ≤ 7242715) (J : kL_J p l e s m args below meth c Q g cL A b a h mb o k 1500 c1 s1) {G V : St2} {M M1 : St1} {f : Nat → Int64} {r v5 : Int32} (hM : fX5_unbridge n M (kL_x xs k 1) = some (r, M1)) (h6 : M1 6 0 = v5) (h0 : v5 = 0 → f (0 : Int32).toNatClampNeg = r.toInt64) (hRR : RR G V M1) {H : Heap} {locs : List Loc} {ls : Array Slot} (hP : va_P g.1 vwCl (kL_w g cL a h mb o G V M f) H) (hD : va_D A (kL_w g cL a h mb o G V M f)) (hS : va_S A s.heap H locs) (hl : lv_has ls 9 (kL_l b a mb o k)) : W p l e room_1 s m args below meth c H locs c1 s1 Q (F0 m 616 ls [.int v5]) := by
  obtain ⟨hC, hst, hK4, hG, hNx, hA, hX, hbl, hbA, hL⟩ := id E
  obtain ⟨hx, hb, hml, hown, hts⟩ := id hC
  have hK := kT4_sub hK4
  obtain ⟨h_0, h_1, h_2, h_3, h_4⟩ := kL_in hk hL
  obtain ⟨fs, hfs⟩ := (kL_86 (g := g) (cL := cL) (a := a) (h := h) (b := mb) (o := o) (G := G) (V := V) (M := M) (f := f))
  obtain ⟨fs2, hfs2⟩ := (kL_86 (g := g) (cL := cL) (a := a) (h := h) (b := mb) (o := o) (G := G) (V := V) (M := M1) (f := f))
  refine lv_istore (i := 5) (lv' := (5, .int v5) :: kL_l b a mb o k) hx hb dL_law_616 hl (by decide) rfl (fun ls hl => ?_)
  refine lv_aload_n hx hb dL_law_618 rfl (lv_at hl 3 rfl) ?_
  refine lv_aload_n hx hb dL_law_619 rfl (lv_at hl 1 rfl) ?_
  refine lv_iload hx hb dL_law_620 (lv_at hl 5 rfl) ?_
  refine lv_iconst (v := (1 : Int32)) hx hb dL_law_622 (by decide) ?_
  refine lv_iadd hx hb dL_law_623 ?_
  refine va_sld hx hb hX hbl hbA hS h_1 dL_law_624 ?_
  refine kr_Vi (w' := kL_w g cL a h mb o G V M1 f) (As := [.int (kL_x xs k 1)]) (rest := []) 86 5 hC (sX5_unbridge l g n mb M (kL_x xs k 1) (r, M1) hM) (cwV 1 hts gL_law_X5_unbridge rfl rfl rfl (by decide +kernel) ⟨Nat.le_of_ble_eq_true rfl, Nat.le_of_ble_eq_true rfl⟩) hK hP hD hS hA kL_iM kL_mM kL_nM rfl kL_sM rfl hfs rfl rfl rfl hl.1 (Nat.le_of_ble_eq_true rfl) dL_law_625 hf (fun H locs hP hD hS => ?_)
  refine lv_istore (i := 6) (lv' := (6, .int r) :: (5, .int v5) :: kL_l b a mb o k) hx hb dL_law_628 hl (by decide) rfl (fun ls hl => ?_)
  refine lv_aload_n hx hb dL_law_630 rfl (lv_at hl 4 rfl) ?_
  refine kr_Vi (w' := kL_w g cL a h mb o G V M1 f) (As := []) (rest := []) 86 5 hC (sX5_thrown l g n mb M1 (M1 6 0) rfl) (cwV 0 hts gL_law_X5_thrown rfl rfl rfl (by decide +kernel) ⟨Nat.le_of_ble_eq_true rfl, Nat.le_of_ble_eq_true rfl⟩) hK hP hD hS hA kL_iM kL_mM kL_nM rfl kL_sM rfl hfs2 rfl rfl rfl hl.1 (Nat.le_of_ble_eq_true rfl) dL_law_631 hf (fun H locs hP hD hS => ?_)
  refine lv_iload hx hb dL_law_634 (lv_at hl 1 rfl) ?_
  refine lv_icmp_eq (tgt := 641) hx hb dL_law_636 (by decide) (fun _ => ?_) (fun c9 => absurd h6 c9)
  refine lv_iload hx hb dL_law_641 (lv_at hl 1 rfl) ?_
  have J2 : W p l e room_1 s m args below meth c H locs c1 s1 Q (F0 m 658 ls []) := lv_goto (tgt := 1500) hx hb dL_law_658 (by decide) (J G V M1 f H locs ls hP hD hS hRR (lv_sub hl [2, 3, 4, 5, 6] rfl))
  refine lv_if_ne (tgt := 658) hx hb dL_law_643 (by decide) (fun _ => J2) (fun c9 => ?_)
  refine lv_aload_n hx hb dL_law_646 rfl (lv_at hl 5 rfl) ?_
  refine lv_iconst (v := (0 : Int32)) hx hb dL_law_647 (by decide) ?_
  refine va_lald hx hb hK4 hP 93 3 kL_93 rfl (kk_in 0 1 (by decide) (by decide) rfl) dL_law_648 ?_
  refine lv_iload hx hb dL_law_649 (lv_at hl 0 rfl) ?_
  refine lv_i2l (v := r.toInt64) hx hb dL_law_651 rfl ?_
  refine W.lcmp hx hb dL_law_652 ?_
  exact lv_if_eq (tgt := 658) hx hb dL_law_653 (by decide) (fun _ => J2) (fun c9 => absurd (kL_cm (h0 (by assumption))) c9)
set_option maxHeartbeats 8000000 in
set_option maxRecDepth 100000 in
theorem kB_unbridge (E : kL_E p l s m args c g cL A b L xs) (hk : 5 * k + 5 ≤ L) (hn : 300000 ≤ n) {c0 s0 : Nat} (hf : c0 + 1 ≤ 617796 ∧ s0 + 6 ≤ 7242715) (J : kL_J p l e s m args below meth c Q g cL A b a h mb o k 1500 (c0 + 1) (s0 + 6)) {G V : St2} {M : St1} {f : Nat → Int64} (hRR : RR G V M) {H : Heap} {locs : List Loc} {ls : Array Slot} (hP : va_P g.1 vwCl (kL_w g cL a h mb o G V M f) H) (hD : va_D A (kL_w g cL a h mb o G V M f)) (hS : va_S A s.heap H locs) (hl : lv_has ls 9 (kL_l b a mb o k)) : W p l e room_1 s m args below meth c H locs c0 s0 Q (F0 m 605 ls []) := by
  obtain ⟨hC, hst, hK4, hG, hNx, hA, hX, hbl, hbA, hL⟩ := id E
  obtain ⟨hx, hb, hml, hown, hts⟩ := id hC
  have hK := kT4_sub hK4
  obtain ⟨h_0, h_1, h_2, h_3, h_4⟩ := kL_in hk hL
  refine lv_aload_n hx hb dL_law_605 rfl (lv_at hl 1 rfl) ?_
  refine lv_aload_n hx hb dL_law_606 rfl (lv_at hl 0 rfl) ?_
  refine lv_iload hx hb dL_law_607 (lv_at hl 4 rfl) ?_
  refine lv_iconst (v := (1 : Int32)) hx hb dL_law_609 (by decide) ?_
  refine lv_iadd hx hb dL_law_610 ?_
  refine va_sld hx hb hX hbl hbA hS h_1 dL_law_611 ?_
  refine lv_aload_n hx hb dL_law_612 rfl (lv_at hl 3 rfl) ?_
  rcases st_unbridge (n := n) (by omega) hRR (kL_x xs k 1) with ⟨t, r, M1, e1, hk9, e2, e3, hR2⟩ | ⟨r, G1, V1, M1, e1, e2, e3, hR2⟩
  · simp only [List.mem_cons, List.not_mem_nil, or_false] at hk9
    subst hk9
    · refine kr_wrap (w' := kL_w g cL a h mb o G V M f) (As := [.ref (a 0 0), .int (kL_x xs k 1), .ref o]) (rest := []) hC (sL_unbridge_t1 l hst g cL n a h G V o f (kL_x xs k 1) e1) (vx_cwSW 3 hts gL_law_L_unbridge rfl rfl rfl (by decide +kernel) ⟨Nat.le_of_ble_eq_true rfl, Nat.le_of_ble_eq_true rfl⟩) hK4 hG hNx hP hD hS hA kL_iF kL_mF kL_nF rfl kL_sF rfl rfl hl.1 (Nat.le_of_ble_eq_true rfl) dL_law_613 hf (fun H locs hP hD hS => ?_)
      exact kB_unbridge_T E hk hf J e2 (e3.trans rfl) (fun h9 => absurd h9 (by decide)) hR2 hP hD hS hl
  · refine kr_wrap (w' := kL_w g cL a h mb o G1 V1 M (vp_updL f (0 : Int32).toNatClampNeg r.toInt64)) (As := [.ref (a 0 0), .int (kL_x xs k 1), .ref o]) (rest := []) hC (sL_unbridge l hst g cL n a h G V o f (kL_x xs k 1) (r, G1, V1) e1) (vx_cwSW 3 hts gL_law_L_unbridge rfl rfl rfl (by decide +kernel) ⟨Nat.le_of_ble_eq_true rfl, Nat.le_of_ble_eq_true rfl⟩) hK4 hG hNx hP hD hS hA kL_iF kL_mF kL_nF rfl kL_sF rfl rfl hl.1 (Nat.le_of_ble_eq_true rfl) dL_law_613 hf (fun H locs hP hD hS => ?_)
    exact kB_unbridge_T E hk hf J e2 (e3.trans rfl) (fun _ => kL_u0) hR2 hP hD hS hl
set_option maxHeartbeats 8000000 in
set_option maxRecDepth 100000 in
theorem kB_set_T (E : kL_E p l s m args c g cL A b L xs) (hk : 5 * k + 5 ≤ L) {c1 s1 : Nat} (hf : c1 ≤ 617796 ∧ s1 ≤ 7242715) (J : kL_J p l e s m args below meth c Q g cL A b a h mb o k 1500 c1 s1) {G V : St2} {M M1 : St1} {f : Nat → Int64} {r v5 : Int32} (hM : fX5_set n M (kL_x xs k 1) (kL_x xs k 2) = some (r, M1)) (h6 : M1 6 0 = v5) (h0 : v5 = 0 → f (0 : Int32).toNatClampNeg = r.toInt64) (hRR : RR G V M1) {H : Heap} {locs : List Loc} {ls : Array Slot} (hP : va_P g.1 vwCl (kL_w g cL a h mb o G V M f) H) (hD : va_D A (kL_w g cL a h mb o G V M f)) (hS : va_S A s.heap H locs) (hl : lv_has ls 9 (kL_l b a mb o k)) : W p l e room_1 s m args below meth c H locs c1 s1 Q (F0 m 678 ls [.int v5]) := by
  obtain ⟨hC, hst, hK4, hG, hNx, hA, hX, hbl, hbA, hL⟩ := id E
  obtain ⟨hx, hb, hml, hown, hts⟩ := id hC
  have hK := kT4_sub hK4
  obtain ⟨h_0, h_1, h_2, h_3, h_4⟩ := kL_in hk hL
  obtain ⟨fs, hfs⟩ := (kL_86 (g := g) (cL := cL) (a := a) (h := h) (b := mb) (o := o) (G := G) (V := V) (M := M) (f := f))
  obtain ⟨fs2, hfs2⟩ := (kL_86 (g := g) (cL := cL) (a := a) (h := h) (b := mb) (o := o) (G := G) (V := V) (M := M1) (f := f))
  refine lv_istore (i := 5) (lv' := (5, .int v5) :: kL_l b a mb o k) hx hb dL_law_678 hl (by decide) rfl (fun ls hl => ?_)
  refine lv_aload_n hx hb dL_law_680 rfl (lv_at hl 3 rfl) ?_
  refine lv_aload_n hx hb dL_law_681 rfl (lv_at hl 1 rfl) ?_
  refine lv_iload hx hb dL_law_682 (lv_at hl 5 rfl) ?_
  refine lv_iconst (v := (1 : Int32)) hx hb dL_law_684 (by decide) ?_
  refine lv_iadd hx hb dL_law_685 ?_
  refine va_sld hx hb hX hbl hbA hS h_1 dL_law_686 ?_
  refine lv_aload_n hx hb dL_law_687 rfl (lv_at hl 1 rfl) ?_
  refine lv_iload hx hb dL_law_688 (lv_at hl 5 rfl) ?_
  refine lv_iconst (v := (2 : Int32)) hx hb dL_law_690 (by decide) ?_
  refine lv_iadd hx hb dL_law_691 ?_
  refine va_sld hx hb hX hbl hbA hS h_2 dL_law_692 ?_
  refine kr_Vi (w' := kL_w g cL a h mb o G V M1 f) (As := [.int (kL_x xs k 1), .int (kL_x xs k 2)]) (rest := []) 86 5 hC (sX5_set l g n mb M (kL_x xs k 1) (kL_x xs k 2) (r, M1) hM) (cwV 2 hts gL_law_X5_set rfl rfl rfl (by decide +kernel) ⟨Nat.le_of_ble_eq_true rfl, Nat.le_of_ble_eq_true rfl⟩) hK hP hD hS hA kL_iM kL_mM kL_nM rfl kL_sM rfl hfs rfl rfl rfl hl.1 (Nat.le_of_ble_eq_true rfl) dL_law_693 hf (fun H locs hP hD hS => ?_)
  refine lv_istore (i := 6) (lv' := (6, .int r) :: (5, .int v5) :: kL_l b a mb o k) hx hb dL_law_696 hl (by decide) rfl (fun ls hl => ?_)
  refine lv_aload_n hx hb dL_law_698 rfl (lv_at hl 4 rfl) ?_
  refine kr_Vi (w' := kL_w g cL a h mb o G V M1 f) (As := []) (rest := []) 86 5 hC (sX5_thrown l g n mb M1 (M1 6 0) rfl) (cwV 0 hts gL_law_X5_thrown rfl rfl rfl (by decide +kernel) ⟨Nat.le_of_ble_eq_true rfl, Nat.le_of_ble_eq_true rfl⟩) hK hP hD hS hA kL_iM kL_mM kL_nM rfl kL_sM rfl hfs2 rfl rfl rfl hl.1 (Nat.le_of_ble_eq_true rfl) dL_law_699 hf (fun H locs hP hD hS => ?_)
  refine lv_iload hx hb dL_law_702 (lv_at hl 1 rfl) ?_
  refine lv_icmp_eq (tgt := 709) hx hb dL_law_704 (by decide) (fun _ => ?_) (fun c9 => absurd h6 c9)
  refine lv_iload hx hb dL_law_709 (lv_at hl 1 rfl) ?_
  have J2 : W p l e room_1 s m args below meth c H locs c1 s1 Q (F0 m 726 ls []) := lv_goto (tgt := 1500) hx hb dL_law_726 (by decide) (J G V M1 f H locs ls hP hD hS hRR (lv_sub hl [2, 3, 4, 5, 6] rfl))
  refine lv_if_ne (tgt := 726) hx hb dL_law_711 (by decide) (fun _ => J2) (fun c9 => ?_)
  refine lv_aload_n hx hb dL_law_714 rfl (lv_at hl 5 rfl) ?_
  refine lv_iconst (v := (0 : Int32)) hx hb dL_law_715 (by decide) ?_
  refine va_lald hx hb hK4 hP 93 3 kL_93 rfl (kk_in 0 1 (by decide) (by decide) rfl) dL_law_716 ?_
  refine lv_iload hx hb dL_law_717 (lv_at hl 0 rfl) ?_
  refine lv_i2l (v := r.toInt64) hx hb dL_law_719 rfl ?_
  refine W.lcmp hx hb dL_law_720 ?_
  exact lv_if_eq (tgt := 726) hx hb dL_law_721 (by decide) (fun _ => J2) (fun c9 => absurd (kL_cm (h0 (by assumption))) c9)
set_option maxHeartbeats 8000000 in
set_option maxRecDepth 100000 in
theorem kB_set (E : kL_E p l s m args c g cL A b L xs) (hk : 5 * k + 5 ≤ L) (hn : 300000 ≤ n) {c0 s0 : Nat} (hf : c0 + 1 ≤ 617796 ∧ s0 + 6 ≤ 7242715) (J : kL_J p l e s m args below meth c Q g cL A b a h mb o k 1500 (c0 + 1) (s0 + 6)) {G V : St2} {M : St1} {f : Nat → Int64} (hRR : RR G V M) {H : Heap} {locs : List Loc} {ls : Array Slot} (hP : va_P g.1 vwCl (kL_w g cL a h mb o G V M f) H) (hD : va_D A (kL_w g cL a h mb o G V M f)) (hS : va_S A s.heap H locs) (hl : lv_has ls 9 (kL_l b a mb o k)) : W p l e room_1 s m args below meth c H locs c0 s0 Q (F0 m 661 ls []) := by
  obtain ⟨hC, hst, hK4, hG, hNx, hA, hX, hbl, hbA, hL⟩ := id E
  obtain ⟨hx, hb, hml, hown, hts⟩ := id hC
  have hK := kT4_sub hK4
  obtain ⟨h_0, h_1, h_2, h_3, h_4⟩ := kL_in hk hL
  refine lv_aload_n hx hb dL_law_661 rfl (lv_at hl 1 rfl) ?_
  refine lv_aload_n hx hb dL_law_662 rfl (lv_at hl 0 rfl) ?_
  refine lv_iload hx hb dL_law_663 (lv_at hl 4 rfl) ?_
  refine lv_iconst (v := (1 : Int32)) hx hb dL_law_665 (by decide) ?_
  refine lv_iadd hx hb dL_law_666 ?_
  refine va_sld hx hb hX hbl hbA hS h_1 dL_law_667 ?_
  refine lv_aload_n hx hb dL_law_668 rfl (lv_at hl 0 rfl) ?_
  refine lv_iload hx hb dL_law_669 (lv_at hl 4 rfl) ?_
  refine lv_iconst (v := (2 : Int32)) hx hb dL_law_671 (by decide) ?_
  refine lv_iadd hx hb dL_law_672 ?_
  refine va_sld hx hb hX hbl hbA hS h_2 dL_law_673 ?_
  refine lv_aload_n hx hb dL_law_674 rfl (lv_at hl 3 rfl) ?_
  rcases st_set (n := n) (by omega) hRR (kL_x xs k 1) (kL_x xs k 2) with ⟨t, r, M1, e1, hk9, e2, e3, hR2⟩ | ⟨r, G1, V1, M1, e1, e2, e3, hR2⟩
  · simp only [List.mem_cons, List.not_mem_nil, or_false] at hk9
    rcases hk9 with rfl | rfl
    · refine kr_wrap (w' := kL_w g cL a h mb o G V M f) (As := [.ref (a 0 0), .int (kL_x xs k 1), .int (kL_x xs k 2), .ref o]) (rest := []) hC (sL_set_t1 l hst g cL n a h G V o f (kL_x xs k 1) (kL_x xs k 2) e1) (vx_cwSW 4 hts gL_law_L_set rfl rfl rfl (by decide +kernel) ⟨Nat.le_of_ble_eq_true rfl, Nat.le_of_ble_eq_true rfl⟩) hK4 hG hNx hP hD hS hA kL_iF kL_mF kL_nF rfl kL_sF rfl rfl hl.1 (Nat.le_of_ble_eq_true rfl) dL_law_675 hf (fun H locs hP hD hS => ?_)
      exact kB_set_T E hk hf J e2 (e3.trans rfl) (fun h9 => absurd h9 (by decide)) hR2 hP hD hS hl
    · refine kr_wrap (w' := kL_w g cL a h mb o G V M f) (As := [.ref (a 0 0), .int (kL_x xs k 1), .int (kL_x xs k 2), .ref o]) (rest := []) hC (sL_set_t2 l hst g cL n a h G V o f (kL_x xs k 1) (kL_x xs k 2) e1) (vx_cwSW 4 hts gL_law_L_set rfl rfl rfl (by decide +kernel) ⟨Nat.le_of_ble_eq_true rfl, Nat.le_of_ble_eq_true rfl⟩) hK4 hG hNx hP hD hS hA kL_iF kL_mF kL_nF rfl kL_sF rfl rfl hl.1 (Nat.le_of_ble_eq_true rfl) dL_law_675 hf (fun H locs hP hD hS => ?_)
      exact kB_set_T E hk hf J e2 (e3.trans rfl) (fun h9 => absurd h9 (by decide)) hR2 hP hD hS hl
  · refine kr_wrap (w' := kL_w g cL a h mb o G1 V1 M (vp_updL f (0 : Int32).toNatClampNeg r.toInt64)) (As := [.ref (a 0 0), .int (kL_x xs k 1), .int (kL_x xs k 2), .ref o]) (rest := []) hC (sL_set l hst g cL n a h G V o f (kL_x xs k 1) (kL_x xs k 2) (r, G1, V1) e1) (vx_cwSW 4 hts gL_law_L_set rfl rfl rfl (by decide +kernel) ⟨Nat.le_of_ble_eq_true rfl, Nat.le_of_ble_eq_true rfl⟩) hK4 hG hNx hP hD hS hA kL_iF kL_mF kL_nF rfl kL_sF rfl rfl hl.1 (Nat.le_of_ble_eq_true rfl) dL_law_675 hf (fun H locs hP hD hS => ?_)
    exact kB_set_T E hk hf J e2 (e3.trans rfl) (fun _ => kL_u0) hR2 hP hD hS hl
set_option maxHeartbeats 8000000 in
set_option maxRecDepth 100000 in
theorem kB_append_T (E : kL_E p l s m args c g cL A b L xs) (hk : 5 * k + 5 ≤ L) {c1 s1 : Nat} (hf : c1 ≤ 617796 ∧ s1 ≤ 7242715) (J : kL_J p l e s m args below meth c Q g cL A b a h mb o k 1500 c1 s1) {G V : St2} {M M1 : St1} {f : Nat → Int64} {r v5 : Int32} (hM : fX5_append n M (kL_x xs k 1) = some (r, M1)) (h6 : M1 6 0 = v5) (h0 : v5 = 0 → f (0 : Int32).toNatClampNeg = r.toInt64) (hRR : RR G V M1) {H : Heap} {locs : List Loc} {ls : Array Slot} (hP : va_P g.1 vwCl (kL_w g cL a h mb o G V M f) H) (hD : va_D A (kL_w g cL a h mb o G V M f)) (hS : va_S A s.heap H locs) (hl : lv_has ls 9 (kL_l b a mb o k)) : W p l e room_1 s m args below meth c H locs c1 s1 Q (F0 m 740 ls [.int v5]) := by
  obtain ⟨hC, hst, hK4, hG, hNx, hA, hX, hbl, hbA, hL⟩ := id E
  obtain ⟨hx, hb, hml, hown, hts⟩ := id hC
  have hK := kT4_sub hK4
  obtain ⟨h_0, h_1, h_2, h_3, h_4⟩ := kL_in hk hL
  obtain ⟨fs, hfs⟩ := (kL_86 (g := g) (cL := cL) (a := a) (h := h) (b := mb) (o := o) (G := G) (V := V) (M := M) (f := f))
  obtain ⟨fs2, hfs2⟩ := (kL_86 (g := g) (cL := cL) (a := a) (h := h) (b := mb) (o := o) (G := G) (V := V) (M := M1) (f := f))
  refine lv_istore (i := 5) (lv' := (5, .int v5) :: kL_l b a mb o k) hx hb dL_law_740 hl (by decide) rfl (fun ls hl => ?_)
  refine lv_aload_n hx hb dL_law_742 rfl (lv_at hl 3 rfl) ?_
  refine lv_aload_n hx hb dL_law_743 rfl (lv_at hl 1 rfl) ?_
  refine lv_iload hx hb dL_law_744 (lv_at hl 5 rfl) ?_
  refine lv_iconst (v := (1 : Int32)) hx hb dL_law_746 (by decide) ?_
  refine lv_iadd hx hb dL_law_747 ?_
  refine va_sld hx hb hX hbl hbA hS h_1 dL_law_748 ?_
  refine kr_Vi (w' := kL_w g cL a h mb o G V M1 f) (As := [.int (kL_x xs k 1)]) (rest := []) 86 5 hC (sX5_append l g n mb M (kL_x xs k 1) (r, M1) hM) (cwV 1 hts gL_law_X5_append rfl rfl rfl (by decide +kernel) ⟨Nat.le_of_ble_eq_true rfl, Nat.le_of_ble_eq_true rfl⟩) hK hP hD hS hA kL_iM kL_mM kL_nM rfl kL_sM rfl hfs rfl rfl rfl hl.1 (Nat.le_of_ble_eq_true rfl) dL_law_749 hf (fun H locs hP hD hS => ?_)
  refine lv_istore (i := 6) (lv' := (6, .int r) :: (5, .int v5) :: kL_l b a mb o k) hx hb dL_law_752 hl (by decide) rfl (fun ls hl => ?_)
  refine lv_aload_n hx hb dL_law_754 rfl (lv_at hl 4 rfl) ?_
  refine kr_Vi (w' := kL_w g cL a h mb o G V M1 f) (As := []) (rest := []) 86 5 hC (sX5_thrown l g n mb M1 (M1 6 0) rfl) (cwV 0 hts gL_law_X5_thrown rfl rfl rfl (by decide +kernel) ⟨Nat.le_of_ble_eq_true rfl, Nat.le_of_ble_eq_true rfl⟩) hK hP hD hS hA kL_iM kL_mM kL_nM rfl kL_sM rfl hfs2 rfl rfl rfl hl.1 (Nat.le_of_ble_eq_true rfl) dL_law_755 hf (fun H locs hP hD hS => ?_)
  refine lv_iload hx hb dL_law_758 (lv_at hl 1 rfl) ?_
  refine lv_icmp_eq (tgt := 765) hx hb dL_law_760 (by decide) (fun _ => ?_) (fun c9 => absurd h6 c9)
  refine lv_iload hx hb dL_law_765 (lv_at hl 1 rfl) ?_
  have J2 : W p l e room_1 s m args below meth c H locs c1 s1 Q (F0 m 782 ls []) := lv_goto (tgt := 1500) hx hb dL_law_782 (by decide) (J G V M1 f H locs ls hP hD hS hRR (lv_sub hl [2, 3, 4, 5, 6] rfl))
  refine lv_if_ne (tgt := 782) hx hb dL_law_767 (by decide) (fun _ => J2) (fun c9 => ?_)
  refine lv_aload_n hx hb dL_law_770 rfl (lv_at hl 5 rfl) ?_
  refine lv_iconst (v := (0 : Int32)) hx hb dL_law_771 (by decide) ?_
  refine va_lald hx hb hK4 hP 93 3 kL_93 rfl (kk_in 0 1 (by decide) (by decide) rfl) dL_law_772 ?_
  refine lv_iload hx hb dL_law_773 (lv_at hl 0 rfl) ?_
  refine lv_i2l (v := r.toInt64) hx hb dL_law_775 rfl ?_
  refine W.lcmp hx hb dL_law_776 ?_
  exact lv_if_eq (tgt := 782) hx hb dL_law_777 (by decide) (fun _ => J2) (fun c9 => absurd (kL_cm (h0 (by assumption))) c9)
set_option maxHeartbeats 8000000 in
set_option maxRecDepth 100000 in
theorem kB_append (E : kL_E p l s m args c g cL A b L xs) (hk : 5 * k + 5 ≤ L) (hn : 300000 ≤ n) {c0 s0 : Nat} (hf : c0 + 1 ≤ 617796 ∧ s0 + 6 ≤ 7242715) (J : kL_J p l e s m args below meth c Q g cL A b a h mb o k 1500 (c0 + 1) (s0 + 6)) {G V : St2} {M : St1} {f : Nat → Int64} (hRR : RR G V M) {H : Heap} {locs : List Loc} {ls : Array Slot} (hP : va_P g.1 vwCl (kL_w g cL a h mb o G V M f) H) (hD : va_D A (kL_w g cL a h mb o G V M f)) (hS : va_S A s.heap H locs) (hl : lv_has ls 9 (kL_l b a mb o k)) : W p l e room_1 s m args below meth c H locs c0 s0 Q (F0 m 729 ls []) := by
  obtain ⟨hC, hst, hK4, hG, hNx, hA, hX, hbl, hbA, hL⟩ := id E
  obtain ⟨hx, hb, hml, hown, hts⟩ := id hC
  have hK := kT4_sub hK4
  obtain ⟨h_0, h_1, h_2, h_3, h_4⟩ := kL_in hk hL
  refine lv_aload_n hx hb dL_law_729 rfl (lv_at hl 1 rfl) ?_
  refine lv_aload_n hx hb dL_law_730 rfl (lv_at hl 0 rfl) ?_
  refine lv_iload hx hb dL_law_731 (lv_at hl 4 rfl) ?_
  refine lv_iconst (v := (1 : Int32)) hx hb dL_law_733 (by decide) ?_
  refine lv_iadd hx hb dL_law_734 ?_
  refine va_sld hx hb hX hbl hbA hS h_1 dL_law_735 ?_
  refine lv_aload_n hx hb dL_law_736 rfl (lv_at hl 3 rfl) ?_
  rcases st_append (n := n) (by omega) hRR (kL_x xs k 1) with ⟨t, r, M1, e1, hk9, e2, e3, hR2⟩ | ⟨r, G1, M1, e1, e2, e3, hR2⟩
  · simp only [List.mem_cons, List.not_mem_nil, or_false] at hk9
    rcases hk9 with rfl | rfl
    · refine kr_wrap (w' := kL_w g cL a h mb o G V M f) (As := [.ref (a 0 0), .int (kL_x xs k 1), .ref o]) (rest := []) hC (sL_append_t2 l hst g cL n a G o f (kL_x xs k 1) e1) (vx_cwSW 3 hts gL_law_L_append rfl rfl rfl (by decide +kernel) ⟨Nat.le_of_ble_eq_true rfl, Nat.le_of_ble_eq_true rfl⟩) hK4 hG hNx hP hD hS hA kL_iG kL_mG kL_nG rfl kL_sG rfl rfl hl.1 (Nat.le_of_ble_eq_true rfl) dL_law_737 hf (fun H locs hP hD hS => ?_)
      exact kB_append_T E hk hf J e2 (e3.trans rfl) (fun h9 => absurd h9 (by decide)) hR2 hP hD hS hl
    · refine kr_wrap (w' := kL_w g cL a h mb o G V M f) (As := [.ref (a 0 0), .int (kL_x xs k 1), .ref o]) (rest := []) hC (sL_append_t3 l hst g cL n a G o f (kL_x xs k 1) e1) (vx_cwSW 3 hts gL_law_L_append rfl rfl rfl (by decide +kernel) ⟨Nat.le_of_ble_eq_true rfl, Nat.le_of_ble_eq_true rfl⟩) hK4 hG hNx hP hD hS hA kL_iG kL_mG kL_nG rfl kL_sG rfl rfl hl.1 (Nat.le_of_ble_eq_true rfl) dL_law_737 hf (fun H locs hP hD hS => ?_)
      exact kB_append_T E hk hf J e2 (e3.trans rfl) (fun h9 => absurd h9 (by decide)) hR2 hP hD hS hl
  · refine kr_wrap (w' := kL_w g cL a h mb o G1 V M (vp_updL f (0 : Int32).toNatClampNeg r.toInt64)) (As := [.ref (a 0 0), .int (kL_x xs k 1), .ref o]) (rest := []) hC (sL_append l hst g cL n a G o f (kL_x xs k 1) (r, G1) e1) (vx_cwSW 3 hts gL_law_L_append rfl rfl rfl (by decide +kernel) ⟨Nat.le_of_ble_eq_true rfl, Nat.le_of_ble_eq_true rfl⟩) hK4 hG hNx hP hD hS hA kL_iG kL_mG kL_nG rfl kL_sG rfl rfl hl.1 (Nat.le_of_ble_eq_true rfl) dL_law_737 hf (fun H locs hP hD hS => ?_)
    exact kB_append_T E hk hf J e2 (e3.trans rfl) (fun _ => kL_u0) hR2 hP hD hS hl
set_option maxHeartbeats 8000000 in
set_option maxRecDepth 100000 in
theorem kB_clearBuffer (E : kL_E p l s m args c g cL A b L xs) (hk : 5 * k + 5 ≤ L) (hn : 300000 ≤ n) {c0 s0 : Nat} (hf : c0 + 1 ≤ 617796 ∧ s0 + 6 ≤ 7242715) (J : kL_J p l e s m args below meth c Q g cL A b a h mb o k 1500 (c0 + 1) (s0 + 6)) {G V : St2} {M : St1} {f : Nat → Int64} (hRR : RR G V M) {H : Heap} {locs : List Loc} {ls : Array Slot} (hP : va_P g.1 vwCl (kL_w g cL a h mb o G V M f) H) (hD : va_D A (kL_w g cL a h mb o G V M f)) (hS : va_S A s.heap H locs) (hl : lv_has ls 9 (kL_l b a mb o k)) : W p l e room_1 s m args below meth c H locs c0 s0 Q (F0 m 785 ls []) := by
  obtain ⟨hC, hst, hK4, hG, hNx, hA, hX, hbl, hbA, hL⟩ := id E
  obtain ⟨hx, hb, hml, hown, hts⟩ := id hC
  have hK := kT4_sub hK4
  obtain ⟨h_0, h_1, h_2, h_3, h_4⟩ := kL_in hk hL
  obtain ⟨r, G1, M1, e1, e2, -, hR2⟩ := st_clear (n := n) hRR
  obtain ⟨fs, hfs⟩ := kL_0 (g := g) (cL := cL) (a := a) (h := h) (b := mb) (o := o) (G := G) (V := V) (M := M) (f := f)
  obtain ⟨fs2, hfs2⟩ := (kL_86 (g := g) (cL := cL) (a := a) (h := h) (b := mb) (o := o) (G := G1) (V := V) (M := M) (f := f))
  refine kw_widen (k := c0 + 1) (j := s0 + 6) (Nat.le_add_right _ _) (Nat.le_add_right _ _) ?_
  refine lv_aload_n hx hb dL_law_785 rfl (lv_at hl 1 rfl) ?_
  refine kr_Vi (w' := kL_w g cL a h mb o G1 V M f) (As := []) (rest := []) 0 4 hC (sX4_clearBuffer l g n a G (r, G1) e1) (cwV 0 hts gL_law_X4_clearBuffer rfl rfl rfl (by decide +kernel) ⟨Nat.le_of_ble_eq_true rfl, Nat.le_of_ble_eq_true rfl⟩) hK hP hD hS hA kL_iB kL_mB kL_nB rfl kL_sB rfl hfs rfl rfl rfl hl.1 (Nat.le_of_ble_eq_true rfl) dL_law_786 hf (fun H locs hP hD hS => ?_)
  refine lv_aload_n hx hb dL_law_789 rfl (lv_at hl 2 rfl) ?_
  refine kr_Vi (w' := kL_w g cL a h mb o G1 V M1 f) (As := []) (rest := [.int r]) 86 5 hC (sX5_clearBuffer l g n mb M (r, M1) e2) (cwV 0 hts gL_law_X5_clearBuffer rfl rfl rfl (by decide +kernel) ⟨Nat.le_of_ble_eq_true rfl, Nat.le_of_ble_eq_true rfl⟩) hK hP hD hS hA kL_iM kL_mM kL_nM rfl kL_sM rfl hfs2 rfl rfl rfl hl.1 (Nat.le_of_ble_eq_true rfl) dL_law_790 hf (fun H locs hP hD hS => ?_)
  exact lv_icmp_eq (tgt := 1500) hx hb dL_law_793 (by decide) (fun _ => J G1 V M1 f H locs ls hP hD hS hR2 hl) (fun c9 => absurd rfl c9)
set_option maxHeartbeats 8000000 in
set_option maxRecDepth 100000 in
theorem kB_firstError (E : kL_E p l s m args c g cL A b L xs) (hk : 5 * k + 5 ≤ L) (hn : 300000 ≤ n) {c0 s0 : Nat} (hf : c0 + 1 ≤ 617796 ∧ s0 + 6 ≤ 7242715) (J : kL_J p l e s m args below meth c Q g cL A b a h mb o k 1500 (c0 + 1) (s0 + 6)) {G V : St2} {M : St1} {f : Nat → Int64} (hRR : RR G V M) {H : Heap} {locs : List Loc} {ls : Array Slot} (hP : va_P g.1 vwCl (kL_w g cL a h mb o G V M f) H) (hD : va_D A (kL_w g cL a h mb o G V M f)) (hS : va_S A s.heap H locs) (hl : lv_has ls 9 (kL_l b a mb o k)) : W p l e room_1 s m args below meth c H locs c0 s0 Q (F0 m 798 ls []) := by
  obtain ⟨hC, hst, hK4, hG, hNx, hA, hX, hbl, hbA, hL⟩ := id E
  obtain ⟨hx, hb, hml, hown, hts⟩ := id hC
  have hK := kT4_sub hK4
  obtain ⟨h_0, h_1, h_2, h_3, h_4⟩ := kL_in hk hL
  obtain ⟨r, G1, M1, e1, e2, -, hR2⟩ := st_firstError (n := n) (by omega) hRR
  obtain ⟨fs, hfs⟩ := kL_0 (g := g) (cL := cL) (a := a) (h := h) (b := mb) (o := o) (G := G) (V := V) (M := M) (f := f)
  obtain ⟨fs2, hfs2⟩ := (kL_86 (g := g) (cL := cL) (a := a) (h := h) (b := mb) (o := o) (G := G1) (V := V) (M := M) (f := f))
  refine kw_widen (k := c0 + 1) (j := s0 + 6) (Nat.le_add_right _ _) (Nat.le_add_right _ _) ?_
  refine lv_aload_n hx hb dL_law_798 rfl (lv_at hl 1 rfl) ?_
  refine kr_Vi (w' := kL_w g cL a h mb o G1 V M f) (As := []) (rest := []) 0 4 hC (sX4_firstError l g n a G (r, G1) e1) (cwV 0 hts gL_law_X4_firstError rfl rfl rfl (by decide +kernel) ⟨Nat.le_of_ble_eq_true rfl, Nat.le_of_ble_eq_true rfl⟩) hK hP hD hS hA kL_iB kL_mB kL_nB rfl kL_sB rfl hfs rfl rfl rfl hl.1 (Nat.le_of_ble_eq_true rfl) dL_law_799 hf (fun H locs hP hD hS => ?_)
  refine lv_aload_n hx hb dL_law_802 rfl (lv_at hl 2 rfl) ?_
  refine kr_Vi (w' := kL_w g cL a h mb o G1 V M1 f) (As := []) (rest := [.int r]) 86 5 hC (sX5_firstError l g n mb M (r, M1) e2) (cwV 0 hts gL_law_X5_firstError rfl rfl rfl (by decide +kernel) ⟨Nat.le_of_ble_eq_true rfl, Nat.le_of_ble_eq_true rfl⟩) hK hP hD hS hA kL_iM kL_mM kL_nM rfl kL_sM rfl hfs2 rfl rfl rfl hl.1 (Nat.le_of_ble_eq_true rfl) dL_law_803 hf (fun H locs hP hD hS => ?_)
  exact lv_icmp_eq (tgt := 1500) hx hb dL_law_806 (by decide) (fun _ => J G1 V M1 f H locs ls hP hD hS hR2 hl) (fun c9 => absurd rfl c9)
end KBody
