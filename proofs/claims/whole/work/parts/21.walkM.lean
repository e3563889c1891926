set_option maxHeartbeats 8000000 in
set_option maxRecDepth 100000 in
theorem sX5_in (l : Launch) (g : kG) (n : Nat)  (v0 : Int32) (v1 : Int32) (v2 : Int32) (r : Int32) (hR : fX5_in n v0 v1 v2 = some r) : kSp l g yX5_in wsX5_in ({ frames := 0, cells := 0, slots := 0, locals := 0 }) [.int v0, .int v1, .int v2] ([] : va_W) (kQi g ([] : va_W) r) := by
  refine kSp.of (cc := cX5_in) (maxL := 3) (ret := (some .boolean)) (by decide) rfl (Nat.le_of_ble_eq_true rfl) ?_
  intro p e s m args below meth c ls A hC hr hlocks hA hK hl hP hD hS
  replace hC : CallFix p m c cX5_in 3 s args wsX5_in RX5 := hC
  obtain ⟨hx, hb, hml, hown, hts⟩ := id hC
  replace hl : lv_has ls 3 [(0, .int v0), (1, .int v1), (2, .int v2)] := hl
  unfold fX5_in at hR
  refine lv_iload_n hx hb dX5_in_0 rfl (lv_at hl 0 rfl) ?_
  refine lv_iload_n hx hb dX5_in_1 rfl (lv_at hl 1 rfl) ?_
  refine lv_icmp_lt (tgt := 14) hx hb dX5_in_2 (by decide) (fun c1 => ?_) (fun c1 => ?_)
  · replace hR := (if_pos c1).symm.trans hR
    refine lv_iconst (v := (0 : Int32)) hx hb dX5_in_14 (by decide) ?_
    obtain rfl := Option.some.inj hR
    exact kk_ret_z hC hr hlocks hK hP hD hS dX5_in_15 (by decide) rfl
  · replace hR := (if_neg c1).symm.trans hR
    refine lv_iload_n hx hb dX5_in_5 rfl (lv_at hl 0 rfl) ?_
    refine lv_iload_n hx hb dX5_in_6 rfl (lv_at hl 2 rfl) ?_
    refine lv_icmp_gt (tgt := 14) hx hb dX5_in_7 (by decide) (fun c3 => ?_) (fun c3 => ?_)
    · replace hR := (if_pos c3).symm.trans hR
      refine lv_iconst (v := (0 : Int32)) hx hb dX5_in_14 (by decide) ?_
      obtain rfl := Option.some.inj hR
      exact kk_ret_z hC hr hlocks hK hP hD hS dX5_in_15 (by decide) rfl
    · replace hR := (if_neg c3).symm.trans hR
      refine lv_iconst (v := (1 : Int32)) hx hb dX5_in_10 (by decide) ?_
      refine lv_goto (tgt := 15) hx hb dX5_in_11 (by decide) ?_
      obtain rfl := Option.some.inj hR
      exact kk_ret_z hC hr hlocks hK hP hD hS dX5_in_15 (by decide) rfl
set_option maxHeartbeats 8000000 in
set_option maxRecDepth 100000 in
theorem sX5_isFloat (l : Launch) (g : kG) (n : Nat) (a : Nat → Nat) (M : St1) (v1 : Int32) (r : Int32) (hR : fX5_isFloat n M v1 = some r) : kSp l g yX5_isFloat wsX5_isFloat ({ frames := 1, cells := 0, slots := 0, locals := 22 }) [.ref (a 0), .int v1] (w_M g a M) (kQi g (w_M g a M) r) := by
  refine kSp.of (cc := cX5_isFloat) (maxL := 2) (ret := (some .boolean)) (by decide) rfl (Nat.le_of_ble_eq_true rfl) ?_
  intro p e s m args below meth c ls A hC hr hlocks hA hK hl hP hD hS
  replace hC : CallFix p m c cX5_isFloat 2 s args wsX5_isFloat RX5 := hC
  obtain ⟨hx, hb, hml, hown, hts⟩ := id hC
  replace hl : lv_has ls 2 [(0, .ref (a 0)), (1, .int v1)] := hl
  unfold fX5_isFloat at hR
  have hw5 : ∀ w ∈ wsX50, w ∈ wsX5_isFloat := by decide +kernel
  have hl0 := hts (.fieldLink RX5 7 "FloatOrderModel" "now" "[I") (by decide +kernel)
  refine lv_iload_n hx hb dX5_isFloat_0 rfl (lv_at hl 1 rfl) ?_
  refine lv_iconst (v := (0 : Int32)) hx hb dX5_isFloat_1 (by decide) ?_
  refine lv_aload_n hx hb dX5_isFloat_2 rfl (lv_at hl 0 rfl) ?_
  refine va_get (ci := 5) (C := RX5) (T := TX5) (N := 12) hx hb hts hw5 hown hK hP 0 rfl rfl 0 (by decide) hl0 (fun _ h9 => h9) rfl dX5_isFloat_3 ?_
  refine lv_iconst (v := (4 : Int32)) hx hb dX5_isFloat_6 (by decide) ?_
  refine va_iald hx hb hK hP 1 0 rfl rfl (kk_in 4 62 (by decide) (by decide) rfl) dX5_isFloat_7 ?_
  refine lv_iconst (v := (1 : Int32)) hx hb dX5_isFloat_8 (by decide) ?_
  refine lv_isub hx hb dX5_isFloat_9 ?_
  obtain ⟨x1, hq1, hR⟩ := kk_bd_el hR
  refine kk_call_Si (w' := (w_M g a M)) (As := [.int v1, .int (0 : Int32), .int (((M 0) (4 : Int32).toNatClampNeg) - (1 : Int32))]) (rest := []) hC (sX5_in l g n   v1 (0 : Int32) (((M 0) (4 : Int32).toNatClampNeg) - (1 : Int32)) x1 hq1) (va_cwS 3 hts gX5_isFloat_X5_in rfl rfl rfl (by decide +kernel) ⟨Nat.le_of_ble_eq_true rfl, Nat.le_of_ble_eq_true rfl⟩) hK hP hD hS hA [] rfl (by decide +kernel) rfl rfl rfl rfl hl.1 (Nat.le_of_ble_eq_true rfl) dX5_isFloat_10 (fun H locs hP hD hS => ?_)
  obtain ⟨hz2, hR⟩ := kk_cb_el hR
  obtain rfl := Option.some.inj hR
  exact kk_ret_z hC hr hlocks hK hP hD hS dX5_isFloat_13 hz2 rfl
set_option maxHeartbeats 8000000 in
set_option maxRecDepth 100000 in
theorem sX5_isBridge (l : Launch) (g : kG) (n : Nat) (a : Nat → Nat) (M : St1) (v1 : Int32) (r : Int32) (hR : fX5_isBridge n M v1 = some r) : kSp l g yX5_isBridge wsX5_isBridge ({ frames := 1, cells := 0, slots := 0, locals := 22 }) [.ref (a 0), .int v1] (w_M g a M) (kQi g (w_M g a M) r) := by
  refine kSp.of (cc := cX5_isBridge) (maxL := 2) (ret := (some .boolean)) (by decide) rfl (Nat.le_of_ble_eq_true rfl) ?_
  intro p e s m args below meth c ls A hC hr hlocks hA hK hl hP hD hS
  replace hC : CallFix p m c cX5_isBridge 2 s args wsX5_isBridge RX5 := hC
  obtain ⟨hx, hb, hml, hown, hts⟩ := id hC
  replace hl : lv_has ls 2 [(0, .ref (a 0)), (1, .int v1)] := hl
  unfold fX5_isBridge at hR
  have hw5 : ∀ w ∈ wsX50, w ∈ wsX5_isBridge := by decide +kernel
  have hl0 := hts (.fieldLink RX5 7 "FloatOrderModel" "now" "[I") (by decide +kernel)
  refine lv_iload_n hx hb dX5_isBridge_0 rfl (lv_at hl 1 rfl) ?_
  refine lv_iconst (v := (0 : Int32)) hx hb dX5_isBridge_1 (by decide) ?_
  refine lv_aload_n hx hb dX5_isBridge_2 rfl (lv_at hl 0 rfl) ?_
  refine va_get (ci := 5) (C := RX5) (T := TX5) (N := 12) hx hb hts hw5 hown hK hP 0 rfl rfl 0 (by decide) hl0 (fun _ h9 => h9) rfl dX5_isBridge_3 ?_
  refine lv_iconst (v := (5 : Int32)) hx hb dX5_isBridge_6 (by decide) ?_
  refine va_iald hx hb hK hP 1 0 rfl rfl (kk_in 5 62 (by decide) (by decide) rfl) dX5_isBridge_7 ?_
  refine lv_iconst (v := (1 : Int32)) hx hb dX5_isBridge_8 (by decide) ?_
  refine lv_isub hx hb dX5_isBridge_9 ?_
  obtain ⟨x1, hq1, hR⟩ := kk_bd_el hR
  refine kk_call_Si (w' := (w_M g a M)) (As := [.int v1, .int (0 : Int32), .int (((M 0) (5 : Int32).toNatClampNeg) - (1 : Int32))]) (rest := []) hC (sX5_in l g n   v1 (0 : Int32) (((M 0) (5 : Int32).toNatClampNeg) - (1 : Int32)) x1 hq1) (va_cwS 3 hts gX5_isBridge_X5_in rfl rfl rfl (by decide +kernel) ⟨Nat.le_of_ble_eq_true rfl, Nat.le_of_ble_eq_true rfl⟩) hK hP hD hS hA [] rfl (by decide +kernel) rfl rfl rfl rfl hl.1 (Nat.le_of_ble_eq_true rfl) dX5_isBridge_10 (fun H locs hP hD hS => ?_)
  obtain ⟨hz2, hR⟩ := kk_cb_el hR
  obtain rfl := Option.some.inj hR
  exact kk_ret_z hC hr hlocks hK hP hD hS dX5_isBridge_13 hz2 rfl
set_option maxHeartbeats 8000000 in
set_option maxRecDepth 100000 in
theorem sX5_of (l : Launch) (g : kG) (n : Nat) (x : Nat) (f : Nat → Int32) (v1 : Int32) (v2 : Int32) (r : Int32) (hR : fX5_of n f v1 v2 = some r) : kSp l g yX5_of wsX5_of ({ frames := 0, cells := 0, slots := 0, locals := 0 }) [.ref x, .int v1, .int v2] (w_A g x 62 f) (kQi g (w_A g x 62 f) r) := by
  refine kSp.of (cc := cX5_of) (maxL := 3) (ret := (some .int)) (by decide) rfl (Nat.le_of_ble_eq_true rfl) ?_
  intro p e s m args below meth c ls A hC hr hlocks hA hK hl hP hD hS
  replace hC : CallFix p m c cX5_of 3 s args wsX5_of RX5 := hC
  obtain ⟨hx, hb, hml, hown, hts⟩ := id hC
  replace hl : lv_has ls 3 [(0, .ref x), (1, .int v1), (2, .int v2)] := hl
  unfold fX5_of at hR
  refine lv_aload_n hx hb dX5_of_0 rfl (lv_at hl 0 rfl) ?_
  refine lv_bipush (v := (14 : Int32)) hx hb dX5_of_1 (by decide) ?_
  refine lv_iconst (v := (4 : Int32)) hx hb dX5_of_3 (by decide) ?_
  refine lv_iload_n hx hb dX5_of_4 rfl (lv_at hl 1 rfl) ?_
  refine lv_imul hx hb dX5_of_5 ?_
  refine lv_iadd hx hb dX5_of_6 ?_
  refine lv_iload_n hx hb dX5_of_7 rfl (lv_at hl 2 rfl) ?_
  refine lv_iadd hx hb dX5_of_8 ?_
  obtain ⟨hi1, hR⟩ := kk_ck_el hR
  refine va_iald hx hb hK hP 0 0 rfl rfl hi1 dX5_of_9 ?_
  obtain rfl := Option.some.inj hR
  exact kk_ret_i hC hr hlocks hK hP hD hS dX5_of_10 rfl
set_option maxHeartbeats 8000000 in
set_option maxRecDepth 100000 in
theorem sX5_copies (l : Launch) (g : kG) (n : Nat) (x : Nat) (kx : Nat) (y : Nat) (ky : Nat) (f : Nat → Int32) (h : Nat → Int32) (v1 : Int32) (v3 : Int32) (r : (Nat → Int32)) (hR : fX5_copies n kx ky f h v1 v3 = some r) : kSp l g yX5_copies wsX5_copies ({ frames := 0, cells := 0, slots := 0, locals := 0 }) [.ref x, .int v1, .ref y, .int v3] (w_A g x kx f ++ w_A g y ky h) (kQv g (w_A g x kx f ++ w_A g y ky r)) := by
  refine kSp.of (cc := cX5_copies) (maxL := 5) (ret := none) (by decide) rfl (Nat.le_of_ble_eq_true rfl) ?_
  intro p e s m args below meth c ls A hC hr hlocks hA hK hl hP hD hS
  replace hC : CallFix p m c cX5_copies 5 s args wsX5_copies RX5 := hC
  obtain ⟨hx, hb, hml, hown, hts⟩ := id hC
  replace hl : lv_has ls 5 [(0, .ref x), (1, .int v1), (2, .ref y), (3, .int v3)] := hl
  unfold fX5_copies at hR
  refine lv_iconst (v := (0 : Int32)) hx hb dX5_copies_0 (by decide) ?_
  refine lv_istore (lv' := [(4, .int (0 : Int32)), (0, .ref x), (1, .int v1), (2, .ref y), (3, .int v3)]) hx hb dX5_copies_1 hl (by decide) rfl (fun ls hl => ?_)
  obtain ⟨x11, hq11, hR⟩ := kk_bd_el hR
  refine kk_cut (g := g) (A := A) (w' := (w_A g x kx f ++ w_A g y ky x11)) (nL := 5) (lv := []) (pcJ := 28) (st := []) (fun H locs ls hP hD hS hl => ?_) (fun hj11 => ?_)
  · obtain rfl := Option.some.inj hR
    exact kk_ret_v hC hr hlocks hK hP hD hS dX5_copies_28
  refine kk_loop (g := g) (A := A) (fun (st : Int32 × (Nat → Int32)) => (w_A g x kx f ++ w_A g y ky st.2)) (fun (st : Int32 × (Nat → Int32)) => [(4, .int st.1), (0, .ref x), (1, .int v1), (2, .ref y), (3, .int v3)]) 3 (nL := 5) hq11 (fun st xb10 hR ih1 hX1 => ?_) hP hD hS (lv_sub hl [0, 1, 2, 3, 4] rfl)
  clear hP hD hS hl
  obtain ⟨u8, h9⟩ := st
  intro H locs ls hP hD hS hl
  replace hR : fX5_copies_b3 n f kx ky v1 v3 u8 h9 = some xb10 := hR
  replace hP : va_P g.1 vwCl (w_A g x kx f ++ w_A g y ky h9) H := hP
  replace hD : va_D A (w_A g x kx f ++ w_A g y ky h9) := hD
  replace hl : lv_has ls 5 [(4, .int u8), (0, .ref x), (1, .int v1), (2, .ref y), (3, .int v3)] := hl
  unfold fX5_copies_b3 at hR
  refine lv_iload hx hb dX5_copies_3 (lv_at hl 0 rfl) ?_
  refine lv_bipush (v := (62 : Int32)) hx hb dX5_copies_5 (by decide) ?_
  refine lv_icmp_ge (tgt := 28) hx hb dX5_copies_7 (by decide) (fun c12 => ?_) (fun c12 => ?_)
  · replace hR := (if_pos c12).symm.trans hR
    obtain rfl := Option.some.inj hR
    obtain rfl := hX1 _ rfl
    exact hj11 _ _ _ hP hD hS (lv_sub hl [] rfl)
  · replace hR := (if_neg c12).symm.trans hR
    refine lv_aload_n hx hb dX5_copies_10 rfl (lv_at hl 3 rfl) ?_
    refine lv_iload_n hx hb dX5_copies_11 rfl (lv_at hl 4 rfl) ?_
    refine lv_iload hx hb dX5_copies_12 (lv_at hl 0 rfl) ?_
    refine lv_iadd hx hb dX5_copies_14 ?_
    refine lv_aload_n hx hb dX5_copies_15 rfl (lv_at hl 1 rfl) ?_
    refine lv_iload_n hx hb dX5_copies_16 rfl (lv_at hl 2 rfl) ?_
    refine lv_iload hx hb dX5_copies_17 (lv_at hl 0 rfl) ?_
    refine lv_iadd hx hb dX5_copies_19 ?_
    obtain ⟨hi13, hR⟩ := kk_ck_el hR
    refine va_iald hx hb hK hP 0 0 rfl rfl hi13 dX5_copies_20 ?_
    obtain ⟨hi15, hR⟩ := kk_ck_el hR
    obtain ⟨h14, eh14, hR⟩ := kk_nm_el hR
    refine kk_iast (w' := (w_A g x kx f ++ w_A g y ky h14)) hC hK hP hD hS 1 rfl hi15 (by rw [eh14]; rfl) dX5_copies_21 (fun H locs hP hD hS => ?_)
    refine lv_iinc (v := (u8 + (1 : Int32))) (lv' := [(4, .int (u8 + (1 : Int32))), (0, .ref x), (1, .int v1), (2, .ref y), (3, .int v3)]) hx hb dX5_copies_22 hl (k := 0) rfl rfl (by decide) rfl (fun ls hl => ?_)
    refine lv_goto (tgt := 3) hx hb dX5_copies_25 (by decide) ?_
    obtain rfl := Option.some.inj hR
    exact ih1 _ rfl _ _ _ hP hD hS (lv_sub hl [0, 1, 2, 3, 4] rfl)
set_option maxHeartbeats 8000000 in
set_option maxRecDepth 100000 in
theorem sX5_saves (l : Launch) (g : kG) (n : Nat) (a : Nat → Nat) (M : St1) (r : St1) (hR : fX5_saves n M = some r) : kSp l g yX5_saves wsX5_saves ({ frames := 1, cells := 0, slots := 0, locals := 24 }) [.ref (a 0)] (w_M g a M) (kQv g (w_M g a r)) := by
  refine kSp.of (cc := cX5_saves) (maxL := 2) (ret := none) (by decide) rfl (Nat.le_of_ble_eq_true rfl) ?_
  intro p e s m args below meth c ls A hC hr hlocks hA hK hl hP hD hS
  replace hC : CallFix p m c cX5_saves 2 s args wsX5_saves RX5 := hC
  obtain ⟨hx, hb, hml, hown, hts⟩ := id hC
  replace hl : lv_has ls 2 [(0, .ref (a 0))] := hl
  unfold fX5_saves at hR
  have hw5 : ∀ w ∈ wsX50, w ∈ wsX5_saves := by decide +kernel
  have hl0 := hts (.fieldLink RX5 36 "FloatOrderModel" "kept" "I") (by decide +kernel)
  have hl1 := hts (.fieldLink RX5 16 "FloatOrderModel" "past" "[I") (by decide +kernel)
  have hl2 := hts (.fieldLink RX5 7 "FloatOrderModel" "now" "[I") (by decide +kernel)
  refine lv_aload_n hx hb dX5_saves_0 rfl (lv_at hl 0 rfl) ?_
  refine va_get (ci := 5) (C := RX5) (T := TX5) (N := 12) hx hb hts hw5 hown hK hP 0 rfl rfl 3 (by decide) hl0 (fun _ h9 => h9) rfl dX5_saves_1 ?_
  refine lv_bipush (v := (6 : Int32)) hx hb dX5_saves_4 (by decide) ?_
  obtain ⟨x17, hq17, hR⟩ := kk_bd_el hR
  refine kk_cut (g := g) (A := A) (w' := (w_M g a x17)) (nL := 2) (lv := [(0, .ref (a 0))]) (pcJ := 49) (st := []) (fun H locs ls hP hD hS hl => ?_) (fun hj17 => ?_)
  · refine lv_aload_n hx hb dX5_saves_49 rfl (lv_at hl 0 rfl) ?_
    refine va_get (ci := 5) (C := RX5) (T := TX5) (N := 12) hx hb hts hw5 hown hK hP 0 rfl rfl 0 (by decide) hl2 (fun _ h9 => h9) rfl dX5_saves_50 ?_
    refine lv_iconst (v := (0 : Int32)) hx hb dX5_saves_53 (by decide) ?_
    refine lv_aload_n hx hb dX5_saves_54 rfl (lv_at hl 0 rfl) ?_
    refine va_get (ci := 5) (C := RX5) (T := TX5) (N := 12) hx hb hts hw5 hown hK hP 0 rfl rfl 2 (by decide) hl1 (fun _ h9 => h9) rfl dX5_saves_55 ?_
    refine lv_bipush (v := (62 : Int32)) hx hb dX5_saves_58 (by decide) ?_
    refine lv_aload_n hx hb dX5_saves_60 rfl (lv_at hl 0 rfl) ?_
    refine va_get (ci := 5) (C := RX5) (T := TX5) (N := 12) hx hb hts hw5 hown hK hP 0 rfl rfl 3 (by decide) hl0 (fun _ h9 => h9) rfl dX5_saves_61 ?_
    refine lv_imul hx hb dX5_saves_64 ?_
    obtain ⟨x34, hq34, hR⟩ := kk_bd_el hR
    obtain ⟨M35, eM35, hR⟩ := kk_nm_el hR
    refine kk_call_Sv (w' := (w_M g a M35)) (As := [.ref (a 1), .int (0 : Int32), .ref (a 3), .int ((62 : Int32) * (x17 3 0))]) (rest := []) hC (sX5_copies l g n (a 1) 62 (a 3) 372 (x17 0) (x17 2) (0 : Int32) ((62 : Int32) * (x17 3 0)) x34 hq34) (va_cwS 4 hts gX5_saves_X5_copies rfl rfl rfl (by decide +kernel) ⟨Nat.le_of_ble_eq_true rfl, Nat.le_of_ble_eq_true rfl⟩) hK hP hD hS hA [1, 3] rfl (by decide +kernel) rfl (by rw [eM35]; rfl) rfl rfl hl.1 (Nat.le_of_ble_eq_true rfl) dX5_saves_65 (fun H locs hP hD hS => ?_)
    refine lv_aload_n hx hb dX5_saves_68 rfl (lv_at hl 0 rfl) ?_
    refine lv_dup hx hb dX5_saves_69 rfl ?_
    refine va_get (ci := 5) (C := RX5) (T := TX5) (N := 12) hx hb hts hw5 hown hK hP 0 rfl rfl 3 (by decide) hl0 (fun _ h9 => h9) rfl dX5_saves_70 ?_
    refine lv_iconst (v := (1 : Int32)) hx hb dX5_saves_73 (by decide) ?_
    refine lv_iadd hx hb dX5_saves_74 ?_
    obtain ⟨M36, eM36, hR⟩ := kk_nm_el hR
    refine kk_put (w' := (w_M g a M36)) (ci := 5) (C := RX5) (T := TX5) (N := 12) (ty := .int) (v := .int ((M35 3 0) + (1 : Int32))) hC hw5 tyX5 tyX5_ok nmX5 hK hP hD hS 0 rfl rfl 3 (by decide) hl0 rfl (by decide +kernel) rfl rfl (Nat.le_of_ble_eq_true rfl) (by rw [eM36]; rfl) dX5_saves_75 rfl (fun H locs hP hD hS => ?_)
    obtain rfl := Option.some.inj hR
    exact kk_ret_v hC hr hlocks hK hP hD hS dX5_saves_78
  replace hR := hq17
  refine lv_icmp_ne (tgt := 49) hx hb dX5_saves_6 (by decide) (fun c18 => ?_) (fun c18 => ?_)
  · replace hR := (if_neg c18).symm.trans hR
    obtain rfl := Option.some.inj hR
    exact hj17 _ _ _ hP hD hS (lv_sub hl [0] rfl)
  · replace hR := (if_pos c18).symm.trans hR
    refine lv_iconst (v := (0 : Int32)) hx hb dX5_saves_9 (by decide) ?_
    refine lv_istore_n (lv' := [(1, .int (0 : Int32)), (0, .ref (a 0))]) hx hb dX5_saves_10 rfl hl (by decide) rfl (fun ls hl => ?_)
    obtain ⟨x28, hq28, hR⟩ := kk_bd_el hR
    refine kk_cut (g := g) (A := A) (w' := (w_M g a x28)) (nL := 2) (lv := [(0, .ref (a 0))]) (pcJ := 39) (st := []) (fun H locs ls hP hD hS hl => ?_) (fun hj28 => ?_)
    · refine lv_aload_n hx hb dX5_saves_39 rfl (lv_at hl 0 rfl) ?_
      refine lv_dup hx hb dX5_saves_40 rfl ?_
      refine va_get (ci := 5) (C := RX5) (T := TX5) (N := 12) hx hb hts hw5 hown hK hP 0 rfl rfl 3 (by decide) hl0 (fun _ h9 => h9) rfl dX5_saves_41 ?_
      refine lv_iconst (v := (1 : Int32)) hx hb dX5_saves_44 (by decide) ?_
      refine lv_isub hx hb dX5_saves_45 ?_
      obtain ⟨M33, eM33, hR⟩ := kk_nm_el hR
      refine kk_put (w' := (w_M g a M33)) (ci := 5) (C := RX5) (T := TX5) (N := 12) (ty := .int) (v := .int ((x28 3 0) - (1 : Int32))) hC hw5 tyX5 tyX5_ok nmX5 hK hP hD hS 0 rfl rfl 3 (by decide) hl0 rfl (by decide +kernel) rfl rfl (Nat.le_of_ble_eq_true rfl) (by rw [eM33]; rfl) dX5_saves_46 rfl (fun H locs hP hD hS => ?_)
      obtain rfl := Option.some.inj hR
      exact hj17 _ _ _ hP hD hS (lv_sub hl [0] rfl)
    refine kk_loop (g := g) (A := A) (fun (st : Int32 × St1) => (w_M g a st.2)) (fun (st : Int32 × St1) => [(1, .int st.1), (0, .ref (a 0))]) 11 (nL := 2) hq28 (fun st xb27 hR ih2 hX2 => ?_) hP hD hS (lv_sub hl [0, 1] rfl)
    clear hP hD hS hl
    obtain ⟨u25, M26⟩ := st
    intro H locs ls hP hD hS hl
    replace hR : fX5_saves_b11 n u25 M26 = some xb27 := hR
    replace hP : va_P g.1 vwCl (w_M g a M26) H := hP
    replace hD : va_D A (w_M g a M26) := hD
    replace hl : lv_has ls 2 [(1, .int u25), (0, .ref (a 0))] := hl
    unfold fX5_saves_b11 at hR
    refine lv_iload_n hx hb dX5_saves_11 rfl (lv_at hl 0 rfl) ?_
    refine lv_sipush (v := (310 : Int32)) hx hb dX5_saves_12 (by decide) ?_
    refine lv_icmp_ge (tgt := 39) hx hb dX5_saves_15 (by decide) (fun c29 => ?_) (fun c29 => ?_)
    · replace hR := (if_pos c29).symm.trans hR
      obtain rfl := Option.some.inj hR
      obtain rfl := hX2 _ rfl
      exact hj28 _ _ _ hP hD hS (lv_sub hl [1] rfl)
    · replace hR := (if_neg c29).symm.trans hR
      refine lv_aload_n hx hb dX5_saves_18 rfl (lv_at hl 1 rfl) ?_
      refine va_get (ci := 5) (C := RX5) (T := TX5) (N := 12) hx hb hts hw5 hown hK hP 0 rfl rfl 2 (by decide) hl1 (fun _ h9 => h9) rfl dX5_saves_19 ?_
      refine lv_iload_n hx hb dX5_saves_22 rfl (lv_at hl 0 rfl) ?_
      refine lv_aload_n hx hb dX5_saves_23 rfl (lv_at hl 1 rfl) ?_
      refine va_get (ci := 5) (C := RX5) (T := TX5) (N := 12) hx hb hts hw5 hown hK hP 0 rfl rfl 2 (by decide) hl1 (fun _ h9 => h9) rfl dX5_saves_24 ?_
      refine lv_iload_n hx hb dX5_saves_27 rfl (lv_at hl 0 rfl) ?_
      refine lv_bipush (v := (62 : Int32)) hx hb dX5_saves_28 (by decide) ?_
      refine lv_iadd hx hb dX5_saves_30 ?_
      obtain ⟨hi30, hR⟩ := kk_ck_el hR
      refine va_iald hx hb hK hP 3 0 rfl rfl hi30 dX5_saves_31 ?_
      obtain ⟨hi32, hR⟩ := kk_ck_el hR
      obtain ⟨M31, eM31, hR⟩ := kk_nm_el hR
      refine kk_iast (w' := (w_M g a M31)) hC hK hP hD hS 3 rfl hi32 (by rw [eM31]; rfl) dX5_saves_32 (fun H locs hP hD hS => ?_)
      refine lv_iinc (v := (u25 + (1 : Int32))) (lv' := [(1, .int (u25 + (1 : Int32))), (0, .ref (a 0))]) hx hb dX5_saves_33 hl (k := 0) rfl rfl (by decide) rfl (fun ls hl => ?_)
      refine lv_goto (tgt := 11) hx hb dX5_saves_36 (by decide) ?_
      obtain rfl := Option.some.inj hR
      exact ih2 _ rfl _ _ _ hP hD hS (lv_sub hl [0, 1] rfl)
set_option maxHeartbeats 8000000 in
set_option maxRecDepth 100000 in
theorem sX5_fails (l : Launch) (g : kG) (n : Nat) (a : Nat → Nat) (M : St1) (v1 : Int32) (r : Int32 × St1) (hR : fX5_fails n M v1 = some r) : kSp l g yX5_fails wsX5_fails ({ frames := 0, cells := 0, slots := 0, locals := 0 }) [.ref (a 0), .int v1] (w_M g a M) (kQi g (w_M g a r.2) r.1) := by
  refine kSp.of (cc := cX5_fails) (maxL := 2) (ret := (some .int)) (by decide) rfl (Nat.le_of_ble_eq_true rfl) ?_
  intro p e s m args below meth c ls A hC hr hlocks hA hK hl hP hD hS
  replace hC : CallFix p m c cX5_fails 2 s args wsX5_fails RX5 := hC
  obtain ⟨hx, hb, hml, hown, hts⟩ := id hC
  replace hl : lv_has ls 2 [(0, .ref (a 0)), (1, .int v1)] := hl
  unfold fX5_fails at hR
  have hw5 : ∀ w ∈ wsX50, w ∈ wsX5_fails := by decide +kernel
  have hl0 := hts (.fieldLink RX5 28 "FloatOrderModel" "thrown" "I") (by decide +kernel)
  refine lv_aload_n hx hb dX5_fails_0 rfl (lv_at hl 0 rfl) ?_
  refine lv_iload_n hx hb dX5_fails_1 rfl (lv_at hl 1 rfl) ?_
  obtain ⟨M1, eM1, hR⟩ := kk_nm_el hR
  refine kk_put (w' := (w_M g a M1)) (ci := 5) (C := RX5) (T := TX5) (N := 12) (ty := .int) (v := .int v1) hC hw5 tyX5 tyX5_ok nmX5 hK hP hD hS 0 rfl rfl 6 (by decide) hl0 rfl (by decide +kernel) rfl rfl (Nat.le_of_ble_eq_true rfl) (by rw [eM1]; rfl) dX5_fails_2 rfl (fun H locs hP hD hS => ?_)
  refine lv_iconst (v := (0 : Int32)) hx hb dX5_fails_5 (by decide) ?_
  obtain rfl := Option.some.inj hR
  exact kk_ret_i hC hr hlocks hK hP hD hS dX5_fails_6 rfl
set_option maxHeartbeats 8000000 in
set_option maxRecDepth 100000 in
theorem sX5_thrown (l : Launch) (g : kG) (n : Nat) (a : Nat → Nat) (M : St1) (r : Int32) (hR : fX5_thrown n M = some r) : kSp l g yX5_thrown wsX5_thrown ({ frames := 0, cells := 0, slots := 0, locals := 0 }) [.ref (a 0)] (w_M g a M) (kQi g (w_M g a M) r) := by
  refine kSp.of (cc := cX5_thrown) (maxL := 1) (ret := (some .int)) (by decide) rfl (Nat.le_of_ble_eq_true rfl) ?_
  intro p e s m args below meth c ls A hC hr hlocks hA hK hl hP hD hS
  replace hC : CallFix p m c cX5_thrown 1 s args wsX5_thrown RX5 := hC
  obtain ⟨hx, hb, hml, hown, hts⟩ := id hC
  replace hl : lv_has ls 1 [(0, .ref (a 0))] := hl
  unfold fX5_thrown at hR
  have hw5 : ∀ w ∈ wsX50, w ∈ wsX5_thrown := by decide +kernel
  have hl0 := hts (.fieldLink RX5 28 "FloatOrderModel" "thrown" "I") (by decide +kernel)
  refine lv_aload_n hx hb dX5_thrown_0 rfl (lv_at hl 0 rfl) ?_
  refine va_get (ci := 5) (C := RX5) (T := TX5) (N := 12) hx hb hts hw5 hown hK hP 0 rfl rfl 6 (by decide) hl0 (fun _ h9 => h9) rfl dX5_thrown_1 ?_
  obtain rfl := Option.some.inj hR
  exact kk_ret_i hC hr hlocks hK hP hD hS dX5_thrown_4 rfl
set_option maxHeartbeats 8000000 in
set_option maxRecDepth 100000 in
theorem sX5_undo (l : Launch) (g : kG) (n : Nat) (a : Nat → Nat) (M : St1) (r : Int32 × St1) (hR : fX5_undo n M = some r) : kSp l g yX5_undo wsX5_undo ({ frames := 1, cells := 0, slots := 0, locals := 24 }) [.ref (a 0)] (w_M g a M) (kQi g (w_M g a r.2) r.1) := by
  refine kSp.of (cc := cX5_undo) (maxL := 1) (ret := (some .int)) (by decide) rfl (Nat.le_of_ble_eq_true rfl) ?_
  intro p e s m args below meth c ls A hC hr hlocks hA hK hl hP hD hS
  replace hC : CallFix p m c cX5_undo 1 s args wsX5_undo RX5 := hC
  obtain ⟨hx, hb, hml, hown, hts⟩ := id hC
  replace hl : lv_has ls 1 [(0, .ref (a 0))] := hl
  unfold fX5_undo at hR
  have hw5 : ∀ w ∈ wsX50, w ∈ wsX5_undo := by decide +kernel
  have hl0 := hts (.fieldLink RX5 28 "FloatOrderModel" "thrown" "I") (by decide +kernel)
  have hl1 := hts (.fieldLink RX5 36 "FloatOrderModel" "kept" "I") (by decide +kernel)
  have hl2 := hts (.fieldLink RX5 16 "FloatOrderModel" "past" "[I") (by decide +kernel)
  have hl3 := hts (.fieldLink RX5 7 "FloatOrderModel" "now" "[I") (by decide +kernel)
  refine lv_aload_n hx hb dX5_undo_0 rfl (lv_at hl 0 rfl) ?_
  refine lv_iconst (v := (0 : Int32)) hx hb dX5_undo_1 (by decide) ?_
  obtain ⟨M1, eM1, hR⟩ := kk_nm_el hR
  refine kk_put (w' := (w_M g a M1)) (ci := 5) (C := RX5) (T := TX5) (N := 12) (ty := .int) (v := .int (0 : Int32)) hC hw5 tyX5 tyX5_ok nmX5 hK hP hD hS 0 rfl rfl 6 (by decide) hl0 rfl (by decide +kernel) rfl rfl (Nat.le_of_ble_eq_true rfl) (by rw [eM1]; rfl) dX5_undo_2 rfl (fun H locs hP hD hS => ?_)
  refine lv_aload_n hx hb dX5_undo_5 rfl (lv_at hl 0 rfl) ?_
  refine va_get (ci := 5) (C := RX5) (T := TX5) (N := 12) hx hb hts hw5 hown hK hP 0 rfl rfl 3 (by decide) hl1 (fun _ h9 => h9) rfl dX5_undo_6 ?_
  refine lv_if_ne (tgt := 18) hx hb dX5_undo_9 (by decide) (fun c2 => ?_) (fun c2 => ?_)
  · replace hR := (if_neg c2).symm.trans hR
    refine lv_aload_n hx hb dX5_undo_18 rfl (lv_at hl 0 rfl) ?_
    refine lv_dup hx hb dX5_undo_19 rfl ?_
    refine va_get (ci := 5) (C := RX5) (T := TX5) (N := 12) hx hb hts hw5 hown hK hP 0 rfl rfl 3 (by decide) hl1 (fun _ h9 => h9) rfl dX5_undo_20 ?_
    refine lv_iconst (v := (1 : Int32)) hx hb dX5_undo_23 (by decide) ?_
    refine lv_isub hx hb dX5_undo_24 ?_
    obtain ⟨M3, eM3, hR⟩ := kk_nm_el hR
    refine kk_put (w' := (w_M g a M3)) (ci := 5) (C := RX5) (T := TX5) (N := 12) (ty := .int) (v := .int ((M1 3 0) - (1 : Int32))) hC hw5 tyX5 tyX5_ok nmX5 hK hP hD hS 0 rfl rfl 3 (by decide) hl1 rfl (by decide +kernel) rfl rfl (Nat.le_of_ble_eq_true rfl) (by rw [eM3]; rfl) dX5_undo_25 rfl (fun H locs hP hD hS => ?_)
    refine lv_aload_n hx hb dX5_undo_28 rfl (lv_at hl 0 rfl) ?_
    refine va_get (ci := 5) (C := RX5) (T := TX5) (N := 12) hx hb hts hw5 hown hK hP 0 rfl rfl 2 (by decide) hl2 (fun _ h9 => h9) rfl dX5_undo_29 ?_
    refine lv_bipush (v := (62 : Int32)) hx hb dX5_undo_32 (by decide) ?_
    refine lv_aload_n hx hb dX5_undo_34 rfl (lv_at hl 0 rfl) ?_
    refine va_get (ci := 5) (C := RX5) (T := TX5) (N := 12) hx hb hts hw5 hown hK hP 0 rfl rfl 3 (by decide) hl1 (fun _ h9 => h9) rfl dX5_undo_35 ?_
    refine lv_imul hx hb dX5_undo_38 ?_
    refine lv_aload_n hx hb dX5_undo_39 rfl (lv_at hl 0 rfl) ?_
    refine va_get (ci := 5) (C := RX5) (T := TX5) (N := 12) hx hb hts hw5 hown hK hP 0 rfl rfl 0 (by decide) hl3 (fun _ h9 => h9) rfl dX5_undo_40 ?_
    refine lv_iconst (v := (0 : Int32)) hx hb dX5_undo_43 (by decide) ?_
    obtain ⟨x4, hq4, hR⟩ := kk_bd_el hR
    obtain ⟨M5, eM5, hR⟩ := kk_nm_el hR
    refine kk_call_Sv (w' := (w_M g a M5)) (As := [.ref (a 3), .int ((62 : Int32) * (M3 3 0)), .ref (a 1), .int (0 : Int32)]) (rest := []) hC (sX5_copies l g n (a 3) 372 (a 1) 62 (M3 2) (M3 0) ((62 : Int32) * (M3 3 0)) (0 : Int32) x4 hq4) (va_cwS 4 hts gX5_undo_X5_copies rfl rfl rfl (by decide +kernel) ⟨Nat.le_of_ble_eq_true rfl, Nat.le_of_ble_eq_true rfl⟩) hK hP hD hS hA [3, 1] rfl (by decide +kernel) rfl (by rw [eM5]; rfl) rfl rfl hl.1 (Nat.le_of_ble_eq_true rfl) dX5_undo_44 (fun H locs hP hD hS => ?_)
    refine lv_aload_n hx hb dX5_undo_47 rfl (lv_at hl 0 rfl) ?_
    refine va_get (ci := 5) (C := RX5) (T := TX5) (N := 12) hx hb hts hw5 hown hK hP 0 rfl rfl 3 (by decide) hl1 (fun _ h9 => h9) rfl dX5_undo_48 ?_
    obtain rfl := Option.some.inj hR
    exact kk_ret_i hC hr hlocks hK hP hD hS dX5_undo_51 rfl
  · replace hR := (if_pos c2).symm.trans hR
    refine lv_aload_n hx hb dX5_undo_12 rfl (lv_at hl 0 rfl) ?_
    refine lv_iconst (v := (1 : Int32)) hx hb dX5_undo_13 (by decide) ?_
    obtain ⟨x6, hq6, hR⟩ := kk_bd_el hR
    refine kk_call_Vi (w' := (w_M g a x6.2)) (As := [.int (1 : Int32)]) (rest := []) 0 5 hC (sX5_fails l g n a M1 (1 : Int32) x6 hq6) (cwV 1 hts gX5_undo_X5_fails rfl rfl rfl (by decide +kernel) ⟨Nat.le_of_ble_eq_true rfl, Nat.le_of_ble_eq_true rfl⟩) hK hP hD hS hA [0, 1, 2, 3, 4, 5, 6] rfl (by decide +kernel) rfl rfl rfl rfl rfl rfl rfl hl.1 (Nat.le_of_ble_eq_true rfl) dX5_undo_14 (fun H locs hP hD hS => ?_)
    obtain rfl := Option.some.inj hR
    exact kk_ret_i hC hr hlocks hK hP hD hS dX5_undo_17 rfl
set_option maxHeartbeats 8000000 in
set_option maxRecDepth 100000 in
theorem sX5_troubled (l : Launch) (g : kG) (n : Nat) (x : Nat) (f : Nat → Int32) (v1 : Int32) (v2 : Int32) (r : Int32) (hR : fX5_troubled n f v1 v2 = some r) : kSp l g yX5_troubled wsX5_troubled ({ frames := 1, cells := 0, slots := 0, locals := 22 }) [.ref x, .int v1, .int v2] (w_A g x 62 f) (kQi g (w_A g x 62 f) r) := by
  refine kSp.of (cc := cX5_troubled) (maxL := 6) (ret := (some .int)) (by decide) rfl (Nat.le_of_ble_eq_true rfl) ?_
  intro p e s m args below meth c ls A hC hr hlocks hA hK hl hP hD hS
  replace hC : CallFix p m c cX5_troubled 6 s args wsX5_troubled RX5 := hC
  obtain ⟨hx, hb, hml, hown, hts⟩ := id hC
  replace hl : lv_has ls 6 [(0, .ref x), (1, .int v1), (2, .int v2)] := hl
  unfold fX5_troubled at hR
  refine lv_aload_n hx hb dX5_troubled_0 rfl (lv_at hl 0 rfl) ?_
  refine lv_iload_n hx hb dX5_troubled_1 rfl (lv_at hl 1 rfl) ?_
  refine lv_iconst (v := (0 : Int32)) hx hb dX5_troubled_2 (by decide) ?_
  obtain ⟨x1, hq1, hR⟩ := kk_bd_el hR
  refine kk_call_Si (w' := (w_A g x 62 f)) (As := [.ref x, .int v1, .int (0 : Int32)]) (rest := []) hC (sX5_of l g n x f v1 (0 : Int32) x1 hq1) (va_cwS 3 hts gX5_troubled_X5_of rfl rfl rfl (by decide +kernel) ⟨Nat.le_of_ble_eq_true rfl, Nat.le_of_ble_eq_true rfl⟩) hK hP hD hS hA [0] rfl (by decide +kernel) rfl rfl rfl rfl hl.1 (Nat.le_of_ble_eq_true rfl) dX5_troubled_3 (fun H locs hP hD hS => ?_)
  refine lv_istore_n (lv' := [(3, .int x1), (0, .ref x), (1, .int v1), (2, .int v2)]) hx hb dX5_troubled_6 rfl hl (by decide) rfl (fun ls hl => ?_)
  refine lv_iload_n hx hb dX5_troubled_7 rfl (lv_at hl 3 rfl) ?_
  refine lv_if_ne (tgt := 78) hx hb dX5_troubled_8 (by decide) (fun c2 => ?_) (fun c2 => ?_)
  · replace hR := (if_neg c2).symm.trans hR
    refine lv_iload_n hx hb dX5_troubled_78 rfl (lv_at hl 3 rfl) ?_
    refine lv_iconst (v := (2 : Int32)) hx hb dX5_troubled_79 (by decide) ?_
    refine lv_icmp_ne (tgt := 110) hx hb dX5_troubled_80 (by decide) (fun c3 => ?_) (fun c3 => ?_)
    · replace hR := (if_neg c3).symm.trans hR
      refine lv_iconst (v := (0 : Int32)) hx hb dX5_troubled_110 (by decide) ?_
      refine lv_istore (lv' := [(4, .int (0 : Int32)), (3, .int x1), (0, .ref x), (1, .int v1), (2, .int v2)]) hx hb dX5_troubled_111 hl (by decide) rfl (fun ls hl => ?_)
      refine lv_iconst (v := (0 : Int32)) hx hb dX5_troubled_113 (by decide) ?_
      refine lv_istore (lv' := [(5, .int (0 : Int32)), (4, .int (0 : Int32)), (3, .int x1), (0, .ref x), (1, .int v1), (2, .int v2)]) hx hb dX5_troubled_114 hl (by decide) rfl (fun ls hl => ?_)
      obtain ⟨x15, hq15, hR⟩ := kk_bd_el hR
      refine kk_cut (g := g) (A := A) (w' := (w_A g x 62 f)) (nL := 6) (lv := [(4, .int x15)]) (pcJ := 164) (st := []) (fun H locs ls hP hD hS hl => ?_) (fun hj15 => ?_)
      · refine lv_iload hx hb dX5_troubled_164 (lv_at hl 0 rfl) ?_
        obtain rfl := Option.some.inj hR
        exact kk_ret_i hC hr hlocks hK hP hD hS dX5_troubled_166 rfl
      refine kk_loop (g := g) (A := A) (fun (st : Int32 × Int32) => (w_A g x 62 f)) (fun (st : Int32 × Int32) => [(5, .int st.2), (4, .int st.1), (3, .int x1), (0, .ref x), (1, .int v1)]) 116 (nL := 6) hq15 (fun st xb14 hR ih1 hX1 => ?_) hP hD hS (lv_sub hl [0, 1, 2, 3, 4] rfl)
      clear hP hD hS hl
      obtain ⟨u12, u13⟩ := st
      intro H locs ls hP hD hS hl
      replace hR : fX5_troubled_b116 n f v1 x1 u12 u13 = some xb14 := hR
      replace hP : va_P g.1 vwCl (w_A g x 62 f) H := hP
      replace hD : va_D A (w_A g x 62 f) := hD
      replace hl : lv_has ls 6 [(5, .int u13), (4, .int u12), (3, .int x1), (0, .ref x), (1, .int v1)] := hl
      unfold fX5_troubled_b116 at hR
      refine lv_iload hx hb dX5_troubled_116 (lv_at hl 0 rfl) ?_
      refine lv_iload_n hx hb dX5_troubled_118 rfl (lv_at hl 4 rfl) ?_
      refine lv_icmp_ge (tgt := 164) hx hb dX5_troubled_119 (by decide) (fun c16 => ?_) (fun c16 => ?_)
      · replace hR := (if_pos c16).symm.trans hR
        obtain rfl := Option.some.inj hR
        obtain rfl := hX1 _ rfl
        exact hj15 _ _ _ hP hD hS (lv_sub hl [1] rfl)
      · replace hR := (if_neg c16).symm.trans hR
        refine lv_iload_n hx hb dX5_troubled_122 rfl (lv_at hl 2 rfl) ?_
        refine lv_iconst (v := (2 : Int32)) hx hb dX5_troubled_123 (by decide) ?_
        refine lv_icmp_ne (tgt := 164) hx hb dX5_troubled_124 (by decide) (fun c17 => ?_) (fun c17 => ?_)
        · replace hR := (if_neg c17).symm.trans hR
          obtain rfl := Option.some.inj hR
          obtain rfl := hX1 _ rfl
          exact hj15 _ _ _ hP hD hS (lv_sub hl [1] rfl)
        · replace hR := (if_pos c17).symm.trans hR
          refine lv_iload hx hb dX5_troubled_127 (lv_at hl 1 rfl) ?_
          refine lv_aload_n hx hb dX5_troubled_129 rfl (lv_at hl 3 rfl) ?_
          refine lv_iload hx hb dX5_troubled_130 (lv_at hl 0 rfl) ?_
          refine lv_iconst (v := (0 : Int32)) hx hb dX5_troubled_132 (by decide) ?_
          obtain ⟨x18, hq18, hR⟩ := kk_bd_el hR
          refine kk_call_Si (w' := (w_A g x 62 f)) (As := [.ref x, .int u13, .int (0 : Int32)]) (rest := [.int u12]) hC (sX5_of l g n x f u13 (0 : Int32) x18 hq18) (va_cwS 3 hts gX5_troubled_X5_of rfl rfl rfl (by decide +kernel) ⟨Nat.le_of_ble_eq_true rfl, Nat.le_of_ble_eq_true rfl⟩) hK hP hD hS hA [0] rfl (by decide +kernel) rfl rfl rfl rfl hl.1 (Nat.le_of_ble_eq_true rfl) dX5_troubled_133 (fun H locs hP hD hS => ?_)
          refine lv_iconst (v := (2 : Int32)) hx hb dX5_troubled_136 (by decide) ?_
          refine lv_icmp_ne (tgt := 154) hx hb dX5_troubled_137 (by decide) (fun c19 => ?_) (fun c19 => ?_)
          · replace hR := (if_neg c19).symm.trans hR
            refine lv_iconst (v := (0 : Int32)) hx hb dX5_troubled_154 (by decide) ?_
            refine lv_iadd hx hb dX5_troubled_155 ?_
            refine lv_istore (lv' := [(4, .int (u12 + (0 : Int32))), (5, .int u13), (3, .int x1), (0, .ref x), (1, .int v1)]) hx hb dX5_troubled_156 hl (by decide) rfl (fun ls hl => ?_)
            refine lv_iinc (v := (u13 + (1 : Int32))) (lv' := [(5, .int (u13 + (1 : Int32))), (4, .int (u12 + (0 : Int32))), (3, .int x1), (0, .ref x), (1, .int v1)]) hx hb dX5_troubled_158 hl (k := 1) rfl rfl (by decide) rfl (fun ls hl => ?_)
            refine lv_goto (tgt := 116) hx hb dX5_troubled_161 (by decide) ?_
            obtain rfl := Option.some.inj hR
            exact ih1 _ rfl _ _ _ hP hD hS (lv_sub hl [0, 1, 2, 3, 4] rfl)
          · replace hR := (if_pos c19).symm.trans hR
            refine lv_iload_n hx hb dX5_troubled_140 rfl (lv_at hl 4 rfl) ?_
            refine lv_iload hx hb dX5_troubled_141 (lv_at hl 0 rfl) ?_
            refine lv_isub hx hb dX5_troubled_143 ?_
            refine lv_aload_n hx hb dX5_troubled_144 rfl (lv_at hl 3 rfl) ?_
            refine lv_iconst (v := (0 : Int32)) hx hb dX5_troubled_145 (by decide) ?_
            refine va_iald hx hb hK hP 0 0 rfl rfl (kk_in 0 62 (by decide) (by decide) rfl) dX5_troubled_146 ?_
            refine lv_icmp_ge (tgt := 154) hx hb dX5_troubled_147 (by decide) (fun c20 => ?_) (fun c20 => ?_)
            · replace hR := (if_pos c20).symm.trans hR
              refine lv_iconst (v := (0 : Int32)) hx hb dX5_troubled_154 (by decide) ?_
              refine lv_iadd hx hb dX5_troubled_155 ?_
              refine lv_istore (lv' := [(4, .int (u12 + (0 : Int32))), (5, .int u13), (3, .int x1), (0, .ref x), (1, .int v1)]) hx hb dX5_troubled_156 hl (by decide) rfl (fun ls hl => ?_)
              refine lv_iinc (v := (u13 + (1 : Int32))) (lv' := [(5, .int (u13 + (1 : Int32))), (4, .int (u12 + (0 : Int32))), (3, .int x1), (0, .ref x), (1, .int v1)]) hx hb dX5_troubled_158 hl (k := 1) rfl rfl (by decide) rfl (fun ls hl => ?_)
              refine lv_goto (tgt := 116) hx hb dX5_troubled_161 (by decide) ?_
              obtain rfl := Option.some.inj hR
              exact ih1 _ rfl _ _ _ hP hD hS (lv_sub hl [0, 1, 2, 3, 4] rfl)
            · replace hR := (if_neg c20).symm.trans hR
              refine lv_iconst (v := (1 : Int32)) hx hb dX5_troubled_150 (by decide) ?_
              refine lv_goto (tgt := 155) hx hb dX5_troubled_151 (by decide) ?_
              refine lv_iadd hx hb dX5_troubled_155 ?_
              refine lv_istore (lv' := [(4, .int (u12 + (1 : Int32))), (5, .int u13), (3, .int x1), (0, .ref x), (1, .int v1)]) hx hb dX5_troubled_156 hl (by decide) rfl (fun ls hl => ?_)
              refine lv_iinc (v := (u13 + (1 : Int32))) (lv' := [(5, .int (u13 + (1 : Int32))), (4, .int (u12 + (1 : Int32))), (3, .int x1), (0, .ref x), (1, .int v1)]) hx hb dX5_troubled_158 hl (k := 1) rfl rfl (by decide) rfl (fun ls hl => ?_)
              refine lv_goto (tgt := 116) hx hb dX5_troubled_161 (by decide) ?_
              obtain rfl := Option.some.inj hR
              exact ih1 _ rfl _ _ _ hP hD hS (lv_sub hl [0, 1, 2, 3, 4] rfl)
    · replace hR := (if_pos c3).symm.trans hR
      refine lv_iload_n hx hb dX5_troubled_83 rfl (lv_at hl 0 rfl) ?_
      refine lv_iconst (v := (3 : Int32)) hx hb dX5_troubled_84 (by decide) ?_
      refine lv_icmp_ne (tgt := 108) hx hb dX5_troubled_85 (by decide) (fun c21 => ?_) (fun c21 => ?_)
      · replace hR := (if_neg c21).symm.trans hR
        refine lv_iconst (v := (0 : Int32)) hx hb dX5_troubled_108 (by decide) ?_
        obtain rfl := Option.some.inj hR
        exact kk_ret_i hC hr hlocks hK hP hD hS dX5_troubled_109 rfl
      · replace hR := (if_pos c21).symm.trans hR
        refine lv_iload_n hx hb dX5_troubled_88 rfl (lv_at hl 2 rfl) ?_
        refine lv_if_le (tgt := 108) hx hb dX5_troubled_89 (by decide) (fun c22 => ?_) (fun c22 => ?_)
        · replace hR := (if_pos c22).symm.trans hR
          refine lv_iconst (v := (0 : Int32)) hx hb dX5_troubled_108 (by decide) ?_
          obtain rfl := Option.some.inj hR
          exact kk_ret_i hC hr hlocks hK hP hD hS dX5_troubled_109 rfl
        · replace hR := (if_neg c22).symm.trans hR
          refine lv_aload_n hx hb dX5_troubled_92 rfl (lv_at hl 1 rfl) ?_
          refine lv_iload_n hx hb dX5_troubled_93 rfl (lv_at hl 2 rfl) ?_
          refine lv_iconst (v := (1 : Int32)) hx hb dX5_troubled_94 (by decide) ?_
          refine lv_isub hx hb dX5_troubled_95 ?_
          refine lv_iconst (v := (0 : Int32)) hx hb dX5_troubled_96 (by decide) ?_
          obtain ⟨x23, hq23, hR⟩ := kk_bd_el hR
          refine kk_call_Si (w' := (w_A g x 62 f)) (As := [.ref x, .int (v1 - (1 : Int32)), .int (0 : Int32)]) (rest := []) hC (sX5_of l g n x f (v1 - (1 : Int32)) (0 : Int32) x23 hq23) (va_cwS 3 hts gX5_troubled_X5_of rfl rfl rfl (by decide +kernel) ⟨Nat.le_of_ble_eq_true rfl, Nat.le_of_ble_eq_true rfl⟩) hK hP hD hS hA [0] rfl (by decide +kernel) rfl rfl rfl rfl hl.1 (Nat.le_of_ble_eq_true rfl) dX5_troubled_97 (fun H locs hP hD hS => ?_)
          refine lv_iconst (v := (3 : Int32)) hx hb dX5_troubled_100 (by decide) ?_
          refine lv_icmp_ne (tgt := 108) hx hb dX5_troubled_101 (by decide) (fun c24 => ?_) (fun c24 => ?_)
          · replace hR := (if_neg c24).symm.trans hR
            refine lv_iconst (v := (0 : Int32)) hx hb dX5_troubled_108 (by decide) ?_
            obtain rfl := Option.some.inj hR
            exact kk_ret_i hC hr hlocks hK hP hD hS dX5_troubled_109 rfl
          · replace hR := (if_pos c24).symm.trans hR
            refine lv_iconst (v := (2 : Int32)) hx hb dX5_troubled_104 (by decide) ?_
            refine lv_goto (tgt := 109) hx hb dX5_troubled_105 (by decide) ?_
            obtain rfl := Option.some.inj hR
            exact kk_ret_i hC hr hlocks hK hP hD hS dX5_troubled_109 rfl
  · replace hR := (if_pos c2).symm.trans hR
    refine lv_iload_n hx hb dX5_troubled_11 rfl (lv_at hl 2 rfl) ?_
    obtain ⟨x29, hq29, hR⟩ := kk_bd_el hR
    refine kk_cut (g := g) (A := A) (w' := (w_A g x 62 f)) (nL := 6) (lv := [(0, .ref x), (1, .int v1)]) (pcJ := 41) (st := [.int x29]) (fun H locs ls hP hD hS hl => ?_) (fun hj29 => ?_)
    · refine lv_istore (lv' := [(4, .int x29), (0, .ref x), (1, .int v1)]) hx hb dX5_troubled_41 hl (by decide) rfl (fun ls hl => ?_)
      refine lv_iload hx hb dX5_troubled_43 (lv_at hl 0 rfl) ?_
      refine lv_iload_n hx hb dX5_troubled_45 rfl (lv_at hl 2 rfl) ?_
      refine lv_iconst (v := (1 : Int32)) hx hb dX5_troubled_46 (by decide) ?_
      refine lv_icmp_le (tgt := 75) hx hb dX5_troubled_47 (by decide) (fun c34 => ?_) (fun c34 => ?_)
      · replace hR := (if_pos c34).symm.trans hR
        refine lv_iconst (v := (0 : Int32)) hx hb dX5_troubled_75 (by decide) ?_
        refine lv_iadd hx hb dX5_troubled_76 ?_
        obtain rfl := Option.some.inj hR
        exact kk_ret_i hC hr hlocks hK hP hD hS dX5_troubled_77 rfl
      · replace hR := (if_neg c34).symm.trans hR
        refine lv_aload_n hx hb dX5_troubled_50 rfl (lv_at hl 1 rfl) ?_
        refine lv_iload_n hx hb dX5_troubled_51 rfl (lv_at hl 2 rfl) ?_
        refine lv_iconst (v := (2 : Int32)) hx hb dX5_troubled_52 (by decide) ?_
        obtain ⟨x35, hq35, hR⟩ := kk_bd_el hR
        refine kk_call_Si (w' := (w_A g x 62 f)) (As := [.ref x, .int v1, .int (2 : Int32)]) (rest := [.int x29]) hC (sX5_of l g n x f v1 (2 : Int32) x35 hq35) (va_cwS 3 hts gX5_troubled_X5_of rfl rfl rfl (by decide +kernel) ⟨Nat.le_of_ble_eq_true rfl, Nat.le_of_ble_eq_true rfl⟩) hK hP hD hS hA [0] rfl (by decide +kernel) rfl rfl rfl rfl hl.1 (Nat.le_of_ble_eq_true rfl) dX5_troubled_53 (fun H locs hP hD hS => ?_)
        refine lv_aload_n hx hb dX5_troubled_56 rfl (lv_at hl 1 rfl) ?_
        refine lv_iload_n hx hb dX5_troubled_57 rfl (lv_at hl 2 rfl) ?_
        refine lv_iconst (v := (2 : Int32)) hx hb dX5_troubled_58 (by decide) ?_
        refine lv_isub hx hb dX5_troubled_59 ?_
        refine lv_iconst (v := (0 : Int32)) hx hb dX5_troubled_60 (by decide) ?_
        obtain ⟨x36, hq36, hR⟩ := kk_bd_el hR
        refine kk_call_Si (w' := (w_A g x 62 f)) (As := [.ref x, .int (v1 - (2 : Int32)), .int (0 : Int32)]) (rest := [.int x35, .int x29]) hC (sX5_of l g n x f (v1 - (2 : Int32)) (0 : Int32) x36 hq36) (va_cwS 3 hts gX5_troubled_X5_of rfl rfl rfl (by decide +kernel) ⟨Nat.le_of_ble_eq_true rfl, Nat.le_of_ble_eq_true rfl⟩) hK hP hD hS hA [0] rfl (by decide +kernel) rfl rfl rfl rfl hl.1 (Nat.le_of_ble_eq_true rfl) dX5_troubled_61 (fun H locs hP hD hS => ?_)
        refine lv_ishr hx hb dX5_troubled_64 ?_
        refine lv_iconst (v := (1 : Int32)) hx hb dX5_troubled_65 (by decide) ?_
        refine lv_iand hx hb dX5_troubled_66 ?_
        refine lv_iconst (v := (1 : Int32)) hx hb dX5_troubled_67 (by decide) ?_
        refine lv_icmp_ne (tgt := 75) hx hb dX5_troubled_68 (by decide) (fun c37 => ?_) (fun c37 => ?_)
        · replace hR := (if_neg c37).symm.trans hR
          refine lv_iconst (v := (0 : Int32)) hx hb dX5_troubled_75 (by decide) ?_
          refine lv_iadd hx hb dX5_troubled_76 ?_
          obtain rfl := Option.some.inj hR
          exact kk_ret_i hC hr hlocks hK hP hD hS dX5_troubled_77 rfl
        · replace hR := (if_pos c37).symm.trans hR
          refine lv_iconst (v := (1 : Int32)) hx hb dX5_troubled_71 (by decide) ?_
          refine lv_goto (tgt := 76) hx hb dX5_troubled_72 (by decide) ?_
          refine lv_iadd hx hb dX5_troubled_76 ?_
          obtain rfl := Option.some.inj hR
          exact kk_ret_i hC hr hlocks hK hP hD hS dX5_troubled_77 rfl
    replace hR := hq29
    refine lv_if_le (tgt := 40) hx hb dX5_troubled_12 (by decide) (fun c30 => ?_) (fun c30 => ?_)
    · replace hR := (if_pos c30).symm.trans hR
      refine lv_iconst (v := (0 : Int32)) hx hb dX5_troubled_40 (by decide) ?_
      obtain rfl := Option.some.inj hR
      exact hj29 _ _ _ hP hD hS (lv_sub hl [1, 2] rfl)
    · replace hR := (if_neg c30).symm.trans hR
      refine lv_aload_n hx hb dX5_troubled_15 rfl (lv_at hl 1 rfl) ?_
      refine lv_iload_n hx hb dX5_troubled_16 rfl (lv_at hl 2 rfl) ?_
      refine lv_iconst (v := (2 : Int32)) hx hb dX5_troubled_17 (by decide) ?_
      obtain ⟨x31, hq31, hR⟩ := kk_bd_el hR
      refine kk_call_Si (w' := (w_A g x 62 f)) (As := [.ref x, .int v1, .int (2 : Int32)]) (rest := []) hC (sX5_of l g n x f v1 (2 : Int32) x31 hq31) (va_cwS 3 hts gX5_troubled_X5_of rfl rfl rfl (by decide +kernel) ⟨Nat.le_of_ble_eq_true rfl, Nat.le_of_ble_eq_true rfl⟩) hK hP hD hS hA [0] rfl (by decide +kernel) rfl rfl rfl rfl hl.1 (Nat.le_of_ble_eq_true rfl) dX5_troubled_18 (fun H locs hP hD hS => ?_)
      refine lv_aload_n hx hb dX5_troubled_21 rfl (lv_at hl 1 rfl) ?_
      refine lv_iload_n hx hb dX5_troubled_22 rfl (lv_at hl 2 rfl) ?_
      refine lv_iconst (v := (1 : Int32)) hx hb dX5_troubled_23 (by decide) ?_
      refine lv_isub hx hb dX5_troubled_24 ?_
      refine lv_iconst (v := (0 : Int32)) hx hb dX5_troubled_25 (by decide) ?_
      obtain ⟨x32, hq32, hR⟩ := kk_bd_el hR
      refine kk_call_Si (w' := (w_A g x 62 f)) (As := [.ref x, .int (v1 - (1 : Int32)), .int (0 : Int32)]) (rest := [.int x31]) hC (sX5_of l g n x f (v1 - (1 : Int32)) (0 : Int32) x32 hq32) (va_cwS 3 hts gX5_troubled_X5_of rfl rfl rfl (by decide +kernel) ⟨Nat.le_of_ble_eq_true rfl, Nat.le_of_ble_eq_true rfl⟩) hK hP hD hS hA [0] rfl (by decide +kernel) rfl rfl rfl rfl hl.1 (Nat.le_of_ble_eq_true rfl) dX5_troubled_26 (fun H locs hP hD hS => ?_)
      refine lv_ishr hx hb dX5_troubled_29 ?_
      refine lv_iconst (v := (1 : Int32)) hx hb dX5_troubled_30 (by decide) ?_
      refine lv_iand hx hb dX5_troubled_31 ?_
      refine lv_iconst (v := (1 : Int32)) hx hb dX5_troubled_32 (by decide) ?_
      refine lv_icmp_ne (tgt := 40) hx hb dX5_troubled_33 (by decide) (fun c33 => ?_) (fun c33 => ?_)
      · replace hR := (if_neg c33).symm.trans hR
        refine lv_iconst (v := (0 : Int32)) hx hb dX5_troubled_40 (by decide) ?_
        obtain rfl := Option.some.inj hR
        exact hj29 _ _ _ hP hD hS (lv_sub hl [1, 2] rfl)
      · replace hR := (if_pos c33).symm.trans hR
        refine lv_iconst (v := (3 : Int32)) hx hb dX5_troubled_36 (by decide) ?_
        refine lv_goto (tgt := 41) hx hb dX5_troubled_37 (by decide) ?_
        obtain rfl := Option.some.inj hR
        exact hj29 _ _ _ hP hD hS (lv_sub hl [1, 2] rfl)
set_option maxHeartbeats 8000000 in
set_option maxRecDepth 100000 in
theorem sX5_troubles (l : Launch) (g : kG) (n : Nat) (x : Nat) (f : Nat → Int32) (v1 : Int32) (r : Int32) (hR : fX5_troubles n f v1 = some r) : kSp l g yX5_troubles wsX5_troubles ({ frames := 2, cells := 0, slots := 0, locals := 47 }) [.ref x, .int v1] (w_A g x 62 f) (kQi g (w_A g x 62 f) r) := by
  refine kSp.of (cc := cX5_troubles) (maxL := 2) (ret := (some .int)) (by decide) rfl (Nat.le_of_ble_eq_true rfl) ?_
  intro p e s m args below meth c ls A hC hr hlocks hA hK hl hP hD hS
  replace hC : CallFix p m c cX5_troubles 2 s args wsX5_troubles RX5 := hC
  obtain ⟨hx, hb, hml, hown, hts⟩ := id hC
  replace hl : lv_has ls 2 [(0, .ref x), (1, .int v1)] := hl
  unfold fX5_troubles at hR
  refine lv_aload_n hx hb dX5_troubles_0 rfl (lv_at hl 0 rfl) ?_
  refine lv_iload_n hx hb dX5_troubles_1 rfl (lv_at hl 1 rfl) ?_
  refine lv_iconst (v := (0 : Int32)) hx hb dX5_troubles_2 (by decide) ?_
  obtain ⟨x1, hq1, hR⟩ := kk_bd_el hR
  refine kk_call_Si (w' := (w_A g x 62 f)) (As := [.ref x, .int v1, .int (0 : Int32)]) (rest := []) hC (sX5_troubled l g n x f v1 (0 : Int32) x1 hq1) (va_cwS 3 hts gX5_troubles_X5_troubled rfl rfl rfl (by decide +kernel) ⟨Nat.le_of_ble_eq_true rfl, Nat.le_of_ble_eq_true rfl⟩) hK hP hD hS hA [0] rfl (by decide +kernel) rfl rfl rfl rfl hl.1 (Nat.le_of_ble_eq_true rfl) dX5_troubles_3 (fun H locs hP hD hS => ?_)
  refine lv_aload_n hx hb dX5_troubles_6 rfl (lv_at hl 0 rfl) ?_
  refine lv_iload_n hx hb dX5_troubles_7 rfl (lv_at hl 1 rfl) ?_
  refine lv_iconst (v := (1 : Int32)) hx hb dX5_troubles_8 (by decide) ?_
  obtain ⟨x2, hq2, hR⟩ := kk_bd_el hR
  refine kk_call_Si (w' := (w_A g x 62 f)) (As := [.ref x, .int v1, .int (1 : Int32)]) (rest := [.int x1]) hC (sX5_troubled l g n x f v1 (1 : Int32) x2 hq2) (va_cwS 3 hts gX5_troubles_X5_troubled rfl rfl rfl (by decide +kernel) ⟨Nat.le_of_ble_eq_true rfl, Nat.le_of_ble_eq_true rfl⟩) hK hP hD hS hA [0] rfl (by decide +kernel) rfl rfl rfl rfl hl.1 (Nat.le_of_ble_eq_true rfl) dX5_troubles_9 (fun H locs hP hD hS => ?_)
  refine lv_iadd hx hb dX5_troubles_12 ?_
  refine lv_aload_n hx hb dX5_troubles_13 rfl (lv_at hl 0 rfl) ?_
  refine lv_iload_n hx hb dX5_troubles_14 rfl (lv_at hl 1 rfl) ?_
  refine lv_iconst (v := (2 : Int32)) hx hb dX5_troubles_15 (by decide) ?_
  obtain ⟨x3, hq3, hR⟩ := kk_bd_el hR
  refine kk_call_Si (w' := (w_A g x 62 f)) (As := [.ref x, .int v1, .int (2 : Int32)]) (rest := [.int (x1 + x2)]) hC (sX5_troubled l g n x f v1 (2 : Int32) x3 hq3) (va_cwS 3 hts gX5_troubles_X5_troubled rfl rfl rfl (by decide +kernel) ⟨Nat.le_of_ble_eq_true rfl, Nat.le_of_ble_eq_true rfl⟩) hK hP hD hS hA [0] rfl (by decide +kernel) rfl rfl rfl rfl hl.1 (Nat.le_of_ble_eq_true rfl) dX5_troubles_16 (fun H locs hP hD hS => ?_)
  refine lv_iadd hx hb dX5_troubles_19 ?_
  obtain rfl := Option.some.inj hR
  exact kk_ret_i hC hr hlocks hK hP hD hS dX5_troubles_20 rfl
set_option maxHeartbeats 8000000 in
set_option maxRecDepth 100000 in
theorem sX5_allTrouble (l : Launch) (g : kG) (n : Nat) (x : Nat) (f : Nat → Int32) (r : Int32) (hR : fX5_allTrouble n f = some r) : kSp l g yX5_allTrouble wsX5_allTrouble ({ frames := 3, cells := 0, slots := 0, locals := 68 }) [.ref x] (w_A g x 62 f) (kQi g (w_A g x 62 f) r) := by
  refine kSp.of (cc := cX5_allTrouble) (maxL := 3) (ret := (some .int)) (by decide) rfl (Nat.le_of_ble_eq_true rfl) ?_
  intro p e s m args below meth c ls A hC hr hlocks hA hK hl hP hD hS
  replace hC : CallFix p m c cX5_allTrouble 3 s args wsX5_allTrouble RX5 := hC
  obtain ⟨hx, hb, hml, hown, hts⟩ := id hC
  replace hl : lv_has ls 3 [(0, .ref x)] := hl
  unfold fX5_allTrouble at hR
  refine lv_iconst (v := (0 : Int32)) hx hb dX5_allTrouble_0 (by decide) ?_
  refine lv_istore_n (lv' := [(1, .int (0 : Int32)), (0, .ref x)]) hx hb dX5_allTrouble_1 rfl hl (by decide) rfl (fun ls hl => ?_)
  refine lv_iconst (v := (0 : Int32)) hx hb dX5_allTrouble_2 (by decide) ?_
  refine lv_istore_n (lv' := [(2, .int (0 : Int32)), (1, .int (0 : Int32)), (0, .ref x)]) hx hb dX5_allTrouble_3 rfl hl (by decide) rfl (fun ls hl => ?_)
  obtain ⟨x9, hq9, hR⟩ := kk_bd_el hR
  refine kk_cut (g := g) (A := A) (w' := (w_A g x 62 f)) (nL := 3) (lv := [(1, .int x9)]) (pcJ := 25) (st := []) (fun H locs ls hP hD hS hl => ?_) (fun hj9 => ?_)
  · refine lv_iload_n hx hb dX5_allTrouble_25 rfl (lv_at hl 0 rfl) ?_
    obtain rfl := Option.some.inj hR
    exact kk_ret_i hC hr hlocks hK hP hD hS dX5_allTrouble_26 rfl
  refine kk_loop (g := g) (A := A) (fun (st : Int32 × Int32) => (w_A g x 62 f)) (fun (st : Int32 × Int32) => [(2, .int st.2), (1, .int st.1), (0, .ref x)]) 4 (nL := 3) hq9 (fun st xb8 hR ih1 hX1 => ?_) hP hD hS (lv_sub hl [0, 1, 2] rfl)
  clear hP hD hS hl
  obtain ⟨u6, u7⟩ := st
  intro H locs ls hP hD hS hl
  replace hR : fX5_allTrouble_b4 n f u6 u7 = some xb8 := hR
  replace hP : va_P g.1 vwCl (w_A g x 62 f) H := hP
  replace hD : va_D A (w_A g x 62 f) := hD
  replace hl : lv_has ls 3 [(2, .int u7), (1, .int u6), (0, .ref x)] := hl
  unfold fX5_allTrouble_b4 at hR
  refine lv_iload_n hx hb dX5_allTrouble_4 rfl (lv_at hl 0 rfl) ?_
  refine lv_aload_n hx hb dX5_allTrouble_5 rfl (lv_at hl 2 rfl) ?_
  refine lv_iconst (v := (4 : Int32)) hx hb dX5_allTrouble_6 (by decide) ?_
  refine va_iald hx hb hK hP 0 0 rfl rfl (kk_in 4 62 (by decide) (by decide) rfl) dX5_allTrouble_7 ?_
  refine lv_icmp_ge (tgt := 25) hx hb dX5_allTrouble_8 (by decide) (fun c10 => ?_) (fun c10 => ?_)
  · replace hR := (if_pos c10).symm.trans hR
    obtain rfl := Option.some.inj hR
    obtain rfl := hX1 _ rfl
    exact hj9 _ _ _ hP hD hS (lv_sub hl [1] rfl)
  · replace hR := (if_neg c10).symm.trans hR
    refine lv_iload_n hx hb dX5_allTrouble_11 rfl (lv_at hl 1 rfl) ?_
    refine lv_aload_n hx hb dX5_allTrouble_12 rfl (lv_at hl 2 rfl) ?_
    refine lv_iload_n hx hb dX5_allTrouble_13 rfl (lv_at hl 0 rfl) ?_
    obtain ⟨x11, hq11, hR⟩ := kk_bd_el hR
    refine kk_call_Si (w' := (w_A g x 62 f)) (As := [.ref x, .int u7]) (rest := [.int u6]) hC (sX5_troubles l g n x f u7 x11 hq11) (va_cwS 2 hts gX5_allTrouble_X5_troubles rfl rfl rfl (by decide +kernel) ⟨Nat.le_of_ble_eq_true rfl, Nat.le_of_ble_eq_true rfl⟩) hK hP hD hS hA [0] rfl (by decide +kernel) rfl rfl rfl rfl hl.1 (Nat.le_of_ble_eq_true rfl) dX5_allTrouble_14 (fun H locs hP hD hS => ?_)
    refine lv_iadd hx hb dX5_allTrouble_17 ?_
    refine lv_istore_n (lv' := [(1, .int (u6 + x11)), (2, .int u7), (0, .ref x)]) hx hb dX5_allTrouble_18 rfl hl (by decide) rfl (fun ls hl => ?_)
    refine lv_iinc (v := (u7 + (1 : Int32))) (lv' := [(2, .int (u7 + (1 : Int32))), (1, .int (u6 + x11)), (0, .ref x)]) hx hb dX5_allTrouble_19 hl (k := 1) rfl rfl (by decide) rfl (fun ls hl => ?_)
    refine lv_goto (tgt := 4) hx hb dX5_allTrouble_22 (by decide) ?_
    obtain rfl := Option.some.inj hR
    exact ih1 _ rfl _ _ _ hP hD hS (lv_sub hl [0, 1, 2] rfl)
set_option maxHeartbeats 8000000 in
set_option maxRecDepth 100000 in
theorem sX5_high (l : Launch) (g : kG) (n : Nat) (x : Nat) (f : Nat → Int32) (v1 : Int32) (r : Int32) (hR : fX5_high n f v1 = some r) : kSp l g yX5_high wsX5_high ({ frames := 1, cells := 0, slots := 0, locals := 22 }) [.ref x, .int v1] (w_A g x 62 f) (kQi g (w_A g x 62 f) r) := by
  refine kSp.of (cc := cX5_high) (maxL := 3) (ret := (some .int)) (by decide) rfl (Nat.le_of_ble_eq_true rfl) ?_
  intro p e s m args below meth c ls A hC hr hlocks hA hK hl hP hD hS
  replace hC : CallFix p m c cX5_high 3 s args wsX5_high RX5 := hC
  obtain ⟨hx, hb, hml, hown, hts⟩ := id hC
  replace hl : lv_has ls 3 [(0, .ref x), (1, .int v1)] := hl
  unfold fX5_high at hR
  refine lv_aload_n hx hb dX5_high_0 rfl (lv_at hl 0 rfl) ?_
  refine lv_iload_n hx hb dX5_high_1 rfl (lv_at hl 1 rfl) ?_
  refine lv_iconst (v := (1 : Int32)) hx hb dX5_high_2 (by decide) ?_
  obtain ⟨x1, hq1, hR⟩ := kk_bd_el hR
  refine kk_call_Si (w' := (w_A g x 62 f)) (As := [.ref x, .int v1, .int (1 : Int32)]) (rest := []) hC (sX5_of l g n x f v1 (1 : Int32) x1 hq1) (va_cwS 3 hts gX5_high_X5_of rfl rfl rfl (by decide +kernel) ⟨Nat.le_of_ble_eq_true rfl, Nat.le_of_ble_eq_true rfl⟩) hK hP hD hS hA [0] rfl (by decide +kernel) rfl rfl rfl rfl hl.1 (Nat.le_of_ble_eq_true rfl) dX5_high_3 (fun H locs hP hD hS => ?_)
  refine lv_bipush (v := (20 : Int32)) hx hb dX5_high_6 (by decide) ?_
  refine lv_aload_n hx hb dX5_high_8 rfl (lv_at hl 0 rfl) ?_
  refine lv_iload_n hx hb dX5_high_9 rfl (lv_at hl 1 rfl) ?_
  refine lv_iconst (v := (3 : Int32)) hx hb dX5_high_10 (by decide) ?_
  obtain ⟨x2, hq2, hR⟩ := kk_bd_el hR
  refine kk_call_Si (w' := (w_A g x 62 f)) (As := [.ref x, .int v1, .int (3 : Int32)]) (rest := [.int (20 : Int32), .int x1]) hC (sX5_of l g n x f v1 (3 : Int32) x2 hq2) (va_cwS 3 hts gX5_high_X5_of rfl rfl rfl (by decide +kernel) ⟨Nat.le_of_ble_eq_true rfl, Nat.le_of_ble_eq_true rfl⟩) hK hP hD hS hA [0] rfl (by decide +kernel) rfl rfl rfl rfl hl.1 (Nat.le_of_ble_eq_true rfl) dX5_high_11 (fun H locs hP hD hS => ?_)
  refine lv_imul hx hb dX5_high_14 ?_
  refine lv_isub hx hb dX5_high_15 ?_
  refine lv_istore_n (lv' := [(2, .int (x1 - ((20 : Int32) * x2))), (0, .ref x), (1, .int v1)]) hx hb dX5_high_16 rfl hl (by decide) rfl (fun ls hl => ?_)
  refine lv_iload_n hx hb dX5_high_17 rfl (lv_at hl 0 rfl) ?_
  refine lv_bipush (v := (10 : Int32)) hx hb dX5_high_18 (by decide) ?_
  refine lv_icmp_ge (tgt := 28) hx hb dX5_high_20 (by decide) (fun c3 => ?_) (fun c3 => ?_)
  · replace hR := (if_pos c3).symm.trans hR
    refine lv_iload_n hx hb dX5_high_28 rfl (lv_at hl 0 rfl) ?_
    obtain rfl := Option.some.inj hR
    exact kk_ret_i hC hr hlocks hK hP hD hS dX5_high_29 rfl
  · replace hR := (if_neg c3).symm.trans hR
    refine lv_bipush (v := (10 : Int32)) hx hb dX5_high_23 (by decide) ?_
    refine lv_goto (tgt := 29) hx hb dX5_high_25 (by decide) ?_
    obtain rfl := Option.some.inj hR
    exact kk_ret_i hC hr hlocks hK hP hD hS dX5_high_29 rfl
set_option maxHeartbeats 8000000 in
set_option maxRecDepth 100000 in
theorem sX5_isLowered (l : Launch) (g : kG) (n : Nat) (x : Nat) (f : Nat → Int32) (v1 : Int32) (v2 : Int32) (r : Int32) (hR : fX5_isLowered n f v1 v2 = some r) : kSp l g yX5_isLowered wsX5_isLowered ({ frames := 2, cells := 0, slots := 0, locals := 44 }) [.ref x, .int v1, .int v2] (w_A g x 62 f) (kQi g (w_A g x 62 f) r) := by
  refine kSp.of (cc := cX5_isLowered) (maxL := 3) (ret := (some .boolean)) (by decide) rfl (Nat.le_of_ble_eq_true rfl) ?_
  intro p e s m args below meth c ls A hC hr hlocks hA hK hl hP hD hS
  replace hC : CallFix p m c cX5_isLowered 3 s args wsX5_isLowered RX5 := hC
  obtain ⟨hx, hb, hml, hown, hts⟩ := id hC
  replace hl : lv_has ls 3 [(0, .ref x), (1, .int v1), (2, .int v2)] := hl
  unfold fX5_isLowered at hR
  refine lv_aload_n hx hb dX5_isLowered_0 rfl (lv_at hl 0 rfl) ?_
  refine lv_iload_n hx hb dX5_isLowered_1 rfl (lv_at hl 1 rfl) ?_
  obtain ⟨x1, hq1, hR⟩ := kk_bd_el hR
  refine kk_call_Si (w' := (w_A g x 62 f)) (As := [.ref x, .int v1]) (rest := []) hC (sX5_high l g n x f v1 x1 hq1) (va_cwS 2 hts gX5_isLowered_X5_high rfl rfl rfl (by decide +kernel) ⟨Nat.le_of_ble_eq_true rfl, Nat.le_of_ble_eq_true rfl⟩) hK hP hD hS hA [0] rfl (by decide +kernel) rfl rfl rfl rfl hl.1 (Nat.le_of_ble_eq_true rfl) dX5_isLowered_2 (fun H locs hP hD hS => ?_)
  refine lv_aload_n hx hb dX5_isLowered_5 rfl (lv_at hl 0 rfl) ?_
  refine lv_bipush (v := (6 : Int32)) hx hb dX5_isLowered_6 (by decide) ?_
  refine lv_iconst (v := (2 : Int32)) hx hb dX5_isLowered_8 (by decide) ?_
  refine lv_iload_n hx hb dX5_isLowered_9 rfl (lv_at hl 2 rfl) ?_
  refine lv_imul hx hb dX5_isLowered_10 ?_
  refine lv_iadd hx hb dX5_isLowered_11 ?_
  refine lv_iconst (v := (1 : Int32)) hx hb dX5_isLowered_12 (by decide) ?_
  refine lv_iadd hx hb dX5_isLowered_13 ?_
  obtain ⟨hi2, hR⟩ := kk_ck_el hR
  refine va_iald hx hb hK hP 0 0 rfl rfl hi2 dX5_isLowered_14 ?_
  refine lv_icmp_le (tgt := 22) hx hb dX5_isLowered_15 (by decide) (fun c3 => ?_) (fun c3 => ?_)
  · replace hR := (if_pos c3).symm.trans hR
    refine lv_iconst (v := (0 : Int32)) hx hb dX5_isLowered_22 (by decide) ?_
    obtain rfl := Option.some.inj hR
    exact kk_ret_z hC hr hlocks hK hP hD hS dX5_isLowered_23 (by decide) rfl
  · replace hR := (if_neg c3).symm.trans hR
    refine lv_iconst (v := (1 : Int32)) hx hb dX5_isLowered_18 (by decide) ?_
    refine lv_goto (tgt := 23) hx hb dX5_isLowered_19 (by decide) ?_
    obtain rfl := Option.some.inj hR
    exact kk_ret_z hC hr hlocks hK hP hD hS dX5_isLowered_23 (by decide) rfl
set_option maxHeartbeats 8000000 in
set_option maxRecDepth 100000 in
theorem sX5_goesN (l : Launch) (g : kG) (n : Nat) (a : Nat → Nat) (M : St1) (v2 : Int32) (r : Int32 × St1) (hR : fX5_goesN n M v2 = some r) : kSp l g yX5_goes wsX5_goes ({ frames := 3, cells := 0, slots := 0, locals := 66 }) [.ref (a 0), .ref (a 1), .int v2] (w_M g a M) (kQi g (w_M g a r.2) r.1) := by
  refine kSp.of (cc := cX5_goes) (maxL := 11) (ret := (some .int)) (by decide) rfl (Nat.le_of_ble_eq_true rfl) ?_
  intro p e s m args below meth c ls A hC hr hlocks hA hK hl hP hD hS
  replace hC : CallFix p m c cX5_goes 11 s args wsX5_goes RX5 := hC
  obtain ⟨hx, hb, hml, hown, hts⟩ := id hC
  replace hl : lv_has ls 11 [(0, .ref (a 0)), (1, .ref (a 1)), (2, .int v2)] := hl
  unfold fX5_goesN at hR
  have hw5 : ∀ w ∈ wsX50, w ∈ wsX5_goes := by decide +kernel
  have hl0 := hts (.fieldLink RX5 25 "FloatOrderModel" "minutes" "[I") (by decide +kernel)
  refine lv_aload_n hx hb dX5_goes_0 rfl (lv_at hl 1 rfl) ?_
  refine lv_iconst (v := (5 : Int32)) hx hb dX5_goes_1 (by decide) ?_
  refine va_iald hx hb hK hP 1 0 rfl rfl (kk_in 5 62 (by decide) (by decide) rfl) dX5_goes_2 ?_
  refine lv_istore_n (lv' := [(3, .int ((M 0) (5 : Int32).toNatClampNeg)), (0, .ref (a 0)), (1, .ref (a 1)), (2, .int v2)]) hx hb dX5_goes_3 rfl hl (by decide) rfl (fun ls hl => ?_)
  refine lv_iconst (v := (0 : Int32)) hx hb dX5_goes_4 (by decide) ?_
  refine lv_istore (lv' := [(4, .int (0 : Int32)), (3, .int ((M 0) (5 : Int32).toNatClampNeg)), (0, .ref (a 0)), (1, .ref (a 1)), (2, .int v2)]) hx hb dX5_goes_5 hl (by decide) rfl (fun ls hl => ?_)
  obtain ⟨x93, hq93, hR⟩ := kk_bd_el hR
  refine kk_cut (g := g) (A := A) (w' := (w_M g a x93)) (nL := 11) (lv := [(3, .int ((M 0) (5 : Int32).toNatClampNeg)), (0, .ref (a 0)), (1, .ref (a 1))]) (pcJ := 204) (st := []) (fun H locs ls hP hD hS hl => ?_) (fun hj93 => ?_)
  · refine lv_aload_n hx hb dX5_goes_204 rfl (lv_at hl 2 rfl) ?_
    refine lv_iconst (v := (4 : Int32)) hx hb dX5_goes_205 (by decide) ?_
    refine va_iald hx hb hK hP 1 0 rfl rfl (kk_in 4 62 (by decide) (by decide) rfl) dX5_goes_206 ?_
    refine lv_if_ne (tgt := 214) hx hb dX5_goes_207 (by decide) (fun c181 => ?_) (fun c181 => ?_)
    · replace hR := (if_neg c181).symm.trans hR
      refine lv_aload_n hx hb dX5_goes_214 rfl (lv_at hl 1 rfl) ?_
      refine va_get (ci := 5) (C := RX5) (T := TX5) (N := 12) hx hb hts hw5 hown hK hP 0 rfl rfl 11 (by decide) hl0 (fun _ h9 => h9) rfl dX5_goes_215 ?_
      refine lv_iconst (v := (5 : Int32)) hx hb dX5_goes_218 (by decide) ?_
      refine lv_aload_n hx hb dX5_goes_219 rfl (lv_at hl 2 rfl) ?_
      refine lv_iconst (v := (4 : Int32)) hx hb dX5_goes_220 (by decide) ?_
      refine va_iald hx hb hK hP 1 0 rfl rfl (kk_in 4 62 (by decide) (by decide) rfl) dX5_goes_221 ?_
      refine lv_iconst (v := (1 : Int32)) hx hb dX5_goes_222 (by decide) ?_
      refine lv_isub hx hb dX5_goes_223 ?_
      refine lv_imul hx hb dX5_goes_224 ?_
      refine lv_iload_n hx hb dX5_goes_225 rfl (lv_at hl 0 rfl) ?_
      refine lv_iadd hx hb dX5_goes_226 ?_
      obtain ⟨hi182, hR⟩ := kk_ck_el hR
      refine va_iald hx hb hK hP 6 0 rfl rfl hi182 dX5_goes_227 ?_
      obtain rfl := Option.some.inj hR
      exact kk_ret_i hC hr hlocks hK hP hD hS dX5_goes_228 rfl
    · replace hR := (if_pos c181).symm.trans hR
      refine lv_iconst (v := (0 : Int32)) hx hb dX5_goes_210 (by decide) ?_
      refine lv_goto (tgt := 228) hx hb dX5_goes_211 (by decide) ?_
      obtain rfl := Option.some.inj hR
      exact kk_ret_i hC hr hlocks hK hP hD hS dX5_goes_228 rfl
  refine kk_loop (g := g) (A := A) (fun (st : Int32 × St1) => (w_M g a st.2)) (fun (st : Int32 × St1) => [(4, .int st.1), (3, .int ((M 0) (5 : Int32).toNatClampNeg)), (0, .ref (a 0)), (1, .ref (a 1)), (2, .int v2)]) 7 (nL := 11) hq93 (fun st xb92 hR ih2 hX2 => ?_) hP hD hS (lv_sub hl [0, 1, 2, 3, 4] rfl)
  clear hP hD hS hl
  obtain ⟨u90, M91⟩ := st
  intro H locs ls hP hD hS hl
  replace hR : fX5_goesN_b7 n M v2 u90 M91 = some xb92 := hR
  replace hP : va_P g.1 vwCl (w_M g a M91) H := hP
  replace hD : va_D A (w_M g a M91) := hD
  replace hl : lv_has ls 11 [(4, .int u90), (3, .int ((M 0) (5 : Int32).toNatClampNeg)), (0, .ref (a 0)), (1, .ref (a 1)), (2, .int v2)] := hl
  unfold fX5_goesN_b7 at hR
  refine lv_iload hx hb dX5_goes_7 (lv_at hl 0 rfl) ?_
  refine lv_aload_n hx hb dX5_goes_9 rfl (lv_at hl 3 rfl) ?_
  refine lv_iconst (v := (4 : Int32)) hx hb dX5_goes_10 (by decide) ?_
  refine va_iald hx hb hK hP 1 0 rfl rfl (kk_in 4 62 (by decide) (by decide) rfl) dX5_goes_11 ?_
  refine lv_icmp_ge (tgt := 204) hx hb dX5_goes_12 (by decide) (fun c94 => ?_) (fun c94 => ?_)
  · replace hR := (if_pos c94).symm.trans hR
    obtain rfl := Option.some.inj hR
    obtain rfl := hX2 _ rfl
    exact hj93 _ _ _ hP hD hS (lv_sub hl [1, 2, 3] rfl)
  · replace hR := (if_neg c94).symm.trans hR
    refine lv_iload hx hb dX5_goes_15 (lv_at hl 0 rfl) ?_
    refine lv_aload_n hx hb dX5_goes_17 rfl (lv_at hl 3 rfl) ?_
    refine lv_iconst (v := (1 : Int32)) hx hb dX5_goes_18 (by decide) ?_
    refine va_iald hx hb hK hP 1 0 rfl rfl (kk_in 1 62 (by decide) (by decide) rfl) dX5_goes_19 ?_
    refine lv_imul hx hb dX5_goes_20 ?_
    refine lv_istore (lv' := [(5, .int (u90 * ((M91 0) (1 : Int32).toNatClampNeg))), (4, .int u90), (3, .int ((M 0) (5 : Int32).toNatClampNeg)), (0, .ref (a 0)), (1, .ref (a 1)), (2, .int v2)]) hx hb dX5_goes_21 hl (by decide) rfl (fun ls hl => ?_)
    refine lv_iconst (v := (0 : Int32)) hx hb dX5_goes_23 (by decide) ?_
    refine lv_istore (lv' := [(6, .int (0 : Int32)), (5, .int (u90 * ((M91 0) (1 : Int32).toNatClampNeg))), (4, .int u90), (3, .int ((M 0) (5 : Int32).toNatClampNeg)), (0, .ref (a 0)), (1, .ref (a 1)), (2, .int v2)]) hx hb dX5_goes_24 hl (by decide) rfl (fun ls hl => ?_)
    refine lv_iconst (v := (0 : Int32)) hx hb dX5_goes_26 (by decide) ?_
    refine lv_istore (lv' := [(7, .int (0 : Int32)), (6, .int (0 : Int32)), (5, .int (u90 * ((M91 0) (1 : Int32).toNatClampNeg))), (4, .int u90), (3, .int ((M 0) (5 : Int32).toNatClampNeg)), (0, .ref (a 0)), (1, .ref (a 1)), (2, .int v2)]) hx hb dX5_goes_27 hl (by decide) rfl (fun ls hl => ?_)
    obtain ⟨x142, hq142, hR⟩ := kk_bd_el hR
    refine kk_cut (g := g) (A := A) (w' := (w_M g a x142)) (nL := 11) (lv := [(4, .int u90), (3, .int ((M 0) (5 : Int32).toNatClampNeg)), (0, .ref (a 0)), (1, .ref (a 1)), (2, .int v2)]) (pcJ := 198) (st := []) (fun H locs ls hP hD hS hl => ?_) (fun hj142 => ?_)
    · refine lv_iinc (v := (u90 + (1 : Int32))) (lv' := [(4, .int (u90 + (1 : Int32))), (3, .int ((M 0) (5 : Int32).toNatClampNeg)), (0, .ref (a 0)), (1, .ref (a 1)), (2, .int v2)]) hx hb dX5_goes_198 hl (k := 0) rfl rfl (by decide) rfl (fun ls hl => ?_)
      refine lv_goto (tgt := 7) hx hb dX5_goes_201 (by decide) ?_
      obtain rfl := Option.some.inj hR
      exact ih2 _ rfl _ _ _ hP hD hS (lv_sub hl [0, 1, 2, 3, 4] rfl)
    refine kk_loop (g := g) (A := A) (fun (st : Int32 × Int32 × Int32 × St1) => (w_M g a st.2.2.2)) (fun (st : Int32 × Int32 × Int32 × St1) => [(7, .int st.2.2.1), (6, .int st.2.1), (5, .int st.1), (4, .int u90), (3, .int ((M 0) (5 : Int32).toNatClampNeg)), (0, .ref (a 0)), (1, .ref (a 1)), (2, .int v2)]) 29 (nL := 11) hq142 (fun st xb141 hR ih3 hX3 => ?_) hP hD hS (lv_sub hl [0, 1, 2, 3, 4, 5, 6, 7] rfl)
    clear hP hD hS hl
    obtain ⟨u137, u138, u139, M140⟩ := st
    intro H locs ls hP hD hS hl
    replace hR : fX5_goesN_b29 n M v2 u90 u137 u138 u139 M140 = some xb141 := hR
    replace hP : va_P g.1 vwCl (w_M g a M140) H := hP
    replace hD : va_D A (w_M g a M140) := hD
    replace hl : lv_has ls 11 [(7, .int u139), (6, .int u138), (5, .int u137), (4, .int u90), (3, .int ((M 0) (5 : Int32).toNatClampNeg)), (0, .ref (a 0)), (1, .ref (a 1)), (2, .int v2)] := hl
    unfold fX5_goesN_b29 at hR
    refine lv_iload hx hb dX5_goes_29 (lv_at hl 0 rfl) ?_
    refine lv_iload_n hx hb dX5_goes_31 rfl (lv_at hl 4 rfl) ?_
    refine lv_icmp_gt (tgt := 198) hx hb dX5_goes_32 (by decide) (fun c143 => ?_) (fun c143 => ?_)
    · replace hR := (if_pos c143).symm.trans hR
      obtain rfl := Option.some.inj hR
      obtain rfl := hX3 _ rfl
      exact hj142 _ _ _ hP hD hS (lv_sub hl [3, 4, 5, 6, 7] rfl)
    · replace hR := (if_neg c143).symm.trans hR
      refine lv_iload hx hb dX5_goes_35 (lv_at hl 0 rfl) ?_
      refine lv_iload_n hx hb dX5_goes_37 rfl (lv_at hl 4 rfl) ?_
      obtain ⟨x146, hq146, hR⟩ := kk_bd_el hR
      refine kk_cut (g := g) (A := A) (w' := (w_M g a M140)) (nL := 11) (lv := [(7, .int u139), (6, .int u138), (5, .int u137), (4, .int u90), (3, .int ((M 0) (5 : Int32).toNatClampNeg)), (0, .ref (a 0)), (1, .ref (a 1)), (2, .int v2)]) (pcJ := 55) (st := [.int x146]) (fun H locs ls hP hD hS hl => ?_) (fun hj146 => ?_)
      · refine lv_istore (lv' := [(8, .int x146), (7, .int u139), (6, .int u138), (5, .int u137), (4, .int u90), (3, .int ((M 0) (5 : Int32).toNatClampNeg)), (0, .ref (a 0)), (1, .ref (a 1)), (2, .int v2)]) hx hb dX5_goes_55 hl (by decide) rfl (fun ls hl => ?_)
        refine lv_iload hx hb dX5_goes_57 (lv_at hl 4 rfl) ?_
        obtain ⟨x158, hq158, hR⟩ := kk_bd_el hR
        refine kk_cut (g := g) (A := A) (w' := (w_M g a M140)) (nL := 11) (lv := [(8, .int x146), (7, .int u139), (6, .int u138), (5, .int u137), (4, .int u90), (3, .int ((M 0) (5 : Int32).toNatClampNeg)), (0, .ref (a 0)), (1, .ref (a 1)), (2, .int v2)]) (pcJ := 109) (st := [.int x158]) (fun H locs ls hP hD hS hl => ?_) (fun hj158 => ?_)
        · refine lv_istore (lv' := [(9, .int x158), (8, .int x146), (7, .int u139), (6, .int u138), (5, .int u137), (4, .int u90), (3, .int ((M 0) (5 : Int32).toNatClampNeg)), (0, .ref (a 0)), (1, .ref (a 1)), (2, .int v2)]) hx hb dX5_goes_109 hl (by decide) rfl (fun ls hl => ?_)
          refine lv_iload hx hb dX5_goes_111 (lv_at hl 4 rfl) ?_
          refine lv_iload hx hb dX5_goes_113 (lv_at hl 1 rfl) ?_
          refine lv_iload hx hb dX5_goes_115 (lv_at hl 3 rfl) ?_
          refine lv_isub hx hb dX5_goes_117 ?_
          refine lv_aload_n hx hb dX5_goes_118 rfl (lv_at hl 8 rfl) ?_
          refine lv_iconst (v := (2 : Int32)) hx hb dX5_goes_119 (by decide) ?_
          refine va_iald hx hb hK hP 1 0 rfl rfl (kk_in 2 62 (by decide) (by decide) rfl) dX5_goes_120 ?_
          refine lv_imul hx hb dX5_goes_121 ?_
          refine lv_iadd hx hb dX5_goes_122 ?_
          refine lv_istore (lv' := [(10, .int (u137 + ((x146 - u138) * ((M140 0) (2 : Int32).toNatClampNeg)))), (9, .int x158), (8, .int x146), (7, .int u139), (6, .int u138), (5, .int u137), (4, .int u90), (3, .int ((M 0) (5 : Int32).toNatClampNeg)), (0, .ref (a 0)), (1, .ref (a 1)), (2, .int v2)]) hx hb dX5_goes_123 hl (by decide) rfl (fun ls hl => ?_)
          refine lv_aload_n hx hb dX5_goes_125 rfl (lv_at hl 8 rfl) ?_
          refine va_get (ci := 5) (C := RX5) (T := TX5) (N := 12) hx hb hts hw5 hown hK hP 0 rfl rfl 11 (by decide) hl0 (fun _ h9 => h9) rfl dX5_goes_126 ?_
          refine lv_iconst (v := (5 : Int32)) hx hb dX5_goes_129 (by decide) ?_
          refine lv_iload hx hb dX5_goes_130 (lv_at hl 6 rfl) ?_
          refine lv_imul hx hb dX5_goes_132 ?_
          refine lv_iload hx hb dX5_goes_133 (lv_at hl 3 rfl) ?_
          refine lv_iadd hx hb dX5_goes_135 ?_
          refine lv_iload hx hb dX5_goes_136 (lv_at hl 1 rfl) ?_
          refine lv_iload hx hb dX5_goes_138 (lv_at hl 0 rfl) ?_
          obtain ⟨x169, hq169, hR⟩ := kk_bd_el hR
          refine kk_cut (g := g) (A := A) (w' := (w_M g a M140)) (nL := 11) (lv := [(8, .int x146), (7, .int u139), (4, .int u90), (3, .int ((M 0) (5 : Int32).toNatClampNeg)), (0, .ref (a 0)), (1, .ref (a 1)), (2, .int v2)]) (pcJ := 150) (st := [.int x169, .int (((5 : Int32) * u90) + u139), .ref (a 12)]) (fun H locs ls hP hD hS hl => ?_) (fun hj169 => ?_)
          · obtain ⟨hi172, hR⟩ := kk_ck_el hR
            obtain ⟨M171, eM171, hR⟩ := kk_nm_el hR
            refine kk_iast (w' := (w_M g a M171)) hC hK hP hD hS 6 rfl hi172 (by rw [eM171]; rfl) dX5_goes_150 (fun H locs hP hD hS => ?_)
            refine lv_aload_n hx hb dX5_goes_151 rfl (lv_at hl 4 rfl) ?_
            refine va_get (ci := 5) (C := RX5) (T := TX5) (N := 12) hx hb hts hw5 hown hK hP 0 rfl rfl 11 (by decide) hl0 (fun _ h9 => h9) rfl dX5_goes_152 ?_
            refine lv_iconst (v := (5 : Int32)) hx hb dX5_goes_155 (by decide) ?_
            refine lv_iload hx hb dX5_goes_156 (lv_at hl 2 rfl) ?_
            refine lv_imul hx hb dX5_goes_158 ?_
            refine lv_iload hx hb dX5_goes_159 (lv_at hl 1 rfl) ?_
            refine lv_iadd hx hb dX5_goes_161 ?_
            obtain ⟨hi173, hR⟩ := kk_ck_el hR
            refine va_iald hx hb hK hP 6 0 rfl rfl hi173 dX5_goes_162 ?_
            refine lv_iload hx hb dX5_goes_163 (lv_at hl 1 rfl) ?_
            refine lv_iload_n hx hb dX5_goes_165 rfl (lv_at hl 3 rfl) ?_
            obtain ⟨x177, hq177, hR⟩ := kk_bd_el hR
            refine kk_cut (g := g) (A := A) (w' := (w_M g a M171)) (nL := 11) (lv := [(8, .int x146), (7, .int u139), (4, .int u90), (3, .int ((M 0) (5 : Int32).toNatClampNeg)), (0, .ref (a 0)), (1, .ref (a 1)), (2, .int v2)]) (pcJ := 185) (st := [.int x177, .int ((M171 11) (((5 : Int32) * u90) + u139).toNatClampNeg)]) (fun H locs ls hP hD hS hl => ?_) (fun hj177 => ?_)
            · refine lv_iadd hx hb dX5_goes_185 ?_
              refine lv_istore (lv' := [(5, .int (((M171 11) (((5 : Int32) * u90) + u139).toNatClampNeg) + x177)), (8, .int x146), (7, .int u139), (4, .int u90), (3, .int ((M 0) (5 : Int32).toNatClampNeg)), (0, .ref (a 0)), (1, .ref (a 1)), (2, .int v2)]) hx hb dX5_goes_186 hl (by decide) rfl (fun ls hl => ?_)
              refine lv_iload hx hb dX5_goes_188 (lv_at hl 1 rfl) ?_
              refine lv_istore (lv' := [(6, .int x146), (5, .int (((M171 11) (((5 : Int32) * u90) + u139).toNatClampNeg) + x177)), (8, .int x146), (7, .int u139), (4, .int u90), (3, .int ((M 0) (5 : Int32).toNatClampNeg)), (0, .ref (a 0)), (1, .ref (a 1)), (2, .int v2)]) hx hb dX5_goes_190 hl (by decide) rfl (fun ls hl => ?_)
              refine lv_iinc (v := (u139 + (1 : Int32))) (lv' := [(7, .int (u139 + (1 : Int32))), (6, .int x146), (5, .int (((M171 11) (((5 : Int32) * u90) + u139).toNatClampNeg) + x177)), (8, .int x146), (4, .int u90), (3, .int ((M 0) (5 : Int32).toNatClampNeg)), (0, .ref (a 0)), (1, .ref (a 1)), (2, .int v2)]) hx hb dX5_goes_192 hl (k := 3) rfl rfl (by decide) rfl (fun ls hl => ?_)
              refine lv_goto (tgt := 29) hx hb dX5_goes_195 (by decide) ?_
              obtain rfl := Option.some.inj hR
              exact ih3 _ rfl _ _ _ hP hD hS (lv_sub hl [0, 1, 2, 4, 5, 6, 7, 8] rfl)
            replace hR := hq177
            refine lv_icmp_ge (tgt := 184) hx hb dX5_goes_166 (by decide) (fun c178 => ?_) (fun c178 => ?_)
            · replace hR := (if_pos c178).symm.trans hR
              refine lv_iconst (v := (0 : Int32)) hx hb dX5_goes_184 (by decide) ?_
              obtain rfl := Option.some.inj hR
              exact hj177 _ _ _ hP hD hS (lv_sub hl [0, 1, 2, 3, 4, 5, 6] rfl)
            · replace hR := (if_neg c178).symm.trans hR
              refine lv_aload_n hx hb dX5_goes_169 rfl (lv_at hl 5 rfl) ?_
              refine lv_iload hx hb dX5_goes_170 (lv_at hl 2 rfl) ?_
              refine lv_iload hx hb dX5_goes_172 (lv_at hl 1 rfl) ?_
              obtain ⟨x179, hq179, hR⟩ := kk_bd_el hR
              refine kk_call_Si (w' := (w_M g a M171)) (As := [.ref (a 1), .int u90, .int u139]) (rest := [.int ((M171 11) (((5 : Int32) * u90) + u139).toNatClampNeg)]) hC (sX5_isLowered l g n (a 1) (M171 0) u90 u139 x179 hq179) (va_cwS 3 hts gX5_goes_X5_isLowered rfl rfl rfl (by decide +kernel) ⟨Nat.le_of_ble_eq_true rfl, Nat.le_of_ble_eq_true rfl⟩) hK hP hD hS hA [1] rfl (by decide +kernel) rfl rfl rfl rfl hl.1 (Nat.le_of_ble_eq_true rfl) dX5_goes_174 (fun H locs hP hD hS => ?_)
              refine lv_if_eq (tgt := 184) hx hb dX5_goes_177 (by decide) (fun c180 => ?_) (fun c180 => ?_)
              · replace hR := (if_pos c180).symm.trans hR
                refine lv_iconst (v := (0 : Int32)) hx hb dX5_goes_184 (by decide) ?_
                obtain rfl := Option.some.inj hR
                exact hj177 _ _ _ hP hD hS (lv_sub hl [0, 1, 2, 3, 4, 5, 6] rfl)
              · replace hR := (if_neg c180).symm.trans hR
                refine lv_iload_n hx hb dX5_goes_180 rfl (lv_at hl 6 rfl) ?_
                refine lv_goto (tgt := 185) hx hb dX5_goes_181 (by decide) ?_
                obtain rfl := Option.some.inj hR
                exact hj177 _ _ _ hP hD hS (lv_sub hl [0, 1, 2, 3, 4, 5, 6] rfl)
          replace hR := hq169
          refine lv_icmp_le (tgt := 148) hx hb dX5_goes_140 (by decide) (fun c170 => ?_) (fun c170 => ?_)
          · replace hR := (if_pos c170).symm.trans hR
            refine lv_iload hx hb dX5_goes_148 (lv_at hl 0 rfl) ?_
            obtain rfl := Option.some.inj hR
            exact hj169 _ _ _ hP hD hS (lv_sub hl [2, 3, 6, 7, 8, 9, 10] rfl)
          · replace hR := (if_neg c170).symm.trans hR
            refine lv_iload hx hb dX5_goes_143 (lv_at hl 1 rfl) ?_
            refine lv_goto (tgt := 150) hx hb dX5_goes_145 (by decide) ?_
            obtain rfl := Option.some.inj hR
            exact hj169 _ _ _ hP hD hS (lv_sub hl [2, 3, 6, 7, 8, 9, 10] rfl)
        replace hR := hq158
        refine lv_if_ne (tgt := 66) hx hb dX5_goes_59 (by decide) (fun c159 => ?_) (fun c159 => ?_)
        · replace hR := (if_neg c159).symm.trans hR
          refine lv_aload_n hx hb dX5_goes_66 rfl (lv_at hl 6 rfl) ?_
          refine va_get (ci := 5) (C := RX5) (T := TX5) (N := 12) hx hb hts hw5 hown hK hP 0 rfl rfl 11 (by decide) hl0 (fun _ h9 => h9) rfl dX5_goes_67 ?_
          refine lv_iconst (v := (5 : Int32)) hx hb dX5_goes_70 (by decide) ?_
          refine lv_iload hx hb dX5_goes_71 (lv_at hl 4 rfl) ?_
          refine lv_iconst (v := (1 : Int32)) hx hb dX5_goes_73 (by decide) ?_
          refine lv_isub hx hb dX5_goes_74 ?_
          refine lv_imul hx hb dX5_goes_75 ?_
          refine lv_iload hx hb dX5_goes_76 (lv_at hl 1 rfl) ?_
          refine lv_iadd hx hb dX5_goes_78 ?_
          obtain ⟨hi160, hR⟩ := kk_ck_el hR
          refine va_iald hx hb hK hP 6 0 rfl rfl hi160 dX5_goes_79 ?_
          refine lv_iload hx hb dX5_goes_80 (lv_at hl 1 rfl) ?_
          refine lv_iload_n hx hb dX5_goes_82 rfl (lv_at hl 5 rfl) ?_
          obtain ⟨x164, hq164, hR⟩ := kk_bd_el hR
          refine kk_cut (g := g) (A := A) (w' := (w_M g a M140)) (nL := 11) (lv := [(8, .int x146), (7, .int u139), (6, .int u138), (5, .int u137), (4, .int u90), (3, .int ((M 0) (5 : Int32).toNatClampNeg)), (0, .ref (a 0)), (1, .ref (a 1)), (2, .int v2)]) (pcJ := 104) (st := [.int x164, .int ((M140 11) (((5 : Int32) * (u90 - (1 : Int32))) + u139).toNatClampNeg)]) (fun H locs ls hP hD hS hl => ?_) (fun hj164 => ?_)
          · refine lv_iadd hx hb dX5_goes_104 ?_
            refine lv_aload_n hx hb dX5_goes_105 rfl (lv_at hl 7 rfl) ?_
            refine lv_iconst (v := (1 : Int32)) hx hb dX5_goes_106 (by decide) ?_
            refine va_iald hx hb hK hP 1 0 rfl rfl (kk_in 1 62 (by decide) (by decide) rfl) dX5_goes_107 ?_
            refine lv_iadd hx hb dX5_goes_108 ?_
            obtain rfl := Option.some.inj hR
            exact hj158 _ _ _ hP hD hS (lv_sub hl [0, 1, 2, 3, 4, 5, 6, 7, 8] rfl)
          replace hR := hq164
          refine lv_icmp_ge (tgt := 103) hx hb dX5_goes_83 (by decide) (fun c165 => ?_) (fun c165 => ?_)
          · replace hR := (if_pos c165).symm.trans hR
            refine lv_iconst (v := (0 : Int32)) hx hb dX5_goes_103 (by decide) ?_
            obtain rfl := Option.some.inj hR
            exact hj164 _ _ _ hP hD hS (lv_sub hl [0, 1, 2, 3, 4, 5, 6, 7, 8] rfl)
          · replace hR := (if_neg c165).symm.trans hR
            refine lv_aload_n hx hb dX5_goes_86 rfl (lv_at hl 7 rfl) ?_
            refine lv_iload hx hb dX5_goes_87 (lv_at hl 4 rfl) ?_
            refine lv_iconst (v := (1 : Int32)) hx hb dX5_goes_89 (by decide) ?_
            refine lv_isub hx hb dX5_goes_90 ?_
            refine lv_iload hx hb dX5_goes_91 (lv_at hl 1 rfl) ?_
            obtain ⟨x166, hq166, hR⟩ := kk_bd_el hR
            refine kk_call_Si (w' := (w_M g a M140)) (As := [.ref (a 1), .int (u90 - (1 : Int32)), .int u139]) (rest := [.int ((M140 11) (((5 : Int32) * (u90 - (1 : Int32))) + u139).toNatClampNeg)]) hC (sX5_isLowered l g n (a 1) (M140 0) (u90 - (1 : Int32)) u139 x166 hq166) (va_cwS 3 hts gX5_goes_X5_isLowered rfl rfl rfl (by decide +kernel) ⟨Nat.le_of_ble_eq_true rfl, Nat.le_of_ble_eq_true rfl⟩) hK hP hD hS hA [1] rfl (by decide +kernel) rfl rfl rfl rfl hl.1 (Nat.le_of_ble_eq_true rfl) dX5_goes_93 (fun H locs hP hD hS => ?_)
            refine lv_if_eq (tgt := 103) hx hb dX5_goes_96 (by decide) (fun c167 => ?_) (fun c167 => ?_)
            · replace hR := (if_pos c167).symm.trans hR
              refine lv_iconst (v := (0 : Int32)) hx hb dX5_goes_103 (by decide) ?_
              obtain rfl := Option.some.inj hR
              exact hj164 _ _ _ hP hD hS (lv_sub hl [0, 1, 2, 3, 4, 5, 6, 7, 8] rfl)
            · replace hR := (if_neg c167).symm.trans hR
              refine lv_iload_n hx hb dX5_goes_99 rfl (lv_at hl 8 rfl) ?_
              refine lv_goto (tgt := 104) hx hb dX5_goes_100 (by decide) ?_
              obtain rfl := Option.some.inj hR
              exact hj164 _ _ _ hP hD hS (lv_sub hl [0, 1, 2, 3, 4, 5, 6, 7, 8] rfl)
        · replace hR := (if_pos c159).symm.trans hR
          refine lv_iconst (v := (0 : Int32)) hx hb dX5_goes_62 (by decide) ?_
          refine lv_goto (tgt := 109) hx hb dX5_goes_63 (by decide) ?_
          obtain rfl := Option.some.inj hR
          exact hj158 _ _ _ hP hD hS (lv_sub hl [0, 1, 2, 3, 4, 5, 6, 7, 8] rfl)
      replace hR := hq146
      refine lv_icmp_ne (tgt := 46) hx hb dX5_goes_38 (by decide) (fun c147 => ?_) (fun c147 => ?_)
      · replace hR := (if_neg c147).symm.trans hR
        refine lv_aload_n hx hb dX5_goes_46 rfl (lv_at hl 6 rfl) ?_
        refine lv_bipush (v := (6 : Int32)) hx hb dX5_goes_47 (by decide) ?_
        refine lv_iconst (v := (2 : Int32)) hx hb dX5_goes_49 (by decide) ?_
        refine lv_iload hx hb dX5_goes_50 (lv_at hl 0 rfl) ?_
        refine lv_imul hx hb dX5_goes_52 ?_
        refine lv_iadd hx hb dX5_goes_53 ?_
        obtain ⟨hi148, hR⟩ := kk_ck_el hR
        refine va_iald hx hb hK hP 1 0 rfl rfl hi148 dX5_goes_54 ?_
        obtain rfl := Option.some.inj hR
        exact hj146 _ _ _ hP hD hS (lv_sub hl [0, 1, 2, 3, 4, 5, 6, 7] rfl)
      · replace hR := (if_pos c147).symm.trans hR
        refine lv_bipush (v := (60 : Int32)) hx hb dX5_goes_41 (by decide) ?_
        refine lv_goto (tgt := 55) hx hb dX5_goes_43 (by decide) ?_
        obtain rfl := Option.some.inj hR
        exact hj146 _ _ _ hP hD hS (lv_sub hl [0, 1, 2, 3, 4, 5, 6, 7] rfl)
set_option maxHeartbeats 8000000 in
set_option maxRecDepth 100000 in
theorem sX5_goesT (l : Launch) (g : kG) (n : Nat) (a : Nat → Nat) (M : St1) (v2 : Int32) (r : Int32 × St1) (hR : fX5_goesT n M v2 = some r) : kSp l g yX5_goes wsX5_goes ({ frames := 3, cells := 0, slots := 0, locals := 66 }) [.ref (a 0), .ref (a 2), .int v2] (w_M g a M) (kQi g (w_M g a r.2) r.1) := by
  refine kSp.of (cc := cX5_goes) (maxL := 11) (ret := (some .int)) (by decide) rfl (Nat.le_of_ble_eq_true rfl) ?_
  intro p e s m args below meth c ls A hC hr hlocks hA hK hl hP hD hS
  replace hC : CallFix p m c cX5_goes 11 s args wsX5_goes RX5 := hC
  obtain ⟨hx, hb, hml, hown, hts⟩ := id hC
  replace hl : lv_has ls 11 [(0, .ref (a 0)), (1, .ref (a 2)), (2, .int v2)] := hl
  unfold fX5_goesT at hR
  have hw5 : ∀ w ∈ wsX50, w ∈ wsX5_goes := by decide +kernel
  have hl0 := hts (.fieldLink RX5 25 "FloatOrderModel" "minutes" "[I") (by decide +kernel)
  refine lv_aload_n hx hb dX5_goes_0 rfl (lv_at hl 1 rfl) ?_
  refine lv_iconst (v := (5 : Int32)) hx hb dX5_goes_1 (by decide) ?_
  refine va_iald hx hb hK hP 2 0 rfl rfl (kk_in 5 62 (by decide) (by decide) rfl) dX5_goes_2 ?_
  refine lv_istore_n (lv' := [(3, .int ((M 1) (5 : Int32).toNatClampNeg)), (0, .ref (a 0)), (1, .ref (a 2)), (2, .int v2)]) hx hb dX5_goes_3 rfl hl (by decide) rfl (fun ls hl => ?_)
  refine lv_iconst (v := (0 : Int32)) hx hb dX5_goes_4 (by decide) ?_
  refine lv_istore (lv' := [(4, .int (0 : Int32)), (3, .int ((M 1) (5 : Int32).toNatClampNeg)), (0, .ref (a 0)), (1, .ref (a 2)), (2, .int v2)]) hx hb dX5_goes_5 hl (by decide) rfl (fun ls hl => ?_)
  obtain ⟨x93, hq93, hR⟩ := kk_bd_el hR
  refine kk_cut (g := g) (A := A) (w' := (w_M g a x93)) (nL := 11) (lv := [(3, .int ((M 1) (5 : Int32).toNatClampNeg)), (0, .ref (a 0)), (1, .ref (a 2))]) (pcJ := 204) (st := []) (fun H locs ls hP hD hS hl => ?_) (fun hj93 => ?_)
  · refine lv_aload_n hx hb dX5_goes_204 rfl (lv_at hl 2 rfl) ?_
    refine lv_iconst (v := (4 : Int32)) hx hb dX5_goes_205 (by decide) ?_
    refine va_iald hx hb hK hP 2 0 rfl rfl (kk_in 4 62 (by decide) (by decide) rfl) dX5_goes_206 ?_
    refine lv_if_ne (tgt := 214) hx hb dX5_goes_207 (by decide) (fun c181 => ?_) (fun c181 => ?_)
    · replace hR := (if_neg c181).symm.trans hR
      refine lv_aload_n hx hb dX5_goes_214 rfl (lv_at hl 1 rfl) ?_
      refine va_get (ci := 5) (C := RX5) (T := TX5) (N := 12) hx hb hts hw5 hown hK hP 0 rfl rfl 11 (by decide) hl0 (fun _ h9 => h9) rfl dX5_goes_215 ?_
      refine lv_iconst (v := (5 : Int32)) hx hb dX5_goes_218 (by decide) ?_
      refine lv_aload_n hx hb dX5_goes_219 rfl (lv_at hl 2 rfl) ?_
      refine lv_iconst (v := (4 : Int32)) hx hb dX5_goes_220 (by decide) ?_
      refine va_iald hx hb hK hP 2 0 rfl rfl (kk_in 4 62 (by decide) (by decide) rfl) dX5_goes_221 ?_
      refine lv_iconst (v := (1 : Int32)) hx hb dX5_goes_222 (by decide) ?_
      refine lv_isub hx hb dX5_goes_223 ?_
      refine lv_imul hx hb dX5_goes_224 ?_
      refine lv_iload_n hx hb dX5_goes_225 rfl (lv_at hl 0 rfl) ?_
      refine lv_iadd hx hb dX5_goes_226 ?_
      obtain ⟨hi182, hR⟩ := kk_ck_el hR
      refine va_iald hx hb hK hP 6 0 rfl rfl hi182 dX5_goes_227 ?_
      obtain rfl := Option.some.inj hR
      exact kk_ret_i hC hr hlocks hK hP hD hS dX5_goes_228 rfl
    · replace hR := (if_pos c181).symm.trans hR
      refine lv_iconst (v := (0 : Int32)) hx hb dX5_goes_210 (by decide) ?_
      refine lv_goto (tgt := 228) hx hb dX5_goes_211 (by decide) ?_
      obtain rfl := Option.some.inj hR
      exact kk_ret_i hC hr hlocks hK hP hD hS dX5_goes_228 rfl
  refine kk_loop (g := g) (A := A) (fun (st : Int32 × St1) => (w_M g a st.2)) (fun (st : Int32 × St1) => [(4, .int st.1), (3, .int ((M 1) (5 : Int32).toNatClampNeg)), (0, .ref (a 0)), (1, .ref (a 2)), (2, .int v2)]) 7 (nL := 11) hq93 (fun st xb92 hR ih2 hX2 => ?_) hP hD hS (lv_sub hl [0, 1, 2, 3, 4] rfl)
  clear hP hD hS hl
  obtain ⟨u90, M91⟩ := st
  intro H locs ls hP hD hS hl
  replace hR : fX5_goesT_b7 n M v2 u90 M91 = some xb92 := hR
  replace hP : va_P g.1 vwCl (w_M g a M91) H := hP
  replace hD : va_D A (w_M g a M91) := hD
  replace hl : lv_has ls 11 [(4, .int u90), (3, .int ((M 1) (5 : Int32).toNatClampNeg)), (0, .ref (a 0)), (1, .ref (a 2)), (2, .int v2)] := hl
  unfold fX5_goesT_b7 at hR
  refine lv_iload hx hb dX5_goes_7 (lv_at hl 0 rfl) ?_
  refine lv_aload_n hx hb dX5_goes_9 rfl (lv_at hl 3 rfl) ?_
  refine lv_iconst (v := (4 : Int32)) hx hb dX5_goes_10 (by decide) ?_
  refine va_iald hx hb hK hP 2 0 rfl rfl (kk_in 4 62 (by decide) (by decide) rfl) dX5_goes_11 ?_
  refine lv_icmp_ge (tgt := 204) hx hb dX5_goes_12 (by decide) (fun c94 => ?_) (fun c94 => ?_)
  · replace hR := (if_pos c94).symm.trans hR
    obtain rfl := Option.some.inj hR
    obtain rfl := hX2 _ rfl
    exact hj93 _ _ _ hP hD hS (lv_sub hl [1, 2, 3] rfl)
  · replace hR := (if_neg c94).symm.trans hR
    refine lv_iload hx hb dX5_goes_15 (lv_at hl 0 rfl) ?_
    refine lv_aload_n hx hb dX5_goes_17 rfl (lv_at hl 3 rfl) ?_
    refine lv_iconst (v := (1 : Int32)) hx hb dX5_goes_18 (by decide) ?_
    refine va_iald hx hb hK hP 2 0 rfl rfl (kk_in 1 62 (by decide) (by decide) rfl) dX5_goes_19 ?_
    refine lv_imul hx hb dX5_goes_20 ?_
    refine lv_istore (lv' := [(5, .int (u90 * ((M91 1) (1 : Int32).toNatClampNeg))), (4, .int u90), (3, .int ((M 1) (5 : Int32).toNatClampNeg)), (0, .ref (a 0)), (1, .ref (a 2)), (2, .int v2)]) hx hb dX5_goes_21 hl (by decide) rfl (fun ls hl => ?_)
    refine lv_iconst (v := (0 : Int32)) hx hb dX5_goes_23 (by decide) ?_
    refine lv_istore (lv' := [(6, .int (0 : Int32)), (5, .int (u90 * ((M91 1) (1 : Int32).toNatClampNeg))), (4, .int u90), (3, .int ((M 1) (5 : Int32).toNatClampNeg)), (0, .ref (a 0)), (1, .ref (a 2)), (2, .int v2)]) hx hb dX5_goes_24 hl (by decide) rfl (fun ls hl => ?_)
    refine lv_iconst (v := (0 : Int32)) hx hb dX5_goes_26 (by decide) ?_
    refine lv_istore (lv' := [(7, .int (0 : Int32)), (6, .int (0 : Int32)), (5, .int (u90 * ((M91 1) (1 : Int32).toNatClampNeg))), (4, .int u90), (3, .int ((M 1) (5 : Int32).toNatClampNeg)), (0, .ref (a 0)), (1, .ref (a 2)), (2, .int v2)]) hx hb dX5_goes_27 hl (by decide) rfl (fun ls hl => ?_)
    obtain ⟨x142, hq142, hR⟩ := kk_bd_el hR
    refine kk_cut (g := g) (A := A) (w' := (w_M g a x142)) (nL := 11) (lv := [(4, .int u90), (3, .int ((M 1) (5 : Int32).toNatClampNeg)), (0, .ref (a 0)), (1, .ref (a 2)), (2, .int v2)]) (pcJ := 198) (st := []) (fun H locs ls hP hD hS hl => ?_) (fun hj142 => ?_)
    · refine lv_iinc (v := (u90 + (1 : Int32))) (lv' := [(4, .int (u90 + (1 : Int32))), (3, .int ((M 1) (5 : Int32).toNatClampNeg)), (0, .ref (a 0)), (1, .ref (a 2)), (2, .int v2)]) hx hb dX5_goes_198 hl (k := 0) rfl rfl (by decide) rfl (fun ls hl => ?_)
      refine lv_goto (tgt := 7) hx hb dX5_goes_201 (by decide) ?_
      obtain rfl := Option.some.inj hR
      exact ih2 _ rfl _ _ _ hP hD hS (lv_sub hl [0, 1, 2, 3, 4] rfl)
    refine kk_loop (g := g) (A := A) (fun (st : Int32 × Int32 × Int32 × St1) => (w_M g a st.2.2.2)) (fun (st : Int32 × Int32 × Int32 × St1) => [(7, .int st.2.2.1), (6, .int st.2.1), (5, .int st.1), (4, .int u90), (3, .int ((M 1) (5 : Int32).toNatClampNeg)), (0, .ref (a 0)), (1, .ref (a 2)), (2, .int v2)]) 29 (nL := 11) hq142 (fun st xb141 hR ih3 hX3 => ?_) hP hD hS (lv_sub hl [0, 1, 2, 3, 4, 5, 6, 7] rfl)
    clear hP hD hS hl
    obtain ⟨u137, u138, u139, M140⟩ := st
    intro H locs ls hP hD hS hl
    replace hR : fX5_goesT_b29 n M v2 u90 u137 u138 u139 M140 = some xb141 := hR
    replace hP : va_P g.1 vwCl (w_M g a M140) H := hP
    replace hD : va_D A (w_M g a M140) := hD
    replace hl : lv_has ls 11 [(7, .int u139), (6, .int u138), (5, .int u137), (4, .int u90), (3, .int ((M 1) (5 : Int32).toNatClampNeg)), (0, .ref (a 0)), (1, .ref (a 2)), (2, .int v2)] := hl
    unfold fX5_goesT_b29 at hR
    refine lv_iload hx hb dX5_goes_29 (lv_at hl 0 rfl) ?_
    refine lv_iload_n hx hb dX5_goes_31 rfl (lv_at hl 4 rfl) ?_
    refine lv_icmp_gt (tgt := 198) hx hb dX5_goes_32 (by decide) (fun c143 => ?_) (fun c143 => ?_)
    · replace hR := (if_pos c143).symm.trans hR
      obtain rfl := Option.some.inj hR
      obtain rfl := hX3 _ rfl
      exact hj142 _ _ _ hP hD hS (lv_sub hl [3, 4, 5, 6, 7] rfl)
    · replace hR := (if_neg c143).symm.trans hR
      refine lv_iload hx hb dX5_goes_35 (lv_at hl 0 rfl) ?_
      refine lv_iload_n hx hb dX5_goes_37 rfl (lv_at hl 4 rfl) ?_
      obtain ⟨x146, hq146, hR⟩ := kk_bd_el hR
      refine kk_cut (g := g) (A := A) (w' := (w_M g a M140)) (nL := 11) (lv := [(7, .int u139), (6, .int u138), (5, .int u137), (4, .int u90), (3, .int ((M 1) (5 : Int32).toNatClampNeg)), (0, .ref (a 0)), (1, .ref (a 2)), (2, .int v2)]) (pcJ := 55) (st := [.int x146]) (fun H locs ls hP hD hS hl => ?_) (fun hj146 => ?_)
      · refine lv_istore (lv' := [(8, .int x146), (7, .int u139), (6, .int u138), (5, .int u137), (4, .int u90), (3, .int ((M 1) (5 : Int32).toNatClampNeg)), (0, .ref (a 0)), (1, .ref (a 2)), (2, .int v2)]) hx hb dX5_goes_55 hl (by decide) rfl (fun ls hl => ?_)
        refine lv_iload hx hb dX5_goes_57 (lv_at hl 4 rfl) ?_
        obtain ⟨x158, hq158, hR⟩ := kk_bd_el hR
        refine kk_cut (g := g) (A := A) (w' := (w_M g a M140)) (nL := 11) (lv := [(8, .int x146), (7, .int u139), (6, .int u138), (5, .int u137), (4, .int u90), (3, .int ((M 1) (5 : Int32).toNatClampNeg)), (0, .ref (a 0)), (1, .ref (a 2)), (2, .int v2)]) (pcJ := 109) (st := [.int x158]) (fun H locs ls hP hD hS hl => ?_) (fun hj158 => ?_)
        · refine lv_istore (lv' := [(9, .int x158), (8, .int x146), (7, .int u139), (6, .int u138), (5, .int u137), (4, .int u90), (3, .int ((M 1) (5 : Int32).toNatClampNeg)), (0, .ref (a 0)), (1, .ref (a 2)), (2, .int v2)]) hx hb dX5_goes_109 hl (by decide) rfl (fun ls hl => ?_)
          refine lv_iload hx hb dX5_goes_111 (lv_at hl 4 rfl) ?_
          refine lv_iload hx hb dX5_goes_113 (lv_at hl 1 rfl) ?_
          refine lv_iload hx hb dX5_goes_115 (lv_at hl 3 rfl) ?_
          refine lv_isub hx hb dX5_goes_117 ?_
          refine lv_aload_n hx hb dX5_goes_118 rfl (lv_at hl 8 rfl) ?_
          refine lv_iconst (v := (2 : Int32)) hx hb dX5_goes_119 (by decide) ?_
          refine va_iald hx hb hK hP 2 0 rfl rfl (kk_in 2 62 (by decide) (by decide) rfl) dX5_goes_120 ?_
          refine lv_imul hx hb dX5_goes_121 ?_
          refine lv_iadd hx hb dX5_goes_122 ?_
          refine lv_istore (lv' := [(10, .int (u137 + ((x146 - u138) * ((M140 1) (2 : Int32).toNatClampNeg)))), (9, .int x158), (8, .int x146), (7, .int u139), (6, .int u138), (5, .int u137), (4, .int u90), (3, .int ((M 1) (5 : Int32).toNatClampNeg)), (0, .ref (a 0)), (1, .ref (a 2)), (2, .int v2)]) hx hb dX5_goes_123 hl (by decide) rfl (fun ls hl => ?_)
          refine lv_aload_n hx hb dX5_goes_125 rfl (lv_at hl 8 rfl) ?_
          refine va_get (ci := 5) (C := RX5) (T := TX5) (N := 12) hx hb hts hw5 hown hK hP 0 rfl rfl 11 (by decide) hl0 (fun _ h9 => h9) rfl dX5_goes_126 ?_
          refine lv_iconst (v := (5 : Int32)) hx hb dX5_goes_129 (by decide) ?_
          refine lv_iload hx hb dX5_goes_130 (lv_at hl 6 rfl) ?_
          refine lv_imul hx hb dX5_goes_132 ?_
          refine lv_iload hx hb dX5_goes_133 (lv_at hl 3 rfl) ?_
          refine lv_iadd hx hb dX5_goes_135 ?_
          refine lv_iload hx hb dX5_goes_136 (lv_at hl 1 rfl) ?_
          refine lv_iload hx hb dX5_goes_138 (lv_at hl 0 rfl) ?_
          obtain ⟨x169, hq169, hR⟩ := kk_bd_el hR
          refine kk_cut (g := g) (A := A) (w' := (w_M g a M140)) (nL := 11) (lv := [(8, .int x146), (7, .int u139), (4, .int u90), (3, .int ((M 1) (5 : Int32).toNatClampNeg)), (0, .ref (a 0)), (1, .ref (a 2)), (2, .int v2)]) (pcJ := 150) (st := [.int x169, .int (((5 : Int32) * u90) + u139), .ref (a 12)]) (fun H locs ls hP hD hS hl => ?_) (fun hj169 => ?_)
          · obtain ⟨hi172, hR⟩ := kk_ck_el hR
            obtain ⟨M171, eM171, hR⟩ := kk_nm_el hR
            refine kk_iast (w' := (w_M g a M171)) hC hK hP hD hS 6 rfl hi172 (by rw [eM171]; rfl) dX5_goes_150 (fun H locs hP hD hS => ?_)
            refine lv_aload_n hx hb dX5_goes_151 rfl (lv_at hl 4 rfl) ?_
            refine va_get (ci := 5) (C := RX5) (T := TX5) (N := 12) hx hb hts hw5 hown hK hP 0 rfl rfl 11 (by decide) hl0 (fun _ h9 => h9) rfl dX5_goes_152 ?_
            refine lv_iconst (v := (5 : Int32)) hx hb dX5_goes_155 (by decide) ?_
            refine lv_iload hx hb dX5_goes_156 (lv_at hl 2 rfl) ?_
            refine lv_imul hx hb dX5_goes_158 ?_
            refine lv_iload hx hb dX5_goes_159 (lv_at hl 1 rfl) ?_
            refine lv_iadd hx hb dX5_goes_161 ?_
            obtain ⟨hi173, hR⟩ := kk_ck_el hR
            refine va_iald hx hb hK hP 6 0 rfl rfl hi173 dX5_goes_162 ?_
            refine lv_iload hx hb dX5_goes_163 (lv_at hl 1 rfl) ?_
            refine lv_iload_n hx hb dX5_goes_165 rfl (lv_at hl 3 rfl) ?_
            obtain ⟨x177, hq177, hR⟩ := kk_bd_el hR
            refine kk_cut (g := g) (A := A) (w' := (w_M g a M171)) (nL := 11) (lv := [(8, .int x146), (7, .int u139), (4, .int u90), (3, .int ((M 1) (5 : Int32).toNatClampNeg)), (0, .ref (a 0)), (1, .ref (a 2)), (2, .int v2)]) (pcJ := 185) (st := [.int x177, .int ((M171 11) (((5 : Int32) * u90) + u139).toNatClampNeg)]) (fun H locs ls hP hD hS hl => ?_) (fun hj177 => ?_)
            · refine lv_iadd hx hb dX5_goes_185 ?_
              refine lv_istore (lv' := [(5, .int (((M171 11) (((5 : Int32) * u90) + u139).toNatClampNeg) + x177)), (8, .int x146), (7, .int u139), (4, .int u90), (3, .int ((M 1) (5 : Int32).toNatClampNeg)), (0, .ref (a 0)), (1, .ref (a 2)), (2, .int v2)]) hx hb dX5_goes_186 hl (by decide) rfl (fun ls hl => ?_)
              refine lv_iload hx hb dX5_goes_188 (lv_at hl 1 rfl) ?_
              refine lv_istore (lv' := [(6, .int x146), (5, .int (((M171 11) (((5 : Int32) * u90) + u139).toNatClampNeg) + x177)), (8, .int x146), (7, .int u139), (4, .int u90), (3, .int ((M 1) (5 : Int32).toNatClampNeg)), (0, .ref (a 0)), (1, .ref (a 2)), (2, .int v2)]) hx hb dX5_goes_190 hl (by decide) rfl (fun ls hl => ?_)
              refine lv_iinc (v := (u139 + (1 : Int32))) (lv' := [(7, .int (u139 + (1 : Int32))), (6, .int x146), (5, .int (((M171 11) (((5 : Int32) * u90) + u139).toNatClampNeg) + x177)), (8, .int x146), (4, .int u90), (3, .int ((M 1) (5 : Int32).toNatClampNeg)), (0, .ref (a 0)), (1, .ref (a 2)), (2, .int v2)]) hx hb dX5_goes_192 hl (k := 3) rfl rfl (by decide) rfl (fun ls hl => ?_)
              refine lv_goto (tgt := 29) hx hb dX5_goes_195 (by decide) ?_
              obtain rfl := Option.some.inj hR
              exact ih3 _ rfl _ _ _ hP hD hS (lv_sub hl [0, 1, 2, 4, 5, 6, 7, 8] rfl)
            replace hR := hq177
            refine lv_icmp_ge (tgt := 184) hx hb dX5_goes_166 (by decide) (fun c178 => ?_) (fun c178 => ?_)
            · replace hR := (if_pos c178).symm.trans hR
              refine lv_iconst (v := (0 : Int32)) hx hb dX5_goes_184 (by decide) ?_
              obtain rfl := Option.some.inj hR
              exact hj177 _ _ _ hP hD hS (lv_sub hl [0, 1, 2, 3, 4, 5, 6] rfl)
            · replace hR := (if_neg c178).symm.trans hR
              refine lv_aload_n hx hb dX5_goes_169 rfl (lv_at hl 5 rfl) ?_
              refine lv_iload hx hb dX5_goes_170 (lv_at hl 2 rfl) ?_
              refine lv_iload hx hb dX5_goes_172 (lv_at hl 1 rfl) ?_
              obtain ⟨x179, hq179, hR⟩ := kk_bd_el hR
              refine kk_call_Si (w' := (w_M g a M171)) (As := [.ref (a 2), .int u90, .int u139]) (rest := [.int ((M171 11) (((5 : Int32) * u90) + u139).toNatClampNeg)]) hC (sX5_isLowered l g n (a 2) (M171 1) u90 u139 x179 hq179) (va_cwS 3 hts gX5_goes_X5_isLowered rfl rfl rfl (by decide +kernel) ⟨Nat.le_of_ble_eq_true rfl, Nat.le_of_ble_eq_true rfl⟩) hK hP hD hS hA [2] rfl (by decide +kernel) rfl rfl rfl rfl hl.1 (Nat.le_of_ble_eq_true rfl) dX5_goes_174 (fun H locs hP hD hS => ?_)
              refine lv_if_eq (tgt := 184) hx hb dX5_goes_177 (by decide) (fun c180 => ?_) (fun c180 => ?_)
              · replace hR := (if_pos c180).symm.trans hR
                refine lv_iconst (v := (0 : Int32)) hx hb dX5_goes_184 (by decide) ?_
                obtain rfl := Option.some.inj hR
                exact hj177 _ _ _ hP hD hS (lv_sub hl [0, 1, 2, 3, 4, 5, 6] rfl)
              · replace hR := (if_neg c180).symm.trans hR
                refine lv_iload_n hx hb dX5_goes_180 rfl (lv_at hl 6 rfl) ?_
                refine lv_goto (tgt := 185) hx hb dX5_goes_181 (by decide) ?_
                obtain rfl := Option.some.inj hR
                exact hj177 _ _ _ hP hD hS (lv_sub hl [0, 1, 2, 3, 4, 5, 6] rfl)
          replace hR := hq169
          refine lv_icmp_le (tgt := 148) hx hb dX5_goes_140 (by decide) (fun c170 => ?_) (fun c170 => ?_)
          · replace hR := (if_pos c170).symm.trans hR
            refine lv_iload hx hb dX5_goes_148 (lv_at hl 0 rfl) ?_
            obtain rfl := Option.some.inj hR
            exact hj169 _ _ _ hP hD hS (lv_sub hl [2, 3, 6, 7, 8, 9, 10] rfl)
          · replace hR := (if_neg c170).symm.trans hR
            refine lv_iload hx hb dX5_goes_143 (lv_at hl 1 rfl) ?_
            refine lv_goto (tgt := 150) hx hb dX5_goes_145 (by decide) ?_
            obtain rfl := Option.some.inj hR
            exact hj169 _ _ _ hP hD hS (lv_sub hl [2, 3, 6, 7, 8, 9, 10] rfl)
        replace hR := hq158
        refine lv_if_ne (tgt := 66) hx hb dX5_goes_59 (by decide) (fun c159 => ?_) (fun c159 => ?_)
        · replace hR := (if_neg c159).symm.trans hR
          refine lv_aload_n hx hb dX5_goes_66 rfl (lv_at hl 6 rfl) ?_
          refine va_get (ci := 5) (C := RX5) (T := TX5) (N := 12) hx hb hts hw5 hown hK hP 0 rfl rfl 11 (by decide) hl0 (fun _ h9 => h9) rfl dX5_goes_67 ?_
          refine lv_iconst (v := (5 : Int32)) hx hb dX5_goes_70 (by decide) ?_
          refine lv_iload hx hb dX5_goes_71 (lv_at hl 4 rfl) ?_
          refine lv_iconst (v := (1 : Int32)) hx hb dX5_goes_73 (by decide) ?_
          refine lv_isub hx hb dX5_goes_74 ?_
          refine lv_imul hx hb dX5_goes_75 ?_
          refine lv_iload hx hb dX5_goes_76 (lv_at hl 1 rfl) ?_
          refine lv_iadd hx hb dX5_goes_78 ?_
          obtain ⟨hi160, hR⟩ := kk_ck_el hR
          refine va_iald hx hb hK hP 6 0 rfl rfl hi160 dX5_goes_79 ?_
          refine lv_iload hx hb dX5_goes_80 (lv_at hl 1 rfl) ?_
          refine lv_iload_n hx hb dX5_goes_82 rfl (lv_at hl 5 rfl) ?_
          obtain ⟨x164, hq164, hR⟩ := kk_bd_el hR
          refine kk_cut (g := g) (A := A) (w' := (w_M g a M140)) (nL := 11) (lv := [(8, .int x146), (7, .int u139), (6, .int u138), (5, .int u137), (4, .int u90), (3, .int ((M 1) (5 : Int32).toNatClampNeg)), (0, .ref (a 0)), (1, .ref (a 2)), (2, .int v2)]) (pcJ := 104) (st := [.int x164, .int ((M140 11) (((5 : Int32) * (u90 - (1 : Int32))) + u139).toNatClampNeg)]) (fun H locs ls hP hD hS hl => ?_) (fun hj164 => ?_)
          · refine lv_iadd hx hb dX5_goes_104 ?_
            refine lv_aload_n hx hb dX5_goes_105 rfl (lv_at hl 7 rfl) ?_
            refine lv_iconst (v := (1 : Int32)) hx hb dX5_goes_106 (by decide) ?_
            refine va_iald hx hb hK hP 2 0 rfl rfl (kk_in 1 62 (by decide) (by decide) rfl) dX5_goes_107 ?_
            refine lv_iadd hx hb dX5_goes_108 ?_
            obtain rfl := Option.some.inj hR
            exact hj158 _ _ _ hP hD hS (lv_sub hl [0, 1, 2, 3, 4, 5, 6, 7, 8] rfl)
          replace hR := hq164
          refine lv_icmp_ge (tgt := 103) hx hb dX5_goes_83 (by decide) (fun c165 => ?_) (fun c165 => ?_)
          · replace hR := (if_pos c165).symm.trans hR
            refine lv_iconst (v := (0 : Int32)) hx hb dX5_goes_103 (by decide) ?_
            obtain rfl := Option.some.inj hR
            exact hj164 _ _ _ hP hD hS (lv_sub hl [0, 1, 2, 3, 4, 5, 6, 7, 8] rfl)
          · replace hR := (if_neg c165).symm.trans hR
            refine lv_aload_n hx hb dX5_goes_86 rfl (lv_at hl 7 rfl) ?_
            refine lv_iload hx hb dX5_goes_87 (lv_at hl 4 rfl) ?_
            refine lv_iconst (v := (1 : Int32)) hx hb dX5_goes_89 (by decide) ?_
            refine lv_isub hx hb dX5_goes_90 ?_
            refine lv_iload hx hb dX5_goes_91 (lv_at hl 1 rfl) ?_
            obtain ⟨x166, hq166, hR⟩ := kk_bd_el hR
            refine kk_call_Si (w' := (w_M g a M140)) (As := [.ref (a 2), .int (u90 - (1 : Int32)), .int u139]) (rest := [.int ((M140 11) (((5 : Int32) * (u90 - (1 : Int32))) + u139).toNatClampNeg)]) hC (sX5_isLowered l g n (a 2) (M140 1) (u90 - (1 : Int32)) u139 x166 hq166) (va_cwS 3 hts gX5_goes_X5_isLowered rfl rfl rfl (by decide +kernel) ⟨Nat.le_of_ble_eq_true rfl, Nat.le_of_ble_eq_true rfl⟩) hK hP hD hS hA [2] rfl (by decide +kernel) rfl rfl rfl rfl hl.1 (Nat.le_of_ble_eq_true rfl) dX5_goes_93 (fun H locs hP hD hS => ?_)
            refine lv_if_eq (tgt := 103) hx hb dX5_goes_96 (by decide) (fun c167 => ?_) (fun c167 => ?_)
            · replace hR := (if_pos c167).symm.trans hR
              refine lv_iconst (v := (0 : Int32)) hx hb dX5_goes_103 (by decide) ?_
              obtain rfl := Option.some.inj hR
              exact hj164 _ _ _ hP hD hS (lv_sub hl [0, 1, 2, 3, 4, 5, 6, 7, 8] rfl)
            · replace hR := (if_neg c167).symm.trans hR
              refine lv_iload_n hx hb dX5_goes_99 rfl (lv_at hl 8 rfl) ?_
              refine lv_goto (tgt := 104) hx hb dX5_goes_100 (by decide) ?_
              obtain rfl := Option.some.inj hR
              exact hj164 _ _ _ hP hD hS (lv_sub hl [0, 1, 2, 3, 4, 5, 6, 7, 8] rfl)
        · replace hR := (if_pos c159).symm.trans hR
          refine lv_iconst (v := (0 : Int32)) hx hb dX5_goes_62 (by decide) ?_
          refine lv_goto (tgt := 109) hx hb dX5_goes_63 (by decide) ?_
          obtain rfl := Option.some.inj hR
          exact hj158 _ _ _ hP hD hS (lv_sub hl [0, 1, 2, 3, 4, 5, 6, 7, 8] rfl)
      replace hR := hq146
      refine lv_icmp_ne (tgt := 46) hx hb dX5_goes_38 (by decide) (fun c147 => ?_) (fun c147 => ?_)
      · replace hR := (if_neg c147).symm.trans hR
        refine lv_aload_n hx hb dX5_goes_46 rfl (lv_at hl 6 rfl) ?_
        refine lv_bipush (v := (6 : Int32)) hx hb dX5_goes_47 (by decide) ?_
        refine lv_iconst (v := (2 : Int32)) hx hb dX5_goes_49 (by decide) ?_
        refine lv_iload hx hb dX5_goes_50 (lv_at hl 0 rfl) ?_
        refine lv_imul hx hb dX5_goes_52 ?_
        refine lv_iadd hx hb dX5_goes_53 ?_
        obtain ⟨hi148, hR⟩ := kk_ck_el hR
        refine va_iald hx hb hK hP 2 0 rfl rfl hi148 dX5_goes_54 ?_
        obtain rfl := Option.some.inj hR
        exact hj146 _ _ _ hP hD hS (lv_sub hl [0, 1, 2, 3, 4, 5, 6, 7] rfl)
      · replace hR := (if_pos c147).symm.trans hR
        refine lv_bipush (v := (60 : Int32)) hx hb dX5_goes_41 (by decide) ?_
        refine lv_goto (tgt := 55) hx hb dX5_goes_43 (by decide) ?_
        obtain rfl := Option.some.inj hR
        exact hj146 _ _ _ hP hD hS (lv_sub hl [0, 1, 2, 3, 4, 5, 6, 7] rfl)
set_option maxHeartbeats 8000000 in
set_option maxRecDepth 100000 in
theorem sX5_endsN (l : Launch) (g : kG) (n : Nat) (a : Nat → Nat) (M : St1) (r : Int32 × St1) (hR : fX5_endsN n M = some r) : kSp l g yX5_ends wsX5_ends ({ frames := 4, cells := 0, slots := 0, locals := 96 }) [.ref (a 0), .ref (a 1)] (w_M g a M) (kQi g (w_M g a r.2) r.1) := by
  refine kSp.of (cc := cX5_ends) (maxL := 2) (ret := (some .int)) (by decide) rfl (Nat.le_of_ble_eq_true rfl) ?_
  intro p e s m args below meth c ls A hC hr hlocks hA hK hl hP hD hS
  replace hC : CallFix p m c cX5_ends 2 s args wsX5_ends RX5 := hC
  obtain ⟨hx, hb, hml, hown, hts⟩ := id hC
  replace hl : lv_has ls 2 [(0, .ref (a 0)), (1, .ref (a 1))] := hl
  unfold fX5_endsN at hR
  refine lv_aload_n hx hb dX5_ends_0 rfl (lv_at hl 0 rfl) ?_
  refine lv_aload_n hx hb dX5_ends_1 rfl (lv_at hl 1 rfl) ?_
  refine lv_aload_n hx hb dX5_ends_2 rfl (lv_at hl 1 rfl) ?_
  refine lv_iconst (v := (3 : Int32)) hx hb dX5_ends_3 (by decide) ?_
  refine va_iald hx hb hK hP 1 0 rfl rfl (kk_in 3 62 (by decide) (by decide) rfl) dX5_ends_4 ?_
  obtain ⟨x1, hq1, hR⟩ := kk_bd_el hR
  refine kk_call_Vi (w' := (w_M g a x1.2)) (As := [.ref (a 1), .int ((M 0) (3 : Int32).toNatClampNeg)]) (rest := []) 0 5 hC (sX5_goesN l g n a M ((M 0) (3 : Int32).toNatClampNeg) x1 hq1) (cwV 2 hts gX5_ends_X5_goes rfl rfl rfl (by decide +kernel) ⟨Nat.le_of_ble_eq_true rfl, Nat.le_of_ble_eq_true rfl⟩) hK hP hD hS hA [0, 1, 2, 3, 4, 5, 6] rfl (by decide +kernel) rfl rfl rfl rfl rfl rfl rfl hl.1 (Nat.le_of_ble_eq_true rfl) dX5_ends_5 (fun H locs hP hD hS => ?_)
  obtain rfl := Option.some.inj hR
  exact kk_ret_i hC hr hlocks hK hP hD hS dX5_ends_8 rfl
set_option maxHeartbeats 8000000 in
set_option maxRecDepth 100000 in
theorem sX5_endsT (l : Launch) (g : kG) (n : Nat) (a : Nat → Nat) (M : St1) (r : Int32 × St1) (hR : fX5_endsT n M = some r) : kSp l g yX5_ends wsX5_ends ({ frames := 4, cells := 0, slots := 0, locals := 96 }) [.ref (a 0), .ref (a 2)] (w_M g a M) (kQi g (w_M g a r.2) r.1) := by
  refine kSp.of (cc := cX5_ends) (maxL := 2) (ret := (some .int)) (by decide) rfl (Nat.le_of_ble_eq_true rfl) ?_
  intro p e s m args below meth c ls A hC hr hlocks hA hK hl hP hD hS
  replace hC : CallFix p m c cX5_ends 2 s args wsX5_ends RX5 := hC
  obtain ⟨hx, hb, hml, hown, hts⟩ := id hC
  replace hl : lv_has ls 2 [(0, .ref (a 0)), (1, .ref (a 2))] := hl
  unfold fX5_endsT at hR
  refine lv_aload_n hx hb dX5_ends_0 rfl (lv_at hl 0 rfl) ?_
  refine lv_aload_n hx hb dX5_ends_1 rfl (lv_at hl 1 rfl) ?_
  refine lv_aload_n hx hb dX5_ends_2 rfl (lv_at hl 1 rfl) ?_
  refine lv_iconst (v := (3 : Int32)) hx hb dX5_ends_3 (by decide) ?_
  refine va_iald hx hb hK hP 2 0 rfl rfl (kk_in 3 62 (by decide) (by decide) rfl) dX5_ends_4 ?_
  obtain ⟨x1, hq1, hR⟩ := kk_bd_el hR
  refine kk_call_Vi (w' := (w_M g a x1.2)) (As := [.ref (a 2), .int ((M 1) (3 : Int32).toNatClampNeg)]) (rest := []) 0 5 hC (sX5_goesT l g n a M ((M 1) (3 : Int32).toNatClampNeg) x1 hq1) (cwV 2 hts gX5_ends_X5_goes rfl rfl rfl (by decide +kernel) ⟨Nat.le_of_ble_eq_true rfl, Nat.le_of_ble_eq_true rfl⟩) hK hP hD hS hA [0, 1, 2, 3, 4, 5, 6] rfl (by decide +kernel) rfl rfl rfl rfl rfl rfl rfl hl.1 (Nat.le_of_ble_eq_true rfl) dX5_ends_5 (fun H locs hP hD hS => ?_)
  obtain rfl := Option.some.inj hR
  exact kk_ret_i hC hr hlocks hK hP hD hS dX5_ends_8 rfl
set_option maxHeartbeats 8000000 in
set_option maxRecDepth 100000 in
theorem sX5_puts (l : Launch) (g : kG) (n : Nat) (x : Nat) (f : Nat → Int32) (v1 : Int32) (v2 : Int32) (v3 : Int32) (v4 : Int32) (v5 : Int32) (r : (Nat → Int32)) (hR : fX5_puts n f v1 v2 v3 v4 v5 = some r) : kSp l g yX5_puts wsX5_puts ({ frames := 0, cells := 0, slots := 0, locals := 0 }) [.ref x, .int v1, .int v2, .int v3, .int v4, .int v5] (w_A g x 62 f) (kQv g (w_A g x 62 r)) := by
  refine kSp.of (cc := cX5_puts) (maxL := 7) (ret := none) (by decide) rfl (Nat.le_of_ble_eq_true rfl) ?_
  intro p e s m args below meth c ls A hC hr hlocks hA hK hl hP hD hS
  replace hC : CallFix p m c cX5_puts 7 s args wsX5_puts RX5 := hC
  obtain ⟨hx, hb, hml, hown, hts⟩ := id hC
  replace hl : lv_has ls 7 [(0, .ref x), (1, .int v1), (2, .int v2), (3, .int v3), (4, .int v4), (5, .int v5)] := hl
  unfold fX5_puts at hR
  refine lv_bipush (v := (14 : Int32)) hx hb dX5_puts_0 (by decide) ?_
  refine lv_iconst (v := (4 : Int32)) hx hb dX5_puts_2 (by decide) ?_
  refine lv_aload_n hx hb dX5_puts_3 rfl (lv_at hl 0 rfl) ?_
  refine lv_iconst (v := (4 : Int32)) hx hb dX5_puts_4 (by decide) ?_
  refine va_iald hx hb hK hP 0 0 rfl rfl (kk_in 4 62 (by decide) (by decide) rfl) dX5_puts_5 ?_
  refine lv_imul hx hb dX5_puts_6 ?_
  refine lv_iadd hx hb dX5_puts_7 ?_
  refine lv_iconst (v := (1 : Int32)) hx hb dX5_puts_8 (by decide) ?_
  refine lv_isub hx hb dX5_puts_9 ?_
  refine lv_istore (lv' := [(6, .int (((14 : Int32) + ((4 : Int32) * (f (4 : Int32).toNatClampNeg))) - (1 : Int32))), (0, .ref x), (1, .int v1), (2, .int v2), (3, .int v3), (4, .int v4), (5, .int v5)]) hx hb dX5_puts_10 hl (by decide) rfl (fun ls hl => ?_)
  obtain ⟨x10, hq10, hR⟩ := kk_bd_el hR
  refine kk_cut (g := g) (A := A) (w' := (w_A g x 62 x10)) (nL := 7) (lv := [(0, .ref x), (1, .int v1), (2, .int v2), (3, .int v3), (4, .int v4), (5, .int v5)]) (pcJ := 39) (st := []) (fun H locs ls hP hD hS hl => ?_) (fun hj10 => ?_)
  · refine lv_bipush (v := (14 : Int32)) hx hb dX5_puts_39 (by decide) ?_
    refine lv_iconst (v := (4 : Int32)) hx hb dX5_puts_41 (by decide) ?_
    refine lv_iload_n hx hb dX5_puts_42 rfl (lv_at hl 1 rfl) ?_
    refine lv_imul hx hb dX5_puts_43 ?_
    refine lv_iadd hx hb dX5_puts_44 ?_
    refine lv_istore (lv' := [(6, .int ((14 : Int32) + ((4 : Int32) * v1))), (0, .ref x), (1, .int v1), (2, .int v2), (3, .int v3), (4, .int v4), (5, .int v5)]) hx hb dX5_puts_45 hl (by decide) rfl (fun ls hl => ?_)
    refine lv_aload_n hx hb dX5_puts_47 rfl (lv_at hl 1 rfl) ?_
    refine lv_iload hx hb dX5_puts_48 (lv_at hl 0 rfl) ?_
    refine lv_iload_n hx hb dX5_puts_50 rfl (lv_at hl 3 rfl) ?_
    obtain ⟨hi16, hR⟩ := kk_ck_el hR
    obtain ⟨f15, ef15, hR⟩ := kk_nm_el hR
    refine kk_iast (w' := (w_A g x 62 f15)) hC hK hP hD hS 0 rfl hi16 (by rw [ef15]; rfl) dX5_puts_51 (fun H locs hP hD hS => ?_)
    refine lv_aload_n hx hb dX5_puts_52 rfl (lv_at hl 1 rfl) ?_
    refine lv_iload hx hb dX5_puts_53 (lv_at hl 0 rfl) ?_
    refine lv_iconst (v := (1 : Int32)) hx hb dX5_puts_55 (by decide) ?_
    refine lv_iadd hx hb dX5_puts_56 ?_
    refine lv_iload_n hx hb dX5_puts_57 rfl (lv_at hl 4 rfl) ?_
    obtain ⟨hi18, hR⟩ := kk_ck_el hR
    obtain ⟨f17, ef17, hR⟩ := kk_nm_el hR
    refine kk_iast (w' := (w_A g x 62 f17)) hC hK hP hD hS 0 rfl hi18 (by rw [ef17]; rfl) dX5_puts_58 (fun H locs hP hD hS => ?_)
    refine lv_aload_n hx hb dX5_puts_59 rfl (lv_at hl 1 rfl) ?_
    refine lv_iload hx hb dX5_puts_60 (lv_at hl 0 rfl) ?_
    refine lv_iconst (v := (2 : Int32)) hx hb dX5_puts_62 (by decide) ?_
    refine lv_iadd hx hb dX5_puts_63 ?_
    refine lv_iload hx hb dX5_puts_64 (lv_at hl 5 rfl) ?_
    obtain ⟨hi20, hR⟩ := kk_ck_el hR
    obtain ⟨f19, ef19, hR⟩ := kk_nm_el hR
    refine kk_iast (w' := (w_A g x 62 f19)) hC hK hP hD hS 0 rfl hi20 (by rw [ef19]; rfl) dX5_puts_66 (fun H locs hP hD hS => ?_)
    refine lv_aload_n hx hb dX5_puts_67 rfl (lv_at hl 1 rfl) ?_
    refine lv_iload hx hb dX5_puts_68 (lv_at hl 0 rfl) ?_
    refine lv_iconst (v := (3 : Int32)) hx hb dX5_puts_70 (by decide) ?_
    refine lv_iadd hx hb dX5_puts_71 ?_
    refine lv_iload hx hb dX5_puts_72 (lv_at hl 6 rfl) ?_
    obtain ⟨hi22, hR⟩ := kk_ck_el hR
    obtain ⟨f21, ef21, hR⟩ := kk_nm_el hR
    refine kk_iast (w' := (w_A g x 62 f21)) hC hK hP hD hS 0 rfl hi22 (by rw [ef21]; rfl) dX5_puts_74 (fun H locs hP hD hS => ?_)
    refine lv_aload_n hx hb dX5_puts_75 rfl (lv_at hl 1 rfl) ?_
    refine lv_iconst (v := (4 : Int32)) hx hb dX5_puts_76 (by decide) ?_
    refine lv_dup2_11 hx hb dX5_puts_77 rfl rfl ?_
    refine va_iald hx hb hK hP 0 0 rfl rfl (kk_in 4 62 (by decide) (by decide) rfl) dX5_puts_78 ?_
    refine lv_iconst (v := (1 : Int32)) hx hb dX5_puts_79 (by decide) ?_
    refine lv_iadd hx hb dX5_puts_80 ?_
    obtain ⟨f23, ef23, hR⟩ := kk_nm_el hR
    refine kk_iast (w' := (w_A g x 62 f23)) hC hK hP hD hS 0 rfl (kk_in 4 62 (by decide) (by decide) rfl) (by rw [ef23]; rfl) dX5_puts_81 (fun H locs hP hD hS => ?_)
    obtain rfl := Option.some.inj hR
    exact kk_ret_v hC hr hlocks hK hP hD hS dX5_puts_82
  refine kk_loop (g := g) (A := A) (fun (st : Int32 × (Nat → Int32)) => (w_A g x 62 st.2)) (fun (st : Int32 × (Nat → Int32)) => [(6, .int st.1), (0, .ref x), (1, .int v1), (2, .int v2), (3, .int v3), (4, .int v4), (5, .int v5)]) 12 (nL := 7) hq10 (fun st xb9 hR ih1 hX1 => ?_) hP hD hS (lv_sub hl [0, 1, 2, 3, 4, 5, 6] rfl)
  clear hP hD hS hl
  obtain ⟨u7, f8⟩ := st
  intro H locs ls hP hD hS hl
  replace hR : fX5_puts_b12 n v1 u7 f8 = some xb9 := hR
  replace hP : va_P g.1 vwCl (w_A g x 62 f8) H := hP
  replace hD : va_D A (w_A g x 62 f8) := hD
  replace hl : lv_has ls 7 [(6, .int u7), (0, .ref x), (1, .int v1), (2, .int v2), (3, .int v3), (4, .int v4), (5, .int v5)] := hl
  unfold fX5_puts_b12 at hR
  refine lv_iload hx hb dX5_puts_12 (lv_at hl 0 rfl) ?_
  refine lv_bipush (v := (14 : Int32)) hx hb dX5_puts_14 (by decide) ?_
  refine lv_iconst (v := (4 : Int32)) hx hb dX5_puts_16 (by decide) ?_
  refine lv_iload_n hx hb dX5_puts_17 rfl (lv_at hl 2 rfl) ?_
  refine lv_imul hx hb dX5_puts_18 ?_
  refine lv_iadd hx hb dX5_puts_19 ?_
  refine lv_icmp_lt (tgt := 39) hx hb dX5_puts_20 (by decide) (fun c11 => ?_) (fun c11 => ?_)
  · replace hR := (if_pos c11).symm.trans hR
    obtain rfl := Option.some.inj hR
    obtain rfl := hX1 _ rfl
    exact hj10 _ _ _ hP hD hS (lv_sub hl [1, 2, 3, 4, 5, 6] rfl)
  · replace hR := (if_neg c11).symm.trans hR
    refine lv_aload_n hx hb dX5_puts_23 rfl (lv_at hl 1 rfl) ?_
    refine lv_iload hx hb dX5_puts_24 (lv_at hl 0 rfl) ?_
    refine lv_iconst (v := (4 : Int32)) hx hb dX5_puts_26 (by decide) ?_
    refine lv_iadd hx hb dX5_puts_27 ?_
    refine lv_aload_n hx hb dX5_puts_28 rfl (lv_at hl 1 rfl) ?_
    refine lv_iload hx hb dX5_puts_29 (lv_at hl 0 rfl) ?_
    obtain ⟨hi12, hR⟩ := kk_ck_el hR
    refine va_iald hx hb hK hP 0 0 rfl rfl hi12 dX5_puts_31 ?_
    obtain ⟨hi14, hR⟩ := kk_ck_el hR
    obtain ⟨f13, ef13, hR⟩ := kk_nm_el hR
    refine kk_iast (w' := (w_A g x 62 f13)) hC hK hP hD hS 0 rfl hi14 (by rw [ef13]; rfl) dX5_puts_32 (fun H locs hP hD hS => ?_)
    refine lv_iinc (v := (u7 + (-1 : Int32))) (lv' := [(6, .int (u7 + (-1 : Int32))), (0, .ref x), (1, .int v1), (2, .int v2), (3, .int v3), (4, .int v4), (5, .int v5)]) hx hb dX5_puts_33 hl (k := 0) rfl rfl (by decide) rfl (fun ls hl => ?_)
    refine lv_goto (tgt := 12) hx hb dX5_puts_36 (by decide) ?_
    obtain rfl := Option.some.inj hR
    exact ih1 _ rfl _ _ _ hP hD hS (lv_sub hl [0, 1, 2, 3, 4, 5, 6] rfl)
set_option maxHeartbeats 8000000 in
set_option maxRecDepth 100000 in
theorem sX5_goesOut (l : Launch) (g : kG) (n : Nat) (x : Nat) (f : Nat → Int32) (v1 : Int32) (r : (Nat → Int32)) (hR : fX5_goesOut n f v1 = some r) : kSp l g yX5_goesOut wsX5_goesOut ({ frames := 0, cells := 0, slots := 0, locals := 0 }) [.ref x, .int v1] (w_A g x 62 f) (kQv g (w_A g x 62 r)) := by
  refine kSp.of (cc := cX5_goesOut) (maxL := 3) (ret := none) (by decide) rfl (Nat.le_of_ble_eq_true rfl) ?_
  intro p e s m args below meth c ls A hC hr hlocks hA hK hl hP hD hS
  replace hC : CallFix p m c cX5_goesOut 3 s args wsX5_goesOut RX5 := hC
  obtain ⟨hx, hb, hml, hown, hts⟩ := id hC
  replace hl : lv_has ls 3 [(0, .ref x), (1, .int v1)] := hl
  unfold fX5_goesOut at hR
  refine lv_aload_n hx hb dX5_goesOut_0 rfl (lv_at hl 0 rfl) ?_
  refine lv_iconst (v := (4 : Int32)) hx hb dX5_goesOut_1 (by decide) ?_
  refine lv_dup2_11 hx hb dX5_goesOut_2 rfl rfl ?_
  refine va_iald hx hb hK hP 0 0 rfl rfl (kk_in 4 62 (by decide) (by decide) rfl) dX5_goesOut_3 ?_
  refine lv_iconst (v := (1 : Int32)) hx hb dX5_goesOut_4 (by decide) ?_
  refine lv_isub hx hb dX5_goesOut_5 ?_
  obtain ⟨f1, ef1, hR⟩ := kk_nm_el hR
  refine kk_iast (w' := (w_A g x 62 f1)) hC hK hP hD hS 0 rfl (kk_in 4 62 (by decide) (by decide) rfl) (by rw [ef1]; rfl) dX5_goesOut_6 (fun H locs hP hD hS => ?_)
  refine lv_bipush (v := (14 : Int32)) hx hb dX5_goesOut_7 (by decide) ?_
  refine lv_iconst (v := (4 : Int32)) hx hb dX5_goesOut_9 (by decide) ?_
  refine lv_iload_n hx hb dX5_goesOut_10 rfl (lv_at hl 1 rfl) ?_
  refine lv_imul hx hb dX5_goesOut_11 ?_
  refine lv_iadd hx hb dX5_goesOut_12 ?_
  refine lv_istore_n (lv' := [(2, .int ((14 : Int32) + ((4 : Int32) * v1))), (0, .ref x), (1, .int v1)]) hx hb dX5_goesOut_13 rfl hl (by decide) rfl (fun ls hl => ?_)
  obtain ⟨x11, hq11, hR⟩ := kk_bd_el hR
  refine kk_cut (g := g) (A := A) (w' := (w_A g x 62 x11)) (nL := 3) (lv := []) (pcJ := 40) (st := []) (fun H locs ls hP hD hS hl => ?_) (fun hj11 => ?_)
  · obtain rfl := Option.some.inj hR
    exact kk_ret_v hC hr hlocks hK hP hD hS dX5_goesOut_40
  refine kk_loop (g := g) (A := A) (fun (st : Int32 × (Nat → Int32)) => (w_A g x 62 st.2)) (fun (st : Int32 × (Nat → Int32)) => [(2, .int st.1), (0, .ref x)]) 14 (nL := 3) hq11 (fun st xb10 hR ih1 hX1 => ?_) hP hD hS (lv_sub hl [0, 1] rfl)
  clear hP hD hS hl
  obtain ⟨u8, f9⟩ := st
  intro H locs ls hP hD hS hl
  replace hR : fX5_goesOut_b14 n u8 f9 = some xb10 := hR
  replace hP : va_P g.1 vwCl (w_A g x 62 f9) H := hP
  replace hD : va_D A (w_A g x 62 f9) := hD
  replace hl : lv_has ls 3 [(2, .int u8), (0, .ref x)] := hl
  unfold fX5_goesOut_b14 at hR
  refine lv_iload_n hx hb dX5_goesOut_14 rfl (lv_at hl 0 rfl) ?_
  refine lv_bipush (v := (14 : Int32)) hx hb dX5_goesOut_15 (by decide) ?_
  refine lv_iconst (v := (4 : Int32)) hx hb dX5_goesOut_17 (by decide) ?_
  refine lv_aload_n hx hb dX5_goesOut_18 rfl (lv_at hl 1 rfl) ?_
  refine lv_iconst (v := (4 : Int32)) hx hb dX5_goesOut_19 (by decide) ?_
  refine va_iald hx hb hK hP 0 0 rfl rfl (kk_in 4 62 (by decide) (by decide) rfl) dX5_goesOut_20 ?_
  refine lv_imul hx hb dX5_goesOut_21 ?_
  refine lv_iadd hx hb dX5_goesOut_22 ?_
  refine lv_icmp_ge (tgt := 40) hx hb dX5_goesOut_23 (by decide) (fun c12 => ?_) (fun c12 => ?_)
  · replace hR := (if_pos c12).symm.trans hR
    obtain rfl := Option.some.inj hR
    obtain rfl := hX1 _ rfl
    exact hj11 _ _ _ hP hD hS (lv_sub hl [] rfl)
  · replace hR := (if_neg c12).symm.trans hR
    refine lv_aload_n hx hb dX5_goesOut_26 rfl (lv_at hl 1 rfl) ?_
    refine lv_iload_n hx hb dX5_goesOut_27 rfl (lv_at hl 0 rfl) ?_
    refine lv_aload_n hx hb dX5_goesOut_28 rfl (lv_at hl 1 rfl) ?_
    refine lv_iload_n hx hb dX5_goesOut_29 rfl (lv_at hl 0 rfl) ?_
    refine lv_iconst (v := (4 : Int32)) hx hb dX5_goesOut_30 (by decide) ?_
    refine lv_iadd hx hb dX5_goesOut_31 ?_
    obtain ⟨hi13, hR⟩ := kk_ck_el hR
    refine va_iald hx hb hK hP 0 0 rfl rfl hi13 dX5_goesOut_32 ?_
    obtain ⟨hi15, hR⟩ := kk_ck_el hR
    obtain ⟨f14, ef14, hR⟩ := kk_nm_el hR
    refine kk_iast (w' := (w_A g x 62 f14)) hC hK hP hD hS 0 rfl hi15 (by rw [ef14]; rfl) dX5_goesOut_33 (fun H locs hP hD hS => ?_)
    refine lv_iinc (v := (u8 + (1 : Int32))) (lv' := [(2, .int (u8 + (1 : Int32))), (0, .ref x)]) hx hb dX5_goesOut_34 hl (k := 0) rfl rfl (by decide) rfl (fun ls hl => ?_)
    refine lv_goto (tgt := 14) hx hb dX5_goesOut_37 (by decide) ?_
    obtain rfl := Option.some.inj hR
    exact ih1 _ rfl _ _ _ hP hD hS (lv_sub hl [0, 1] rfl)
set_option maxHeartbeats 8000000 in
set_option maxRecDepth 100000 in
theorem sX5_moves (l : Launch) (g : kG) (n : Nat) (x : Nat) (f : Nat → Int32) (v1 : Int32) (v2 : Int32) (r : (Nat → Int32)) (hR : fX5_moves n f v1 v2 = some r) : kSp l g yX5_moves wsX5_moves ({ frames := 1, cells := 0, slots := 0, locals := 26 }) [.ref x, .int v1, .int v2] (w_A g x 62 f) (kQv g (w_A g x 62 r)) := by
  refine kSp.of (cc := cX5_moves) (maxL := 7) (ret := none) (by decide) rfl (Nat.le_of_ble_eq_true rfl) ?_
  intro p e s m args below meth c ls A hC hr hlocks hA hK hl hP hD hS
  replace hC : CallFix p m c cX5_moves 7 s args wsX5_moves RX5 := hC
  obtain ⟨hx, hb, hml, hown, hts⟩ := id hC
  replace hl : lv_has ls 7 [(0, .ref x), (1, .int v1), (2, .int v2)] := hl
  unfold fX5_moves at hR
  refine lv_aload_n hx hb dX5_moves_0 rfl (lv_at hl 0 rfl) ?_
  refine lv_iload_n hx hb dX5_moves_1 rfl (lv_at hl 1 rfl) ?_
  refine lv_iconst (v := (0 : Int32)) hx hb dX5_moves_2 (by decide) ?_
  obtain ⟨x1, hq1, hR⟩ := kk_bd_el hR
  refine kk_call_Si (w' := (w_A g x 62 f)) (As := [.ref x, .int v1, .int (0 : Int32)]) (rest := []) hC (sX5_of l g n x f v1 (0 : Int32) x1 hq1) (va_cwS 3 hts gX5_moves_X5_of rfl rfl rfl (by decide +kernel) ⟨Nat.le_of_ble_eq_true rfl, Nat.le_of_ble_eq_true rfl⟩) hK hP hD hS hA [0] rfl (by decide +kernel) rfl rfl rfl rfl hl.1 (Nat.le_of_ble_eq_true rfl) dX5_moves_3 (fun H locs hP hD hS => ?_)
  refine lv_istore_n (lv' := [(3, .int x1), (0, .ref x), (1, .int v1), (2, .int v2)]) hx hb dX5_moves_6 rfl hl (by decide) rfl (fun ls hl => ?_)
  refine lv_aload_n hx hb dX5_moves_7 rfl (lv_at hl 1 rfl) ?_
  refine lv_iload_n hx hb dX5_moves_8 rfl (lv_at hl 2 rfl) ?_
  refine lv_iconst (v := (1 : Int32)) hx hb dX5_moves_9 (by decide) ?_
  obtain ⟨x2, hq2, hR⟩ := kk_bd_el hR
  refine kk_call_Si (w' := (w_A g x 62 f)) (As := [.ref x, .int v1, .int (1 : Int32)]) (rest := []) hC (sX5_of l g n x f v1 (1 : Int32) x2 hq2) (va_cwS 3 hts gX5_moves_X5_of rfl rfl rfl (by decide +kernel) ⟨Nat.le_of_ble_eq_true rfl, Nat.le_of_ble_eq_true rfl⟩) hK hP hD hS hA [0] rfl (by decide +kernel) rfl rfl rfl rfl hl.1 (Nat.le_of_ble_eq_true rfl) dX5_moves_10 (fun H locs hP hD hS => ?_)
  refine lv_istore (lv' := [(4, .int x2), (3, .int x1), (0, .ref x), (1, .int v1), (2, .int v2)]) hx hb dX5_moves_13 hl (by decide) rfl (fun ls hl => ?_)
  refine lv_aload_n hx hb dX5_moves_15 rfl (lv_at hl 2 rfl) ?_
  refine lv_iload_n hx hb dX5_moves_16 rfl (lv_at hl 3 rfl) ?_
  refine lv_iconst (v := (2 : Int32)) hx hb dX5_moves_17 (by decide) ?_
  obtain ⟨x3, hq3, hR⟩ := kk_bd_el hR
  refine kk_call_Si (w' := (w_A g x 62 f)) (As := [.ref x, .int v1, .int (2 : Int32)]) (rest := []) hC (sX5_of l g n x f v1 (2 : Int32) x3 hq3) (va_cwS 3 hts gX5_moves_X5_of rfl rfl rfl (by decide +kernel) ⟨Nat.le_of_ble_eq_true rfl, Nat.le_of_ble_eq_true rfl⟩) hK hP hD hS hA [0] rfl (by decide +kernel) rfl rfl rfl rfl hl.1 (Nat.le_of_ble_eq_true rfl) dX5_moves_18 (fun H locs hP hD hS => ?_)
  refine lv_istore (lv' := [(5, .int x3), (4, .int x2), (3, .int x1), (0, .ref x), (1, .int v1), (2, .int v2)]) hx hb dX5_moves_21 hl (by decide) rfl (fun ls hl => ?_)
  refine lv_aload_n hx hb dX5_moves_23 rfl (lv_at hl 3 rfl) ?_
  refine lv_iload_n hx hb dX5_moves_24 rfl (lv_at hl 4 rfl) ?_
  refine lv_iconst (v := (3 : Int32)) hx hb dX5_moves_25 (by decide) ?_
  obtain ⟨x4, hq4, hR⟩ := kk_bd_el hR
  refine kk_call_Si (w' := (w_A g x 62 f)) (As := [.ref x, .int v1, .int (3 : Int32)]) (rest := []) hC (sX5_of l g n x f v1 (3 : Int32) x4 hq4) (va_cwS 3 hts gX5_moves_X5_of rfl rfl rfl (by decide +kernel) ⟨Nat.le_of_ble_eq_true rfl, Nat.le_of_ble_eq_true rfl⟩) hK hP hD hS hA [0] rfl (by decide +kernel) rfl rfl rfl rfl hl.1 (Nat.le_of_ble_eq_true rfl) dX5_moves_26 (fun H locs hP hD hS => ?_)
  refine lv_istore (lv' := [(6, .int x4), (5, .int x3), (4, .int x2), (3, .int x1), (0, .ref x), (1, .int v1), (2, .int v2)]) hx hb dX5_moves_29 hl (by decide) rfl (fun ls hl => ?_)
  refine lv_aload_n hx hb dX5_moves_31 rfl (lv_at hl 4 rfl) ?_
  refine lv_iload_n hx hb dX5_moves_32 rfl (lv_at hl 5 rfl) ?_
  obtain ⟨x5, hq5, hR⟩ := kk_bd_el hR
  refine kk_call_Sv (w' := (w_A g x 62 x5)) (As := [.ref x, .int v1]) (rest := []) hC (sX5_goesOut l g n x f v1 x5 hq5) (va_cwS 2 hts gX5_moves_X5_goesOut rfl rfl rfl (by decide +kernel) ⟨Nat.le_of_ble_eq_true rfl, Nat.le_of_ble_eq_true rfl⟩) hK hP hD hS hA [0] rfl (by decide +kernel) rfl rfl rfl rfl hl.1 (Nat.le_of_ble_eq_true rfl) dX5_moves_33 (fun H locs hP hD hS => ?_)
  refine lv_aload_n hx hb dX5_moves_36 rfl (lv_at hl 4 rfl) ?_
  refine lv_iload_n hx hb dX5_moves_37 rfl (lv_at hl 6 rfl) ?_
  refine lv_iload_n hx hb dX5_moves_38 rfl (lv_at hl 3 rfl) ?_
  refine lv_iload hx hb dX5_moves_39 (lv_at hl 2 rfl) ?_
  refine lv_iload hx hb dX5_moves_41 (lv_at hl 1 rfl) ?_
  refine lv_iload hx hb dX5_moves_43 (lv_at hl 0 rfl) ?_
  obtain ⟨x6, hq6, hR⟩ := kk_bd_el hR
  refine kk_call_Sv (w' := (w_A g x 62 x6)) (As := [.ref x, .int v2, .int x1, .int x2, .int x3, .int x4]) (rest := []) hC (sX5_puts l g n x x5 v2 x1 x2 x3 x4 x6 hq6) (va_cwS 6 hts gX5_moves_X5_puts rfl rfl rfl (by decide +kernel) ⟨Nat.le_of_ble_eq_true rfl, Nat.le_of_ble_eq_true rfl⟩) hK hP hD hS hA [0] rfl (by decide +kernel) rfl rfl rfl rfl hl.1 (Nat.le_of_ble_eq_true rfl) dX5_moves_45 (fun H locs hP hD hS => ?_)
  obtain rfl := Option.some.inj hR
  exact kk_ret_v hC hr hlocks hK hP hD hS dX5_moves_48
set_option maxHeartbeats 8000000 in
set_option maxRecDepth 100000 in
theorem sX5_exchanges (l : Launch) (g : kG) (n : Nat) (x : Nat) (f : Nat → Int32) (v1 : Int32) (v2 : Int32) (r : (Nat → Int32)) (hR : fX5_exchanges n f v1 v2 = some r) : kSp l g yX5_exchanges wsX5_exchanges ({ frames := 1, cells := 0, slots := 0, locals := 22 }) [.ref x, .int v1, .int v2] (w_A g x 62 f) (kQv g (w_A g x 62 r)) := by
  refine kSp.of (cc := cX5_exchanges) (maxL := 5) (ret := none) (by decide) rfl (Nat.le_of_ble_eq_true rfl) ?_
  intro p e s m args below meth c ls A hC hr hlocks hA hK hl hP hD hS
  replace hC : CallFix p m c cX5_exchanges 5 s args wsX5_exchanges RX5 := hC
  obtain ⟨hx, hb, hml, hown, hts⟩ := id hC
  replace hl : lv_has ls 5 [(0, .ref x), (1, .int v1), (2, .int v2)] := hl
  unfold fX5_exchanges at hR
  refine lv_iconst (v := (0 : Int32)) hx hb dX5_exchanges_0 (by decide) ?_
  refine lv_istore_n (lv' := [(3, .int (0 : Int32)), (0, .ref x), (1, .int v1), (2, .int v2)]) hx hb dX5_exchanges_1 rfl hl (by decide) rfl (fun ls hl => ?_)
  obtain ⟨x13, hq13, hR⟩ := kk_bd_el hR
  refine kk_cut (g := g) (A := A) (w' := (w_A g x 62 x13)) (nL := 5) (lv := []) (pcJ := 49) (st := []) (fun H locs ls hP hD hS hl => ?_) (fun hj13 => ?_)
  · obtain rfl := Option.some.inj hR
    exact kk_ret_v hC hr hlocks hK hP hD hS dX5_exchanges_49
  refine kk_loop (g := g) (A := A) (fun (st : Int32 × (Nat → Int32)) => (w_A g x 62 st.2)) (fun (st : Int32 × (Nat → Int32)) => [(3, .int st.1), (0, .ref x), (1, .int v1), (2, .int v2)]) 2 (nL := 5) hq13 (fun st xb12 hR ih1 hX1 => ?_) hP hD hS (lv_sub hl [0, 1, 2, 3] rfl)
  clear hP hD hS hl
  obtain ⟨u10, f11⟩ := st
  intro H locs ls hP hD hS hl
  replace hR : fX5_exchanges_b2 n v1 v2 u10 f11 = some xb12 := hR
  replace hP : va_P g.1 vwCl (w_A g x 62 f11) H := hP
  replace hD : va_D A (w_A g x 62 f11) := hD
  replace hl : lv_has ls 5 [(3, .int u10), (0, .ref x), (1, .int v1), (2, .int v2)] := hl
  unfold fX5_exchanges_b2 at hR
  refine lv_iload_n hx hb dX5_exchanges_2 rfl (lv_at hl 0 rfl) ?_
  refine lv_iconst (v := (4 : Int32)) hx hb dX5_exchanges_3 (by decide) ?_
  refine lv_icmp_ge (tgt := 49) hx hb dX5_exchanges_4 (by decide) (fun c14 => ?_) (fun c14 => ?_)
  · replace hR := (if_pos c14).symm.trans hR
    obtain rfl := Option.some.inj hR
    obtain rfl := hX1 _ rfl
    exact hj13 _ _ _ hP hD hS (lv_sub hl [] rfl)
  · replace hR := (if_neg c14).symm.trans hR
    refine lv_aload_n hx hb dX5_exchanges_7 rfl (lv_at hl 1 rfl) ?_
    refine lv_iload_n hx hb dX5_exchanges_8 rfl (lv_at hl 2 rfl) ?_
    refine lv_iload_n hx hb dX5_exchanges_9 rfl (lv_at hl 0 rfl) ?_
    obtain ⟨x15, hq15, hR⟩ := kk_bd_el hR
    refine kk_call_Si (w' := (w_A g x 62 f11)) (As := [.ref x, .int v1, .int u10]) (rest := []) hC (sX5_of l g n x f11 v1 u10 x15 hq15) (va_cwS 3 hts gX5_exchanges_X5_of rfl rfl rfl (by decide +kernel) ⟨Nat.le_of_ble_eq_true rfl, Nat.le_of_ble_eq_true rfl⟩) hK hP hD hS hA [0] rfl (by decide +kernel) rfl rfl rfl rfl hl.1 (Nat.le_of_ble_eq_true rfl) dX5_exchanges_10 (fun H locs hP hD hS => ?_)
    refine lv_istore (lv' := [(4, .int x15), (3, .int u10), (0, .ref x), (1, .int v1), (2, .int v2)]) hx hb dX5_exchanges_13 hl (by decide) rfl (fun ls hl => ?_)
    refine lv_aload_n hx hb dX5_exchanges_15 rfl (lv_at hl 2 rfl) ?_
    refine lv_bipush (v := (14 : Int32)) hx hb dX5_exchanges_16 (by decide) ?_
    refine lv_iconst (v := (4 : Int32)) hx hb dX5_exchanges_18 (by decide) ?_
    refine lv_iload_n hx hb dX5_exchanges_19 rfl (lv_at hl 3 rfl) ?_
    refine lv_imul hx hb dX5_exchanges_20 ?_
    refine lv_iadd hx hb dX5_exchanges_21 ?_
    refine lv_iload_n hx hb dX5_exchanges_22 rfl (lv_at hl 1 rfl) ?_
    refine lv_iadd hx hb dX5_exchanges_23 ?_
    refine lv_aload_n hx hb dX5_exchanges_24 rfl (lv_at hl 2 rfl) ?_
    refine lv_iload_n hx hb dX5_exchanges_25 rfl (lv_at hl 4 rfl) ?_
    refine lv_iload_n hx hb dX5_exchanges_26 rfl (lv_at hl 1 rfl) ?_
    obtain ⟨x16, hq16, hR⟩ := kk_bd_el hR
    refine kk_call_Si (w' := (w_A g x 62 f11)) (As := [.ref x, .int v2, .int u10]) (rest := [.int (((14 : Int32) + ((4 : Int32) * v1)) + u10), .ref x]) hC (sX5_of l g n x f11 v2 u10 x16 hq16) (va_cwS 3 hts gX5_exchanges_X5_of rfl rfl rfl (by decide +kernel) ⟨Nat.le_of_ble_eq_true rfl, Nat.le_of_ble_eq_true rfl⟩) hK hP hD hS hA [0] rfl (by decide +kernel) rfl rfl rfl rfl hl.1 (Nat.le_of_ble_eq_true rfl) dX5_exchanges_27 (fun H locs hP hD hS => ?_)
    obtain ⟨hi18, hR⟩ := kk_ck_el hR
    obtain ⟨f17, ef17, hR⟩ := kk_nm_el hR
    refine kk_iast (w' := (w_A g x 62 f17)) hC hK hP hD hS 0 rfl hi18 (by rw [ef17]; rfl) dX5_exchanges_30 (fun H locs hP hD hS => ?_)
    refine lv_aload_n hx hb dX5_exchanges_31 rfl (lv_at hl 2 rfl) ?_
    refine lv_bipush (v := (14 : Int32)) hx hb dX5_exchanges_32 (by decide) ?_
    refine lv_iconst (v := (4 : Int32)) hx hb dX5_exchanges_34 (by decide) ?_
    refine lv_iload_n hx hb dX5_exchanges_35 rfl (lv_at hl 4 rfl) ?_
    refine lv_imul hx hb dX5_exchanges_36 ?_
    refine lv_iadd hx hb dX5_exchanges_37 ?_
    refine lv_iload_n hx hb dX5_exchanges_38 rfl (lv_at hl 1 rfl) ?_
    refine lv_iadd hx hb dX5_exchanges_39 ?_
    refine lv_iload hx hb dX5_exchanges_40 (lv_at hl 0 rfl) ?_
    obtain ⟨hi20, hR⟩ := kk_ck_el hR
    obtain ⟨f19, ef19, hR⟩ := kk_nm_el hR
    refine kk_iast (w' := (w_A g x 62 f19)) hC hK hP hD hS 0 rfl hi20 (by rw [ef19]; rfl) dX5_exchanges_42 (fun H locs hP hD hS => ?_)
    refine lv_iinc (v := (u10 + (1 : Int32))) (lv' := [(3, .int (u10 + (1 : Int32))), (4, .int x15), (0, .ref x), (1, .int v1), (2, .int v2)]) hx hb dX5_exchanges_43 hl (k := 1) rfl rfl (by decide) rfl (fun ls hl => ?_)
    refine lv_goto (tgt := 2) hx hb dX5_exchanges_46 (by decide) ?_
    obtain rfl := Option.some.inj hR
    exact ih1 _ rfl _ _ _ hP hD hS (lv_sub hl [0, 2, 3, 4] rfl)
set_option maxHeartbeats 8000000 in
set_option maxRecDepth 100000 in
theorem sX5_bestExchange (l : Launch) (g : kG) (n : Nat) (a : Nat → Nat) (M : St1) (r : Int32 × St1) (hR : fX5_bestExchange n M = some r) : kSp l g yX5_bestExchange wsX5_bestExchange ({ frames := 5, cells := 0, slots := 0, locals := 117 }) [.ref (a 0)] (w_M g a M) (kQi g (w_M g a r.2) r.1) := by
  refine kSp.of (cc := cX5_bestExchange) (maxL := 9) (ret := (some .int)) (by decide) rfl (Nat.le_of_ble_eq_true rfl) ?_
  intro p e s m args below meth c ls A hC hr hlocks hA hK hl hP hD hS
  replace hC : CallFix p m c cX5_bestExchange 9 s args wsX5_bestExchange RX5 := hC
  obtain ⟨hx, hb, hml, hown, hts⟩ := id hC
  replace hl : lv_has ls 9 [(0, .ref (a 0))] := hl
  unfold fX5_bestExchange at hR
  have hw5 : ∀ w ∈ wsX50, w ∈ wsX5_bestExchange := by decide +kernel
  have hl0 := hts (.fieldLink RX5 7 "FloatOrderModel" "now" "[I") (by decide +kernel)
  have hl1 := hts (.fieldLink RX5 13 "FloatOrderModel" "then" "[I") (by decide +kernel)
  refine lv_iconst (v := (-1 : Int32)) hx hb dX5_bestExchange_0 (by decide) ?_
  refine lv_istore_n (lv' := [(1, .int (-1 : Int32)), (0, .ref (a 0))]) hx hb dX5_bestExchange_1 rfl hl (by decide) rfl (fun ls hl => ?_)
  refine lv_aload_n hx hb dX5_bestExchange_2 rfl (lv_at hl 1 rfl) ?_
  refine va_get (ci := 5) (C := RX5) (T := TX5) (N := 12) hx hb hts hw5 hown hK hP 0 rfl rfl 0 (by decide) hl0 (fun _ h9 => h9) rfl dX5_bestExchange_3 ?_
  obtain ⟨x1, hq1, hR⟩ := kk_bd_el hR
  refine kk_call_Si (w' := (w_M g a M)) (As := [.ref (a 1)]) (rest := []) hC (sX5_allTrouble l g n (a 1) (M 0)  x1 hq1) (va_cwS 1 hts gX5_bestExchange_X5_allTrouble rfl rfl rfl (by decide +kernel) ⟨Nat.le_of_ble_eq_true rfl, Nat.le_of_ble_eq_true rfl⟩) hK hP hD hS hA [1] rfl (by decide +kernel) rfl rfl rfl rfl hl.1 (Nat.le_of_ble_eq_true rfl) dX5_bestExchange_6 (fun H locs hP hD hS => ?_)
  refine lv_istore_n (lv' := [(2, .int x1), (1, .int (-1 : Int32)), (0, .ref (a 0))]) hx hb dX5_bestExchange_9 rfl hl (by decide) rfl (fun ls hl => ?_)
  refine lv_aload_n hx hb dX5_bestExchange_10 rfl (lv_at hl 2 rfl) ?_
  refine lv_aload_n hx hb dX5_bestExchange_11 rfl (lv_at hl 2 rfl) ?_
  refine va_get (ci := 5) (C := RX5) (T := TX5) (N := 12) hx hb hts hw5 hown hK hP 0 rfl rfl 0 (by decide) hl0 (fun _ h9 => h9) rfl dX5_bestExchange_12 ?_
  obtain ⟨x2, hq2, hR⟩ := kk_bd_el hR
  refine kk_call_Vi (w' := (w_M g a x2.2)) (As := [.ref (a 1)]) (rest := []) 0 5 hC (sX5_endsN l g n a M  x2 hq2) (cwV 1 hts gX5_bestExchange_X5_ends rfl rfl rfl (by decide +kernel) ⟨Nat.le_of_ble_eq_true rfl, Nat.le_of_ble_eq_true rfl⟩) hK hP hD hS hA [0, 1, 2, 3, 4, 5, 6] rfl (by decide +kernel) rfl rfl rfl rfl rfl rfl rfl hl.1 (Nat.le_of_ble_eq_true rfl) dX5_bestExchange_15 (fun H locs hP hD hS => ?_)
  refine lv_istore_n (lv' := [(3, .int x2.1), (2, .int x1), (1, .int (-1 : Int32)), (0, .ref (a 0))]) hx hb dX5_bestExchange_18 rfl hl (by decide) rfl (fun ls hl => ?_)
  refine lv_iconst (v := (0 : Int32)) hx hb dX5_bestExchange_19 (by decide) ?_
  refine lv_istore (lv' := [(4, .int (0 : Int32)), (3, .int x2.1), (2, .int x1), (1, .int (-1 : Int32)), (0, .ref (a 0))]) hx hb dX5_bestExchange_20 hl (by decide) rfl (fun ls hl => ?_)
  obtain ⟨x40, hq40, hR⟩ := kk_bd_el hR
  refine kk_cut (g := g) (A := A) (w' := (w_M g a x40.2)) (nL := 9) (lv := [(1, .int x40.1)]) (pcJ := 180) (st := []) (fun H locs ls hP hD hS hl => ?_) (fun hj40 => ?_)
  · refine lv_iload_n hx hb dX5_bestExchange_180 rfl (lv_at hl 0 rfl) ?_
    obtain rfl := Option.some.inj hR
    exact kk_ret_i hC hr hlocks hK hP hD hS dX5_bestExchange_181 rfl
  refine kk_loop (g := g) (A := A) (fun (st : Int32 × Int32 × Int32 × Int32 × St1) => (w_M g a st.2.2.2.2)) (fun (st : Int32 × Int32 × Int32 × Int32 × St1) => [(4, .int st.2.2.2.1), (3, .int st.2.2.1), (2, .int st.2.1), (1, .int st.1), (0, .ref (a 0))]) 22 (nL := 9) hq40 (fun st xb39 hR ih1 hX1 => ?_) hP hD hS (lv_sub hl [0, 1, 2, 3, 4] rfl)
  clear hP hD hS hl
  obtain ⟨u34, u35, u36, u37, M38⟩ := st
  intro H locs ls hP hD hS hl
  replace hR : fX5_bestExchange_b22 n u34 u35 u36 u37 M38 = some xb39 := hR
  replace hP : va_P g.1 vwCl (w_M g a M38) H := hP
  replace hD : va_D A (w_M g a M38) := hD
  replace hl : lv_has ls 9 [(4, .int u37), (3, .int u36), (2, .int u35), (1, .int u34), (0, .ref (a 0))] := hl
  unfold fX5_bestExchange_b22 at hR
  refine lv_iload hx hb dX5_bestExchange_22 (lv_at hl 0 rfl) ?_
  refine lv_sipush (v := (144 : Int32)) hx hb dX5_bestExchange_24 (by decide) ?_
  refine lv_icmp_ge (tgt := 180) hx hb dX5_bestExchange_27 (by decide) (fun c41 => ?_) (fun c41 => ?_)
  · replace hR := (if_pos c41).symm.trans hR
    obtain rfl := Option.some.inj hR
    obtain rfl := hX1 _ rfl
    exact hj40 _ _ _ hP hD hS (lv_sub hl [3] rfl)
  · replace hR := (if_neg c41).symm.trans hR
    refine lv_iload hx hb dX5_bestExchange_30 (lv_at hl 0 rfl) ?_
    refine lv_bipush (v := (12 : Int32)) hx hb dX5_bestExchange_32 (by decide) ?_
    refine lv_idiv hx hb dX5_bestExchange_34 (by decide) ?_
    refine lv_istore (lv' := [(5, .int (u37 / (12 : Int32))), (4, .int u37), (3, .int u36), (2, .int u35), (1, .int u34), (0, .ref (a 0))]) hx hb dX5_bestExchange_35 hl (by decide) rfl (fun ls hl => ?_)
    refine lv_iload hx hb dX5_bestExchange_37 (lv_at hl 1 rfl) ?_
    refine lv_bipush (v := (12 : Int32)) hx hb dX5_bestExchange_39 (by decide) ?_
    refine lv_irem hx hb dX5_bestExchange_41 (by decide) ?_
    refine lv_istore (lv' := [(6, .int (u37 - u37 / (12 : Int32) * (12 : Int32))), (5, .int (u37 / (12 : Int32))), (4, .int u37), (3, .int u36), (2, .int u35), (1, .int u34), (0, .ref (a 0))]) hx hb dX5_bestExchange_42 hl (by decide) rfl (fun ls hl => ?_)
    refine lv_iload hx hb dX5_bestExchange_44 (lv_at hl 1 rfl) ?_
    refine lv_iload hx hb dX5_bestExchange_46 (lv_at hl 0 rfl) ?_
    refine lv_icmp_ge (tgt := 174) hx hb dX5_bestExchange_48 (by decide) (fun c42 => ?_) (fun c42 => ?_)
    · replace hR := (if_pos c42).symm.trans hR
      refine lv_iinc (v := (u37 + (1 : Int32))) (lv' := [(4, .int (u37 + (1 : Int32))), (6, .int (u37 - u37 / (12 : Int32) * (12 : Int32))), (5, .int (u37 / (12 : Int32))), (3, .int u36), (2, .int u35), (1, .int u34), (0, .ref (a 0))]) hx hb dX5_bestExchange_174 hl (k := 2) rfl rfl (by decide) rfl (fun ls hl => ?_)
      refine lv_goto (tgt := 22) hx hb dX5_bestExchange_177 (by decide) ?_
      obtain rfl := Option.some.inj hR
      exact ih1 _ rfl _ _ _ hP hD hS (lv_sub hl [0, 3, 4, 5, 6] rfl)
    · replace hR := (if_neg c42).symm.trans hR
      refine lv_iload hx hb dX5_bestExchange_51 (lv_at hl 0 rfl) ?_
      refine lv_aload_n hx hb dX5_bestExchange_53 rfl (lv_at hl 6 rfl) ?_
      refine va_get (ci := 5) (C := RX5) (T := TX5) (N := 12) hx hb hts hw5 hown hK hP 0 rfl rfl 0 (by decide) hl0 (fun _ h9 => h9) rfl dX5_bestExchange_54 ?_
      refine lv_iconst (v := (4 : Int32)) hx hb dX5_bestExchange_57 (by decide) ?_
      refine va_iald hx hb hK hP 1 0 rfl rfl (kk_in 4 62 (by decide) (by decide) rfl) dX5_bestExchange_58 ?_
      refine lv_icmp_ge (tgt := 174) hx hb dX5_bestExchange_59 (by decide) (fun c43 => ?_) (fun c43 => ?_)
      · replace hR := (if_pos c43).symm.trans hR
        refine lv_iinc (v := (u37 + (1 : Int32))) (lv' := [(4, .int (u37 + (1 : Int32))), (6, .int (u37 - u37 / (12 : Int32) * (12 : Int32))), (5, .int (u37 / (12 : Int32))), (3, .int u36), (2, .int u35), (1, .int u34), (0, .ref (a 0))]) hx hb dX5_bestExchange_174 hl (k := 2) rfl rfl (by decide) rfl (fun ls hl => ?_)
        refine lv_goto (tgt := 22) hx hb dX5_bestExchange_177 (by decide) ?_
        obtain rfl := Option.some.inj hR
        exact ih1 _ rfl _ _ _ hP hD hS (lv_sub hl [0, 3, 4, 5, 6] rfl)
      · replace hR := (if_neg c43).symm.trans hR
        refine lv_aload_n hx hb dX5_bestExchange_62 rfl (lv_at hl 6 rfl) ?_
        refine va_get (ci := 5) (C := RX5) (T := TX5) (N := 12) hx hb hts hw5 hown hK hP 0 rfl rfl 0 (by decide) hl0 (fun _ h9 => h9) rfl dX5_bestExchange_63 ?_
        refine lv_iconst (v := (0 : Int32)) hx hb dX5_bestExchange_66 (by decide) ?_
        refine lv_aload_n hx hb dX5_bestExchange_67 rfl (lv_at hl 6 rfl) ?_
        refine va_get (ci := 5) (C := RX5) (T := TX5) (N := 12) hx hb hts hw5 hown hK hP 0 rfl rfl 1 (by decide) hl1 (fun _ h9 => h9) rfl dX5_bestExchange_68 ?_
        refine lv_iconst (v := (0 : Int32)) hx hb dX5_bestExchange_71 (by decide) ?_
        obtain ⟨x44, hq44, hR⟩ := kk_bd_el hR
        obtain ⟨M45, eM45, hR⟩ := kk_nm_el hR
        refine kk_call_Sv (w' := (w_M g a M45)) (As := [.ref (a 1), .int (0 : Int32), .ref (a 2), .int (0 : Int32)]) (rest := []) hC (sX5_copies l g n (a 1) 62 (a 2) 62 (M38 0) (M38 1) (0 : Int32) (0 : Int32) x44 hq44) (va_cwS 4 hts gX5_bestExchange_X5_copies rfl rfl rfl (by decide +kernel) ⟨Nat.le_of_ble_eq_true rfl, Nat.le_of_ble_eq_true rfl⟩) hK hP hD hS hA [1, 2] rfl (by decide +kernel) rfl (by rw [eM45]; rfl) rfl rfl hl.1 (Nat.le_of_ble_eq_true rfl) dX5_bestExchange_72 (fun H locs hP hD hS => ?_)
        refine lv_aload_n hx hb dX5_bestExchange_75 rfl (lv_at hl 6 rfl) ?_
        refine va_get (ci := 5) (C := RX5) (T := TX5) (N := 12) hx hb hts hw5 hown hK hP 0 rfl rfl 1 (by decide) hl1 (fun _ h9 => h9) rfl dX5_bestExchange_76 ?_
        refine lv_iload hx hb dX5_bestExchange_79 (lv_at hl 1 rfl) ?_
        refine lv_iload hx hb dX5_bestExchange_81 (lv_at hl 0 rfl) ?_
        obtain ⟨x46, hq46, hR⟩ := kk_bd_el hR
        obtain ⟨M47, eM47, hR⟩ := kk_nm_el hR
        refine kk_call_Sv (w' := (w_M g a M47)) (As := [.ref (a 2), .int (u37 / (12 : Int32)), .int (u37 - u37 / (12 : Int32) * (12 : Int32))]) (rest := []) hC (sX5_exchanges l g n (a 2) (M45 1) (u37 / (12 : Int32)) (u37 - u37 / (12 : Int32) * (12 : Int32)) x46 hq46) (va_cwS 3 hts gX5_bestExchange_X5_exchanges rfl rfl rfl (by decide +kernel) ⟨Nat.le_of_ble_eq_true rfl, Nat.le_of_ble_eq_true rfl⟩) hK hP hD hS hA [2] rfl (by decide +kernel) rfl (by rw [eM47]; rfl) rfl rfl hl.1 (Nat.le_of_ble_eq_true rfl) dX5_bestExchange_83 (fun H locs hP hD hS => ?_)
        refine lv_aload_n hx hb dX5_bestExchange_86 rfl (lv_at hl 6 rfl) ?_
        refine va_get (ci := 5) (C := RX5) (T := TX5) (N := 12) hx hb hts hw5 hown hK hP 0 rfl rfl 1 (by decide) hl1 (fun _ h9 => h9) rfl dX5_bestExchange_87 ?_
        obtain ⟨x48, hq48, hR⟩ := kk_bd_el hR
        refine kk_call_Si (w' := (w_M g a M47)) (As := [.ref (a 2)]) (rest := []) hC (sX5_allTrouble l g n (a 2) (M47 1)  x48 hq48) (va_cwS 1 hts gX5_bestExchange_X5_allTrouble rfl rfl rfl (by decide +kernel) ⟨Nat.le_of_ble_eq_true rfl, Nat.le_of_ble_eq_true rfl⟩) hK hP hD hS hA [2] rfl (by decide +kernel) rfl rfl rfl rfl hl.1 (Nat.le_of_ble_eq_true rfl) dX5_bestExchange_90 (fun H locs hP hD hS => ?_)
        refine lv_istore (lv' := [(7, .int x48), (6, .int (u37 - u37 / (12 : Int32) * (12 : Int32))), (5, .int (u37 / (12 : Int32))), (4, .int u37), (3, .int u36), (2, .int u35), (1, .int u34), (0, .ref (a 0))]) hx hb dX5_bestExchange_93 hl (by decide) rfl (fun ls hl => ?_)
        refine lv_iload hx hb dX5_bestExchange_95 (lv_at hl 0 rfl) ?_
        refine lv_iload_n hx hb dX5_bestExchange_97 rfl (lv_at hl 5 rfl) ?_
        obtain ⟨x53, hq53, hR⟩ := kk_bd_el hR
        refine kk_cut (g := g) (A := A) (w' := (w_M g a x53.2)) (nL := 9) (lv := [(7, .int x48), (6, .int (u37 - u37 / (12 : Int32) * (12 : Int32))), (5, .int (u37 / (12 : Int32))), (4, .int u37), (3, .int u36), (2, .int u35), (1, .int u34), (0, .ref (a 0))]) (pcJ := 124) (st := [.int x53.1]) (fun H locs ls hP hD hS hl => ?_) (fun hj53 => ?_)
        · refine lv_istore (lv' := [(8, .int x53.1), (7, .int x48), (6, .int (u37 - u37 / (12 : Int32) * (12 : Int32))), (5, .int (u37 / (12 : Int32))), (4, .int u37), (3, .int u36), (2, .int u35), (1, .int u34), (0, .ref (a 0))]) hx hb dX5_bestExchange_124 hl (by decide) rfl (fun ls hl => ?_)
          refine lv_iload hx hb dX5_bestExchange_126 (lv_at hl 0 rfl) ?_
          obtain ⟨x59, hq59, hR⟩ := kk_bd_el hR
          refine kk_cut (g := g) (A := A) (w' := (w_M g a x53.2)) (nL := 9) (lv := [(8, .int x53.1), (7, .int x48), (4, .int u37), (3, .int u36), (2, .int u35), (0, .ref (a 0))]) (pcJ := 143) (st := [.int x59]) (fun H locs ls hP hD hS hl => ?_) (fun hj59 => ?_)
          · refine lv_istore_n (lv' := [(1, .int x59), (8, .int x53.1), (7, .int x48), (4, .int u37), (3, .int u36), (2, .int u35), (0, .ref (a 0))]) hx hb dX5_bestExchange_143 rfl hl (by decide) rfl (fun ls hl => ?_)
            refine lv_iload hx hb dX5_bestExchange_144 (lv_at hl 1 rfl) ?_
            obtain ⟨x63, hq63, hR⟩ := kk_bd_el hR
            refine kk_cut (g := g) (A := A) (w' := (w_M g a x63.2)) (nL := 9) (lv := [(1, .int x59), (8, .int x53.1), (7, .int x48), (4, .int u37), (2, .int u35), (0, .ref (a 0))]) (pcJ := 161) (st := [.int x63.1]) (fun H locs ls hP hD hS hl => ?_) (fun hj63 => ?_)
            · refine lv_istore_n (lv' := [(3, .int x63.1), (1, .int x59), (8, .int x53.1), (7, .int x48), (4, .int u37), (2, .int u35), (0, .ref (a 0))]) hx hb dX5_bestExchange_161 rfl hl (by decide) rfl (fun ls hl => ?_)
              refine lv_iload hx hb dX5_bestExchange_162 (lv_at hl 2 rfl) ?_
              refine lv_if_eq (tgt := 172) hx hb dX5_bestExchange_164 (by decide) (fun c66 => ?_) (fun c66 => ?_)
              · replace hR := (if_pos c66).symm.trans hR
                refine lv_iload_n hx hb dX5_bestExchange_172 rfl (lv_at hl 5 rfl) ?_
                refine lv_istore_n (lv' := [(2, .int u35), (3, .int x63.1), (1, .int x59), (8, .int x53.1), (7, .int x48), (4, .int u37), (0, .ref (a 0))]) hx hb dX5_bestExchange_173 rfl hl (by decide) rfl (fun ls hl => ?_)
                refine lv_iinc (v := (u37 + (1 : Int32))) (lv' := [(4, .int (u37 + (1 : Int32))), (2, .int u35), (3, .int x63.1), (1, .int x59), (8, .int x53.1), (7, .int x48), (0, .ref (a 0))]) hx hb dX5_bestExchange_174 hl (k := 5) rfl rfl (by decide) rfl (fun ls hl => ?_)
                refine lv_goto (tgt := 22) hx hb dX5_bestExchange_177 (by decide) ?_
                obtain rfl := Option.some.inj hR
                exact ih1 _ rfl _ _ _ hP hD hS (lv_sub hl [0, 2, 1, 3, 6] rfl)
              · replace hR := (if_neg c66).symm.trans hR
                refine lv_iload hx hb dX5_bestExchange_167 (lv_at hl 3 rfl) ?_
                refine lv_goto (tgt := 173) hx hb dX5_bestExchange_169 (by decide) ?_
                refine lv_istore_n (lv' := [(2, .int x48), (3, .int x63.1), (1, .int x59), (8, .int x53.1), (7, .int x48), (4, .int u37), (0, .ref (a 0))]) hx hb dX5_bestExchange_173 rfl hl (by decide) rfl (fun ls hl => ?_)
                refine lv_iinc (v := (u37 + (1 : Int32))) (lv' := [(4, .int (u37 + (1 : Int32))), (2, .int x48), (3, .int x63.1), (1, .int x59), (8, .int x53.1), (7, .int x48), (0, .ref (a 0))]) hx hb dX5_bestExchange_174 hl (k := 5) rfl rfl (by decide) rfl (fun ls hl => ?_)
                refine lv_goto (tgt := 22) hx hb dX5_bestExchange_177 (by decide) ?_
                obtain rfl := Option.some.inj hR
                exact ih1 _ rfl _ _ _ hP hD hS (lv_sub hl [0, 2, 1, 3, 6] rfl)
            replace hR := hq63
            refine lv_if_eq (tgt := 160) hx hb dX5_bestExchange_146 (by decide) (fun c64 => ?_) (fun c64 => ?_)
            · replace hR := (if_pos c64).symm.trans hR
              refine lv_iload_n hx hb dX5_bestExchange_160 rfl (lv_at hl 4 rfl) ?_
              obtain rfl := Option.some.inj hR
              exact hj63 _ _ _ hP hD hS (lv_sub hl [0, 1, 2, 3, 5, 6] rfl)
            · replace hR := (if_neg c64).symm.trans hR
              refine lv_aload_n hx hb dX5_bestExchange_149 rfl (lv_at hl 6 rfl) ?_
              refine lv_aload_n hx hb dX5_bestExchange_150 rfl (lv_at hl 6 rfl) ?_
              refine va_get (ci := 5) (C := RX5) (T := TX5) (N := 12) hx hb hts hw5 hown hK hP 0 rfl rfl 1 (by decide) hl1 (fun _ h9 => h9) rfl dX5_bestExchange_151 ?_
              obtain ⟨x65, hq65, hR⟩ := kk_bd_el hR
              refine kk_call_Vi (w' := (w_M g a x65.2)) (As := [.ref (a 2)]) (rest := []) 0 5 hC (sX5_endsT l g n a x53.2  x65 hq65) (cwV 1 hts gX5_bestExchange_X5_ends rfl rfl rfl (by decide +kernel) ⟨Nat.le_of_ble_eq_true rfl, Nat.le_of_ble_eq_true rfl⟩) hK hP hD hS hA [0, 1, 2, 3, 4, 5, 6] rfl (by decide +kernel) rfl rfl rfl rfl rfl rfl rfl hl.1 (Nat.le_of_ble_eq_true rfl) dX5_bestExchange_154 (fun H locs hP hD hS => ?_)
              refine lv_goto (tgt := 161) hx hb dX5_bestExchange_157 (by decide) ?_
              obtain rfl := Option.some.inj hR
              exact hj63 _ _ _ hP hD hS (lv_sub hl [0, 1, 2, 3, 5, 6] rfl)
          replace hR := hq59
          refine lv_if_eq (tgt := 142) hx hb dX5_bestExchange_128 (by decide) (fun c60 => ?_) (fun c60 => ?_)
          · replace hR := (if_pos c60).symm.trans hR
            refine lv_iload_n hx hb dX5_bestExchange_142 rfl (lv_at hl 7 rfl) ?_
            obtain rfl := Option.some.inj hR
            exact hj59 _ _ _ hP hD hS (lv_sub hl [0, 1, 4, 5, 6, 8] rfl)
          · replace hR := (if_neg c60).symm.trans hR
            refine lv_bipush (v := (16 : Int32)) hx hb dX5_bestExchange_131 (by decide) ?_
            refine lv_iload hx hb dX5_bestExchange_133 (lv_at hl 3 rfl) ?_
            refine lv_imul hx hb dX5_bestExchange_135 ?_
            refine lv_iload hx hb dX5_bestExchange_136 (lv_at hl 2 rfl) ?_
            refine lv_iadd hx hb dX5_bestExchange_138 ?_
            refine lv_goto (tgt := 143) hx hb dX5_bestExchange_139 (by decide) ?_
            obtain rfl := Option.some.inj hR
            exact hj59 _ _ _ hP hD hS (lv_sub hl [0, 1, 4, 5, 6, 8] rfl)
        replace hR := hq53
        refine lv_icmp_lt (tgt := 119) hx hb dX5_bestExchange_98 (by decide) (fun c54 => ?_) (fun c54 => ?_)
        · replace hR := (if_pos c54).symm.trans hR
          refine lv_iconst (v := (1 : Int32)) hx hb dX5_bestExchange_119 (by decide) ?_
          refine lv_goto (tgt := 124) hx hb dX5_bestExchange_120 (by decide) ?_
          obtain rfl := Option.some.inj hR
          exact hj53 _ _ _ hP hD hS (lv_sub hl [0, 1, 2, 3, 4, 5, 6, 7] rfl)
        · replace hR := (if_neg c54).symm.trans hR
          refine lv_iload hx hb dX5_bestExchange_101 (lv_at hl 0 rfl) ?_
          refine lv_iload_n hx hb dX5_bestExchange_103 rfl (lv_at hl 5 rfl) ?_
          refine lv_icmp_ne (tgt := 123) hx hb dX5_bestExchange_104 (by decide) (fun c55 => ?_) (fun c55 => ?_)
          · replace hR := (if_neg c55).symm.trans hR
            refine lv_iconst (v := (0 : Int32)) hx hb dX5_bestExchange_123 (by decide) ?_
            obtain rfl := Option.some.inj hR
            exact hj53 _ _ _ hP hD hS (lv_sub hl [0, 1, 2, 3, 4, 5, 6, 7] rfl)
          · replace hR := (if_pos c55).symm.trans hR
            refine lv_aload_n hx hb dX5_bestExchange_107 rfl (lv_at hl 7 rfl) ?_
            refine lv_aload_n hx hb dX5_bestExchange_108 rfl (lv_at hl 7 rfl) ?_
            refine va_get (ci := 5) (C := RX5) (T := TX5) (N := 12) hx hb hts hw5 hown hK hP 0 rfl rfl 1 (by decide) hl1 (fun _ h9 => h9) rfl dX5_bestExchange_109 ?_
            obtain ⟨x56, hq56, hR⟩ := kk_bd_el hR
            refine kk_call_Vi (w' := (w_M g a x56.2)) (As := [.ref (a 2)]) (rest := []) 0 5 hC (sX5_endsT l g n a M47  x56 hq56) (cwV 1 hts gX5_bestExchange_X5_ends rfl rfl rfl (by decide +kernel) ⟨Nat.le_of_ble_eq_true rfl, Nat.le_of_ble_eq_true rfl⟩) hK hP hD hS hA [0, 1, 2, 3, 4, 5, 6] rfl (by decide +kernel) rfl rfl rfl rfl rfl rfl rfl hl.1 (Nat.le_of_ble_eq_true rfl) dX5_bestExchange_112 (fun H locs hP hD hS => ?_)
            refine lv_iload_n hx hb dX5_bestExchange_115 rfl (lv_at hl 4 rfl) ?_
            refine lv_icmp_ge (tgt := 123) hx hb dX5_bestExchange_116 (by decide) (fun c57 => ?_) (fun c57 => ?_)
            · replace hR := (if_pos c57).symm.trans hR
              refine lv_iconst (v := (0 : Int32)) hx hb dX5_bestExchange_123 (by decide) ?_
              obtain rfl := Option.some.inj hR
              exact hj53 _ _ _ hP hD hS (lv_sub hl [0, 1, 2, 3, 4, 5, 6, 7] rfl)
            · replace hR := (if_neg c57).symm.trans hR
              refine lv_iconst (v := (1 : Int32)) hx hb dX5_bestExchange_119 (by decide) ?_
              refine lv_goto (tgt := 124) hx hb dX5_bestExchange_120 (by decide) ?_
              obtain rfl := Option.some.inj hR
              exact hj53 _ _ _ hP hD hS (lv_sub hl [0, 1, 2, 3, 4, 5, 6, 7] rfl)
set_option maxHeartbeats 8000000 in
set_option maxRecDepth 100000 in
theorem sX5_isKind (l : Launch) (g : kG) (n : Nat)  (v0 : Int32) (v1 : Int32) (v2 : Int32) (r : Int32) (hR : fX5_isKind n v0 v1 v2 = some r) : kSp l g yX5_isKind wsX5_isKind ({ frames := 1, cells := 0, slots := 0, locals := 22 }) [.int v0, .int v1, .int v2] ([] : va_W) (kQi g ([] : va_W) r) := by
  refine kSp.of (cc := cX5_isKind) (maxL := 3) (ret := (some .boolean)) (by decide) rfl (Nat.le_of_ble_eq_true rfl) ?_
  intro p e s m args below meth c ls A hC hr hlocks hA hK hl hP hD hS
  replace hC : CallFix p m c cX5_isKind 3 s args wsX5_isKind RX5 := hC
  obtain ⟨hx, hb, hml, hown, hts⟩ := id hC
  replace hl : lv_has ls 3 [(0, .int v0), (1, .int v1), (2, .int v2)] := hl
  unfold fX5_isKind at hR
  refine lv_iload_n hx hb dX5_isKind_0 rfl (lv_at hl 0 rfl) ?_
  refine lv_iconst (v := (0 : Int32)) hx hb dX5_isKind_1 (by decide) ?_
  refine lv_iconst (v := (3 : Int32)) hx hb dX5_isKind_2 (by decide) ?_
  obtain ⟨x1, hq1, hR⟩ := kk_bd_el hR
  refine kk_call_Si (w' := ([] : va_W)) (As := [.int v0, .int (0 : Int32), .int (3 : Int32)]) (rest := []) hC (sX5_in l g n   v0 (0 : Int32) (3 : Int32) x1 hq1) (va_cwS 3 hts gX5_isKind_X5_in rfl rfl rfl (by decide +kernel) ⟨Nat.le_of_ble_eq_true rfl, Nat.le_of_ble_eq_true rfl⟩) hK hP hD hS hA [] rfl (by decide +kernel) rfl rfl rfl rfl hl.1 (Nat.le_of_ble_eq_true rfl) dX5_isKind_3 (fun H locs hP hD hS => ?_)
  refine lv_if_eq (tgt := 43) hx hb dX5_isKind_6 (by decide) (fun c2 => ?_) (fun c2 => ?_)
  · replace hR := (if_pos c2).symm.trans hR
    refine lv_iconst (v := (0 : Int32)) hx hb dX5_isKind_43 (by decide) ?_
    obtain rfl := Option.some.inj hR
    exact kk_ret_z hC hr hlocks hK hP hD hS dX5_isKind_44 (by decide) rfl
  · replace hR := (if_neg c2).symm.trans hR
    refine lv_iload_n hx hb dX5_isKind_9 rfl (lv_at hl 1 rfl) ?_
    refine lv_bipush (v := (10 : Int32)) hx hb dX5_isKind_10 (by decide) ?_
    refine lv_bipush (v := (99 : Int32)) hx hb dX5_isKind_12 (by decide) ?_
    obtain ⟨x4, hq4, hR⟩ := kk_bd_el hR
    refine kk_call_Si (w' := ([] : va_W)) (As := [.int v1, .int (10 : Int32), .int (99 : Int32)]) (rest := []) hC (sX5_in l g n   v1 (10 : Int32) (99 : Int32) x4 hq4) (va_cwS 3 hts gX5_isKind_X5_in rfl rfl rfl (by decide +kernel) ⟨Nat.le_of_ble_eq_true rfl, Nat.le_of_ble_eq_true rfl⟩) hK hP hD hS hA [] rfl (by decide +kernel) rfl rfl rfl rfl hl.1 (Nat.le_of_ble_eq_true rfl) dX5_isKind_14 (fun H locs hP hD hS => ?_)
    refine lv_if_eq (tgt := 43) hx hb dX5_isKind_17 (by decide) (fun c5 => ?_) (fun c5 => ?_)
    · replace hR := (if_pos c5).symm.trans hR
      refine lv_iconst (v := (0 : Int32)) hx hb dX5_isKind_43 (by decide) ?_
      obtain rfl := Option.some.inj hR
      exact kk_ret_z hC hr hlocks hK hP hD hS dX5_isKind_44 (by decide) rfl
    · replace hR := (if_neg c5).symm.trans hR
      refine lv_iload_n hx hb dX5_isKind_20 rfl (lv_at hl 2 rfl) ?_
      refine lv_iconst (v := (0 : Int32)) hx hb dX5_isKind_21 (by decide) ?_
      refine lv_iload_n hx hb dX5_isKind_22 rfl (lv_at hl 0 rfl) ?_
      refine lv_iconst (v := (1 : Int32)) hx hb dX5_isKind_23 (by decide) ?_
      obtain ⟨x8, hq8, hR⟩ := kk_bd_el hR
      refine kk_cut (g := g) (A := A) (w' := ([] : va_W)) (nL := 3) (lv := []) (pcJ := 33) (st := [.int x8, .int (0 : Int32), .int v2]) (fun H locs ls hP hD hS hl => ?_) (fun hj8 => ?_)
      · obtain ⟨x10, hq10, hR⟩ := kk_bd_el hR
        refine kk_call_Si (w' := ([] : va_W)) (As := [.int v2, .int (0 : Int32), .int x8]) (rest := []) hC (sX5_in l g n   v2 (0 : Int32) x8 x10 hq10) (va_cwS 3 hts gX5_isKind_X5_in rfl rfl rfl (by decide +kernel) ⟨Nat.le_of_ble_eq_true rfl, Nat.le_of_ble_eq_true rfl⟩) hK hP hD hS hA [] rfl (by decide +kernel) rfl rfl rfl rfl hl.1 (Nat.le_of_ble_eq_true rfl) dX5_isKind_33 (fun H locs hP hD hS => ?_)
        refine lv_if_eq (tgt := 43) hx hb dX5_isKind_36 (by decide) (fun c11 => ?_) (fun c11 => ?_)
        · replace hR := (if_pos c11).symm.trans hR
          refine lv_iconst (v := (0 : Int32)) hx hb dX5_isKind_43 (by decide) ?_
          obtain rfl := Option.some.inj hR
          exact kk_ret_z hC hr hlocks hK hP hD hS dX5_isKind_44 (by decide) rfl
        · replace hR := (if_neg c11).symm.trans hR
          refine lv_iconst (v := (1 : Int32)) hx hb dX5_isKind_39 (by decide) ?_
          refine lv_goto (tgt := 44) hx hb dX5_isKind_40 (by decide) ?_
          obtain rfl := Option.some.inj hR
          exact kk_ret_z hC hr hlocks hK hP hD hS dX5_isKind_44 (by decide) rfl
      replace hR := hq8
      refine lv_icmp_ne (tgt := 32) hx hb dX5_isKind_24 (by decide) (fun c9 => ?_) (fun c9 => ?_)
      · replace hR := (if_neg c9).symm.trans hR
        refine lv_iconst (v := (0 : Int32)) hx hb dX5_isKind_32 (by decide) ?_
        obtain rfl := Option.some.inj hR
        exact hj8 _ _ _ hP hD hS (lv_sub hl [] rfl)
      · replace hR := (if_pos c9).symm.trans hR
        refine lv_bipush (v := (15 : Int32)) hx hb dX5_isKind_27 (by decide) ?_
        refine lv_goto (tgt := 33) hx hb dX5_isKind_29 (by decide) ?_
        obtain rfl := Option.some.inj hR
        exact hj8 _ _ _ hP hD hS (lv_sub hl [] rfl)
set_option maxHeartbeats 8000000 in
set_option maxRecDepth 100000 in
theorem sX5_put (l : Launch) (g : kG) (n : Nat) (a : Nat → Nat) (M : St1) (v1 : Int32) (v2 : Int32) (v3 : Int32) (v4 : Int32) (r : Int32 × St1) (hR : fX5_put n M v1 v2 v3 v4 = some r) : kSp l g yX5_put wsX5_put ({ frames := 2, cells := 0, slots := 0, locals := 45 }) [.ref (a 0), .int v1, .int v2, .int v3, .int v4] (w_M g a M) (kQi g (w_M g a r.2) r.1) := by
  refine kSp.of (cc := cX5_put) (maxL := 5) (ret := (some .int)) (by decide) rfl (Nat.le_of_ble_eq_true rfl) ?_
  intro p e s m args below meth c ls A hC hr hlocks hA hK hl hP hD hS
  replace hC : CallFix p m c cX5_put 5 s args wsX5_put RX5 := hC
  obtain ⟨hx, hb, hml, hown, hts⟩ := id hC
  replace hl : lv_has ls 5 [(0, .ref (a 0)), (1, .int v1), (2, .int v2), (3, .int v3), (4, .int v4)] := hl
  unfold fX5_put at hR
  have hw5 : ∀ w ∈ wsX50, w ∈ wsX5_put := by decide +kernel
  have hl0 := hts (.fieldLink RX5 28 "FloatOrderModel" "thrown" "I") (by decide +kernel)
  have hl1 := hts (.fieldLink RX5 7 "FloatOrderModel" "now" "[I") (by decide +kernel)
  refine lv_aload_n hx hb dX5_put_0 rfl (lv_at hl 0 rfl) ?_
  refine lv_iconst (v := (0 : Int32)) hx hb dX5_put_1 (by decide) ?_
  obtain ⟨M1, eM1, hR⟩ := kk_nm_el hR
  refine kk_put (w' := (w_M g a M1)) (ci := 5) (C := RX5) (T := TX5) (N := 12) (ty := .int) (v := .int (0 : Int32)) hC hw5 tyX5 tyX5_ok nmX5 hK hP hD hS 0 rfl rfl 6 (by decide) hl0 rfl (by decide +kernel) rfl rfl (Nat.le_of_ble_eq_true rfl) (by rw [eM1]; rfl) dX5_put_2 rfl (fun H locs hP hD hS => ?_)
  refine lv_iload_n hx hb dX5_put_5 rfl (lv_at hl 1 rfl) ?_
  refine lv_iconst (v := (0 : Int32)) hx hb dX5_put_6 (by decide) ?_
  refine lv_aload_n hx hb dX5_put_7 rfl (lv_at hl 0 rfl) ?_
  refine va_get (ci := 5) (C := RX5) (T := TX5) (N := 12) hx hb hts hw5 hown hK hP 0 rfl rfl 0 (by decide) hl1 (fun _ h9 => h9) rfl dX5_put_8 ?_
  refine lv_iconst (v := (4 : Int32)) hx hb dX5_put_11 (by decide) ?_
  refine va_iald hx hb hK hP 1 0 rfl rfl (kk_in 4 62 (by decide) (by decide) rfl) dX5_put_12 ?_
  obtain ⟨x2, hq2, hR⟩ := kk_bd_el hR
  refine kk_call_Si (w' := (w_M g a M1)) (As := [.int v1, .int (0 : Int32), .int ((M1 0) (4 : Int32).toNatClampNeg)]) (rest := []) hC (sX5_in l g n   v1 (0 : Int32) ((M1 0) (4 : Int32).toNatClampNeg) x2 hq2) (va_cwS 3 hts gX5_put_X5_in rfl rfl rfl (by decide +kernel) ⟨Nat.le_of_ble_eq_true rfl, Nat.le_of_ble_eq_true rfl⟩) hK hP hD hS hA [] rfl (by decide +kernel) rfl rfl rfl rfl hl.1 (Nat.le_of_ble_eq_true rfl) dX5_put_13 (fun H locs hP hD hS => ?_)
  refine lv_if_ne (tgt := 25) hx hb dX5_put_16 (by decide) (fun c3 => ?_) (fun c3 => ?_)
  · replace hR := (if_neg c3).symm.trans hR
    refine lv_iload_n hx hb dX5_put_25 rfl (lv_at hl 2 rfl) ?_
    refine lv_iload_n hx hb dX5_put_26 rfl (lv_at hl 3 rfl) ?_
    refine lv_iload hx hb dX5_put_27 (lv_at hl 4 rfl) ?_
    obtain ⟨x4, hq4, hR⟩ := kk_bd_el hR
    refine kk_call_Si (w' := (w_M g a M1)) (As := [.int v2, .int v3, .int v4]) (rest := []) hC (sX5_isKind l g n   v2 v3 v4 x4 hq4) (va_cwS 3 hts gX5_put_X5_isKind rfl rfl rfl (by decide +kernel) ⟨Nat.le_of_ble_eq_true rfl, Nat.le_of_ble_eq_true rfl⟩) hK hP hD hS hA [] rfl (by decide +kernel) rfl rfl rfl rfl hl.1 (Nat.le_of_ble_eq_true rfl) dX5_put_29 (fun H locs hP hD hS => ?_)
    refine lv_if_ne (tgt := 41) hx hb dX5_put_32 (by decide) (fun c5 => ?_) (fun c5 => ?_)
    · replace hR := (if_neg c5).symm.trans hR
      refine lv_aload_n hx hb dX5_put_41 rfl (lv_at hl 0 rfl) ?_
      refine va_get (ci := 5) (C := RX5) (T := TX5) (N := 12) hx hb hts hw5 hown hK hP 0 rfl rfl 0 (by decide) hl1 (fun _ h9 => h9) rfl dX5_put_42 ?_
      refine lv_iconst (v := (4 : Int32)) hx hb dX5_put_45 (by decide) ?_
      refine va_iald hx hb hK hP 1 0 rfl rfl (kk_in 4 62 (by decide) (by decide) rfl) dX5_put_46 ?_
      refine lv_bipush (v := (12 : Int32)) hx hb dX5_put_47 (by decide) ?_
      refine lv_icmp_ne (tgt := 58) hx hb dX5_put_49 (by decide) (fun c6 => ?_) (fun c6 => ?_)
      · replace hR := (if_neg c6).symm.trans hR
        refine lv_aload_n hx hb dX5_put_58 rfl (lv_at hl 0 rfl) ?_
        obtain ⟨x7, hq7, hR⟩ := kk_bd_el hR
        refine kk_call_Vv (w' := (w_M g a x7)) (As := []) (rest := []) 0 5 hC (sX5_saves l g n a M1  x7 hq7) (cwV 0 hts gX5_put_X5_saves rfl rfl rfl (by decide +kernel) ⟨Nat.le_of_ble_eq_true rfl, Nat.le_of_ble_eq_true rfl⟩) hK hP hD hS hA [0, 1, 2, 3, 4, 5, 6] rfl (by decide +kernel) rfl rfl rfl rfl rfl rfl rfl hl.1 (Nat.le_of_ble_eq_true rfl) dX5_put_59 (fun H locs hP hD hS => ?_)
        refine lv_aload_n hx hb dX5_put_62 rfl (lv_at hl 0 rfl) ?_
        refine va_get (ci := 5) (C := RX5) (T := TX5) (N := 12) hx hb hts hw5 hown hK hP 0 rfl rfl 0 (by decide) hl1 (fun _ h9 => h9) rfl dX5_put_63 ?_
        refine lv_iload_n hx hb dX5_put_66 rfl (lv_at hl 1 rfl) ?_
        refine lv_iload_n hx hb dX5_put_67 rfl (lv_at hl 2 rfl) ?_
        refine lv_iload_n hx hb dX5_put_68 rfl (lv_at hl 3 rfl) ?_
        refine lv_iload hx hb dX5_put_69 (lv_at hl 4 rfl) ?_
        refine lv_iconst (v := (0 : Int32)) hx hb dX5_put_71 (by decide) ?_
        obtain ⟨x8, hq8, hR⟩ := kk_bd_el hR
        obtain ⟨M9, eM9, hR⟩ := kk_nm_el hR
        refine kk_call_Sv (w' := (w_M g a M9)) (As := [.ref (a 1), .int v1, .int v2, .int v3, .int v4, .int (0 : Int32)]) (rest := []) hC (sX5_puts l g n (a 1) (x7 0) v1 v2 v3 v4 (0 : Int32) x8 hq8) (va_cwS 6 hts gX5_put_X5_puts rfl rfl rfl (by decide +kernel) ⟨Nat.le_of_ble_eq_true rfl, Nat.le_of_ble_eq_true rfl⟩) hK hP hD hS hA [1] rfl (by decide +kernel) rfl (by rw [eM9]; rfl) rfl rfl hl.1 (Nat.le_of_ble_eq_true rfl) dX5_put_72 (fun H locs hP hD hS => ?_)
        refine lv_aload_n hx hb dX5_put_75 rfl (lv_at hl 0 rfl) ?_
        refine va_get (ci := 5) (C := RX5) (T := TX5) (N := 12) hx hb hts hw5 hown hK hP 0 rfl rfl 0 (by decide) hl1 (fun _ h9 => h9) rfl dX5_put_76 ?_
        refine lv_iconst (v := (4 : Int32)) hx hb dX5_put_79 (by decide) ?_
        refine va_iald hx hb hK hP 1 0 rfl rfl (kk_in 4 62 (by decide) (by decide) rfl) dX5_put_80 ?_
        obtain rfl := Option.some.inj hR
        exact kk_ret_i hC hr hlocks hK hP hD hS dX5_put_81 rfl
      · replace hR := (if_pos c6).symm.trans hR
        refine lv_aload_n hx hb dX5_put_52 rfl (lv_at hl 0 rfl) ?_
        refine lv_iconst (v := (3 : Int32)) hx hb dX5_put_53 (by decide) ?_
        obtain ⟨x10, hq10, hR⟩ := kk_bd_el hR
        refine kk_call_Vi (w' := (w_M g a x10.2)) (As := [.int (3 : Int32)]) (rest := []) 0 5 hC (sX5_fails l g n a M1 (3 : Int32) x10 hq10) (cwV 1 hts gX5_put_X5_fails rfl rfl rfl (by decide +kernel) ⟨Nat.le_of_ble_eq_true rfl, Nat.le_of_ble_eq_true rfl⟩) hK hP hD hS hA [0, 1, 2, 3, 4, 5, 6] rfl (by decide +kernel) rfl rfl rfl rfl rfl rfl rfl hl.1 (Nat.le_of_ble_eq_true rfl) dX5_put_54 (fun H locs hP hD hS => ?_)
        obtain rfl := Option.some.inj hR
        exact kk_ret_i hC hr hlocks hK hP hD hS dX5_put_57 rfl
    · replace hR := (if_pos c5).symm.trans hR
      refine lv_aload_n hx hb dX5_put_35 rfl (lv_at hl 0 rfl) ?_
      refine lv_iconst (v := (2 : Int32)) hx hb dX5_put_36 (by decide) ?_
      obtain ⟨x11, hq11, hR⟩ := kk_bd_el hR
      refine kk_call_Vi (w' := (w_M g a x11.2)) (As := [.int (2 : Int32)]) (rest := []) 0 5 hC (sX5_fails l g n a M1 (2 : Int32) x11 hq11) (cwV 1 hts gX5_put_X5_fails rfl rfl rfl (by decide +kernel) ⟨Nat.le_of_ble_eq_true rfl, Nat.le_of_ble_eq_true rfl⟩) hK hP hD hS hA [0, 1, 2, 3, 4, 5, 6] rfl (by decide +kernel) rfl rfl rfl rfl rfl rfl rfl hl.1 (Nat.le_of_ble_eq_true rfl) dX5_put_37 (fun H locs hP hD hS => ?_)
      obtain rfl := Option.some.inj hR
      exact kk_ret_i hC hr hlocks hK hP hD hS dX5_put_40 rfl
  · replace hR := (if_pos c3).symm.trans hR
    refine lv_aload_n hx hb dX5_put_19 rfl (lv_at hl 0 rfl) ?_
    refine lv_iconst (v := (1 : Int32)) hx hb dX5_put_20 (by decide) ?_
    obtain ⟨x12, hq12, hR⟩ := kk_bd_el hR
    refine kk_call_Vi (w' := (w_M g a x12.2)) (As := [.int (1 : Int32)]) (rest := []) 0 5 hC (sX5_fails l g n a M1 (1 : Int32) x12 hq12) (cwV 1 hts gX5_put_X5_fails rfl rfl rfl (by decide +kernel) ⟨Nat.le_of_ble_eq_true rfl, Nat.le_of_ble_eq_true rfl⟩) hK hP hD hS hA [0, 1, 2, 3, 4, 5, 6] rfl (by decide +kernel) rfl rfl rfl rfl rfl rfl rfl hl.1 (Nat.le_of_ble_eq_true rfl) dX5_put_21 (fun H locs hP hD hS => ?_)
    obtain rfl := Option.some.inj hR
    exact kk_ret_i hC hr hlocks hK hP hD hS dX5_put_24 rfl
set_option maxHeartbeats 8000000 in
set_option maxRecDepth 100000 in
theorem sX5_remove (l : Launch) (g : kG) (n : Nat) (a : Nat → Nat) (M : St1) (v1 : Int32) (r : Int32 × St1) (hR : fX5_remove n M v1 = some r) : kSp l g yX5_remove wsX5_remove ({ frames := 2, cells := 0, slots := 0, locals := 45 }) [.ref (a 0), .int v1] (w_M g a M) (kQi g (w_M g a r.2) r.1) := by
  refine kSp.of (cc := cX5_remove) (maxL := 2) (ret := (some .int)) (by decide) rfl (Nat.le_of_ble_eq_true rfl) ?_
  intro p e s m args below meth c ls A hC hr hlocks hA hK hl hP hD hS
  replace hC : CallFix p m c cX5_remove 2 s args wsX5_remove RX5 := hC
  obtain ⟨hx, hb, hml, hown, hts⟩ := id hC
  replace hl : lv_has ls 2 [(0, .ref (a 0)), (1, .int v1)] := hl
  unfold fX5_remove at hR
  have hw5 : ∀ w ∈ wsX50, w ∈ wsX5_remove := by decide +kernel
  have hl0 := hts (.fieldLink RX5 28 "FloatOrderModel" "thrown" "I") (by decide +kernel)
  have hl1 := hts (.fieldLink RX5 7 "FloatOrderModel" "now" "[I") (by decide +kernel)
  refine lv_aload_n hx hb dX5_remove_0 rfl (lv_at hl 0 rfl) ?_
  refine lv_iconst (v := (0 : Int32)) hx hb dX5_remove_1 (by decide) ?_
  obtain ⟨M1, eM1, hR⟩ := kk_nm_el hR
  refine kk_put (w' := (w_M g a M1)) (ci := 5) (C := RX5) (T := TX5) (N := 12) (ty := .int) (v := .int (0 : Int32)) hC hw5 tyX5 tyX5_ok nmX5 hK hP hD hS 0 rfl rfl 6 (by decide) hl0 rfl (by decide +kernel) rfl rfl (Nat.le_of_ble_eq_true rfl) (by rw [eM1]; rfl) dX5_remove_2 rfl (fun H locs hP hD hS => ?_)
  refine lv_aload_n hx hb dX5_remove_5 rfl (lv_at hl 0 rfl) ?_
  refine lv_iload_n hx hb dX5_remove_6 rfl (lv_at hl 1 rfl) ?_
  obtain ⟨x2, hq2, hR⟩ := kk_bd_el hR
  refine kk_call_Vi (w' := (w_M g a M1)) (As := [.int v1]) (rest := []) 0 5 hC (sX5_isFloat l g n a M1 v1 x2 hq2) (cwV 1 hts gX5_remove_X5_isFloat rfl rfl rfl (by decide +kernel) ⟨Nat.le_of_ble_eq_true rfl, Nat.le_of_ble_eq_true rfl⟩) hK hP hD hS hA [0, 1, 2, 3, 4, 5, 6] rfl (by decide +kernel) rfl rfl rfl rfl rfl rfl rfl hl.1 (Nat.le_of_ble_eq_true rfl) dX5_remove_7 (fun H locs hP hD hS => ?_)
  refine lv_if_ne (tgt := 19) hx hb dX5_remove_10 (by decide) (fun c3 => ?_) (fun c3 => ?_)
  · replace hR := (if_neg c3).symm.trans hR
    refine lv_aload_n hx hb dX5_remove_19 rfl (lv_at hl 0 rfl) ?_
    obtain ⟨x4, hq4, hR⟩ := kk_bd_el hR
    refine kk_call_Vv (w' := (w_M g a x4)) (As := []) (rest := []) 0 5 hC (sX5_saves l g n a M1  x4 hq4) (cwV 0 hts gX5_remove_X5_saves rfl rfl rfl (by decide +kernel) ⟨Nat.le_of_ble_eq_true rfl, Nat.le_of_ble_eq_true rfl⟩) hK hP hD hS hA [0, 1, 2, 3, 4, 5, 6] rfl (by decide +kernel) rfl rfl rfl rfl rfl rfl rfl hl.1 (Nat.le_of_ble_eq_true rfl) dX5_remove_20 (fun H locs hP hD hS => ?_)
    refine lv_aload_n hx hb dX5_remove_23 rfl (lv_at hl 0 rfl) ?_
    refine va_get (ci := 5) (C := RX5) (T := TX5) (N := 12) hx hb hts hw5 hown hK hP 0 rfl rfl 0 (by decide) hl1 (fun _ h9 => h9) rfl dX5_remove_24 ?_
    refine lv_iload_n hx hb dX5_remove_27 rfl (lv_at hl 1 rfl) ?_
    obtain ⟨x5, hq5, hR⟩ := kk_bd_el hR
    obtain ⟨M6, eM6, hR⟩ := kk_nm_el hR
    refine kk_call_Sv (w' := (w_M g a M6)) (As := [.ref (a 1), .int v1]) (rest := []) hC (sX5_goesOut l g n (a 1) (x4 0) v1 x5 hq5) (va_cwS 2 hts gX5_remove_X5_goesOut rfl rfl rfl (by decide +kernel) ⟨Nat.le_of_ble_eq_true rfl, Nat.le_of_ble_eq_true rfl⟩) hK hP hD hS hA [1] rfl (by decide +kernel) rfl (by rw [eM6]; rfl) rfl rfl hl.1 (Nat.le_of_ble_eq_true rfl) dX5_remove_28 (fun H locs hP hD hS => ?_)
    refine lv_aload_n hx hb dX5_remove_31 rfl (lv_at hl 0 rfl) ?_
    refine va_get (ci := 5) (C := RX5) (T := TX5) (N := 12) hx hb hts hw5 hown hK hP 0 rfl rfl 0 (by decide) hl1 (fun _ h9 => h9) rfl dX5_remove_32 ?_
    refine lv_iconst (v := (4 : Int32)) hx hb dX5_remove_35 (by decide) ?_
    refine va_iald hx hb hK hP 1 0 rfl rfl (kk_in 4 62 (by decide) (by decide) rfl) dX5_remove_36 ?_
    obtain rfl := Option.some.inj hR
    exact kk_ret_i hC hr hlocks hK hP hD hS dX5_remove_37 rfl
  · replace hR := (if_pos c3).symm.trans hR
    refine lv_aload_n hx hb dX5_remove_13 rfl (lv_at hl 0 rfl) ?_
    refine lv_iconst (v := (1 : Int32)) hx hb dX5_remove_14 (by decide) ?_
    obtain ⟨x7, hq7, hR⟩ := kk_bd_el hR
    refine kk_call_Vi (w' := (w_M g a x7.2)) (As := [.int (1 : Int32)]) (rest := []) 0 5 hC (sX5_fails l g n a M1 (1 : Int32) x7 hq7) (cwV 1 hts gX5_remove_X5_fails rfl rfl rfl (by decide +kernel) ⟨Nat.le_of_ble_eq_true rfl, Nat.le_of_ble_eq_true rfl⟩) hK hP hD hS hA [0, 1, 2, 3, 4, 5, 6] rfl (by decide +kernel) rfl rfl rfl rfl rfl rfl rfl hl.1 (Nat.le_of_ble_eq_true rfl) dX5_remove_15 (fun H locs hP hD hS => ?_)
    obtain rfl := Option.some.inj hR
    exact kk_ret_i hC hr hlocks hK hP hD hS dX5_remove_18 rfl
set_option maxHeartbeats 8000000 in
set_option maxRecDepth 100000 in
theorem sX5_move (l : Launch) (g : kG) (n : Nat) (a : Nat → Nat) (M : St1) (v1 : Int32) (v2 : Int32) (r : Int32 × St1) (hR : fX5_move n M v1 v2 = some r) : kSp l g yX5_move wsX5_move ({ frames := 4, cells := 0, slots := 0, locals := 90 }) [.ref (a 0), .int v1, .int v2] (w_M g a M) (kQi g (w_M g a r.2) r.1) := by
  refine kSp.of (cc := cX5_move) (maxL := 3) (ret := (some .int)) (by decide) rfl (Nat.le_of_ble_eq_true rfl) ?_
  intro p e s m args below meth c ls A hC hr hlocks hA hK hl hP hD hS
  replace hC : CallFix p m c cX5_move 3 s args wsX5_move RX5 := hC
  obtain ⟨hx, hb, hml, hown, hts⟩ := id hC
  replace hl : lv_has ls 3 [(0, .ref (a 0)), (1, .int v1), (2, .int v2)] := hl
  unfold fX5_move at hR
  have hw5 : ∀ w ∈ wsX50, w ∈ wsX5_move := by decide +kernel
  have hl0 := hts (.fieldLink RX5 28 "FloatOrderModel" "thrown" "I") (by decide +kernel)
  have hl1 := hts (.fieldLink RX5 7 "FloatOrderModel" "now" "[I") (by decide +kernel)
  refine lv_aload_n hx hb dX5_move_0 rfl (lv_at hl 0 rfl) ?_
  refine lv_iconst (v := (0 : Int32)) hx hb dX5_move_1 (by decide) ?_
  obtain ⟨M1, eM1, hR⟩ := kk_nm_el hR
  refine kk_put (w' := (w_M g a M1)) (ci := 5) (C := RX5) (T := TX5) (N := 12) (ty := .int) (v := .int (0 : Int32)) hC hw5 tyX5 tyX5_ok nmX5 hK hP hD hS 0 rfl rfl 6 (by decide) hl0 rfl (by decide +kernel) rfl rfl (Nat.le_of_ble_eq_true rfl) (by rw [eM1]; rfl) dX5_move_2 rfl (fun H locs hP hD hS => ?_)
  refine lv_aload_n hx hb dX5_move_5 rfl (lv_at hl 0 rfl) ?_
  refine lv_iload_n hx hb dX5_move_6 rfl (lv_at hl 1 rfl) ?_
  obtain ⟨x2, hq2, hR⟩ := kk_bd_el hR
  refine kk_call_Vi (w' := (w_M g a M1)) (As := [.int v1]) (rest := []) 0 5 hC (sX5_isFloat l g n a M1 v1 x2 hq2) (cwV 1 hts gX5_move_X5_isFloat rfl rfl rfl (by decide +kernel) ⟨Nat.le_of_ble_eq_true rfl, Nat.le_of_ble_eq_true rfl⟩) hK hP hD hS hA [0, 1, 2, 3, 4, 5, 6] rfl (by decide +kernel) rfl rfl rfl rfl rfl rfl rfl hl.1 (Nat.le_of_ble_eq_true rfl) dX5_move_7 (fun H locs hP hD hS => ?_)
  refine lv_if_eq (tgt := 21) hx hb dX5_move_10 (by decide) (fun c3 => ?_) (fun c3 => ?_)
  · replace hR := (if_pos c3).symm.trans hR
    refine lv_aload_n hx hb dX5_move_21 rfl (lv_at hl 0 rfl) ?_
    refine lv_iconst (v := (1 : Int32)) hx hb dX5_move_22 (by decide) ?_
    obtain ⟨x4, hq4, hR⟩ := kk_bd_el hR
    refine kk_call_Vi (w' := (w_M g a x4.2)) (As := [.int (1 : Int32)]) (rest := []) 0 5 hC (sX5_fails l g n a M1 (1 : Int32) x4 hq4) (cwV 1 hts gX5_move_X5_fails rfl rfl rfl (by decide +kernel) ⟨Nat.le_of_ble_eq_true rfl, Nat.le_of_ble_eq_true rfl⟩) hK hP hD hS hA [0, 1, 2, 3, 4, 5, 6] rfl (by decide +kernel) rfl rfl rfl rfl rfl rfl rfl hl.1 (Nat.le_of_ble_eq_true rfl) dX5_move_23 (fun H locs hP hD hS => ?_)
    obtain rfl := Option.some.inj hR
    exact kk_ret_i hC hr hlocks hK hP hD hS dX5_move_26 rfl
  · replace hR := (if_neg c3).symm.trans hR
    refine lv_aload_n hx hb dX5_move_13 rfl (lv_at hl 0 rfl) ?_
    refine lv_iload_n hx hb dX5_move_14 rfl (lv_at hl 2 rfl) ?_
    obtain ⟨x5, hq5, hR⟩ := kk_bd_el hR
    refine kk_call_Vi (w' := (w_M g a M1)) (As := [.int v2]) (rest := []) 0 5 hC (sX5_isFloat l g n a M1 v2 x5 hq5) (cwV 1 hts gX5_move_X5_isFloat rfl rfl rfl (by decide +kernel) ⟨Nat.le_of_ble_eq_true rfl, Nat.le_of_ble_eq_true rfl⟩) hK hP hD hS hA [0, 1, 2, 3, 4, 5, 6] rfl (by decide +kernel) rfl rfl rfl rfl rfl rfl rfl hl.1 (Nat.le_of_ble_eq_true rfl) dX5_move_15 (fun H locs hP hD hS => ?_)
    refine lv_if_ne (tgt := 27) hx hb dX5_move_18 (by decide) (fun c6 => ?_) (fun c6 => ?_)
    · replace hR := (if_neg c6).symm.trans hR
      refine lv_aload_n hx hb dX5_move_27 rfl (lv_at hl 0 rfl) ?_
      obtain ⟨x7, hq7, hR⟩ := kk_bd_el hR
      refine kk_call_Vv (w' := (w_M g a x7)) (As := []) (rest := []) 0 5 hC (sX5_saves l g n a M1  x7 hq7) (cwV 0 hts gX5_move_X5_saves rfl rfl rfl (by decide +kernel) ⟨Nat.le_of_ble_eq_true rfl, Nat.le_of_ble_eq_true rfl⟩) hK hP hD hS hA [0, 1, 2, 3, 4, 5, 6] rfl (by decide +kernel) rfl rfl rfl rfl rfl rfl rfl hl.1 (Nat.le_of_ble_eq_true rfl) dX5_move_28 (fun H locs hP hD hS => ?_)
      refine lv_aload_n hx hb dX5_move_31 rfl (lv_at hl 0 rfl) ?_
      refine va_get (ci := 5) (C := RX5) (T := TX5) (N := 12) hx hb hts hw5 hown hK hP 0 rfl rfl 0 (by decide) hl1 (fun _ h9 => h9) rfl dX5_move_32 ?_
      refine lv_iload_n hx hb dX5_move_35 rfl (lv_at hl 1 rfl) ?_
      refine lv_iload_n hx hb dX5_move_36 rfl (lv_at hl 2 rfl) ?_
      obtain ⟨x8, hq8, hR⟩ := kk_bd_el hR
      obtain ⟨M9, eM9, hR⟩ := kk_nm_el hR
      refine kk_call_Sv (w' := (w_M g a M9)) (As := [.ref (a 1), .int v1, .int v2]) (rest := []) hC (sX5_moves l g n (a 1) (x7 0) v1 v2 x8 hq8) (va_cwS 3 hts gX5_move_X5_moves rfl rfl rfl (by decide +kernel) ⟨Nat.le_of_ble_eq_true rfl, Nat.le_of_ble_eq_true rfl⟩) hK hP hD hS hA [1] rfl (by decide +kernel) rfl (by rw [eM9]; rfl) rfl rfl hl.1 (Nat.le_of_ble_eq_true rfl) dX5_move_37 (fun H locs hP hD hS => ?_)
      refine lv_aload_n hx hb dX5_move_40 rfl (lv_at hl 0 rfl) ?_
      refine va_get (ci := 5) (C := RX5) (T := TX5) (N := 12) hx hb hts hw5 hown hK hP 0 rfl rfl 0 (by decide) hl1 (fun _ h9 => h9) rfl dX5_move_41 ?_
      obtain ⟨x10, hq10, hR⟩ := kk_bd_el hR
      refine kk_call_Si (w' := (w_M g a M9)) (As := [.ref (a 1)]) (rest := []) hC (sX5_allTrouble l g n (a 1) (M9 0)  x10 hq10) (va_cwS 1 hts gX5_move_X5_allTrouble rfl rfl rfl (by decide +kernel) ⟨Nat.le_of_ble_eq_true rfl, Nat.le_of_ble_eq_true rfl⟩) hK hP hD hS hA [1] rfl (by decide +kernel) rfl rfl rfl rfl hl.1 (Nat.le_of_ble_eq_true rfl) dX5_move_44 (fun H locs hP hD hS => ?_)
      obtain rfl := Option.some.inj hR
      exact kk_ret_i hC hr hlocks hK hP hD hS dX5_move_47 rfl
    · replace hR := (if_pos c6).symm.trans hR
      refine lv_aload_n hx hb dX5_move_21 rfl (lv_at hl 0 rfl) ?_
      refine lv_iconst (v := (1 : Int32)) hx hb dX5_move_22 (by decide) ?_
      obtain ⟨x11, hq11, hR⟩ := kk_bd_el hR
      refine kk_call_Vi (w' := (w_M g a x11.2)) (As := [.int (1 : Int32)]) (rest := []) 0 5 hC (sX5_fails l g n a M1 (1 : Int32) x11 hq11) (cwV 1 hts gX5_move_X5_fails rfl rfl rfl (by decide +kernel) ⟨Nat.le_of_ble_eq_true rfl, Nat.le_of_ble_eq_true rfl⟩) hK hP hD hS hA [0, 1, 2, 3, 4, 5, 6] rfl (by decide +kernel) rfl rfl rfl rfl rfl rfl rfl hl.1 (Nat.le_of_ble_eq_true rfl) dX5_move_23 (fun H locs hP hD hS => ?_)
      obtain rfl := Option.some.inj hR
      exact kk_ret_i hC hr hlocks hK hP hD hS dX5_move_26 rfl
set_option maxHeartbeats 8000000 in
set_option maxRecDepth 100000 in
theorem sX5_exchange (l : Launch) (g : kG) (n : Nat) (a : Nat → Nat) (M : St1) (v1 : Int32) (v2 : Int32) (r : Int32 × St1) (hR : fX5_exchange n M v1 v2 = some r) : kSp l g yX5_exchange wsX5_exchange ({ frames := 4, cells := 0, slots := 0, locals := 90 }) [.ref (a 0), .int v1, .int v2] (w_M g a M) (kQi g (w_M g a r.2) r.1) := by
  refine kSp.of (cc := cX5_exchange) (maxL := 3) (ret := (some .int)) (by decide) rfl (Nat.le_of_ble_eq_true rfl) ?_
  intro p e s m args below meth c ls A hC hr hlocks hA hK hl hP hD hS
  replace hC : CallFix p m c cX5_exchange 3 s args wsX5_exchange RX5 := hC
  obtain ⟨hx, hb, hml, hown, hts⟩ := id hC
  replace hl : lv_has ls 3 [(0, .ref (a 0)), (1, .int v1), (2, .int v2)] := hl
  unfold fX5_exchange at hR
  have hw5 : ∀ w ∈ wsX50, w ∈ wsX5_exchange := by decide +kernel
  have hl0 := hts (.fieldLink RX5 28 "FloatOrderModel" "thrown" "I") (by decide +kernel)
  have hl1 := hts (.fieldLink RX5 7 "FloatOrderModel" "now" "[I") (by decide +kernel)
  refine lv_aload_n hx hb dX5_exchange_0 rfl (lv_at hl 0 rfl) ?_
  refine lv_iconst (v := (0 : Int32)) hx hb dX5_exchange_1 (by decide) ?_
  obtain ⟨M1, eM1, hR⟩ := kk_nm_el hR
  refine kk_put (w' := (w_M g a M1)) (ci := 5) (C := RX5) (T := TX5) (N := 12) (ty := .int) (v := .int (0 : Int32)) hC hw5 tyX5 tyX5_ok nmX5 hK hP hD hS 0 rfl rfl 6 (by decide) hl0 rfl (by decide +kernel) rfl rfl (Nat.le_of_ble_eq_true rfl) (by rw [eM1]; rfl) dX5_exchange_2 rfl (fun H locs hP hD hS => ?_)
  refine lv_aload_n hx hb dX5_exchange_5 rfl (lv_at hl 0 rfl) ?_
  refine lv_iload_n hx hb dX5_exchange_6 rfl (lv_at hl 1 rfl) ?_
  obtain ⟨x2, hq2, hR⟩ := kk_bd_el hR
  refine kk_call_Vi (w' := (w_M g a M1)) (As := [.int v1]) (rest := []) 0 5 hC (sX5_isFloat l g n a M1 v1 x2 hq2) (cwV 1 hts gX5_exchange_X5_isFloat rfl rfl rfl (by decide +kernel) ⟨Nat.le_of_ble_eq_true rfl, Nat.le_of_ble_eq_true rfl⟩) hK hP hD hS hA [0, 1, 2, 3, 4, 5, 6] rfl (by decide +kernel) rfl rfl rfl rfl rfl rfl rfl hl.1 (Nat.le_of_ble_eq_true rfl) dX5_exchange_7 (fun H locs hP hD hS => ?_)
  refine lv_if_eq (tgt := 21) hx hb dX5_exchange_10 (by decide) (fun c3 => ?_) (fun c3 => ?_)
  · replace hR := (if_pos c3).symm.trans hR
    refine lv_aload_n hx hb dX5_exchange_21 rfl (lv_at hl 0 rfl) ?_
    refine lv_iconst (v := (1 : Int32)) hx hb dX5_exchange_22 (by decide) ?_
    obtain ⟨x4, hq4, hR⟩ := kk_bd_el hR
    refine kk_call_Vi (w' := (w_M g a x4.2)) (As := [.int (1 : Int32)]) (rest := []) 0 5 hC (sX5_fails l g n a M1 (1 : Int32) x4 hq4) (cwV 1 hts gX5_exchange_X5_fails rfl rfl rfl (by decide +kernel) ⟨Nat.le_of_ble_eq_true rfl, Nat.le_of_ble_eq_true rfl⟩) hK hP hD hS hA [0, 1, 2, 3, 4, 5, 6] rfl (by decide +kernel) rfl rfl rfl rfl rfl rfl rfl hl.1 (Nat.le_of_ble_eq_true rfl) dX5_exchange_23 (fun H locs hP hD hS => ?_)
    obtain rfl := Option.some.inj hR
    exact kk_ret_i hC hr hlocks hK hP hD hS dX5_exchange_26 rfl
  · replace hR := (if_neg c3).symm.trans hR
    refine lv_aload_n hx hb dX5_exchange_13 rfl (lv_at hl 0 rfl) ?_
    refine lv_iload_n hx hb dX5_exchange_14 rfl (lv_at hl 2 rfl) ?_
    obtain ⟨x5, hq5, hR⟩ := kk_bd_el hR
    refine kk_call_Vi (w' := (w_M g a M1)) (As := [.int v2]) (rest := []) 0 5 hC (sX5_isFloat l g n a M1 v2 x5 hq5) (cwV 1 hts gX5_exchange_X5_isFloat rfl rfl rfl (by decide +kernel) ⟨Nat.le_of_ble_eq_true rfl, Nat.le_of_ble_eq_true rfl⟩) hK hP hD hS hA [0, 1, 2, 3, 4, 5, 6] rfl (by decide +kernel) rfl rfl rfl rfl rfl rfl rfl hl.1 (Nat.le_of_ble_eq_true rfl) dX5_exchange_15 (fun H locs hP hD hS => ?_)
    refine lv_if_ne (tgt := 27) hx hb dX5_exchange_18 (by decide) (fun c6 => ?_) (fun c6 => ?_)
    · replace hR := (if_neg c6).symm.trans hR
      refine lv_aload_n hx hb dX5_exchange_27 rfl (lv_at hl 0 rfl) ?_
      obtain ⟨x7, hq7, hR⟩ := kk_bd_el hR
      refine kk_call_Vv (w' := (w_M g a x7)) (As := []) (rest := []) 0 5 hC (sX5_saves l g n a M1  x7 hq7) (cwV 0 hts gX5_exchange_X5_saves rfl rfl rfl (by decide +kernel) ⟨Nat.le_of_ble_eq_true rfl, Nat.le_of_ble_eq_true rfl⟩) hK hP hD hS hA [0, 1, 2, 3, 4, 5, 6] rfl (by decide +kernel) rfl rfl rfl rfl rfl rfl rfl hl.1 (Nat.le_of_ble_eq_true rfl) dX5_exchange_28 (fun H locs hP hD hS => ?_)
      refine lv_aload_n hx hb dX5_exchange_31 rfl (lv_at hl 0 rfl) ?_
      refine va_get (ci := 5) (C := RX5) (T := TX5) (N := 12) hx hb hts hw5 hown hK hP 0 rfl rfl 0 (by decide) hl1 (fun _ h9 => h9) rfl dX5_exchange_32 ?_
      refine lv_iload_n hx hb dX5_exchange_35 rfl (lv_at hl 1 rfl) ?_
      refine lv_iload_n hx hb dX5_exchange_36 rfl (lv_at hl 2 rfl) ?_
      obtain ⟨x8, hq8, hR⟩ := kk_bd_el hR
      obtain ⟨M9, eM9, hR⟩ := kk_nm_el hR
      refine kk_call_Sv (w' := (w_M g a M9)) (As := [.ref (a 1), .int v1, .int v2]) (rest := []) hC (sX5_exchanges l g n (a 1) (x7 0) v1 v2 x8 hq8) (va_cwS 3 hts gX5_exchange_X5_exchanges rfl rfl rfl (by decide +kernel) ⟨Nat.le_of_ble_eq_true rfl, Nat.le_of_ble_eq_true rfl⟩) hK hP hD hS hA [1] rfl (by decide +kernel) rfl (by rw [eM9]; rfl) rfl rfl hl.1 (Nat.le_of_ble_eq_true rfl) dX5_exchange_37 (fun H locs hP hD hS => ?_)
      refine lv_aload_n hx hb dX5_exchange_40 rfl (lv_at hl 0 rfl) ?_
      refine va_get (ci := 5) (C := RX5) (T := TX5) (N := 12) hx hb hts hw5 hown hK hP 0 rfl rfl 0 (by decide) hl1 (fun _ h9 => h9) rfl dX5_exchange_41 ?_
      obtain ⟨x10, hq10, hR⟩ := kk_bd_el hR
      refine kk_call_Si (w' := (w_M g a M9)) (As := [.ref (a 1)]) (rest := []) hC (sX5_allTrouble l g n (a 1) (M9 0)  x10 hq10) (va_cwS 1 hts gX5_exchange_X5_allTrouble rfl rfl rfl (by decide +kernel) ⟨Nat.le_of_ble_eq_true rfl, Nat.le_of_ble_eq_true rfl⟩) hK hP hD hS hA [1] rfl (by decide +kernel) rfl rfl rfl rfl hl.1 (Nat.le_of_ble_eq_true rfl) dX5_exchange_44 (fun H locs hP hD hS => ?_)
      obtain rfl := Option.some.inj hR
      exact kk_ret_i hC hr hlocks hK hP hD hS dX5_exchange_47 rfl
    · replace hR := (if_pos c6).symm.trans hR
      refine lv_aload_n hx hb dX5_exchange_21 rfl (lv_at hl 0 rfl) ?_
      refine lv_iconst (v := (1 : Int32)) hx hb dX5_exchange_22 (by decide) ?_
      obtain ⟨x11, hq11, hR⟩ := kk_bd_el hR
      refine kk_call_Vi (w' := (w_M g a x11.2)) (As := [.int (1 : Int32)]) (rest := []) 0 5 hC (sX5_fails l g n a M1 (1 : Int32) x11 hq11) (cwV 1 hts gX5_exchange_X5_fails rfl rfl rfl (by decide +kernel) ⟨Nat.le_of_ble_eq_true rfl, Nat.le_of_ble_eq_true rfl⟩) hK hP hD hS hA [0, 1, 2, 3, 4, 5, 6] rfl (by decide +kernel) rfl rfl rfl rfl rfl rfl rfl hl.1 (Nat.le_of_ble_eq_true rfl) dX5_exchange_23 (fun H locs hP hD hS => ?_)
      obtain rfl := Option.some.inj hR
      exact kk_ret_i hC hr hlocks hK hP hD hS dX5_exchange_26 rfl
set_option maxHeartbeats 8000000 in
set_option maxRecDepth 100000 in
theorem sX5_fold (l : Launch) (g : kG) (n : Nat) (a : Nat → Nat) (M : St1) (v1 : Int32) (v2 : Int32) (r : Int32 × St1) (hR : fX5_fold n M v1 v2 = some r) : kSp l g yX5_fold wsX5_fold ({ frames := 2, cells := 0, slots := 0, locals := 45 }) [.ref (a 0), .int v1, .int v2] (w_M g a M) (kQi g (w_M g a r.2) r.1) := by
  refine kSp.of (cc := cX5_fold) (maxL := 3) (ret := (some .int)) (by decide) rfl (Nat.le_of_ble_eq_true rfl) ?_
  intro p e s m args below meth c ls A hC hr hlocks hA hK hl hP hD hS
  replace hC : CallFix p m c cX5_fold 3 s args wsX5_fold RX5 := hC
  obtain ⟨hx, hb, hml, hown, hts⟩ := id hC
  replace hl : lv_has ls 3 [(0, .ref (a 0)), (1, .int v1), (2, .int v2)] := hl
  unfold fX5_fold at hR
  have hw5 : ∀ w ∈ wsX50, w ∈ wsX5_fold := by decide +kernel
  have hl0 := hts (.fieldLink RX5 28 "FloatOrderModel" "thrown" "I") (by decide +kernel)
  have hl1 := hts (.fieldLink RX5 7 "FloatOrderModel" "now" "[I") (by decide +kernel)
  refine lv_aload_n hx hb dX5_fold_0 rfl (lv_at hl 0 rfl) ?_
  refine lv_iconst (v := (0 : Int32)) hx hb dX5_fold_1 (by decide) ?_
  obtain ⟨M1, eM1, hR⟩ := kk_nm_el hR
  refine kk_put (w' := (w_M g a M1)) (ci := 5) (C := RX5) (T := TX5) (N := 12) (ty := .int) (v := .int (0 : Int32)) hC hw5 tyX5 tyX5_ok nmX5 hK hP hD hS 0 rfl rfl 6 (by decide) hl0 rfl (by decide +kernel) rfl rfl (Nat.le_of_ble_eq_true rfl) (by rw [eM1]; rfl) dX5_fold_2 rfl (fun H locs hP hD hS => ?_)
  refine lv_aload_n hx hb dX5_fold_5 rfl (lv_at hl 0 rfl) ?_
  refine lv_iload_n hx hb dX5_fold_6 rfl (lv_at hl 1 rfl) ?_
  obtain ⟨x2, hq2, hR⟩ := kk_bd_el hR
  refine kk_call_Vi (w' := (w_M g a M1)) (As := [.int v1]) (rest := []) 0 5 hC (sX5_isFloat l g n a M1 v1 x2 hq2) (cwV 1 hts gX5_fold_X5_isFloat rfl rfl rfl (by decide +kernel) ⟨Nat.le_of_ble_eq_true rfl, Nat.le_of_ble_eq_true rfl⟩) hK hP hD hS hA [0, 1, 2, 3, 4, 5, 6] rfl (by decide +kernel) rfl rfl rfl rfl rfl rfl rfl hl.1 (Nat.le_of_ble_eq_true rfl) dX5_fold_7 (fun H locs hP hD hS => ?_)
  refine lv_if_ne (tgt := 19) hx hb dX5_fold_10 (by decide) (fun c3 => ?_) (fun c3 => ?_)
  · replace hR := (if_neg c3).symm.trans hR
    refine lv_aload_n hx hb dX5_fold_19 rfl (lv_at hl 0 rfl) ?_
    obtain ⟨x4, hq4, hR⟩ := kk_bd_el hR
    refine kk_call_Vv (w' := (w_M g a x4)) (As := []) (rest := []) 0 5 hC (sX5_saves l g n a M1  x4 hq4) (cwV 0 hts gX5_fold_X5_saves rfl rfl rfl (by decide +kernel) ⟨Nat.le_of_ble_eq_true rfl, Nat.le_of_ble_eq_true rfl⟩) hK hP hD hS hA [0, 1, 2, 3, 4, 5, 6] rfl (by decide +kernel) rfl rfl rfl rfl rfl rfl rfl hl.1 (Nat.le_of_ble_eq_true rfl) dX5_fold_20 (fun H locs hP hD hS => ?_)
    refine lv_aload_n hx hb dX5_fold_23 rfl (lv_at hl 0 rfl) ?_
    refine va_get (ci := 5) (C := RX5) (T := TX5) (N := 12) hx hb hts hw5 hown hK hP 0 rfl rfl 0 (by decide) hl1 (fun _ h9 => h9) rfl dX5_fold_24 ?_
    refine lv_bipush (v := (14 : Int32)) hx hb dX5_fold_27 (by decide) ?_
    refine lv_iconst (v := (4 : Int32)) hx hb dX5_fold_29 (by decide) ?_
    refine lv_iload_n hx hb dX5_fold_30 rfl (lv_at hl 1 rfl) ?_
    refine lv_imul hx hb dX5_fold_31 ?_
    refine lv_iadd hx hb dX5_fold_32 ?_
    refine lv_iconst (v := (3 : Int32)) hx hb dX5_fold_33 (by decide) ?_
    refine lv_iadd hx hb dX5_fold_34 ?_
    refine lv_iload_n hx hb dX5_fold_35 rfl (lv_at hl 2 rfl) ?_
    obtain ⟨x6, hq6, hR⟩ := kk_bd_el hR
    refine kk_cut (g := g) (A := A) (w' := (w_M g a x4)) (nL := 3) (lv := [(0, .ref (a 0)), (1, .int v1)]) (pcJ := 44) (st := [.int x6, .int (((14 : Int32) + ((4 : Int32) * v1)) + (3 : Int32)), .ref (a 1)]) (fun H locs ls hP hD hS hl => ?_) (fun hj6 => ?_)
    · obtain ⟨hi9, hR⟩ := kk_ck_el hR
      obtain ⟨M8, eM8, hR⟩ := kk_nm_el hR
      refine kk_iast (w' := (w_M g a M8)) hC hK hP hD hS 1 rfl hi9 (by rw [eM8]; rfl) dX5_fold_44 (fun H locs hP hD hS => ?_)
      refine lv_aload_n hx hb dX5_fold_45 rfl (lv_at hl 0 rfl) ?_
      refine va_get (ci := 5) (C := RX5) (T := TX5) (N := 12) hx hb hts hw5 hown hK hP 0 rfl rfl 0 (by decide) hl1 (fun _ h9 => h9) rfl dX5_fold_46 ?_
      refine lv_iload_n hx hb dX5_fold_49 rfl (lv_at hl 1 rfl) ?_
      obtain ⟨x10, hq10, hR⟩ := kk_bd_el hR
      refine kk_call_Si (w' := (w_M g a M8)) (As := [.ref (a 1), .int v1]) (rest := []) hC (sX5_high l g n (a 1) (M8 0) v1 x10 hq10) (va_cwS 2 hts gX5_fold_X5_high rfl rfl rfl (by decide +kernel) ⟨Nat.le_of_ble_eq_true rfl, Nat.le_of_ble_eq_true rfl⟩) hK hP hD hS hA [1] rfl (by decide +kernel) rfl rfl rfl rfl hl.1 (Nat.le_of_ble_eq_true rfl) dX5_fold_50 (fun H locs hP hD hS => ?_)
      obtain rfl := Option.some.inj hR
      exact kk_ret_i hC hr hlocks hK hP hD hS dX5_fold_53 rfl
    replace hR := hq6
    refine lv_if_eq (tgt := 43) hx hb dX5_fold_36 (by decide) (fun c7 => ?_) (fun c7 => ?_)
    · replace hR := (if_pos c7).symm.trans hR
      refine lv_iconst (v := (0 : Int32)) hx hb dX5_fold_43 (by decide) ?_
      obtain rfl := Option.some.inj hR
      exact hj6 _ _ _ hP hD hS (lv_sub hl [0, 1] rfl)
    · replace hR := (if_neg c7).symm.trans hR
      refine lv_iconst (v := (1 : Int32)) hx hb dX5_fold_39 (by decide) ?_
      refine lv_goto (tgt := 44) hx hb dX5_fold_40 (by decide) ?_
      obtain rfl := Option.some.inj hR
      exact hj6 _ _ _ hP hD hS (lv_sub hl [0, 1] rfl)
  · replace hR := (if_pos c3).symm.trans hR
    refine lv_aload_n hx hb dX5_fold_13 rfl (lv_at hl 0 rfl) ?_
    refine lv_iconst (v := (1 : Int32)) hx hb dX5_fold_14 (by decide) ?_
    obtain ⟨x11, hq11, hR⟩ := kk_bd_el hR
    refine kk_call_Vi (w' := (w_M g a x11.2)) (As := [.int (1 : Int32)]) (rest := []) 0 5 hC (sX5_fails l g n a M1 (1 : Int32) x11 hq11) (cwV 1 hts gX5_fold_X5_fails rfl rfl rfl (by decide +kernel) ⟨Nat.le_of_ble_eq_true rfl, Nat.le_of_ble_eq_true rfl⟩) hK hP hD hS hA [0, 1, 2, 3, 4, 5, 6] rfl (by decide +kernel) rfl rfl rfl rfl rfl rfl rfl hl.1 (Nat.le_of_ble_eq_true rfl) dX5_fold_15 (fun H locs hP hD hS => ?_)
    obtain rfl := Option.some.inj hR
    exact kk_ret_i hC hr hlocks hK hP hD hS dX5_fold_18 rfl
set_option maxHeartbeats 8000000 in
set_option maxRecDepth 100000 in
theorem sX5_arrange (l : Launch) (g : kG) (n : Nat) (a : Nat → Nat) (M : St1) (r : Int32 × St1) (hR : fX5_arrange n M = some r) : kSp l g yX5_arrange wsX5_arrange ({ frames := 6, cells := 0, slots := 0, locals := 145 }) [.ref (a 0)] (w_M g a M) (kQi g (w_M g a r.2) r.1) := by
  refine kSp.of (cc := cX5_arrange) (maxL := 3) (ret := (some .int)) (by decide) rfl (Nat.le_of_ble_eq_true rfl) ?_
  intro p e s m args below meth c ls A hC hr hlocks hA hK hl hP hD hS
  replace hC : CallFix p m c cX5_arrange 3 s args wsX5_arrange RX5 := hC
  obtain ⟨hx, hb, hml, hown, hts⟩ := id hC
  replace hl : lv_has ls 3 [(0, .ref (a 0))] := hl
  unfold fX5_arrange at hR
  have hw5 : ∀ w ∈ wsX50, w ∈ wsX5_arrange := by decide +kernel
  have hl0 := hts (.fieldLink RX5 28 "FloatOrderModel" "thrown" "I") (by decide +kernel)
  have hl1 := hts (.fieldLink RX5 7 "FloatOrderModel" "now" "[I") (by decide +kernel)
  refine lv_aload_n hx hb dX5_arrange_0 rfl (lv_at hl 0 rfl) ?_
  refine lv_iconst (v := (0 : Int32)) hx hb dX5_arrange_1 (by decide) ?_
  obtain ⟨M1, eM1, hR⟩ := kk_nm_el hR
  refine kk_put (w' := (w_M g a M1)) (ci := 5) (C := RX5) (T := TX5) (N := 12) (ty := .int) (v := .int (0 : Int32)) hC hw5 tyX5 tyX5_ok nmX5 hK hP hD hS 0 rfl rfl 6 (by decide) hl0 rfl (by decide +kernel) rfl rfl (Nat.le_of_ble_eq_true rfl) (by rw [eM1]; rfl) dX5_arrange_2 rfl (fun H locs hP hD hS => ?_)
  refine lv_aload_n hx hb dX5_arrange_5 rfl (lv_at hl 0 rfl) ?_
  obtain ⟨x2, hq2, hR⟩ := kk_bd_el hR
  refine kk_call_Vv (w' := (w_M g a x2)) (As := []) (rest := []) 0 5 hC (sX5_saves l g n a M1  x2 hq2) (cwV 0 hts gX5_arrange_X5_saves rfl rfl rfl (by decide +kernel) ⟨Nat.le_of_ble_eq_true rfl, Nat.le_of_ble_eq_true rfl⟩) hK hP hD hS hA [0, 1, 2, 3, 4, 5, 6] rfl (by decide +kernel) rfl rfl rfl rfl rfl rfl rfl hl.1 (Nat.le_of_ble_eq_true rfl) dX5_arrange_6 (fun H locs hP hD hS => ?_)
  refine lv_iconst (v := (0 : Int32)) hx hb dX5_arrange_9 (by decide) ?_
  refine lv_istore_n (lv' := [(1, .int (0 : Int32)), (0, .ref (a 0))]) hx hb dX5_arrange_10 rfl hl (by decide) rfl (fun ls hl => ?_)
  refine lv_aload_n hx hb dX5_arrange_11 rfl (lv_at hl 1 rfl) ?_
  obtain ⟨x3, hq3, hR⟩ := kk_bd_el hR
  refine kk_call_Vi (w' := (w_M g a x3.2)) (As := []) (rest := []) 0 5 hC (sX5_bestExchange l g n a x2  x3 hq3) (cwV 0 hts gX5_arrange_X5_bestExchange rfl rfl rfl (by decide +kernel) ⟨Nat.le_of_ble_eq_true rfl, Nat.le_of_ble_eq_true rfl⟩) hK hP hD hS hA [0, 1, 2, 3, 4, 5, 6] rfl (by decide +kernel) rfl rfl rfl rfl rfl rfl rfl hl.1 (Nat.le_of_ble_eq_true rfl) dX5_arrange_12 (fun H locs hP hD hS => ?_)
  refine lv_istore_n (lv' := [(2, .int x3.1), (1, .int (0 : Int32)), (0, .ref (a 0))]) hx hb dX5_arrange_15 rfl hl (by decide) rfl (fun ls hl => ?_)
  obtain ⟨x15, hq15, hR⟩ := kk_bd_el hR
  refine kk_cut (g := g) (A := A) (w' := (w_M g a x15.2)) (nL := 3) (lv := [(1, .int x15.1)]) (pcJ := 47) (st := []) (fun H locs ls hP hD hS hl => ?_) (fun hj15 => ?_)
  · refine lv_iload_n hx hb dX5_arrange_47 rfl (lv_at hl 0 rfl) ?_
    obtain rfl := Option.some.inj hR
    exact kk_ret_i hC hr hlocks hK hP hD hS dX5_arrange_48 rfl
  refine kk_loop (g := g) (A := A) (fun (st : Int32 × Int32 × St1) => (w_M g a st.2.2)) (fun (st : Int32 × Int32 × St1) => [(2, .int st.2.1), (1, .int st.1), (0, .ref (a 0))]) 16 (nL := 3) hq15 (fun st xb14 hR ih1 hX1 => ?_) hP hD hS (lv_sub hl [0, 1, 2] rfl)
  clear hP hD hS hl
  obtain ⟨u11, u12, M13⟩ := st
  intro H locs ls hP hD hS hl
  replace hR : fX5_arrange_b16 n u11 u12 M13 = some xb14 := hR
  replace hP : va_P g.1 vwCl (w_M g a M13) H := hP
  replace hD : va_D A (w_M g a M13) := hD
  replace hl : lv_has ls 3 [(2, .int u12), (1, .int u11), (0, .ref (a 0))] := hl
  unfold fX5_arrange_b16 at hR
  refine lv_iload_n hx hb dX5_arrange_16 rfl (lv_at hl 0 rfl) ?_
  refine lv_iconst (v := (-1 : Int32)) hx hb dX5_arrange_17 (by decide) ?_
  refine lv_icmp_eq (tgt := 47) hx hb dX5_arrange_18 (by decide) (fun c16 => ?_) (fun c16 => ?_)
  · replace hR := (if_pos c16).symm.trans hR
    obtain rfl := Option.some.inj hR
    obtain rfl := hX1 _ rfl
    exact hj15 _ _ _ hP hD hS (lv_sub hl [1] rfl)
  · replace hR := (if_neg c16).symm.trans hR
    refine lv_aload_n hx hb dX5_arrange_21 rfl (lv_at hl 2 rfl) ?_
    refine va_get (ci := 5) (C := RX5) (T := TX5) (N := 12) hx hb hts hw5 hown hK hP 0 rfl rfl 0 (by decide) hl1 (fun _ h9 => h9) rfl dX5_arrange_22 ?_
    refine lv_iload_n hx hb dX5_arrange_25 rfl (lv_at hl 0 rfl) ?_
    refine lv_bipush (v := (16 : Int32)) hx hb dX5_arrange_26 (by decide) ?_
    refine lv_idiv hx hb dX5_arrange_28 (by decide) ?_
    refine lv_iload_n hx hb dX5_arrange_29 rfl (lv_at hl 0 rfl) ?_
    refine lv_bipush (v := (16 : Int32)) hx hb dX5_arrange_30 (by decide) ?_
    refine lv_irem hx hb dX5_arrange_32 (by decide) ?_
    obtain ⟨x17, hq17, hR⟩ := kk_bd_el hR
    obtain ⟨M18, eM18, hR⟩ := kk_nm_el hR
    refine kk_call_Sv (w' := (w_M g a M18)) (As := [.ref (a 1), .int (u12 / (16 : Int32)), .int (u12 - u12 / (16 : Int32) * (16 : Int32))]) (rest := []) hC (sX5_exchanges l g n (a 1) (M13 0) (u12 / (16 : Int32)) (u12 - u12 / (16 : Int32) * (16 : Int32)) x17 hq17) (va_cwS 3 hts gX5_arrange_X5_exchanges rfl rfl rfl (by decide +kernel) ⟨Nat.le_of_ble_eq_true rfl, Nat.le_of_ble_eq_true rfl⟩) hK hP hD hS hA [1] rfl (by decide +kernel) rfl (by rw [eM18]; rfl) rfl rfl hl.1 (Nat.le_of_ble_eq_true rfl) dX5_arrange_33 (fun H locs hP hD hS => ?_)
    refine lv_iinc (v := (u11 + (1 : Int32))) (lv' := [(1, .int (u11 + (1 : Int32))), (2, .int u12), (0, .ref (a 0))]) hx hb dX5_arrange_36 hl (k := 1) rfl rfl (by decide) rfl (fun ls hl => ?_)
    refine lv_aload_n hx hb dX5_arrange_39 rfl (lv_at hl 2 rfl) ?_
    obtain ⟨x19, hq19, hR⟩ := kk_bd_el hR
    refine kk_call_Vi (w' := (w_M g a x19.2)) (As := []) (rest := []) 0 5 hC (sX5_bestExchange l g n a M18  x19 hq19) (cwV 0 hts gX5_arrange_X5_bestExchange rfl rfl rfl (by decide +kernel) ⟨Nat.le_of_ble_eq_true rfl, Nat.le_of_ble_eq_true rfl⟩) hK hP hD hS hA [0, 1, 2, 3, 4, 5, 6] rfl (by decide +kernel) rfl rfl rfl rfl rfl rfl rfl hl.1 (Nat.le_of_ble_eq_true rfl) dX5_arrange_40 (fun H locs hP hD hS => ?_)
    refine lv_istore_n (lv' := [(2, .int x19.1), (1, .int (u11 + (1 : Int32))), (0, .ref (a 0))]) hx hb dX5_arrange_43 rfl hl (by decide) rfl (fun ls hl => ?_)
    refine lv_goto (tgt := 16) hx hb dX5_arrange_44 (by decide) ?_
    obtain rfl := Option.some.inj hR
    exact ih1 _ rfl _ _ _ hP hD hS (lv_sub hl [0, 1, 2] rfl)
set_option maxHeartbeats 8000000 in
set_option maxRecDepth 100000 in
theorem sX5_isBridged (l : Launch) (g : kG) (n : Nat) (a : Nat → Nat) (M : St1) (v1 : Int32) (r : Int32) (hR : fX5_isBridged n M v1 = some r) : kSp l g yX5_isBridged wsX5_isBridged ({ frames := 0, cells := 0, slots := 0, locals := 0 }) [.ref (a 0), .int v1] (w_M g a M) (kQi g (w_M g a M) r) := by
  refine kSp.of (cc := cX5_isBridged) (maxL := 4) (ret := (some .boolean)) (by decide) rfl (Nat.le_of_ble_eq_true rfl) ?_
  intro p e s m args below meth c ls A hC hr hlocks hA hK hl hP hD hS
  replace hC : CallFix p m c cX5_isBridged 4 s args wsX5_isBridged RX5 := hC
  obtain ⟨hx, hb, hml, hown, hts⟩ := id hC
  replace hl : lv_has ls 4 [(0, .ref (a 0)), (1, .int v1)] := hl
  unfold fX5_isBridged at hR
  have hw5 : ∀ w ∈ wsX50, w ∈ wsX5_isBridged := by decide +kernel
  have hl0 := hts (.fieldLink RX5 7 "FloatOrderModel" "now" "[I") (by decide +kernel)
  refine lv_iconst (v := (0 : Int32)) hx hb dX5_isBridged_0 (by decide) ?_
  refine lv_istore_n (lv' := [(2, .int (0 : Int32)), (0, .ref (a 0)), (1, .int v1)]) hx hb dX5_isBridged_1 rfl hl (by decide) rfl (fun ls hl => ?_)
  refine lv_iconst (v := (0 : Int32)) hx hb dX5_isBridged_2 (by decide) ?_
  refine lv_istore_n (lv' := [(3, .int (0 : Int32)), (2, .int (0 : Int32)), (0, .ref (a 0)), (1, .int v1)]) hx hb dX5_isBridged_3 rfl hl (by decide) rfl (fun ls hl => ?_)
  obtain ⟨x11, hq11, hR⟩ := kk_bd_el hR
  refine kk_cut (g := g) (A := A) (w' := (w_M g a M)) (nL := 4) (lv := [(2, .int x11)]) (pcJ := 45) (st := []) (fun H locs ls hP hD hS hl => ?_) (fun hj11 => ?_)
  · refine lv_iload_n hx hb dX5_isBridged_45 rfl (lv_at hl 0 rfl) ?_
    obtain ⟨hz16, hR⟩ := kk_cb_el hR
    obtain rfl := Option.some.inj hR
    exact kk_ret_z hC hr hlocks hK hP hD hS dX5_isBridged_46 hz16 rfl
  refine kk_loop (g := g) (A := A) (fun (st : Int32 × Int32) => (w_M g a M)) (fun (st : Int32 × Int32) => [(3, .int st.2), (2, .int st.1), (0, .ref (a 0)), (1, .int v1)]) 4 (nL := 4) hq11 (fun st xb10 hR ih1 hX1 => ?_) hP hD hS (lv_sub hl [0, 1, 2, 3] rfl)
  clear hP hD hS hl
  obtain ⟨u8, u9⟩ := st
  intro H locs ls hP hD hS hl
  replace hR : fX5_isBridged_b4 n M v1 u8 u9 = some xb10 := hR
  replace hP : va_P g.1 vwCl (w_M g a M) H := hP
  replace hD : va_D A (w_M g a M) := hD
  replace hl : lv_has ls 4 [(3, .int u9), (2, .int u8), (0, .ref (a 0)), (1, .int v1)] := hl
  unfold fX5_isBridged_b4 at hR
  refine lv_iload_n hx hb dX5_isBridged_4 rfl (lv_at hl 0 rfl) ?_
  refine lv_aload_n hx hb dX5_isBridged_5 rfl (lv_at hl 2 rfl) ?_
  refine va_get (ci := 5) (C := RX5) (T := TX5) (N := 12) hx hb hts hw5 hown hK hP 0 rfl rfl 0 (by decide) hl0 (fun _ h9 => h9) rfl dX5_isBridged_6 ?_
  refine lv_iconst (v := (5 : Int32)) hx hb dX5_isBridged_9 (by decide) ?_
  refine va_iald hx hb hK hP 1 0 rfl rfl (kk_in 5 62 (by decide) (by decide) rfl) dX5_isBridged_10 ?_
  refine lv_icmp_ge (tgt := 45) hx hb dX5_isBridged_11 (by decide) (fun c12 => ?_) (fun c12 => ?_)
  · replace hR := (if_pos c12).symm.trans hR
    obtain rfl := Option.some.inj hR
    obtain rfl := hX1 _ rfl
    exact hj11 _ _ _ hP hD hS (lv_sub hl [1] rfl)
  · replace hR := (if_neg c12).symm.trans hR
    refine lv_iload_n hx hb dX5_isBridged_14 rfl (lv_at hl 1 rfl) ?_
    refine lv_if_ne (tgt := 33) hx hb dX5_isBridged_15 (by decide) (fun c13 => ?_) (fun c13 => ?_)
    · replace hR := (if_neg c13).symm.trans hR
      refine lv_iconst (v := (1 : Int32)) hx hb dX5_isBridged_33 (by decide) ?_
      refine lv_goto (tgt := 38) hx hb dX5_isBridged_34 (by decide) ?_
      refine lv_istore_n (lv' := [(2, .int (1 : Int32)), (3, .int u9), (0, .ref (a 0)), (1, .int v1)]) hx hb dX5_isBridged_38 rfl hl (by decide) rfl (fun ls hl => ?_)
      refine lv_iinc (v := (u9 + (1 : Int32))) (lv' := [(3, .int (u9 + (1 : Int32))), (2, .int (1 : Int32)), (0, .ref (a 0)), (1, .int v1)]) hx hb dX5_isBridged_39 hl (k := 1) rfl rfl (by decide) rfl (fun ls hl => ?_)
      refine lv_goto (tgt := 4) hx hb dX5_isBridged_42 (by decide) ?_
      obtain rfl := Option.some.inj hR
      exact ih1 _ rfl _ _ _ hP hD hS (lv_sub hl [0, 1, 2, 3] rfl)
    · replace hR := (if_pos c13).symm.trans hR
      refine lv_aload_n hx hb dX5_isBridged_18 rfl (lv_at hl 2 rfl) ?_
      refine va_get (ci := 5) (C := RX5) (T := TX5) (N := 12) hx hb hts hw5 hown hK hP 0 rfl rfl 0 (by decide) hl0 (fun _ h9 => h9) rfl dX5_isBridged_19 ?_
      refine lv_bipush (v := (6 : Int32)) hx hb dX5_isBridged_22 (by decide) ?_
      refine lv_iconst (v := (2 : Int32)) hx hb dX5_isBridged_24 (by decide) ?_
      refine lv_iload_n hx hb dX5_isBridged_25 rfl (lv_at hl 0 rfl) ?_
      refine lv_imul hx hb dX5_isBridged_26 ?_
      refine lv_iadd hx hb dX5_isBridged_27 ?_
      obtain ⟨hi14, hR⟩ := kk_ck_el hR
      refine va_iald hx hb hK hP 1 0 rfl rfl hi14 dX5_isBridged_28 ?_
      refine lv_iload_n hx hb dX5_isBridged_29 rfl (lv_at hl 3 rfl) ?_
      refine lv_icmp_ne (tgt := 37) hx hb dX5_isBridged_30 (by decide) (fun c15 => ?_) (fun c15 => ?_)
      · replace hR := (if_neg c15).symm.trans hR
        refine lv_iconst (v := (0 : Int32)) hx hb dX5_isBridged_37 (by decide) ?_
        refine lv_istore_n (lv' := [(2, .int (0 : Int32)), (3, .int u9), (0, .ref (a 0)), (1, .int v1)]) hx hb dX5_isBridged_38 rfl hl (by decide) rfl (fun ls hl => ?_)
        refine lv_iinc (v := (u9 + (1 : Int32))) (lv' := [(3, .int (u9 + (1 : Int32))), (2, .int (0 : Int32)), (0, .ref (a 0)), (1, .int v1)]) hx hb dX5_isBridged_39 hl (k := 1) rfl rfl (by decide) rfl (fun ls hl => ?_)
        refine lv_goto (tgt := 4) hx hb dX5_isBridged_42 (by decide) ?_
        obtain rfl := Option.some.inj hR
        exact ih1 _ rfl _ _ _ hP hD hS (lv_sub hl [0, 1, 2, 3] rfl)
      · replace hR := (if_pos c15).symm.trans hR
        refine lv_iconst (v := (1 : Int32)) hx hb dX5_isBridged_33 (by decide) ?_
        refine lv_goto (tgt := 38) hx hb dX5_isBridged_34 (by decide) ?_
        refine lv_istore_n (lv' := [(2, .int (1 : Int32)), (3, .int u9), (0, .ref (a 0)), (1, .int v1)]) hx hb dX5_isBridged_38 rfl hl (by decide) rfl (fun ls hl => ?_)
        refine lv_iinc (v := (u9 + (1 : Int32))) (lv' := [(3, .int (u9 + (1 : Int32))), (2, .int (1 : Int32)), (0, .ref (a 0)), (1, .int v1)]) hx hb dX5_isBridged_39 hl (k := 1) rfl rfl (by decide) rfl (fun ls hl => ?_)
        refine lv_goto (tgt := 4) hx hb dX5_isBridged_42 (by decide) ?_
        obtain rfl := Option.some.inj hR
        exact ih1 _ rfl _ _ _ hP hD hS (lv_sub hl [0, 1, 2, 3] rfl)
set_option maxHeartbeats 8000000 in
set_option maxRecDepth 100000 in
theorem sX5_bridge (l : Launch) (g : kG) (n : Nat) (a : Nat → Nat) (M : St1) (v1 : Int32) (v2 : Int32) (r : Int32 × St1) (hR : fX5_bridge n M v1 v2 = some r) : kSp l g yX5_bridge wsX5_bridge ({ frames := 2, cells := 0, slots := 0, locals := 45 }) [.ref (a 0), .int v1, .int v2] (w_M g a M) (kQi g (w_M g a r.2) r.1) := by
  refine kSp.of (cc := cX5_bridge) (maxL := 4) (ret := (some .int)) (by decide) rfl (Nat.le_of_ble_eq_true rfl) ?_
  intro p e s m args below meth c ls A hC hr hlocks hA hK hl hP hD hS
  replace hC : CallFix p m c cX5_bridge 4 s args wsX5_bridge RX5 := hC
  obtain ⟨hx, hb, hml, hown, hts⟩ := id hC
  replace hl : lv_has ls 4 [(0, .ref (a 0)), (1, .int v1), (2, .int v2)] := hl
  unfold fX5_bridge at hR
  have hw5 : ∀ w ∈ wsX50, w ∈ wsX5_bridge := by decide +kernel
  have hl0 := hts (.fieldLink RX5 28 "FloatOrderModel" "thrown" "I") (by decide +kernel)
  have hl1 := hts (.fieldLink RX5 7 "FloatOrderModel" "now" "[I") (by decide +kernel)
  refine lv_aload_n hx hb dX5_bridge_0 rfl (lv_at hl 0 rfl) ?_
  refine lv_iconst (v := (0 : Int32)) hx hb dX5_bridge_1 (by decide) ?_
  obtain ⟨M1, eM1, hR⟩ := kk_nm_el hR
  refine kk_put (w' := (w_M g a M1)) (ci := 5) (C := RX5) (T := TX5) (N := 12) (ty := .int) (v := .int (0 : Int32)) hC hw5 tyX5 tyX5_ok nmX5 hK hP hD hS 0 rfl rfl 6 (by decide) hl0 rfl (by decide +kernel) rfl rfl (Nat.le_of_ble_eq_true rfl) (by rw [eM1]; rfl) dX5_bridge_2 rfl (fun H locs hP hD hS => ?_)
  refine lv_iload_n hx hb dX5_bridge_5 rfl (lv_at hl 1 rfl) ?_
  refine lv_iconst (v := (1 : Int32)) hx hb dX5_bridge_6 (by decide) ?_
  refine lv_bipush (v := (50 : Int32)) hx hb dX5_bridge_7 (by decide) ?_
  obtain ⟨x2, hq2, hR⟩ := kk_bd_el hR
  refine kk_call_Si (w' := (w_M g a M1)) (As := [.int v1, .int (1 : Int32), .int (50 : Int32)]) (rest := []) hC (sX5_in l g n   v1 (1 : Int32) (50 : Int32) x2 hq2) (va_cwS 3 hts gX5_bridge_X5_in rfl rfl rfl (by decide +kernel) ⟨Nat.le_of_ble_eq_true rfl, Nat.le_of_ble_eq_true rfl⟩) hK hP hD hS hA [] rfl (by decide +kernel) rfl rfl rfl rfl hl.1 (Nat.le_of_ble_eq_true rfl) dX5_bridge_9 (fun H locs hP hD hS => ?_)
  refine lv_if_eq (tgt := 26) hx hb dX5_bridge_12 (by decide) (fun c3 => ?_) (fun c3 => ?_)
  · replace hR := (if_pos c3).symm.trans hR
    refine lv_aload_n hx hb dX5_bridge_26 rfl (lv_at hl 0 rfl) ?_
    refine lv_iconst (v := (1 : Int32)) hx hb dX5_bridge_27 (by decide) ?_
    obtain ⟨x4, hq4, hR⟩ := kk_bd_el hR
    refine kk_call_Vi (w' := (w_M g a x4.2)) (As := [.int (1 : Int32)]) (rest := []) 0 5 hC (sX5_fails l g n a M1 (1 : Int32) x4 hq4) (cwV 1 hts gX5_bridge_X5_fails rfl rfl rfl (by decide +kernel) ⟨Nat.le_of_ble_eq_true rfl, Nat.le_of_ble_eq_true rfl⟩) hK hP hD hS hA [0, 1, 2, 3, 4, 5, 6] rfl (by decide +kernel) rfl rfl rfl rfl rfl rfl rfl hl.1 (Nat.le_of_ble_eq_true rfl) dX5_bridge_28 (fun H locs hP hD hS => ?_)
    obtain rfl := Option.some.inj hR
    exact kk_ret_i hC hr hlocks hK hP hD hS dX5_bridge_31 rfl
  · replace hR := (if_neg c3).symm.trans hR
    refine lv_iload_n hx hb dX5_bridge_15 rfl (lv_at hl 2 rfl) ?_
    refine lv_bipush (v := (10 : Int32)) hx hb dX5_bridge_16 (by decide) ?_
    refine lv_bipush (v := (99 : Int32)) hx hb dX5_bridge_18 (by decide) ?_
    obtain ⟨x5, hq5, hR⟩ := kk_bd_el hR
    refine kk_call_Si (w' := (w_M g a M1)) (As := [.int v2, .int (10 : Int32), .int (99 : Int32)]) (rest := []) hC (sX5_in l g n   v2 (10 : Int32) (99 : Int32) x5 hq5) (va_cwS 3 hts gX5_bridge_X5_in rfl rfl rfl (by decide +kernel) ⟨Nat.le_of_ble_eq_true rfl, Nat.le_of_ble_eq_true rfl⟩) hK hP hD hS hA [] rfl (by decide +kernel) rfl rfl rfl rfl hl.1 (Nat.le_of_ble_eq_true rfl) dX5_bridge_20 (fun H locs hP hD hS => ?_)
    refine lv_if_ne (tgt := 32) hx hb dX5_bridge_23 (by decide) (fun c6 => ?_) (fun c6 => ?_)
    · replace hR := (if_neg c6).symm.trans hR
      refine lv_aload_n hx hb dX5_bridge_32 rfl (lv_at hl 0 rfl) ?_
      refine va_get (ci := 5) (C := RX5) (T := TX5) (N := 12) hx hb hts hw5 hown hK hP 0 rfl rfl 0 (by decide) hl1 (fun _ h9 => h9) rfl dX5_bridge_33 ?_
      refine lv_iconst (v := (5 : Int32)) hx hb dX5_bridge_36 (by decide) ?_
      refine va_iald hx hb hK hP 1 0 rfl rfl (kk_in 5 62 (by decide) (by decide) rfl) dX5_bridge_37 ?_
      refine lv_iconst (v := (4 : Int32)) hx hb dX5_bridge_38 (by decide) ?_
      refine lv_icmp_eq (tgt := 50) hx hb dX5_bridge_39 (by decide) (fun c7 => ?_) (fun c7 => ?_)
      · replace hR := (if_pos c7).symm.trans hR
        refine lv_aload_n hx hb dX5_bridge_50 rfl (lv_at hl 0 rfl) ?_
        refine lv_iconst (v := (2 : Int32)) hx hb dX5_bridge_51 (by decide) ?_
        obtain ⟨x8, hq8, hR⟩ := kk_bd_el hR
        refine kk_call_Vi (w' := (w_M g a x8.2)) (As := [.int (2 : Int32)]) (rest := []) 0 5 hC (sX5_fails l g n a M1 (2 : Int32) x8 hq8) (cwV 1 hts gX5_bridge_X5_fails rfl rfl rfl (by decide +kernel) ⟨Nat.le_of_ble_eq_true rfl, Nat.le_of_ble_eq_true rfl⟩) hK hP hD hS hA [0, 1, 2, 3, 4, 5, 6] rfl (by decide +kernel) rfl rfl rfl rfl rfl rfl rfl hl.1 (Nat.le_of_ble_eq_true rfl) dX5_bridge_52 (fun H locs hP hD hS => ?_)
        obtain rfl := Option.some.inj hR
        exact kk_ret_i hC hr hlocks hK hP hD hS dX5_bridge_55 rfl
      · replace hR := (if_neg c7).symm.trans hR
        refine lv_aload_n hx hb dX5_bridge_42 rfl (lv_at hl 0 rfl) ?_
        refine lv_iload_n hx hb dX5_bridge_43 rfl (lv_at hl 1 rfl) ?_
        obtain ⟨x9, hq9, hR⟩ := kk_bd_el hR
        refine kk_call_Vi (w' := (w_M g a M1)) (As := [.int v1]) (rest := []) 0 5 hC (sX5_isBridged l g n a M1 v1 x9 hq9) (cwV 1 hts gX5_bridge_X5_isBridged rfl rfl rfl (by decide +kernel) ⟨Nat.le_of_ble_eq_true rfl, Nat.le_of_ble_eq_true rfl⟩) hK hP hD hS hA [0, 1, 2, 3, 4, 5, 6] rfl (by decide +kernel) rfl rfl rfl rfl rfl rfl rfl hl.1 (Nat.le_of_ble_eq_true rfl) dX5_bridge_44 (fun H locs hP hD hS => ?_)
        refine lv_if_eq (tgt := 56) hx hb dX5_bridge_47 (by decide) (fun c10 => ?_) (fun c10 => ?_)
        · replace hR := (if_pos c10).symm.trans hR
          refine lv_aload_n hx hb dX5_bridge_56 rfl (lv_at hl 0 rfl) ?_
          obtain ⟨x11, hq11, hR⟩ := kk_bd_el hR
          refine kk_call_Vv (w' := (w_M g a x11)) (As := []) (rest := []) 0 5 hC (sX5_saves l g n a M1  x11 hq11) (cwV 0 hts gX5_bridge_X5_saves rfl rfl rfl (by decide +kernel) ⟨Nat.le_of_ble_eq_true rfl, Nat.le_of_ble_eq_true rfl⟩) hK hP hD hS hA [0, 1, 2, 3, 4, 5, 6] rfl (by decide +kernel) rfl rfl rfl rfl rfl rfl rfl hl.1 (Nat.le_of_ble_eq_true rfl) dX5_bridge_57 (fun H locs hP hD hS => ?_)
          refine lv_aload_n hx hb dX5_bridge_60 rfl (lv_at hl 0 rfl) ?_
          refine va_get (ci := 5) (C := RX5) (T := TX5) (N := 12) hx hb hts hw5 hown hK hP 0 rfl rfl 0 (by decide) hl1 (fun _ h9 => h9) rfl dX5_bridge_61 ?_
          refine lv_iconst (v := (5 : Int32)) hx hb dX5_bridge_64 (by decide) ?_
          refine va_iald hx hb hK hP 1 0 rfl rfl (kk_in 5 62 (by decide) (by decide) rfl) dX5_bridge_65 ?_
          refine lv_istore_n (lv' := [(3, .int ((x11 0) (5 : Int32).toNatClampNeg)), (0, .ref (a 0)), (1, .int v1), (2, .int v2)]) hx hb dX5_bridge_66 rfl hl (by decide) rfl (fun ls hl => ?_)
          obtain ⟨x26, hq26, hR⟩ := kk_bd_el hR
          refine kk_cut (g := g) (A := A) (w' := (w_M g a x26.2)) (nL := 4) (lv := [(3, .int x26.1), (0, .ref (a 0)), (1, .int v1), (2, .int v2)]) (pcJ := 144) (st := []) (fun H locs ls hP hD hS hl => ?_) (fun hj26 => ?_)
          · refine lv_aload_n hx hb dX5_bridge_144 rfl (lv_at hl 1 rfl) ?_
            refine va_get (ci := 5) (C := RX5) (T := TX5) (N := 12) hx hb hts hw5 hown hK hP 0 rfl rfl 0 (by decide) hl1 (fun _ h9 => h9) rfl dX5_bridge_145 ?_
            refine lv_bipush (v := (6 : Int32)) hx hb dX5_bridge_148 (by decide) ?_
            refine lv_iconst (v := (2 : Int32)) hx hb dX5_bridge_150 (by decide) ?_
            refine lv_iload_n hx hb dX5_bridge_151 rfl (lv_at hl 0 rfl) ?_
            refine lv_imul hx hb dX5_bridge_152 ?_
            refine lv_iadd hx hb dX5_bridge_153 ?_
            refine lv_iload_n hx hb dX5_bridge_154 rfl (lv_at hl 2 rfl) ?_
            obtain ⟨hi37, hR⟩ := kk_ck_el hR
            obtain ⟨M36, eM36, hR⟩ := kk_nm_el hR
            refine kk_iast (w' := (w_M g a M36)) hC hK hP hD hS 1 rfl hi37 (by rw [eM36]; rfl) dX5_bridge_155 (fun H locs hP hD hS => ?_)
            refine lv_aload_n hx hb dX5_bridge_156 rfl (lv_at hl 1 rfl) ?_
            refine va_get (ci := 5) (C := RX5) (T := TX5) (N := 12) hx hb hts hw5 hown hK hP 0 rfl rfl 0 (by decide) hl1 (fun _ h9 => h9) rfl dX5_bridge_157 ?_
            refine lv_bipush (v := (6 : Int32)) hx hb dX5_bridge_160 (by decide) ?_
            refine lv_iconst (v := (2 : Int32)) hx hb dX5_bridge_162 (by decide) ?_
            refine lv_iload_n hx hb dX5_bridge_163 rfl (lv_at hl 0 rfl) ?_
            refine lv_imul hx hb dX5_bridge_164 ?_
            refine lv_iadd hx hb dX5_bridge_165 ?_
            refine lv_iconst (v := (1 : Int32)) hx hb dX5_bridge_166 (by decide) ?_
            refine lv_iadd hx hb dX5_bridge_167 ?_
            refine lv_iload_n hx hb dX5_bridge_168 rfl (lv_at hl 3 rfl) ?_
            obtain ⟨hi39, hR⟩ := kk_ck_el hR
            obtain ⟨M38, eM38, hR⟩ := kk_nm_el hR
            refine kk_iast (w' := (w_M g a M38)) hC hK hP hD hS 1 rfl hi39 (by rw [eM38]; rfl) dX5_bridge_169 (fun H locs hP hD hS => ?_)
            refine lv_aload_n hx hb dX5_bridge_170 rfl (lv_at hl 1 rfl) ?_
            refine va_get (ci := 5) (C := RX5) (T := TX5) (N := 12) hx hb hts hw5 hown hK hP 0 rfl rfl 0 (by decide) hl1 (fun _ h9 => h9) rfl dX5_bridge_171 ?_
            refine lv_iconst (v := (5 : Int32)) hx hb dX5_bridge_174 (by decide) ?_
            refine lv_dup2_11 hx hb dX5_bridge_175 rfl rfl ?_
            refine va_iald hx hb hK hP 1 0 rfl rfl (kk_in 5 62 (by decide) (by decide) rfl) dX5_bridge_176 ?_
            refine lv_iconst (v := (1 : Int32)) hx hb dX5_bridge_177 (by decide) ?_
            refine lv_iadd hx hb dX5_bridge_178 ?_
            obtain ⟨M40, eM40, hR⟩ := kk_nm_el hR
            refine kk_iast (w' := (w_M g a M40)) hC hK hP hD hS 1 rfl (kk_in 5 62 (by decide) (by decide) rfl) (by rw [eM40]; rfl) dX5_bridge_179 (fun H locs hP hD hS => ?_)
            refine lv_iload_n hx hb dX5_bridge_180 rfl (lv_at hl 0 rfl) ?_
            obtain rfl := Option.some.inj hR
            exact kk_ret_i hC hr hlocks hK hP hD hS dX5_bridge_181 rfl
          refine kk_loop (g := g) (A := A) (fun (st : Int32 × St1) => (w_M g a st.2)) (fun (st : Int32 × St1) => [(3, .int st.1), (0, .ref (a 0)), (1, .int v1), (2, .int v2)]) 67 (nL := 4) hq26 (fun st xb25 hR ih1 hX1 => ?_) hP hD hS (lv_sub hl [0, 1, 2, 3] rfl)
          clear hP hD hS hl
          obtain ⟨u23, M24⟩ := st
          intro H locs ls hP hD hS hl
          replace hR : fX5_bridge_b67 n v1 u23 M24 = some xb25 := hR
          replace hP : va_P g.1 vwCl (w_M g a M24) H := hP
          replace hD : va_D A (w_M g a M24) := hD
          replace hl : lv_has ls 4 [(3, .int u23), (0, .ref (a 0)), (1, .int v1), (2, .int v2)] := hl
          unfold fX5_bridge_b67 at hR
          refine lv_iload_n hx hb dX5_bridge_67 rfl (lv_at hl 0 rfl) ?_
          refine lv_if_le (tgt := 144) hx hb dX5_bridge_68 (by decide) (fun c27 => ?_) (fun c27 => ?_)
          · replace hR := (if_pos c27).symm.trans hR
            obtain rfl := Option.some.inj hR
            obtain rfl := hX1 _ rfl
            exact hj26 _ _ _ hP hD hS (lv_sub hl [0, 1, 2, 3] rfl)
          · replace hR := (if_neg c27).symm.trans hR
            refine lv_aload_n hx hb dX5_bridge_71 rfl (lv_at hl 1 rfl) ?_
            refine va_get (ci := 5) (C := RX5) (T := TX5) (N := 12) hx hb hts hw5 hown hK hP 0 rfl rfl 0 (by decide) hl1 (fun _ h9 => h9) rfl dX5_bridge_72 ?_
            refine lv_bipush (v := (6 : Int32)) hx hb dX5_bridge_75 (by decide) ?_
            refine lv_iconst (v := (2 : Int32)) hx hb dX5_bridge_77 (by decide) ?_
            refine lv_iload_n hx hb dX5_bridge_78 rfl (lv_at hl 0 rfl) ?_
            refine lv_imul hx hb dX5_bridge_79 ?_
            refine lv_iadd hx hb dX5_bridge_80 ?_
            refine lv_iconst (v := (2 : Int32)) hx hb dX5_bridge_81 (by decide) ?_
            refine lv_isub hx hb dX5_bridge_82 ?_
            obtain ⟨hi28, hR⟩ := kk_ck_el hR
            refine va_iald hx hb hK hP 1 0 rfl rfl hi28 dX5_bridge_83 ?_
            refine lv_iload_n hx hb dX5_bridge_84 rfl (lv_at hl 2 rfl) ?_
            refine lv_icmp_le (tgt := 144) hx hb dX5_bridge_85 (by decide) (fun c29 => ?_) (fun c29 => ?_)
            · replace hR := (if_pos c29).symm.trans hR
              obtain rfl := Option.some.inj hR
              obtain rfl := hX1 _ rfl
              exact hj26 _ _ _ hP hD hS (lv_sub hl [0, 1, 2, 3] rfl)
            · replace hR := (if_neg c29).symm.trans hR
              refine lv_aload_n hx hb dX5_bridge_88 rfl (lv_at hl 1 rfl) ?_
              refine va_get (ci := 5) (C := RX5) (T := TX5) (N := 12) hx hb hts hw5 hown hK hP 0 rfl rfl 0 (by decide) hl1 (fun _ h9 => h9) rfl dX5_bridge_89 ?_
              refine lv_bipush (v := (6 : Int32)) hx hb dX5_bridge_92 (by decide) ?_
              refine lv_iconst (v := (2 : Int32)) hx hb dX5_bridge_94 (by decide) ?_
              refine lv_iload_n hx hb dX5_bridge_95 rfl (lv_at hl 0 rfl) ?_
              refine lv_imul hx hb dX5_bridge_96 ?_
              refine lv_iadd hx hb dX5_bridge_97 ?_
              refine lv_aload_n hx hb dX5_bridge_98 rfl (lv_at hl 1 rfl) ?_
              refine va_get (ci := 5) (C := RX5) (T := TX5) (N := 12) hx hb hts hw5 hown hK hP 0 rfl rfl 0 (by decide) hl1 (fun _ h9 => h9) rfl dX5_bridge_99 ?_
              refine lv_bipush (v := (6 : Int32)) hx hb dX5_bridge_102 (by decide) ?_
              refine lv_iconst (v := (2 : Int32)) hx hb dX5_bridge_104 (by decide) ?_
              refine lv_iload_n hx hb dX5_bridge_105 rfl (lv_at hl 0 rfl) ?_
              refine lv_imul hx hb dX5_bridge_106 ?_
              refine lv_iadd hx hb dX5_bridge_107 ?_
              refine lv_iconst (v := (2 : Int32)) hx hb dX5_bridge_108 (by decide) ?_
              refine lv_isub hx hb dX5_bridge_109 ?_
              obtain ⟨hi30, hR⟩ := kk_ck_el hR
              refine va_iald hx hb hK hP 1 0 rfl rfl hi30 dX5_bridge_110 ?_
              obtain ⟨hi32, hR⟩ := kk_ck_el hR
              obtain ⟨M31, eM31, hR⟩ := kk_nm_el hR
              refine kk_iast (w' := (w_M g a M31)) hC hK hP hD hS 1 rfl hi32 (by rw [eM31]; rfl) dX5_bridge_111 (fun H locs hP hD hS => ?_)
              refine lv_aload_n hx hb dX5_bridge_112 rfl (lv_at hl 1 rfl) ?_
              refine va_get (ci := 5) (C := RX5) (T := TX5) (N := 12) hx hb hts hw5 hown hK hP 0 rfl rfl 0 (by decide) hl1 (fun _ h9 => h9) rfl dX5_bridge_113 ?_
              refine lv_bipush (v := (6 : Int32)) hx hb dX5_bridge_116 (by decide) ?_
              refine lv_iconst (v := (2 : Int32)) hx hb dX5_bridge_118 (by decide) ?_
              refine lv_iload_n hx hb dX5_bridge_119 rfl (lv_at hl 0 rfl) ?_
              refine lv_imul hx hb dX5_bridge_120 ?_
              refine lv_iadd hx hb dX5_bridge_121 ?_
              refine lv_iconst (v := (1 : Int32)) hx hb dX5_bridge_122 (by decide) ?_
              refine lv_iadd hx hb dX5_bridge_123 ?_
              refine lv_aload_n hx hb dX5_bridge_124 rfl (lv_at hl 1 rfl) ?_
              refine va_get (ci := 5) (C := RX5) (T := TX5) (N := 12) hx hb hts hw5 hown hK hP 0 rfl rfl 0 (by decide) hl1 (fun _ h9 => h9) rfl dX5_bridge_125 ?_
              refine lv_bipush (v := (6 : Int32)) hx hb dX5_bridge_128 (by decide) ?_
              refine lv_iconst (v := (2 : Int32)) hx hb dX5_bridge_130 (by decide) ?_
              refine lv_iload_n hx hb dX5_bridge_131 rfl (lv_at hl 0 rfl) ?_
              refine lv_imul hx hb dX5_bridge_132 ?_
              refine lv_iadd hx hb dX5_bridge_133 ?_
              refine lv_iconst (v := (1 : Int32)) hx hb dX5_bridge_134 (by decide) ?_
              refine lv_isub hx hb dX5_bridge_135 ?_
              obtain ⟨hi33, hR⟩ := kk_ck_el hR
              refine va_iald hx hb hK hP 1 0 rfl rfl hi33 dX5_bridge_136 ?_
              obtain ⟨hi35, hR⟩ := kk_ck_el hR
              obtain ⟨M34, eM34, hR⟩ := kk_nm_el hR
              refine kk_iast (w' := (w_M g a M34)) hC hK hP hD hS 1 rfl hi35 (by rw [eM34]; rfl) dX5_bridge_137 (fun H locs hP hD hS => ?_)
              refine lv_iinc (v := (u23 + (-1 : Int32))) (lv' := [(3, .int (u23 + (-1 : Int32))), (0, .ref (a 0)), (1, .int v1), (2, .int v2)]) hx hb dX5_bridge_138 hl (k := 0) rfl rfl (by decide) rfl (fun ls hl => ?_)
              refine lv_goto (tgt := 67) hx hb dX5_bridge_141 (by decide) ?_
              obtain rfl := Option.some.inj hR
              exact ih1 _ rfl _ _ _ hP hD hS (lv_sub hl [0, 1, 2, 3] rfl)
        · replace hR := (if_neg c10).symm.trans hR
          refine lv_aload_n hx hb dX5_bridge_50 rfl (lv_at hl 0 rfl) ?_
          refine lv_iconst (v := (2 : Int32)) hx hb dX5_bridge_51 (by decide) ?_
          obtain ⟨x41, hq41, hR⟩ := kk_bd_el hR
          refine kk_call_Vi (w' := (w_M g a x41.2)) (As := [.int (2 : Int32)]) (rest := []) 0 5 hC (sX5_fails l g n a M1 (2 : Int32) x41 hq41) (cwV 1 hts gX5_bridge_X5_fails rfl rfl rfl (by decide +kernel) ⟨Nat.le_of_ble_eq_true rfl, Nat.le_of_ble_eq_true rfl⟩) hK hP hD hS hA [0, 1, 2, 3, 4, 5, 6] rfl (by decide +kernel) rfl rfl rfl rfl rfl rfl rfl hl.1 (Nat.le_of_ble_eq_true rfl) dX5_bridge_52 (fun H locs hP hD hS => ?_)
          obtain rfl := Option.some.inj hR
          exact kk_ret_i hC hr hlocks hK hP hD hS dX5_bridge_55 rfl
    · replace hR := (if_pos c6).symm.trans hR
      refine lv_aload_n hx hb dX5_bridge_26 rfl (lv_at hl 0 rfl) ?_
      refine lv_iconst (v := (1 : Int32)) hx hb dX5_bridge_27 (by decide) ?_
      obtain ⟨x42, hq42, hR⟩ := kk_bd_el hR
      refine kk_call_Vi (w' := (w_M g a x42.2)) (As := [.int (1 : Int32)]) (rest := []) 0 5 hC (sX5_fails l g n a M1 (1 : Int32) x42 hq42) (cwV 1 hts gX5_bridge_X5_fails rfl rfl rfl (by decide +kernel) ⟨Nat.le_of_ble_eq_true rfl, Nat.le_of_ble_eq_true rfl⟩) hK hP hD hS hA [0, 1, 2, 3, 4, 5, 6] rfl (by decide +kernel) rfl rfl rfl rfl rfl rfl rfl hl.1 (Nat.le_of_ble_eq_true rfl) dX5_bridge_28 (fun H locs hP hD hS => ?_)
      obtain rfl := Option.some.inj hR
      exact kk_ret_i hC hr hlocks hK hP hD hS dX5_bridge_31 rfl
set_option maxHeartbeats 8000000 in
set_option maxRecDepth 100000 in
theorem sX5_unbridge (l : Launch) (g : kG) (n : Nat) (a : Nat → Nat) (M : St1) (v1 : Int32) (r : Int32 × St1) (hR : fX5_unbridge n M v1 = some r) : kSp l g yX5_unbridge wsX5_unbridge ({ frames := 2, cells := 0, slots := 0, locals := 45 }) [.ref (a 0), .int v1] (w_M g a M) (kQi g (w_M g a r.2) r.1) := by
  refine kSp.of (cc := cX5_unbridge) (maxL := 4) (ret := (some .int)) (by decide) rfl (Nat.le_of_ble_eq_true rfl) ?_
  intro p e s m args below meth c ls A hC hr hlocks hA hK hl hP hD hS
  replace hC : CallFix p m c cX5_unbridge 4 s args wsX5_unbridge RX5 := hC
  obtain ⟨hx, hb, hml, hown, hts⟩ := id hC
  replace hl : lv_has ls 4 [(0, .ref (a 0)), (1, .int v1)] := hl
  unfold fX5_unbridge at hR
  have hw5 : ∀ w ∈ wsX50, w ∈ wsX5_unbridge := by decide +kernel
  have hl0 := hts (.fieldLink RX5 28 "FloatOrderModel" "thrown" "I") (by decide +kernel)
  have hl1 := hts (.fieldLink RX5 7 "FloatOrderModel" "now" "[I") (by decide +kernel)
  refine lv_aload_n hx hb dX5_unbridge_0 rfl (lv_at hl 0 rfl) ?_
  refine lv_iconst (v := (0 : Int32)) hx hb dX5_unbridge_1 (by decide) ?_
  obtain ⟨M1, eM1, hR⟩ := kk_nm_el hR
  refine kk_put (w' := (w_M g a M1)) (ci := 5) (C := RX5) (T := TX5) (N := 12) (ty := .int) (v := .int (0 : Int32)) hC hw5 tyX5 tyX5_ok nmX5 hK hP hD hS 0 rfl rfl 6 (by decide) hl0 rfl (by decide +kernel) rfl rfl (Nat.le_of_ble_eq_true rfl) (by rw [eM1]; rfl) dX5_unbridge_2 rfl (fun H locs hP hD hS => ?_)
  refine lv_aload_n hx hb dX5_unbridge_5 rfl (lv_at hl 0 rfl) ?_
  refine lv_iload_n hx hb dX5_unbridge_6 rfl (lv_at hl 1 rfl) ?_
  obtain ⟨x2, hq2, hR⟩ := kk_bd_el hR
  refine kk_call_Vi (w' := (w_M g a M1)) (As := [.int v1]) (rest := []) 0 5 hC (sX5_isBridge l g n a M1 v1 x2 hq2) (cwV 1 hts gX5_unbridge_X5_isBridge rfl rfl rfl (by decide +kernel) ⟨Nat.le_of_ble_eq_true rfl, Nat.le_of_ble_eq_true rfl⟩) hK hP hD hS hA [0, 1, 2, 3, 4, 5, 6] rfl (by decide +kernel) rfl rfl rfl rfl rfl rfl rfl hl.1 (Nat.le_of_ble_eq_true rfl) dX5_unbridge_7 (fun H locs hP hD hS => ?_)
  refine lv_if_ne (tgt := 19) hx hb dX5_unbridge_10 (by decide) (fun c3 => ?_) (fun c3 => ?_)
  · replace hR := (if_neg c3).symm.trans hR
    refine lv_aload_n hx hb dX5_unbridge_19 rfl (lv_at hl 0 rfl) ?_
    obtain ⟨x4, hq4, hR⟩ := kk_bd_el hR
    refine kk_call_Vv (w' := (w_M g a x4)) (As := []) (rest := []) 0 5 hC (sX5_saves l g n a M1  x4 hq4) (cwV 0 hts gX5_unbridge_X5_saves rfl rfl rfl (by decide +kernel) ⟨Nat.le_of_ble_eq_true rfl, Nat.le_of_ble_eq_true rfl⟩) hK hP hD hS hA [0, 1, 2, 3, 4, 5, 6] rfl (by decide +kernel) rfl rfl rfl rfl rfl rfl rfl hl.1 (Nat.le_of_ble_eq_true rfl) dX5_unbridge_20 (fun H locs hP hD hS => ?_)
    refine lv_aload_n hx hb dX5_unbridge_23 rfl (lv_at hl 0 rfl) ?_
    refine va_get (ci := 5) (C := RX5) (T := TX5) (N := 12) hx hb hts hw5 hown hK hP 0 rfl rfl 0 (by decide) hl1 (fun _ h9 => h9) rfl dX5_unbridge_24 ?_
    refine lv_bipush (v := (6 : Int32)) hx hb dX5_unbridge_27 (by decide) ?_
    refine lv_iconst (v := (2 : Int32)) hx hb dX5_unbridge_29 (by decide) ?_
    refine lv_iload_n hx hb dX5_unbridge_30 rfl (lv_at hl 1 rfl) ?_
    refine lv_imul hx hb dX5_unbridge_31 ?_
    refine lv_iadd hx hb dX5_unbridge_32 ?_
    obtain ⟨hi5, hR⟩ := kk_ck_el hR
    refine va_iald hx hb hK hP 1 0 rfl rfl hi5 dX5_unbridge_33 ?_
    refine lv_istore_n (lv' := [(2, .int ((x4 0) ((6 : Int32) + ((2 : Int32) * v1)).toNatClampNeg)), (0, .ref (a 0)), (1, .int v1)]) hx hb dX5_unbridge_34 rfl hl (by decide) rfl (fun ls hl => ?_)
    refine lv_aload_n hx hb dX5_unbridge_35 rfl (lv_at hl 1 rfl) ?_
    refine va_get (ci := 5) (C := RX5) (T := TX5) (N := 12) hx hb hts hw5 hown hK hP 0 rfl rfl 0 (by decide) hl1 (fun _ h9 => h9) rfl dX5_unbridge_36 ?_
    refine lv_iconst (v := (5 : Int32)) hx hb dX5_unbridge_39 (by decide) ?_
    refine lv_dup2_11 hx hb dX5_unbridge_40 rfl rfl ?_
    refine va_iald hx hb hK hP 1 0 rfl rfl (kk_in 5 62 (by decide) (by decide) rfl) dX5_unbridge_41 ?_
    refine lv_iconst (v := (1 : Int32)) hx hb dX5_unbridge_42 (by decide) ?_
    refine lv_isub hx hb dX5_unbridge_43 ?_
    obtain ⟨M6, eM6, hR⟩ := kk_nm_el hR
    refine kk_iast (w' := (w_M g a M6)) hC hK hP hD hS 1 rfl (kk_in 5 62 (by decide) (by decide) rfl) (by rw [eM6]; rfl) dX5_unbridge_44 (fun H locs hP hD hS => ?_)
    refine lv_bipush (v := (6 : Int32)) hx hb dX5_unbridge_45 (by decide) ?_
    refine lv_iconst (v := (2 : Int32)) hx hb dX5_unbridge_47 (by decide) ?_
    refine lv_iload_n hx hb dX5_unbridge_48 rfl (lv_at hl 2 rfl) ?_
    refine lv_imul hx hb dX5_unbridge_49 ?_
    refine lv_iadd hx hb dX5_unbridge_50 ?_
    refine lv_istore_n (lv' := [(3, .int ((6 : Int32) + ((2 : Int32) * v1))), (2, .int ((x4 0) ((6 : Int32) + ((2 : Int32) * v1)).toNatClampNeg)), (0, .ref (a 0)), (1, .int v1)]) hx hb dX5_unbridge_51 rfl hl (by decide) rfl (fun ls hl => ?_)
    obtain ⟨x16, hq16, hR⟩ := kk_bd_el hR
    refine kk_cut (g := g) (A := A) (w' := (w_M g a x16)) (nL := 4) (lv := [(2, .int ((x4 0) ((6 : Int32) + ((2 : Int32) * v1)).toNatClampNeg))]) (pcJ := 87) (st := []) (fun H locs ls hP hD hS hl => ?_) (fun hj16 => ?_)
    · refine lv_iload_n hx hb dX5_unbridge_87 rfl (lv_at hl 0 rfl) ?_
      obtain rfl := Option.some.inj hR
      exact kk_ret_i hC hr hlocks hK hP hD hS dX5_unbridge_88 rfl
    refine kk_loop (g := g) (A := A) (fun (st : Int32 × St1) => (w_M g a st.2)) (fun (st : Int32 × St1) => [(3, .int st.1), (2, .int ((x4 0) ((6 : Int32) + ((2 : Int32) * v1)).toNatClampNeg)), (0, .ref (a 0))]) 52 (nL := 4) hq16 (fun st xb15 hR ih1 hX1 => ?_) hP hD hS (lv_sub hl [0, 1, 2] rfl)
    clear hP hD hS hl
    obtain ⟨u13, M14⟩ := st
    intro H locs ls hP hD hS hl
    replace hR : fX5_unbridge_b52 n u13 M14 = some xb15 := hR
    replace hP : va_P g.1 vwCl (w_M g a M14) H := hP
    replace hD : va_D A (w_M g a M14) := hD
    replace hl : lv_has ls 4 [(3, .int u13), (2, .int ((x4 0) ((6 : Int32) + ((2 : Int32) * v1)).toNatClampNeg)), (0, .ref (a 0))] := hl
    unfold fX5_unbridge_b52 at hR
    refine lv_iload_n hx hb dX5_unbridge_52 rfl (lv_at hl 0 rfl) ?_
    refine lv_bipush (v := (6 : Int32)) hx hb dX5_unbridge_53 (by decide) ?_
    refine lv_iconst (v := (2 : Int32)) hx hb dX5_unbridge_55 (by decide) ?_
    refine lv_aload_n hx hb dX5_unbridge_56 rfl (lv_at hl 2 rfl) ?_
    refine va_get (ci := 5) (C := RX5) (T := TX5) (N := 12) hx hb hts hw5 hown hK hP 0 rfl rfl 0 (by decide) hl1 (fun _ h9 => h9) rfl dX5_unbridge_57 ?_
    refine lv_iconst (v := (5 : Int32)) hx hb dX5_unbridge_60 (by decide) ?_
    refine va_iald hx hb hK hP 1 0 rfl rfl (kk_in 5 62 (by decide) (by decide) rfl) dX5_unbridge_61 ?_
    refine lv_imul hx hb dX5_unbridge_62 ?_
    refine lv_iadd hx hb dX5_unbridge_63 ?_
    refine lv_icmp_ge (tgt := 87) hx hb dX5_unbridge_64 (by decide) (fun c17 => ?_) (fun c17 => ?_)
    · replace hR := (if_pos c17).symm.trans hR
      obtain rfl := Option.some.inj hR
      obtain rfl := hX1 _ rfl
      exact hj16 _ _ _ hP hD hS (lv_sub hl [1] rfl)
    · replace hR := (if_neg c17).symm.trans hR
      refine lv_aload_n hx hb dX5_unbridge_67 rfl (lv_at hl 2 rfl) ?_
      refine va_get (ci := 5) (C := RX5) (T := TX5) (N := 12) hx hb hts hw5 hown hK hP 0 rfl rfl 0 (by decide) hl1 (fun _ h9 => h9) rfl dX5_unbridge_68 ?_
      refine lv_iload_n hx hb dX5_unbridge_71 rfl (lv_at hl 0 rfl) ?_
      refine lv_aload_n hx hb dX5_unbridge_72 rfl (lv_at hl 2 rfl) ?_
      refine va_get (ci := 5) (C := RX5) (T := TX5) (N := 12) hx hb hts hw5 hown hK hP 0 rfl rfl 0 (by decide) hl1 (fun _ h9 => h9) rfl dX5_unbridge_73 ?_
      refine lv_iload_n hx hb dX5_unbridge_76 rfl (lv_at hl 0 rfl) ?_
      refine lv_iconst (v := (2 : Int32)) hx hb dX5_unbridge_77 (by decide) ?_
      refine lv_iadd hx hb dX5_unbridge_78 ?_
      obtain ⟨hi18, hR⟩ := kk_ck_el hR
      refine va_iald hx hb hK hP 1 0 rfl rfl hi18 dX5_unbridge_79 ?_
      obtain ⟨hi20, hR⟩ := kk_ck_el hR
      obtain ⟨M19, eM19, hR⟩ := kk_nm_el hR
      refine kk_iast (w' := (w_M g a M19)) hC hK hP hD hS 1 rfl hi20 (by rw [eM19]; rfl) dX5_unbridge_80 (fun H locs hP hD hS => ?_)
      refine lv_iinc (v := (u13 + (1 : Int32))) (lv' := [(3, .int (u13 + (1 : Int32))), (2, .int ((x4 0) ((6 : Int32) + ((2 : Int32) * v1)).toNatClampNeg)), (0, .ref (a 0))]) hx hb dX5_unbridge_81 hl (k := 0) rfl rfl (by decide) rfl (fun ls hl => ?_)
      refine lv_goto (tgt := 52) hx hb dX5_unbridge_84 (by decide) ?_
      obtain rfl := Option.some.inj hR
      exact ih1 _ rfl _ _ _ hP hD hS (lv_sub hl [0, 1, 2] rfl)
  · replace hR := (if_pos c3).symm.trans hR
    refine lv_aload_n hx hb dX5_unbridge_13 rfl (lv_at hl 0 rfl) ?_
    refine lv_iconst (v := (1 : Int32)) hx hb dX5_unbridge_14 (by decide) ?_
    obtain ⟨x21, hq21, hR⟩ := kk_bd_el hR
    refine kk_call_Vi (w' := (w_M g a x21.2)) (As := [.int (1 : Int32)]) (rest := []) 0 5 hC (sX5_fails l g n a M1 (1 : Int32) x21 hq21) (cwV 1 hts gX5_unbridge_X5_fails rfl rfl rfl (by decide +kernel) ⟨Nat.le_of_ble_eq_true rfl, Nat.le_of_ble_eq_true rfl⟩) hK hP hD hS hA [0, 1, 2, 3, 4, 5, 6] rfl (by decide +kernel) rfl rfl rfl rfl rfl rfl rfl hl.1 (Nat.le_of_ble_eq_true rfl) dX5_unbridge_15 (fun H locs hP hD hS => ?_)
    obtain rfl := Option.some.inj hR
    exact kk_ret_i hC hr hlocks hK hP hD hS dX5_unbridge_18 rfl
set_option maxHeartbeats 8000000 in
set_option maxRecDepth 100000 in
theorem sX5_set (l : Launch) (g : kG) (n : Nat) (a : Nat → Nat) (M : St1) (v1 : Int32) (v2 : Int32) (r : Int32 × St1) (hR : fX5_set n M v1 v2 = some r) : kSp l g yX5_set wsX5_set ({ frames := 2, cells := 0, slots := 0, locals := 45 }) [.ref (a 0), .int v1, .int v2] (w_M g a M) (kQi g (w_M g a r.2) r.1) := by
  refine kSp.of (cc := cX5_set) (maxL := 4) (ret := (some .int)) (by decide) rfl (Nat.le_of_ble_eq_true rfl) ?_
  intro p e s m args below meth c ls A hC hr hlocks hA hK hl hP hD hS
  replace hC : CallFix p m c cX5_set 4 s args wsX5_set RX5 := hC
  obtain ⟨hx, hb, hml, hown, hts⟩ := id hC
  replace hl : lv_has ls 4 [(0, .ref (a 0)), (1, .int v1), (2, .int v2)] := hl
  unfold fX5_set at hR
  have hw5 : ∀ w ∈ wsX50, w ∈ wsX5_set := by decide +kernel
  have hl0 := hts (.fieldLink RX5 28 "FloatOrderModel" "thrown" "I") (by decide +kernel)
  have hl1 := hts (.fieldLink RX5 7 "FloatOrderModel" "now" "[I") (by decide +kernel)
  refine lv_aload_n hx hb dX5_set_0 rfl (lv_at hl 0 rfl) ?_
  refine lv_iconst (v := (0 : Int32)) hx hb dX5_set_1 (by decide) ?_
  obtain ⟨M1, eM1, hR⟩ := kk_nm_el hR
  refine kk_put (w' := (w_M g a M1)) (ci := 5) (C := RX5) (T := TX5) (N := 12) (ty := .int) (v := .int (0 : Int32)) hC hw5 tyX5 tyX5_ok nmX5 hK hP hD hS 0 rfl rfl 6 (by decide) hl0 rfl (by decide +kernel) rfl rfl (Nat.le_of_ble_eq_true rfl) (by rw [eM1]; rfl) dX5_set_2 rfl (fun H locs hP hD hS => ?_)
  refine lv_iload_n hx hb dX5_set_5 rfl (lv_at hl 1 rfl) ?_
  refine lv_iconst (v := (0 : Int32)) hx hb dX5_set_6 (by decide) ?_
  refine lv_iconst (v := (3 : Int32)) hx hb dX5_set_7 (by decide) ?_
  obtain ⟨x2, hq2, hR⟩ := kk_bd_el hR
  refine kk_call_Si (w' := (w_M g a M1)) (As := [.int v1, .int (0 : Int32), .int (3 : Int32)]) (rest := []) hC (sX5_in l g n   v1 (0 : Int32) (3 : Int32) x2 hq2) (va_cwS 3 hts gX5_set_X5_in rfl rfl rfl (by decide +kernel) ⟨Nat.le_of_ble_eq_true rfl, Nat.le_of_ble_eq_true rfl⟩) hK hP hD hS hA [] rfl (by decide +kernel) rfl rfl rfl rfl hl.1 (Nat.le_of_ble_eq_true rfl) dX5_set_8 (fun H locs hP hD hS => ?_)
  refine lv_if_ne (tgt := 20) hx hb dX5_set_11 (by decide) (fun c3 => ?_) (fun c3 => ?_)
  · replace hR := (if_neg c3).symm.trans hR
    refine lv_iload_n hx hb dX5_set_20 rfl (lv_at hl 2 rfl) ?_
    refine lv_iload_n hx hb dX5_set_21 rfl (lv_at hl 1 rfl) ?_
    refine lv_iconst (v := (3 : Int32)) hx hb dX5_set_22 (by decide) ?_
    obtain ⟨x5, hq5, hR⟩ := kk_bd_el hR
    refine kk_cut (g := g) (A := A) (w' := (w_M g a M1)) (nL := 4) (lv := [(0, .ref (a 0)), (1, .int v1), (2, .int v2)]) (pcJ := 31) (st := [.int x5, .int v2]) (fun H locs ls hP hD hS hl => ?_) (fun hj5 => ?_)
    · refine lv_iload_n hx hb dX5_set_31 rfl (lv_at hl 1 rfl) ?_
      obtain ⟨x9, hq9, hR⟩ := kk_bd_el hR
      refine kk_cut (g := g) (A := A) (w' := (w_M g a M1)) (nL := 4) (lv := [(0, .ref (a 0)), (1, .int v1), (2, .int v2)]) (pcJ := 52) (st := [.int x9, .int x5, .int v2]) (fun H locs ls hP hD hS hl => ?_) (fun hj9 => ?_)
      · obtain ⟨x12, hq12, hR⟩ := kk_bd_el hR
        refine kk_call_Si (w' := (w_M g a M1)) (As := [.int v2, .int x5, .int x9]) (rest := []) hC (sX5_in l g n   v2 x5 x9 x12 hq12) (va_cwS 3 hts gX5_set_X5_in rfl rfl rfl (by decide +kernel) ⟨Nat.le_of_ble_eq_true rfl, Nat.le_of_ble_eq_true rfl⟩) hK hP hD hS hA [] rfl (by decide +kernel) rfl rfl rfl rfl hl.1 (Nat.le_of_ble_eq_true rfl) dX5_set_52 (fun H locs hP hD hS => ?_)
        refine lv_if_ne (tgt := 64) hx hb dX5_set_55 (by decide) (fun c13 => ?_) (fun c13 => ?_)
        · replace hR := (if_neg c13).symm.trans hR
          refine lv_aload_n hx hb dX5_set_64 rfl (lv_at hl 0 rfl) ?_
          obtain ⟨x14, hq14, hR⟩ := kk_bd_el hR
          refine kk_call_Vv (w' := (w_M g a x14)) (As := []) (rest := []) 0 5 hC (sX5_saves l g n a M1  x14 hq14) (cwV 0 hts gX5_set_X5_saves rfl rfl rfl (by decide +kernel) ⟨Nat.le_of_ble_eq_true rfl, Nat.le_of_ble_eq_true rfl⟩) hK hP hD hS hA [0, 1, 2, 3, 4, 5, 6] rfl (by decide +kernel) rfl rfl rfl rfl rfl rfl rfl hl.1 (Nat.le_of_ble_eq_true rfl) dX5_set_65 (fun H locs hP hD hS => ?_)
          refine lv_aload_n hx hb dX5_set_68 rfl (lv_at hl 0 rfl) ?_
          refine va_get (ci := 5) (C := RX5) (T := TX5) (N := 12) hx hb hts hw5 hown hK hP 0 rfl rfl 0 (by decide) hl1 (fun _ h9 => h9) rfl dX5_set_69 ?_
          refine lv_iload_n hx hb dX5_set_72 rfl (lv_at hl 1 rfl) ?_
          obtain ⟨hi15, hR⟩ := kk_ck_el hR
          refine va_iald hx hb hK hP 1 0 rfl rfl hi15 dX5_set_73 ?_
          refine lv_istore_n (lv' := [(3, .int ((x14 0) v1.toNatClampNeg)), (0, .ref (a 0)), (1, .int v1), (2, .int v2)]) hx hb dX5_set_74 rfl hl (by decide) rfl (fun ls hl => ?_)
          refine lv_aload_n hx hb dX5_set_75 rfl (lv_at hl 1 rfl) ?_
          refine va_get (ci := 5) (C := RX5) (T := TX5) (N := 12) hx hb hts hw5 hown hK hP 0 rfl rfl 0 (by decide) hl1 (fun _ h9 => h9) rfl dX5_set_76 ?_
          refine lv_iload_n hx hb dX5_set_79 rfl (lv_at hl 2 rfl) ?_
          refine lv_iload_n hx hb dX5_set_80 rfl (lv_at hl 3 rfl) ?_
          obtain ⟨hi17, hR⟩ := kk_ck_el hR
          obtain ⟨M16, eM16, hR⟩ := kk_nm_el hR
          refine kk_iast (w' := (w_M g a M16)) hC hK hP hD hS 1 rfl hi17 (by rw [eM16]; rfl) dX5_set_81 (fun H locs hP hD hS => ?_)
          refine lv_iload_n hx hb dX5_set_82 rfl (lv_at hl 0 rfl) ?_
          obtain rfl := Option.some.inj hR
          exact kk_ret_i hC hr hlocks hK hP hD hS dX5_set_83 rfl
        · replace hR := (if_pos c13).symm.trans hR
          refine lv_aload_n hx hb dX5_set_58 rfl (lv_at hl 0 rfl) ?_
          refine lv_iconst (v := (2 : Int32)) hx hb dX5_set_59 (by decide) ?_
          obtain ⟨x18, hq18, hR⟩ := kk_bd_el hR
          refine kk_call_Vi (w' := (w_M g a x18.2)) (As := [.int (2 : Int32)]) (rest := []) 0 5 hC (sX5_fails l g n a M1 (2 : Int32) x18 hq18) (cwV 1 hts gX5_set_X5_fails rfl rfl rfl (by decide +kernel) ⟨Nat.le_of_ble_eq_true rfl, Nat.le_of_ble_eq_true rfl⟩) hK hP hD hS hA [0, 1, 2, 3, 4, 5, 6] rfl (by decide +kernel) rfl rfl rfl rfl rfl rfl rfl hl.1 (Nat.le_of_ble_eq_true rfl) dX5_set_60 (fun H locs hP hD hS => ?_)
          obtain rfl := Option.some.inj hR
          exact kk_ret_i hC hr hlocks hK hP hD hS dX5_set_63 rfl
      replace hR := hq9
      refine lv_if_ne (tgt := 40) hx hb dX5_set_32 (by decide) (fun c10 => ?_) (fun c10 => ?_)
      · replace hR := (if_neg c10).symm.trans hR
        refine lv_iload_n hx hb dX5_set_40 rfl (lv_at hl 1 rfl) ?_
        refine lv_iconst (v := (3 : Int32)) hx hb dX5_set_41 (by decide) ?_
        refine lv_icmp_ne (tgt := 50) hx hb dX5_set_42 (by decide) (fun c11 => ?_) (fun c11 => ?_)
        · replace hR := (if_neg c11).symm.trans hR
          refine lv_bipush (v := (9 : Int32)) hx hb dX5_set_50 (by decide) ?_
          obtain rfl := Option.some.inj hR
          exact hj9 _ _ _ hP hD hS (lv_sub hl [0, 1, 2] rfl)
        · replace hR := (if_pos c11).symm.trans hR
          refine lv_bipush (v := (20 : Int32)) hx hb dX5_set_45 (by decide) ?_
          refine lv_goto (tgt := 52) hx hb dX5_set_47 (by decide) ?_
          obtain rfl := Option.some.inj hR
          exact hj9 _ _ _ hP hD hS (lv_sub hl [0, 1, 2] rfl)
      · replace hR := (if_pos c10).symm.trans hR
        refine lv_bipush (v := (6 : Int32)) hx hb dX5_set_35 (by decide) ?_
        refine lv_goto (tgt := 52) hx hb dX5_set_37 (by decide) ?_
        obtain rfl := Option.some.inj hR
        exact hj9 _ _ _ hP hD hS (lv_sub hl [0, 1, 2] rfl)
    replace hR := hq5
    refine lv_icmp_ne (tgt := 30) hx hb dX5_set_23 (by decide) (fun c6 => ?_) (fun c6 => ?_)
    · replace hR := (if_neg c6).symm.trans hR
      refine lv_iconst (v := (1 : Int32)) hx hb dX5_set_30 (by decide) ?_
      obtain rfl := Option.some.inj hR
      exact hj5 _ _ _ hP hD hS (lv_sub hl [0, 1, 2] rfl)
    · replace hR := (if_pos c6).symm.trans hR
      refine lv_iconst (v := (0 : Int32)) hx hb dX5_set_26 (by decide) ?_
      refine lv_goto (tgt := 31) hx hb dX5_set_27 (by decide) ?_
      obtain rfl := Option.some.inj hR
      exact hj5 _ _ _ hP hD hS (lv_sub hl [0, 1, 2] rfl)
  · replace hR := (if_pos c3).symm.trans hR
    refine lv_aload_n hx hb dX5_set_14 rfl (lv_at hl 0 rfl) ?_
    refine lv_iconst (v := (1 : Int32)) hx hb dX5_set_15 (by decide) ?_
    obtain ⟨x19, hq19, hR⟩ := kk_bd_el hR
    refine kk_call_Vi (w' := (w_M g a x19.2)) (As := [.int (1 : Int32)]) (rest := []) 0 5 hC (sX5_fails l g n a M1 (1 : Int32) x19 hq19) (cwV 1 hts gX5_set_X5_fails rfl rfl rfl (by decide +kernel) ⟨Nat.le_of_ble_eq_true rfl, Nat.le_of_ble_eq_true rfl⟩) hK hP hD hS hA [0, 1, 2, 3, 4, 5, 6] rfl (by decide +kernel) rfl rfl rfl rfl rfl rfl rfl hl.1 (Nat.le_of_ble_eq_true rfl) dX5_set_16 (fun H locs hP hD hS => ?_)
    obtain rfl := Option.some.inj hR
    exact kk_ret_i hC hr hlocks hK hP hD hS dX5_set_19 rfl
set_option maxHeartbeats 8000000 in
set_option maxRecDepth 100000 in
theorem sX5_append (l : Launch) (g : kG) (n : Nat) (a : Nat → Nat) (M : St1) (v1 : Int32) (r : Int32 × St1) (hR : fX5_append n M v1 = some r) : kSp l g yX5_append wsX5_append ({ frames := 1, cells := 0, slots := 0, locals := 22 }) [.ref (a 0), .int v1] (w_M g a M) (kQi g (w_M g a r.2) r.1) := by
  refine kSp.of (cc := cX5_append) (maxL := 2) (ret := (some .int)) (by decide) rfl (Nat.le_of_ble_eq_true rfl) ?_
  intro p e s m args below meth c ls A hC hr hlocks hA hK hl hP hD hS
  replace hC : CallFix p m c cX5_append 2 s args wsX5_append RX5 := hC
  obtain ⟨hx, hb, hml, hown, hts⟩ := id hC
  replace hl : lv_has ls 2 [(0, .ref (a 0)), (1, .int v1)] := hl
  unfold fX5_append at hR
  have hw5 : ∀ w ∈ wsX50, w ∈ wsX5_append := by decide +kernel
  have hl0 := hts (.fieldLink RX5 28 "FloatOrderModel" "thrown" "I") (by decide +kernel)
  have hl1 := hts (.fieldLink RX5 110 "FloatOrderModel" "typed" "I") (by decide +kernel)
  have hl2 := hts (.fieldLink RX5 19 "FloatOrderModel" "text" "[I") (by decide +kernel)
  refine lv_aload_n hx hb dX5_append_0 rfl (lv_at hl 0 rfl) ?_
  refine lv_iconst (v := (0 : Int32)) hx hb dX5_append_1 (by decide) ?_
  obtain ⟨M1, eM1, hR⟩ := kk_nm_el hR
  refine kk_put (w' := (w_M g a M1)) (ci := 5) (C := RX5) (T := TX5) (N := 12) (ty := .int) (v := .int (0 : Int32)) hC hw5 tyX5 tyX5_ok nmX5 hK hP hD hS 0 rfl rfl 6 (by decide) hl0 rfl (by decide +kernel) rfl rfl (Nat.le_of_ble_eq_true rfl) (by rw [eM1]; rfl) dX5_append_2 rfl (fun H locs hP hD hS => ?_)
  refine lv_iload_n hx hb dX5_append_5 rfl (lv_at hl 1 rfl) ?_
  refine lv_bipush (v := (33 : Int32)) hx hb dX5_append_6 (by decide) ?_
  refine lv_bipush (v := (126 : Int32)) hx hb dX5_append_8 (by decide) ?_
  obtain ⟨x2, hq2, hR⟩ := kk_bd_el hR
  refine kk_call_Si (w' := (w_M g a M1)) (As := [.int v1, .int (33 : Int32), .int (126 : Int32)]) (rest := []) hC (sX5_in l g n   v1 (33 : Int32) (126 : Int32) x2 hq2) (va_cwS 3 hts gX5_append_X5_in rfl rfl rfl (by decide +kernel) ⟨Nat.le_of_ble_eq_true rfl, Nat.le_of_ble_eq_true rfl⟩) hK hP hD hS hA [] rfl (by decide +kernel) rfl rfl rfl rfl hl.1 (Nat.le_of_ble_eq_true rfl) dX5_append_10 (fun H locs hP hD hS => ?_)
  refine lv_if_ne (tgt := 22) hx hb dX5_append_13 (by decide) (fun c3 => ?_) (fun c3 => ?_)
  · replace hR := (if_neg c3).symm.trans hR
    refine lv_aload_n hx hb dX5_append_22 rfl (lv_at hl 0 rfl) ?_
    refine va_get (ci := 5) (C := RX5) (T := TX5) (N := 12) hx hb hts hw5 hown hK hP 0 rfl rfl 5 (by decide) hl1 (fun _ h9 => h9) rfl dX5_append_23 ?_
    refine lv_bipush (v := (60 : Int32)) hx hb dX5_append_26 (by decide) ?_
    refine lv_icmp_ne (tgt := 37) hx hb dX5_append_28 (by decide) (fun c4 => ?_) (fun c4 => ?_)
    · replace hR := (if_neg c4).symm.trans hR
      refine lv_aload_n hx hb dX5_append_37 rfl (lv_at hl 0 rfl) ?_
      refine va_get (ci := 5) (C := RX5) (T := TX5) (N := 12) hx hb hts hw5 hown hK hP 0 rfl rfl 4 (by decide) hl2 (fun _ h9 => h9) rfl dX5_append_38 ?_
      refine lv_aload_n hx hb dX5_append_41 rfl (lv_at hl 0 rfl) ?_
      refine va_get (ci := 5) (C := RX5) (T := TX5) (N := 12) hx hb hts hw5 hown hK hP 0 rfl rfl 5 (by decide) hl1 (fun _ h9 => h9) rfl dX5_append_42 ?_
      refine lv_iload_n hx hb dX5_append_45 rfl (lv_at hl 1 rfl) ?_
      obtain ⟨hi6, hR⟩ := kk_ck_el hR
      obtain ⟨M5, eM5, hR⟩ := kk_nm_el hR
      refine kk_iast (w' := (w_M g a M5)) hC hK hP hD hS 4 rfl hi6 (by rw [eM5]; rfl) dX5_append_46 (fun H locs hP hD hS => ?_)
      refine lv_aload_n hx hb dX5_append_47 rfl (lv_at hl 0 rfl) ?_
      refine lv_dup hx hb dX5_append_48 rfl ?_
      refine va_get (ci := 5) (C := RX5) (T := TX5) (N := 12) hx hb hts hw5 hown hK hP 0 rfl rfl 5 (by decide) hl1 (fun _ h9 => h9) rfl dX5_append_49 ?_
      refine lv_iconst (v := (1 : Int32)) hx hb dX5_append_52 (by decide) ?_
      refine lv_iadd hx hb dX5_append_53 ?_
      obtain ⟨M7, eM7, hR⟩ := kk_nm_el hR
      refine kk_put (w' := (w_M g a M7)) (ci := 5) (C := RX5) (T := TX5) (N := 12) (ty := .int) (v := .int ((M5 5 0) + (1 : Int32))) hC hw5 tyX5 tyX5_ok nmX5 hK hP hD hS 0 rfl rfl 5 (by decide) hl1 rfl (by decide +kernel) rfl rfl (Nat.le_of_ble_eq_true rfl) (by rw [eM7]; rfl) dX5_append_54 rfl (fun H locs hP hD hS => ?_)
      refine lv_aload_n hx hb dX5_append_57 rfl (lv_at hl 0 rfl) ?_
      refine va_get (ci := 5) (C := RX5) (T := TX5) (N := 12) hx hb hts hw5 hown hK hP 0 rfl rfl 5 (by decide) hl1 (fun _ h9 => h9) rfl dX5_append_58 ?_
      obtain rfl := Option.some.inj hR
      exact kk_ret_i hC hr hlocks hK hP hD hS dX5_append_61 rfl
    · replace hR := (if_pos c4).symm.trans hR
      refine lv_aload_n hx hb dX5_append_31 rfl (lv_at hl 0 rfl) ?_
      refine lv_iconst (v := (2 : Int32)) hx hb dX5_append_32 (by decide) ?_
      obtain ⟨x8, hq8, hR⟩ := kk_bd_el hR
      refine kk_call_Vi (w' := (w_M g a x8.2)) (As := [.int (2 : Int32)]) (rest := []) 0 5 hC (sX5_fails l g n a M1 (2 : Int32) x8 hq8) (cwV 1 hts gX5_append_X5_fails rfl rfl rfl (by decide +kernel) ⟨Nat.le_of_ble_eq_true rfl, Nat.le_of_ble_eq_true rfl⟩) hK hP hD hS hA [0, 1, 2, 3, 4, 5, 6] rfl (by decide +kernel) rfl rfl rfl rfl rfl rfl rfl hl.1 (Nat.le_of_ble_eq_true rfl) dX5_append_33 (fun H locs hP hD hS => ?_)
      obtain rfl := Option.some.inj hR
      exact kk_ret_i hC hr hlocks hK hP hD hS dX5_append_36 rfl
  · replace hR := (if_pos c3).symm.trans hR
    refine lv_aload_n hx hb dX5_append_16 rfl (lv_at hl 0 rfl) ?_
    refine lv_iconst (v := (1 : Int32)) hx hb dX5_append_17 (by decide) ?_
    obtain ⟨x9, hq9, hR⟩ := kk_bd_el hR
    refine kk_call_Vi (w' := (w_M g a x9.2)) (As := [.int (1 : Int32)]) (rest := []) 0 5 hC (sX5_fails l g n a M1 (1 : Int32) x9 hq9) (cwV 1 hts gX5_append_X5_fails rfl rfl rfl (by decide +kernel) ⟨Nat.le_of_ble_eq_true rfl, Nat.le_of_ble_eq_true rfl⟩) hK hP hD hS hA [0, 1, 2, 3, 4, 5, 6] rfl (by decide +kernel) rfl rfl rfl rfl rfl rfl rfl hl.1 (Nat.le_of_ble_eq_true rfl) dX5_append_18 (fun H locs hP hD hS => ?_)
    obtain rfl := Option.some.inj hR
    exact kk_ret_i hC hr hlocks hK hP hD hS dX5_append_21 rfl
set_option maxHeartbeats 8000000 in
set_option maxRecDepth 100000 in
theorem sX5_clearBuffer (l : Launch) (g : kG) (n : Nat) (a : Nat → Nat) (M : St1) (r : Int32 × St1) (hR : fX5_clearBuffer n M = some r) : kSp l g yX5_clearBuffer wsX5_clearBuffer ({ frames := 0, cells := 0, slots := 0, locals := 0 }) [.ref (a 0)] (w_M g a M) (kQi g (w_M g a r.2) r.1) := by
  refine kSp.of (cc := cX5_clearBuffer) (maxL := 2) (ret := (some .int)) (by decide) rfl (Nat.le_of_ble_eq_true rfl) ?_
  intro p e s m args below meth c ls A hC hr hlocks hA hK hl hP hD hS
  replace hC : CallFix p m c cX5_clearBuffer 2 s args wsX5_clearBuffer RX5 := hC
  obtain ⟨hx, hb, hml, hown, hts⟩ := id hC
  replace hl : lv_has ls 2 [(0, .ref (a 0))] := hl
  unfold fX5_clearBuffer at hR
  have hw5 : ∀ w ∈ wsX50, w ∈ wsX5_clearBuffer := by decide +kernel
  have hl0 := hts (.fieldLink RX5 28 "FloatOrderModel" "thrown" "I") (by decide +kernel)
  have hl1 := hts (.fieldLink RX5 110 "FloatOrderModel" "typed" "I") (by decide +kernel)
  refine lv_aload_n hx hb dX5_clearBuffer_0 rfl (lv_at hl 0 rfl) ?_
  refine lv_iconst (v := (0 : Int32)) hx hb dX5_clearBuffer_1 (by decide) ?_
  obtain ⟨M1, eM1, hR⟩ := kk_nm_el hR
  refine kk_put (w' := (w_M g a M1)) (ci := 5) (C := RX5) (T := TX5) (N := 12) (ty := .int) (v := .int (0 : Int32)) hC hw5 tyX5 tyX5_ok nmX5 hK hP hD hS 0 rfl rfl 6 (by decide) hl0 rfl (by decide +kernel) rfl rfl (Nat.le_of_ble_eq_true rfl) (by rw [eM1]; rfl) dX5_clearBuffer_2 rfl (fun H locs hP hD hS => ?_)
  refine lv_aload_n hx hb dX5_clearBuffer_5 rfl (lv_at hl 0 rfl) ?_
  refine va_get (ci := 5) (C := RX5) (T := TX5) (N := 12) hx hb hts hw5 hown hK hP 0 rfl rfl 5 (by decide) hl1 (fun _ h9 => h9) rfl dX5_clearBuffer_6 ?_
  refine lv_istore_n (lv' := [(1, .int (M1 5 0)), (0, .ref (a 0))]) hx hb dX5_clearBuffer_9 rfl hl (by decide) rfl (fun ls hl => ?_)
  refine lv_aload_n hx hb dX5_clearBuffer_10 rfl (lv_at hl 1 rfl) ?_
  refine lv_iconst (v := (0 : Int32)) hx hb dX5_clearBuffer_11 (by decide) ?_
  obtain ⟨M2, eM2, hR⟩ := kk_nm_el hR
  refine kk_put (w' := (w_M g a M2)) (ci := 5) (C := RX5) (T := TX5) (N := 12) (ty := .int) (v := .int (0 : Int32)) hC hw5 tyX5 tyX5_ok nmX5 hK hP hD hS 0 rfl rfl 5 (by decide) hl1 rfl (by decide +kernel) rfl rfl (Nat.le_of_ble_eq_true rfl) (by rw [eM2]; rfl) dX5_clearBuffer_12 rfl (fun H locs hP hD hS => ?_)
  refine lv_iload_n hx hb dX5_clearBuffer_15 rfl (lv_at hl 0 rfl) ?_
  obtain rfl := Option.some.inj hR
  exact kk_ret_i hC hr hlocks hK hP hD hS dX5_clearBuffer_16 rfl
set_option maxHeartbeats 8000000 in
set_option maxRecDepth 100000 in
theorem sX5_isAt (l : Launch) (g : kG) (n : Nat) (a : Nat → Nat) (M : St1) (v1 : Int32) (v2 : Int32) (r : Int32) (hR : fX5_isAt n M v1 v2 = some r) : kSp l g yX5_isAt wsX5_isAt ({ frames := 1, cells := 0, slots := 0, locals := 22 }) [.ref (a 0), .int v1, .int v2] (w_M g a M) (kQi g (w_M g a M) r) := by
  refine kSp.of (cc := cX5_isAt) (maxL := 3) (ret := (some .boolean)) (by decide) rfl (Nat.le_of_ble_eq_true rfl) ?_
  intro p e s m args below meth c ls A hC hr hlocks hA hK hl hP hD hS
  replace hC : CallFix p m c cX5_isAt 3 s args wsX5_isAt RX5 := hC
  obtain ⟨hx, hb, hml, hown, hts⟩ := id hC
  replace hl : lv_has ls 3 [(0, .ref (a 0)), (1, .int v1), (2, .int v2)] := hl
  unfold fX5_isAt at hR
  have hw5 : ∀ w ∈ wsX50, w ∈ wsX5_isAt := by decide +kernel
  have hl0 := hts (.fieldLink RX5 113 "FloatOrderModel" "at" "I") (by decide +kernel)
  have hl1 := hts (.fieldLink RX5 110 "FloatOrderModel" "typed" "I") (by decide +kernel)
  have hl2 := hts (.fieldLink RX5 19 "FloatOrderModel" "text" "[I") (by decide +kernel)
  refine lv_aload_n hx hb dX5_isAt_0 rfl (lv_at hl 0 rfl) ?_
  refine va_get (ci := 5) (C := RX5) (T := TX5) (N := 12) hx hb hts hw5 hown hK hP 0 rfl rfl 7 (by decide) hl0 (fun _ h9 => h9) rfl dX5_isAt_1 ?_
  refine lv_aload_n hx hb dX5_isAt_4 rfl (lv_at hl 0 rfl) ?_
  refine va_get (ci := 5) (C := RX5) (T := TX5) (N := 12) hx hb hts hw5 hown hK hP 0 rfl rfl 5 (by decide) hl1 (fun _ h9 => h9) rfl dX5_isAt_5 ?_
  refine lv_icmp_ge (tgt := 32) hx hb dX5_isAt_8 (by decide) (fun c1 => ?_) (fun c1 => ?_)
  · replace hR := (if_pos c1).symm.trans hR
    refine lv_iconst (v := (0 : Int32)) hx hb dX5_isAt_32 (by decide) ?_
    obtain rfl := Option.some.inj hR
    exact kk_ret_z hC hr hlocks hK hP hD hS dX5_isAt_33 (by decide) rfl
  · replace hR := (if_neg c1).symm.trans hR
    refine lv_aload_n hx hb dX5_isAt_11 rfl (lv_at hl 0 rfl) ?_
    refine va_get (ci := 5) (C := RX5) (T := TX5) (N := 12) hx hb hts hw5 hown hK hP 0 rfl rfl 4 (by decide) hl2 (fun _ h9 => h9) rfl dX5_isAt_12 ?_
    refine lv_aload_n hx hb dX5_isAt_15 rfl (lv_at hl 0 rfl) ?_
    refine va_get (ci := 5) (C := RX5) (T := TX5) (N := 12) hx hb hts hw5 hown hK hP 0 rfl rfl 7 (by decide) hl0 (fun _ h9 => h9) rfl dX5_isAt_16 ?_
    obtain ⟨hi3, hR⟩ := kk_ck_el hR
    refine va_iald hx hb hK hP 4 0 rfl rfl hi3 dX5_isAt_19 ?_
    refine lv_iload_n hx hb dX5_isAt_20 rfl (lv_at hl 1 rfl) ?_
    refine lv_iload_n hx hb dX5_isAt_21 rfl (lv_at hl 2 rfl) ?_
    obtain ⟨x4, hq4, hR⟩ := kk_bd_el hR
    refine kk_call_Si (w' := (w_M g a M)) (As := [.int ((M 4) (M 7 0).toNatClampNeg), .int v1, .int v2]) (rest := []) hC (sX5_in l g n   ((M 4) (M 7 0).toNatClampNeg) v1 v2 x4 hq4) (va_cwS 3 hts gX5_isAt_X5_in rfl rfl rfl (by decide +kernel) ⟨Nat.le_of_ble_eq_true rfl, Nat.le_of_ble_eq_true rfl⟩) hK hP hD hS hA [] rfl (by decide +kernel) rfl rfl rfl rfl hl.1 (Nat.le_of_ble_eq_true rfl) dX5_isAt_22 (fun H locs hP hD hS => ?_)
    refine lv_if_eq (tgt := 32) hx hb dX5_isAt_25 (by decide) (fun c5 => ?_) (fun c5 => ?_)
    · replace hR := (if_pos c5).symm.trans hR
      refine lv_iconst (v := (0 : Int32)) hx hb dX5_isAt_32 (by decide) ?_
      obtain rfl := Option.some.inj hR
      exact kk_ret_z hC hr hlocks hK hP hD hS dX5_isAt_33 (by decide) rfl
    · replace hR := (if_neg c5).symm.trans hR
      refine lv_iconst (v := (1 : Int32)) hx hb dX5_isAt_28 (by decide) ?_
      refine lv_goto (tgt := 33) hx hb dX5_isAt_29 (by decide) ?_
      obtain rfl := Option.some.inj hR
      exact kk_ret_z hC hr hlocks hK hP hD hS dX5_isAt_33 (by decide) rfl
set_option maxHeartbeats 8000000 in
set_option maxRecDepth 100000 in
theorem sX5_stops (l : Launch) (g : kG) (n : Nat) (a : Nat → Nat) (M : St1) (r : Int32 × St1) (hR : fX5_stops n M = some r) : kSp l g yX5_stops wsX5_stops ({ frames := 0, cells := 0, slots := 0, locals := 0 }) [.ref (a 0)] (w_M g a M) (kQi g (w_M g a r.2) r.1) := by
  refine kSp.of (cc := cX5_stops) (maxL := 1) (ret := (some .boolean)) (by decide) rfl (Nat.le_of_ble_eq_true rfl) ?_
  intro p e s m args below meth c ls A hC hr hlocks hA hK hl hP hD hS
  replace hC : CallFix p m c cX5_stops 1 s args wsX5_stops RX5 := hC
  obtain ⟨hx, hb, hml, hown, hts⟩ := id hC
  replace hl : lv_has ls 1 [(0, .ref (a 0))] := hl
  unfold fX5_stops at hR
  have hw5 : ∀ w ∈ wsX50, w ∈ wsX5_stops := by decide +kernel
  have hl0 := hts (.fieldLink RX5 113 "FloatOrderModel" "at" "I") (by decide +kernel)
  have hl1 := hts (.fieldLink RX5 110 "FloatOrderModel" "typed" "I") (by decide +kernel)
  have hl2 := hts (.fieldLink RX5 116 "FloatOrderModel" "isFault" "Z") (by decide +kernel)
  refine lv_aload_n hx hb dX5_stops_0 rfl (lv_at hl 0 rfl) ?_
  refine lv_aload_n hx hb dX5_stops_1 rfl (lv_at hl 0 rfl) ?_
  refine va_get (ci := 5) (C := RX5) (T := TX5) (N := 12) hx hb hts hw5 hown hK hP 0 rfl rfl 7 (by decide) hl0 (fun _ h9 => h9) rfl dX5_stops_2 ?_
  refine lv_aload_n hx hb dX5_stops_5 rfl (lv_at hl 0 rfl) ?_
  refine va_get (ci := 5) (C := RX5) (T := TX5) (N := 12) hx hb hts hw5 hown hK hP 0 rfl rfl 5 (by decide) hl1 (fun _ h9 => h9) rfl dX5_stops_6 ?_
  obtain ⟨x2, hq2, hR⟩ := kk_bd_el hR
  refine kk_cut (g := g) (A := A) (w' := (w_M g a M)) (nL := 1) (lv := []) (pcJ := 17) (st := [.int x2, .ref (a 0)]) (fun H locs ls hP hD hS hl => ?_) (fun hj2 => ?_)
  · obtain ⟨hz5, hR⟩ := kk_cb_el hR
    obtain ⟨M4, eM4, hR⟩ := kk_nm_el hR
    refine kk_put (w' := (w_M g a M4)) (ci := 5) (C := RX5) (T := TX5) (N := 12) (ty := .boolean) (v := .int x2) hC hw5 tyX5 tyX5_ok nmX5 hK hP hD hS 0 rfl rfl 8 (by decide) hl2 rfl (by decide +kernel) (kk_nz hz5) (kk_fz hz5) (Nat.le_of_ble_eq_true rfl) (by rw [eM4]; rfl) dX5_stops_17 rfl (fun H locs hP hD hS => ?_)
    refine lv_iconst (v := (0 : Int32)) hx hb dX5_stops_20 (by decide) ?_
    obtain rfl := Option.some.inj hR
    exact kk_ret_z hC hr hlocks hK hP hD hS dX5_stops_21 (by decide) rfl
  replace hR := hq2
  refine lv_icmp_ge (tgt := 16) hx hb dX5_stops_9 (by decide) (fun c3 => ?_) (fun c3 => ?_)
  · replace hR := (if_pos c3).symm.trans hR
    refine lv_iconst (v := (0 : Int32)) hx hb dX5_stops_16 (by decide) ?_
    obtain rfl := Option.some.inj hR
    exact hj2 _ _ _ hP hD hS (lv_sub hl [] rfl)
  · replace hR := (if_neg c3).symm.trans hR
    refine lv_iconst (v := (1 : Int32)) hx hb dX5_stops_12 (by decide) ?_
    refine lv_goto (tgt := 17) hx hb dX5_stops_13 (by decide) ?_
    obtain rfl := Option.some.inj hR
    exact hj2 _ _ _ hP hD hS (lv_sub hl [] rfl)
set_option maxHeartbeats 8000000 in
set_option maxRecDepth 100000 in
theorem sX5_kindAt (l : Launch) (g : kG) (n : Nat) (a : Nat → Nat) (M : St1) (r : Int32) (hR : fX5_kindAt n M = some r) : kSp l g yX5_kindAt wsX5_kindAt ({ frames := 0, cells := 0, slots := 0, locals := 0 }) [.ref (a 0)] (w_M g a M) (kQi g (w_M g a M) r) := by
  refine kSp.of (cc := cX5_kindAt) (maxL := 2) (ret := (some .int)) (by decide) rfl (Nat.le_of_ble_eq_true rfl) ?_
  intro p e s m args below meth c ls A hC hr hlocks hA hK hl hP hD hS
  replace hC : CallFix p m c cX5_kindAt 2 s args wsX5_kindAt RX5 := hC
  obtain ⟨hx, hb, hml, hown, hts⟩ := id hC
  replace hl : lv_has ls 2 [(0, .ref (a 0))] := hl
  unfold fX5_kindAt at hR
  have hw5 : ∀ w ∈ wsX50, w ∈ wsX5_kindAt := by decide +kernel
  have hl0 := hts (.fieldLink RX5 113 "FloatOrderModel" "at" "I") (by decide +kernel)
  have hl1 := hts (.fieldLink RX5 110 "FloatOrderModel" "typed" "I") (by decide +kernel)
  have hl2 := hts (.fieldLink RX5 19 "FloatOrderModel" "text" "[I") (by decide +kernel)
  refine lv_aload_n hx hb dX5_kindAt_0 rfl (lv_at hl 0 rfl) ?_
  refine va_get (ci := 5) (C := RX5) (T := TX5) (N := 12) hx hb hts hw5 hown hK hP 0 rfl rfl 7 (by decide) hl0 (fun _ h9 => h9) rfl dX5_kindAt_1 ?_
  refine lv_aload_n hx hb dX5_kindAt_4 rfl (lv_at hl 0 rfl) ?_
  refine va_get (ci := 5) (C := RX5) (T := TX5) (N := 12) hx hb hts hw5 hown hK hP 0 rfl rfl 5 (by decide) hl1 (fun _ h9 => h9) rfl dX5_kindAt_5 ?_
  obtain ⟨x3, hq3, hR⟩ := kk_bd_el hR
  refine kk_cut (g := g) (A := A) (w' := (w_M g a M)) (nL := 2) (lv := []) (pcJ := 24) (st := [.int x3]) (fun H locs ls hP hD hS hl => ?_) (fun hj3 => ?_)
  · refine lv_istore_n (lv' := [(1, .int x3)]) hx hb dX5_kindAt_24 rfl hl (by decide) rfl (fun ls hl => ?_)
    refine lv_iload_n hx hb dX5_kindAt_25 rfl (lv_at hl 0 rfl) ?_
    refine lv_bipush (v := (99 : Int32)) hx hb dX5_kindAt_26 (by decide) ?_
    refine lv_icmp_ne (tgt := 35) hx hb dX5_kindAt_28 (by decide) (fun c6 => ?_) (fun c6 => ?_)
    · replace hR := (if_neg c6).symm.trans hR
      refine lv_iload_n hx hb dX5_kindAt_35 rfl (lv_at hl 0 rfl) ?_
      refine lv_bipush (v := (104 : Int32)) hx hb dX5_kindAt_36 (by decide) ?_
      refine lv_icmp_ne (tgt := 45) hx hb dX5_kindAt_38 (by decide) (fun c7 => ?_) (fun c7 => ?_)
      · replace hR := (if_neg c7).symm.trans hR
        refine lv_iload_n hx hb dX5_kindAt_45 rfl (lv_at hl 0 rfl) ?_
        refine lv_bipush (v := (98 : Int32)) hx hb dX5_kindAt_46 (by decide) ?_
        refine lv_icmp_ne (tgt := 55) hx hb dX5_kindAt_48 (by decide) (fun c8 => ?_) (fun c8 => ?_)
        · replace hR := (if_neg c8).symm.trans hR
          refine lv_iload_n hx hb dX5_kindAt_55 rfl (lv_at hl 0 rfl) ?_
          refine lv_bipush (v := (103 : Int32)) hx hb dX5_kindAt_56 (by decide) ?_
          refine lv_icmp_ne (tgt := 65) hx hb dX5_kindAt_58 (by decide) (fun c9 => ?_) (fun c9 => ?_)
          · replace hR := (if_neg c9).symm.trans hR
            refine lv_iconst (v := (-1 : Int32)) hx hb dX5_kindAt_65 (by decide) ?_
            obtain rfl := Option.some.inj hR
            exact kk_ret_i hC hr hlocks hK hP hD hS dX5_kindAt_66 rfl
          · replace hR := (if_pos c9).symm.trans hR
            refine lv_iconst (v := (3 : Int32)) hx hb dX5_kindAt_61 (by decide) ?_
            refine lv_goto (tgt := 66) hx hb dX5_kindAt_62 (by decide) ?_
            obtain rfl := Option.some.inj hR
            exact kk_ret_i hC hr hlocks hK hP hD hS dX5_kindAt_66 rfl
        · replace hR := (if_pos c8).symm.trans hR
          refine lv_iconst (v := (2 : Int32)) hx hb dX5_kindAt_51 (by decide) ?_
          refine lv_goto (tgt := 66) hx hb dX5_kindAt_52 (by decide) ?_
          obtain rfl := Option.some.inj hR
          exact kk_ret_i hC hr hlocks hK hP hD hS dX5_kindAt_66 rfl
      · replace hR := (if_pos c7).symm.trans hR
        refine lv_iconst (v := (1 : Int32)) hx hb dX5_kindAt_41 (by decide) ?_
        refine lv_goto (tgt := 66) hx hb dX5_kindAt_42 (by decide) ?_
        obtain rfl := Option.some.inj hR
        exact kk_ret_i hC hr hlocks hK hP hD hS dX5_kindAt_66 rfl
    · replace hR := (if_pos c6).symm.trans hR
      refine lv_iconst (v := (0 : Int32)) hx hb dX5_kindAt_31 (by decide) ?_
      refine lv_goto (tgt := 66) hx hb dX5_kindAt_32 (by decide) ?_
      obtain rfl := Option.some.inj hR
      exact kk_ret_i hC hr hlocks hK hP hD hS dX5_kindAt_66 rfl
  replace hR := hq3
  refine lv_icmp_ge (tgt := 23) hx hb dX5_kindAt_8 (by decide) (fun c4 => ?_) (fun c4 => ?_)
  · replace hR := (if_pos c4).symm.trans hR
    refine lv_iconst (v := (0 : Int32)) hx hb dX5_kindAt_23 (by decide) ?_
    obtain rfl := Option.some.inj hR
    exact hj3 _ _ _ hP hD hS (lv_sub hl [] rfl)
  · replace hR := (if_neg c4).symm.trans hR
    refine lv_aload_n hx hb dX5_kindAt_11 rfl (lv_at hl 0 rfl) ?_
    refine va_get (ci := 5) (C := RX5) (T := TX5) (N := 12) hx hb hts hw5 hown hK hP 0 rfl rfl 4 (by decide) hl2 (fun _ h9 => h9) rfl dX5_kindAt_12 ?_
    refine lv_aload_n hx hb dX5_kindAt_15 rfl (lv_at hl 0 rfl) ?_
    refine va_get (ci := 5) (C := RX5) (T := TX5) (N := 12) hx hb hts hw5 hown hK hP 0 rfl rfl 7 (by decide) hl0 (fun _ h9 => h9) rfl dX5_kindAt_16 ?_
    obtain ⟨hi5, hR⟩ := kk_ck_el hR
    refine va_iald hx hb hK hP 4 0 rfl rfl hi5 dX5_kindAt_19 ?_
    refine lv_goto (tgt := 24) hx hb dX5_kindAt_20 (by decide) ?_
    obtain rfl := Option.some.inj hR
    exact hj3 _ _ _ hP hD hS (lv_sub hl [] rfl)
set_option maxHeartbeats 8000000 in
set_option maxRecDepth 100000 in
theorem sX5_isMask (l : Launch) (g : kG) (n : Nat) (a : Nat → Nat) (M : St1) (r : Int32 × St1) (hR : fX5_isMask n M = some r) : kSp l g yX5_isMask wsX5_isMask ({ frames := 1, cells := 0, slots := 0, locals := 21 }) [.ref (a 0)] (w_M g a M) (kQi g (w_M g a r.2) r.1) := by
  refine kSp.of (cc := cX5_isMask) (maxL := 2) (ret := (some .boolean)) (by decide) rfl (Nat.le_of_ble_eq_true rfl) ?_
  intro p e s m args below meth c ls A hC hr hlocks hA hK hl hP hD hS
  replace hC : CallFix p m c cX5_isMask 2 s args wsX5_isMask RX5 := hC
  obtain ⟨hx, hb, hml, hown, hts⟩ := id hC
  replace hl : lv_has ls 2 [(0, .ref (a 0))] := hl
  unfold fX5_isMask at hR
  have hw5 : ∀ w ∈ wsX50, w ∈ wsX5_isMask := by decide +kernel
  have hl0 := hts (.fieldLink RX5 22 "FloatOrderModel" "told" "[I") (by decide +kernel)
  have hl1 := hts (.fieldLink RX5 123 "FloatOrderModel" "tolds" "I") (by decide +kernel)
  have hl2 := hts (.fieldLink RX5 113 "FloatOrderModel" "at" "I") (by decide +kernel)
  refine lv_iconst (v := (-1 : Int32)) hx hb dX5_isMask_0 (by decide) ?_
  refine lv_istore_n (lv' := [(1, .int (-1 : Int32)), (0, .ref (a 0))]) hx hb dX5_isMask_1 rfl hl (by decide) rfl (fun ls hl => ?_)
  obtain ⟨x13, hq13, hR⟩ := kk_bd_el hR
  refine kk_cut (g := g) (A := A) (w' := (w_M g a x13.2)) (nL := 2) (lv := [(1, .int x13.1), (0, .ref (a 0))]) (pcJ := 47) (st := []) (fun H locs ls hP hD hS hl => ?_) (fun hj13 => ?_)
  · refine lv_iload_n hx hb dX5_isMask_47 rfl (lv_at hl 0 rfl) ?_
    refine lv_iconst (v := (-1 : Int32)) hx hb dX5_isMask_48 (by decide) ?_
    refine lv_icmp_ne (tgt := 59) hx hb dX5_isMask_49 (by decide) (fun c21 => ?_) (fun c21 => ?_)
    · replace hR := (if_neg c21).symm.trans hR
      refine lv_iconst (v := (1 : Int32)) hx hb dX5_isMask_59 (by decide) ?_
      refine lv_goto (tgt := 64) hx hb dX5_isMask_60 (by decide) ?_
      obtain rfl := Option.some.inj hR
      exact kk_ret_z hC hr hlocks hK hP hD hS dX5_isMask_64 (by decide) rfl
    · replace hR := (if_pos c21).symm.trans hR
      refine lv_aload_n hx hb dX5_isMask_52 rfl (lv_at hl 1 rfl) ?_
      obtain ⟨x23, hq23, hR⟩ := kk_bd_el hR
      refine kk_call_Vi (w' := (w_M g a x23.2)) (As := []) (rest := []) 0 5 hC (sX5_stops l g n a x13.2  x23 hq23) (cwV 0 hts gX5_isMask_X5_stops rfl rfl rfl (by decide +kernel) ⟨Nat.le_of_ble_eq_true rfl, Nat.le_of_ble_eq_true rfl⟩) hK hP hD hS hA [0, 1, 2, 3, 4, 5, 6] rfl (by decide +kernel) rfl rfl rfl rfl rfl rfl rfl hl.1 (Nat.le_of_ble_eq_true rfl) dX5_isMask_53 (fun H locs hP hD hS => ?_)
      refine lv_if_eq (tgt := 63) hx hb dX5_isMask_56 (by decide) (fun c24 => ?_) (fun c24 => ?_)
      · replace hR := (if_pos c24).symm.trans hR
        refine lv_iconst (v := (0 : Int32)) hx hb dX5_isMask_63 (by decide) ?_
        obtain rfl := Option.some.inj hR
        exact kk_ret_z hC hr hlocks hK hP hD hS dX5_isMask_64 (by decide) rfl
      · replace hR := (if_neg c24).symm.trans hR
        refine lv_iconst (v := (1 : Int32)) hx hb dX5_isMask_59 (by decide) ?_
        refine lv_goto (tgt := 64) hx hb dX5_isMask_60 (by decide) ?_
        obtain rfl := Option.some.inj hR
        exact kk_ret_z hC hr hlocks hK hP hD hS dX5_isMask_64 (by decide) rfl
  refine kk_loop (g := g) (A := A) (fun (st : Int32 × St1) => (w_M g a st.2)) (fun (st : Int32 × St1) => [(1, .int st.1), (0, .ref (a 0))]) 2 (nL := 2) hq13 (fun st xb12 hR ih1 hX1 => ?_) hP hD hS (lv_sub hl [0, 1] rfl)
  clear hP hD hS hl
  obtain ⟨u10, M11⟩ := st
  intro H locs ls hP hD hS hl
  replace hR : fX5_isMask_b2 n u10 M11 = some xb12 := hR
  replace hP : va_P g.1 vwCl (w_M g a M11) H := hP
  replace hD : va_D A (w_M g a M11) := hD
  replace hl : lv_has ls 2 [(1, .int u10), (0, .ref (a 0))] := hl
  unfold fX5_isMask_b2 at hR
  refine lv_aload_n hx hb dX5_isMask_2 rfl (lv_at hl 1 rfl) ?_
  obtain ⟨x14, hq14, hR⟩ := kk_bd_el hR
  refine kk_call_Vi (w' := (w_M g a M11)) (As := []) (rest := []) 0 5 hC (sX5_kindAt l g n a M11  x14 hq14) (cwV 0 hts gX5_isMask_X5_kindAt rfl rfl rfl (by decide +kernel) ⟨Nat.le_of_ble_eq_true rfl, Nat.le_of_ble_eq_true rfl⟩) hK hP hD hS hA [0, 1, 2, 3, 4, 5, 6] rfl (by decide +kernel) rfl rfl rfl rfl rfl rfl rfl hl.1 (Nat.le_of_ble_eq_true rfl) dX5_isMask_3 (fun H locs hP hD hS => ?_)
  refine lv_iload_n hx hb dX5_isMask_6 rfl (lv_at hl 0 rfl) ?_
  refine lv_icmp_le (tgt := 47) hx hb dX5_isMask_7 (by decide) (fun c15 => ?_) (fun c15 => ?_)
  · replace hR := (if_pos c15).symm.trans hR
    obtain rfl := Option.some.inj hR
    obtain rfl := hX1 _ rfl
    exact hj13 _ _ _ hP hD hS (lv_sub hl [0, 1] rfl)
  · replace hR := (if_neg c15).symm.trans hR
    refine lv_aload_n hx hb dX5_isMask_10 rfl (lv_at hl 1 rfl) ?_
    obtain ⟨x16, hq16, hR⟩ := kk_bd_el hR
    refine kk_call_Vi (w' := (w_M g a M11)) (As := []) (rest := []) 0 5 hC (sX5_kindAt l g n a M11  x16 hq16) (cwV 0 hts gX5_isMask_X5_kindAt rfl rfl rfl (by decide +kernel) ⟨Nat.le_of_ble_eq_true rfl, Nat.le_of_ble_eq_true rfl⟩) hK hP hD hS hA [0, 1, 2, 3, 4, 5, 6] rfl (by decide +kernel) rfl rfl rfl rfl rfl rfl rfl hl.1 (Nat.le_of_ble_eq_true rfl) dX5_isMask_11 (fun H locs hP hD hS => ?_)
    refine lv_istore_n (lv' := [(1, .int x16), (0, .ref (a 0))]) hx hb dX5_isMask_14 rfl hl (by decide) rfl (fun ls hl => ?_)
    refine lv_aload_n hx hb dX5_isMask_15 rfl (lv_at hl 1 rfl) ?_
    refine va_get (ci := 5) (C := RX5) (T := TX5) (N := 12) hx hb hts hw5 hown hK hP 0 rfl rfl 9 (by decide) hl0 (fun _ h9 => h9) rfl dX5_isMask_16 ?_
    refine lv_iconst (v := (3 : Int32)) hx hb dX5_isMask_19 (by decide) ?_
    refine lv_aload_n hx hb dX5_isMask_20 rfl (lv_at hl 1 rfl) ?_
    refine va_get (ci := 5) (C := RX5) (T := TX5) (N := 12) hx hb hts hw5 hown hK hP 0 rfl rfl 10 (by decide) hl1 (fun _ h9 => h9) rfl dX5_isMask_21 ?_
    refine lv_imul hx hb dX5_isMask_24 ?_
    refine lv_iconst (v := (2 : Int32)) hx hb dX5_isMask_25 (by decide) ?_
    refine lv_iadd hx hb dX5_isMask_26 ?_
    refine lv_dup2_11 hx hb dX5_isMask_27 rfl rfl ?_
    obtain ⟨hi17, hR⟩ := kk_ck_el hR
    refine va_iald hx hb hK hP 5 0 rfl rfl hi17 dX5_isMask_28 ?_
    refine lv_iconst (v := (1 : Int32)) hx hb dX5_isMask_29 (by decide) ?_
    refine lv_iload_n hx hb dX5_isMask_30 rfl (lv_at hl 0 rfl) ?_
    refine lv_ishl hx hb dX5_isMask_31 ?_
    refine lv_ior hx hb dX5_isMask_32 ?_
    obtain ⟨hi19, hR⟩ := kk_ck_el hR
    obtain ⟨M18, eM18, hR⟩ := kk_nm_el hR
    refine kk_iast (w' := (w_M g a M18)) hC hK hP hD hS 5 rfl hi19 (by rw [eM18]; rfl) dX5_isMask_33 (fun H locs hP hD hS => ?_)
    refine lv_aload_n hx hb dX5_isMask_34 rfl (lv_at hl 1 rfl) ?_
    refine lv_dup hx hb dX5_isMask_35 rfl ?_
    refine va_get (ci := 5) (C := RX5) (T := TX5) (N := 12) hx hb hts hw5 hown hK hP 0 rfl rfl 7 (by decide) hl2 (fun _ h9 => h9) rfl dX5_isMask_36 ?_
    refine lv_iconst (v := (1 : Int32)) hx hb dX5_isMask_39 (by decide) ?_
    refine lv_iadd hx hb dX5_isMask_40 ?_
    obtain ⟨M20, eM20, hR⟩ := kk_nm_el hR
    refine kk_put (w' := (w_M g a M20)) (ci := 5) (C := RX5) (T := TX5) (N := 12) (ty := .int) (v := .int ((M18 7 0) + (1 : Int32))) hC hw5 tyX5 tyX5_ok nmX5 hK hP hD hS 0 rfl rfl 7 (by decide) hl2 rfl (by decide +kernel) rfl rfl (Nat.le_of_ble_eq_true rfl) (by rw [eM20]; rfl) dX5_isMask_41 rfl (fun H locs hP hD hS => ?_)
    refine lv_goto (tgt := 2) hx hb dX5_isMask_44 (by decide) ?_
    obtain rfl := Option.some.inj hR
    exact ih1 _ rfl _ _ _ hP hD hS (lv_sub hl [0, 1] rfl)
set_option maxHeartbeats 8000000 in
set_option maxRecDepth 100000 in
theorem sX5_isPart (l : Launch) (g : kG) (n : Nat) (a : Nat → Nat) (M : St1) (r : Int32 × St1) (hR : fX5_isPart n M = some r) : kSp l g yX5_isPart wsX5_isPart ({ frames := 2, cells := 0, slots := 0, locals := 44 }) [.ref (a 0)] (w_M g a M) (kQi g (w_M g a r.2) r.1) := by
  refine kSp.of (cc := cX5_isPart) (maxL := 3) (ret := (some .boolean)) (by decide) rfl (Nat.le_of_ble_eq_true rfl) ?_
  intro p e s m args below meth c ls A hC hr hlocks hA hK hl hP hD hS
  replace hC : CallFix p m c cX5_isPart 3 s args wsX5_isPart RX5 := hC
  obtain ⟨hx, hb, hml, hown, hts⟩ := id hC
  replace hl : lv_has ls 3 [(0, .ref (a 0))] := hl
  unfold fX5_isPart at hR
  have hw5 : ∀ w ∈ wsX50, w ∈ wsX5_isPart := by decide +kernel
  have hl0 := hts (.fieldLink RX5 113 "FloatOrderModel" "at" "I") (by decide +kernel)
  have hl1 := hts (.fieldLink RX5 19 "FloatOrderModel" "text" "[I") (by decide +kernel)
  have hl2 := hts (.fieldLink RX5 22 "FloatOrderModel" "told" "[I") (by decide +kernel)
  have hl3 := hts (.fieldLink RX5 123 "FloatOrderModel" "tolds" "I") (by decide +kernel)
  refine lv_aload_n hx hb dX5_isPart_0 rfl (lv_at hl 0 rfl) ?_
  obtain ⟨x1, hq1, hR⟩ := kk_bd_el hR
  refine kk_call_Vi (w' := (w_M g a M)) (As := []) (rest := []) 0 5 hC (sX5_kindAt l g n a M  x1 hq1) (cwV 0 hts gX5_isPart_X5_kindAt rfl rfl rfl (by decide +kernel) ⟨Nat.le_of_ble_eq_true rfl, Nat.le_of_ble_eq_true rfl⟩) hK hP hD hS hA [0, 1, 2, 3, 4, 5, 6] rfl (by decide +kernel) rfl rfl rfl rfl rfl rfl rfl hl.1 (Nat.le_of_ble_eq_true rfl) dX5_isPart_1 (fun H locs hP hD hS => ?_)
  refine lv_istore_n (lv' := [(1, .int x1), (0, .ref (a 0))]) hx hb dX5_isPart_4 rfl hl (by decide) rfl (fun ls hl => ?_)
  refine lv_iload_n hx hb dX5_isPart_5 rfl (lv_at hl 0 rfl) ?_
  refine lv_iconst (v := (-1 : Int32)) hx hb dX5_isPart_6 (by decide) ?_
  refine lv_icmp_ne (tgt := 15) hx hb dX5_isPart_7 (by decide) (fun c2 => ?_) (fun c2 => ?_)
  · replace hR := (if_neg c2).symm.trans hR
    refine lv_aload_n hx hb dX5_isPart_15 rfl (lv_at hl 1 rfl) ?_
    refine lv_dup hx hb dX5_isPart_16 rfl ?_
    refine va_get (ci := 5) (C := RX5) (T := TX5) (N := 12) hx hb hts hw5 hown hK hP 0 rfl rfl 7 (by decide) hl0 (fun _ h9 => h9) rfl dX5_isPart_17 ?_
    refine lv_iconst (v := (1 : Int32)) hx hb dX5_isPart_20 (by decide) ?_
    refine lv_iadd hx hb dX5_isPart_21 ?_
    obtain ⟨M3, eM3, hR⟩ := kk_nm_el hR
    refine kk_put (w' := (w_M g a M3)) (ci := 5) (C := RX5) (T := TX5) (N := 12) (ty := .int) (v := .int ((M 7 0) + (1 : Int32))) hC hw5 tyX5 tyX5_ok nmX5 hK hP hD hS 0 rfl rfl 7 (by decide) hl0 rfl (by decide +kernel) rfl rfl (Nat.le_of_ble_eq_true rfl) (by rw [eM3]; rfl) dX5_isPart_22 rfl (fun H locs hP hD hS => ?_)
    refine lv_aload_n hx hb dX5_isPart_25 rfl (lv_at hl 1 rfl) ?_
    refine lv_bipush (v := (49 : Int32)) hx hb dX5_isPart_26 (by decide) ?_
    refine lv_bipush (v := (57 : Int32)) hx hb dX5_isPart_28 (by decide) ?_
    obtain ⟨x4, hq4, hR⟩ := kk_bd_el hR
    refine kk_call_Vi (w' := (w_M g a M3)) (As := [.int (49 : Int32), .int (57 : Int32)]) (rest := []) 0 5 hC (sX5_isAt l g n a M3 (49 : Int32) (57 : Int32) x4 hq4) (cwV 2 hts gX5_isPart_X5_isAt rfl rfl rfl (by decide +kernel) ⟨Nat.le_of_ble_eq_true rfl, Nat.le_of_ble_eq_true rfl⟩) hK hP hD hS hA [0, 1, 2, 3, 4, 5, 6] rfl (by decide +kernel) rfl rfl rfl rfl rfl rfl rfl hl.1 (Nat.le_of_ble_eq_true rfl) dX5_isPart_30 (fun H locs hP hD hS => ?_)
    refine lv_if_ne (tgt := 41) hx hb dX5_isPart_33 (by decide) (fun c5 => ?_) (fun c5 => ?_)
    · replace hR := (if_neg c5).symm.trans hR
      refine lv_bipush (v := (10 : Int32)) hx hb dX5_isPart_41 (by decide) ?_
      refine lv_aload_n hx hb dX5_isPart_43 rfl (lv_at hl 1 rfl) ?_
      refine va_get (ci := 5) (C := RX5) (T := TX5) (N := 12) hx hb hts hw5 hown hK hP 0 rfl rfl 4 (by decide) hl1 (fun _ h9 => h9) rfl dX5_isPart_44 ?_
      refine lv_aload_n hx hb dX5_isPart_47 rfl (lv_at hl 1 rfl) ?_
      refine va_get (ci := 5) (C := RX5) (T := TX5) (N := 12) hx hb hts hw5 hown hK hP 0 rfl rfl 7 (by decide) hl0 (fun _ h9 => h9) rfl dX5_isPart_48 ?_
      obtain ⟨hi6, hR⟩ := kk_ck_el hR
      refine va_iald hx hb hK hP 4 0 rfl rfl hi6 dX5_isPart_51 ?_
      refine lv_bipush (v := (48 : Int32)) hx hb dX5_isPart_52 (by decide) ?_
      refine lv_isub hx hb dX5_isPart_54 ?_
      refine lv_imul hx hb dX5_isPart_55 ?_
      refine lv_istore_n (lv' := [(2, .int ((10 : Int32) * (((M3 4) (M3 7 0).toNatClampNeg) - (48 : Int32)))), (1, .int x1), (0, .ref (a 0))]) hx hb dX5_isPart_56 rfl hl (by decide) rfl (fun ls hl => ?_)
      refine lv_aload_n hx hb dX5_isPart_57 rfl (lv_at hl 2 rfl) ?_
      refine lv_dup hx hb dX5_isPart_58 rfl ?_
      refine va_get (ci := 5) (C := RX5) (T := TX5) (N := 12) hx hb hts hw5 hown hK hP 0 rfl rfl 7 (by decide) hl0 (fun _ h9 => h9) rfl dX5_isPart_59 ?_
      refine lv_iconst (v := (1 : Int32)) hx hb dX5_isPart_62 (by decide) ?_
      refine lv_iadd hx hb dX5_isPart_63 ?_
      obtain ⟨M7, eM7, hR⟩ := kk_nm_el hR
      refine kk_put (w' := (w_M g a M7)) (ci := 5) (C := RX5) (T := TX5) (N := 12) (ty := .int) (v := .int ((M3 7 0) + (1 : Int32))) hC hw5 tyX5 tyX5_ok nmX5 hK hP hD hS 0 rfl rfl 7 (by decide) hl0 rfl (by decide +kernel) rfl rfl (Nat.le_of_ble_eq_true rfl) (by rw [eM7]; rfl) dX5_isPart_64 rfl (fun H locs hP hD hS => ?_)
      refine lv_aload_n hx hb dX5_isPart_67 rfl (lv_at hl 2 rfl) ?_
      refine lv_bipush (v := (48 : Int32)) hx hb dX5_isPart_68 (by decide) ?_
      refine lv_bipush (v := (57 : Int32)) hx hb dX5_isPart_70 (by decide) ?_
      obtain ⟨x8, hq8, hR⟩ := kk_bd_el hR
      refine kk_call_Vi (w' := (w_M g a M7)) (As := [.int (48 : Int32), .int (57 : Int32)]) (rest := []) 0 5 hC (sX5_isAt l g n a M7 (48 : Int32) (57 : Int32) x8 hq8) (cwV 2 hts gX5_isPart_X5_isAt rfl rfl rfl (by decide +kernel) ⟨Nat.le_of_ble_eq_true rfl, Nat.le_of_ble_eq_true rfl⟩) hK hP hD hS hA [0, 1, 2, 3, 4, 5, 6] rfl (by decide +kernel) rfl rfl rfl rfl rfl rfl rfl hl.1 (Nat.le_of_ble_eq_true rfl) dX5_isPart_72 (fun H locs hP hD hS => ?_)
      refine lv_if_ne (tgt := 83) hx hb dX5_isPart_75 (by decide) (fun c9 => ?_) (fun c9 => ?_)
      · replace hR := (if_neg c9).symm.trans hR
        refine lv_aload_n hx hb dX5_isPart_83 rfl (lv_at hl 2 rfl) ?_
        refine va_get (ci := 5) (C := RX5) (T := TX5) (N := 12) hx hb hts hw5 hown hK hP 0 rfl rfl 9 (by decide) hl2 (fun _ h9 => h9) rfl dX5_isPart_84 ?_
        refine lv_iconst (v := (3 : Int32)) hx hb dX5_isPart_87 (by decide) ?_
        refine lv_aload_n hx hb dX5_isPart_88 rfl (lv_at hl 2 rfl) ?_
        refine va_get (ci := 5) (C := RX5) (T := TX5) (N := 12) hx hb hts hw5 hown hK hP 0 rfl rfl 10 (by decide) hl3 (fun _ h9 => h9) rfl dX5_isPart_89 ?_
        refine lv_imul hx hb dX5_isPart_92 ?_
        refine lv_iload_n hx hb dX5_isPart_93 rfl (lv_at hl 1 rfl) ?_
        obtain ⟨hi11, hR⟩ := kk_ck_el hR
        obtain ⟨M10, eM10, hR⟩ := kk_nm_el hR
        refine kk_iast (w' := (w_M g a M10)) hC hK hP hD hS 5 rfl hi11 (by rw [eM10]; rfl) dX5_isPart_94 (fun H locs hP hD hS => ?_)
        refine lv_aload_n hx hb dX5_isPart_95 rfl (lv_at hl 2 rfl) ?_
        refine va_get (ci := 5) (C := RX5) (T := TX5) (N := 12) hx hb hts hw5 hown hK hP 0 rfl rfl 9 (by decide) hl2 (fun _ h9 => h9) rfl dX5_isPart_96 ?_
        refine lv_iconst (v := (3 : Int32)) hx hb dX5_isPart_99 (by decide) ?_
        refine lv_aload_n hx hb dX5_isPart_100 rfl (lv_at hl 2 rfl) ?_
        refine va_get (ci := 5) (C := RX5) (T := TX5) (N := 12) hx hb hts hw5 hown hK hP 0 rfl rfl 10 (by decide) hl3 (fun _ h9 => h9) rfl dX5_isPart_101 ?_
        refine lv_imul hx hb dX5_isPart_104 ?_
        refine lv_iconst (v := (1 : Int32)) hx hb dX5_isPart_105 (by decide) ?_
        refine lv_iadd hx hb dX5_isPart_106 ?_
        refine lv_iload_n hx hb dX5_isPart_107 rfl (lv_at hl 0 rfl) ?_
        refine lv_aload_n hx hb dX5_isPart_108 rfl (lv_at hl 2 rfl) ?_
        refine va_get (ci := 5) (C := RX5) (T := TX5) (N := 12) hx hb hts hw5 hown hK hP 0 rfl rfl 4 (by decide) hl1 (fun _ h9 => h9) rfl dX5_isPart_109 ?_
        refine lv_aload_n hx hb dX5_isPart_112 rfl (lv_at hl 2 rfl) ?_
        refine va_get (ci := 5) (C := RX5) (T := TX5) (N := 12) hx hb hts hw5 hown hK hP 0 rfl rfl 7 (by decide) hl0 (fun _ h9 => h9) rfl dX5_isPart_113 ?_
        obtain ⟨hi12, hR⟩ := kk_ck_el hR
        refine va_iald hx hb hK hP 4 0 rfl rfl hi12 dX5_isPart_116 ?_
        refine lv_iadd hx hb dX5_isPart_117 ?_
        refine lv_bipush (v := (48 : Int32)) hx hb dX5_isPart_118 (by decide) ?_
        refine lv_isub hx hb dX5_isPart_120 ?_
        obtain ⟨hi14, hR⟩ := kk_ck_el hR
        obtain ⟨M13, eM13, hR⟩ := kk_nm_el hR
        refine kk_iast (w' := (w_M g a M13)) hC hK hP hD hS 5 rfl hi14 (by rw [eM13]; rfl) dX5_isPart_121 (fun H locs hP hD hS => ?_)
        refine lv_aload_n hx hb dX5_isPart_122 rfl (lv_at hl 2 rfl) ?_
        refine va_get (ci := 5) (C := RX5) (T := TX5) (N := 12) hx hb hts hw5 hown hK hP 0 rfl rfl 9 (by decide) hl2 (fun _ h9 => h9) rfl dX5_isPart_123 ?_
        refine lv_iconst (v := (3 : Int32)) hx hb dX5_isPart_126 (by decide) ?_
        refine lv_aload_n hx hb dX5_isPart_127 rfl (lv_at hl 2 rfl) ?_
        refine va_get (ci := 5) (C := RX5) (T := TX5) (N := 12) hx hb hts hw5 hown hK hP 0 rfl rfl 10 (by decide) hl3 (fun _ h9 => h9) rfl dX5_isPart_128 ?_
        refine lv_imul hx hb dX5_isPart_131 ?_
        refine lv_iconst (v := (2 : Int32)) hx hb dX5_isPart_132 (by decide) ?_
        refine lv_iadd hx hb dX5_isPart_133 ?_
        refine lv_iconst (v := (0 : Int32)) hx hb dX5_isPart_134 (by decide) ?_
        obtain ⟨hi16, hR⟩ := kk_ck_el hR
        obtain ⟨M15, eM15, hR⟩ := kk_nm_el hR
        refine kk_iast (w' := (w_M g a M15)) hC hK hP hD hS 5 rfl hi16 (by rw [eM15]; rfl) dX5_isPart_135 (fun H locs hP hD hS => ?_)
        refine lv_aload_n hx hb dX5_isPart_136 rfl (lv_at hl 2 rfl) ?_
        refine lv_dup hx hb dX5_isPart_137 rfl ?_
        refine va_get (ci := 5) (C := RX5) (T := TX5) (N := 12) hx hb hts hw5 hown hK hP 0 rfl rfl 7 (by decide) hl0 (fun _ h9 => h9) rfl dX5_isPart_138 ?_
        refine lv_iconst (v := (1 : Int32)) hx hb dX5_isPart_141 (by decide) ?_
        refine lv_iadd hx hb dX5_isPart_142 ?_
        obtain ⟨M17, eM17, hR⟩ := kk_nm_el hR
        refine kk_put (w' := (w_M g a M17)) (ci := 5) (C := RX5) (T := TX5) (N := 12) (ty := .int) (v := .int ((M15 7 0) + (1 : Int32))) hC hw5 tyX5 tyX5_ok nmX5 hK hP hD hS 0 rfl rfl 7 (by decide) hl0 rfl (by decide +kernel) rfl rfl (Nat.le_of_ble_eq_true rfl) (by rw [eM17]; rfl) dX5_isPart_143 rfl (fun H locs hP hD hS => ?_)
        refine lv_iload_n hx hb dX5_isPart_146 rfl (lv_at hl 1 rfl) ?_
        refine lv_iconst (v := (1 : Int32)) hx hb dX5_isPart_147 (by decide) ?_
        refine lv_icmp_ne (tgt := 162) hx hb dX5_isPart_148 (by decide) (fun c18 => ?_) (fun c18 => ?_)
        · replace hR := (if_neg c18).symm.trans hR
          refine lv_iconst (v := (1 : Int32)) hx hb dX5_isPart_162 (by decide) ?_
          obtain rfl := Option.some.inj hR
          exact kk_ret_z hC hr hlocks hK hP hD hS dX5_isPart_163 (by decide) rfl
        · replace hR := (if_pos c18).symm.trans hR
          refine lv_aload_n hx hb dX5_isPart_151 rfl (lv_at hl 2 rfl) ?_
          refine lv_bipush (v := (33 : Int32)) hx hb dX5_isPart_152 (by decide) ?_
          refine lv_bipush (v := (33 : Int32)) hx hb dX5_isPart_154 (by decide) ?_
          obtain ⟨x20, hq20, hR⟩ := kk_bd_el hR
          refine kk_call_Vi (w' := (w_M g a M17)) (As := [.int (33 : Int32), .int (33 : Int32)]) (rest := []) 0 5 hC (sX5_isAt l g n a M17 (33 : Int32) (33 : Int32) x20 hq20) (cwV 2 hts gX5_isPart_X5_isAt rfl rfl rfl (by decide +kernel) ⟨Nat.le_of_ble_eq_true rfl, Nat.le_of_ble_eq_true rfl⟩) hK hP hD hS hA [0, 1, 2, 3, 4, 5, 6] rfl (by decide +kernel) rfl rfl rfl rfl rfl rfl rfl hl.1 (Nat.le_of_ble_eq_true rfl) dX5_isPart_156 (fun H locs hP hD hS => ?_)
          refine lv_if_ne (tgt := 164) hx hb dX5_isPart_159 (by decide) (fun c21 => ?_) (fun c21 => ?_)
          · replace hR := (if_neg c21).symm.trans hR
            refine lv_aload_n hx hb dX5_isPart_164 rfl (lv_at hl 2 rfl) ?_
            refine lv_dup hx hb dX5_isPart_165 rfl ?_
            refine va_get (ci := 5) (C := RX5) (T := TX5) (N := 12) hx hb hts hw5 hown hK hP 0 rfl rfl 7 (by decide) hl0 (fun _ h9 => h9) rfl dX5_isPart_166 ?_
            refine lv_iconst (v := (1 : Int32)) hx hb dX5_isPart_169 (by decide) ?_
            refine lv_iadd hx hb dX5_isPart_170 ?_
            obtain ⟨M22, eM22, hR⟩ := kk_nm_el hR
            refine kk_put (w' := (w_M g a M22)) (ci := 5) (C := RX5) (T := TX5) (N := 12) (ty := .int) (v := .int ((M17 7 0) + (1 : Int32))) hC hw5 tyX5 tyX5_ok nmX5 hK hP hD hS 0 rfl rfl 7 (by decide) hl0 rfl (by decide +kernel) rfl rfl (Nat.le_of_ble_eq_true rfl) (by rw [eM22]; rfl) dX5_isPart_171 rfl (fun H locs hP hD hS => ?_)
            refine lv_aload_n hx hb dX5_isPart_174 rfl (lv_at hl 2 rfl) ?_
            obtain ⟨x23, hq23, hR⟩ := kk_bd_el hR
            refine kk_call_Vi (w' := (w_M g a x23.2)) (As := []) (rest := []) 0 5 hC (sX5_isMask l g n a M22  x23 hq23) (cwV 0 hts gX5_isPart_X5_isMask rfl rfl rfl (by decide +kernel) ⟨Nat.le_of_ble_eq_true rfl, Nat.le_of_ble_eq_true rfl⟩) hK hP hD hS hA [0, 1, 2, 3, 4, 5, 6] rfl (by decide +kernel) rfl rfl rfl rfl rfl rfl rfl hl.1 (Nat.le_of_ble_eq_true rfl) dX5_isPart_175 (fun H locs hP hD hS => ?_)
            obtain ⟨hz24, hR⟩ := kk_cb_el hR
            obtain rfl := Option.some.inj hR
            exact kk_ret_z hC hr hlocks hK hP hD hS dX5_isPart_178 hz24 rfl
          · replace hR := (if_pos c21).symm.trans hR
            refine lv_iconst (v := (1 : Int32)) hx hb dX5_isPart_162 (by decide) ?_
            obtain rfl := Option.some.inj hR
            exact kk_ret_z hC hr hlocks hK hP hD hS dX5_isPart_163 (by decide) rfl
      · replace hR := (if_pos c9).symm.trans hR
        refine lv_aload_n hx hb dX5_isPart_78 rfl (lv_at hl 2 rfl) ?_
        obtain ⟨x26, hq26, hR⟩ := kk_bd_el hR
        refine kk_call_Vi (w' := (w_M g a x26.2)) (As := []) (rest := []) 0 5 hC (sX5_stops l g n a M7  x26 hq26) (cwV 0 hts gX5_isPart_X5_stops rfl rfl rfl (by decide +kernel) ⟨Nat.le_of_ble_eq_true rfl, Nat.le_of_ble_eq_true rfl⟩) hK hP hD hS hA [0, 1, 2, 3, 4, 5, 6] rfl (by decide +kernel) rfl rfl rfl rfl rfl rfl rfl hl.1 (Nat.le_of_ble_eq_true rfl) dX5_isPart_79 (fun H locs hP hD hS => ?_)
        obtain ⟨hz27, hR⟩ := kk_cb_el hR
        obtain rfl := Option.some.inj hR
        exact kk_ret_z hC hr hlocks hK hP hD hS dX5_isPart_82 hz27 rfl
    · replace hR := (if_pos c5).symm.trans hR
      refine lv_aload_n hx hb dX5_isPart_36 rfl (lv_at hl 1 rfl) ?_
      obtain ⟨x28, hq28, hR⟩ := kk_bd_el hR
      refine kk_call_Vi (w' := (w_M g a x28.2)) (As := []) (rest := []) 0 5 hC (sX5_stops l g n a M3  x28 hq28) (cwV 0 hts gX5_isPart_X5_stops rfl rfl rfl (by decide +kernel) ⟨Nat.le_of_ble_eq_true rfl, Nat.le_of_ble_eq_true rfl⟩) hK hP hD hS hA [0, 1, 2, 3, 4, 5, 6] rfl (by decide +kernel) rfl rfl rfl rfl rfl rfl rfl hl.1 (Nat.le_of_ble_eq_true rfl) dX5_isPart_37 (fun H locs hP hD hS => ?_)
      obtain ⟨hz29, hR⟩ := kk_cb_el hR
      obtain rfl := Option.some.inj hR
      exact kk_ret_z hC hr hlocks hK hP hD hS dX5_isPart_40 hz29 rfl
  · replace hR := (if_pos c2).symm.trans hR
    refine lv_aload_n hx hb dX5_isPart_10 rfl (lv_at hl 1 rfl) ?_
    obtain ⟨x30, hq30, hR⟩ := kk_bd_el hR
    refine kk_call_Vi (w' := (w_M g a x30.2)) (As := []) (rest := []) 0 5 hC (sX5_stops l g n a M  x30 hq30) (cwV 0 hts gX5_isPart_X5_stops rfl rfl rfl (by decide +kernel) ⟨Nat.le_of_ble_eq_true rfl, Nat.le_of_ble_eq_true rfl⟩) hK hP hD hS hA [0, 1, 2, 3, 4, 5, 6] rfl (by decide +kernel) rfl rfl rfl rfl rfl rfl rfl hl.1 (Nat.le_of_ble_eq_true rfl) dX5_isPart_11 (fun H locs hP hD hS => ?_)
    obtain ⟨hz31, hR⟩ := kk_cb_el hR
    obtain rfl := Option.some.inj hR
    exact kk_ret_z hC hr hlocks hK hP hD hS dX5_isPart_14 hz31 rfl
set_option maxHeartbeats 8000000 in
set_option maxRecDepth 100000 in
theorem sX5_isText (l : Launch) (g : kG) (n : Nat) (a : Nat → Nat) (M : St1) (r : Int32 × St1) (hR : fX5_isText n M = some r) : kSp l g yX5_isText wsX5_isText ({ frames := 3, cells := 0, slots := 0, locals := 66 }) [.ref (a 0)] (w_M g a M) (kQi g (w_M g a r.2) r.1) := by
  refine kSp.of (cc := cX5_isText) (maxL := 2) (ret := (some .boolean)) (by decide) rfl (Nat.le_of_ble_eq_true rfl) ?_
  intro p e s m args below meth c ls A hC hr hlocks hA hK hl hP hD hS
  replace hC : CallFix p m c cX5_isText 2 s args wsX5_isText RX5 := hC
  obtain ⟨hx, hb, hml, hown, hts⟩ := id hC
  replace hl : lv_has ls 2 [(0, .ref (a 0))] := hl
  unfold fX5_isText at hR
  have hw5 : ∀ w ∈ wsX50, w ∈ wsX5_isText := by decide +kernel
  have hl0 := hts (.fieldLink RX5 113 "FloatOrderModel" "at" "I") (by decide +kernel)
  have hl1 := hts (.fieldLink RX5 123 "FloatOrderModel" "tolds" "I") (by decide +kernel)
  have hl2 := hts (.fieldLink RX5 116 "FloatOrderModel" "isFault" "Z") (by decide +kernel)
  have hl3 := hts (.fieldLink RX5 110 "FloatOrderModel" "typed" "I") (by decide +kernel)
  refine lv_aload_n hx hb dX5_isText_0 rfl (lv_at hl 0 rfl) ?_
  refine lv_iconst (v := (0 : Int32)) hx hb dX5_isText_1 (by decide) ?_
  obtain ⟨M1, eM1, hR⟩ := kk_nm_el hR
  refine kk_put (w' := (w_M g a M1)) (ci := 5) (C := RX5) (T := TX5) (N := 12) (ty := .int) (v := .int (0 : Int32)) hC hw5 tyX5 tyX5_ok nmX5 hK hP hD hS 0 rfl rfl 7 (by decide) hl0 rfl (by decide +kernel) rfl rfl (Nat.le_of_ble_eq_true rfl) (by rw [eM1]; rfl) dX5_isText_2 rfl (fun H locs hP hD hS => ?_)
  refine lv_aload_n hx hb dX5_isText_5 rfl (lv_at hl 0 rfl) ?_
  refine lv_iconst (v := (0 : Int32)) hx hb dX5_isText_6 (by decide) ?_
  obtain ⟨M2, eM2, hR⟩ := kk_nm_el hR
  refine kk_put (w' := (w_M g a M2)) (ci := 5) (C := RX5) (T := TX5) (N := 12) (ty := .int) (v := .int (0 : Int32)) hC hw5 tyX5 tyX5_ok nmX5 hK hP hD hS 0 rfl rfl 10 (by decide) hl1 rfl (by decide +kernel) rfl rfl (Nat.le_of_ble_eq_true rfl) (by rw [eM2]; rfl) dX5_isText_7 rfl (fun H locs hP hD hS => ?_)
  refine lv_aload_n hx hb dX5_isText_10 rfl (lv_at hl 0 rfl) ?_
  refine lv_iconst (v := (0 : Int32)) hx hb dX5_isText_11 (by decide) ?_
  obtain ⟨hz4, hR⟩ := kk_cb_el hR
  obtain ⟨M3, eM3, hR⟩ := kk_nm_el hR
  refine kk_put (w' := (w_M g a M3)) (ci := 5) (C := RX5) (T := TX5) (N := 12) (ty := .boolean) (v := .int (0 : Int32)) hC hw5 tyX5 tyX5_ok nmX5 hK hP hD hS 0 rfl rfl 8 (by decide) hl2 rfl (by decide +kernel) (kk_nz hz4) (kk_fz hz4) (Nat.le_of_ble_eq_true rfl) (by rw [eM3]; rfl) dX5_isText_12 rfl (fun H locs hP hD hS => ?_)
  refine lv_iconst (v := (1 : Int32)) hx hb dX5_isText_15 (by decide) ?_
  refine lv_istore_n (lv' := [(1, .int (1 : Int32)), (0, .ref (a 0))]) hx hb dX5_isText_16 rfl hl (by decide) rfl (fun ls hl => ?_)
  have hq0 := hR
  refine kk_loop (g := g) (A := A) (fun (st : Int32 × St1) => (w_M g a st.2)) (fun (st : Int32 × St1) => [(1, .int st.1), (0, .ref (a 0))]) 17 (nL := 2) hq0 (fun st xb18 hR ih1 hX1 => ?_) hP hD hS (lv_sub hl [0, 1] rfl)
  clear hP hD hS hl
  obtain ⟨u16, M17⟩ := st
  intro H locs ls hP hD hS hl
  replace hR : fX5_isText_b17 n u16 M17 = some xb18 := hR
  replace hP : va_P g.1 vwCl (w_M g a M17) H := hP
  replace hD : va_D A (w_M g a M17) := hD
  replace hl : lv_has ls 2 [(1, .int u16), (0, .ref (a 0))] := hl
  unfold fX5_isText_b17 at hR
  refine lv_iload_n hx hb dX5_isText_17 rfl (lv_at hl 0 rfl) ?_
  refine lv_if_eq (tgt := 70) hx hb dX5_isText_18 (by decide) (fun c19 => ?_) (fun c19 => ?_)
  · replace hR := (if_pos c19).symm.trans hR
    refine lv_aload_n hx hb dX5_isText_70 rfl (lv_at hl 1 rfl) ?_
    refine lv_aload_n hx hb dX5_isText_71 rfl (lv_at hl 1 rfl) ?_
    refine va_get (ci := 5) (C := RX5) (T := TX5) (N := 12) hx hb hts hw5 hown hK hP 0 rfl rfl 7 (by decide) hl0 (fun _ h9 => h9) rfl dX5_isText_72 ?_
    refine lv_aload_n hx hb dX5_isText_75 rfl (lv_at hl 1 rfl) ?_
    refine va_get (ci := 5) (C := RX5) (T := TX5) (N := 12) hx hb hts hw5 hown hK hP 0 rfl rfl 5 (by decide) hl3 (fun _ h9 => h9) rfl dX5_isText_76 ?_
    obtain ⟨x21, hq21, hR⟩ := kk_bd_el hR
    refine kk_cut (g := g) (A := A) (w' := (w_M g a M17)) (nL := 2) (lv := [(0, .ref (a 0))]) (pcJ := 87) (st := [.int x21, .ref (a 0)]) (fun H locs ls hP hD hS hl => ?_) (fun hj21 => ?_)
    · obtain ⟨hz24, hR⟩ := kk_cb_el hR
      obtain ⟨M23, eM23, hR⟩ := kk_nm_el hR
      refine kk_put (w' := (w_M g a M23)) (ci := 5) (C := RX5) (T := TX5) (N := 12) (ty := .boolean) (v := .int x21) hC hw5 tyX5 tyX5_ok nmX5 hK hP hD hS 0 rfl rfl 8 (by decide) hl2 rfl (by decide +kernel) (kk_nz hz24) (kk_fz hz24) (Nat.le_of_ble_eq_true rfl) (by rw [eM23]; rfl) dX5_isText_87 rfl (fun H locs hP hD hS => ?_)
      refine lv_aload_n hx hb dX5_isText_90 rfl (lv_at hl 0 rfl) ?_
      refine va_get (ci := 5) (C := RX5) (T := TX5) (N := 12) hx hb hts hw5 hown hK hP 0 rfl rfl 7 (by decide) hl0 (fun _ h9 => h9) rfl dX5_isText_91 ?_
      refine lv_aload_n hx hb dX5_isText_94 rfl (lv_at hl 0 rfl) ?_
      refine va_get (ci := 5) (C := RX5) (T := TX5) (N := 12) hx hb hts hw5 hown hK hP 0 rfl rfl 5 (by decide) hl3 (fun _ h9 => h9) rfl dX5_isText_95 ?_
      refine lv_icmp_ne (tgt := 105) hx hb dX5_isText_98 (by decide) (fun c25 => ?_) (fun c25 => ?_)
      · replace hR := (if_neg c25).symm.trans hR
        refine lv_iconst (v := (0 : Int32)) hx hb dX5_isText_105 (by decide) ?_
        obtain rfl := Option.some.inj hR
        obtain rfl := hX1 _ rfl
        exact kk_ret_z hC hr hlocks hK hP hD hS dX5_isText_106 (by decide) rfl
      · replace hR := (if_pos c25).symm.trans hR
        refine lv_iconst (v := (1 : Int32)) hx hb dX5_isText_101 (by decide) ?_
        refine lv_goto (tgt := 106) hx hb dX5_isText_102 (by decide) ?_
        obtain rfl := Option.some.inj hR
        obtain rfl := hX1 _ rfl
        exact kk_ret_z hC hr hlocks hK hP hD hS dX5_isText_106 (by decide) rfl
    replace hR := hq21
    refine lv_icmp_ge (tgt := 86) hx hb dX5_isText_79 (by decide) (fun c22 => ?_) (fun c22 => ?_)
    · replace hR := (if_pos c22).symm.trans hR
      refine lv_iconst (v := (0 : Int32)) hx hb dX5_isText_86 (by decide) ?_
      obtain rfl := Option.some.inj hR
      exact hj21 _ _ _ hP hD hS (lv_sub hl [1] rfl)
    · replace hR := (if_neg c22).symm.trans hR
      refine lv_iconst (v := (1 : Int32)) hx hb dX5_isText_82 (by decide) ?_
      refine lv_goto (tgt := 87) hx hb dX5_isText_83 (by decide) ?_
      obtain rfl := Option.some.inj hR
      exact hj21 _ _ _ hP hD hS (lv_sub hl [1] rfl)
  · replace hR := (if_neg c19).symm.trans hR
    refine lv_aload_n hx hb dX5_isText_21 rfl (lv_at hl 1 rfl) ?_
    obtain ⟨x28, hq28, hR⟩ := kk_bd_el hR
    refine kk_call_Vi (w' := (w_M g a x28.2)) (As := []) (rest := []) 0 5 hC (sX5_isPart l g n a M17  x28 hq28) (cwV 0 hts gX5_isText_X5_isPart rfl rfl rfl (by decide +kernel) ⟨Nat.le_of_ble_eq_true rfl, Nat.le_of_ble_eq_true rfl⟩) hK hP hD hS hA [0, 1, 2, 3, 4, 5, 6] rfl (by decide +kernel) rfl rfl rfl rfl rfl rfl rfl hl.1 (Nat.le_of_ble_eq_true rfl) dX5_isText_22 (fun H locs hP hD hS => ?_)
    refine lv_if_ne (tgt := 30) hx hb dX5_isText_25 (by decide) (fun c29 => ?_) (fun c29 => ?_)
    · replace hR := (if_neg c29).symm.trans hR
      refine lv_aload_n hx hb dX5_isText_30 rfl (lv_at hl 1 rfl) ?_
      refine lv_dup hx hb dX5_isText_31 rfl ?_
      refine va_get (ci := 5) (C := RX5) (T := TX5) (N := 12) hx hb hts hw5 hown hK hP 0 rfl rfl 10 (by decide) hl1 (fun _ h9 => h9) rfl dX5_isText_32 ?_
      refine lv_iconst (v := (1 : Int32)) hx hb dX5_isText_35 (by decide) ?_
      refine lv_iadd hx hb dX5_isText_36 ?_
      obtain ⟨M30, eM30, hR⟩ := kk_nm_el hR
      refine kk_put (w' := (w_M g a M30)) (ci := 5) (C := RX5) (T := TX5) (N := 12) (ty := .int) (v := .int ((x28.2 10 0) + (1 : Int32))) hC hw5 tyX5 tyX5_ok nmX5 hK hP hD hS 0 rfl rfl 10 (by decide) hl1 rfl (by decide +kernel) rfl rfl (Nat.le_of_ble_eq_true rfl) (by rw [eM30]; rfl) dX5_isText_37 rfl (fun H locs hP hD hS => ?_)
      refine lv_aload_n hx hb dX5_isText_40 rfl (lv_at hl 1 rfl) ?_
      refine lv_bipush (v := (59 : Int32)) hx hb dX5_isText_41 (by decide) ?_
      refine lv_bipush (v := (59 : Int32)) hx hb dX5_isText_43 (by decide) ?_
      obtain ⟨x31, hq31, hR⟩ := kk_bd_el hR
      refine kk_call_Vi (w' := (w_M g a M30)) (As := [.int (59 : Int32), .int (59 : Int32)]) (rest := []) 0 5 hC (sX5_isAt l g n a M30 (59 : Int32) (59 : Int32) x31 hq31) (cwV 2 hts gX5_isText_X5_isAt rfl rfl rfl (by decide +kernel) ⟨Nat.le_of_ble_eq_true rfl, Nat.le_of_ble_eq_true rfl⟩) hK hP hD hS hA [0, 1, 2, 3, 4, 5, 6] rfl (by decide +kernel) rfl rfl rfl rfl rfl rfl rfl hl.1 (Nat.le_of_ble_eq_true rfl) dX5_isText_45 (fun H locs hP hD hS => ?_)
      refine lv_istore_n (lv' := [(1, .int x31), (0, .ref (a 0))]) hx hb dX5_isText_48 rfl hl (by decide) rfl (fun ls hl => ?_)
      refine lv_aload_n hx hb dX5_isText_49 rfl (lv_at hl 1 rfl) ?_
      refine lv_dup hx hb dX5_isText_50 rfl ?_
      refine va_get (ci := 5) (C := RX5) (T := TX5) (N := 12) hx hb hts hw5 hown hK hP 0 rfl rfl 7 (by decide) hl0 (fun _ h9 => h9) rfl dX5_isText_51 ?_
      refine lv_iload_n hx hb dX5_isText_54 rfl (lv_at hl 0 rfl) ?_
      obtain ⟨x33, hq33, hR⟩ := kk_bd_el hR
      refine kk_cut (g := g) (A := A) (w' := (w_M g a M30)) (nL := 2) (lv := [(1, .int x31), (0, .ref (a 0))]) (pcJ := 63) (st := [.int x33, .int (M30 7 0), .ref (a 0)]) (fun H locs ls hP hD hS hl => ?_) (fun hj33 => ?_)
      · refine lv_iadd hx hb dX5_isText_63 ?_
        obtain ⟨M35, eM35, hR⟩ := kk_nm_el hR
        refine kk_put (w' := (w_M g a M35)) (ci := 5) (C := RX5) (T := TX5) (N := 12) (ty := .int) (v := .int ((M30 7 0) + x33)) hC hw5 tyX5 tyX5_ok nmX5 hK hP hD hS 0 rfl rfl 7 (by decide) hl0 rfl (by decide +kernel) rfl rfl (Nat.le_of_ble_eq_true rfl) (by rw [eM35]; rfl) dX5_isText_64 rfl (fun H locs hP hD hS => ?_)
        refine lv_goto (tgt := 17) hx hb dX5_isText_67 (by decide) ?_
        obtain rfl := Option.some.inj hR
        exact ih1 _ rfl _ _ _ hP hD hS (lv_sub hl [0, 1] rfl)
      replace hR := hq33
      refine lv_if_eq (tgt := 62) hx hb dX5_isText_55 (by decide) (fun c34 => ?_) (fun c34 => ?_)
      · replace hR := (if_pos c34).symm.trans hR
        refine lv_iconst (v := (0 : Int32)) hx hb dX5_isText_62 (by decide) ?_
        obtain rfl := Option.some.inj hR
        exact hj33 _ _ _ hP hD hS (lv_sub hl [0, 1] rfl)
      · replace hR := (if_neg c34).symm.trans hR
        refine lv_iconst (v := (1 : Int32)) hx hb dX5_isText_58 (by decide) ?_
        refine lv_goto (tgt := 63) hx hb dX5_isText_59 (by decide) ?_
        obtain rfl := Option.some.inj hR
        exact hj33 _ _ _ hP hD hS (lv_sub hl [0, 1] rfl)
    · replace hR := (if_pos c29).symm.trans hR
      refine lv_iconst (v := (0 : Int32)) hx hb dX5_isText_28 (by decide) ?_
      obtain rfl := Option.some.inj hR
      obtain rfl := hX1 _ rfl
      exact kk_ret_z hC hr hlocks hK hP hD hS dX5_isText_29 (by decide) rfl
set_option maxHeartbeats 8000000 in
set_option maxRecDepth 100000 in
theorem sX5_firstError (l : Launch) (g : kG) (n : Nat) (a : Nat → Nat) (M : St1) (r : Int32 × St1) (hR : fX5_firstError n M = some r) : kSp l g yX5_firstError wsX5_firstError ({ frames := 4, cells := 0, slots := 0, locals := 87 }) [.ref (a 0)] (w_M g a M) (kQi g (w_M g a r.2) r.1) := by
  refine kSp.of (cc := cX5_firstError) (maxL := 2) (ret := (some .int)) (by decide) rfl (Nat.le_of_ble_eq_true rfl) ?_
  intro p e s m args below meth c ls A hC hr hlocks hA hK hl hP hD hS
  replace hC : CallFix p m c cX5_firstError 2 s args wsX5_firstError RX5 := hC
  obtain ⟨hx, hb, hml, hown, hts⟩ := id hC
  replace hl : lv_has ls 2 [(0, .ref (a 0))] := hl
  unfold fX5_firstError at hR
  have hw5 : ∀ w ∈ wsX50, w ∈ wsX5_firstError := by decide +kernel
  have hl0 := hts (.fieldLink RX5 28 "FloatOrderModel" "thrown" "I") (by decide +kernel)
  have hl1 := hts (.fieldLink RX5 110 "FloatOrderModel" "typed" "I") (by decide +kernel)
  have hl2 := hts (.fieldLink RX5 116 "FloatOrderModel" "isFault" "Z") (by decide +kernel)
  have hl3 := hts (.fieldLink RX5 113 "FloatOrderModel" "at" "I") (by decide +kernel)
  refine lv_aload_n hx hb dX5_firstError_0 rfl (lv_at hl 0 rfl) ?_
  refine lv_iconst (v := (0 : Int32)) hx hb dX5_firstError_1 (by decide) ?_
  obtain ⟨M1, eM1, hR⟩ := kk_nm_el hR
  refine kk_put (w' := (w_M g a M1)) (ci := 5) (C := RX5) (T := TX5) (N := 12) (ty := .int) (v := .int (0 : Int32)) hC hw5 tyX5 tyX5_ok nmX5 hK hP hD hS 0 rfl rfl 6 (by decide) hl0 rfl (by decide +kernel) rfl rfl (Nat.le_of_ble_eq_true rfl) (by rw [eM1]; rfl) dX5_firstError_2 rfl (fun H locs hP hD hS => ?_)
  refine lv_aload_n hx hb dX5_firstError_5 rfl (lv_at hl 0 rfl) ?_
  obtain ⟨x2, hq2, hR⟩ := kk_bd_el hR
  refine kk_call_Vi (w' := (w_M g a x2.2)) (As := []) (rest := []) 0 5 hC (sX5_isText l g n a M1  x2 hq2) (cwV 0 hts gX5_firstError_X5_isText rfl rfl rfl (by decide +kernel) ⟨Nat.le_of_ble_eq_true rfl, Nat.le_of_ble_eq_true rfl⟩) hK hP hD hS hA [0, 1, 2, 3, 4, 5, 6] rfl (by decide +kernel) rfl rfl rfl rfl rfl rfl rfl hl.1 (Nat.le_of_ble_eq_true rfl) dX5_firstError_6 (fun H locs hP hD hS => ?_)
  refine lv_istore_n (lv' := [(1, .int x2.1), (0, .ref (a 0))]) hx hb dX5_firstError_9 rfl hl (by decide) rfl (fun ls hl => ?_)
  refine lv_iload_n hx hb dX5_firstError_10 rfl (lv_at hl 0 rfl) ?_
  refine lv_if_ne (tgt := 28) hx hb dX5_firstError_11 (by decide) (fun c3 => ?_) (fun c3 => ?_)
  · replace hR := (if_neg c3).symm.trans hR
    refine lv_aload_n hx hb dX5_firstError_28 rfl (lv_at hl 1 rfl) ?_
    refine va_get (ci := 5) (C := RX5) (T := TX5) (N := 12) hx hb hts hw5 hown hK hP 0 rfl rfl 5 (by decide) hl1 (fun _ h9 => h9) rfl dX5_firstError_29 ?_
    obtain rfl := Option.some.inj hR
    exact kk_ret_i hC hr hlocks hK hP hD hS dX5_firstError_32 rfl
  · replace hR := (if_pos c3).symm.trans hR
    refine lv_aload_n hx hb dX5_firstError_14 rfl (lv_at hl 1 rfl) ?_
    refine va_get (ci := 5) (C := RX5) (T := TX5) (N := 12) hx hb hts hw5 hown hK hP 0 rfl rfl 8 (by decide) hl2 (fun _ h9 => h9) rfl dX5_firstError_15 ?_
    refine lv_if_eq (tgt := 28) hx hb dX5_firstError_18 (by decide) (fun c4 => ?_) (fun c4 => ?_)
    · replace hR := (if_pos c4).symm.trans hR
      refine lv_aload_n hx hb dX5_firstError_28 rfl (lv_at hl 1 rfl) ?_
      refine va_get (ci := 5) (C := RX5) (T := TX5) (N := 12) hx hb hts hw5 hown hK hP 0 rfl rfl 5 (by decide) hl1 (fun _ h9 => h9) rfl dX5_firstError_29 ?_
      obtain rfl := Option.some.inj hR
      exact kk_ret_i hC hr hlocks hK hP hD hS dX5_firstError_32 rfl
    · replace hR := (if_neg c4).symm.trans hR
      refine lv_aload_n hx hb dX5_firstError_21 rfl (lv_at hl 1 rfl) ?_
      refine va_get (ci := 5) (C := RX5) (T := TX5) (N := 12) hx hb hts hw5 hown hK hP 0 rfl rfl 7 (by decide) hl3 (fun _ h9 => h9) rfl dX5_firstError_22 ?_
      refine lv_goto (tgt := 32) hx hb dX5_firstError_25 (by decide) ?_
      obtain rfl := Option.some.inj hR
      exact kk_ret_i hC hr hlocks hK hP hD hS dX5_firstError_32 rfl
set_option maxHeartbeats 8000000 in
set_option maxRecDepth 100000 in
theorem sX5_putAll (l : Launch) (g : kG) (n : Nat) (a : Nat → Nat) (M : St1) (r : Int32 × St1) (hR : fX5_putAll n M = some r) : kSp l g yX5_putAll wsX5_putAll ({ frames := 4, cells := 0, slots := 0, locals := 87 }) [.ref (a 0)] (w_M g a M) (kQi g (w_M g a r.2) r.1) := by
  refine kSp.of (cc := cX5_putAll) (maxL := 2) (ret := (some .int)) (by decide) rfl (Nat.le_of_ble_eq_true rfl) ?_
  intro p e s m args below meth c ls A hC hr hlocks hA hK hl hP hD hS
  replace hC : CallFix p m c cX5_putAll 2 s args wsX5_putAll RX5 := hC
  obtain ⟨hx, hb, hml, hown, hts⟩ := id hC
  replace hl : lv_has ls 2 [(0, .ref (a 0))] := hl
  unfold fX5_putAll at hR
  have hw5 : ∀ w ∈ wsX50, w ∈ wsX5_putAll := by decide +kernel
  have hl0 := hts (.fieldLink RX5 28 "FloatOrderModel" "thrown" "I") (by decide +kernel)
  have hl1 := hts (.fieldLink RX5 7 "FloatOrderModel" "now" "[I") (by decide +kernel)
  have hl2 := hts (.fieldLink RX5 123 "FloatOrderModel" "tolds" "I") (by decide +kernel)
  have hl3 := hts (.fieldLink RX5 110 "FloatOrderModel" "typed" "I") (by decide +kernel)
  have hl4 := hts (.fieldLink RX5 22 "FloatOrderModel" "told" "[I") (by decide +kernel)
  refine lv_aload_n hx hb dX5_putAll_0 rfl (lv_at hl 0 rfl) ?_
  refine lv_iconst (v := (0 : Int32)) hx hb dX5_putAll_1 (by decide) ?_
  obtain ⟨M1, eM1, hR⟩ := kk_nm_el hR
  refine kk_put (w' := (w_M g a M1)) (ci := 5) (C := RX5) (T := TX5) (N := 12) (ty := .int) (v := .int (0 : Int32)) hC hw5 tyX5 tyX5_ok nmX5 hK hP hD hS 0 rfl rfl 6 (by decide) hl0 rfl (by decide +kernel) rfl rfl (Nat.le_of_ble_eq_true rfl) (by rw [eM1]; rfl) dX5_putAll_2 rfl (fun H locs hP hD hS => ?_)
  refine lv_aload_n hx hb dX5_putAll_5 rfl (lv_at hl 0 rfl) ?_
  obtain ⟨x2, hq2, hR⟩ := kk_bd_el hR
  refine kk_call_Vi (w' := (w_M g a x2.2)) (As := []) (rest := []) 0 5 hC (sX5_isText l g n a M1  x2 hq2) (cwV 0 hts gX5_putAll_X5_isText rfl rfl rfl (by decide +kernel) ⟨Nat.le_of_ble_eq_true rfl, Nat.le_of_ble_eq_true rfl⟩) hK hP hD hS hA [0, 1, 2, 3, 4, 5, 6] rfl (by decide +kernel) rfl rfl rfl rfl rfl rfl rfl hl.1 (Nat.le_of_ble_eq_true rfl) dX5_putAll_6 (fun H locs hP hD hS => ?_)
  refine lv_if_ne (tgt := 18) hx hb dX5_putAll_9 (by decide) (fun c3 => ?_) (fun c3 => ?_)
  · replace hR := (if_neg c3).symm.trans hR
    refine lv_aload_n hx hb dX5_putAll_18 rfl (lv_at hl 0 rfl) ?_
    refine va_get (ci := 5) (C := RX5) (T := TX5) (N := 12) hx hb hts hw5 hown hK hP 0 rfl rfl 0 (by decide) hl1 (fun _ h9 => h9) rfl dX5_putAll_19 ?_
    refine lv_iconst (v := (4 : Int32)) hx hb dX5_putAll_22 (by decide) ?_
    refine va_iald hx hb hK hP 1 0 rfl rfl (kk_in 4 62 (by decide) (by decide) rfl) dX5_putAll_23 ?_
    refine lv_aload_n hx hb dX5_putAll_24 rfl (lv_at hl 0 rfl) ?_
    refine va_get (ci := 5) (C := RX5) (T := TX5) (N := 12) hx hb hts hw5 hown hK hP 0 rfl rfl 10 (by decide) hl2 (fun _ h9 => h9) rfl dX5_putAll_25 ?_
    refine lv_iadd hx hb dX5_putAll_28 ?_
    refine lv_bipush (v := (12 : Int32)) hx hb dX5_putAll_29 (by decide) ?_
    refine lv_icmp_le (tgt := 40) hx hb dX5_putAll_31 (by decide) (fun c4 => ?_) (fun c4 => ?_)
    · replace hR := (if_pos c4).symm.trans hR
      refine lv_aload_n hx hb dX5_putAll_40 rfl (lv_at hl 0 rfl) ?_
      obtain ⟨x5, hq5, hR⟩ := kk_bd_el hR
      refine kk_call_Vv (w' := (w_M g a x5)) (As := []) (rest := []) 0 5 hC (sX5_saves l g n a x2.2  x5 hq5) (cwV 0 hts gX5_putAll_X5_saves rfl rfl rfl (by decide +kernel) ⟨Nat.le_of_ble_eq_true rfl, Nat.le_of_ble_eq_true rfl⟩) hK hP hD hS hA [0, 1, 2, 3, 4, 5, 6] rfl (by decide +kernel) rfl rfl rfl rfl rfl rfl rfl hl.1 (Nat.le_of_ble_eq_true rfl) dX5_putAll_41 (fun H locs hP hD hS => ?_)
      refine lv_aload_n hx hb dX5_putAll_44 rfl (lv_at hl 0 rfl) ?_
      refine lv_iconst (v := (0 : Int32)) hx hb dX5_putAll_45 (by decide) ?_
      obtain ⟨M6, eM6, hR⟩ := kk_nm_el hR
      refine kk_put (w' := (w_M g a M6)) (ci := 5) (C := RX5) (T := TX5) (N := 12) (ty := .int) (v := .int (0 : Int32)) hC hw5 tyX5 tyX5_ok nmX5 hK hP hD hS 0 rfl rfl 5 (by decide) hl3 rfl (by decide +kernel) rfl rfl (Nat.le_of_ble_eq_true rfl) (by rw [eM6]; rfl) dX5_putAll_46 rfl (fun H locs hP hD hS => ?_)
      refine lv_iconst (v := (0 : Int32)) hx hb dX5_putAll_49 (by decide) ?_
      refine lv_istore_n (lv' := [(1, .int (0 : Int32)), (0, .ref (a 0))]) hx hb dX5_putAll_50 rfl hl (by decide) rfl (fun ls hl => ?_)
      obtain ⟨x18, hq18, hR⟩ := kk_bd_el hR
      refine kk_cut (g := g) (A := A) (w' := (w_M g a x18)) (nL := 2) (lv := [(0, .ref (a 0))]) (pcJ := 107) (st := []) (fun H locs ls hP hD hS hl => ?_) (fun hj18 => ?_)
      · refine lv_aload_n hx hb dX5_putAll_107 rfl (lv_at hl 0 rfl) ?_
        refine va_get (ci := 5) (C := RX5) (T := TX5) (N := 12) hx hb hts hw5 hown hK hP 0 rfl rfl 0 (by decide) hl1 (fun _ h9 => h9) rfl dX5_putAll_108 ?_
        refine lv_iconst (v := (4 : Int32)) hx hb dX5_putAll_111 (by decide) ?_
        refine va_iald hx hb hK hP 1 0 rfl rfl (kk_in 4 62 (by decide) (by decide) rfl) dX5_putAll_112 ?_
        obtain rfl := Option.some.inj hR
        exact kk_ret_i hC hr hlocks hK hP hD hS dX5_putAll_113 rfl
      refine kk_loop (g := g) (A := A) (fun (st : Int32 × St1) => (w_M g a st.2)) (fun (st : Int32 × St1) => [(1, .int st.1), (0, .ref (a 0))]) 51 (nL := 2) hq18 (fun st xb17 hR ih1 hX1 => ?_) hP hD hS (lv_sub hl [0, 1] rfl)
      clear hP hD hS hl
      obtain ⟨u15, M16⟩ := st
      intro H locs ls hP hD hS hl
      replace hR : fX5_putAll_b51 n u15 M16 = some xb17 := hR
      replace hP : va_P g.1 vwCl (w_M g a M16) H := hP
      replace hD : va_D A (w_M g a M16) := hD
      replace hl : lv_has ls 2 [(1, .int u15), (0, .ref (a 0))] := hl
      unfold fX5_putAll_b51 at hR
      refine lv_iload_n hx hb dX5_putAll_51 rfl (lv_at hl 0 rfl) ?_
      refine lv_aload_n hx hb dX5_putAll_52 rfl (lv_at hl 1 rfl) ?_
      refine va_get (ci := 5) (C := RX5) (T := TX5) (N := 12) hx hb hts hw5 hown hK hP 0 rfl rfl 10 (by decide) hl2 (fun _ h9 => h9) rfl dX5_putAll_53 ?_
      refine lv_icmp_ge (tgt := 107) hx hb dX5_putAll_56 (by decide) (fun c19 => ?_) (fun c19 => ?_)
      · replace hR := (if_pos c19).symm.trans hR
        obtain rfl := Option.some.inj hR
        obtain rfl := hX1 _ rfl
        exact hj18 _ _ _ hP hD hS (lv_sub hl [1] rfl)
      · replace hR := (if_neg c19).symm.trans hR
        refine lv_aload_n hx hb dX5_putAll_59 rfl (lv_at hl 1 rfl) ?_
        refine va_get (ci := 5) (C := RX5) (T := TX5) (N := 12) hx hb hts hw5 hown hK hP 0 rfl rfl 0 (by decide) hl1 (fun _ h9 => h9) rfl dX5_putAll_60 ?_
        refine lv_aload_n hx hb dX5_putAll_63 rfl (lv_at hl 1 rfl) ?_
        refine va_get (ci := 5) (C := RX5) (T := TX5) (N := 12) hx hb hts hw5 hown hK hP 0 rfl rfl 0 (by decide) hl1 (fun _ h9 => h9) rfl dX5_putAll_64 ?_
        refine lv_iconst (v := (4 : Int32)) hx hb dX5_putAll_67 (by decide) ?_
        refine va_iald hx hb hK hP 1 0 rfl rfl (kk_in 4 62 (by decide) (by decide) rfl) dX5_putAll_68 ?_
        refine lv_aload_n hx hb dX5_putAll_69 rfl (lv_at hl 1 rfl) ?_
        refine va_get (ci := 5) (C := RX5) (T := TX5) (N := 12) hx hb hts hw5 hown hK hP 0 rfl rfl 9 (by decide) hl4 (fun _ h9 => h9) rfl dX5_putAll_70 ?_
        refine lv_iconst (v := (3 : Int32)) hx hb dX5_putAll_73 (by decide) ?_
        refine lv_iload_n hx hb dX5_putAll_74 rfl (lv_at hl 0 rfl) ?_
        refine lv_imul hx hb dX5_putAll_75 ?_
        obtain ⟨hi20, hR⟩ := kk_ck_el hR
        refine va_iald hx hb hK hP 5 0 rfl rfl hi20 dX5_putAll_76 ?_
        refine lv_aload_n hx hb dX5_putAll_77 rfl (lv_at hl 1 rfl) ?_
        refine va_get (ci := 5) (C := RX5) (T := TX5) (N := 12) hx hb hts hw5 hown hK hP 0 rfl rfl 9 (by decide) hl4 (fun _ h9 => h9) rfl dX5_putAll_78 ?_
        refine lv_iconst (v := (3 : Int32)) hx hb dX5_putAll_81 (by decide) ?_
        refine lv_iload_n hx hb dX5_putAll_82 rfl (lv_at hl 0 rfl) ?_
        refine lv_imul hx hb dX5_putAll_83 ?_
        refine lv_iconst (v := (1 : Int32)) hx hb dX5_putAll_84 (by decide) ?_
        refine lv_iadd hx hb dX5_putAll_85 ?_
        obtain ⟨hi21, hR⟩ := kk_ck_el hR
        refine va_iald hx hb hK hP 5 0 rfl rfl hi21 dX5_putAll_86 ?_
        refine lv_aload_n hx hb dX5_putAll_87 rfl (lv_at hl 1 rfl) ?_
        refine va_get (ci := 5) (C := RX5) (T := TX5) (N := 12) hx hb hts hw5 hown hK hP 0 rfl rfl 9 (by decide) hl4 (fun _ h9 => h9) rfl dX5_putAll_88 ?_
        refine lv_iconst (v := (3 : Int32)) hx hb dX5_putAll_91 (by decide) ?_
        refine lv_iload_n hx hb dX5_putAll_92 rfl (lv_at hl 0 rfl) ?_
        refine lv_imul hx hb dX5_putAll_93 ?_
        refine lv_iconst (v := (2 : Int32)) hx hb dX5_putAll_94 (by decide) ?_
        refine lv_iadd hx hb dX5_putAll_95 ?_
        obtain ⟨hi22, hR⟩ := kk_ck_el hR
        refine va_iald hx hb hK hP 5 0 rfl rfl hi22 dX5_putAll_96 ?_
        refine lv_iconst (v := (0 : Int32)) hx hb dX5_putAll_97 (by decide) ?_
        obtain ⟨x23, hq23, hR⟩ := kk_bd_el hR
        obtain ⟨M24, eM24, hR⟩ := kk_nm_el hR
        refine kk_call_Sv (w' := (w_M g a M24)) (As := [.ref (a 1), .int ((M16 0) (4 : Int32).toNatClampNeg), .int ((M16 9) ((3 : Int32) * u15).toNatClampNeg), .int ((M16 9) (((3 : Int32) * u15) + (1 : Int32)).toNatClampNeg), .int ((M16 9) (((3 : Int32) * u15) + (2 : Int32)).toNatClampNeg), .int (0 : Int32)]) (rest := []) hC (sX5_puts l g n (a 1) (M16 0) ((M16 0) (4 : Int32).toNatClampNeg) ((M16 9) ((3 : Int32) * u15).toNatClampNeg) ((M16 9) (((3 : Int32) * u15) + (1 : Int32)).toNatClampNeg) ((M16 9) (((3 : Int32) * u15) + (2 : Int32)).toNatClampNeg) (0 : Int32) x23 hq23) (va_cwS 6 hts gX5_putAll_X5_puts rfl rfl rfl (by decide +kernel) ⟨Nat.le_of_ble_eq_true rfl, Nat.le_of_ble_eq_true rfl⟩) hK hP hD hS hA [1] rfl (by decide +kernel) rfl (by rw [eM24]; rfl) rfl rfl hl.1 (Nat.le_of_ble_eq_true rfl) dX5_putAll_98 (fun H locs hP hD hS => ?_)
        refine lv_iinc (v := (u15 + (1 : Int32))) (lv' := [(1, .int (u15 + (1 : Int32))), (0, .ref (a 0))]) hx hb dX5_putAll_101 hl (k := 0) rfl rfl (by decide) rfl (fun ls hl => ?_)
        refine lv_goto (tgt := 51) hx hb dX5_putAll_104 (by decide) ?_
        obtain rfl := Option.some.inj hR
        exact ih1 _ rfl _ _ _ hP hD hS (lv_sub hl [0, 1] rfl)
    · replace hR := (if_neg c4).symm.trans hR
      refine lv_aload_n hx hb dX5_putAll_34 rfl (lv_at hl 0 rfl) ?_
      refine lv_iconst (v := (2 : Int32)) hx hb dX5_putAll_35 (by decide) ?_
      obtain ⟨x25, hq25, hR⟩ := kk_bd_el hR
      refine kk_call_Vi (w' := (w_M g a x25.2)) (As := [.int (2 : Int32)]) (rest := []) 0 5 hC (sX5_fails l g n a x2.2 (2 : Int32) x25 hq25) (cwV 1 hts gX5_putAll_X5_fails rfl rfl rfl (by decide +kernel) ⟨Nat.le_of_ble_eq_true rfl, Nat.le_of_ble_eq_true rfl⟩) hK hP hD hS hA [0, 1, 2, 3, 4, 5, 6] rfl (by decide +kernel) rfl rfl rfl rfl rfl rfl rfl hl.1 (Nat.le_of_ble_eq_true rfl) dX5_putAll_36 (fun H locs hP hD hS => ?_)
      obtain rfl := Option.some.inj hR
      exact kk_ret_i hC hr hlocks hK hP hD hS dX5_putAll_39 rfl
  · replace hR := (if_pos c3).symm.trans hR
    refine lv_aload_n hx hb dX5_putAll_12 rfl (lv_at hl 0 rfl) ?_
    refine lv_iconst (v := (1 : Int32)) hx hb dX5_putAll_13 (by decide) ?_
    obtain ⟨x26, hq26, hR⟩ := kk_bd_el hR
    refine kk_call_Vi (w' := (w_M g a x26.2)) (As := [.int (1 : Int32)]) (rest := []) 0 5 hC (sX5_fails l g n a x2.2 (1 : Int32) x26 hq26) (cwV 1 hts gX5_putAll_X5_fails rfl rfl rfl (by decide +kernel) ⟨Nat.le_of_ble_eq_true rfl, Nat.le_of_ble_eq_true rfl⟩) hK hP hD hS hA [0, 1, 2, 3, 4, 5, 6] rfl (by decide +kernel) rfl rfl rfl rfl rfl rfl rfl hl.1 (Nat.le_of_ble_eq_true rfl) dX5_putAll_14 (fun H locs hP hD hS => ?_)
    obtain rfl := Option.some.inj hR
    exact kk_ret_i hC hr hlocks hK hP hD hS dX5_putAll_17 rfl
set_option maxHeartbeats 8000000 in
set_option maxRecDepth 100000 in
theorem sX5_bridgesOf (l : Launch) (g : kG) (n : Nat) (a : Nat → Nat) (M : St1) (v1 : Int32) (r : Int32) (hR : fX5_bridgesOf n M v1 = some r) : kSp l g yX5_bridgesOf wsX5_bridgesOf ({ frames := 3, cells := 0, slots := 0, locals := 66 }) [.ref (a 0), .int v1] (w_M g a M) (kQi g (w_M g a M) r) := by
  refine kSp.of (cc := cX5_bridgesOf) (maxL := 4) (ret := (some .int)) (by decide) rfl (Nat.le_of_ble_eq_true rfl) ?_
  intro p e s m args below meth c ls A hC hr hlocks hA hK hl hP hD hS
  replace hC : CallFix p m c cX5_bridgesOf 4 s args wsX5_bridgesOf RX5 := hC
  obtain ⟨hx, hb, hml, hown, hts⟩ := id hC
  replace hl : lv_has ls 4 [(0, .ref (a 0)), (1, .int v1)] := hl
  unfold fX5_bridgesOf at hR
  have hw5 : ∀ w ∈ wsX50, w ∈ wsX5_bridgesOf := by decide +kernel
  have hl0 := hts (.fieldLink RX5 7 "FloatOrderModel" "now" "[I") (by decide +kernel)
  refine lv_iconst (v := (0 : Int32)) hx hb dX5_bridgesOf_0 (by decide) ?_
  refine lv_istore_n (lv' := [(2, .int (0 : Int32)), (0, .ref (a 0)), (1, .int v1)]) hx hb dX5_bridgesOf_1 rfl hl (by decide) rfl (fun ls hl => ?_)
  refine lv_iconst (v := (0 : Int32)) hx hb dX5_bridgesOf_2 (by decide) ?_
  refine lv_istore_n (lv' := [(3, .int (0 : Int32)), (2, .int (0 : Int32)), (0, .ref (a 0)), (1, .int v1)]) hx hb dX5_bridgesOf_3 rfl hl (by decide) rfl (fun ls hl => ?_)
  obtain ⟨x10, hq10, hR⟩ := kk_bd_el hR
  refine kk_cut (g := g) (A := A) (w' := (w_M g a M)) (nL := 4) (lv := [(2, .int x10)]) (pcJ := 40) (st := []) (fun H locs ls hP hD hS hl => ?_) (fun hj10 => ?_)
  · refine lv_iload_n hx hb dX5_bridgesOf_40 rfl (lv_at hl 0 rfl) ?_
    obtain rfl := Option.some.inj hR
    exact kk_ret_i hC hr hlocks hK hP hD hS dX5_bridgesOf_41 rfl
  refine kk_loop (g := g) (A := A) (fun (st : Int32 × Int32) => (w_M g a M)) (fun (st : Int32 × Int32) => [(3, .int st.2), (2, .int st.1), (0, .ref (a 0)), (1, .int v1)]) 4 (nL := 4) hq10 (fun st xb9 hR ih1 hX1 => ?_) hP hD hS (lv_sub hl [0, 1, 2, 3] rfl)
  clear hP hD hS hl
  obtain ⟨u7, u8⟩ := st
  intro H locs ls hP hD hS hl
  replace hR : fX5_bridgesOf_b4 n M v1 u7 u8 = some xb9 := hR
  replace hP : va_P g.1 vwCl (w_M g a M) H := hP
  replace hD : va_D A (w_M g a M) := hD
  replace hl : lv_has ls 4 [(3, .int u8), (2, .int u7), (0, .ref (a 0)), (1, .int v1)] := hl
  unfold fX5_bridgesOf_b4 at hR
  refine lv_iload_n hx hb dX5_bridgesOf_4 rfl (lv_at hl 0 rfl) ?_
  refine lv_aload_n hx hb dX5_bridgesOf_5 rfl (lv_at hl 2 rfl) ?_
  refine va_get (ci := 5) (C := RX5) (T := TX5) (N := 12) hx hb hts hw5 hown hK hP 0 rfl rfl 0 (by decide) hl0 (fun _ h9 => h9) rfl dX5_bridgesOf_6 ?_
  refine lv_iconst (v := (5 : Int32)) hx hb dX5_bridgesOf_9 (by decide) ?_
  refine va_iald hx hb hK hP 1 0 rfl rfl (kk_in 5 62 (by decide) (by decide) rfl) dX5_bridgesOf_10 ?_
  refine lv_icmp_ge (tgt := 40) hx hb dX5_bridgesOf_11 (by decide) (fun c11 => ?_) (fun c11 => ?_)
  · replace hR := (if_pos c11).symm.trans hR
    obtain rfl := Option.some.inj hR
    obtain rfl := hX1 _ rfl
    exact hj10 _ _ _ hP hD hS (lv_sub hl [1] rfl)
  · replace hR := (if_neg c11).symm.trans hR
    refine lv_iload_n hx hb dX5_bridgesOf_14 rfl (lv_at hl 1 rfl) ?_
    refine lv_aload_n hx hb dX5_bridgesOf_15 rfl (lv_at hl 2 rfl) ?_
    refine va_get (ci := 5) (C := RX5) (T := TX5) (N := 12) hx hb hts hw5 hown hK hP 0 rfl rfl 0 (by decide) hl0 (fun _ h9 => h9) rfl dX5_bridgesOf_16 ?_
    refine lv_iload_n hx hb dX5_bridgesOf_19 rfl (lv_at hl 3 rfl) ?_
    refine lv_iload_n hx hb dX5_bridgesOf_20 rfl (lv_at hl 0 rfl) ?_
    obtain ⟨x12, hq12, hR⟩ := kk_bd_el hR
    refine kk_call_Si (w' := (w_M g a M)) (As := [.ref (a 1), .int v1, .int u8]) (rest := [.int u7]) hC (sX5_isLowered l g n (a 1) (M 0) v1 u8 x12 hq12) (va_cwS 3 hts gX5_bridgesOf_X5_isLowered rfl rfl rfl (by decide +kernel) ⟨Nat.le_of_ble_eq_true rfl, Nat.le_of_ble_eq_true rfl⟩) hK hP hD hS hA [1] rfl (by decide +kernel) rfl rfl rfl rfl hl.1 (Nat.le_of_ble_eq_true rfl) dX5_bridgesOf_21 (fun H locs hP hD hS => ?_)
    refine lv_if_eq (tgt := 31) hx hb dX5_bridgesOf_24 (by decide) (fun c13 => ?_) (fun c13 => ?_)
    · replace hR := (if_pos c13).symm.trans hR
      refine lv_iconst (v := (0 : Int32)) hx hb dX5_bridgesOf_31 (by decide) ?_
      refine lv_iadd hx hb dX5_bridgesOf_32 ?_
      refine lv_istore_n (lv' := [(2, .int (u7 + (0 : Int32))), (3, .int u8), (0, .ref (a 0)), (1, .int v1)]) hx hb dX5_bridgesOf_33 rfl hl (by decide) rfl (fun ls hl => ?_)
      refine lv_iinc (v := (u8 + (1 : Int32))) (lv' := [(3, .int (u8 + (1 : Int32))), (2, .int (u7 + (0 : Int32))), (0, .ref (a 0)), (1, .int v1)]) hx hb dX5_bridgesOf_34 hl (k := 1) rfl rfl (by decide) rfl (fun ls hl => ?_)
      refine lv_goto (tgt := 4) hx hb dX5_bridgesOf_37 (by decide) ?_
      obtain rfl := Option.some.inj hR
      exact ih1 _ rfl _ _ _ hP hD hS (lv_sub hl [0, 1, 2, 3] rfl)
    · replace hR := (if_neg c13).symm.trans hR
      refine lv_iconst (v := (1 : Int32)) hx hb dX5_bridgesOf_27 (by decide) ?_
      refine lv_goto (tgt := 32) hx hb dX5_bridgesOf_28 (by decide) ?_
      refine lv_iadd hx hb dX5_bridgesOf_32 ?_
      refine lv_istore_n (lv' := [(2, .int (u7 + (1 : Int32))), (3, .int u8), (0, .ref (a 0)), (1, .int v1)]) hx hb dX5_bridgesOf_33 rfl hl (by decide) rfl (fun ls hl => ?_)
      refine lv_iinc (v := (u8 + (1 : Int32))) (lv' := [(3, .int (u8 + (1 : Int32))), (2, .int (u7 + (1 : Int32))), (0, .ref (a 0)), (1, .int v1)]) hx hb dX5_bridgesOf_34 hl (k := 1) rfl rfl (by decide) rfl (fun ls hl => ?_)
      refine lv_goto (tgt := 4) hx hb dX5_bridgesOf_37 (by decide) ?_
      obtain rfl := Option.some.inj hR
      exact ih1 _ rfl _ _ _ hP hD hS (lv_sub hl [0, 1, 2, 3] rfl)
set_option maxHeartbeats 8000000 in
set_option maxRecDepth 100000 in
theorem sX5_ofFloat (l : Launch) (g : kG) (n : Nat) (a : Nat → Nat) (M : St1) (v1 : Int32) (v2 : Int32) (r : Int32) (hR : fX5_ofFloat n M v1 v2 = some r) : kSp l g yX5_ofFloat wsX5_ofFloat ({ frames := 4, cells := 0, slots := 0, locals := 89 }) [.ref (a 0), .int v1, .int v2] (w_M g a M) (kQi g (w_M g a M) r) := by
  refine kSp.of (cc := cX5_ofFloat) (maxL := 3) (ret := (some .int)) (by decide) rfl (Nat.le_of_ble_eq_true rfl) ?_
  intro p e s m args below meth c ls A hC hr hlocks hA hK hl hP hD hS
  replace hC : CallFix p m c cX5_ofFloat 3 s args wsX5_ofFloat RX5 := hC
  obtain ⟨hx, hb, hml, hown, hts⟩ := id hC
  replace hl : lv_has ls 3 [(0, .ref (a 0)), (1, .int v1), (2, .int v2)] := hl
  unfold fX5_ofFloat at hR
  have hw5 : ∀ w ∈ wsX50, w ∈ wsX5_ofFloat := by decide +kernel
  have hl0 := hts (.fieldLink RX5 7 "FloatOrderModel" "now" "[I") (by decide +kernel)
  refine lv_iload_n hx hb dX5_ofFloat_0 rfl (lv_at hl 2 rfl) ?_
  refine lv_iconst (v := (4 : Int32)) hx hb dX5_ofFloat_1 (by decide) ?_
  refine lv_icmp_ge (tgt := 17) hx hb dX5_ofFloat_2 (by decide) (fun c1 => ?_) (fun c1 => ?_)
  · replace hR := (if_pos c1).symm.trans hR
    refine lv_iload_n hx hb dX5_ofFloat_17 rfl (lv_at hl 2 rfl) ?_
    refine lv_iconst (v := (4 : Int32)) hx hb dX5_ofFloat_18 (by decide) ?_
    refine lv_icmp_ne (tgt := 33) hx hb dX5_ofFloat_19 (by decide) (fun c2 => ?_) (fun c2 => ?_)
    · replace hR := (if_neg c2).symm.trans hR
      refine lv_iload_n hx hb dX5_ofFloat_33 rfl (lv_at hl 2 rfl) ?_
      refine lv_iconst (v := (5 : Int32)) hx hb dX5_ofFloat_34 (by decide) ?_
      refine lv_icmp_ne (tgt := 46) hx hb dX5_ofFloat_35 (by decide) (fun c3 => ?_) (fun c3 => ?_)
      · replace hR := (if_neg c3).symm.trans hR
        refine lv_aload_n hx hb dX5_ofFloat_46 rfl (lv_at hl 0 rfl) ?_
        refine va_get (ci := 5) (C := RX5) (T := TX5) (N := 12) hx hb hts hw5 hown hK hP 0 rfl rfl 0 (by decide) hl0 (fun _ h9 => h9) rfl dX5_ofFloat_47 ?_
        refine lv_iload_n hx hb dX5_ofFloat_50 rfl (lv_at hl 1 rfl) ?_
        obtain ⟨x4, hq4, hR⟩ := kk_bd_el hR
        refine kk_call_Si (w' := (w_M g a M)) (As := [.ref (a 1), .int v1]) (rest := []) hC (sX5_troubles l g n (a 1) (M 0) v1 x4 hq4) (va_cwS 2 hts gX5_ofFloat_X5_troubles rfl rfl rfl (by decide +kernel) ⟨Nat.le_of_ble_eq_true rfl, Nat.le_of_ble_eq_true rfl⟩) hK hP hD hS hA [1] rfl (by decide +kernel) rfl rfl rfl rfl hl.1 (Nat.le_of_ble_eq_true rfl) dX5_ofFloat_51 (fun H locs hP hD hS => ?_)
        obtain rfl := Option.some.inj hR
        exact kk_ret_i hC hr hlocks hK hP hD hS dX5_ofFloat_54 rfl
      · replace hR := (if_pos c3).symm.trans hR
        refine lv_aload_n hx hb dX5_ofFloat_38 rfl (lv_at hl 0 rfl) ?_
        refine lv_iload_n hx hb dX5_ofFloat_39 rfl (lv_at hl 1 rfl) ?_
        obtain ⟨x5, hq5, hR⟩ := kk_bd_el hR
        refine kk_call_Vi (w' := (w_M g a M)) (As := [.int v1]) (rest := []) 0 5 hC (sX5_bridgesOf l g n a M v1 x5 hq5) (cwV 1 hts gX5_ofFloat_X5_bridgesOf rfl rfl rfl (by decide +kernel) ⟨Nat.le_of_ble_eq_true rfl, Nat.le_of_ble_eq_true rfl⟩) hK hP hD hS hA [0, 1, 2, 3, 4, 5, 6] rfl (by decide +kernel) rfl rfl rfl rfl rfl rfl rfl hl.1 (Nat.le_of_ble_eq_true rfl) dX5_ofFloat_40 (fun H locs hP hD hS => ?_)
        refine lv_goto (tgt := 54) hx hb dX5_ofFloat_43 (by decide) ?_
        obtain rfl := Option.some.inj hR
        exact kk_ret_i hC hr hlocks hK hP hD hS dX5_ofFloat_54 rfl
    · replace hR := (if_pos c2).symm.trans hR
      refine lv_aload_n hx hb dX5_ofFloat_22 rfl (lv_at hl 0 rfl) ?_
      refine va_get (ci := 5) (C := RX5) (T := TX5) (N := 12) hx hb hts hw5 hown hK hP 0 rfl rfl 0 (by decide) hl0 (fun _ h9 => h9) rfl dX5_ofFloat_23 ?_
      refine lv_iload_n hx hb dX5_ofFloat_26 rfl (lv_at hl 1 rfl) ?_
      obtain ⟨x6, hq6, hR⟩ := kk_bd_el hR
      refine kk_call_Si (w' := (w_M g a M)) (As := [.ref (a 1), .int v1]) (rest := []) hC (sX5_high l g n (a 1) (M 0) v1 x6 hq6) (va_cwS 2 hts gX5_ofFloat_X5_high rfl rfl rfl (by decide +kernel) ⟨Nat.le_of_ble_eq_true rfl, Nat.le_of_ble_eq_true rfl⟩) hK hP hD hS hA [1] rfl (by decide +kernel) rfl rfl rfl rfl hl.1 (Nat.le_of_ble_eq_true rfl) dX5_ofFloat_27 (fun H locs hP hD hS => ?_)
      refine lv_goto (tgt := 54) hx hb dX5_ofFloat_30 (by decide) ?_
      obtain rfl := Option.some.inj hR
      exact kk_ret_i hC hr hlocks hK hP hD hS dX5_ofFloat_54 rfl
  · replace hR := (if_neg c1).symm.trans hR
    refine lv_aload_n hx hb dX5_ofFloat_5 rfl (lv_at hl 0 rfl) ?_
    refine va_get (ci := 5) (C := RX5) (T := TX5) (N := 12) hx hb hts hw5 hown hK hP 0 rfl rfl 0 (by decide) hl0 (fun _ h9 => h9) rfl dX5_ofFloat_6 ?_
    refine lv_iload_n hx hb dX5_ofFloat_9 rfl (lv_at hl 1 rfl) ?_
    refine lv_iload_n hx hb dX5_ofFloat_10 rfl (lv_at hl 2 rfl) ?_
    obtain ⟨x7, hq7, hR⟩ := kk_bd_el hR
    refine kk_call_Si (w' := (w_M g a M)) (As := [.ref (a 1), .int v1, .int v2]) (rest := []) hC (sX5_of l g n (a 1) (M 0) v1 v2 x7 hq7) (va_cwS 3 hts gX5_ofFloat_X5_of rfl rfl rfl (by decide +kernel) ⟨Nat.le_of_ble_eq_true rfl, Nat.le_of_ble_eq_true rfl⟩) hK hP hD hS hA [1] rfl (by decide +kernel) rfl rfl rfl rfl hl.1 (Nat.le_of_ble_eq_true rfl) dX5_ofFloat_11 (fun H locs hP hD hS => ?_)
    refine lv_goto (tgt := 54) hx hb dX5_ofFloat_14 (by decide) ?_
    obtain rfl := Option.some.inj hR
    exact kk_ret_i hC hr hlocks hK hP hD hS dX5_ofFloat_54 rfl
set_option maxHeartbeats 8000000 in
set_option maxRecDepth 100000 in
theorem sX5_floatAt (l : Launch) (g : kG) (n : Nat) (a : Nat → Nat) (M : St1) (v1 : Int32) (v2 : Int32) (r : Int32 × St1) (hR : fX5_floatAt n M v1 v2 = some r) : kSp l g yX5_floatAt wsX5_floatAt ({ frames := 5, cells := 0, slots := 0, locals := 111 }) [.ref (a 0), .int v1, .int v2] (w_M g a M) (kQi g (w_M g a r.2) r.1) := by
  refine kSp.of (cc := cX5_floatAt) (maxL := 3) (ret := (some .int)) (by decide) rfl (Nat.le_of_ble_eq_true rfl) ?_
  intro p e s m args below meth c ls A hC hr hlocks hA hK hl hP hD hS
  replace hC : CallFix p m c cX5_floatAt 3 s args wsX5_floatAt RX5 := hC
  obtain ⟨hx, hb, hml, hown, hts⟩ := id hC
  replace hl : lv_has ls 3 [(0, .ref (a 0)), (1, .int v1), (2, .int v2)] := hl
  unfold fX5_floatAt at hR
  have hw5 : ∀ w ∈ wsX50, w ∈ wsX5_floatAt := by decide +kernel
  have hl0 := hts (.fieldLink RX5 28 "FloatOrderModel" "thrown" "I") (by decide +kernel)
  refine lv_aload_n hx hb dX5_floatAt_0 rfl (lv_at hl 0 rfl) ?_
  refine lv_iconst (v := (0 : Int32)) hx hb dX5_floatAt_1 (by decide) ?_
  obtain ⟨M1, eM1, hR⟩ := kk_nm_el hR
  refine kk_put (w' := (w_M g a M1)) (ci := 5) (C := RX5) (T := TX5) (N := 12) (ty := .int) (v := .int (0 : Int32)) hC hw5 tyX5 tyX5_ok nmX5 hK hP hD hS 0 rfl rfl 6 (by decide) hl0 rfl (by decide +kernel) rfl rfl (Nat.le_of_ble_eq_true rfl) (by rw [eM1]; rfl) dX5_floatAt_2 rfl (fun H locs hP hD hS => ?_)
  refine lv_aload_n hx hb dX5_floatAt_5 rfl (lv_at hl 0 rfl) ?_
  refine lv_iload_n hx hb dX5_floatAt_6 rfl (lv_at hl 1 rfl) ?_
  obtain ⟨x2, hq2, hR⟩ := kk_bd_el hR
  refine kk_call_Vi (w' := (w_M g a M1)) (As := [.int v1]) (rest := []) 0 5 hC (sX5_isFloat l g n a M1 v1 x2 hq2) (cwV 1 hts gX5_floatAt_X5_isFloat rfl rfl rfl (by decide +kernel) ⟨Nat.le_of_ble_eq_true rfl, Nat.le_of_ble_eq_true rfl⟩) hK hP hD hS hA [0, 1, 2, 3, 4, 5, 6] rfl (by decide +kernel) rfl rfl rfl rfl rfl rfl rfl hl.1 (Nat.le_of_ble_eq_true rfl) dX5_floatAt_7 (fun H locs hP hD hS => ?_)
  refine lv_if_ne (tgt := 19) hx hb dX5_floatAt_10 (by decide) (fun c3 => ?_) (fun c3 => ?_)
  · replace hR := (if_neg c3).symm.trans hR
    refine lv_iload_n hx hb dX5_floatAt_19 rfl (lv_at hl 2 rfl) ?_
    refine lv_iconst (v := (0 : Int32)) hx hb dX5_floatAt_20 (by decide) ?_
    refine lv_bipush (v := (6 : Int32)) hx hb dX5_floatAt_21 (by decide) ?_
    obtain ⟨x4, hq4, hR⟩ := kk_bd_el hR
    refine kk_call_Si (w' := (w_M g a M1)) (As := [.int v2, .int (0 : Int32), .int (6 : Int32)]) (rest := []) hC (sX5_in l g n   v2 (0 : Int32) (6 : Int32) x4 hq4) (va_cwS 3 hts gX5_floatAt_X5_in rfl rfl rfl (by decide +kernel) ⟨Nat.le_of_ble_eq_true rfl, Nat.le_of_ble_eq_true rfl⟩) hK hP hD hS hA [] rfl (by decide +kernel) rfl rfl rfl rfl hl.1 (Nat.le_of_ble_eq_true rfl) dX5_floatAt_23 (fun H locs hP hD hS => ?_)
    refine lv_if_eq (tgt := 38) hx hb dX5_floatAt_26 (by decide) (fun c5 => ?_) (fun c5 => ?_)
    · replace hR := (if_pos c5).symm.trans hR
      refine lv_aload_n hx hb dX5_floatAt_38 rfl (lv_at hl 0 rfl) ?_
      refine lv_iconst (v := (2 : Int32)) hx hb dX5_floatAt_39 (by decide) ?_
      obtain ⟨x6, hq6, hR⟩ := kk_bd_el hR
      refine kk_call_Vi (w' := (w_M g a x6.2)) (As := [.int (2 : Int32)]) (rest := []) 0 5 hC (sX5_fails l g n a M1 (2 : Int32) x6 hq6) (cwV 1 hts gX5_floatAt_X5_fails rfl rfl rfl (by decide +kernel) ⟨Nat.le_of_ble_eq_true rfl, Nat.le_of_ble_eq_true rfl⟩) hK hP hD hS hA [0, 1, 2, 3, 4, 5, 6] rfl (by decide +kernel) rfl rfl rfl rfl rfl rfl rfl hl.1 (Nat.le_of_ble_eq_true rfl) dX5_floatAt_40 (fun H locs hP hD hS => ?_)
      obtain rfl := Option.some.inj hR
      exact kk_ret_i hC hr hlocks hK hP hD hS dX5_floatAt_43 rfl
    · replace hR := (if_neg c5).symm.trans hR
      refine lv_aload_n hx hb dX5_floatAt_29 rfl (lv_at hl 0 rfl) ?_
      refine lv_iload_n hx hb dX5_floatAt_30 rfl (lv_at hl 1 rfl) ?_
      refine lv_iload_n hx hb dX5_floatAt_31 rfl (lv_at hl 2 rfl) ?_
      obtain ⟨x7, hq7, hR⟩ := kk_bd_el hR
      refine kk_call_Vi (w' := (w_M g a M1)) (As := [.int v1, .int v2]) (rest := []) 0 5 hC (sX5_ofFloat l g n a M1 v1 v2 x7 hq7) (cwV 2 hts gX5_floatAt_X5_ofFloat rfl rfl rfl (by decide +kernel) ⟨Nat.le_of_ble_eq_true rfl, Nat.le_of_ble_eq_true rfl⟩) hK hP hD hS hA [0, 1, 2, 3, 4, 5, 6] rfl (by decide +kernel) rfl rfl rfl rfl rfl rfl rfl hl.1 (Nat.le_of_ble_eq_true rfl) dX5_floatAt_32 (fun H locs hP hD hS => ?_)
      refine lv_goto (tgt := 43) hx hb dX5_floatAt_35 (by decide) ?_
      obtain rfl := Option.some.inj hR
      exact kk_ret_i hC hr hlocks hK hP hD hS dX5_floatAt_43 rfl
  · replace hR := (if_pos c3).symm.trans hR
    refine lv_aload_n hx hb dX5_floatAt_13 rfl (lv_at hl 0 rfl) ?_
    refine lv_iconst (v := (1 : Int32)) hx hb dX5_floatAt_14 (by decide) ?_
    obtain ⟨x8, hq8, hR⟩ := kk_bd_el hR
    refine kk_call_Vi (w' := (w_M g a x8.2)) (As := [.int (1 : Int32)]) (rest := []) 0 5 hC (sX5_fails l g n a M1 (1 : Int32) x8 hq8) (cwV 1 hts gX5_floatAt_X5_fails rfl rfl rfl (by decide +kernel) ⟨Nat.le_of_ble_eq_true rfl, Nat.le_of_ble_eq_true rfl⟩) hK hP hD hS hA [0, 1, 2, 3, 4, 5, 6] rfl (by decide +kernel) rfl rfl rfl rfl rfl rfl rfl hl.1 (Nat.le_of_ble_eq_true rfl) dX5_floatAt_15 (fun H locs hP hD hS => ?_)
    obtain rfl := Option.some.inj hR
    exact kk_ret_i hC hr hlocks hK hP hD hS dX5_floatAt_18 rfl
set_option maxHeartbeats 8000000 in
set_option maxRecDepth 100000 in
theorem sX5_trouble (l : Launch) (g : kG) (n : Nat) (a : Nat → Nat) (M : St1) (v1 : Int32) (v2 : Int32) (r : Int32 × St1) (hR : fX5_trouble n M v1 v2 = some r) : kSp l g yX5_trouble wsX5_trouble ({ frames := 2, cells := 0, slots := 0, locals := 47 }) [.ref (a 0), .int v1, .int v2] (w_M g a M) (kQi g (w_M g a r.2) r.1) := by
  refine kSp.of (cc := cX5_trouble) (maxL := 3) (ret := (some .int)) (by decide) rfl (Nat.le_of_ble_eq_true rfl) ?_
  intro p e s m args below meth c ls A hC hr hlocks hA hK hl hP hD hS
  replace hC : CallFix p m c cX5_trouble 3 s args wsX5_trouble RX5 := hC
  obtain ⟨hx, hb, hml, hown, hts⟩ := id hC
  replace hl : lv_has ls 3 [(0, .ref (a 0)), (1, .int v1), (2, .int v2)] := hl
  unfold fX5_trouble at hR
  have hw5 : ∀ w ∈ wsX50, w ∈ wsX5_trouble := by decide +kernel
  have hl0 := hts (.fieldLink RX5 28 "FloatOrderModel" "thrown" "I") (by decide +kernel)
  have hl1 := hts (.fieldLink RX5 7 "FloatOrderModel" "now" "[I") (by decide +kernel)
  refine lv_aload_n hx hb dX5_trouble_0 rfl (lv_at hl 0 rfl) ?_
  refine lv_iconst (v := (0 : Int32)) hx hb dX5_trouble_1 (by decide) ?_
  obtain ⟨M1, eM1, hR⟩ := kk_nm_el hR
  refine kk_put (w' := (w_M g a M1)) (ci := 5) (C := RX5) (T := TX5) (N := 12) (ty := .int) (v := .int (0 : Int32)) hC hw5 tyX5 tyX5_ok nmX5 hK hP hD hS 0 rfl rfl 6 (by decide) hl0 rfl (by decide +kernel) rfl rfl (Nat.le_of_ble_eq_true rfl) (by rw [eM1]; rfl) dX5_trouble_2 rfl (fun H locs hP hD hS => ?_)
  refine lv_aload_n hx hb dX5_trouble_5 rfl (lv_at hl 0 rfl) ?_
  refine lv_iload_n hx hb dX5_trouble_6 rfl (lv_at hl 1 rfl) ?_
  obtain ⟨x2, hq2, hR⟩ := kk_bd_el hR
  refine kk_call_Vi (w' := (w_M g a M1)) (As := [.int v1]) (rest := []) 0 5 hC (sX5_isFloat l g n a M1 v1 x2 hq2) (cwV 1 hts gX5_trouble_X5_isFloat rfl rfl rfl (by decide +kernel) ⟨Nat.le_of_ble_eq_true rfl, Nat.le_of_ble_eq_true rfl⟩) hK hP hD hS hA [0, 1, 2, 3, 4, 5, 6] rfl (by decide +kernel) rfl rfl rfl rfl rfl rfl rfl hl.1 (Nat.le_of_ble_eq_true rfl) dX5_trouble_7 (fun H locs hP hD hS => ?_)
  refine lv_if_ne (tgt := 19) hx hb dX5_trouble_10 (by decide) (fun c3 => ?_) (fun c3 => ?_)
  · replace hR := (if_neg c3).symm.trans hR
    refine lv_iload_n hx hb dX5_trouble_19 rfl (lv_at hl 2 rfl) ?_
    refine lv_iconst (v := (0 : Int32)) hx hb dX5_trouble_20 (by decide) ?_
    refine lv_iconst (v := (2 : Int32)) hx hb dX5_trouble_21 (by decide) ?_
    obtain ⟨x4, hq4, hR⟩ := kk_bd_el hR
    refine kk_call_Si (w' := (w_M g a M1)) (As := [.int v2, .int (0 : Int32), .int (2 : Int32)]) (rest := []) hC (sX5_in l g n   v2 (0 : Int32) (2 : Int32) x4 hq4) (va_cwS 3 hts gX5_trouble_X5_in rfl rfl rfl (by decide +kernel) ⟨Nat.le_of_ble_eq_true rfl, Nat.le_of_ble_eq_true rfl⟩) hK hP hD hS hA [] rfl (by decide +kernel) rfl rfl rfl rfl hl.1 (Nat.le_of_ble_eq_true rfl) dX5_trouble_22 (fun H locs hP hD hS => ?_)
    refine lv_if_eq (tgt := 40) hx hb dX5_trouble_25 (by decide) (fun c5 => ?_) (fun c5 => ?_)
    · replace hR := (if_pos c5).symm.trans hR
      refine lv_aload_n hx hb dX5_trouble_40 rfl (lv_at hl 0 rfl) ?_
      refine lv_iconst (v := (2 : Int32)) hx hb dX5_trouble_41 (by decide) ?_
      obtain ⟨x6, hq6, hR⟩ := kk_bd_el hR
      refine kk_call_Vi (w' := (w_M g a x6.2)) (As := [.int (2 : Int32)]) (rest := []) 0 5 hC (sX5_fails l g n a M1 (2 : Int32) x6 hq6) (cwV 1 hts gX5_trouble_X5_fails rfl rfl rfl (by decide +kernel) ⟨Nat.le_of_ble_eq_true rfl, Nat.le_of_ble_eq_true rfl⟩) hK hP hD hS hA [0, 1, 2, 3, 4, 5, 6] rfl (by decide +kernel) rfl rfl rfl rfl rfl rfl rfl hl.1 (Nat.le_of_ble_eq_true rfl) dX5_trouble_42 (fun H locs hP hD hS => ?_)
      obtain rfl := Option.some.inj hR
      exact kk_ret_i hC hr hlocks hK hP hD hS dX5_trouble_45 rfl
    · replace hR := (if_neg c5).symm.trans hR
      refine lv_aload_n hx hb dX5_trouble_28 rfl (lv_at hl 0 rfl) ?_
      refine va_get (ci := 5) (C := RX5) (T := TX5) (N := 12) hx hb hts hw5 hown hK hP 0 rfl rfl 0 (by decide) hl1 (fun _ h9 => h9) rfl dX5_trouble_29 ?_
      refine lv_iload_n hx hb dX5_trouble_32 rfl (lv_at hl 1 rfl) ?_
      refine lv_iload_n hx hb dX5_trouble_33 rfl (lv_at hl 2 rfl) ?_
      obtain ⟨x7, hq7, hR⟩ := kk_bd_el hR
      refine kk_call_Si (w' := (w_M g a M1)) (As := [.ref (a 1), .int v1, .int v2]) (rest := []) hC (sX5_troubled l g n (a 1) (M1 0) v1 v2 x7 hq7) (va_cwS 3 hts gX5_trouble_X5_troubled rfl rfl rfl (by decide +kernel) ⟨Nat.le_of_ble_eq_true rfl, Nat.le_of_ble_eq_true rfl⟩) hK hP hD hS hA [1] rfl (by decide +kernel) rfl rfl rfl rfl hl.1 (Nat.le_of_ble_eq_true rfl) dX5_trouble_34 (fun H locs hP hD hS => ?_)
      refine lv_goto (tgt := 45) hx hb dX5_trouble_37 (by decide) ?_
      obtain rfl := Option.some.inj hR
      exact kk_ret_i hC hr hlocks hK hP hD hS dX5_trouble_45 rfl
  · replace hR := (if_pos c3).symm.trans hR
    refine lv_aload_n hx hb dX5_trouble_13 rfl (lv_at hl 0 rfl) ?_
    refine lv_iconst (v := (1 : Int32)) hx hb dX5_trouble_14 (by decide) ?_
    obtain ⟨x8, hq8, hR⟩ := kk_bd_el hR
    refine kk_call_Vi (w' := (w_M g a x8.2)) (As := [.int (1 : Int32)]) (rest := []) 0 5 hC (sX5_fails l g n a M1 (1 : Int32) x8 hq8) (cwV 1 hts gX5_trouble_X5_fails rfl rfl rfl (by decide +kernel) ⟨Nat.le_of_ble_eq_true rfl, Nat.le_of_ble_eq_true rfl⟩) hK hP hD hS hA [0, 1, 2, 3, 4, 5, 6] rfl (by decide +kernel) rfl rfl rfl rfl rfl rfl rfl hl.1 (Nat.le_of_ble_eq_true rfl) dX5_trouble_15 (fun H locs hP hD hS => ?_)
    obtain rfl := Option.some.inj hR
    exact kk_ret_i hC hr hlocks hK hP hD hS dX5_trouble_18 rfl
set_option maxHeartbeats 8000000 in
set_option maxRecDepth 100000 in
theorem sX5_comes (l : Launch) (g : kG) (n : Nat) (a : Nat → Nat) (M : St1) (v1 : Int32) (v2 : Int32) (r : Int32 × St1) (hR : fX5_comes n M v1 v2 = some r) : kSp l g yX5_comes wsX5_comes ({ frames := 5, cells := 0, slots := 0, locals := 117 }) [.ref (a 0), .int v1, .int v2] (w_M g a M) (kQi g (w_M g a r.2) r.1) := by
  refine kSp.of (cc := cX5_comes) (maxL := 3) (ret := (some .int)) (by decide) rfl (Nat.le_of_ble_eq_true rfl) ?_
  intro p e s m args below meth c ls A hC hr hlocks hA hK hl hP hD hS
  replace hC : CallFix p m c cX5_comes 3 s args wsX5_comes RX5 := hC
  obtain ⟨hx, hb, hml, hown, hts⟩ := id hC
  replace hl : lv_has ls 3 [(0, .ref (a 0)), (1, .int v1), (2, .int v2)] := hl
  unfold fX5_comes at hR
  have hw5 : ∀ w ∈ wsX50, w ∈ wsX5_comes := by decide +kernel
  have hl0 := hts (.fieldLink RX5 28 "FloatOrderModel" "thrown" "I") (by decide +kernel)
  have hl1 := hts (.fieldLink RX5 7 "FloatOrderModel" "now" "[I") (by decide +kernel)
  have hl2 := hts (.fieldLink RX5 25 "FloatOrderModel" "minutes" "[I") (by decide +kernel)
  refine lv_aload_n hx hb dX5_comes_0 rfl (lv_at hl 0 rfl) ?_
  refine lv_iconst (v := (0 : Int32)) hx hb dX5_comes_1 (by decide) ?_
  obtain ⟨M1, eM1, hR⟩ := kk_nm_el hR
  refine kk_put (w' := (w_M g a M1)) (ci := 5) (C := RX5) (T := TX5) (N := 12) (ty := .int) (v := .int (0 : Int32)) hC hw5 tyX5 tyX5_ok nmX5 hK hP hD hS 0 rfl rfl 6 (by decide) hl0 rfl (by decide +kernel) rfl rfl (Nat.le_of_ble_eq_true rfl) (by rw [eM1]; rfl) dX5_comes_2 rfl (fun H locs hP hD hS => ?_)
  refine lv_aload_n hx hb dX5_comes_5 rfl (lv_at hl 0 rfl) ?_
  refine lv_iload_n hx hb dX5_comes_6 rfl (lv_at hl 1 rfl) ?_
  obtain ⟨x2, hq2, hR⟩ := kk_bd_el hR
  refine kk_call_Vi (w' := (w_M g a M1)) (As := [.int v1]) (rest := []) 0 5 hC (sX5_isFloat l g n a M1 v1 x2 hq2) (cwV 1 hts gX5_comes_X5_isFloat rfl rfl rfl (by decide +kernel) ⟨Nat.le_of_ble_eq_true rfl, Nat.le_of_ble_eq_true rfl⟩) hK hP hD hS hA [0, 1, 2, 3, 4, 5, 6] rfl (by decide +kernel) rfl rfl rfl rfl rfl rfl rfl hl.1 (Nat.le_of_ble_eq_true rfl) dX5_comes_7 (fun H locs hP hD hS => ?_)
  refine lv_if_eq (tgt := 26) hx hb dX5_comes_10 (by decide) (fun c3 => ?_) (fun c3 => ?_)
  · replace hR := (if_pos c3).symm.trans hR
    refine lv_aload_n hx hb dX5_comes_26 rfl (lv_at hl 0 rfl) ?_
    refine lv_iconst (v := (1 : Int32)) hx hb dX5_comes_27 (by decide) ?_
    obtain ⟨x4, hq4, hR⟩ := kk_bd_el hR
    refine kk_call_Vi (w' := (w_M g a x4.2)) (As := [.int (1 : Int32)]) (rest := []) 0 5 hC (sX5_fails l g n a M1 (1 : Int32) x4 hq4) (cwV 1 hts gX5_comes_X5_fails rfl rfl rfl (by decide +kernel) ⟨Nat.le_of_ble_eq_true rfl, Nat.le_of_ble_eq_true rfl⟩) hK hP hD hS hA [0, 1, 2, 3, 4, 5, 6] rfl (by decide +kernel) rfl rfl rfl rfl rfl rfl rfl hl.1 (Nat.le_of_ble_eq_true rfl) dX5_comes_28 (fun H locs hP hD hS => ?_)
    obtain rfl := Option.some.inj hR
    exact kk_ret_i hC hr hlocks hK hP hD hS dX5_comes_31 rfl
  · replace hR := (if_neg c3).symm.trans hR
    refine lv_iload_n hx hb dX5_comes_13 rfl (lv_at hl 2 rfl) ?_
    refine lv_iconst (v := (-1 : Int32)) hx hb dX5_comes_14 (by decide) ?_
    refine lv_icmp_eq (tgt := 32) hx hb dX5_comes_15 (by decide) (fun c5 => ?_) (fun c5 => ?_)
    · replace hR := (if_pos c5).symm.trans hR
      refine lv_aload_n hx hb dX5_comes_32 rfl (lv_at hl 0 rfl) ?_
      refine lv_aload_n hx hb dX5_comes_33 rfl (lv_at hl 0 rfl) ?_
      refine va_get (ci := 5) (C := RX5) (T := TX5) (N := 12) hx hb hts hw5 hown hK hP 0 rfl rfl 0 (by decide) hl1 (fun _ h9 => h9) rfl dX5_comes_34 ?_
      obtain ⟨x6, hq6, hR⟩ := kk_bd_el hR
      refine kk_call_Vi (w' := (w_M g a x6.2)) (As := [.ref (a 1)]) (rest := []) 0 5 hC (sX5_endsN l g n a M1  x6 hq6) (cwV 1 hts gX5_comes_X5_ends rfl rfl rfl (by decide +kernel) ⟨Nat.le_of_ble_eq_true rfl, Nat.le_of_ble_eq_true rfl⟩) hK hP hD hS hA [0, 1, 2, 3, 4, 5, 6] rfl (by decide +kernel) rfl rfl rfl rfl rfl rfl rfl hl.1 (Nat.le_of_ble_eq_true rfl) dX5_comes_37 (fun H locs hP hD hS => ?_)
      refine lv_pop hx hb dX5_comes_40 rfl ?_
      refine lv_aload_n hx hb dX5_comes_41 rfl (lv_at hl 0 rfl) ?_
      refine va_get (ci := 5) (C := RX5) (T := TX5) (N := 12) hx hb hts hw5 hown hK hP 0 rfl rfl 11 (by decide) hl2 (fun _ h9 => h9) rfl dX5_comes_42 ?_
      refine lv_iconst (v := (5 : Int32)) hx hb dX5_comes_45 (by decide) ?_
      refine lv_iload_n hx hb dX5_comes_46 rfl (lv_at hl 1 rfl) ?_
      refine lv_imul hx hb dX5_comes_47 ?_
      refine lv_iload_n hx hb dX5_comes_48 rfl (lv_at hl 2 rfl) ?_
      refine lv_iconst (v := (-1 : Int32)) hx hb dX5_comes_49 (by decide) ?_
      refine lv_icmp_ne (tgt := 62) hx hb dX5_comes_50 (by decide) (fun c7 => ?_) (fun c7 => ?_)
      · replace hR := (if_neg c7).symm.trans hR
        refine lv_iload_n hx hb dX5_comes_62 rfl (lv_at hl 2 rfl) ?_
        refine lv_iadd hx hb dX5_comes_63 ?_
        obtain ⟨hi8, hR⟩ := kk_ck_el hR
        refine va_iald hx hb hK hP 6 0 rfl rfl hi8 dX5_comes_64 ?_
        obtain rfl := Option.some.inj hR
        exact kk_ret_i hC hr hlocks hK hP hD hS dX5_comes_65 rfl
      · replace hR := (if_pos c7).symm.trans hR
        refine lv_aload_n hx hb dX5_comes_53 rfl (lv_at hl 0 rfl) ?_
        refine va_get (ci := 5) (C := RX5) (T := TX5) (N := 12) hx hb hts hw5 hown hK hP 0 rfl rfl 0 (by decide) hl1 (fun _ h9 => h9) rfl dX5_comes_54 ?_
        refine lv_iconst (v := (5 : Int32)) hx hb dX5_comes_57 (by decide) ?_
        refine va_iald hx hb hK hP 1 0 rfl rfl (kk_in 5 62 (by decide) (by decide) rfl) dX5_comes_58 ?_
        refine lv_goto (tgt := 63) hx hb dX5_comes_59 (by decide) ?_
        refine lv_iadd hx hb dX5_comes_63 ?_
        obtain ⟨hi9, hR⟩ := kk_ck_el hR
        refine va_iald hx hb hK hP 6 0 rfl rfl hi9 dX5_comes_64 ?_
        obtain rfl := Option.some.inj hR
        exact kk_ret_i hC hr hlocks hK hP hD hS dX5_comes_65 rfl
    · replace hR := (if_neg c5).symm.trans hR
      refine lv_aload_n hx hb dX5_comes_18 rfl (lv_at hl 0 rfl) ?_
      refine lv_iload_n hx hb dX5_comes_19 rfl (lv_at hl 2 rfl) ?_
      obtain ⟨x10, hq10, hR⟩ := kk_bd_el hR
      refine kk_call_Vi (w' := (w_M g a M1)) (As := [.int v2]) (rest := []) 0 5 hC (sX5_isBridge l g n a M1 v2 x10 hq10) (cwV 1 hts gX5_comes_X5_isBridge rfl rfl rfl (by decide +kernel) ⟨Nat.le_of_ble_eq_true rfl, Nat.le_of_ble_eq_true rfl⟩) hK hP hD hS hA [0, 1, 2, 3, 4, 5, 6] rfl (by decide +kernel) rfl rfl rfl rfl rfl rfl rfl hl.1 (Nat.le_of_ble_eq_true rfl) dX5_comes_20 (fun H locs hP hD hS => ?_)
      refine lv_if_ne (tgt := 32) hx hb dX5_comes_23 (by decide) (fun c11 => ?_) (fun c11 => ?_)
      · replace hR := (if_neg c11).symm.trans hR
        refine lv_aload_n hx hb dX5_comes_32 rfl (lv_at hl 0 rfl) ?_
        refine lv_aload_n hx hb dX5_comes_33 rfl (lv_at hl 0 rfl) ?_
        refine va_get (ci := 5) (C := RX5) (T := TX5) (N := 12) hx hb hts hw5 hown hK hP 0 rfl rfl 0 (by decide) hl1 (fun _ h9 => h9) rfl dX5_comes_34 ?_
        obtain ⟨x12, hq12, hR⟩ := kk_bd_el hR
        refine kk_call_Vi (w' := (w_M g a x12.2)) (As := [.ref (a 1)]) (rest := []) 0 5 hC (sX5_endsN l g n a M1  x12 hq12) (cwV 1 hts gX5_comes_X5_ends rfl rfl rfl (by decide +kernel) ⟨Nat.le_of_ble_eq_true rfl, Nat.le_of_ble_eq_true rfl⟩) hK hP hD hS hA [0, 1, 2, 3, 4, 5, 6] rfl (by decide +kernel) rfl rfl rfl rfl rfl rfl rfl hl.1 (Nat.le_of_ble_eq_true rfl) dX5_comes_37 (fun H locs hP hD hS => ?_)
        refine lv_pop hx hb dX5_comes_40 rfl ?_
        refine lv_aload_n hx hb dX5_comes_41 rfl (lv_at hl 0 rfl) ?_
        refine va_get (ci := 5) (C := RX5) (T := TX5) (N := 12) hx hb hts hw5 hown hK hP 0 rfl rfl 11 (by decide) hl2 (fun _ h9 => h9) rfl dX5_comes_42 ?_
        refine lv_iconst (v := (5 : Int32)) hx hb dX5_comes_45 (by decide) ?_
        refine lv_iload_n hx hb dX5_comes_46 rfl (lv_at hl 1 rfl) ?_
        refine lv_imul hx hb dX5_comes_47 ?_
        refine lv_iload_n hx hb dX5_comes_48 rfl (lv_at hl 2 rfl) ?_
        refine lv_iconst (v := (-1 : Int32)) hx hb dX5_comes_49 (by decide) ?_
        refine lv_icmp_ne (tgt := 62) hx hb dX5_comes_50 (by decide) (fun c13 => ?_) (fun c13 => ?_)
        · replace hR := (if_neg c13).symm.trans hR
          refine lv_iload_n hx hb dX5_comes_62 rfl (lv_at hl 2 rfl) ?_
          refine lv_iadd hx hb dX5_comes_63 ?_
          obtain ⟨hi14, hR⟩ := kk_ck_el hR
          refine va_iald hx hb hK hP 6 0 rfl rfl hi14 dX5_comes_64 ?_
          obtain rfl := Option.some.inj hR
          exact kk_ret_i hC hr hlocks hK hP hD hS dX5_comes_65 rfl
        · replace hR := (if_pos c13).symm.trans hR
          refine lv_aload_n hx hb dX5_comes_53 rfl (lv_at hl 0 rfl) ?_
          refine va_get (ci := 5) (C := RX5) (T := TX5) (N := 12) hx hb hts hw5 hown hK hP 0 rfl rfl 0 (by decide) hl1 (fun _ h9 => h9) rfl dX5_comes_54 ?_
          refine lv_iconst (v := (5 : Int32)) hx hb dX5_comes_57 (by decide) ?_
          refine va_iald hx hb hK hP 1 0 rfl rfl (kk_in 5 62 (by decide) (by decide) rfl) dX5_comes_58 ?_
          refine lv_goto (tgt := 63) hx hb dX5_comes_59 (by decide) ?_
          refine lv_iadd hx hb dX5_comes_63 ?_
          obtain ⟨hi15, hR⟩ := kk_ck_el hR
          refine va_iald hx hb hK hP 6 0 rfl rfl hi15 dX5_comes_64 ?_
          obtain rfl := Option.some.inj hR
          exact kk_ret_i hC hr hlocks hK hP hD hS dX5_comes_65 rfl
      · replace hR := (if_pos c11).symm.trans hR
        refine lv_aload_n hx hb dX5_comes_26 rfl (lv_at hl 0 rfl) ?_
        refine lv_iconst (v := (1 : Int32)) hx hb dX5_comes_27 (by decide) ?_
        obtain ⟨x16, hq16, hR⟩ := kk_bd_el hR
        refine kk_call_Vi (w' := (w_M g a x16.2)) (As := [.int (1 : Int32)]) (rest := []) 0 5 hC (sX5_fails l g n a M1 (1 : Int32) x16 hq16) (cwV 1 hts gX5_comes_X5_fails rfl rfl rfl (by decide +kernel) ⟨Nat.le_of_ble_eq_true rfl, Nat.le_of_ble_eq_true rfl⟩) hK hP hD hS hA [0, 1, 2, 3, 4, 5, 6] rfl (by decide +kernel) rfl rfl rfl rfl rfl rfl rfl hl.1 (Nat.le_of_ble_eq_true rfl) dX5_comes_28 (fun H locs hP hD hS => ?_)
        obtain rfl := Option.some.inj hR
        exact kk_ret_i hC hr hlocks hK hP hD hS dX5_comes_31 rfl
set_option maxHeartbeats 8000000 in
set_option maxRecDepth 100000 in
theorem sX5_loweredAt (l : Launch) (g : kG) (n : Nat) (a : Nat → Nat) (M : St1) (v1 : Int32) (r : Int32) (hR : fX5_loweredAt n M v1 = some r) : kSp l g yX5_loweredAt wsX5_loweredAt ({ frames := 3, cells := 0, slots := 0, locals := 66 }) [.ref (a 0), .int v1] (w_M g a M) (kQi g (w_M g a M) r) := by
  refine kSp.of (cc := cX5_loweredAt) (maxL := 4) (ret := (some .int)) (by decide) rfl (Nat.le_of_ble_eq_true rfl) ?_
  intro p e s m args below meth c ls A hC hr hlocks hA hK hl hP hD hS
  replace hC : CallFix p m c cX5_loweredAt 4 s args wsX5_loweredAt RX5 := hC
  obtain ⟨hx, hb, hml, hown, hts⟩ := id hC
  replace hl : lv_has ls 4 [(0, .ref (a 0)), (1, .int v1)] := hl
  unfold fX5_loweredAt at hR
  have hw5 : ∀ w ∈ wsX50, w ∈ wsX5_loweredAt := by decide +kernel
  have hl0 := hts (.fieldLink RX5 7 "FloatOrderModel" "now" "[I") (by decide +kernel)
  refine lv_iconst (v := (0 : Int32)) hx hb dX5_loweredAt_0 (by decide) ?_
  refine lv_istore_n (lv' := [(2, .int (0 : Int32)), (0, .ref (a 0)), (1, .int v1)]) hx hb dX5_loweredAt_1 rfl hl (by decide) rfl (fun ls hl => ?_)
  refine lv_iconst (v := (0 : Int32)) hx hb dX5_loweredAt_2 (by decide) ?_
  refine lv_istore_n (lv' := [(3, .int (0 : Int32)), (2, .int (0 : Int32)), (0, .ref (a 0)), (1, .int v1)]) hx hb dX5_loweredAt_3 rfl hl (by decide) rfl (fun ls hl => ?_)
  obtain ⟨x10, hq10, hR⟩ := kk_bd_el hR
  refine kk_cut (g := g) (A := A) (w' := (w_M g a M)) (nL := 4) (lv := [(2, .int x10)]) (pcJ := 40) (st := []) (fun H locs ls hP hD hS hl => ?_) (fun hj10 => ?_)
  · refine lv_iload_n hx hb dX5_loweredAt_40 rfl (lv_at hl 0 rfl) ?_
    obtain rfl := Option.some.inj hR
    exact kk_ret_i hC hr hlocks hK hP hD hS dX5_loweredAt_41 rfl
  refine kk_loop (g := g) (A := A) (fun (st : Int32 × Int32) => (w_M g a M)) (fun (st : Int32 × Int32) => [(3, .int st.2), (2, .int st.1), (0, .ref (a 0)), (1, .int v1)]) 4 (nL := 4) hq10 (fun st xb9 hR ih1 hX1 => ?_) hP hD hS (lv_sub hl [0, 1, 2, 3] rfl)
  clear hP hD hS hl
  obtain ⟨u7, u8⟩ := st
  intro H locs ls hP hD hS hl
  replace hR : fX5_loweredAt_b4 n M v1 u7 u8 = some xb9 := hR
  replace hP : va_P g.1 vwCl (w_M g a M) H := hP
  replace hD : va_D A (w_M g a M) := hD
  replace hl : lv_has ls 4 [(3, .int u8), (2, .int u7), (0, .ref (a 0)), (1, .int v1)] := hl
  unfold fX5_loweredAt_b4 at hR
  refine lv_iload_n hx hb dX5_loweredAt_4 rfl (lv_at hl 0 rfl) ?_
  refine lv_aload_n hx hb dX5_loweredAt_5 rfl (lv_at hl 2 rfl) ?_
  refine va_get (ci := 5) (C := RX5) (T := TX5) (N := 12) hx hb hts hw5 hown hK hP 0 rfl rfl 0 (by decide) hl0 (fun _ h9 => h9) rfl dX5_loweredAt_6 ?_
  refine lv_iconst (v := (4 : Int32)) hx hb dX5_loweredAt_9 (by decide) ?_
  refine va_iald hx hb hK hP 1 0 rfl rfl (kk_in 4 62 (by decide) (by decide) rfl) dX5_loweredAt_10 ?_
  refine lv_icmp_ge (tgt := 40) hx hb dX5_loweredAt_11 (by decide) (fun c11 => ?_) (fun c11 => ?_)
  · replace hR := (if_pos c11).symm.trans hR
    obtain rfl := Option.some.inj hR
    obtain rfl := hX1 _ rfl
    exact hj10 _ _ _ hP hD hS (lv_sub hl [1] rfl)
  · replace hR := (if_neg c11).symm.trans hR
    refine lv_iload_n hx hb dX5_loweredAt_14 rfl (lv_at hl 1 rfl) ?_
    refine lv_aload_n hx hb dX5_loweredAt_15 rfl (lv_at hl 2 rfl) ?_
    refine va_get (ci := 5) (C := RX5) (T := TX5) (N := 12) hx hb hts hw5 hown hK hP 0 rfl rfl 0 (by decide) hl0 (fun _ h9 => h9) rfl dX5_loweredAt_16 ?_
    refine lv_iload_n hx hb dX5_loweredAt_19 rfl (lv_at hl 0 rfl) ?_
    refine lv_iload_n hx hb dX5_loweredAt_20 rfl (lv_at hl 3 rfl) ?_
    obtain ⟨x12, hq12, hR⟩ := kk_bd_el hR
    refine kk_call_Si (w' := (w_M g a M)) (As := [.ref (a 1), .int u8, .int v1]) (rest := [.int u7]) hC (sX5_isLowered l g n (a 1) (M 0) u8 v1 x12 hq12) (va_cwS 3 hts gX5_loweredAt_X5_isLowered rfl rfl rfl (by decide +kernel) ⟨Nat.le_of_ble_eq_true rfl, Nat.le_of_ble_eq_true rfl⟩) hK hP hD hS hA [1] rfl (by decide +kernel) rfl rfl rfl rfl hl.1 (Nat.le_of_ble_eq_true rfl) dX5_loweredAt_21 (fun H locs hP hD hS => ?_)
    refine lv_if_eq (tgt := 31) hx hb dX5_loweredAt_24 (by decide) (fun c13 => ?_) (fun c13 => ?_)
    · replace hR := (if_pos c13).symm.trans hR
      refine lv_iconst (v := (0 : Int32)) hx hb dX5_loweredAt_31 (by decide) ?_
      refine lv_iadd hx hb dX5_loweredAt_32 ?_
      refine lv_istore_n (lv' := [(2, .int (u7 + (0 : Int32))), (3, .int u8), (0, .ref (a 0)), (1, .int v1)]) hx hb dX5_loweredAt_33 rfl hl (by decide) rfl (fun ls hl => ?_)
      refine lv_iinc (v := (u8 + (1 : Int32))) (lv' := [(3, .int (u8 + (1 : Int32))), (2, .int (u7 + (0 : Int32))), (0, .ref (a 0)), (1, .int v1)]) hx hb dX5_loweredAt_34 hl (k := 1) rfl rfl (by decide) rfl (fun ls hl => ?_)
      refine lv_goto (tgt := 4) hx hb dX5_loweredAt_37 (by decide) ?_
      obtain rfl := Option.some.inj hR
      exact ih1 _ rfl _ _ _ hP hD hS (lv_sub hl [0, 1, 2, 3] rfl)
    · replace hR := (if_neg c13).symm.trans hR
      refine lv_iconst (v := (1 : Int32)) hx hb dX5_loweredAt_27 (by decide) ?_
      refine lv_goto (tgt := 32) hx hb dX5_loweredAt_28 (by decide) ?_
      refine lv_iadd hx hb dX5_loweredAt_32 ?_
      refine lv_istore_n (lv' := [(2, .int (u7 + (1 : Int32))), (3, .int u8), (0, .ref (a 0)), (1, .int v1)]) hx hb dX5_loweredAt_33 rfl hl (by decide) rfl (fun ls hl => ?_)
      refine lv_iinc (v := (u8 + (1 : Int32))) (lv' := [(3, .int (u8 + (1 : Int32))), (2, .int (u7 + (1 : Int32))), (0, .ref (a 0)), (1, .int v1)]) hx hb dX5_loweredAt_34 hl (k := 1) rfl rfl (by decide) rfl (fun ls hl => ?_)
      refine lv_goto (tgt := 4) hx hb dX5_loweredAt_37 (by decide) ?_
      obtain rfl := Option.some.inj hR
      exact ih1 _ rfl _ _ _ hP hD hS (lv_sub hl [0, 1, 2, 3] rfl)
set_option maxHeartbeats 8000000 in
set_option maxRecDepth 100000 in
theorem sX5_ofBridge (l : Launch) (g : kG) (n : Nat) (a : Nat → Nat) (M : St1) (v1 : Int32) (v2 : Int32) (r : Int32) (hR : fX5_ofBridge n M v1 v2 = some r) : kSp l g yX5_ofBridge wsX5_ofBridge ({ frames := 4, cells := 0, slots := 0, locals := 89 }) [.ref (a 0), .int v1, .int v2] (w_M g a M) (kQi g (w_M g a M) r) := by
  refine kSp.of (cc := cX5_ofBridge) (maxL := 3) (ret := (some .int)) (by decide) rfl (Nat.le_of_ble_eq_true rfl) ?_
  intro p e s m args below meth c ls A hC hr hlocks hA hK hl hP hD hS
  replace hC : CallFix p m c cX5_ofBridge 3 s args wsX5_ofBridge RX5 := hC
  obtain ⟨hx, hb, hml, hown, hts⟩ := id hC
  replace hl : lv_has ls 3 [(0, .ref (a 0)), (1, .int v1), (2, .int v2)] := hl
  unfold fX5_ofBridge at hR
  have hw5 : ∀ w ∈ wsX50, w ∈ wsX5_ofBridge := by decide +kernel
  have hl0 := hts (.fieldLink RX5 7 "FloatOrderModel" "now" "[I") (by decide +kernel)
  refine lv_iload_n hx hb dX5_ofBridge_0 rfl (lv_at hl 2 rfl) ?_
  refine lv_iconst (v := (2 : Int32)) hx hb dX5_ofBridge_1 (by decide) ?_
  refine lv_icmp_ge (tgt := 21) hx hb dX5_ofBridge_2 (by decide) (fun c1 => ?_) (fun c1 => ?_)
  · replace hR := (if_pos c1).symm.trans hR
    refine lv_aload_n hx hb dX5_ofBridge_21 rfl (lv_at hl 0 rfl) ?_
    refine lv_iload_n hx hb dX5_ofBridge_22 rfl (lv_at hl 1 rfl) ?_
    obtain ⟨x2, hq2, hR⟩ := kk_bd_el hR
    refine kk_call_Vi (w' := (w_M g a M)) (As := [.int v1]) (rest := []) 0 5 hC (sX5_loweredAt l g n a M v1 x2 hq2) (cwV 1 hts gX5_ofBridge_X5_loweredAt rfl rfl rfl (by decide +kernel) ⟨Nat.le_of_ble_eq_true rfl, Nat.le_of_ble_eq_true rfl⟩) hK hP hD hS hA [0, 1, 2, 3, 4, 5, 6] rfl (by decide +kernel) rfl rfl rfl rfl rfl rfl rfl hl.1 (Nat.le_of_ble_eq_true rfl) dX5_ofBridge_23 (fun H locs hP hD hS => ?_)
    obtain rfl := Option.some.inj hR
    exact kk_ret_i hC hr hlocks hK hP hD hS dX5_ofBridge_26 rfl
  · replace hR := (if_neg c1).symm.trans hR
    refine lv_aload_n hx hb dX5_ofBridge_5 rfl (lv_at hl 0 rfl) ?_
    refine va_get (ci := 5) (C := RX5) (T := TX5) (N := 12) hx hb hts hw5 hown hK hP 0 rfl rfl 0 (by decide) hl0 (fun _ h9 => h9) rfl dX5_ofBridge_6 ?_
    refine lv_bipush (v := (6 : Int32)) hx hb dX5_ofBridge_9 (by decide) ?_
    refine lv_iconst (v := (2 : Int32)) hx hb dX5_ofBridge_11 (by decide) ?_
    refine lv_iload_n hx hb dX5_ofBridge_12 rfl (lv_at hl 1 rfl) ?_
    refine lv_imul hx hb dX5_ofBridge_13 ?_
    refine lv_iadd hx hb dX5_ofBridge_14 ?_
    refine lv_iload_n hx hb dX5_ofBridge_15 rfl (lv_at hl 2 rfl) ?_
    refine lv_iadd hx hb dX5_ofBridge_16 ?_
    obtain ⟨hi3, hR⟩ := kk_ck_el hR
    refine va_iald hx hb hK hP 1 0 rfl rfl hi3 dX5_ofBridge_17 ?_
    refine lv_goto (tgt := 26) hx hb dX5_ofBridge_18 (by decide) ?_
    obtain rfl := Option.some.inj hR
    exact kk_ret_i hC hr hlocks hK hP hD hS dX5_ofBridge_26 rfl
set_option maxHeartbeats 8000000 in
set_option maxRecDepth 100000 in
theorem sX5_bridgeOf (l : Launch) (g : kG) (n : Nat) (a : Nat → Nat) (M : St1) (v1 : Int32) (v2 : Int32) (r : Int32 × St1) (hR : fX5_bridgeOf n M v1 v2 = some r) : kSp l g yX5_bridgeOf wsX5_bridgeOf ({ frames := 5, cells := 0, slots := 0, locals := 111 }) [.ref (a 0), .int v1, .int v2] (w_M g a M) (kQi g (w_M g a r.2) r.1) := by
  refine kSp.of (cc := cX5_bridgeOf) (maxL := 3) (ret := (some .int)) (by decide) rfl (Nat.le_of_ble_eq_true rfl) ?_
  intro p e s m args below meth c ls A hC hr hlocks hA hK hl hP hD hS
  replace hC : CallFix p m c cX5_bridgeOf 3 s args wsX5_bridgeOf RX5 := hC
  obtain ⟨hx, hb, hml, hown, hts⟩ := id hC
  replace hl : lv_has ls 3 [(0, .ref (a 0)), (1, .int v1), (2, .int v2)] := hl
  unfold fX5_bridgeOf at hR
  have hw5 : ∀ w ∈ wsX50, w ∈ wsX5_bridgeOf := by decide +kernel
  have hl0 := hts (.fieldLink RX5 28 "FloatOrderModel" "thrown" "I") (by decide +kernel)
  refine lv_aload_n hx hb dX5_bridgeOf_0 rfl (lv_at hl 0 rfl) ?_
  refine lv_iconst (v := (0 : Int32)) hx hb dX5_bridgeOf_1 (by decide) ?_
  obtain ⟨M1, eM1, hR⟩ := kk_nm_el hR
  refine kk_put (w' := (w_M g a M1)) (ci := 5) (C := RX5) (T := TX5) (N := 12) (ty := .int) (v := .int (0 : Int32)) hC hw5 tyX5 tyX5_ok nmX5 hK hP hD hS 0 rfl rfl 6 (by decide) hl0 rfl (by decide +kernel) rfl rfl (Nat.le_of_ble_eq_true rfl) (by rw [eM1]; rfl) dX5_bridgeOf_2 rfl (fun H locs hP hD hS => ?_)
  refine lv_aload_n hx hb dX5_bridgeOf_5 rfl (lv_at hl 0 rfl) ?_
  refine lv_iload_n hx hb dX5_bridgeOf_6 rfl (lv_at hl 1 rfl) ?_
  obtain ⟨x2, hq2, hR⟩ := kk_bd_el hR
  refine kk_call_Vi (w' := (w_M g a M1)) (As := [.int v1]) (rest := []) 0 5 hC (sX5_isBridge l g n a M1 v1 x2 hq2) (cwV 1 hts gX5_bridgeOf_X5_isBridge rfl rfl rfl (by decide +kernel) ⟨Nat.le_of_ble_eq_true rfl, Nat.le_of_ble_eq_true rfl⟩) hK hP hD hS hA [0, 1, 2, 3, 4, 5, 6] rfl (by decide +kernel) rfl rfl rfl rfl rfl rfl rfl hl.1 (Nat.le_of_ble_eq_true rfl) dX5_bridgeOf_7 (fun H locs hP hD hS => ?_)
  refine lv_if_ne (tgt := 19) hx hb dX5_bridgeOf_10 (by decide) (fun c3 => ?_) (fun c3 => ?_)
  · replace hR := (if_neg c3).symm.trans hR
    refine lv_iload_n hx hb dX5_bridgeOf_19 rfl (lv_at hl 2 rfl) ?_
    refine lv_iconst (v := (0 : Int32)) hx hb dX5_bridgeOf_20 (by decide) ?_
    refine lv_iconst (v := (2 : Int32)) hx hb dX5_bridgeOf_21 (by decide) ?_
    obtain ⟨x4, hq4, hR⟩ := kk_bd_el hR
    refine kk_call_Si (w' := (w_M g a M1)) (As := [.int v2, .int (0 : Int32), .int (2 : Int32)]) (rest := []) hC (sX5_in l g n   v2 (0 : Int32) (2 : Int32) x4 hq4) (va_cwS 3 hts gX5_bridgeOf_X5_in rfl rfl rfl (by decide +kernel) ⟨Nat.le_of_ble_eq_true rfl, Nat.le_of_ble_eq_true rfl⟩) hK hP hD hS hA [] rfl (by decide +kernel) rfl rfl rfl rfl hl.1 (Nat.le_of_ble_eq_true rfl) dX5_bridgeOf_22 (fun H locs hP hD hS => ?_)
    refine lv_if_eq (tgt := 37) hx hb dX5_bridgeOf_25 (by decide) (fun c5 => ?_) (fun c5 => ?_)
    · replace hR := (if_pos c5).symm.trans hR
      refine lv_aload_n hx hb dX5_bridgeOf_37 rfl (lv_at hl 0 rfl) ?_
      refine lv_iconst (v := (2 : Int32)) hx hb dX5_bridgeOf_38 (by decide) ?_
      obtain ⟨x6, hq6, hR⟩ := kk_bd_el hR
      refine kk_call_Vi (w' := (w_M g a x6.2)) (As := [.int (2 : Int32)]) (rest := []) 0 5 hC (sX5_fails l g n a M1 (2 : Int32) x6 hq6) (cwV 1 hts gX5_bridgeOf_X5_fails rfl rfl rfl (by decide +kernel) ⟨Nat.le_of_ble_eq_true rfl, Nat.le_of_ble_eq_true rfl⟩) hK hP hD hS hA [0, 1, 2, 3, 4, 5, 6] rfl (by decide +kernel) rfl rfl rfl rfl rfl rfl rfl hl.1 (Nat.le_of_ble_eq_true rfl) dX5_bridgeOf_39 (fun H locs hP hD hS => ?_)
      obtain rfl := Option.some.inj hR
      exact kk_ret_i hC hr hlocks hK hP hD hS dX5_bridgeOf_42 rfl
    · replace hR := (if_neg c5).symm.trans hR
      refine lv_aload_n hx hb dX5_bridgeOf_28 rfl (lv_at hl 0 rfl) ?_
      refine lv_iload_n hx hb dX5_bridgeOf_29 rfl (lv_at hl 1 rfl) ?_
      refine lv_iload_n hx hb dX5_bridgeOf_30 rfl (lv_at hl 2 rfl) ?_
      obtain ⟨x7, hq7, hR⟩ := kk_bd_el hR
      refine kk_call_Vi (w' := (w_M g a M1)) (As := [.int v1, .int v2]) (rest := []) 0 5 hC (sX5_ofBridge l g n a M1 v1 v2 x7 hq7) (cwV 2 hts gX5_bridgeOf_X5_ofBridge rfl rfl rfl (by decide +kernel) ⟨Nat.le_of_ble_eq_true rfl, Nat.le_of_ble_eq_true rfl⟩) hK hP hD hS hA [0, 1, 2, 3, 4, 5, 6] rfl (by decide +kernel) rfl rfl rfl rfl rfl rfl rfl hl.1 (Nat.le_of_ble_eq_true rfl) dX5_bridgeOf_31 (fun H locs hP hD hS => ?_)
      refine lv_goto (tgt := 42) hx hb dX5_bridgeOf_34 (by decide) ?_
      obtain rfl := Option.some.inj hR
      exact kk_ret_i hC hr hlocks hK hP hD hS dX5_bridgeOf_42 rfl
  · replace hR := (if_pos c3).symm.trans hR
    refine lv_aload_n hx hb dX5_bridgeOf_13 rfl (lv_at hl 0 rfl) ?_
    refine lv_iconst (v := (1 : Int32)) hx hb dX5_bridgeOf_14 (by decide) ?_
    obtain ⟨x8, hq8, hR⟩ := kk_bd_el hR
    refine kk_call_Vi (w' := (w_M g a x8.2)) (As := [.int (1 : Int32)]) (rest := []) 0 5 hC (sX5_fails l g n a M1 (1 : Int32) x8 hq8) (cwV 1 hts gX5_bridgeOf_X5_fails rfl rfl rfl (by decide +kernel) ⟨Nat.le_of_ble_eq_true rfl, Nat.le_of_ble_eq_true rfl⟩) hK hP hD hS hA [0, 1, 2, 3, 4, 5, 6] rfl (by decide +kernel) rfl rfl rfl rfl rfl rfl rfl hl.1 (Nat.le_of_ble_eq_true rfl) dX5_bridgeOf_15 (fun H locs hP hD hS => ?_)
    obtain rfl := Option.some.inj hR
    exact kk_ret_i hC hr hlocks hK hP hD hS dX5_bridgeOf_18 rfl
set_option maxHeartbeats 8000000 in
set_option maxRecDepth 100000 in
theorem sX5_overFloats (l : Launch) (g : kG) (n : Nat) (a : Nat → Nat) (M : St1) (v1 : Int32) (r : Int32) (hR : fX5_overFloats n M v1 = some r) : kSp l g yX5_overFloats wsX5_overFloats ({ frames := 4, cells := 0, slots := 0, locals := 89 }) [.ref (a 0), .int v1] (w_M g a M) (kQi g (w_M g a M) r) := by
  refine kSp.of (cc := cX5_overFloats) (maxL := 4) (ret := (some .int)) (by decide) rfl (Nat.le_of_ble_eq_true rfl) ?_
  intro p e s m args below meth c ls A hC hr hlocks hA hK hl hP hD hS
  replace hC : CallFix p m c cX5_overFloats 4 s args wsX5_overFloats RX5 := hC
  obtain ⟨hx, hb, hml, hown, hts⟩ := id hC
  replace hl : lv_has ls 4 [(0, .ref (a 0)), (1, .int v1)] := hl
  unfold fX5_overFloats at hR
  have hw5 : ∀ w ∈ wsX50, w ∈ wsX5_overFloats := by decide +kernel
  have hl0 := hts (.fieldLink RX5 7 "FloatOrderModel" "now" "[I") (by decide +kernel)
  refine lv_iconst (v := (0 : Int32)) hx hb dX5_overFloats_0 (by decide) ?_
  refine lv_istore_n (lv' := [(2, .int (0 : Int32)), (0, .ref (a 0)), (1, .int v1)]) hx hb dX5_overFloats_1 rfl hl (by decide) rfl (fun ls hl => ?_)
  refine lv_iconst (v := (0 : Int32)) hx hb dX5_overFloats_2 (by decide) ?_
  refine lv_istore_n (lv' := [(3, .int (0 : Int32)), (2, .int (0 : Int32)), (0, .ref (a 0)), (1, .int v1)]) hx hb dX5_overFloats_3 rfl hl (by decide) rfl (fun ls hl => ?_)
  obtain ⟨x31, hq31, hR⟩ := kk_bd_el hR
  refine kk_cut (g := g) (A := A) (w' := (w_M g a M)) (nL := 4) (lv := [(2, .int x31)]) (pcJ := 88) (st := []) (fun H locs ls hP hD hS hl => ?_) (fun hj31 => ?_)
  · refine lv_iload_n hx hb dX5_overFloats_88 rfl (lv_at hl 0 rfl) ?_
    obtain rfl := Option.some.inj hR
    exact kk_ret_i hC hr hlocks hK hP hD hS dX5_overFloats_89 rfl
  refine kk_loop (g := g) (A := A) (fun (st : Int32 × Int32) => (w_M g a M)) (fun (st : Int32 × Int32) => [(3, .int st.2), (2, .int st.1), (0, .ref (a 0)), (1, .int v1)]) 4 (nL := 4) hq31 (fun st xb30 hR ih1 hX1 => ?_) hP hD hS (lv_sub hl [0, 1, 2, 3] rfl)
  clear hP hD hS hl
  obtain ⟨u28, u29⟩ := st
  intro H locs ls hP hD hS hl
  replace hR : fX5_overFloats_b4 n M v1 u28 u29 = some xb30 := hR
  replace hP : va_P g.1 vwCl (w_M g a M) H := hP
  replace hD : va_D A (w_M g a M) := hD
  replace hl : lv_has ls 4 [(3, .int u29), (2, .int u28), (0, .ref (a 0)), (1, .int v1)] := hl
  unfold fX5_overFloats_b4 at hR
  refine lv_iload_n hx hb dX5_overFloats_4 rfl (lv_at hl 0 rfl) ?_
  refine lv_aload_n hx hb dX5_overFloats_5 rfl (lv_at hl 2 rfl) ?_
  refine va_get (ci := 5) (C := RX5) (T := TX5) (N := 12) hx hb hts hw5 hown hK hP 0 rfl rfl 0 (by decide) hl0 (fun _ h9 => h9) rfl dX5_overFloats_6 ?_
  refine lv_iconst (v := (4 : Int32)) hx hb dX5_overFloats_9 (by decide) ?_
  refine va_iald hx hb hK hP 1 0 rfl rfl (kk_in 4 62 (by decide) (by decide) rfl) dX5_overFloats_10 ?_
  refine lv_icmp_ge (tgt := 88) hx hb dX5_overFloats_11 (by decide) (fun c32 => ?_) (fun c32 => ?_)
  · replace hR := (if_pos c32).symm.trans hR
    obtain rfl := Option.some.inj hR
    obtain rfl := hX1 _ rfl
    exact hj31 _ _ _ hP hD hS (lv_sub hl [1] rfl)
  · replace hR := (if_neg c32).symm.trans hR
    refine lv_iload_n hx hb dX5_overFloats_14 rfl (lv_at hl 1 rfl) ?_
    refine lv_iload_n hx hb dX5_overFloats_15 rfl (lv_at hl 3 rfl) ?_
    refine lv_iconst (v := (4 : Int32)) hx hb dX5_overFloats_16 (by decide) ?_
    obtain ⟨x42, hq42, hR⟩ := kk_bd_el hR
    refine kk_cut (g := g) (A := A) (w' := (w_M g a M)) (nL := 4) (lv := [(3, .int u29), (0, .ref (a 0)), (1, .int v1)]) (pcJ := 49) (st := [.int x42, .int u28]) (fun H locs ls hP hD hS hl => ?_) (fun hj42 => ?_)
    · refine lv_iadd hx hb dX5_overFloats_49 ?_
      refine lv_istore_n (lv' := [(2, .int (u28 + x42)), (3, .int u29), (0, .ref (a 0)), (1, .int v1)]) hx hb dX5_overFloats_50 rfl hl (by decide) rfl (fun ls hl => ?_)
      refine lv_iload_n hx hb dX5_overFloats_51 rfl (lv_at hl 3 rfl) ?_
      refine lv_bipush (v := (7 : Int32)) hx hb dX5_overFloats_52 (by decide) ?_
      refine lv_icmp_ne (tgt := 80) hx hb dX5_overFloats_54 (by decide) (fun c52 => ?_) (fun c52 => ?_)
      · replace hR := (if_neg c52).symm.trans hR
        refine lv_iload_n hx hb dX5_overFloats_80 rfl (lv_at hl 0 rfl) ?_
        refine lv_istore_n (lv' := [(2, .int (u28 + x42)), (3, .int u29), (0, .ref (a 0)), (1, .int v1)]) hx hb dX5_overFloats_81 rfl hl (by decide) rfl (fun ls hl => ?_)
        refine lv_iinc (v := (u29 + (1 : Int32))) (lv' := [(3, .int (u29 + (1 : Int32))), (2, .int (u28 + x42)), (0, .ref (a 0)), (1, .int v1)]) hx hb dX5_overFloats_82 hl (k := 1) rfl rfl (by decide) rfl (fun ls hl => ?_)
        refine lv_goto (tgt := 4) hx hb dX5_overFloats_85 (by decide) ?_
        obtain rfl := Option.some.inj hR
        exact ih1 _ rfl _ _ _ hP hD hS (lv_sub hl [0, 1, 2, 3] rfl)
      · replace hR := (if_pos c52).symm.trans hR
        refine lv_aload_n hx hb dX5_overFloats_57 rfl (lv_at hl 2 rfl) ?_
        refine va_get (ci := 5) (C := RX5) (T := TX5) (N := 12) hx hb hts hw5 hown hK hP 0 rfl rfl 0 (by decide) hl0 (fun _ h9 => h9) rfl dX5_overFloats_58 ?_
        refine lv_iload_n hx hb dX5_overFloats_61 rfl (lv_at hl 1 rfl) ?_
        obtain ⟨x53, hq53, hR⟩ := kk_bd_el hR
        refine kk_call_Si (w' := (w_M g a M)) (As := [.ref (a 1), .int u29]) (rest := []) hC (sX5_high l g n (a 1) (M 0) u29 x53 hq53) (va_cwS 2 hts gX5_overFloats_X5_high rfl rfl rfl (by decide +kernel) ⟨Nat.le_of_ble_eq_true rfl, Nat.le_of_ble_eq_true rfl⟩) hK hP hD hS hA [1] rfl (by decide +kernel) rfl rfl rfl rfl hl.1 (Nat.le_of_ble_eq_true rfl) dX5_overFloats_62 (fun H locs hP hD hS => ?_)
        refine lv_iload_n hx hb dX5_overFloats_65 rfl (lv_at hl 0 rfl) ?_
        refine lv_icmp_le (tgt := 80) hx hb dX5_overFloats_66 (by decide) (fun c54 => ?_) (fun c54 => ?_)
        · replace hR := (if_pos c54).symm.trans hR
          refine lv_iload_n hx hb dX5_overFloats_80 rfl (lv_at hl 0 rfl) ?_
          refine lv_istore_n (lv' := [(2, .int (u28 + x42)), (3, .int u29), (0, .ref (a 0)), (1, .int v1)]) hx hb dX5_overFloats_81 rfl hl (by decide) rfl (fun ls hl => ?_)
          refine lv_iinc (v := (u29 + (1 : Int32))) (lv' := [(3, .int (u29 + (1 : Int32))), (2, .int (u28 + x42)), (0, .ref (a 0)), (1, .int v1)]) hx hb dX5_overFloats_82 hl (k := 1) rfl rfl (by decide) rfl (fun ls hl => ?_)
          refine lv_goto (tgt := 4) hx hb dX5_overFloats_85 (by decide) ?_
          obtain rfl := Option.some.inj hR
          exact ih1 _ rfl _ _ _ hP hD hS (lv_sub hl [0, 1, 2, 3] rfl)
        · replace hR := (if_neg c54).symm.trans hR
          refine lv_aload_n hx hb dX5_overFloats_69 rfl (lv_at hl 2 rfl) ?_
          refine va_get (ci := 5) (C := RX5) (T := TX5) (N := 12) hx hb hts hw5 hown hK hP 0 rfl rfl 0 (by decide) hl0 (fun _ h9 => h9) rfl dX5_overFloats_70 ?_
          refine lv_iload_n hx hb dX5_overFloats_73 rfl (lv_at hl 1 rfl) ?_
          obtain ⟨x55, hq55, hR⟩ := kk_bd_el hR
          refine kk_call_Si (w' := (w_M g a M)) (As := [.ref (a 1), .int u29]) (rest := []) hC (sX5_high l g n (a 1) (M 0) u29 x55 hq55) (va_cwS 2 hts gX5_overFloats_X5_high rfl rfl rfl (by decide +kernel) ⟨Nat.le_of_ble_eq_true rfl, Nat.le_of_ble_eq_true rfl⟩) hK hP hD hS hA [1] rfl (by decide +kernel) rfl rfl rfl rfl hl.1 (Nat.le_of_ble_eq_true rfl) dX5_overFloats_74 (fun H locs hP hD hS => ?_)
          refine lv_goto (tgt := 81) hx hb dX5_overFloats_77 (by decide) ?_
          refine lv_istore_n (lv' := [(2, .int x55), (3, .int u29), (0, .ref (a 0)), (1, .int v1)]) hx hb dX5_overFloats_81 rfl hl (by decide) rfl (fun ls hl => ?_)
          refine lv_iinc (v := (u29 + (1 : Int32))) (lv' := [(3, .int (u29 + (1 : Int32))), (2, .int x55), (0, .ref (a 0)), (1, .int v1)]) hx hb dX5_overFloats_82 hl (k := 1) rfl rfl (by decide) rfl (fun ls hl => ?_)
          refine lv_goto (tgt := 4) hx hb dX5_overFloats_85 (by decide) ?_
          obtain rfl := Option.some.inj hR
          exact ih1 _ rfl _ _ _ hP hD hS (lv_sub hl [0, 1, 2, 3] rfl)
    replace hR := hq42
    refine lv_icmp_ne (tgt := 28) hx hb dX5_overFloats_17 (by decide) (fun c43 => ?_) (fun c43 => ?_)
    · replace hR := (if_neg c43).symm.trans hR
      refine lv_iload_n hx hb dX5_overFloats_28 rfl (lv_at hl 3 rfl) ?_
      refine lv_iconst (v := (5 : Int32)) hx hb dX5_overFloats_29 (by decide) ?_
      refine lv_icmp_ne (tgt := 48) hx hb dX5_overFloats_30 (by decide) (fun c44 => ?_) (fun c44 => ?_)
      · replace hR := (if_neg c44).symm.trans hR
        refine lv_iconst (v := (0 : Int32)) hx hb dX5_overFloats_48 (by decide) ?_
        obtain rfl := Option.some.inj hR
        exact hj42 _ _ _ hP hD hS (lv_sub hl [0, 2, 3] rfl)
      · replace hR := (if_pos c44).symm.trans hR
        refine lv_aload_n hx hb dX5_overFloats_33 rfl (lv_at hl 2 rfl) ?_
        refine va_get (ci := 5) (C := RX5) (T := TX5) (N := 12) hx hb hts hw5 hown hK hP 0 rfl rfl 0 (by decide) hl0 (fun _ h9 => h9) rfl dX5_overFloats_34 ?_
        refine lv_iload_n hx hb dX5_overFloats_37 rfl (lv_at hl 0 rfl) ?_
        obtain ⟨x45, hq45, hR⟩ := kk_bd_el hR
        refine kk_call_Si (w' := (w_M g a M)) (As := [.ref (a 1), .int u29]) (rest := [.int u28]) hC (sX5_troubles l g n (a 1) (M 0) u29 x45 hq45) (va_cwS 2 hts gX5_overFloats_X5_troubles rfl rfl rfl (by decide +kernel) ⟨Nat.le_of_ble_eq_true rfl, Nat.le_of_ble_eq_true rfl⟩) hK hP hD hS hA [1] rfl (by decide +kernel) rfl rfl rfl rfl hl.1 (Nat.le_of_ble_eq_true rfl) dX5_overFloats_38 (fun H locs hP hD hS => ?_)
        refine lv_if_le (tgt := 48) hx hb dX5_overFloats_41 (by decide) (fun c46 => ?_) (fun c46 => ?_)
        · replace hR := (if_pos c46).symm.trans hR
          refine lv_iconst (v := (0 : Int32)) hx hb dX5_overFloats_48 (by decide) ?_
          obtain rfl := Option.some.inj hR
          exact hj42 _ _ _ hP hD hS (lv_sub hl [0, 2, 3] rfl)
        · replace hR := (if_neg c46).symm.trans hR
          refine lv_iconst (v := (1 : Int32)) hx hb dX5_overFloats_44 (by decide) ?_
          refine lv_goto (tgt := 49) hx hb dX5_overFloats_45 (by decide) ?_
          obtain rfl := Option.some.inj hR
          exact hj42 _ _ _ hP hD hS (lv_sub hl [0, 2, 3] rfl)
    · replace hR := (if_pos c43).symm.trans hR
      refine lv_aload_n hx hb dX5_overFloats_20 rfl (lv_at hl 2 rfl) ?_
      refine lv_iload_n hx hb dX5_overFloats_21 rfl (lv_at hl 0 rfl) ?_
      obtain ⟨x47, hq47, hR⟩ := kk_bd_el hR
      refine kk_call_Vi (w' := (w_M g a M)) (As := [.int u29]) (rest := [.int u28]) 0 5 hC (sX5_bridgesOf l g n a M u29 x47 hq47) (cwV 1 hts gX5_overFloats_X5_bridgesOf rfl rfl rfl (by decide +kernel) ⟨Nat.le_of_ble_eq_true rfl, Nat.le_of_ble_eq_true rfl⟩) hK hP hD hS hA [0, 1, 2, 3, 4, 5, 6] rfl (by decide +kernel) rfl rfl rfl rfl rfl rfl rfl hl.1 (Nat.le_of_ble_eq_true rfl) dX5_overFloats_22 (fun H locs hP hD hS => ?_)
      refine lv_if_gt (tgt := 44) hx hb dX5_overFloats_25 (by decide) (fun c48 => ?_) (fun c48 => ?_)
      · replace hR := (if_pos c48).symm.trans hR
        refine lv_iconst (v := (1 : Int32)) hx hb dX5_overFloats_44 (by decide) ?_
        refine lv_goto (tgt := 49) hx hb dX5_overFloats_45 (by decide) ?_
        obtain rfl := Option.some.inj hR
        exact hj42 _ _ _ hP hD hS (lv_sub hl [0, 2, 3] rfl)
      · replace hR := (if_neg c48).symm.trans hR
        refine lv_iload_n hx hb dX5_overFloats_28 rfl (lv_at hl 3 rfl) ?_
        refine lv_iconst (v := (5 : Int32)) hx hb dX5_overFloats_29 (by decide) ?_
        refine lv_icmp_ne (tgt := 48) hx hb dX5_overFloats_30 (by decide) (fun c49 => ?_) (fun c49 => ?_)
        · replace hR := (if_neg c49).symm.trans hR
          refine lv_iconst (v := (0 : Int32)) hx hb dX5_overFloats_48 (by decide) ?_
          obtain rfl := Option.some.inj hR
          exact hj42 _ _ _ hP hD hS (lv_sub hl [0, 2, 3] rfl)
        · replace hR := (if_pos c49).symm.trans hR
          refine lv_aload_n hx hb dX5_overFloats_33 rfl (lv_at hl 2 rfl) ?_
          refine va_get (ci := 5) (C := RX5) (T := TX5) (N := 12) hx hb hts hw5 hown hK hP 0 rfl rfl 0 (by decide) hl0 (fun _ h9 => h9) rfl dX5_overFloats_34 ?_
          refine lv_iload_n hx hb dX5_overFloats_37 rfl (lv_at hl 0 rfl) ?_
          obtain ⟨x50, hq50, hR⟩ := kk_bd_el hR
          refine kk_call_Si (w' := (w_M g a M)) (As := [.ref (a 1), .int u29]) (rest := [.int u28]) hC (sX5_troubles l g n (a 1) (M 0) u29 x50 hq50) (va_cwS 2 hts gX5_overFloats_X5_troubles rfl rfl rfl (by decide +kernel) ⟨Nat.le_of_ble_eq_true rfl, Nat.le_of_ble_eq_true rfl⟩) hK hP hD hS hA [1] rfl (by decide +kernel) rfl rfl rfl rfl hl.1 (Nat.le_of_ble_eq_true rfl) dX5_overFloats_38 (fun H locs hP hD hS => ?_)
          refine lv_if_le (tgt := 48) hx hb dX5_overFloats_41 (by decide) (fun c51 => ?_) (fun c51 => ?_)
          · replace hR := (if_pos c51).symm.trans hR
            refine lv_iconst (v := (0 : Int32)) hx hb dX5_overFloats_48 (by decide) ?_
            obtain rfl := Option.some.inj hR
            exact hj42 _ _ _ hP hD hS (lv_sub hl [0, 2, 3] rfl)
          · replace hR := (if_neg c51).symm.trans hR
            refine lv_iconst (v := (1 : Int32)) hx hb dX5_overFloats_44 (by decide) ?_
            refine lv_goto (tgt := 49) hx hb dX5_overFloats_45 (by decide) ?_
            obtain rfl := Option.some.inj hR
            exact hj42 _ _ _ hP hD hS (lv_sub hl [0, 2, 3] rfl)
set_option maxHeartbeats 8000000 in
set_option maxRecDepth 100000 in
theorem sX5_counted (l : Launch) (g : kG) (n : Nat) (a : Nat → Nat) (M : St1) (v1 : Int32) (r : Int32 × St1) (hR : fX5_counted n M v1 = some r) : kSp l g yX5_counted wsX5_counted ({ frames := 5, cells := 0, slots := 0, locals := 117 }) [.ref (a 0), .int v1] (w_M g a M) (kQi g (w_M g a r.2) r.1) := by
  refine kSp.of (cc := cX5_counted) (maxL := 2) (ret := (some .int)) (by decide) rfl (Nat.le_of_ble_eq_true rfl) ?_
  intro p e s m args below meth c ls A hC hr hlocks hA hK hl hP hD hS
  replace hC : CallFix p m c cX5_counted 2 s args wsX5_counted RX5 := hC
  obtain ⟨hx, hb, hml, hown, hts⟩ := id hC
  replace hl : lv_has ls 2 [(0, .ref (a 0)), (1, .int v1)] := hl
  unfold fX5_counted at hR
  have hw5 : ∀ w ∈ wsX50, w ∈ wsX5_counted := by decide +kernel
  have hl0 := hts (.fieldLink RX5 7 "FloatOrderModel" "now" "[I") (by decide +kernel)
  have hl1 := hts (.fieldLink RX5 36 "FloatOrderModel" "kept" "I") (by decide +kernel)
  refine lv_iload_n hx hb dX5_counted_0 rfl (lv_at hl 1 rfl) ?_
  by_cases c1 : v1 = (0 : Int32)
  · replace hR := (if_pos c1).symm.trans hR
    refine lv_tableIn (off := 51) (tgt := 52) hx hb dX5_counted_1 (by rw [c1]; decide) (by rw [c1]; decide) (by rw [c1]; rfl) (by decide) ?_
    refine lv_aload_n hx hb dX5_counted_52 rfl (lv_at hl 0 rfl) ?_
    refine va_get (ci := 5) (C := RX5) (T := TX5) (N := 12) hx hb hts hw5 hown hK hP 0 rfl rfl 0 (by decide) hl0 (fun _ h9 => h9) rfl dX5_counted_53 ?_
    refine lv_iconst (v := (4 : Int32)) hx hb dX5_counted_56 (by decide) ?_
    refine lv_iload_n hx hb dX5_counted_57 rfl (lv_at hl 1 rfl) ?_
    refine lv_iadd hx hb dX5_counted_58 ?_
    obtain ⟨hi2, hR⟩ := kk_ck_el hR
    refine va_iald hx hb hK hP 1 0 rfl rfl hi2 dX5_counted_59 ?_
    obtain rfl := Option.some.inj hR
    exact kk_ret_i hC hr hlocks hK hP hD hS dX5_counted_60 rfl
  replace hR := (if_neg c1).symm.trans hR
  by_cases c3 : v1 = (1 : Int32)
  · replace hR := (if_pos c3).symm.trans hR
    refine lv_tableIn (off := 51) (tgt := 52) hx hb dX5_counted_1 (by rw [c3]; decide) (by rw [c3]; decide) (by rw [c3]; rfl) (by decide) ?_
    refine lv_aload_n hx hb dX5_counted_52 rfl (lv_at hl 0 rfl) ?_
    refine va_get (ci := 5) (C := RX5) (T := TX5) (N := 12) hx hb hts hw5 hown hK hP 0 rfl rfl 0 (by decide) hl0 (fun _ h9 => h9) rfl dX5_counted_53 ?_
    refine lv_iconst (v := (4 : Int32)) hx hb dX5_counted_56 (by decide) ?_
    refine lv_iload_n hx hb dX5_counted_57 rfl (lv_at hl 1 rfl) ?_
    refine lv_iadd hx hb dX5_counted_58 ?_
    obtain ⟨hi4, hR⟩ := kk_ck_el hR
    refine va_iald hx hb hK hP 1 0 rfl rfl hi4 dX5_counted_59 ?_
    obtain rfl := Option.some.inj hR
    exact kk_ret_i hC hr hlocks hK hP hD hS dX5_counted_60 rfl
  replace hR := (if_neg c3).symm.trans hR
  by_cases c5 : v1 = (2 : Int32)
  · replace hR := (if_pos c5).symm.trans hR
    refine lv_tableIn (off := 60) (tgt := 61) hx hb dX5_counted_1 (by rw [c5]; decide) (by rw [c5]; decide) (by rw [c5]; rfl) (by decide) ?_
    refine lv_aload_n hx hb dX5_counted_61 rfl (lv_at hl 0 rfl) ?_
    refine va_get (ci := 5) (C := RX5) (T := TX5) (N := 12) hx hb hts hw5 hown hK hP 0 rfl rfl 0 (by decide) hl0 (fun _ h9 => h9) rfl dX5_counted_62 ?_
    obtain ⟨x6, hq6, hR⟩ := kk_bd_el hR
    refine kk_call_Si (w' := (w_M g a M)) (As := [.ref (a 1)]) (rest := []) hC (sX5_allTrouble l g n (a 1) (M 0)  x6 hq6) (va_cwS 1 hts gX5_counted_X5_allTrouble rfl rfl rfl (by decide +kernel) ⟨Nat.le_of_ble_eq_true rfl, Nat.le_of_ble_eq_true rfl⟩) hK hP hD hS hA [1] rfl (by decide +kernel) rfl rfl rfl rfl hl.1 (Nat.le_of_ble_eq_true rfl) dX5_counted_65 (fun H locs hP hD hS => ?_)
    obtain rfl := Option.some.inj hR
    exact kk_ret_i hC hr hlocks hK hP hD hS dX5_counted_68 rfl
  replace hR := (if_neg c5).symm.trans hR
  by_cases c7 : v1 = (3 : Int32)
  · replace hR := (if_pos c7).symm.trans hR
    refine lv_tableIn (off := 68) (tgt := 69) hx hb dX5_counted_1 (by rw [c7]; decide) (by rw [c7]; decide) (by rw [c7]; rfl) (by decide) ?_
    refine lv_aload_n hx hb dX5_counted_69 rfl (lv_at hl 0 rfl) ?_
    refine lv_aload_n hx hb dX5_counted_70 rfl (lv_at hl 0 rfl) ?_
    refine va_get (ci := 5) (C := RX5) (T := TX5) (N := 12) hx hb hts hw5 hown hK hP 0 rfl rfl 0 (by decide) hl0 (fun _ h9 => h9) rfl dX5_counted_71 ?_
    obtain ⟨x8, hq8, hR⟩ := kk_bd_el hR
    refine kk_call_Vi (w' := (w_M g a x8.2)) (As := [.ref (a 1)]) (rest := []) 0 5 hC (sX5_endsN l g n a M  x8 hq8) (cwV 1 hts gX5_counted_X5_ends rfl rfl rfl (by decide +kernel) ⟨Nat.le_of_ble_eq_true rfl, Nat.le_of_ble_eq_true rfl⟩) hK hP hD hS hA [0, 1, 2, 3, 4, 5, 6] rfl (by decide +kernel) rfl rfl rfl rfl rfl rfl rfl hl.1 (Nat.le_of_ble_eq_true rfl) dX5_counted_74 (fun H locs hP hD hS => ?_)
    obtain rfl := Option.some.inj hR
    exact kk_ret_i hC hr hlocks hK hP hD hS dX5_counted_77 rfl
  replace hR := (if_neg c7).symm.trans hR
  by_cases c9 : v1 = (6 : Int32)
  · replace hR := (if_pos c9).symm.trans hR
    refine lv_tableIn (off := 77) (tgt := 78) hx hb dX5_counted_1 (by rw [c9]; decide) (by rw [c9]; decide) (by rw [c9]; rfl) (by decide) ?_
    refine lv_aload_n hx hb dX5_counted_78 rfl (lv_at hl 0 rfl) ?_
    refine lv_aload_n hx hb dX5_counted_79 rfl (lv_at hl 0 rfl) ?_
    refine va_get (ci := 5) (C := RX5) (T := TX5) (N := 12) hx hb hts hw5 hown hK hP 0 rfl rfl 0 (by decide) hl0 (fun _ h9 => h9) rfl dX5_counted_80 ?_
    obtain ⟨x10, hq10, hR⟩ := kk_bd_el hR
    refine kk_call_Vi (w' := (w_M g a x10.2)) (As := [.ref (a 1)]) (rest := []) 0 5 hC (sX5_endsN l g n a M  x10 hq10) (cwV 1 hts gX5_counted_X5_ends rfl rfl rfl (by decide +kernel) ⟨Nat.le_of_ble_eq_true rfl, Nat.le_of_ble_eq_true rfl⟩) hK hP hD hS hA [0, 1, 2, 3, 4, 5, 6] rfl (by decide +kernel) rfl rfl rfl rfl rfl rfl rfl hl.1 (Nat.le_of_ble_eq_true rfl) dX5_counted_83 (fun H locs hP hD hS => ?_)
    refine lv_aload_n hx hb dX5_counted_86 rfl (lv_at hl 0 rfl) ?_
    refine lv_aload_n hx hb dX5_counted_87 rfl (lv_at hl 0 rfl) ?_
    refine va_get (ci := 5) (C := RX5) (T := TX5) (N := 12) hx hb hts hw5 hown hK hP 0 rfl rfl 0 (by decide) hl0 (fun _ h9 => h9) rfl dX5_counted_88 ?_
    refine lv_iconst (v := (0 : Int32)) hx hb dX5_counted_91 (by decide) ?_
    obtain ⟨x11, hq11, hR⟩ := kk_bd_el hR
    refine kk_call_Vi (w' := (w_M g a x11.2)) (As := [.ref (a 1), .int (0 : Int32)]) (rest := [.int x10.1]) 0 5 hC (sX5_goesN l g n a x10.2 (0 : Int32) x11 hq11) (cwV 2 hts gX5_counted_X5_goes rfl rfl rfl (by decide +kernel) ⟨Nat.le_of_ble_eq_true rfl, Nat.le_of_ble_eq_true rfl⟩) hK hP hD hS hA [0, 1, 2, 3, 4, 5, 6] rfl (by decide +kernel) rfl rfl rfl rfl rfl rfl rfl hl.1 (Nat.le_of_ble_eq_true rfl) dX5_counted_92 (fun H locs hP hD hS => ?_)
    refine lv_isub hx hb dX5_counted_95 ?_
    obtain rfl := Option.some.inj hR
    exact kk_ret_i hC hr hlocks hK hP hD hS dX5_counted_96 rfl
  replace hR := (if_neg c9).symm.trans hR
  by_cases c12 : v1 = (8 : Int32)
  · replace hR := (if_pos c12).symm.trans hR
    refine lv_tableIn (off := 96) (tgt := 97) hx hb dX5_counted_1 (by rw [c12]; decide) (by rw [c12]; decide) (by rw [c12]; rfl) (by decide) ?_
    refine lv_aload_n hx hb dX5_counted_97 rfl (lv_at hl 0 rfl) ?_
    refine va_get (ci := 5) (C := RX5) (T := TX5) (N := 12) hx hb hts hw5 hown hK hP 0 rfl rfl 3 (by decide) hl1 (fun _ h9 => h9) rfl dX5_counted_98 ?_
    obtain rfl := Option.some.inj hR
    exact kk_ret_i hC hr hlocks hK hP hD hS dX5_counted_101 rfl
  replace hR := (if_neg c12).symm.trans hR
  have m0 := lv_neT (k := (0 : Int32)) (a := 0) c1 rfl
  have m1 := lv_neT (k := (1 : Int32)) (a := 1) c3 rfl
  have m2 := lv_neT (k := (2 : Int32)) (a := 2) c5 rfl
  have m3 := lv_neT (k := (3 : Int32)) (a := 3) c7 rfl
  have m6 := lv_neT (k := (6 : Int32)) (a := 6) c9 rfl
  have m8 := lv_neT (k := (8 : Int32)) (a := 8) c12 rfl
  refine kk_cut0 (pcJ := 102) (st := []) (ls := ls) ?_ (fun hj0 => ?_)
  · refine lv_aload_n hx hb dX5_counted_102 rfl (lv_at hl 0 rfl) ?_
    refine lv_iload_n hx hb dX5_counted_103 rfl (lv_at hl 1 rfl) ?_
    obtain ⟨x13, hq13, hR⟩ := kk_bd_el hR
    refine kk_call_Vi (w' := (w_M g a M)) (As := [.int v1]) (rest := []) 0 5 hC (sX5_overFloats l g n a M v1 x13 hq13) (cwV 1 hts gX5_counted_X5_overFloats rfl rfl rfl (by decide +kernel) ⟨Nat.le_of_ble_eq_true rfl, Nat.le_of_ble_eq_true rfl⟩) hK hP hD hS hA [0, 1, 2, 3, 4, 5, 6] rfl (by decide +kernel) rfl rfl rfl rfl rfl rfl rfl hl.1 (Nat.le_of_ble_eq_true rfl) dX5_counted_104 (fun H locs hP hD hS => ?_)
    obtain rfl := Option.some.inj hR
    exact kk_ret_i hC hr hlocks hK hP hD hS dX5_counted_107 rfl
  by_cases hsw : v1.toInt < 0 ∨ 8 < v1.toInt
  · exact lv_tableOut (tgt := 102) hx hb dX5_counted_1 hsw (by decide) hj0
  have hsv : v1.toInt = 4 ∨ v1.toInt = 5 ∨ v1.toInt = 7 := by omega
  rcases hsv with hsv | hsv | hsv <;> exact lv_tableIn (off := 101) (tgt := 102) hx hb dX5_counted_1 (by omega) (by omega) (by rw [hsv]; rfl) (by decide) hj0
set_option maxHeartbeats 8000000 in
set_option maxRecDepth 100000 in
theorem sX5_count (l : Launch) (g : kG) (n : Nat) (a : Nat → Nat) (M : St1) (v1 : Int32) (r : Int32 × St1) (hR : fX5_count n M v1 = some r) : kSp l g yX5_count wsX5_count ({ frames := 6, cells := 0, slots := 0, locals := 138 }) [.ref (a 0), .int v1] (w_M g a M) (kQi g (w_M g a r.2) r.1) := by
  refine kSp.of (cc := cX5_count) (maxL := 2) (ret := (some .int)) (by decide) rfl (Nat.le_of_ble_eq_true rfl) ?_
  intro p e s m args below meth c ls A hC hr hlocks hA hK hl hP hD hS
  replace hC : CallFix p m c cX5_count 2 s args wsX5_count RX5 := hC
  obtain ⟨hx, hb, hml, hown, hts⟩ := id hC
  replace hl : lv_has ls 2 [(0, .ref (a 0)), (1, .int v1)] := hl
  unfold fX5_count at hR
  have hw5 : ∀ w ∈ wsX50, w ∈ wsX5_count := by decide +kernel
  have hl0 := hts (.fieldLink RX5 28 "FloatOrderModel" "thrown" "I") (by decide +kernel)
  refine lv_aload_n hx hb dX5_count_0 rfl (lv_at hl 0 rfl) ?_
  refine lv_iconst (v := (0 : Int32)) hx hb dX5_count_1 (by decide) ?_
  obtain ⟨M1, eM1, hR⟩ := kk_nm_el hR
  refine kk_put (w' := (w_M g a M1)) (ci := 5) (C := RX5) (T := TX5) (N := 12) (ty := .int) (v := .int (0 : Int32)) hC hw5 tyX5 tyX5_ok nmX5 hK hP hD hS 0 rfl rfl 6 (by decide) hl0 rfl (by decide +kernel) rfl rfl (Nat.le_of_ble_eq_true rfl) (by rw [eM1]; rfl) dX5_count_2 rfl (fun H locs hP hD hS => ?_)
  refine lv_iload_n hx hb dX5_count_5 rfl (lv_at hl 1 rfl) ?_
  refine lv_iconst (v := (0 : Int32)) hx hb dX5_count_6 (by decide) ?_
  refine lv_bipush (v := (8 : Int32)) hx hb dX5_count_7 (by decide) ?_
  obtain ⟨x2, hq2, hR⟩ := kk_bd_el hR
  refine kk_call_Si (w' := (w_M g a M1)) (As := [.int v1, .int (0 : Int32), .int (8 : Int32)]) (rest := []) hC (sX5_in l g n   v1 (0 : Int32) (8 : Int32) x2 hq2) (va_cwS 3 hts gX5_count_X5_in rfl rfl rfl (by decide +kernel) ⟨Nat.le_of_ble_eq_true rfl, Nat.le_of_ble_eq_true rfl⟩) hK hP hD hS hA [] rfl (by decide +kernel) rfl rfl rfl rfl hl.1 (Nat.le_of_ble_eq_true rfl) dX5_count_9 (fun H locs hP hD hS => ?_)
  refine lv_if_eq (tgt := 23) hx hb dX5_count_12 (by decide) (fun c3 => ?_) (fun c3 => ?_)
  · replace hR := (if_pos c3).symm.trans hR
    refine lv_aload_n hx hb dX5_count_23 rfl (lv_at hl 0 rfl) ?_
    refine lv_iconst (v := (1 : Int32)) hx hb dX5_count_24 (by decide) ?_
    obtain ⟨x4, hq4, hR⟩ := kk_bd_el hR
    refine kk_call_Vi (w' := (w_M g a x4.2)) (As := [.int (1 : Int32)]) (rest := []) 0 5 hC (sX5_fails l g n a M1 (1 : Int32) x4 hq4) (cwV 1 hts gX5_count_X5_fails rfl rfl rfl (by decide +kernel) ⟨Nat.le_of_ble_eq_true rfl, Nat.le_of_ble_eq_true rfl⟩) hK hP hD hS hA [0, 1, 2, 3, 4, 5, 6] rfl (by decide +kernel) rfl rfl rfl rfl rfl rfl rfl hl.1 (Nat.le_of_ble_eq_true rfl) dX5_count_25 (fun H locs hP hD hS => ?_)
    obtain rfl := Option.some.inj hR
    exact kk_ret_i hC hr hlocks hK hP hD hS dX5_count_28 rfl
  · replace hR := (if_neg c3).symm.trans hR
    refine lv_aload_n hx hb dX5_count_15 rfl (lv_at hl 0 rfl) ?_
    refine lv_iload_n hx hb dX5_count_16 rfl (lv_at hl 1 rfl) ?_
    obtain ⟨x5, hq5, hR⟩ := kk_bd_el hR
    refine kk_call_Vi (w' := (w_M g a x5.2)) (As := [.int v1]) (rest := []) 0 5 hC (sX5_counted l g n a M1 v1 x5 hq5) (cwV 1 hts gX5_count_X5_counted rfl rfl rfl (by decide +kernel) ⟨Nat.le_of_ble_eq_true rfl, Nat.le_of_ble_eq_true rfl⟩) hK hP hD hS hA [0, 1, 2, 3, 4, 5, 6] rfl (by decide +kernel) rfl rfl rfl rfl rfl rfl rfl hl.1 (Nat.le_of_ble_eq_true rfl) dX5_count_17 (fun H locs hP hD hS => ?_)
    refine lv_goto (tgt := 28) hx hb dX5_count_20 (by decide) ?_
    obtain rfl := Option.some.inj hR
    exact kk_ret_i hC hr hlocks hK hP hD hS dX5_count_28 rfl
set_option maxHeartbeats 8000000 in
set_option maxRecDepth 100000 in
theorem sX5_setting (l : Launch) (g : kG) (n : Nat) (a : Nat → Nat) (M : St1) (v1 : Int32) (r : Int32 × St1) (hR : fX5_setting n M v1 = some r) : kSp l g yX5_setting wsX5_setting ({ frames := 1, cells := 0, slots := 0, locals := 22 }) [.ref (a 0), .int v1] (w_M g a M) (kQi g (w_M g a r.2) r.1) := by
  refine kSp.of (cc := cX5_setting) (maxL := 2) (ret := (some .int)) (by decide) rfl (Nat.le_of_ble_eq_true rfl) ?_
  intro p e s m args below meth c ls A hC hr hlocks hA hK hl hP hD hS
  replace hC : CallFix p m c cX5_setting 2 s args wsX5_setting RX5 := hC
  obtain ⟨hx, hb, hml, hown, hts⟩ := id hC
  replace hl : lv_has ls 2 [(0, .ref (a 0)), (1, .int v1)] := hl
  unfold fX5_setting at hR
  have hw5 : ∀ w ∈ wsX50, w ∈ wsX5_setting := by decide +kernel
  have hl0 := hts (.fieldLink RX5 28 "FloatOrderModel" "thrown" "I") (by decide +kernel)
  have hl1 := hts (.fieldLink RX5 7 "FloatOrderModel" "now" "[I") (by decide +kernel)
  refine lv_aload_n hx hb dX5_setting_0 rfl (lv_at hl 0 rfl) ?_
  refine lv_iconst (v := (0 : Int32)) hx hb dX5_setting_1 (by decide) ?_
  obtain ⟨M1, eM1, hR⟩ := kk_nm_el hR
  refine kk_put (w' := (w_M g a M1)) (ci := 5) (C := RX5) (T := TX5) (N := 12) (ty := .int) (v := .int (0 : Int32)) hC hw5 tyX5 tyX5_ok nmX5 hK hP hD hS 0 rfl rfl 6 (by decide) hl0 rfl (by decide +kernel) rfl rfl (Nat.le_of_ble_eq_true rfl) (by rw [eM1]; rfl) dX5_setting_2 rfl (fun H locs hP hD hS => ?_)
  refine lv_iload_n hx hb dX5_setting_5 rfl (lv_at hl 1 rfl) ?_
  refine lv_iconst (v := (0 : Int32)) hx hb dX5_setting_6 (by decide) ?_
  refine lv_iconst (v := (3 : Int32)) hx hb dX5_setting_7 (by decide) ?_
  obtain ⟨x2, hq2, hR⟩ := kk_bd_el hR
  refine kk_call_Si (w' := (w_M g a M1)) (As := [.int v1, .int (0 : Int32), .int (3 : Int32)]) (rest := []) hC (sX5_in l g n   v1 (0 : Int32) (3 : Int32) x2 hq2) (va_cwS 3 hts gX5_setting_X5_in rfl rfl rfl (by decide +kernel) ⟨Nat.le_of_ble_eq_true rfl, Nat.le_of_ble_eq_true rfl⟩) hK hP hD hS hA [] rfl (by decide +kernel) rfl rfl rfl rfl hl.1 (Nat.le_of_ble_eq_true rfl) dX5_setting_8 (fun H locs hP hD hS => ?_)
  refine lv_if_eq (tgt := 23) hx hb dX5_setting_11 (by decide) (fun c3 => ?_) (fun c3 => ?_)
  · replace hR := (if_pos c3).symm.trans hR
    refine lv_aload_n hx hb dX5_setting_23 rfl (lv_at hl 0 rfl) ?_
    refine lv_iconst (v := (1 : Int32)) hx hb dX5_setting_24 (by decide) ?_
    obtain ⟨x4, hq4, hR⟩ := kk_bd_el hR
    refine kk_call_Vi (w' := (w_M g a x4.2)) (As := [.int (1 : Int32)]) (rest := []) 0 5 hC (sX5_fails l g n a M1 (1 : Int32) x4 hq4) (cwV 1 hts gX5_setting_X5_fails rfl rfl rfl (by decide +kernel) ⟨Nat.le_of_ble_eq_true rfl, Nat.le_of_ble_eq_true rfl⟩) hK hP hD hS hA [0, 1, 2, 3, 4, 5, 6] rfl (by decide +kernel) rfl rfl rfl rfl rfl rfl rfl hl.1 (Nat.le_of_ble_eq_true rfl) dX5_setting_25 (fun H locs hP hD hS => ?_)
    obtain rfl := Option.some.inj hR
    exact kk_ret_i hC hr hlocks hK hP hD hS dX5_setting_28 rfl
  · replace hR := (if_neg c3).symm.trans hR
    refine lv_aload_n hx hb dX5_setting_14 rfl (lv_at hl 0 rfl) ?_
    refine va_get (ci := 5) (C := RX5) (T := TX5) (N := 12) hx hb hts hw5 hown hK hP 0 rfl rfl 0 (by decide) hl1 (fun _ h9 => h9) rfl dX5_setting_15 ?_
    refine lv_iload_n hx hb dX5_setting_18 rfl (lv_at hl 1 rfl) ?_
    obtain ⟨hi5, hR⟩ := kk_ck_el hR
    refine va_iald hx hb hK hP 1 0 rfl rfl hi5 dX5_setting_19 ?_
    refine lv_goto (tgt := 28) hx hb dX5_setting_20 (by decide) ?_
    obtain rfl := Option.some.inj hR
    exact kk_ret_i hC hr hlocks hK hP hD hS dX5_setting_28 rfl
set_option maxHeartbeats 8000000 in
set_option maxRecDepth 100000 in
theorem sX5_byMoving (l : Launch) (g : kG) (n : Nat) (a : Nat → Nat) (M : St1) (v1 : Int32) (v2 : Int32) (v3 : Int32) (r : Int32 × St1) (hR : fX5_byMoving n M v1 v2 v3 = some r) : kSp l g yX5_byMoving wsX5_byMoving ({ frames := 5, cells := 0, slots := 0, locals := 117 }) [.ref (a 0), .int v1, .int v2, .int v3] (w_M g a M) (kQi g (w_M g a r.2) r.1) := by
  refine kSp.of (cc := cX5_byMoving) (maxL := 4) (ret := (some .int)) (by decide) rfl (Nat.le_of_ble_eq_true rfl) ?_
  intro p e s m args below meth c ls A hC hr hlocks hA hK hl hP hD hS
  replace hC : CallFix p m c cX5_byMoving 4 s args wsX5_byMoving RX5 := hC
  obtain ⟨hx, hb, hml, hown, hts⟩ := id hC
  replace hl : lv_has ls 4 [(0, .ref (a 0)), (1, .int v1), (2, .int v2), (3, .int v3)] := hl
  unfold fX5_byMoving at hR
  have hw5 : ∀ w ∈ wsX50, w ∈ wsX5_byMoving := by decide +kernel
  have hl0 := hts (.fieldLink RX5 7 "FloatOrderModel" "now" "[I") (by decide +kernel)
  have hl1 := hts (.fieldLink RX5 13 "FloatOrderModel" "then" "[I") (by decide +kernel)
  refine lv_aload_n hx hb dX5_byMoving_0 rfl (lv_at hl 0 rfl) ?_
  refine va_get (ci := 5) (C := RX5) (T := TX5) (N := 12) hx hb hts hw5 hown hK hP 0 rfl rfl 0 (by decide) hl0 (fun _ h9 => h9) rfl dX5_byMoving_1 ?_
  refine lv_iconst (v := (0 : Int32)) hx hb dX5_byMoving_4 (by decide) ?_
  refine lv_aload_n hx hb dX5_byMoving_5 rfl (lv_at hl 0 rfl) ?_
  refine va_get (ci := 5) (C := RX5) (T := TX5) (N := 12) hx hb hts hw5 hown hK hP 0 rfl rfl 1 (by decide) hl1 (fun _ h9 => h9) rfl dX5_byMoving_6 ?_
  refine lv_iconst (v := (0 : Int32)) hx hb dX5_byMoving_9 (by decide) ?_
  obtain ⟨x1, hq1, hR⟩ := kk_bd_el hR
  obtain ⟨M2, eM2, hR⟩ := kk_nm_el hR
  refine kk_call_Sv (w' := (w_M g a M2)) (As := [.ref (a 1), .int (0 : Int32), .ref (a 2), .int (0 : Int32)]) (rest := []) hC (sX5_copies l g n (a 1) 62 (a 2) 62 (M 0) (M 1) (0 : Int32) (0 : Int32) x1 hq1) (va_cwS 4 hts gX5_byMoving_X5_copies rfl rfl rfl (by decide +kernel) ⟨Nat.le_of_ble_eq_true rfl, Nat.le_of_ble_eq_true rfl⟩) hK hP hD hS hA [1, 2] rfl (by decide +kernel) rfl (by rw [eM2]; rfl) rfl rfl hl.1 (Nat.le_of_ble_eq_true rfl) dX5_byMoving_10 (fun H locs hP hD hS => ?_)
  refine lv_aload_n hx hb dX5_byMoving_13 rfl (lv_at hl 0 rfl) ?_
  refine va_get (ci := 5) (C := RX5) (T := TX5) (N := 12) hx hb hts hw5 hown hK hP 0 rfl rfl 1 (by decide) hl1 (fun _ h9 => h9) rfl dX5_byMoving_14 ?_
  refine lv_iload_n hx hb dX5_byMoving_17 rfl (lv_at hl 1 rfl) ?_
  refine lv_iload_n hx hb dX5_byMoving_18 rfl (lv_at hl 2 rfl) ?_
  obtain ⟨x3, hq3, hR⟩ := kk_bd_el hR
  obtain ⟨M4, eM4, hR⟩ := kk_nm_el hR
  refine kk_call_Sv (w' := (w_M g a M4)) (As := [.ref (a 2), .int v1, .int v2]) (rest := []) hC (sX5_moves l g n (a 2) (M2 1) v1 v2 x3 hq3) (va_cwS 3 hts gX5_byMoving_X5_moves rfl rfl rfl (by decide +kernel) ⟨Nat.le_of_ble_eq_true rfl, Nat.le_of_ble_eq_true rfl⟩) hK hP hD hS hA [2] rfl (by decide +kernel) rfl (by rw [eM4]; rfl) rfl rfl hl.1 (Nat.le_of_ble_eq_true rfl) dX5_byMoving_19 (fun H locs hP hD hS => ?_)
  refine lv_iload_n hx hb dX5_byMoving_22 rfl (lv_at hl 3 rfl) ?_
  refine lv_if_ne (tgt := 36) hx hb dX5_byMoving_23 (by decide) (fun c5 => ?_) (fun c5 => ?_)
  · replace hR := (if_neg c5).symm.trans hR
    refine lv_aload_n hx hb dX5_byMoving_36 rfl (lv_at hl 0 rfl) ?_
    refine lv_aload_n hx hb dX5_byMoving_37 rfl (lv_at hl 0 rfl) ?_
    refine va_get (ci := 5) (C := RX5) (T := TX5) (N := 12) hx hb hts hw5 hown hK hP 0 rfl rfl 1 (by decide) hl1 (fun _ h9 => h9) rfl dX5_byMoving_38 ?_
    obtain ⟨x6, hq6, hR⟩ := kk_bd_el hR
    refine kk_call_Vi (w' := (w_M g a x6.2)) (As := [.ref (a 2)]) (rest := []) 0 5 hC (sX5_endsT l g n a M4  x6 hq6) (cwV 1 hts gX5_byMoving_X5_ends rfl rfl rfl (by decide +kernel) ⟨Nat.le_of_ble_eq_true rfl, Nat.le_of_ble_eq_true rfl⟩) hK hP hD hS hA [0, 1, 2, 3, 4, 5, 6] rfl (by decide +kernel) rfl rfl rfl rfl rfl rfl rfl hl.1 (Nat.le_of_ble_eq_true rfl) dX5_byMoving_41 (fun H locs hP hD hS => ?_)
    obtain rfl := Option.some.inj hR
    exact kk_ret_i hC hr hlocks hK hP hD hS dX5_byMoving_44 rfl
  · replace hR := (if_pos c5).symm.trans hR
    refine lv_aload_n hx hb dX5_byMoving_26 rfl (lv_at hl 0 rfl) ?_
    refine va_get (ci := 5) (C := RX5) (T := TX5) (N := 12) hx hb hts hw5 hown hK hP 0 rfl rfl 1 (by decide) hl1 (fun _ h9 => h9) rfl dX5_byMoving_27 ?_
    obtain ⟨x7, hq7, hR⟩ := kk_bd_el hR
    refine kk_call_Si (w' := (w_M g a M4)) (As := [.ref (a 2)]) (rest := []) hC (sX5_allTrouble l g n (a 2) (M4 1)  x7 hq7) (va_cwS 1 hts gX5_byMoving_X5_allTrouble rfl rfl rfl (by decide +kernel) ⟨Nat.le_of_ble_eq_true rfl, Nat.le_of_ble_eq_true rfl⟩) hK hP hD hS hA [2] rfl (by decide +kernel) rfl rfl rfl rfl hl.1 (Nat.le_of_ble_eq_true rfl) dX5_byMoving_30 (fun H locs hP hD hS => ?_)
    refine lv_goto (tgt := 44) hx hb dX5_byMoving_33 (by decide) ?_
    obtain rfl := Option.some.inj hR
    exact kk_ret_i hC hr hlocks hK hP hD hS dX5_byMoving_44 rfl
set_option maxHeartbeats 8000000 in
set_option maxRecDepth 100000 in
theorem sX5_ifMoved (l : Launch) (g : kG) (n : Nat) (a : Nat → Nat) (M : St1) (v1 : Int32) (v2 : Int32) (v3 : Int32) (r : Int32 × St1) (hR : fX5_ifMoved n M v1 v2 v3 = some r) : kSp l g yX5_ifMoved wsX5_ifMoved ({ frames := 6, cells := 0, slots := 0, locals := 140 }) [.ref (a 0), .int v1, .int v2, .int v3] (w_M g a M) (kQi g (w_M g a r.2) r.1) := by
  refine kSp.of (cc := cX5_ifMoved) (maxL := 4) (ret := (some .int)) (by decide) rfl (Nat.le_of_ble_eq_true rfl) ?_
  intro p e s m args below meth c ls A hC hr hlocks hA hK hl hP hD hS
  replace hC : CallFix p m c cX5_ifMoved 4 s args wsX5_ifMoved RX5 := hC
  obtain ⟨hx, hb, hml, hown, hts⟩ := id hC
  replace hl : lv_has ls 4 [(0, .ref (a 0)), (1, .int v1), (2, .int v2), (3, .int v3)] := hl
  unfold fX5_ifMoved at hR
  have hw5 : ∀ w ∈ wsX50, w ∈ wsX5_ifMoved := by decide +kernel
  have hl0 := hts (.fieldLink RX5 28 "FloatOrderModel" "thrown" "I") (by decide +kernel)
  refine lv_aload_n hx hb dX5_ifMoved_0 rfl (lv_at hl 0 rfl) ?_
  refine lv_iconst (v := (0 : Int32)) hx hb dX5_ifMoved_1 (by decide) ?_
  obtain ⟨M1, eM1, hR⟩ := kk_nm_el hR
  refine kk_put (w' := (w_M g a M1)) (ci := 5) (C := RX5) (T := TX5) (N := 12) (ty := .int) (v := .int (0 : Int32)) hC hw5 tyX5 tyX5_ok nmX5 hK hP hD hS 0 rfl rfl 6 (by decide) hl0 rfl (by decide +kernel) rfl rfl (Nat.le_of_ble_eq_true rfl) (by rw [eM1]; rfl) dX5_ifMoved_2 rfl (fun H locs hP hD hS => ?_)
  refine lv_aload_n hx hb dX5_ifMoved_5 rfl (lv_at hl 0 rfl) ?_
  refine lv_iload_n hx hb dX5_ifMoved_6 rfl (lv_at hl 1 rfl) ?_
  obtain ⟨x2, hq2, hR⟩ := kk_bd_el hR
  refine kk_call_Vi (w' := (w_M g a M1)) (As := [.int v1]) (rest := []) 0 5 hC (sX5_isFloat l g n a M1 v1 x2 hq2) (cwV 1 hts gX5_ifMoved_X5_isFloat rfl rfl rfl (by decide +kernel) ⟨Nat.le_of_ble_eq_true rfl, Nat.le_of_ble_eq_true rfl⟩) hK hP hD hS hA [0, 1, 2, 3, 4, 5, 6] rfl (by decide +kernel) rfl rfl rfl rfl rfl rfl rfl hl.1 (Nat.le_of_ble_eq_true rfl) dX5_ifMoved_7 (fun H locs hP hD hS => ?_)
  refine lv_if_eq (tgt := 21) hx hb dX5_ifMoved_10 (by decide) (fun c3 => ?_) (fun c3 => ?_)
  · replace hR := (if_pos c3).symm.trans hR
    refine lv_aload_n hx hb dX5_ifMoved_21 rfl (lv_at hl 0 rfl) ?_
    refine lv_iconst (v := (1 : Int32)) hx hb dX5_ifMoved_22 (by decide) ?_
    obtain ⟨x4, hq4, hR⟩ := kk_bd_el hR
    refine kk_call_Vi (w' := (w_M g a x4.2)) (As := [.int (1 : Int32)]) (rest := []) 0 5 hC (sX5_fails l g n a M1 (1 : Int32) x4 hq4) (cwV 1 hts gX5_ifMoved_X5_fails rfl rfl rfl (by decide +kernel) ⟨Nat.le_of_ble_eq_true rfl, Nat.le_of_ble_eq_true rfl⟩) hK hP hD hS hA [0, 1, 2, 3, 4, 5, 6] rfl (by decide +kernel) rfl rfl rfl rfl rfl rfl rfl hl.1 (Nat.le_of_ble_eq_true rfl) dX5_ifMoved_23 (fun H locs hP hD hS => ?_)
    obtain rfl := Option.some.inj hR
    exact kk_ret_i hC hr hlocks hK hP hD hS dX5_ifMoved_26 rfl
  · replace hR := (if_neg c3).symm.trans hR
    refine lv_aload_n hx hb dX5_ifMoved_13 rfl (lv_at hl 0 rfl) ?_
    refine lv_iload_n hx hb dX5_ifMoved_14 rfl (lv_at hl 2 rfl) ?_
    obtain ⟨x5, hq5, hR⟩ := kk_bd_el hR
    refine kk_call_Vi (w' := (w_M g a M1)) (As := [.int v2]) (rest := []) 0 5 hC (sX5_isFloat l g n a M1 v2 x5 hq5) (cwV 1 hts gX5_ifMoved_X5_isFloat rfl rfl rfl (by decide +kernel) ⟨Nat.le_of_ble_eq_true rfl, Nat.le_of_ble_eq_true rfl⟩) hK hP hD hS hA [0, 1, 2, 3, 4, 5, 6] rfl (by decide +kernel) rfl rfl rfl rfl rfl rfl rfl hl.1 (Nat.le_of_ble_eq_true rfl) dX5_ifMoved_15 (fun H locs hP hD hS => ?_)
    refine lv_if_ne (tgt := 27) hx hb dX5_ifMoved_18 (by decide) (fun c6 => ?_) (fun c6 => ?_)
    · replace hR := (if_neg c6).symm.trans hR
      refine lv_iload_n hx hb dX5_ifMoved_27 rfl (lv_at hl 3 rfl) ?_
      refine lv_iconst (v := (0 : Int32)) hx hb dX5_ifMoved_28 (by decide) ?_
      refine lv_iconst (v := (1 : Int32)) hx hb dX5_ifMoved_29 (by decide) ?_
      obtain ⟨x7, hq7, hR⟩ := kk_bd_el hR
      refine kk_call_Si (w' := (w_M g a M1)) (As := [.int v3, .int (0 : Int32), .int (1 : Int32)]) (rest := []) hC (sX5_in l g n   v3 (0 : Int32) (1 : Int32) x7 hq7) (va_cwS 3 hts gX5_ifMoved_X5_in rfl rfl rfl (by decide +kernel) ⟨Nat.le_of_ble_eq_true rfl, Nat.le_of_ble_eq_true rfl⟩) hK hP hD hS hA [] rfl (by decide +kernel) rfl rfl rfl rfl hl.1 (Nat.le_of_ble_eq_true rfl) dX5_ifMoved_30 (fun H locs hP hD hS => ?_)
      refine lv_if_eq (tgt := 46) hx hb dX5_ifMoved_33 (by decide) (fun c8 => ?_) (fun c8 => ?_)
      · replace hR := (if_pos c8).symm.trans hR
        refine lv_aload_n hx hb dX5_ifMoved_46 rfl (lv_at hl 0 rfl) ?_
        refine lv_iconst (v := (2 : Int32)) hx hb dX5_ifMoved_47 (by decide) ?_
        obtain ⟨x9, hq9, hR⟩ := kk_bd_el hR
        refine kk_call_Vi (w' := (w_M g a x9.2)) (As := [.int (2 : Int32)]) (rest := []) 0 5 hC (sX5_fails l g n a M1 (2 : Int32) x9 hq9) (cwV 1 hts gX5_ifMoved_X5_fails rfl rfl rfl (by decide +kernel) ⟨Nat.le_of_ble_eq_true rfl, Nat.le_of_ble_eq_true rfl⟩) hK hP hD hS hA [0, 1, 2, 3, 4, 5, 6] rfl (by decide +kernel) rfl rfl rfl rfl rfl rfl rfl hl.1 (Nat.le_of_ble_eq_true rfl) dX5_ifMoved_48 (fun H locs hP hD hS => ?_)
        obtain rfl := Option.some.inj hR
        exact kk_ret_i hC hr hlocks hK hP hD hS dX5_ifMoved_51 rfl
      · replace hR := (if_neg c8).symm.trans hR
        refine lv_aload_n hx hb dX5_ifMoved_36 rfl (lv_at hl 0 rfl) ?_
        refine lv_iload_n hx hb dX5_ifMoved_37 rfl (lv_at hl 1 rfl) ?_
        refine lv_iload_n hx hb dX5_ifMoved_38 rfl (lv_at hl 2 rfl) ?_
        refine lv_iload_n hx hb dX5_ifMoved_39 rfl (lv_at hl 3 rfl) ?_
        obtain ⟨x10, hq10, hR⟩ := kk_bd_el hR
        refine kk_call_Vi (w' := (w_M g a x10.2)) (As := [.int v1, .int v2, .int v3]) (rest := []) 0 5 hC (sX5_byMoving l g n a M1 v1 v2 v3 x10 hq10) (cwV 3 hts gX5_ifMoved_X5_byMoving rfl rfl rfl (by decide +kernel) ⟨Nat.le_of_ble_eq_true rfl, Nat.le_of_ble_eq_true rfl⟩) hK hP hD hS hA [0, 1, 2, 3, 4, 5, 6] rfl (by decide +kernel) rfl rfl rfl rfl rfl rfl rfl hl.1 (Nat.le_of_ble_eq_true rfl) dX5_ifMoved_40 (fun H locs hP hD hS => ?_)
        refine lv_goto (tgt := 51) hx hb dX5_ifMoved_43 (by decide) ?_
        obtain rfl := Option.some.inj hR
        exact kk_ret_i hC hr hlocks hK hP hD hS dX5_ifMoved_51 rfl
    · replace hR := (if_pos c6).symm.trans hR
      refine lv_aload_n hx hb dX5_ifMoved_21 rfl (lv_at hl 0 rfl) ?_
      refine lv_iconst (v := (1 : Int32)) hx hb dX5_ifMoved_22 (by decide) ?_
      obtain ⟨x11, hq11, hR⟩ := kk_bd_el hR
      refine kk_call_Vi (w' := (w_M g a x11.2)) (As := [.int (1 : Int32)]) (rest := []) 0 5 hC (sX5_fails l g n a M1 (1 : Int32) x11 hq11) (cwV 1 hts gX5_ifMoved_X5_fails rfl rfl rfl (by decide +kernel) ⟨Nat.le_of_ble_eq_true rfl, Nat.le_of_ble_eq_true rfl⟩) hK hP hD hS hA [0, 1, 2, 3, 4, 5, 6] rfl (by decide +kernel) rfl rfl rfl rfl rfl rfl rfl hl.1 (Nat.le_of_ble_eq_true rfl) dX5_ifMoved_23 (fun H locs hP hD hS => ?_)
      obtain rfl := Option.some.inj hR
      exact kk_ret_i hC hr hlocks hK hP hD hS dX5_ifMoved_26 rfl
set_option maxHeartbeats 8000000 in
set_option maxRecDepth 100000 in
theorem sX5_best (l : Launch) (g : kG) (n : Nat) (a : Nat → Nat) (M : St1) (v1 : Int32) (r : Int32 × St1) (hR : fX5_best n M v1 = some r) : kSp l g yX5_best wsX5_best ({ frames := 6, cells := 0, slots := 0, locals := 140 }) [.ref (a 0), .int v1] (w_M g a M) (kQi g (w_M g a r.2) r.1) := by
  refine kSp.of (cc := cX5_best) (maxL := 6) (ret := (some .int)) (by decide) rfl (Nat.le_of_ble_eq_true rfl) ?_
  intro p e s m args below meth c ls A hC hr hlocks hA hK hl hP hD hS
  replace hC : CallFix p m c cX5_best 6 s args wsX5_best RX5 := hC
  obtain ⟨hx, hb, hml, hown, hts⟩ := id hC
  replace hl : lv_has ls 6 [(0, .ref (a 0)), (1, .int v1)] := hl
  unfold fX5_best at hR
  have hw5 : ∀ w ∈ wsX50, w ∈ wsX5_best := by decide +kernel
  have hl0 := hts (.fieldLink RX5 7 "FloatOrderModel" "now" "[I") (by decide +kernel)
  have hl1 := hts (.constant RX5 166 100000) (by decide +kernel)
  refine lv_iconst (v := (-1 : Int32)) hx hb dX5_best_0 (by decide) ?_
  refine lv_istore_n (lv' := [(2, .int (-1 : Int32)), (0, .ref (a 0)), (1, .int v1)]) hx hb dX5_best_1 rfl hl (by decide) rfl (fun ls hl => ?_)
  refine lv_iconst (v := (0 : Int32)) hx hb dX5_best_2 (by decide) ?_
  refine lv_istore_n (lv' := [(3, .int (0 : Int32)), (2, .int (-1 : Int32)), (0, .ref (a 0)), (1, .int v1)]) hx hb dX5_best_3 rfl hl (by decide) rfl (fun ls hl => ?_)
  refine lv_iconst (v := (0 : Int32)) hx hb dX5_best_4 (by decide) ?_
  refine lv_istore (lv' := [(4, .int (0 : Int32)), (3, .int (0 : Int32)), (2, .int (-1 : Int32)), (0, .ref (a 0)), (1, .int v1)]) hx hb dX5_best_5 hl (by decide) rfl (fun ls hl => ?_)
  obtain ⟨x19, hq19, hR⟩ := kk_bd_el hR
  refine kk_cut (g := g) (A := A) (w' := (w_M g a x19.2)) (nL := 6) (lv := [(2, .int x19.1)]) (pcJ := 77) (st := []) (fun H locs ls hP hD hS hl => ?_) (fun hj19 => ?_)
  · refine lv_iload_n hx hb dX5_best_77 rfl (lv_at hl 0 rfl) ?_
    obtain rfl := Option.some.inj hR
    exact kk_ret_i hC hr hlocks hK hP hD hS dX5_best_78 rfl
  refine kk_loop (g := g) (A := A) (fun (st : Int32 × Int32 × Int32 × St1) => (w_M g a st.2.2.2)) (fun (st : Int32 × Int32 × Int32 × St1) => [(4, .int st.2.2.1), (3, .int st.2.1), (2, .int st.1), (0, .ref (a 0)), (1, .int v1)]) 7 (nL := 6) hq19 (fun st xb18 hR ih1 hX1 => ?_) hP hD hS (lv_sub hl [0, 1, 2, 3, 4] rfl)
  clear hP hD hS hl
  obtain ⟨u14, u15, u16, M17⟩ := st
  intro H locs ls hP hD hS hl
  replace hR : fX5_best_b7 n v1 u14 u15 u16 M17 = some xb18 := hR
  replace hP : va_P g.1 vwCl (w_M g a M17) H := hP
  replace hD : va_D A (w_M g a M17) := hD
  replace hl : lv_has ls 6 [(4, .int u16), (3, .int u15), (2, .int u14), (0, .ref (a 0)), (1, .int v1)] := hl
  unfold fX5_best_b7 at hR
  refine lv_iload hx hb dX5_best_7 (lv_at hl 0 rfl) ?_
  refine lv_aload_n hx hb dX5_best_9 rfl (lv_at hl 3 rfl) ?_
  refine va_get (ci := 5) (C := RX5) (T := TX5) (N := 12) hx hb hts hw5 hown hK hP 0 rfl rfl 0 (by decide) hl0 (fun _ h9 => h9) rfl dX5_best_10 ?_
  refine lv_iconst (v := (4 : Int32)) hx hb dX5_best_13 (by decide) ?_
  refine va_iald hx hb hK hP 1 0 rfl rfl (kk_in 4 62 (by decide) (by decide) rfl) dX5_best_14 ?_
  refine lv_icmp_ge (tgt := 77) hx hb dX5_best_15 (by decide) (fun c20 => ?_) (fun c20 => ?_)
  · replace hR := (if_pos c20).symm.trans hR
    obtain rfl := Option.some.inj hR
    obtain rfl := hX1 _ rfl
    exact hj19 _ _ _ hP hD hS (lv_sub hl [2] rfl)
  · replace hR := (if_neg c20).symm.trans hR
    refine lv_ldc (v := (100000 : Int32)) hx hb hown hl1 dX5_best_18 ?_
    refine lv_aload_n hx hb dX5_best_20 rfl (lv_at hl 3 rfl) ?_
    refine lv_iload_n hx hb dX5_best_21 rfl (lv_at hl 4 rfl) ?_
    refine lv_iload hx hb dX5_best_22 (lv_at hl 0 rfl) ?_
    refine lv_iconst (v := (0 : Int32)) hx hb dX5_best_24 (by decide) ?_
    obtain ⟨x21, hq21, hR⟩ := kk_bd_el hR
    refine kk_call_Vi (w' := (w_M g a x21.2)) (As := [.int v1, .int u16, .int (0 : Int32)]) (rest := [.int (100000 : Int32)]) 0 5 hC (sX5_byMoving l g n a M17 v1 u16 (0 : Int32) x21 hq21) (cwV 3 hts gX5_best_X5_byMoving rfl rfl rfl (by decide +kernel) ⟨Nat.le_of_ble_eq_true rfl, Nat.le_of_ble_eq_true rfl⟩) hK hP hD hS hA [0, 1, 2, 3, 4, 5, 6] rfl (by decide +kernel) rfl rfl rfl rfl rfl rfl rfl hl.1 (Nat.le_of_ble_eq_true rfl) dX5_best_25 (fun H locs hP hD hS => ?_)
    refine lv_imul hx hb dX5_best_28 ?_
    refine lv_aload_n hx hb dX5_best_29 rfl (lv_at hl 3 rfl) ?_
    refine lv_iload_n hx hb dX5_best_30 rfl (lv_at hl 4 rfl) ?_
    refine lv_iload hx hb dX5_best_31 (lv_at hl 0 rfl) ?_
    refine lv_iconst (v := (1 : Int32)) hx hb dX5_best_33 (by decide) ?_
    obtain ⟨x22, hq22, hR⟩ := kk_bd_el hR
    refine kk_call_Vi (w' := (w_M g a x22.2)) (As := [.int v1, .int u16, .int (1 : Int32)]) (rest := [.int ((100000 : Int32) * x21.1)]) 0 5 hC (sX5_byMoving l g n a x21.2 v1 u16 (1 : Int32) x22 hq22) (cwV 3 hts gX5_best_X5_byMoving rfl rfl rfl (by decide +kernel) ⟨Nat.le_of_ble_eq_true rfl, Nat.le_of_ble_eq_true rfl⟩) hK hP hD hS hA [0, 1, 2, 3, 4, 5, 6] rfl (by decide +kernel) rfl rfl rfl rfl rfl rfl rfl hl.1 (Nat.le_of_ble_eq_true rfl) dX5_best_34 (fun H locs hP hD hS => ?_)
    refine lv_iadd hx hb dX5_best_37 ?_
    refine lv_istore (lv' := [(5, .int (((100000 : Int32) * x21.1) + x22.1)), (4, .int u16), (3, .int u15), (2, .int u14), (0, .ref (a 0)), (1, .int v1)]) hx hb dX5_best_38 hl (by decide) rfl (fun ls hl => ?_)
    refine lv_iload_n hx hb dX5_best_40 rfl (lv_at hl 3 rfl) ?_
    refine lv_iconst (v := (-1 : Int32)) hx hb dX5_best_41 (by decide) ?_
    obtain ⟨x25, hq25, hR⟩ := kk_bd_el hR
    refine kk_cut (g := g) (A := A) (w' := (w_M g a x22.2)) (nL := 6) (lv := [(5, .int (((100000 : Int32) * x21.1) + x22.1)), (4, .int u16), (3, .int u15), (0, .ref (a 0)), (1, .int v1)]) (pcJ := 57) (st := [.int x25]) (fun H locs ls hP hD hS hl => ?_) (fun hj25 => ?_)
    · refine lv_istore_n (lv' := [(2, .int x25), (5, .int (((100000 : Int32) * x21.1) + x22.1)), (4, .int u16), (3, .int u15), (0, .ref (a 0)), (1, .int v1)]) hx hb dX5_best_57 rfl hl (by decide) rfl (fun ls hl => ?_)
      refine lv_iload_n hx hb dX5_best_58 rfl (lv_at hl 0 rfl) ?_
      refine lv_iload hx hb dX5_best_59 (lv_at hl 2 rfl) ?_
      refine lv_icmp_ne (tgt := 69) hx hb dX5_best_61 (by decide) (fun c28 => ?_) (fun c28 => ?_)
      · replace hR := (if_neg c28).symm.trans hR
        refine lv_iload_n hx hb dX5_best_69 rfl (lv_at hl 3 rfl) ?_
        refine lv_istore_n (lv' := [(3, .int u15), (2, .int x25), (5, .int (((100000 : Int32) * x21.1) + x22.1)), (4, .int u16), (0, .ref (a 0)), (1, .int v1)]) hx hb dX5_best_70 rfl hl (by decide) rfl (fun ls hl => ?_)
        refine lv_iinc (v := (u16 + (1 : Int32))) (lv' := [(4, .int (u16 + (1 : Int32))), (3, .int u15), (2, .int x25), (5, .int (((100000 : Int32) * x21.1) + x22.1)), (0, .ref (a 0)), (1, .int v1)]) hx hb dX5_best_71 hl (k := 3) rfl rfl (by decide) rfl (fun ls hl => ?_)
        refine lv_goto (tgt := 7) hx hb dX5_best_74 (by decide) ?_
        obtain rfl := Option.some.inj hR
        exact ih1 _ rfl _ _ _ hP hD hS (lv_sub hl [0, 1, 2, 4, 5] rfl)
      · replace hR := (if_pos c28).symm.trans hR
        refine lv_iload hx hb dX5_best_64 (lv_at hl 1 rfl) ?_
        refine lv_goto (tgt := 70) hx hb dX5_best_66 (by decide) ?_
        refine lv_istore_n (lv' := [(3, .int (((100000 : Int32) * x21.1) + x22.1)), (2, .int x25), (5, .int (((100000 : Int32) * x21.1) + x22.1)), (4, .int u16), (0, .ref (a 0)), (1, .int v1)]) hx hb dX5_best_70 rfl hl (by decide) rfl (fun ls hl => ?_)
        refine lv_iinc (v := (u16 + (1 : Int32))) (lv' := [(4, .int (u16 + (1 : Int32))), (3, .int (((100000 : Int32) * x21.1) + x22.1)), (2, .int x25), (5, .int (((100000 : Int32) * x21.1) + x22.1)), (0, .ref (a 0)), (1, .int v1)]) hx hb dX5_best_71 hl (k := 3) rfl rfl (by decide) rfl (fun ls hl => ?_)
        refine lv_goto (tgt := 7) hx hb dX5_best_74 (by decide) ?_
        obtain rfl := Option.some.inj hR
        exact ih1 _ rfl _ _ _ hP hD hS (lv_sub hl [0, 1, 2, 4, 5] rfl)
    replace hR := hq25
    refine lv_icmp_eq (tgt := 51) hx hb dX5_best_42 (by decide) (fun c26 => ?_) (fun c26 => ?_)
    · replace hR := (if_pos c26).symm.trans hR
      refine lv_iload hx hb dX5_best_51 (lv_at hl 1 rfl) ?_
      refine lv_goto (tgt := 57) hx hb dX5_best_53 (by decide) ?_
      obtain rfl := Option.some.inj hR
      exact hj25 _ _ _ hP hD hS (lv_sub hl [0, 1, 2, 4, 5] rfl)
    · replace hR := (if_neg c26).symm.trans hR
      refine lv_iload hx hb dX5_best_45 (lv_at hl 0 rfl) ?_
      refine lv_iload_n hx hb dX5_best_47 rfl (lv_at hl 2 rfl) ?_
      refine lv_icmp_ge (tgt := 56) hx hb dX5_best_48 (by decide) (fun c27 => ?_) (fun c27 => ?_)
      · replace hR := (if_pos c27).symm.trans hR
        refine lv_iload_n hx hb dX5_best_56 rfl (lv_at hl 3 rfl) ?_
        obtain rfl := Option.some.inj hR
        exact hj25 _ _ _ hP hD hS (lv_sub hl [0, 1, 2, 4, 5] rfl)
      · replace hR := (if_neg c27).symm.trans hR
        refine lv_iload hx hb dX5_best_51 (lv_at hl 1 rfl) ?_
        refine lv_goto (tgt := 57) hx hb dX5_best_53 (by decide) ?_
        obtain rfl := Option.some.inj hR
        exact hj25 _ _ _ hP hD hS (lv_sub hl [0, 1, 2, 4, 5] rfl)
set_option maxHeartbeats 8000000 in
set_option maxRecDepth 100000 in
theorem sX5_bestPlace (l : Launch) (g : kG) (n : Nat) (a : Nat → Nat) (M : St1) (v1 : Int32) (r : Int32 × St1) (hR : fX5_bestPlace n M v1 = some r) : kSp l g yX5_bestPlace wsX5_bestPlace ({ frames := 7, cells := 0, slots := 0, locals := 165 }) [.ref (a 0), .int v1] (w_M g a M) (kQi g (w_M g a r.2) r.1) := by
  refine kSp.of (cc := cX5_bestPlace) (maxL := 2) (ret := (some .int)) (by decide) rfl (Nat.le_of_ble_eq_true rfl) ?_
  intro p e s m args below meth c ls A hC hr hlocks hA hK hl hP hD hS
  replace hC : CallFix p m c cX5_bestPlace 2 s args wsX5_bestPlace RX5 := hC
  obtain ⟨hx, hb, hml, hown, hts⟩ := id hC
  replace hl : lv_has ls 2 [(0, .ref (a 0)), (1, .int v1)] := hl
  unfold fX5_bestPlace at hR
  have hw5 : ∀ w ∈ wsX50, w ∈ wsX5_bestPlace := by decide +kernel
  have hl0 := hts (.fieldLink RX5 28 "FloatOrderModel" "thrown" "I") (by decide +kernel)
  refine lv_aload_n hx hb dX5_bestPlace_0 rfl (lv_at hl 0 rfl) ?_
  refine lv_iconst (v := (0 : Int32)) hx hb dX5_bestPlace_1 (by decide) ?_
  obtain ⟨M1, eM1, hR⟩ := kk_nm_el hR
  refine kk_put (w' := (w_M g a M1)) (ci := 5) (C := RX5) (T := TX5) (N := 12) (ty := .int) (v := .int (0 : Int32)) hC hw5 tyX5 tyX5_ok nmX5 hK hP hD hS 0 rfl rfl 6 (by decide) hl0 rfl (by decide +kernel) rfl rfl (Nat.le_of_ble_eq_true rfl) (by rw [eM1]; rfl) dX5_bestPlace_2 rfl (fun H locs hP hD hS => ?_)
  refine lv_aload_n hx hb dX5_bestPlace_5 rfl (lv_at hl 0 rfl) ?_
  refine lv_iload_n hx hb dX5_bestPlace_6 rfl (lv_at hl 1 rfl) ?_
  obtain ⟨x2, hq2, hR⟩ := kk_bd_el hR
  refine kk_call_Vi (w' := (w_M g a M1)) (As := [.int v1]) (rest := []) 0 5 hC (sX5_isFloat l g n a M1 v1 x2 hq2) (cwV 1 hts gX5_bestPlace_X5_isFloat rfl rfl rfl (by decide +kernel) ⟨Nat.le_of_ble_eq_true rfl, Nat.le_of_ble_eq_true rfl⟩) hK hP hD hS hA [0, 1, 2, 3, 4, 5, 6] rfl (by decide +kernel) rfl rfl rfl rfl rfl rfl rfl hl.1 (Nat.le_of_ble_eq_true rfl) dX5_bestPlace_7 (fun H locs hP hD hS => ?_)
  refine lv_if_eq (tgt := 21) hx hb dX5_bestPlace_10 (by decide) (fun c3 => ?_) (fun c3 => ?_)
  · replace hR := (if_pos c3).symm.trans hR
    refine lv_aload_n hx hb dX5_bestPlace_21 rfl (lv_at hl 0 rfl) ?_
    refine lv_iconst (v := (1 : Int32)) hx hb dX5_bestPlace_22 (by decide) ?_
    obtain ⟨x4, hq4, hR⟩ := kk_bd_el hR
    refine kk_call_Vi (w' := (w_M g a x4.2)) (As := [.int (1 : Int32)]) (rest := []) 0 5 hC (sX5_fails l g n a M1 (1 : Int32) x4 hq4) (cwV 1 hts gX5_bestPlace_X5_fails rfl rfl rfl (by decide +kernel) ⟨Nat.le_of_ble_eq_true rfl, Nat.le_of_ble_eq_true rfl⟩) hK hP hD hS hA [0, 1, 2, 3, 4, 5, 6] rfl (by decide +kernel) rfl rfl rfl rfl rfl rfl rfl hl.1 (Nat.le_of_ble_eq_true rfl) dX5_bestPlace_23 (fun H locs hP hD hS => ?_)
    obtain rfl := Option.some.inj hR
    exact kk_ret_i hC hr hlocks hK hP hD hS dX5_bestPlace_26 rfl
  · replace hR := (if_neg c3).symm.trans hR
    refine lv_aload_n hx hb dX5_bestPlace_13 rfl (lv_at hl 0 rfl) ?_
    refine lv_iload_n hx hb dX5_bestPlace_14 rfl (lv_at hl 1 rfl) ?_
    obtain ⟨x5, hq5, hR⟩ := kk_bd_el hR
    refine kk_call_Vi (w' := (w_M g a x5.2)) (As := [.int v1]) (rest := []) 0 5 hC (sX5_best l g n a M1 v1 x5 hq5) (cwV 1 hts gX5_bestPlace_X5_best rfl rfl rfl (by decide +kernel) ⟨Nat.le_of_ble_eq_true rfl, Nat.le_of_ble_eq_true rfl⟩) hK hP hD hS hA [0, 1, 2, 3, 4, 5, 6] rfl (by decide +kernel) rfl rfl rfl rfl rfl rfl rfl hl.1 (Nat.le_of_ble_eq_true rfl) dX5_bestPlace_15 (fun H locs hP hD hS => ?_)
    refine lv_goto (tgt := 26) hx hb dX5_bestPlace_18 (by decide) ?_
    obtain rfl := Option.some.inj hR
    exact kk_ret_i hC hr hlocks hK hP hD hS dX5_bestPlace_26 rfl
set_option maxHeartbeats 8000000 in
set_option maxRecDepth 100000 in
theorem sX5_folding (l : Launch) (g : kG) (n : Nat) (a : Nat → Nat) (M : St1) (r : Int32 × St1) (hR : fX5_folding n M = some r) : kSp l g yX5_folding wsX5_folding ({ frames := 5, cells := 0, slots := 0, locals := 117 }) [.ref (a 0)] (w_M g a M) (kQi g (w_M g a r.2) r.1) := by
  refine kSp.of (cc := cX5_folding) (maxL := 5) (ret := (some .int)) (by decide) rfl (Nat.le_of_ble_eq_true rfl) ?_
  intro p e s m args below meth c ls A hC hr hlocks hA hK hl hP hD hS
  replace hC : CallFix p m c cX5_folding 5 s args wsX5_folding RX5 := hC
  obtain ⟨hx, hb, hml, hown, hts⟩ := id hC
  replace hl : lv_has ls 5 [(0, .ref (a 0))] := hl
  unfold fX5_folding at hR
  have hw5 : ∀ w ∈ wsX50, w ∈ wsX5_folding := by decide +kernel
  have hl0 := hts (.fieldLink RX5 7 "FloatOrderModel" "now" "[I") (by decide +kernel)
  have hl1 := hts (.fieldLink RX5 13 "FloatOrderModel" "then" "[I") (by decide +kernel)
  refine lv_iconst (v := (-1 : Int32)) hx hb dX5_folding_0 (by decide) ?_
  refine lv_istore_n (lv' := [(1, .int (-1 : Int32)), (0, .ref (a 0))]) hx hb dX5_folding_1 rfl hl (by decide) rfl (fun ls hl => ?_)
  refine lv_iconst (v := (0 : Int32)) hx hb dX5_folding_2 (by decide) ?_
  refine lv_istore_n (lv' := [(2, .int (0 : Int32)), (1, .int (-1 : Int32)), (0, .ref (a 0))]) hx hb dX5_folding_3 rfl hl (by decide) rfl (fun ls hl => ?_)
  refine lv_iconst (v := (0 : Int32)) hx hb dX5_folding_4 (by decide) ?_
  refine lv_istore_n (lv' := [(3, .int (0 : Int32)), (2, .int (0 : Int32)), (1, .int (-1 : Int32)), (0, .ref (a 0))]) hx hb dX5_folding_5 rfl hl (by decide) rfl (fun ls hl => ?_)
  obtain ⟨x24, hq24, hR⟩ := kk_bd_el hR
  refine kk_cut (g := g) (A := A) (w' := (w_M g a x24.2)) (nL := 5) (lv := [(1, .int x24.1)]) (pcJ := 100) (st := []) (fun H locs ls hP hD hS hl => ?_) (fun hj24 => ?_)
  · refine lv_iload_n hx hb dX5_folding_100 rfl (lv_at hl 0 rfl) ?_
    obtain rfl := Option.some.inj hR
    exact kk_ret_i hC hr hlocks hK hP hD hS dX5_folding_101 rfl
  refine kk_loop (g := g) (A := A) (fun (st : Int32 × Int32 × Int32 × St1) => (w_M g a st.2.2.2)) (fun (st : Int32 × Int32 × Int32 × St1) => [(3, .int st.2.2.1), (2, .int st.2.1), (1, .int st.1), (0, .ref (a 0))]) 6 (nL := 5) hq24 (fun st xb23 hR ih1 hX1 => ?_) hP hD hS (lv_sub hl [0, 1, 2, 3] rfl)
  clear hP hD hS hl
  obtain ⟨u19, u20, u21, M22⟩ := st
  intro H locs ls hP hD hS hl
  replace hR : fX5_folding_b6 n u19 u20 u21 M22 = some xb23 := hR
  replace hP : va_P g.1 vwCl (w_M g a M22) H := hP
  replace hD : va_D A (w_M g a M22) := hD
  replace hl : lv_has ls 5 [(3, .int u21), (2, .int u20), (1, .int u19), (0, .ref (a 0))] := hl
  unfold fX5_folding_b6 at hR
  refine lv_iload_n hx hb dX5_folding_6 rfl (lv_at hl 0 rfl) ?_
  refine lv_aload_n hx hb dX5_folding_7 rfl (lv_at hl 3 rfl) ?_
  refine va_get (ci := 5) (C := RX5) (T := TX5) (N := 12) hx hb hts hw5 hown hK hP 0 rfl rfl 0 (by decide) hl0 (fun _ h9 => h9) rfl dX5_folding_8 ?_
  refine lv_iconst (v := (4 : Int32)) hx hb dX5_folding_11 (by decide) ?_
  refine va_iald hx hb hK hP 1 0 rfl rfl (kk_in 4 62 (by decide) (by decide) rfl) dX5_folding_12 ?_
  refine lv_icmp_ge (tgt := 100) hx hb dX5_folding_13 (by decide) (fun c25 => ?_) (fun c25 => ?_)
  · replace hR := (if_pos c25).symm.trans hR
    obtain rfl := Option.some.inj hR
    obtain rfl := hX1 _ rfl
    exact hj24 _ _ _ hP hD hS (lv_sub hl [2] rfl)
  · replace hR := (if_neg c25).symm.trans hR
    refine lv_aload_n hx hb dX5_folding_16 rfl (lv_at hl 3 rfl) ?_
    refine va_get (ci := 5) (C := RX5) (T := TX5) (N := 12) hx hb hts hw5 hown hK hP 0 rfl rfl 0 (by decide) hl0 (fun _ h9 => h9) rfl dX5_folding_17 ?_
    refine lv_iload_n hx hb dX5_folding_20 rfl (lv_at hl 0 rfl) ?_
    refine lv_iconst (v := (3 : Int32)) hx hb dX5_folding_21 (by decide) ?_
    obtain ⟨x26, hq26, hR⟩ := kk_bd_el hR
    refine kk_call_Si (w' := (w_M g a M22)) (As := [.ref (a 1), .int u21, .int (3 : Int32)]) (rest := []) hC (sX5_of l g n (a 1) (M22 0) u21 (3 : Int32) x26 hq26) (va_cwS 3 hts gX5_folding_X5_of rfl rfl rfl (by decide +kernel) ⟨Nat.le_of_ble_eq_true rfl, Nat.le_of_ble_eq_true rfl⟩) hK hP hD hS hA [1] rfl (by decide +kernel) rfl rfl rfl rfl hl.1 (Nat.le_of_ble_eq_true rfl) dX5_folding_22 (fun H locs hP hD hS => ?_)
    refine lv_if_ne (tgt := 94) hx hb dX5_folding_25 (by decide) (fun c27 => ?_) (fun c27 => ?_)
    · replace hR := (if_neg c27).symm.trans hR
      refine lv_iinc (v := (u21 + (1 : Int32))) (lv' := [(3, .int (u21 + (1 : Int32))), (2, .int u20), (1, .int u19), (0, .ref (a 0))]) hx hb dX5_folding_94 hl (k := 0) rfl rfl (by decide) rfl (fun ls hl => ?_)
      refine lv_goto (tgt := 6) hx hb dX5_folding_97 (by decide) ?_
      obtain rfl := Option.some.inj hR
      exact ih1 _ rfl _ _ _ hP hD hS (lv_sub hl [0, 1, 2, 3] rfl)
    · replace hR := (if_pos c27).symm.trans hR
      refine lv_aload_n hx hb dX5_folding_28 rfl (lv_at hl 3 rfl) ?_
      refine va_get (ci := 5) (C := RX5) (T := TX5) (N := 12) hx hb hts hw5 hown hK hP 0 rfl rfl 0 (by decide) hl0 (fun _ h9 => h9) rfl dX5_folding_29 ?_
      refine lv_iconst (v := (0 : Int32)) hx hb dX5_folding_32 (by decide) ?_
      refine lv_aload_n hx hb dX5_folding_33 rfl (lv_at hl 3 rfl) ?_
      refine va_get (ci := 5) (C := RX5) (T := TX5) (N := 12) hx hb hts hw5 hown hK hP 0 rfl rfl 1 (by decide) hl1 (fun _ h9 => h9) rfl dX5_folding_34 ?_
      refine lv_iconst (v := (0 : Int32)) hx hb dX5_folding_37 (by decide) ?_
      obtain ⟨x28, hq28, hR⟩ := kk_bd_el hR
      obtain ⟨M29, eM29, hR⟩ := kk_nm_el hR
      refine kk_call_Sv (w' := (w_M g a M29)) (As := [.ref (a 1), .int (0 : Int32), .ref (a 2), .int (0 : Int32)]) (rest := []) hC (sX5_copies l g n (a 1) 62 (a 2) 62 (M22 0) (M22 1) (0 : Int32) (0 : Int32) x28 hq28) (va_cwS 4 hts gX5_folding_X5_copies rfl rfl rfl (by decide +kernel) ⟨Nat.le_of_ble_eq_true rfl, Nat.le_of_ble_eq_true rfl⟩) hK hP hD hS hA [1, 2] rfl (by decide +kernel) rfl (by rw [eM29]; rfl) rfl rfl hl.1 (Nat.le_of_ble_eq_true rfl) dX5_folding_38 (fun H locs hP hD hS => ?_)
      refine lv_aload_n hx hb dX5_folding_41 rfl (lv_at hl 3 rfl) ?_
      refine va_get (ci := 5) (C := RX5) (T := TX5) (N := 12) hx hb hts hw5 hown hK hP 0 rfl rfl 1 (by decide) hl1 (fun _ h9 => h9) rfl dX5_folding_42 ?_
      refine lv_bipush (v := (14 : Int32)) hx hb dX5_folding_45 (by decide) ?_
      refine lv_iconst (v := (4 : Int32)) hx hb dX5_folding_47 (by decide) ?_
      refine lv_iload_n hx hb dX5_folding_48 rfl (lv_at hl 0 rfl) ?_
      refine lv_imul hx hb dX5_folding_49 ?_
      refine lv_iadd hx hb dX5_folding_50 ?_
      refine lv_iconst (v := (3 : Int32)) hx hb dX5_folding_51 (by decide) ?_
      refine lv_iadd hx hb dX5_folding_52 ?_
      refine lv_iconst (v := (1 : Int32)) hx hb dX5_folding_53 (by decide) ?_
      obtain ⟨hi31, hR⟩ := kk_ck_el hR
      obtain ⟨M30, eM30, hR⟩ := kk_nm_el hR
      refine kk_iast (w' := (w_M g a M30)) hC hK hP hD hS 2 rfl hi31 (by rw [eM30]; rfl) dX5_folding_54 (fun H locs hP hD hS => ?_)
      refine lv_aload_n hx hb dX5_folding_55 rfl (lv_at hl 3 rfl) ?_
      refine lv_aload_n hx hb dX5_folding_56 rfl (lv_at hl 3 rfl) ?_
      refine va_get (ci := 5) (C := RX5) (T := TX5) (N := 12) hx hb hts hw5 hown hK hP 0 rfl rfl 1 (by decide) hl1 (fun _ h9 => h9) rfl dX5_folding_57 ?_
      obtain ⟨x32, hq32, hR⟩ := kk_bd_el hR
      refine kk_call_Vi (w' := (w_M g a x32.2)) (As := [.ref (a 2)]) (rest := []) 0 5 hC (sX5_endsT l g n a M30  x32 hq32) (cwV 1 hts gX5_folding_X5_ends rfl rfl rfl (by decide +kernel) ⟨Nat.le_of_ble_eq_true rfl, Nat.le_of_ble_eq_true rfl⟩) hK hP hD hS hA [0, 1, 2, 3, 4, 5, 6] rfl (by decide +kernel) rfl rfl rfl rfl rfl rfl rfl hl.1 (Nat.le_of_ble_eq_true rfl) dX5_folding_60 (fun H locs hP hD hS => ?_)
      refine lv_istore (lv' := [(4, .int x32.1), (3, .int u21), (2, .int u20), (1, .int u19), (0, .ref (a 0))]) hx hb dX5_folding_63 hl (by decide) rfl (fun ls hl => ?_)
      refine lv_iload_n hx hb dX5_folding_65 rfl (lv_at hl 3 rfl) ?_
      refine lv_iconst (v := (-1 : Int32)) hx hb dX5_folding_66 (by decide) ?_
      obtain ⟨x35, hq35, hR⟩ := kk_bd_el hR
      refine kk_cut (g := g) (A := A) (w' := (w_M g a x32.2)) (nL := 5) (lv := [(4, .int x32.1), (3, .int u21), (2, .int u20), (0, .ref (a 0))]) (pcJ := 81) (st := [.int x35]) (fun H locs ls hP hD hS hl => ?_) (fun hj35 => ?_)
      · refine lv_istore_n (lv' := [(1, .int x35), (4, .int x32.1), (3, .int u21), (2, .int u20), (0, .ref (a 0))]) hx hb dX5_folding_81 rfl hl (by decide) rfl (fun ls hl => ?_)
        refine lv_iload_n hx hb dX5_folding_82 rfl (lv_at hl 0 rfl) ?_
        refine lv_iload_n hx hb dX5_folding_83 rfl (lv_at hl 2 rfl) ?_
        refine lv_icmp_ne (tgt := 92) hx hb dX5_folding_84 (by decide) (fun c38 => ?_) (fun c38 => ?_)
        · replace hR := (if_neg c38).symm.trans hR
          refine lv_iload_n hx hb dX5_folding_92 rfl (lv_at hl 3 rfl) ?_
          refine lv_istore_n (lv' := [(2, .int u20), (1, .int x35), (4, .int x32.1), (3, .int u21), (0, .ref (a 0))]) hx hb dX5_folding_93 rfl hl (by decide) rfl (fun ls hl => ?_)
          refine lv_iinc (v := (u21 + (1 : Int32))) (lv' := [(3, .int (u21 + (1 : Int32))), (2, .int u20), (1, .int x35), (4, .int x32.1), (0, .ref (a 0))]) hx hb dX5_folding_94 hl (k := 3) rfl rfl (by decide) rfl (fun ls hl => ?_)
          refine lv_goto (tgt := 6) hx hb dX5_folding_97 (by decide) ?_
          obtain rfl := Option.some.inj hR
          exact ih1 _ rfl _ _ _ hP hD hS (lv_sub hl [0, 1, 2, 4] rfl)
        · replace hR := (if_pos c38).symm.trans hR
          refine lv_iload hx hb dX5_folding_87 (lv_at hl 1 rfl) ?_
          refine lv_goto (tgt := 93) hx hb dX5_folding_89 (by decide) ?_
          refine lv_istore_n (lv' := [(2, .int x32.1), (1, .int x35), (4, .int x32.1), (3, .int u21), (0, .ref (a 0))]) hx hb dX5_folding_93 rfl hl (by decide) rfl (fun ls hl => ?_)
          refine lv_iinc (v := (u21 + (1 : Int32))) (lv' := [(3, .int (u21 + (1 : Int32))), (2, .int x32.1), (1, .int x35), (4, .int x32.1), (0, .ref (a 0))]) hx hb dX5_folding_94 hl (k := 3) rfl rfl (by decide) rfl (fun ls hl => ?_)
          refine lv_goto (tgt := 6) hx hb dX5_folding_97 (by decide) ?_
          obtain rfl := Option.some.inj hR
          exact ih1 _ rfl _ _ _ hP hD hS (lv_sub hl [0, 1, 2, 4] rfl)
      replace hR := hq35
      refine lv_icmp_eq (tgt := 76) hx hb dX5_folding_67 (by decide) (fun c36 => ?_) (fun c36 => ?_)
      · replace hR := (if_pos c36).symm.trans hR
        refine lv_iload_n hx hb dX5_folding_76 rfl (lv_at hl 1 rfl) ?_
        refine lv_goto (tgt := 81) hx hb dX5_folding_77 (by decide) ?_
        obtain rfl := Option.some.inj hR
        exact hj35 _ _ _ hP hD hS (lv_sub hl [0, 1, 2, 4] rfl)
      · replace hR := (if_neg c36).symm.trans hR
        refine lv_iload hx hb dX5_folding_70 (lv_at hl 0 rfl) ?_
        refine lv_iload_n hx hb dX5_folding_72 rfl (lv_at hl 2 rfl) ?_
        refine lv_icmp_ge (tgt := 80) hx hb dX5_folding_73 (by decide) (fun c37 => ?_) (fun c37 => ?_)
        · replace hR := (if_pos c37).symm.trans hR
          refine lv_iload_n hx hb dX5_folding_80 rfl (lv_at hl 3 rfl) ?_
          obtain rfl := Option.some.inj hR
          exact hj35 _ _ _ hP hD hS (lv_sub hl [0, 1, 2, 4] rfl)
        · replace hR := (if_neg c37).symm.trans hR
          refine lv_iload_n hx hb dX5_folding_76 rfl (lv_at hl 1 rfl) ?_
          refine lv_goto (tgt := 81) hx hb dX5_folding_77 (by decide) ?_
          obtain rfl := Option.some.inj hR
          exact hj35 _ _ _ hP hD hS (lv_sub hl [0, 1, 2, 4] rfl)
set_option maxHeartbeats 8000000 in
set_option maxRecDepth 100000 in
theorem sX5_bestFold (l : Launch) (g : kG) (n : Nat) (a : Nat → Nat) (M : St1) (r : Int32 × St1) (hR : fX5_bestFold n M = some r) : kSp l g yX5_bestFold wsX5_bestFold ({ frames := 6, cells := 0, slots := 0, locals := 141 }) [.ref (a 0)] (w_M g a M) (kQi g (w_M g a r.2) r.1) := by
  refine kSp.of (cc := cX5_bestFold) (maxL := 1) (ret := (some .int)) (by decide) rfl (Nat.le_of_ble_eq_true rfl) ?_
  intro p e s m args below meth c ls A hC hr hlocks hA hK hl hP hD hS
  replace hC : CallFix p m c cX5_bestFold 1 s args wsX5_bestFold RX5 := hC
  obtain ⟨hx, hb, hml, hown, hts⟩ := id hC
  replace hl : lv_has ls 1 [(0, .ref (a 0))] := hl
  unfold fX5_bestFold at hR
  have hw5 : ∀ w ∈ wsX50, w ∈ wsX5_bestFold := by decide +kernel
  have hl0 := hts (.fieldLink RX5 28 "FloatOrderModel" "thrown" "I") (by decide +kernel)
  refine lv_aload_n hx hb dX5_bestFold_0 rfl (lv_at hl 0 rfl) ?_
  refine lv_iconst (v := (0 : Int32)) hx hb dX5_bestFold_1 (by decide) ?_
  obtain ⟨M1, eM1, hR⟩ := kk_nm_el hR
  refine kk_put (w' := (w_M g a M1)) (ci := 5) (C := RX5) (T := TX5) (N := 12) (ty := .int) (v := .int (0 : Int32)) hC hw5 tyX5 tyX5_ok nmX5 hK hP hD hS 0 rfl rfl 6 (by decide) hl0 rfl (by decide +kernel) rfl rfl (Nat.le_of_ble_eq_true rfl) (by rw [eM1]; rfl) dX5_bestFold_2 rfl (fun H locs hP hD hS => ?_)
  refine lv_aload_n hx hb dX5_bestFold_5 rfl (lv_at hl 0 rfl) ?_
  obtain ⟨x2, hq2, hR⟩ := kk_bd_el hR
  refine kk_call_Vi (w' := (w_M g a x2.2)) (As := []) (rest := []) 0 5 hC (sX5_folding l g n a M1  x2 hq2) (cwV 0 hts gX5_bestFold_X5_folding rfl rfl rfl (by decide +kernel) ⟨Nat.le_of_ble_eq_true rfl, Nat.le_of_ble_eq_true rfl⟩) hK hP hD hS hA [0, 1, 2, 3, 4, 5, 6] rfl (by decide +kernel) rfl rfl rfl rfl rfl rfl rfl hl.1 (Nat.le_of_ble_eq_true rfl) dX5_bestFold_6 (fun H locs hP hD hS => ?_)
  obtain rfl := Option.some.inj hR
  exact kk_ret_i hC hr hlocks hK hP hD hS dX5_bestFold_9 rfl
set_option maxHeartbeats 8000000 in
set_option maxRecDepth 100000 in
theorem sX5_orders (l : Launch) (g : kG) (n : Nat) (a : Nat → Nat) (M : St1) (v1 : Int32) (r : St1) (hR : fX5_orders n M v1 = some r) : kSp l g yX5_orders wsX5_orders ({ frames := 2, cells := 0, slots := 0, locals := 52 }) [.ref (a 0), .int v1] (w_M g a M) (kQv g (w_M g a r)) := by
  refine kSp.of (cc := cX5_orders) (maxL := 5) (ret := none) (by decide) rfl (Nat.le_of_ble_eq_true rfl) ?_
  intro p e s m args below meth c ls A hC hr hlocks hA hK hl hP hD hS
  replace hC : CallFix p m c cX5_orders 5 s args wsX5_orders RX5 := hC
  obtain ⟨hx, hb, hml, hown, hts⟩ := id hC
  replace hl : lv_has ls 5 [(0, .ref (a 0)), (1, .int v1)] := hl
  unfold fX5_orders at hR
  have hw5 : ∀ w ∈ wsX50, w ∈ wsX5_orders := by decide +kernel
  have hl0 := hts (.fieldLink RX5 7 "FloatOrderModel" "now" "[I") (by decide +kernel)
  have hl1 := hts (.fieldLink RX5 13 "FloatOrderModel" "then" "[I") (by decide +kernel)
  refine lv_aload_n hx hb dX5_orders_0 rfl (lv_at hl 0 rfl) ?_
  refine va_get (ci := 5) (C := RX5) (T := TX5) (N := 12) hx hb hts hw5 hown hK hP 0 rfl rfl 0 (by decide) hl0 (fun _ h9 => h9) rfl dX5_orders_1 ?_
  refine lv_iconst (v := (0 : Int32)) hx hb dX5_orders_4 (by decide) ?_
  refine lv_aload_n hx hb dX5_orders_5 rfl (lv_at hl 0 rfl) ?_
  refine va_get (ci := 5) (C := RX5) (T := TX5) (N := 12) hx hb hts hw5 hown hK hP 0 rfl rfl 1 (by decide) hl1 (fun _ h9 => h9) rfl dX5_orders_6 ?_
  refine lv_iconst (v := (0 : Int32)) hx hb dX5_orders_9 (by decide) ?_
  obtain ⟨x1, hq1, hR⟩ := kk_bd_el hR
  obtain ⟨M2, eM2, hR⟩ := kk_nm_el hR
  refine kk_call_Sv (w' := (w_M g a M2)) (As := [.ref (a 1), .int (0 : Int32), .ref (a 2), .int (0 : Int32)]) (rest := []) hC (sX5_copies l g n (a 1) 62 (a 2) 62 (M 0) (M 1) (0 : Int32) (0 : Int32) x1 hq1) (va_cwS 4 hts gX5_orders_X5_copies rfl rfl rfl (by decide +kernel) ⟨Nat.le_of_ble_eq_true rfl, Nat.le_of_ble_eq_true rfl⟩) hK hP hD hS hA [1, 2] rfl (by decide +kernel) rfl (by rw [eM2]; rfl) rfl rfl hl.1 (Nat.le_of_ble_eq_true rfl) dX5_orders_10 (fun H locs hP hD hS => ?_)
  refine lv_iload_n hx hb dX5_orders_13 rfl (lv_at hl 1 rfl) ?_
  refine lv_istore_n (lv' := [(2, .int v1), (0, .ref (a 0)), (1, .int v1)]) hx hb dX5_orders_14 rfl hl (by decide) rfl (fun ls hl => ?_)
  refine lv_iconst (v := (0 : Int32)) hx hb dX5_orders_15 (by decide) ?_
  refine lv_istore_n (lv' := [(3, .int (0 : Int32)), (2, .int v1), (0, .ref (a 0)), (1, .int v1)]) hx hb dX5_orders_16 rfl hl (by decide) rfl (fun ls hl => ?_)
  obtain ⟨x15, hq15, hR⟩ := kk_bd_el hR
  refine kk_cut (g := g) (A := A) (w' := (w_M g a x15)) (nL := 5) (lv := []) (pcJ := 62) (st := []) (fun H locs ls hP hD hS hl => ?_) (fun hj15 => ?_)
  · obtain rfl := Option.some.inj hR
    exact kk_ret_v hC hr hlocks hK hP hD hS dX5_orders_62
  refine kk_loop (g := g) (A := A) (fun (st : Int32 × Int32 × St1) => (w_M g a st.2.2)) (fun (st : Int32 × Int32 × St1) => [(3, .int st.2.1), (2, .int st.1), (0, .ref (a 0))]) 17 (nL := 5) hq15 (fun st xb14 hR ih1 hX1 => ?_) hP hD hS (lv_sub hl [0, 1, 2] rfl)
  clear hP hD hS hl
  obtain ⟨u11, u12, M13⟩ := st
  intro H locs ls hP hD hS hl
  replace hR : fX5_orders_b17 n u11 u12 M13 = some xb14 := hR
  replace hP : va_P g.1 vwCl (w_M g a M13) H := hP
  replace hD : va_D A (w_M g a M13) := hD
  replace hl : lv_has ls 5 [(3, .int u12), (2, .int u11), (0, .ref (a 0))] := hl
  unfold fX5_orders_b17 at hR
  refine lv_iload_n hx hb dX5_orders_17 rfl (lv_at hl 0 rfl) ?_
  refine lv_aload_n hx hb dX5_orders_18 rfl (lv_at hl 2 rfl) ?_
  refine va_get (ci := 5) (C := RX5) (T := TX5) (N := 12) hx hb hts hw5 hown hK hP 0 rfl rfl 1 (by decide) hl1 (fun _ h9 => h9) rfl dX5_orders_19 ?_
  refine lv_iconst (v := (4 : Int32)) hx hb dX5_orders_22 (by decide) ?_
  refine va_iald hx hb hK hP 2 0 rfl rfl (kk_in 4 62 (by decide) (by decide) rfl) dX5_orders_23 ?_
  refine lv_icmp_ge (tgt := 62) hx hb dX5_orders_24 (by decide) (fun c16 => ?_) (fun c16 => ?_)
  · replace hR := (if_pos c16).symm.trans hR
    obtain rfl := Option.some.inj hR
    obtain rfl := hX1 _ rfl
    exact hj15 _ _ _ hP hD hS (lv_sub hl [] rfl)
  · replace hR := (if_neg c16).symm.trans hR
    refine lv_aload_n hx hb dX5_orders_27 rfl (lv_at hl 2 rfl) ?_
    refine va_get (ci := 5) (C := RX5) (T := TX5) (N := 12) hx hb hts hw5 hown hK hP 0 rfl rfl 1 (by decide) hl1 (fun _ h9 => h9) rfl dX5_orders_28 ?_
    refine lv_iconst (v := (4 : Int32)) hx hb dX5_orders_31 (by decide) ?_
    refine va_iald hx hb hK hP 2 0 rfl rfl (kk_in 4 62 (by decide) (by decide) rfl) dX5_orders_32 ?_
    refine lv_iload_n hx hb dX5_orders_33 rfl (lv_at hl 0 rfl) ?_
    refine lv_isub hx hb dX5_orders_34 ?_
    refine lv_istore (lv' := [(4, .int (((M13 1) (4 : Int32).toNatClampNeg) - u12)), (3, .int u12), (2, .int u11), (0, .ref (a 0))]) hx hb dX5_orders_35 hl (by decide) rfl (fun ls hl => ?_)
    refine lv_aload_n hx hb dX5_orders_37 rfl (lv_at hl 3 rfl) ?_
    refine va_get (ci := 5) (C := RX5) (T := TX5) (N := 12) hx hb hts hw5 hown hK hP 0 rfl rfl 1 (by decide) hl1 (fun _ h9 => h9) rfl dX5_orders_38 ?_
    refine lv_iload_n hx hb dX5_orders_41 rfl (lv_at hl 1 rfl) ?_
    refine lv_iload_n hx hb dX5_orders_42 rfl (lv_at hl 2 rfl) ?_
    refine lv_iload hx hb dX5_orders_43 (lv_at hl 0 rfl) ?_
    obtain ⟨hz17, hR⟩ := kk_cd_el hR
    refine lv_irem hx hb dX5_orders_45 hz17 ?_
    refine lv_iadd hx hb dX5_orders_46 ?_
    refine lv_iload_n hx hb dX5_orders_47 rfl (lv_at hl 1 rfl) ?_
    obtain ⟨x18, hq18, hR⟩ := kk_bd_el hR
    obtain ⟨M19, eM19, hR⟩ := kk_nm_el hR
    refine kk_call_Sv (w' := (w_M g a M19)) (As := [.ref (a 2), .int (u12 + (u11 - u11 / (((M13 1) (4 : Int32).toNatClampNeg) - u12) * (((M13 1) (4 : Int32).toNatClampNeg) - u12))), .int u12]) (rest := []) hC (sX5_moves l g n (a 2) (M13 1) (u12 + (u11 - u11 / (((M13 1) (4 : Int32).toNatClampNeg) - u12) * (((M13 1) (4 : Int32).toNatClampNeg) - u12))) u12 x18 hq18) (va_cwS 3 hts gX5_orders_X5_moves rfl rfl rfl (by decide +kernel) ⟨Nat.le_of_ble_eq_true rfl, Nat.le_of_ble_eq_true rfl⟩) hK hP hD hS hA [2] rfl (by decide +kernel) rfl (by rw [eM19]; rfl) rfl rfl hl.1 (Nat.le_of_ble_eq_true rfl) dX5_orders_48 (fun H locs hP hD hS => ?_)
    refine lv_iload_n hx hb dX5_orders_51 rfl (lv_at hl 2 rfl) ?_
    refine lv_iload hx hb dX5_orders_52 (lv_at hl 0 rfl) ?_
    obtain ⟨hz20, hR⟩ := kk_cd_el hR
    refine lv_idiv hx hb dX5_orders_54 hz20 ?_
    refine lv_istore_n (lv' := [(2, .int (u11 / (((M13 1) (4 : Int32).toNatClampNeg) - u12))), (4, .int (((M13 1) (4 : Int32).toNatClampNeg) - u12)), (3, .int u12), (0, .ref (a 0))]) hx hb dX5_orders_55 rfl hl (by decide) rfl (fun ls hl => ?_)
    refine lv_iinc (v := (u12 + (1 : Int32))) (lv' := [(3, .int (u12 + (1 : Int32))), (2, .int (u11 / (((M13 1) (4 : Int32).toNatClampNeg) - u12))), (4, .int (((M13 1) (4 : Int32).toNatClampNeg) - u12)), (0, .ref (a 0))]) hx hb dX5_orders_56 hl (k := 2) rfl rfl (by decide) rfl (fun ls hl => ?_)
    refine lv_goto (tgt := 17) hx hb dX5_orders_59 (by decide) ?_
    obtain rfl := Option.some.inj hR
    exact ih1 _ rfl _ _ _ hP hD hS (lv_sub hl [0, 1, 3] rfl)
set_option maxHeartbeats 8000000 in
set_option maxRecDepth 100000 in
theorem sX5_least (l : Launch) (g : kG) (n : Nat) (a : Nat → Nat) (M : St1) (r : Int32 × St1) (hR : fX5_least n M = some r) : kSp l g yX5_least wsX5_least ({ frames := 4, cells := 0, slots := 0, locals := 90 }) [.ref (a 0)] (w_M g a M) (kQi g (w_M g a r.2) r.1) := by
  refine kSp.of (cc := cX5_least) (maxL := 4) (ret := (some .int)) (by decide) rfl (Nat.le_of_ble_eq_true rfl) ?_
  intro p e s m args below meth c ls A hC hr hlocks hA hK hl hP hD hS
  replace hC : CallFix p m c cX5_least 4 s args wsX5_least RX5 := hC
  obtain ⟨hx, hb, hml, hown, hts⟩ := id hC
  replace hl : lv_has ls 4 [(0, .ref (a 0))] := hl
  unfold fX5_least at hR
  have hw5 : ∀ w ∈ wsX50, w ∈ wsX5_least := by decide +kernel
  have hl0 := hts (.fieldLink RX5 7 "FloatOrderModel" "now" "[I") (by decide +kernel)
  have hl1 := hts (.fieldLink RX5 13 "FloatOrderModel" "then" "[I") (by decide +kernel)
  refine lv_aload_n hx hb dX5_least_0 rfl (lv_at hl 0 rfl) ?_
  refine va_get (ci := 5) (C := RX5) (T := TX5) (N := 12) hx hb hts hw5 hown hK hP 0 rfl rfl 0 (by decide) hl0 (fun _ h9 => h9) rfl dX5_least_1 ?_
  refine lv_iconst (v := (4 : Int32)) hx hb dX5_least_4 (by decide) ?_
  refine va_iald hx hb hK hP 1 0 rfl rfl (kk_in 4 62 (by decide) (by decide) rfl) dX5_least_5 ?_
  refine lv_bipush (v := (6 : Int32)) hx hb dX5_least_6 (by decide) ?_
  refine lv_icmp_le (tgt := 13) hx hb dX5_least_8 (by decide) (fun c1 => ?_) (fun c1 => ?_)
  · replace hR := (if_pos c1).symm.trans hR
    refine lv_iconst (v := (1 : Int32)) hx hb dX5_least_13 (by decide) ?_
    refine lv_istore_n (lv' := [(1, .int (1 : Int32)), (0, .ref (a 0))]) hx hb dX5_least_14 rfl hl (by decide) rfl (fun ls hl => ?_)
    refine lv_iconst (v := (2 : Int32)) hx hb dX5_least_15 (by decide) ?_
    refine lv_istore_n (lv' := [(2, .int (2 : Int32)), (1, .int (1 : Int32)), (0, .ref (a 0))]) hx hb dX5_least_16 rfl hl (by decide) rfl (fun ls hl => ?_)
    obtain ⟨x9, hq9, hR⟩ := kk_bd_el hR
    refine kk_cut (g := g) (A := A) (w' := (w_M g a M)) (nL := 4) (lv := [(1, .int x9), (0, .ref (a 0))]) (pcJ := 37) (st := []) (fun H locs ls hP hD hS hl => ?_) (fun hj9 => ?_)
    · refine lv_aload_n hx hb dX5_least_37 rfl (lv_at hl 1 rfl) ?_
      refine va_get (ci := 5) (C := RX5) (T := TX5) (N := 12) hx hb hts hw5 hown hK hP 0 rfl rfl 0 (by decide) hl0 (fun _ h9 => h9) rfl dX5_least_38 ?_
      obtain ⟨x11, hq11, hR⟩ := kk_bd_el hR
      refine kk_call_Si (w' := (w_M g a M)) (As := [.ref (a 1)]) (rest := []) hC (sX5_allTrouble l g n (a 1) (M 0)  x11 hq11) (va_cwS 1 hts gX5_least_X5_allTrouble rfl rfl rfl (by decide +kernel) ⟨Nat.le_of_ble_eq_true rfl, Nat.le_of_ble_eq_true rfl⟩) hK hP hD hS hA [1] rfl (by decide +kernel) rfl rfl rfl rfl hl.1 (Nat.le_of_ble_eq_true rfl) dX5_least_41 (fun H locs hP hD hS => ?_)
      refine lv_istore_n (lv' := [(2, .int x11), (1, .int x9), (0, .ref (a 0))]) hx hb dX5_least_44 rfl hl (by decide) rfl (fun ls hl => ?_)
      refine lv_iconst (v := (0 : Int32)) hx hb dX5_least_45 (by decide) ?_
      refine lv_istore_n (lv' := [(3, .int (0 : Int32)), (2, .int x11), (1, .int x9), (0, .ref (a 0))]) hx hb dX5_least_46 rfl hl (by decide) rfl (fun ls hl => ?_)
      obtain ⟨x24, hq24, hR⟩ := kk_bd_el hR
      refine kk_cut (g := g) (A := A) (w' := (w_M g a x24.2)) (nL := 4) (lv := [(2, .int x24.1)]) (pcJ := 86) (st := []) (fun H locs ls hP hD hS hl => ?_) (fun hj24 => ?_)
      · refine lv_iload_n hx hb dX5_least_86 rfl (lv_at hl 0 rfl) ?_
        obtain rfl := Option.some.inj hR
        exact kk_ret_i hC hr hlocks hK hP hD hS dX5_least_87 rfl
      refine kk_loop (g := g) (A := A) (fun (st : Int32 × Int32 × St1) => (w_M g a st.2.2)) (fun (st : Int32 × Int32 × St1) => [(3, .int st.2.1), (2, .int st.1), (1, .int x9), (0, .ref (a 0))]) 47 (nL := 4) hq24 (fun st xb23 hR ih2 hX2 => ?_) hP hD hS (lv_sub hl [0, 1, 2, 3] rfl)
      clear hP hD hS hl
      obtain ⟨u20, u21, M22⟩ := st
      intro H locs ls hP hD hS hl
      replace hR : fX5_least_b47 n x9 u20 u21 M22 = some xb23 := hR
      replace hP : va_P g.1 vwCl (w_M g a M22) H := hP
      replace hD : va_D A (w_M g a M22) := hD
      replace hl : lv_has ls 4 [(3, .int u21), (2, .int u20), (1, .int x9), (0, .ref (a 0))] := hl
      unfold fX5_least_b47 at hR
      refine lv_iload_n hx hb dX5_least_47 rfl (lv_at hl 0 rfl) ?_
      refine lv_iload_n hx hb dX5_least_48 rfl (lv_at hl 2 rfl) ?_
      refine lv_icmp_ge (tgt := 86) hx hb dX5_least_49 (by decide) (fun c25 => ?_) (fun c25 => ?_)
      · replace hR := (if_pos c25).symm.trans hR
        obtain rfl := Option.some.inj hR
        obtain rfl := hX2 _ rfl
        exact hj24 _ _ _ hP hD hS (lv_sub hl [1] rfl)
      · replace hR := (if_neg c25).symm.trans hR
        refine lv_aload_n hx hb dX5_least_52 rfl (lv_at hl 3 rfl) ?_
        refine lv_iload_n hx hb dX5_least_53 rfl (lv_at hl 0 rfl) ?_
        obtain ⟨x26, hq26, hR⟩ := kk_bd_el hR
        refine kk_call_Vv (w' := (w_M g a x26)) (As := [.int u21]) (rest := []) 0 5 hC (sX5_orders l g n a M22 u21 x26 hq26) (cwV 1 hts gX5_least_X5_orders rfl rfl rfl (by decide +kernel) ⟨Nat.le_of_ble_eq_true rfl, Nat.le_of_ble_eq_true rfl⟩) hK hP hD hS hA [0, 1, 2, 3, 4, 5, 6] rfl (by decide +kernel) rfl rfl rfl rfl rfl rfl rfl hl.1 (Nat.le_of_ble_eq_true rfl) dX5_least_54 (fun H locs hP hD hS => ?_)
        refine lv_aload_n hx hb dX5_least_57 rfl (lv_at hl 3 rfl) ?_
        refine va_get (ci := 5) (C := RX5) (T := TX5) (N := 12) hx hb hts hw5 hown hK hP 0 rfl rfl 1 (by decide) hl1 (fun _ h9 => h9) rfl dX5_least_58 ?_
        obtain ⟨x27, hq27, hR⟩ := kk_bd_el hR
        refine kk_call_Si (w' := (w_M g a x26)) (As := [.ref (a 2)]) (rest := []) hC (sX5_allTrouble l g n (a 2) (x26 1)  x27 hq27) (va_cwS 1 hts gX5_least_X5_allTrouble rfl rfl rfl (by decide +kernel) ⟨Nat.le_of_ble_eq_true rfl, Nat.le_of_ble_eq_true rfl⟩) hK hP hD hS hA [2] rfl (by decide +kernel) rfl rfl rfl rfl hl.1 (Nat.le_of_ble_eq_true rfl) dX5_least_61 (fun H locs hP hD hS => ?_)
        refine lv_iload_n hx hb dX5_least_64 rfl (lv_at hl 1 rfl) ?_
        refine lv_icmp_ge (tgt := 78) hx hb dX5_least_65 (by decide) (fun c28 => ?_) (fun c28 => ?_)
        · replace hR := (if_pos c28).symm.trans hR
          refine lv_iload_n hx hb dX5_least_78 rfl (lv_at hl 1 rfl) ?_
          refine lv_istore_n (lv' := [(2, .int u20), (3, .int u21), (1, .int x9), (0, .ref (a 0))]) hx hb dX5_least_79 rfl hl (by decide) rfl (fun ls hl => ?_)
          refine lv_iinc (v := (u21 + (1 : Int32))) (lv' := [(3, .int (u21 + (1 : Int32))), (2, .int u20), (1, .int x9), (0, .ref (a 0))]) hx hb dX5_least_80 hl (k := 1) rfl rfl (by decide) rfl (fun ls hl => ?_)
          refine lv_goto (tgt := 47) hx hb dX5_least_83 (by decide) ?_
          obtain rfl := Option.some.inj hR
          exact ih2 _ rfl _ _ _ hP hD hS (lv_sub hl [0, 1, 2, 3] rfl)
        · replace hR := (if_neg c28).symm.trans hR
          refine lv_aload_n hx hb dX5_least_68 rfl (lv_at hl 3 rfl) ?_
          refine va_get (ci := 5) (C := RX5) (T := TX5) (N := 12) hx hb hts hw5 hown hK hP 0 rfl rfl 1 (by decide) hl1 (fun _ h9 => h9) rfl dX5_least_69 ?_
          obtain ⟨x29, hq29, hR⟩ := kk_bd_el hR
          refine kk_call_Si (w' := (w_M g a x26)) (As := [.ref (a 2)]) (rest := []) hC (sX5_allTrouble l g n (a 2) (x26 1)  x29 hq29) (va_cwS 1 hts gX5_least_X5_allTrouble rfl rfl rfl (by decide +kernel) ⟨Nat.le_of_ble_eq_true rfl, Nat.le_of_ble_eq_true rfl⟩) hK hP hD hS hA [2] rfl (by decide +kernel) rfl rfl rfl rfl hl.1 (Nat.le_of_ble_eq_true rfl) dX5_least_72 (fun H locs hP hD hS => ?_)
          refine lv_goto (tgt := 79) hx hb dX5_least_75 (by decide) ?_
          refine lv_istore_n (lv' := [(2, .int x29), (3, .int u21), (1, .int x9), (0, .ref (a 0))]) hx hb dX5_least_79 rfl hl (by decide) rfl (fun ls hl => ?_)
          refine lv_iinc (v := (u21 + (1 : Int32))) (lv' := [(3, .int (u21 + (1 : Int32))), (2, .int x29), (1, .int x9), (0, .ref (a 0))]) hx hb dX5_least_80 hl (k := 1) rfl rfl (by decide) rfl (fun ls hl => ?_)
          refine lv_goto (tgt := 47) hx hb dX5_least_83 (by decide) ?_
          obtain rfl := Option.some.inj hR
          exact ih2 _ rfl _ _ _ hP hD hS (lv_sub hl [0, 1, 2, 3] rfl)
    refine kk_loop (g := g) (A := A) (fun (st : Int32 × Int32) => (w_M g a M)) (fun (st : Int32 × Int32) => [(2, .int st.2), (1, .int st.1), (0, .ref (a 0))]) 17 (nL := 4) hq9 (fun st xb8 hR ih1 hX1 => ?_) hP hD hS (lv_sub hl [0, 1, 2] rfl)
    clear hP hD hS hl
    obtain ⟨u6, u7⟩ := st
    intro H locs ls hP hD hS hl
    replace hR : fX5_least_b17 n M u6 u7 = some xb8 := hR
    replace hP : va_P g.1 vwCl (w_M g a M) H := hP
    replace hD : va_D A (w_M g a M) := hD
    replace hl : lv_has ls 4 [(2, .int u7), (1, .int u6), (0, .ref (a 0))] := hl
    unfold fX5_least_b17 at hR
    refine lv_iload_n hx hb dX5_least_17 rfl (lv_at hl 0 rfl) ?_
    refine lv_aload_n hx hb dX5_least_18 rfl (lv_at hl 2 rfl) ?_
    refine va_get (ci := 5) (C := RX5) (T := TX5) (N := 12) hx hb hts hw5 hown hK hP 0 rfl rfl 0 (by decide) hl0 (fun _ h9 => h9) rfl dX5_least_19 ?_
    refine lv_iconst (v := (4 : Int32)) hx hb dX5_least_22 (by decide) ?_
    refine va_iald hx hb hK hP 1 0 rfl rfl (kk_in 4 62 (by decide) (by decide) rfl) dX5_least_23 ?_
    refine lv_icmp_gt (tgt := 37) hx hb dX5_least_24 (by decide) (fun c10 => ?_) (fun c10 => ?_)
    · replace hR := (if_pos c10).symm.trans hR
      obtain rfl := Option.some.inj hR
      obtain rfl := hX1 _ rfl
      exact hj9 _ _ _ hP hD hS (lv_sub hl [1, 2] rfl)
    · replace hR := (if_neg c10).symm.trans hR
      refine lv_iload_n hx hb dX5_least_27 rfl (lv_at hl 1 rfl) ?_
      refine lv_iload_n hx hb dX5_least_28 rfl (lv_at hl 0 rfl) ?_
      refine lv_imul hx hb dX5_least_29 ?_
      refine lv_istore_n (lv' := [(1, .int (u6 * u7)), (2, .int u7), (0, .ref (a 0))]) hx hb dX5_least_30 rfl hl (by decide) rfl (fun ls hl => ?_)
      refine lv_iinc (v := (u7 + (1 : Int32))) (lv' := [(2, .int (u7 + (1 : Int32))), (1, .int (u6 * u7)), (0, .ref (a 0))]) hx hb dX5_least_31 hl (k := 1) rfl rfl (by decide) rfl (fun ls hl => ?_)
      refine lv_goto (tgt := 17) hx hb dX5_least_34 (by decide) ?_
      obtain rfl := Option.some.inj hR
      exact ih1 _ rfl _ _ _ hP hD hS (lv_sub hl [0, 1, 2] rfl)
  · replace hR := (if_neg c1).symm.trans hR
    refine lv_iconst (v := (-1 : Int32)) hx hb dX5_least_11 (by decide) ?_
    obtain rfl := Option.some.inj hR
    exact kk_ret_i hC hr hlocks hK hP hD hS dX5_least_12 rfl
set_option maxHeartbeats 8000000 in
set_option maxRecDepth 100000 in
theorem sX5_leastTrouble (l : Launch) (g : kG) (n : Nat) (a : Nat → Nat) (M : St1) (r : Int32 × St1) (hR : fX5_leastTrouble n M = some r) : kSp l g yX5_leastTrouble wsX5_leastTrouble ({ frames := 5, cells := 0, slots := 0, locals := 113 }) [.ref (a 0)] (w_M g a M) (kQi g (w_M g a r.2) r.1) := by
  refine kSp.of (cc := cX5_leastTrouble) (maxL := 1) (ret := (some .int)) (by decide) rfl (Nat.le_of_ble_eq_true rfl) ?_
  intro p e s m args below meth c ls A hC hr hlocks hA hK hl hP hD hS
  replace hC : CallFix p m c cX5_leastTrouble 1 s args wsX5_leastTrouble RX5 := hC
  obtain ⟨hx, hb, hml, hown, hts⟩ := id hC
  replace hl : lv_has ls 1 [(0, .ref (a 0))] := hl
  unfold fX5_leastTrouble at hR
  have hw5 : ∀ w ∈ wsX50, w ∈ wsX5_leastTrouble := by decide +kernel
  have hl0 := hts (.fieldLink RX5 28 "FloatOrderModel" "thrown" "I") (by decide +kernel)
  refine lv_aload_n hx hb dX5_leastTrouble_0 rfl (lv_at hl 0 rfl) ?_
  refine lv_iconst (v := (0 : Int32)) hx hb dX5_leastTrouble_1 (by decide) ?_
  obtain ⟨M1, eM1, hR⟩ := kk_nm_el hR
  refine kk_put (w' := (w_M g a M1)) (ci := 5) (C := RX5) (T := TX5) (N := 12) (ty := .int) (v := .int (0 : Int32)) hC hw5 tyX5 tyX5_ok nmX5 hK hP hD hS 0 rfl rfl 6 (by decide) hl0 rfl (by decide +kernel) rfl rfl (Nat.le_of_ble_eq_true rfl) (by rw [eM1]; rfl) dX5_leastTrouble_2 rfl (fun H locs hP hD hS => ?_)
  refine lv_aload_n hx hb dX5_leastTrouble_5 rfl (lv_at hl 0 rfl) ?_
  obtain ⟨x2, hq2, hR⟩ := kk_bd_el hR
  refine kk_call_Vi (w' := (w_M g a x2.2)) (As := []) (rest := []) 0 5 hC (sX5_least l g n a M1  x2 hq2) (cwV 0 hts gX5_leastTrouble_X5_least rfl rfl rfl (by decide +kernel) ⟨Nat.le_of_ble_eq_true rfl, Nat.le_of_ble_eq_true rfl⟩) hK hP hD hS hA [0, 1, 2, 3, 4, 5, 6] rfl (by decide +kernel) rfl rfl rfl rfl rfl rfl rfl hl.1 (Nat.le_of_ble_eq_true rfl) dX5_leastTrouble_6 (fun H locs hP hD hS => ?_)
  obtain rfl := Option.some.inj hR
  exact kk_ret_i hC hr hlocks hK hP hD hS dX5_leastTrouble_9 rfl