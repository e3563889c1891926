set_option maxHeartbeats 8000000 in
set_option maxRecDepth 100000 in
theorem sX4_floatAt (l : Launch) (g : kG) (n : Nat) (a : Nat → Nat → Nat) (G : St2) (v1 : Int32) (v2 : Int32) (r : Int32) (hR : fX4_floatAt n G v1 v2 = some (.inr r)) : kSp l g yX4_floatAt wsX4_floatAt ({ frames := 4, cells := 0, slots := 0, locals := 89 }) [.ref (a 0 0), .int v1, .int v2] (w_F g a G) (kQi g (w_F g a G) r) := by
  refine kSp.of (cc := cX4_floatAt) (maxL := 3) (ret := (some .int)) (by decide) rfl (Nat.le_of_ble_eq_true rfl) ?_
  intro p e s m args below meth c ls A hC hr hlocks hA hK hl hP hD hS
  replace hC : CallFix p m c cX4_floatAt 3 s args wsX4_floatAt RX4 := hC
  obtain ⟨hx, hb, hml, hown, hts⟩ := id hC
  replace hl : lv_has ls 3 [(0, .ref (a 0 0)), (1, .int v1), (2, .int v2)] := hl
  unfold fX4_floatAt at hR
  have hw4 : ∀ w ∈ wsX40, w ∈ wsX4_floatAt := by decide +kernel
  have hl0 := hts (.fieldLink RX4 10 "FloatOrder" "parade" "LFloatOrder$Parade;") (by decide +kernel)
  refine lv_aload_n hx hb dX4_floatAt_0 rfl (lv_at hl 0 rfl) ?_
  refine lv_iload_n hx hb dX4_floatAt_1 rfl (lv_at hl 1 rfl) ?_
  obtain ⟨y1, hq2, hR⟩ := kk_bd_el hR
  obtain ⟨x2, ex2, hR⟩ := kk_tr_ok hR
  subst ex2
  refine kk_call_Vv (w' := (w_F g a G)) (As := [.int v1]) (rest := []) 0 4 hC (sX4_needFloat l g n a G v1 x2 hq2) (cwV 1 hts gX4_floatAt_X4_needFloat rfl rfl rfl (by decide +kernel) ⟨Nat.le_of_ble_eq_true rfl, Nat.le_of_ble_eq_true rfl⟩) hK hP hD hS hA [0, 1, 2, 3, 4, 5, 6, 7, 8, 9, 10, 11, 12, 13, 14, 15, 16, 17, 18, 19, 20, 21, 22, 23] (kk_m0 24 (by decide +kernel) rfl) (by decide +kernel) rfl (kk_s0 24 (by decide +kernel) rfl rfl) rfl rfl rfl rfl rfl hl.1 (Nat.le_of_ble_eq_true rfl) dX4_floatAt_2 (fun H locs hP hD hS => ?_)
  refine lv_iload_n hx hb dX4_floatAt_5 rfl (lv_at hl 2 rfl) ?_
  refine lv_if_lt (tgt := 15) hx hb dX4_floatAt_6 (by decide) (fun c3 => ?_) (fun c3 => ?_)
  · replace hR := (if_pos c3).symm.trans hR
    cases hR
  · replace hR := (if_neg c3).symm.trans hR
    refine lv_iload_n hx hb dX4_floatAt_9 rfl (lv_at hl 2 rfl) ?_
    refine lv_bipush (v := (7 : Int32)) hx hb dX4_floatAt_10 (by decide) ?_
    refine lv_icmp_lt (tgt := 25) hx hb dX4_floatAt_12 (by decide) (fun c4 => ?_) (fun c4 => ?_)
    · replace hR := (if_pos c4).symm.trans hR
      refine lv_aload_n hx hb dX4_floatAt_25 rfl (lv_at hl 0 rfl) ?_
      refine va_get (ci := 4) (C := RX4) (T := TX4) (N := 7) hx hb hts hw4 hown hK hP 0 rfl rfl 0 (by decide) hl0 (fun _ h9 => h9) rfl dX4_floatAt_26 ?_
      refine lv_iload_n hx hb dX4_floatAt_29 rfl (lv_at hl 1 rfl) ?_
      refine lv_iload_n hx hb dX4_floatAt_30 rfl (lv_at hl 2 rfl) ?_
      obtain ⟨x5, hq5, hR⟩ := kk_bd_el hR
      refine kk_call_Vi (w' := (w_F g a G)) (As := [.int v1, .int v2]) (rest := []) 2 2 hC (sX2_floatProperty l g n (a 1) (G 1) v1 v2 x5 hq5) (cwV 2 hts gX4_floatAt_X2_floatProperty rfl rfl rfl (by decide +kernel) ⟨Nat.le_of_ble_eq_true rfl, Nat.le_of_ble_eq_true rfl⟩) hK hP hD hS hA [2, 3, 4, 5, 6, 7, 8, 9, 10, 11] (kk_ml 23 rfl (by decide +kernel) (kk_ml 22 rfl (by decide +kernel) (kk_ml 12 rfl (by decide +kernel) (kk_mr (js := [0, 1, 2, 3, 4, 5, 6, 7, 8, 9]) 2 rfl (by decide +kernel) (kk_m0 10 (by decide +kernel) rfl))))) (by decide +kernel) rfl (kk_sl 23 rfl (by decide +kernel) (kk_sl 22 rfl (by decide +kernel) (kk_sl 12 rfl (by decide +kernel) (kk_sr (js := [0, 1, 2, 3, 4, 5, 6, 7, 8, 9]) 2 rfl (by decide +kernel) (kk_s0 10 (by decide +kernel) rfl rfl))))) rfl rfl rfl rfl rfl hl.1 (Nat.le_of_ble_eq_true rfl) dX4_floatAt_31 (fun H locs hP hD hS => ?_)
      obtain rfl := Sum.inr.inj (Option.some.inj hR)
      exact kk_ret_i hC hr hlocks hK hP hD hS dX4_floatAt_34 rfl
    · replace hR := (if_neg c4).symm.trans hR
      cases hR
set_option maxHeartbeats 8000000 in
set_option maxRecDepth 100000 in
theorem sX4_floatAt_th (l : Launch) (hst : l.stackTraces = false) (g : kG) (n : Nat) (a : Nat → Nat → Nat) (G : St2) (v1 : Int32) (v2 : Int32) (k : Nat) (hR : fX4_floatAt n G v1 v2 = some (.inl k)) : kSt l g yX4_floatAt wsX4_floatAt ({ frames := 7, cells := 1, slots := 6, locals := 111 }) [.ref (a 0 0), .int v1, .int v2] (w_F g a G) (w_F g a G) k := by
  refine kSt.of (cc := cX4_floatAt) (maxL := 3) (ret := (some .int)) (by decide) rfl (Nat.le_of_ble_eq_true rfl) ?_
  intro p e s m args below meth c ls A hC hlocks hno hA hK hG hl hP hD hS
  replace hC : CallFix p m c cX4_floatAt 3 s args wsX4_floatAt RX4 := hC
  obtain ⟨hx, hb, hml, hown, hts⟩ := id hC
  replace hl : lv_has ls 3 [(0, .ref (a 0 0)), (1, .int v1), (2, .int v2)] := hl
  unfold fX4_floatAt at hR
  have hw4 : ∀ w ∈ wsX40, w ∈ wsX4_floatAt := by decide +kernel
  have hl0 := hts (.classLink RX4 62 "java/lang/IllegalArgumentException") (by decide +kernel)
  have hl1 := hts (.initialized "java/lang/IllegalArgumentException") (by decide +kernel)
  have hl2 := hts (.fieldLink RX4 10 "FloatOrder" "parade" "LFloatOrder$Parade;") (by decide +kernel)
  refine lv_aload_n hx hb dX4_floatAt_0 rfl (lv_at hl 0 rfl) ?_
  refine lv_iload_n hx hb dX4_floatAt_1 rfl (lv_at hl 1 rfl) ?_
  obtain ⟨y1, hq2, hR⟩ := kk_bd_el hR
  rcases kk_tr_th hR with ex2 | ⟨x2, ex2, hR⟩
  · subst ex2
    exact kk_callT_V (As := [.int v1]) (rest := []) 0 4 hC (sX4_needFloat_th l hst g n a G v1 k hq2) (cwV 1 hts gX4_floatAt_X4_needFloat rfl rfl rfl (by decide +kernel) ⟨Nat.le_of_ble_eq_true rfl, Nat.le_of_ble_eq_true rfl⟩) hlocks hno hK hG hP hD hS hA [0, 1, 2, 3, 4, 5, 6, 7, 8, 9, 10, 11, 12, 13, 14, 15, 16, 17, 18, 19, 20, 21, 22, 23] (kk_m0 24 (by decide +kernel) rfl) (by decide +kernel) rfl (kk_s0 24 (by decide +kernel) rfl rfl) rfl rfl rfl rfl rfl hl.1 (Nat.le_of_ble_eq_true rfl) dX4_floatAt_2 ⟨Nat.le_of_ble_eq_true rfl, Nat.le_of_ble_eq_true rfl⟩
  subst ex2
  refine kk_call_Vv (w' := (w_F g a G)) (As := [.int v1]) (rest := []) 0 4 hC (sX4_needFloat l g n a G v1 x2 hq2) (cwV 1 hts gX4_floatAt_X4_needFloat rfl rfl rfl (by decide +kernel) ⟨Nat.le_of_ble_eq_true rfl, Nat.le_of_ble_eq_true rfl⟩) hK hP hD hS hA [0, 1, 2, 3, 4, 5, 6, 7, 8, 9, 10, 11, 12, 13, 14, 15, 16, 17, 18, 19, 20, 21, 22, 23] (kk_m0 24 (by decide +kernel) rfl) (by decide +kernel) rfl (kk_s0 24 (by decide +kernel) rfl rfl) rfl rfl rfl rfl rfl hl.1 (Nat.le_of_ble_eq_true rfl) dX4_floatAt_2 (fun H locs hP hD hS => ?_)
  refine lv_iload_n hx hb dX4_floatAt_5 rfl (lv_at hl 2 rfl) ?_
  refine lv_if_lt (tgt := 15) hx hb dX4_floatAt_6 (by decide) (fun c3 => ?_) (fun c3 => ?_)
  · replace hR := (if_pos c3).symm.trans hR
    obtain rfl := Sum.inl.inj (Option.some.inj hR)
    exact kk_throw (names := ["java/lang/RuntimeException", "java/lang/Exception"]) (text := "what is not 0 to 6") (k := 2) hC hst hlocks hno hK hG hP hD hS hA rfl rfl (by decide +kernel) (by decide +kernel) (by decide +kernel) hl0 hl1 (by decide +kernel) (by decide +kernel) (by decide +kernel) hl.1 dX4_floatAt_15 dX4_floatAt_18 dX4_floatAt_19 dX4_floatAt_21 dX4_floatAt_24 ⟨Nat.le_of_ble_eq_true rfl, Nat.le_of_ble_eq_true rfl, Nat.le_of_ble_eq_true rfl, Nat.le_of_ble_eq_true rfl⟩
  · replace hR := (if_neg c3).symm.trans hR
    refine lv_iload_n hx hb dX4_floatAt_9 rfl (lv_at hl 2 rfl) ?_
    refine lv_bipush (v := (7 : Int32)) hx hb dX4_floatAt_10 (by decide) ?_
    refine lv_icmp_lt (tgt := 25) hx hb dX4_floatAt_12 (by decide) (fun c4 => ?_) (fun c4 => ?_)
    · replace hR := (if_pos c4).symm.trans hR
      refine lv_aload_n hx hb dX4_floatAt_25 rfl (lv_at hl 0 rfl) ?_
      refine va_get (ci := 4) (C := RX4) (T := TX4) (N := 7) hx hb hts hw4 hown hK hP 0 rfl rfl 0 (by decide) hl2 (fun _ h9 => h9) rfl dX4_floatAt_26 ?_
      refine lv_iload_n hx hb dX4_floatAt_29 rfl (lv_at hl 1 rfl) ?_
      refine lv_iload_n hx hb dX4_floatAt_30 rfl (lv_at hl 2 rfl) ?_
      obtain ⟨x5, hq5, hR⟩ := kk_bd_el hR
      refine kk_call_Vi (w' := (w_F g a G)) (As := [.int v1, .int v2]) (rest := []) 2 2 hC (sX2_floatProperty l g n (a 1) (G 1) v1 v2 x5 hq5) (cwV 2 hts gX4_floatAt_X2_floatProperty rfl rfl rfl (by decide +kernel) ⟨Nat.le_of_ble_eq_true rfl, Nat.le_of_ble_eq_true rfl⟩) hK hP hD hS hA [2, 3, 4, 5, 6, 7, 8, 9, 10, 11] (kk_ml 23 rfl (by decide +kernel) (kk_ml 22 rfl (by decide +kernel) (kk_ml 12 rfl (by decide +kernel) (kk_mr (js := [0, 1, 2, 3, 4, 5, 6, 7, 8, 9]) 2 rfl (by decide +kernel) (kk_m0 10 (by decide +kernel) rfl))))) (by decide +kernel) rfl (kk_sl 23 rfl (by decide +kernel) (kk_sl 22 rfl (by decide +kernel) (kk_sl 12 rfl (by decide +kernel) (kk_sr (js := [0, 1, 2, 3, 4, 5, 6, 7, 8, 9]) 2 rfl (by decide +kernel) (kk_s0 10 (by decide +kernel) rfl rfl))))) rfl rfl rfl rfl rfl hl.1 (Nat.le_of_ble_eq_true rfl) dX4_floatAt_31 (fun H locs hP hD hS => ?_)
      cases hR
    · replace hR := (if_neg c4).symm.trans hR
      obtain rfl := Sum.inl.inj (Option.some.inj hR)
      exact kk_throw (names := ["java/lang/RuntimeException", "java/lang/Exception"]) (text := "what is not 0 to 6") (k := 2) hC hst hlocks hno hK hG hP hD hS hA rfl rfl (by decide +kernel) (by decide +kernel) (by decide +kernel) hl0 hl1 (by decide +kernel) (by decide +kernel) (by decide +kernel) hl.1 dX4_floatAt_15 dX4_floatAt_18 dX4_floatAt_19 dX4_floatAt_21 dX4_floatAt_24 ⟨Nat.le_of_ble_eq_true rfl, Nat.le_of_ble_eq_true rfl, Nat.le_of_ble_eq_true rfl, Nat.le_of_ble_eq_true rfl⟩
set_option maxHeartbeats 8000000 in
set_option maxRecDepth 100000 in
theorem sX4_trouble (l : Launch) (g : kG) (n : Nat) (a : Nat → Nat → Nat) (G : St2) (v1 : Int32) (v2 : Int32) (r : Int32) (hR : fX4_trouble n G v1 v2 = some (.inr r)) : kSp l g yX4_trouble wsX4_trouble ({ frames := 2, cells := 0, slots := 0, locals := 45 }) [.ref (a 0 0), .int v1, .int v2] (w_F g a G) (kQi g (w_F g a G) r) := by
  refine kSp.of (cc := cX4_trouble) (maxL := 3) (ret := (some .int)) (by decide) rfl (Nat.le_of_ble_eq_true rfl) ?_
  intro p e s m args below meth c ls A hC hr hlocks hA hK hl hP hD hS
  replace hC : CallFix p m c cX4_trouble 3 s args wsX4_trouble RX4 := hC
  obtain ⟨hx, hb, hml, hown, hts⟩ := id hC
  replace hl : lv_has ls 3 [(0, .ref (a 0 0)), (1, .int v1), (2, .int v2)] := hl
  unfold fX4_trouble at hR
  have hw4 : ∀ w ∈ wsX40, w ∈ wsX4_trouble := by decide +kernel
  have hl0 := hts (.fieldLink RX4 10 "FloatOrder" "parade" "LFloatOrder$Parade;") (by decide +kernel)
  refine lv_aload_n hx hb dX4_trouble_0 rfl (lv_at hl 0 rfl) ?_
  refine lv_iload_n hx hb dX4_trouble_1 rfl (lv_at hl 1 rfl) ?_
  obtain ⟨y1, hq2, hR⟩ := kk_bd_el hR
  obtain ⟨x2, ex2, hR⟩ := kk_tr_ok hR
  subst ex2
  refine kk_call_Vv (w' := (w_F g a G)) (As := [.int v1]) (rest := []) 0 4 hC (sX4_needFloat l g n a G v1 x2 hq2) (cwV 1 hts gX4_trouble_X4_needFloat rfl rfl rfl (by decide +kernel) ⟨Nat.le_of_ble_eq_true rfl, Nat.le_of_ble_eq_true rfl⟩) hK hP hD hS hA [0, 1, 2, 3, 4, 5, 6, 7, 8, 9, 10, 11, 12, 13, 14, 15, 16, 17, 18, 19, 20, 21, 22, 23] (kk_m0 24 (by decide +kernel) rfl) (by decide +kernel) rfl (kk_s0 24 (by decide +kernel) rfl rfl) rfl rfl rfl rfl rfl hl.1 (Nat.le_of_ble_eq_true rfl) dX4_trouble_2 (fun H locs hP hD hS => ?_)
  refine lv_iload_n hx hb dX4_trouble_5 rfl (lv_at hl 2 rfl) ?_
  refine lv_if_lt (tgt := 14) hx hb dX4_trouble_6 (by decide) (fun c3 => ?_) (fun c3 => ?_)
  · replace hR := (if_pos c3).symm.trans hR
    cases hR
  · replace hR := (if_neg c3).symm.trans hR
    refine lv_iload_n hx hb dX4_trouble_9 rfl (lv_at hl 2 rfl) ?_
    refine lv_iconst (v := (3 : Int32)) hx hb dX4_trouble_10 (by decide) ?_
    refine lv_icmp_lt (tgt := 24) hx hb dX4_trouble_11 (by decide) (fun c4 => ?_) (fun c4 => ?_)
    · replace hR := (if_pos c4).symm.trans hR
      refine lv_aload_n hx hb dX4_trouble_24 rfl (lv_at hl 0 rfl) ?_
      refine va_get (ci := 4) (C := RX4) (T := TX4) (N := 7) hx hb hts hw4 hown hK hP 0 rfl rfl 0 (by decide) hl0 (fun _ h9 => h9) rfl dX4_trouble_25 ?_
      refine lv_iload_n hx hb dX4_trouble_28 rfl (lv_at hl 1 rfl) ?_
      refine lv_iload_n hx hb dX4_trouble_29 rfl (lv_at hl 2 rfl) ?_
      obtain ⟨x5, hq5, hR⟩ := kk_bd_el hR
      refine kk_call_Vi (w' := (w_F g a G)) (As := [.int v1, .int v2]) (rest := []) 2 2 hC (sX2_troubleBy l g n (a 1) (G 1) v1 v2 x5 hq5) (cwV 2 hts gX4_trouble_X2_troubleBy rfl rfl rfl (by decide +kernel) ⟨Nat.le_of_ble_eq_true rfl, Nat.le_of_ble_eq_true rfl⟩) hK hP hD hS hA [2, 3, 4, 5, 6, 7, 8, 9, 10, 11] (kk_ml 23 rfl (by decide +kernel) (kk_ml 22 rfl (by decide +kernel) (kk_ml 12 rfl (by decide +kernel) (kk_mr (js := [0, 1, 2, 3, 4, 5, 6, 7, 8, 9]) 2 rfl (by decide +kernel) (kk_m0 10 (by decide +kernel) rfl))))) (by decide +kernel) rfl (kk_sl 23 rfl (by decide +kernel) (kk_sl 22 rfl (by decide +kernel) (kk_sl 12 rfl (by decide +kernel) (kk_sr (js := [0, 1, 2, 3, 4, 5, 6, 7, 8, 9]) 2 rfl (by decide +kernel) (kk_s0 10 (by decide +kernel) rfl rfl))))) rfl rfl rfl rfl rfl hl.1 (Nat.le_of_ble_eq_true rfl) dX4_trouble_30 (fun H locs hP hD hS => ?_)
      obtain rfl := Sum.inr.inj (Option.some.inj hR)
      exact kk_ret_i hC hr hlocks hK hP hD hS dX4_trouble_33 rfl
    · replace hR := (if_neg c4).symm.trans hR
      cases hR
set_option maxHeartbeats 8000000 in
set_option maxRecDepth 100000 in
theorem sX4_trouble_th (l : Launch) (hst : l.stackTraces = false) (g : kG) (n : Nat) (a : Nat → Nat → Nat) (G : St2) (v1 : Int32) (v2 : Int32) (k : Nat) (hR : fX4_trouble n G v1 v2 = some (.inl k)) : kSt l g yX4_trouble wsX4_trouble ({ frames := 7, cells := 1, slots := 6, locals := 111 }) [.ref (a 0 0), .int v1, .int v2] (w_F g a G) (w_F g a G) k := by
  refine kSt.of (cc := cX4_trouble) (maxL := 3) (ret := (some .int)) (by decide) rfl (Nat.le_of_ble_eq_true rfl) ?_
  intro p e s m args below meth c ls A hC hlocks hno hA hK hG hl hP hD hS
  replace hC : CallFix p m c cX4_trouble 3 s args wsX4_trouble RX4 := hC
  obtain ⟨hx, hb, hml, hown, hts⟩ := id hC
  replace hl : lv_has ls 3 [(0, .ref (a 0 0)), (1, .int v1), (2, .int v2)] := hl
  unfold fX4_trouble at hR
  have hw4 : ∀ w ∈ wsX40, w ∈ wsX4_trouble := by decide +kernel
  have hl0 := hts (.classLink RX4 62 "java/lang/IllegalArgumentException") (by decide +kernel)
  have hl1 := hts (.initialized "java/lang/IllegalArgumentException") (by decide +kernel)
  have hl2 := hts (.fieldLink RX4 10 "FloatOrder" "parade" "LFloatOrder$Parade;") (by decide +kernel)
  refine lv_aload_n hx hb dX4_trouble_0 rfl (lv_at hl 0 rfl) ?_
  refine lv_iload_n hx hb dX4_trouble_1 rfl (lv_at hl 1 rfl) ?_
  obtain ⟨y1, hq2, hR⟩ := kk_bd_el hR
  rcases kk_tr_th hR with ex2 | ⟨x2, ex2, hR⟩
  · subst ex2
    exact kk_callT_V (As := [.int v1]) (rest := []) 0 4 hC (sX4_needFloat_th l hst g n a G v1 k hq2) (cwV 1 hts gX4_trouble_X4_needFloat rfl rfl rfl (by decide +kernel) ⟨Nat.le_of_ble_eq_true rfl, Nat.le_of_ble_eq_true rfl⟩) hlocks hno hK hG hP hD hS hA [0, 1, 2, 3, 4, 5, 6, 7, 8, 9, 10, 11, 12, 13, 14, 15, 16, 17, 18, 19, 20, 21, 22, 23] (kk_m0 24 (by decide +kernel) rfl) (by decide +kernel) rfl (kk_s0 24 (by decide +kernel) rfl rfl) rfl rfl rfl rfl rfl hl.1 (Nat.le_of_ble_eq_true rfl) dX4_trouble_2 ⟨Nat.le_of_ble_eq_true rfl, Nat.le_of_ble_eq_true rfl⟩
  subst ex2
  refine kk_call_Vv (w' := (w_F g a G)) (As := [.int v1]) (rest := []) 0 4 hC (sX4_needFloat l g n a G v1 x2 hq2) (cwV 1 hts gX4_trouble_X4_needFloat rfl rfl rfl (by decide +kernel) ⟨Nat.le_of_ble_eq_true rfl, Nat.le_of_ble_eq_true rfl⟩) hK hP hD hS hA [0, 1, 2, 3, 4, 5, 6, 7, 8, 9, 10, 11, 12, 13, 14, 15, 16, 17, 18, 19, 20, 21, 22, 23] (kk_m0 24 (by decide +kernel) rfl) (by decide +kernel) rfl (kk_s0 24 (by decide +kernel) rfl rfl) rfl rfl rfl rfl rfl hl.1 (Nat.le_of_ble_eq_true rfl) dX4_trouble_2 (fun H locs hP hD hS => ?_)
  refine lv_iload_n hx hb dX4_trouble_5 rfl (lv_at hl 2 rfl) ?_
  refine lv_if_lt (tgt := 14) hx hb dX4_trouble_6 (by decide) (fun c3 => ?_) (fun c3 => ?_)
  · replace hR := (if_pos c3).symm.trans hR
    obtain rfl := Sum.inl.inj (Option.some.inj hR)
    exact kk_throw (names := ["java/lang/RuntimeException", "java/lang/Exception"]) (text := "reason is out of range") (k := 2) hC hst hlocks hno hK hG hP hD hS hA rfl rfl (by decide +kernel) (by decide +kernel) (by decide +kernel) hl0 hl1 (by decide +kernel) (by decide +kernel) (by decide +kernel) hl.1 dX4_trouble_14 dX4_trouble_17 dX4_trouble_18 dX4_trouble_20 dX4_trouble_23 ⟨Nat.le_of_ble_eq_true rfl, Nat.le_of_ble_eq_true rfl, Nat.le_of_ble_eq_true rfl, Nat.le_of_ble_eq_true rfl⟩
  · replace hR := (if_neg c3).symm.trans hR
    refine lv_iload_n hx hb dX4_trouble_9 rfl (lv_at hl 2 rfl) ?_
    refine lv_iconst (v := (3 : Int32)) hx hb dX4_trouble_10 (by decide) ?_
    refine lv_icmp_lt (tgt := 24) hx hb dX4_trouble_11 (by decide) (fun c4 => ?_) (fun c4 => ?_)
    · replace hR := (if_pos c4).symm.trans hR
      refine lv_aload_n hx hb dX4_trouble_24 rfl (lv_at hl 0 rfl) ?_
      refine va_get (ci := 4) (C := RX4) (T := TX4) (N := 7) hx hb hts hw4 hown hK hP 0 rfl rfl 0 (by decide) hl2 (fun _ h9 => h9) rfl dX4_trouble_25 ?_
      refine lv_iload_n hx hb dX4_trouble_28 rfl (lv_at hl 1 rfl) ?_
      refine lv_iload_n hx hb dX4_trouble_29 rfl (lv_at hl 2 rfl) ?_
      obtain ⟨x5, hq5, hR⟩ := kk_bd_el hR
      refine kk_call_Vi (w' := (w_F g a G)) (As := [.int v1, .int v2]) (rest := []) 2 2 hC (sX2_troubleBy l g n (a 1) (G 1) v1 v2 x5 hq5) (cwV 2 hts gX4_trouble_X2_troubleBy rfl rfl rfl (by decide +kernel) ⟨Nat.le_of_ble_eq_true rfl, Nat.le_of_ble_eq_true rfl⟩) hK hP hD hS hA [2, 3, 4, 5, 6, 7, 8, 9, 10, 11] (kk_ml 23 rfl (by decide +kernel) (kk_ml 22 rfl (by decide +kernel) (kk_ml 12 rfl (by decide +kernel) (kk_mr (js := [0, 1, 2, 3, 4, 5, 6, 7, 8, 9]) 2 rfl (by decide +kernel) (kk_m0 10 (by decide +kernel) rfl))))) (by decide +kernel) rfl (kk_sl 23 rfl (by decide +kernel) (kk_sl 22 rfl (by decide +kernel) (kk_sl 12 rfl (by decide +kernel) (kk_sr (js := [0, 1, 2, 3, 4, 5, 6, 7, 8, 9]) 2 rfl (by decide +kernel) (kk_s0 10 (by decide +kernel) rfl rfl))))) rfl rfl rfl rfl rfl hl.1 (Nat.le_of_ble_eq_true rfl) dX4_trouble_30 (fun H locs hP hD hS => ?_)
      cases hR
    · replace hR := (if_neg c4).symm.trans hR
      obtain rfl := Sum.inl.inj (Option.some.inj hR)
      exact kk_throw (names := ["java/lang/RuntimeException", "java/lang/Exception"]) (text := "reason is out of range") (k := 2) hC hst hlocks hno hK hG hP hD hS hA rfl rfl (by decide +kernel) (by decide +kernel) (by decide +kernel) hl0 hl1 (by decide +kernel) (by decide +kernel) (by decide +kernel) hl.1 dX4_trouble_14 dX4_trouble_17 dX4_trouble_18 dX4_trouble_20 dX4_trouble_23 ⟨Nat.le_of_ble_eq_true rfl, Nat.le_of_ble_eq_true rfl, Nat.le_of_ble_eq_true rfl, Nat.le_of_ble_eq_true rfl⟩
set_option maxHeartbeats 8000000 in
set_option maxRecDepth 100000 in
theorem sX4_comes (l : Launch) (g : kG) (n : Nat) (a : Nat → Nat → Nat) (G : St2) (v1 : Int32) (v2 : Int32) (r : Int32 × St2) (hR : fX4_comes n G v1 v2 = some (.inr r)) : kSp l g yX4_comes wsX4_comes ({ frames := 2, cells := 0, slots := 0, locals := 49 }) [.ref (a 0 0), .int v1, .int v2] (w_F g a G) (kQi g (w_F g a r.2) r.1) := by
  refine kSp.of (cc := cX4_comes) (maxL := 3) (ret := (some .int)) (by decide) rfl (Nat.le_of_ble_eq_true rfl) ?_
  intro p e s m args below meth c ls A hC hr hlocks hA hK hl hP hD hS
  replace hC : CallFix p m c cX4_comes 3 s args wsX4_comes RX4 := hC
  obtain ⟨hx, hb, hml, hown, hts⟩ := id hC
  replace hl : lv_has ls 3 [(0, .ref (a 0 0)), (1, .int v1), (2, .int v2)] := hl
  unfold fX4_comes at hR
  have hw2 : ∀ w ∈ wsX20, w ∈ wsX4_comes := by decide +kernel
  have hw4 : ∀ w ∈ wsX40, w ∈ wsX4_comes := by decide +kernel
  have hl0 := hts (.fieldLink RX4 10 "FloatOrder" "parade" "LFloatOrder$Parade;") (by decide +kernel)
  have hl1 := hts (.fieldLink RX4 193 "FloatOrder$Parade" "came" "[I") (by decide +kernel)
  have hl2 := hts (.fieldLink RX4 117 "FloatOrder$Parade" "bridges" "I") (by decide +kernel)
  refine lv_aload_n hx hb dX4_comes_0 rfl (lv_at hl 0 rfl) ?_
  refine lv_iload_n hx hb dX4_comes_1 rfl (lv_at hl 1 rfl) ?_
  obtain ⟨y1, hq2, hR⟩ := kk_bd_el hR
  obtain ⟨x2, ex2, hR⟩ := kk_tr_ok hR
  subst ex2
  refine kk_call_Vv (w' := (w_F g a G)) (As := [.int v1]) (rest := []) 0 4 hC (sX4_needFloat l g n a G v1 x2 hq2) (cwV 1 hts gX4_comes_X4_needFloat rfl rfl rfl (by decide +kernel) ⟨Nat.le_of_ble_eq_true rfl, Nat.le_of_ble_eq_true rfl⟩) hK hP hD hS hA [0, 1, 2, 3, 4, 5, 6, 7, 8, 9, 10, 11, 12, 13, 14, 15, 16, 17, 18, 19, 20, 21, 22, 23] (kk_m0 24 (by decide +kernel) rfl) (by decide +kernel) rfl (kk_s0 24 (by decide +kernel) rfl rfl) rfl rfl rfl rfl rfl hl.1 (Nat.le_of_ble_eq_true rfl) dX4_comes_2 (fun H locs hP hD hS => ?_)
  refine lv_iload_n hx hb dX4_comes_5 rfl (lv_at hl 2 rfl) ?_
  refine lv_iconst (v := (-1 : Int32)) hx hb dX4_comes_6 (by decide) ?_
  refine lv_icmp_eq (tgt := 15) hx hb dX4_comes_7 (by decide) (fun c3 => ?_) (fun c3 => ?_)
  · replace hR := (if_pos c3).symm.trans hR
    refine lv_aload_n hx hb dX4_comes_15 rfl (lv_at hl 0 rfl) ?_
    refine va_get (ci := 4) (C := RX4) (T := TX4) (N := 7) hx hb hts hw4 hown hK hP 0 rfl rfl 0 (by decide) hl0 (fun _ h9 => h9) rfl dX4_comes_16 ?_
    refine lv_iload_n hx hb dX4_comes_19 rfl (lv_at hl 1 rfl) ?_
    obtain ⟨x4, hq4, hR⟩ := kk_bd_el hR
    obtain ⟨G5, eG5, hR⟩ := kk_nm_el hR
    refine kk_call_Vv (w' := (w_F g a G5)) (As := [.int v1]) (rest := []) 2 2 hC (sX2_travel l g n (a 1) (G 1) v1 x4 hq4) (cwV 1 hts gX4_comes_X2_travel rfl rfl rfl (by decide +kernel) ⟨Nat.le_of_ble_eq_true rfl, Nat.le_of_ble_eq_true rfl⟩) hK hP hD hS hA [2, 3, 4, 5, 6, 7, 8, 9, 10, 11] (kk_ml 23 rfl (by decide +kernel) (kk_ml 22 rfl (by decide +kernel) (kk_ml 12 rfl (by decide +kernel) (kk_mr (js := [0, 1, 2, 3, 4, 5, 6, 7, 8, 9]) 2 rfl (by decide +kernel) (kk_m0 10 (by decide +kernel) rfl))))) (by decide +kernel) rfl (by rw [eG5]; exact kk_sl 23 rfl (by decide +kernel) (kk_sl 22 rfl (by decide +kernel) (kk_sl 12 rfl (by decide +kernel) (kk_sr (js := [0, 1, 2, 3, 4, 5, 6, 7, 8, 9]) 2 rfl (by decide +kernel) (kk_s0 10 (by decide +kernel) rfl rfl))))) rfl rfl rfl rfl rfl hl.1 (Nat.le_of_ble_eq_true rfl) dX4_comes_20 (fun H locs hP hD hS => ?_)
    refine lv_aload_n hx hb dX4_comes_23 rfl (lv_at hl 0 rfl) ?_
    refine va_get (ci := 4) (C := RX4) (T := TX4) (N := 7) hx hb hts hw4 hown hK hP 0 rfl rfl 0 (by decide) hl0 (fun _ h9 => h9) rfl dX4_comes_24 ?_
    refine va_get (ci := 2) (C := RX2) (T := TX2) (N := 11) hx hb hts hw2 hown hK hP 2 rfl rfl 9 (by decide) hl1 (fun _ h9 => h9) rfl dX4_comes_27 ?_
    refine lv_iload_n hx hb dX4_comes_30 rfl (lv_at hl 2 rfl) ?_
    refine lv_iconst (v := (-1 : Int32)) hx hb dX4_comes_31 (by decide) ?_
    refine lv_icmp_ne (tgt := 45) hx hb dX4_comes_32 (by decide) (fun c6 => ?_) (fun c6 => ?_)
    · replace hR := (if_neg c6).symm.trans hR
      refine lv_iload_n hx hb dX4_comes_45 rfl (lv_at hl 2 rfl) ?_
      obtain ⟨hi7, hR⟩ := kk_ck_el hR
      refine va_iald hx hb hK hP 10 0 rfl rfl hi7 dX4_comes_46 ?_
      obtain rfl := Sum.inr.inj (Option.some.inj hR)
      exact kk_ret_i hC hr hlocks hK hP hD hS dX4_comes_47 rfl
    · replace hR := (if_pos c6).symm.trans hR
      refine lv_aload_n hx hb dX4_comes_35 rfl (lv_at hl 0 rfl) ?_
      refine va_get (ci := 4) (C := RX4) (T := TX4) (N := 7) hx hb hts hw4 hown hK hP 0 rfl rfl 0 (by decide) hl0 (fun _ h9 => h9) rfl dX4_comes_36 ?_
      refine va_get (ci := 2) (C := RX2) (T := TX2) (N := 11) hx hb hts hw2 hown hK hP 2 rfl rfl 5 (by decide) hl2 (fun _ h9 => h9) rfl dX4_comes_39 ?_
      refine lv_goto (tgt := 46) hx hb dX4_comes_42 (by decide) ?_
      obtain ⟨hi8, hR⟩ := kk_ck_el hR
      refine va_iald hx hb hK hP 10 0 rfl rfl hi8 dX4_comes_46 ?_
      obtain rfl := Sum.inr.inj (Option.some.inj hR)
      exact kk_ret_i hC hr hlocks hK hP hD hS dX4_comes_47 rfl
  · replace hR := (if_neg c3).symm.trans hR
    refine lv_aload_n hx hb dX4_comes_10 rfl (lv_at hl 0 rfl) ?_
    refine lv_iload_n hx hb dX4_comes_11 rfl (lv_at hl 2 rfl) ?_
    obtain ⟨y9, hq10, hR⟩ := kk_bd_el hR
    obtain ⟨x10, ex10, hR⟩ := kk_tr_ok hR
    subst ex10
    refine kk_call_Vv (w' := (w_F g a G)) (As := [.int v2]) (rest := []) 0 4 hC (sX4_needBridge l g n a G v2 x10 hq10) (cwV 1 hts gX4_comes_X4_needBridge rfl rfl rfl (by decide +kernel) ⟨Nat.le_of_ble_eq_true rfl, Nat.le_of_ble_eq_true rfl⟩) hK hP hD hS hA [0, 1, 2, 3, 4, 5, 6, 7, 8, 9, 10, 11, 12, 13, 14, 15, 16, 17, 18, 19, 20, 21, 22, 23] (kk_m0 24 (by decide +kernel) rfl) (by decide +kernel) rfl (kk_s0 24 (by decide +kernel) rfl rfl) rfl rfl rfl rfl rfl hl.1 (Nat.le_of_ble_eq_true rfl) dX4_comes_12 (fun H locs hP hD hS => ?_)
    refine lv_aload_n hx hb dX4_comes_15 rfl (lv_at hl 0 rfl) ?_
    refine va_get (ci := 4) (C := RX4) (T := TX4) (N := 7) hx hb hts hw4 hown hK hP 0 rfl rfl 0 (by decide) hl0 (fun _ h9 => h9) rfl dX4_comes_16 ?_
    refine lv_iload_n hx hb dX4_comes_19 rfl (lv_at hl 1 rfl) ?_
    obtain ⟨x11, hq11, hR⟩ := kk_bd_el hR
    obtain ⟨G12, eG12, hR⟩ := kk_nm_el hR
    refine kk_call_Vv (w' := (w_F g a G12)) (As := [.int v1]) (rest := []) 2 2 hC (sX2_travel l g n (a 1) (G 1) v1 x11 hq11) (cwV 1 hts gX4_comes_X2_travel rfl rfl rfl (by decide +kernel) ⟨Nat.le_of_ble_eq_true rfl, Nat.le_of_ble_eq_true rfl⟩) hK hP hD hS hA [2, 3, 4, 5, 6, 7, 8, 9, 10, 11] (kk_ml 23 rfl (by decide +kernel) (kk_ml 22 rfl (by decide +kernel) (kk_ml 12 rfl (by decide +kernel) (kk_mr (js := [0, 1, 2, 3, 4, 5, 6, 7, 8, 9]) 2 rfl (by decide +kernel) (kk_m0 10 (by decide +kernel) rfl))))) (by decide +kernel) rfl (by rw [eG12]; exact kk_sl 23 rfl (by decide +kernel) (kk_sl 22 rfl (by decide +kernel) (kk_sl 12 rfl (by decide +kernel) (kk_sr (js := [0, 1, 2, 3, 4, 5, 6, 7, 8, 9]) 2 rfl (by decide +kernel) (kk_s0 10 (by decide +kernel) rfl rfl))))) rfl rfl rfl rfl rfl hl.1 (Nat.le_of_ble_eq_true rfl) dX4_comes_20 (fun H locs hP hD hS => ?_)
    refine lv_aload_n hx hb dX4_comes_23 rfl (lv_at hl 0 rfl) ?_
    refine va_get (ci := 4) (C := RX4) (T := TX4) (N := 7) hx hb hts hw4 hown hK hP 0 rfl rfl 0 (by decide) hl0 (fun _ h9 => h9) rfl dX4_comes_24 ?_
    refine va_get (ci := 2) (C := RX2) (T := TX2) (N := 11) hx hb hts hw2 hown hK hP 2 rfl rfl 9 (by decide) hl1 (fun _ h9 => h9) rfl dX4_comes_27 ?_
    refine lv_iload_n hx hb dX4_comes_30 rfl (lv_at hl 2 rfl) ?_
    refine lv_iconst (v := (-1 : Int32)) hx hb dX4_comes_31 (by decide) ?_
    refine lv_icmp_ne (tgt := 45) hx hb dX4_comes_32 (by decide) (fun c13 => ?_) (fun c13 => ?_)
    · replace hR := (if_neg c13).symm.trans hR
      refine lv_iload_n hx hb dX4_comes_45 rfl (lv_at hl 2 rfl) ?_
      obtain ⟨hi14, hR⟩ := kk_ck_el hR
      refine va_iald hx hb hK hP 10 0 rfl rfl hi14 dX4_comes_46 ?_
      obtain rfl := Sum.inr.inj (Option.some.inj hR)
      exact kk_ret_i hC hr hlocks hK hP hD hS dX4_comes_47 rfl
    · replace hR := (if_pos c13).symm.trans hR
      refine lv_aload_n hx hb dX4_comes_35 rfl (lv_at hl 0 rfl) ?_
      refine va_get (ci := 4) (C := RX4) (T := TX4) (N := 7) hx hb hts hw4 hown hK hP 0 rfl rfl 0 (by decide) hl0 (fun _ h9 => h9) rfl dX4_comes_36 ?_
      refine va_get (ci := 2) (C := RX2) (T := TX2) (N := 11) hx hb hts hw2 hown hK hP 2 rfl rfl 5 (by decide) hl2 (fun _ h9 => h9) rfl dX4_comes_39 ?_
      refine lv_goto (tgt := 46) hx hb dX4_comes_42 (by decide) ?_
      obtain ⟨hi15, hR⟩ := kk_ck_el hR
      refine va_iald hx hb hK hP 10 0 rfl rfl hi15 dX4_comes_46 ?_
      obtain rfl := Sum.inr.inj (Option.some.inj hR)
      exact kk_ret_i hC hr hlocks hK hP hD hS dX4_comes_47 rfl
set_option maxHeartbeats 8000000 in
set_option maxRecDepth 100000 in
theorem sX4_comes_th (l : Launch) (hst : l.stackTraces = false) (g : kG) (n : Nat) (a : Nat → Nat → Nat) (G : St2) (v1 : Int32) (v2 : Int32) (k : Nat) (hR : fX4_comes n G v1 v2 = some (.inl k)) : kSt l g yX4_comes wsX4_comes ({ frames := 7, cells := 1, slots := 6, locals := 111 }) [.ref (a 0 0), .int v1, .int v2] (w_F g a G) (w_F g a G) k := by
  refine kSt.of (cc := cX4_comes) (maxL := 3) (ret := (some .int)) (by decide) rfl (Nat.le_of_ble_eq_true rfl) ?_
  intro p e s m args below meth c ls A hC hlocks hno hA hK hG hl hP hD hS
  replace hC : CallFix p m c cX4_comes 3 s args wsX4_comes RX4 := hC
  obtain ⟨hx, hb, hml, hown, hts⟩ := id hC
  replace hl : lv_has ls 3 [(0, .ref (a 0 0)), (1, .int v1), (2, .int v2)] := hl
  unfold fX4_comes at hR
  have hw2 : ∀ w ∈ wsX20, w ∈ wsX4_comes := by decide +kernel
  have hw4 : ∀ w ∈ wsX40, w ∈ wsX4_comes := by decide +kernel
  have hl0 := hts (.fieldLink RX4 10 "FloatOrder" "parade" "LFloatOrder$Parade;") (by decide +kernel)
  have hl1 := hts (.fieldLink RX4 193 "FloatOrder$Parade" "came" "[I") (by decide +kernel)
  have hl2 := hts (.fieldLink RX4 117 "FloatOrder$Parade" "bridges" "I") (by decide +kernel)
  refine lv_aload_n hx hb dX4_comes_0 rfl (lv_at hl 0 rfl) ?_
  refine lv_iload_n hx hb dX4_comes_1 rfl (lv_at hl 1 rfl) ?_
  obtain ⟨y1, hq2, hR⟩ := kk_bd_el hR
  rcases kk_tr_th hR with ex2 | ⟨x2, ex2, hR⟩
  · subst ex2
    exact kk_callT_V (As := [.int v1]) (rest := []) 0 4 hC (sX4_needFloat_th l hst g n a G v1 k hq2) (cwV 1 hts gX4_comes_X4_needFloat rfl rfl rfl (by decide +kernel) ⟨Nat.le_of_ble_eq_true rfl, Nat.le_of_ble_eq_true rfl⟩) hlocks hno hK hG hP hD hS hA [0, 1, 2, 3, 4, 5, 6, 7, 8, 9, 10, 11, 12, 13, 14, 15, 16, 17, 18, 19, 20, 21, 22, 23] (kk_m0 24 (by decide +kernel) rfl) (by decide +kernel) rfl (kk_s0 24 (by decide +kernel) rfl rfl) rfl rfl rfl rfl rfl hl.1 (Nat.le_of_ble_eq_true rfl) dX4_comes_2 ⟨Nat.le_of_ble_eq_true rfl, Nat.le_of_ble_eq_true rfl⟩
  subst ex2
  refine kk_call_Vv (w' := (w_F g a G)) (As := [.int v1]) (rest := []) 0 4 hC (sX4_needFloat l g n a G v1 x2 hq2) (cwV 1 hts gX4_comes_X4_needFloat rfl rfl rfl (by decide +kernel) ⟨Nat.le_of_ble_eq_true rfl, Nat.le_of_ble_eq_true rfl⟩) hK hP hD hS hA [0, 1, 2, 3, 4, 5, 6, 7, 8, 9, 10, 11, 12, 13, 14, 15, 16, 17, 18, 19, 20, 21, 22, 23] (kk_m0 24 (by decide +kernel) rfl) (by decide +kernel) rfl (kk_s0 24 (by decide +kernel) rfl rfl) rfl rfl rfl rfl rfl hl.1 (Nat.le_of_ble_eq_true rfl) dX4_comes_2 (fun H locs hP hD hS => ?_)
  refine lv_iload_n hx hb dX4_comes_5 rfl (lv_at hl 2 rfl) ?_
  refine lv_iconst (v := (-1 : Int32)) hx hb dX4_comes_6 (by decide) ?_
  refine lv_icmp_eq (tgt := 15) hx hb dX4_comes_7 (by decide) (fun c3 => ?_) (fun c3 => ?_)
  · replace hR := (if_pos c3).symm.trans hR
    refine lv_aload_n hx hb dX4_comes_15 rfl (lv_at hl 0 rfl) ?_
    refine va_get (ci := 4) (C := RX4) (T := TX4) (N := 7) hx hb hts hw4 hown hK hP 0 rfl rfl 0 (by decide) hl0 (fun _ h9 => h9) rfl dX4_comes_16 ?_
    refine lv_iload_n hx hb dX4_comes_19 rfl (lv_at hl 1 rfl) ?_
    obtain ⟨x4, hq4, hR⟩ := kk_bd_el hR
    obtain ⟨G5, eG5, hR⟩ := kk_nm_el hR
    refine kk_call_Vv (w' := (w_F g a G5)) (As := [.int v1]) (rest := []) 2 2 hC (sX2_travel l g n (a 1) (G 1) v1 x4 hq4) (cwV 1 hts gX4_comes_X2_travel rfl rfl rfl (by decide +kernel) ⟨Nat.le_of_ble_eq_true rfl, Nat.le_of_ble_eq_true rfl⟩) hK hP hD hS hA [2, 3, 4, 5, 6, 7, 8, 9, 10, 11] (kk_ml 23 rfl (by decide +kernel) (kk_ml 22 rfl (by decide +kernel) (kk_ml 12 rfl (by decide +kernel) (kk_mr (js := [0, 1, 2, 3, 4, 5, 6, 7, 8, 9]) 2 rfl (by decide +kernel) (kk_m0 10 (by decide +kernel) rfl))))) (by decide +kernel) rfl (by rw [eG5]; exact kk_sl 23 rfl (by decide +kernel) (kk_sl 22 rfl (by decide +kernel) (kk_sl 12 rfl (by decide +kernel) (kk_sr (js := [0, 1, 2, 3, 4, 5, 6, 7, 8, 9]) 2 rfl (by decide +kernel) (kk_s0 10 (by decide +kernel) rfl rfl))))) rfl rfl rfl rfl rfl hl.1 (Nat.le_of_ble_eq_true rfl) dX4_comes_20 (fun H locs hP hD hS => ?_)
    refine lv_aload_n hx hb dX4_comes_23 rfl (lv_at hl 0 rfl) ?_
    refine va_get (ci := 4) (C := RX4) (T := TX4) (N := 7) hx hb hts hw4 hown hK hP 0 rfl rfl 0 (by decide) hl0 (fun _ h9 => h9) rfl dX4_comes_24 ?_
    refine va_get (ci := 2) (C := RX2) (T := TX2) (N := 11) hx hb hts hw2 hown hK hP 2 rfl rfl 9 (by decide) hl1 (fun _ h9 => h9) rfl dX4_comes_27 ?_
    refine lv_iload_n hx hb dX4_comes_30 rfl (lv_at hl 2 rfl) ?_
    refine lv_iconst (v := (-1 : Int32)) hx hb dX4_comes_31 (by decide) ?_
    refine lv_icmp_ne (tgt := 45) hx hb dX4_comes_32 (by decide) (fun c6 => ?_) (fun c6 => ?_)
    · replace hR := (if_neg c6).symm.trans hR
      refine lv_iload_n hx hb dX4_comes_45 rfl (lv_at hl 2 rfl) ?_
      obtain ⟨hi7, hR⟩ := kk_ck_el hR
      refine va_iald hx hb hK hP 10 0 rfl rfl hi7 dX4_comes_46 ?_
      cases hR
    · replace hR := (if_pos c6).symm.trans hR
      refine lv_aload_n hx hb dX4_comes_35 rfl (lv_at hl 0 rfl) ?_
      refine va_get (ci := 4) (C := RX4) (T := TX4) (N := 7) hx hb hts hw4 hown hK hP 0 rfl rfl 0 (by decide) hl0 (fun _ h9 => h9) rfl dX4_comes_36 ?_
      refine va_get (ci := 2) (C := RX2) (T := TX2) (N := 11) hx hb hts hw2 hown hK hP 2 rfl rfl 5 (by decide) hl2 (fun _ h9 => h9) rfl dX4_comes_39 ?_
      refine lv_goto (tgt := 46) hx hb dX4_comes_42 (by decide) ?_
      obtain ⟨hi8, hR⟩ := kk_ck_el hR
      refine va_iald hx hb hK hP 10 0 rfl rfl hi8 dX4_comes_46 ?_
      cases hR
  · replace hR := (if_neg c3).symm.trans hR
    refine lv_aload_n hx hb dX4_comes_10 rfl (lv_at hl 0 rfl) ?_
    refine lv_iload_n hx hb dX4_comes_11 rfl (lv_at hl 2 rfl) ?_
    obtain ⟨y9, hq10, hR⟩ := kk_bd_el hR
    rcases kk_tr_th hR with ex10 | ⟨x10, ex10, hR⟩
    · subst ex10
      exact kk_callT_V (As := [.int v2]) (rest := []) 0 4 hC (sX4_needBridge_th l hst g n a G v2 k hq10) (cwV 1 hts gX4_comes_X4_needBridge rfl rfl rfl (by decide +kernel) ⟨Nat.le_of_ble_eq_true rfl, Nat.le_of_ble_eq_true rfl⟩) hlocks hno hK hG hP hD hS hA [0, 1, 2, 3, 4, 5, 6, 7, 8, 9, 10, 11, 12, 13, 14, 15, 16, 17, 18, 19, 20, 21, 22, 23] (kk_m0 24 (by decide +kernel) rfl) (by decide +kernel) rfl (kk_s0 24 (by decide +kernel) rfl rfl) rfl rfl rfl rfl rfl hl.1 (Nat.le_of_ble_eq_true rfl) dX4_comes_12 ⟨Nat.le_of_ble_eq_true rfl, Nat.le_of_ble_eq_true rfl⟩
    subst ex10
    refine kk_call_Vv (w' := (w_F g a G)) (As := [.int v2]) (rest := []) 0 4 hC (sX4_needBridge l g n a G v2 x10 hq10) (cwV 1 hts gX4_comes_X4_needBridge rfl rfl rfl (by decide +kernel) ⟨Nat.le_of_ble_eq_true rfl, Nat.le_of_ble_eq_true rfl⟩) hK hP hD hS hA [0, 1, 2, 3, 4, 5, 6, 7, 8, 9, 10, 11, 12, 13, 14, 15, 16, 17, 18, 19, 20, 21, 22, 23] (kk_m0 24 (by decide +kernel) rfl) (by decide +kernel) rfl (kk_s0 24 (by decide +kernel) rfl rfl) rfl rfl rfl rfl rfl hl.1 (Nat.le_of_ble_eq_true rfl) dX4_comes_12 (fun H locs hP hD hS => ?_)
    refine lv_aload_n hx hb dX4_comes_15 rfl (lv_at hl 0 rfl) ?_
    refine va_get (ci := 4) (C := RX4) (T := TX4) (N := 7) hx hb hts hw4 hown hK hP 0 rfl rfl 0 (by decide) hl0 (fun _ h9 => h9) rfl dX4_comes_16 ?_
    refine lv_iload_n hx hb dX4_comes_19 rfl (lv_at hl 1 rfl) ?_
    obtain ⟨x11, hq11, hR⟩ := kk_bd_el hR
    obtain ⟨G12, eG12, hR⟩ := kk_nm_el hR
    refine kk_call_Vv (w' := (w_F g a G12)) (As := [.int v1]) (rest := []) 2 2 hC (sX2_travel l g n (a 1) (G 1) v1 x11 hq11) (cwV 1 hts gX4_comes_X2_travel rfl rfl rfl (by decide +kernel) ⟨Nat.le_of_ble_eq_true rfl, Nat.le_of_ble_eq_true rfl⟩) hK hP hD hS hA [2, 3, 4, 5, 6, 7, 8, 9, 10, 11] (kk_ml 23 rfl (by decide +kernel) (kk_ml 22 rfl (by decide +kernel) (kk_ml 12 rfl (by decide +kernel) (kk_mr (js := [0, 1, 2, 3, 4, 5, 6, 7, 8, 9]) 2 rfl (by decide +kernel) (kk_m0 10 (by decide +kernel) rfl))))) (by decide +kernel) rfl (by rw [eG12]; exact kk_sl 23 rfl (by decide +kernel) (kk_sl 22 rfl (by decide +kernel) (kk_sl 12 rfl (by decide +kernel) (kk_sr (js := [0, 1, 2, 3, 4, 5, 6, 7, 8, 9]) 2 rfl (by decide +kernel) (kk_s0 10 (by decide +kernel) rfl rfl))))) rfl rfl rfl rfl rfl hl.1 (Nat.le_of_ble_eq_true rfl) dX4_comes_20 (fun H locs hP hD hS => ?_)
    refine lv_aload_n hx hb dX4_comes_23 rfl (lv_at hl 0 rfl) ?_
    refine va_get (ci := 4) (C := RX4) (T := TX4) (N := 7) hx hb hts hw4 hown hK hP 0 rfl rfl 0 (by decide) hl0 (fun _ h9 => h9) rfl dX4_comes_24 ?_
    refine va_get (ci := 2) (C := RX2) (T := TX2) (N := 11) hx hb hts hw2 hown hK hP 2 rfl rfl 9 (by decide) hl1 (fun _ h9 => h9) rfl dX4_comes_27 ?_
    refine lv_iload_n hx hb dX4_comes_30 rfl (lv_at hl 2 rfl) ?_
    refine lv_iconst (v := (-1 : Int32)) hx hb dX4_comes_31 (by decide) ?_
    refine lv_icmp_ne (tgt := 45) hx hb dX4_comes_32 (by decide) (fun c13 => ?_) (fun c13 => ?_)
    · replace hR := (if_neg c13).symm.trans hR
      refine lv_iload_n hx hb dX4_comes_45 rfl (lv_at hl 2 rfl) ?_
      obtain ⟨hi14, hR⟩ := kk_ck_el hR
      refine va_iald hx hb hK hP 10 0 rfl rfl hi14 dX4_comes_46 ?_
      cases hR
    · replace hR := (if_pos c13).symm.trans hR
      refine lv_aload_n hx hb dX4_comes_35 rfl (lv_at hl 0 rfl) ?_
      refine va_get (ci := 4) (C := RX4) (T := TX4) (N := 7) hx hb hts hw4 hown hK hP 0 rfl rfl 0 (by decide) hl0 (fun _ h9 => h9) rfl dX4_comes_36 ?_
      refine va_get (ci := 2) (C := RX2) (T := TX2) (N := 11) hx hb hts hw2 hown hK hP 2 rfl rfl 5 (by decide) hl2 (fun _ h9 => h9) rfl dX4_comes_39 ?_
      refine lv_goto (tgt := 46) hx hb dX4_comes_42 (by decide) ?_
      obtain ⟨hi15, hR⟩ := kk_ck_el hR
      refine va_iald hx hb hK hP 10 0 rfl rfl hi15 dX4_comes_46 ?_
      cases hR
set_option maxHeartbeats 8000000 in
set_option maxRecDepth 100000 in
theorem sX4_bridgeOf (l : Launch) (g : kG) (n : Nat) (a : Nat → Nat → Nat) (G : St2) (v1 : Int32) (v2 : Int32) (r : Int32) (hR : fX4_bridgeOf n G v1 v2 = some (.inr r)) : kSp l g yX4_bridgeOf wsX4_bridgeOf ({ frames := 4, cells := 0, slots := 0, locals := 89 }) [.ref (a 0 0), .int v1, .int v2] (w_F g a G) (kQi g (w_F g a G) r) := by
  refine kSp.of (cc := cX4_bridgeOf) (maxL := 3) (ret := (some .int)) (by decide) rfl (Nat.le_of_ble_eq_true rfl) ?_
  intro p e s m args below meth c ls A hC hr hlocks hA hK hl hP hD hS
  replace hC : CallFix p m c cX4_bridgeOf 3 s args wsX4_bridgeOf RX4 := hC
  obtain ⟨hx, hb, hml, hown, hts⟩ := id hC
  replace hl : lv_has ls 3 [(0, .ref (a 0 0)), (1, .int v1), (2, .int v2)] := hl
  unfold fX4_bridgeOf at hR
  have hw4 : ∀ w ∈ wsX40, w ∈ wsX4_bridgeOf := by decide +kernel
  have hl0 := hts (.fieldLink RX4 10 "FloatOrder" "parade" "LFloatOrder$Parade;") (by decide +kernel)
  refine lv_aload_n hx hb dX4_bridgeOf_0 rfl (lv_at hl 0 rfl) ?_
  refine lv_iload_n hx hb dX4_bridgeOf_1 rfl (lv_at hl 1 rfl) ?_
  obtain ⟨y1, hq2, hR⟩ := kk_bd_el hR
  obtain ⟨x2, ex2, hR⟩ := kk_tr_ok hR
  subst ex2
  refine kk_call_Vv (w' := (w_F g a G)) (As := [.int v1]) (rest := []) 0 4 hC (sX4_needBridge l g n a G v1 x2 hq2) (cwV 1 hts gX4_bridgeOf_X4_needBridge rfl rfl rfl (by decide +kernel) ⟨Nat.le_of_ble_eq_true rfl, Nat.le_of_ble_eq_true rfl⟩) hK hP hD hS hA [0, 1, 2, 3, 4, 5, 6, 7, 8, 9, 10, 11, 12, 13, 14, 15, 16, 17, 18, 19, 20, 21, 22, 23] (kk_m0 24 (by decide +kernel) rfl) (by decide +kernel) rfl (kk_s0 24 (by decide +kernel) rfl rfl) rfl rfl rfl rfl rfl hl.1 (Nat.le_of_ble_eq_true rfl) dX4_bridgeOf_2 (fun H locs hP hD hS => ?_)
  refine lv_iload_n hx hb dX4_bridgeOf_5 rfl (lv_at hl 2 rfl) ?_
  refine lv_if_lt (tgt := 14) hx hb dX4_bridgeOf_6 (by decide) (fun c3 => ?_) (fun c3 => ?_)
  · replace hR := (if_pos c3).symm.trans hR
    cases hR
  · replace hR := (if_neg c3).symm.trans hR
    refine lv_iload_n hx hb dX4_bridgeOf_9 rfl (lv_at hl 2 rfl) ?_
    refine lv_iconst (v := (3 : Int32)) hx hb dX4_bridgeOf_10 (by decide) ?_
    refine lv_icmp_lt (tgt := 24) hx hb dX4_bridgeOf_11 (by decide) (fun c4 => ?_) (fun c4 => ?_)
    · replace hR := (if_pos c4).symm.trans hR
      refine lv_aload_n hx hb dX4_bridgeOf_24 rfl (lv_at hl 0 rfl) ?_
      refine va_get (ci := 4) (C := RX4) (T := TX4) (N := 7) hx hb hts hw4 hown hK hP 0 rfl rfl 0 (by decide) hl0 (fun _ h9 => h9) rfl dX4_bridgeOf_25 ?_
      refine lv_iload_n hx hb dX4_bridgeOf_28 rfl (lv_at hl 1 rfl) ?_
      refine lv_iload_n hx hb dX4_bridgeOf_29 rfl (lv_at hl 2 rfl) ?_
      obtain ⟨x5, hq5, hR⟩ := kk_bd_el hR
      refine kk_call_Vi (w' := (w_F g a G)) (As := [.int v1, .int v2]) (rest := []) 2 2 hC (sX2_bridgeProperty l g n (a 1) (G 1) v1 v2 x5 hq5) (cwV 2 hts gX4_bridgeOf_X2_bridgeProperty rfl rfl rfl (by decide +kernel) ⟨Nat.le_of_ble_eq_true rfl, Nat.le_of_ble_eq_true rfl⟩) hK hP hD hS hA [2, 3, 4, 5, 6, 7, 8, 9, 10, 11] (kk_ml 23 rfl (by decide +kernel) (kk_ml 22 rfl (by decide +kernel) (kk_ml 12 rfl (by decide +kernel) (kk_mr (js := [0, 1, 2, 3, 4, 5, 6, 7, 8, 9]) 2 rfl (by decide +kernel) (kk_m0 10 (by decide +kernel) rfl))))) (by decide +kernel) rfl (kk_sl 23 rfl (by decide +kernel) (kk_sl 22 rfl (by decide +kernel) (kk_sl 12 rfl (by decide +kernel) (kk_sr (js := [0, 1, 2, 3, 4, 5, 6, 7, 8, 9]) 2 rfl (by decide +kernel) (kk_s0 10 (by decide +kernel) rfl rfl))))) rfl rfl rfl rfl rfl hl.1 (Nat.le_of_ble_eq_true rfl) dX4_bridgeOf_30 (fun H locs hP hD hS => ?_)
      obtain rfl := Sum.inr.inj (Option.some.inj hR)
      exact kk_ret_i hC hr hlocks hK hP hD hS dX4_bridgeOf_33 rfl
    · replace hR := (if_neg c4).symm.trans hR
      cases hR
set_option maxHeartbeats 8000000 in
set_option maxRecDepth 100000 in
theorem sX4_bridgeOf_th (l : Launch) (hst : l.stackTraces = false) (g : kG) (n : Nat) (a : Nat → Nat → Nat) (G : St2) (v1 : Int32) (v2 : Int32) (k : Nat) (hR : fX4_bridgeOf n G v1 v2 = some (.inl k)) : kSt l g yX4_bridgeOf wsX4_bridgeOf ({ frames := 7, cells := 1, slots := 6, locals := 111 }) [.ref (a 0 0), .int v1, .int v2] (w_F g a G) (w_F g a G) k := by
  refine kSt.of (cc := cX4_bridgeOf) (maxL := 3) (ret := (some .int)) (by decide) rfl (Nat.le_of_ble_eq_true rfl) ?_
  intro p e s m args below meth c ls A hC hlocks hno hA hK hG hl hP hD hS
  replace hC : CallFix p m c cX4_bridgeOf 3 s args wsX4_bridgeOf RX4 := hC
  obtain ⟨hx, hb, hml, hown, hts⟩ := id hC
  replace hl : lv_has ls 3 [(0, .ref (a 0 0)), (1, .int v1), (2, .int v2)] := hl
  unfold fX4_bridgeOf at hR
  have hw4 : ∀ w ∈ wsX40, w ∈ wsX4_bridgeOf := by decide +kernel
  have hl0 := hts (.classLink RX4 62 "java/lang/IllegalArgumentException") (by decide +kernel)
  have hl1 := hts (.initialized "java/lang/IllegalArgumentException") (by decide +kernel)
  have hl2 := hts (.fieldLink RX4 10 "FloatOrder" "parade" "LFloatOrder$Parade;") (by decide +kernel)
  refine lv_aload_n hx hb dX4_bridgeOf_0 rfl (lv_at hl 0 rfl) ?_
  refine lv_iload_n hx hb dX4_bridgeOf_1 rfl (lv_at hl 1 rfl) ?_
  obtain ⟨y1, hq2, hR⟩ := kk_bd_el hR
  rcases kk_tr_th hR with ex2 | ⟨x2, ex2, hR⟩
  · subst ex2
    exact kk_callT_V (As := [.int v1]) (rest := []) 0 4 hC (sX4_needBridge_th l hst g n a G v1 k hq2) (cwV 1 hts gX4_bridgeOf_X4_needBridge rfl rfl rfl (by decide +kernel) ⟨Nat.le_of_ble_eq_true rfl, Nat.le_of_ble_eq_true rfl⟩) hlocks hno hK hG hP hD hS hA [0, 1, 2, 3, 4, 5, 6, 7, 8, 9, 10, 11, 12, 13, 14, 15, 16, 17, 18, 19, 20, 21, 22, 23] (kk_m0 24 (by decide +kernel) rfl) (by decide +kernel) rfl (kk_s0 24 (by decide +kernel) rfl rfl) rfl rfl rfl rfl rfl hl.1 (Nat.le_of_ble_eq_true rfl) dX4_bridgeOf_2 ⟨Nat.le_of_ble_eq_true rfl, Nat.le_of_ble_eq_true rfl⟩
  subst ex2
  refine kk_call_Vv (w' := (w_F g a G)) (As := [.int v1]) (rest := []) 0 4 hC (sX4_needBridge l g n a G v1 x2 hq2) (cwV 1 hts gX4_bridgeOf_X4_needBridge rfl rfl rfl (by decide +kernel) ⟨Nat.le_of_ble_eq_true rfl, Nat.le_of_ble_eq_true rfl⟩) hK hP hD hS hA [0, 1, 2, 3, 4, 5, 6, 7, 8, 9, 10, 11, 12, 13, 14, 15, 16, 17, 18, 19, 20, 21, 22, 23] (kk_m0 24 (by decide +kernel) rfl) (by decide +kernel) rfl (kk_s0 24 (by decide +kernel) rfl rfl) rfl rfl rfl rfl rfl hl.1 (Nat.le_of_ble_eq_true rfl) dX4_bridgeOf_2 (fun H locs hP hD hS => ?_)
  refine lv_iload_n hx hb dX4_bridgeOf_5 rfl (lv_at hl 2 rfl) ?_
  refine lv_if_lt (tgt := 14) hx hb dX4_bridgeOf_6 (by decide) (fun c3 => ?_) (fun c3 => ?_)
  · replace hR := (if_pos c3).symm.trans hR
    obtain rfl := Sum.inl.inj (Option.some.inj hR)
    exact kk_throw (names := ["java/lang/RuntimeException", "java/lang/Exception"]) (text := "what is not 0 to 2") (k := 2) hC hst hlocks hno hK hG hP hD hS hA rfl rfl (by decide +kernel) (by decide +kernel) (by decide +kernel) hl0 hl1 (by decide +kernel) (by decide +kernel) (by decide +kernel) hl.1 dX4_bridgeOf_14 dX4_bridgeOf_17 dX4_bridgeOf_18 dX4_bridgeOf_20 dX4_bridgeOf_23 ⟨Nat.le_of_ble_eq_true rfl, Nat.le_of_ble_eq_true rfl, Nat.le_of_ble_eq_true rfl, Nat.le_of_ble_eq_true rfl⟩
  · replace hR := (if_neg c3).symm.trans hR
    refine lv_iload_n hx hb dX4_bridgeOf_9 rfl (lv_at hl 2 rfl) ?_
    refine lv_iconst (v := (3 : Int32)) hx hb dX4_bridgeOf_10 (by decide) ?_
    refine lv_icmp_lt (tgt := 24) hx hb dX4_bridgeOf_11 (by decide) (fun c4 => ?_) (fun c4 => ?_)
    · replace hR := (if_pos c4).symm.trans hR
      refine lv_aload_n hx hb dX4_bridgeOf_24 rfl (lv_at hl 0 rfl) ?_
      refine va_get (ci := 4) (C := RX4) (T := TX4) (N := 7) hx hb hts hw4 hown hK hP 0 rfl rfl 0 (by decide) hl2 (fun _ h9 => h9) rfl dX4_bridgeOf_25 ?_
      refine lv_iload_n hx hb dX4_bridgeOf_28 rfl (lv_at hl 1 rfl) ?_
      refine lv_iload_n hx hb dX4_bridgeOf_29 rfl (lv_at hl 2 rfl) ?_
      obtain ⟨x5, hq5, hR⟩ := kk_bd_el hR
      refine kk_call_Vi (w' := (w_F g a G)) (As := [.int v1, .int v2]) (rest := []) 2 2 hC (sX2_bridgeProperty l g n (a 1) (G 1) v1 v2 x5 hq5) (cwV 2 hts gX4_bridgeOf_X2_bridgeProperty rfl rfl rfl (by decide +kernel) ⟨Nat.le_of_ble_eq_true rfl, Nat.le_of_ble_eq_true rfl⟩) hK hP hD hS hA [2, 3, 4, 5, 6, 7, 8, 9, 10, 11] (kk_ml 23 rfl (by decide +kernel) (kk_ml 22 rfl (by decide +kernel) (kk_ml 12 rfl (by decide +kernel) (kk_mr (js := [0, 1, 2, 3, 4, 5, 6, 7, 8, 9]) 2 rfl (by decide +kernel) (kk_m0 10 (by decide +kernel) rfl))))) (by decide +kernel) rfl (kk_sl 23 rfl (by decide +kernel) (kk_sl 22 rfl (by decide +kernel) (kk_sl 12 rfl (by decide +kernel) (kk_sr (js := [0, 1, 2, 3, 4, 5, 6, 7, 8, 9]) 2 rfl (by decide +kernel) (kk_s0 10 (by decide +kernel) rfl rfl))))) rfl rfl rfl rfl rfl hl.1 (Nat.le_of_ble_eq_true rfl) dX4_bridgeOf_30 (fun H locs hP hD hS => ?_)
      cases hR
    · replace hR := (if_neg c4).symm.trans hR
      obtain rfl := Sum.inl.inj (Option.some.inj hR)
      exact kk_throw (names := ["java/lang/RuntimeException", "java/lang/Exception"]) (text := "what is not 0 to 2") (k := 2) hC hst hlocks hno hK hG hP hD hS hA rfl rfl (by decide +kernel) (by decide +kernel) (by decide +kernel) hl0 hl1 (by decide +kernel) (by decide +kernel) (by decide +kernel) hl.1 dX4_bridgeOf_14 dX4_bridgeOf_17 dX4_bridgeOf_18 dX4_bridgeOf_20 dX4_bridgeOf_23 ⟨Nat.le_of_ble_eq_true rfl, Nat.le_of_ble_eq_true rfl, Nat.le_of_ble_eq_true rfl, Nat.le_of_ble_eq_true rfl⟩
set_option maxHeartbeats 8000000 in
set_option maxRecDepth 100000 in
theorem sX4_setting (l : Launch) (g : kG) (n : Nat) (a : Nat → Nat → Nat) (G : St2) (v1 : Int32) (r : Int32) (hR : fX4_setting n G v1 = some (.inr r)) : kSp l g yX4_setting wsX4_setting ({ frames := 1, cells := 0, slots := 0, locals := 20 }) [.ref (a 0 0), .int v1] (w_F g a G) (kQi g (w_F g a G) r) := by
  refine kSp.of (cc := cX4_setting) (maxL := 2) (ret := (some .int)) (by decide) rfl (Nat.le_of_ble_eq_true rfl) ?_
  intro p e s m args below meth c ls A hC hr hlocks hA hK hl hP hD hS
  replace hC : CallFix p m c cX4_setting 2 s args wsX4_setting RX4 := hC
  obtain ⟨hx, hb, hml, hown, hts⟩ := id hC
  replace hl : lv_has ls 2 [(0, .ref (a 0 0)), (1, .int v1)] := hl
  unfold fX4_setting at hR
  have hw2 : ∀ w ∈ wsX20, w ∈ wsX4_setting := by decide +kernel
  have hw4 : ∀ w ∈ wsX40, w ∈ wsX4_setting := by decide +kernel
  have hl0 := hts (.fieldLink RX4 10 "FloatOrder" "parade" "LFloatOrder$Parade;") (by decide +kernel)
  have hl1 := hts (.fieldLink RX4 149 "FloatOrder$Parade" "settings" "[I") (by decide +kernel)
  refine lv_iload_n hx hb dX4_setting_0 rfl (lv_at hl 1 rfl) ?_
  obtain ⟨y1, hq2, hR⟩ := kk_bd_el hR
  obtain ⟨x2, ex2, hR⟩ := kk_tr_ok hR
  subst ex2
  refine kk_call_Sv (w' := (w_F g a G)) (As := [.int v1]) (rest := []) hC (sX4_needSetting l g n   v1 x2 hq2) (va_cwS 1 hts gX4_setting_X4_needSetting rfl rfl rfl (by decide +kernel) ⟨Nat.le_of_ble_eq_true rfl, Nat.le_of_ble_eq_true rfl⟩) hK hP hD hS hA [] rfl (by decide +kernel) rfl rfl rfl rfl hl.1 (Nat.le_of_ble_eq_true rfl) dX4_setting_1 (fun H locs hP hD hS => ?_)
  refine lv_aload_n hx hb dX4_setting_4 rfl (lv_at hl 0 rfl) ?_
  refine va_get (ci := 4) (C := RX4) (T := TX4) (N := 7) hx hb hts hw4 hown hK hP 0 rfl rfl 0 (by decide) hl0 (fun _ h9 => h9) rfl dX4_setting_5 ?_
  refine va_get (ci := 2) (C := RX2) (T := TX2) (N := 11) hx hb hts hw2 hown hK hP 2 rfl rfl 8 (by decide) hl1 (fun _ h9 => h9) rfl dX4_setting_8 ?_
  refine lv_iload_n hx hb dX4_setting_11 rfl (lv_at hl 1 rfl) ?_
  obtain ⟨hi3, hR⟩ := kk_ck_el hR
  refine va_iald hx hb hK hP 9 0 rfl rfl hi3 dX4_setting_12 ?_
  obtain rfl := Sum.inr.inj (Option.some.inj hR)
  exact kk_ret_i hC hr hlocks hK hP hD hS dX4_setting_13 rfl
set_option maxHeartbeats 8000000 in
set_option maxRecDepth 100000 in
theorem sX4_setting_th (l : Launch) (hst : l.stackTraces = false) (g : kG) (n : Nat) (a : Nat → Nat → Nat) (G : St2) (v1 : Int32) (k : Nat) (hR : fX4_setting n G v1 = some (.inl k)) : kSt l g yX4_setting wsX4_setting ({ frames := 7, cells := 1, slots := 6, locals := 110 }) [.ref (a 0 0), .int v1] (w_F g a G) (w_F g a G) k := by
  refine kSt.of (cc := cX4_setting) (maxL := 2) (ret := (some .int)) (by decide) rfl (Nat.le_of_ble_eq_true rfl) ?_
  intro p e s m args below meth c ls A hC hlocks hno hA hK hG hl hP hD hS
  replace hC : CallFix p m c cX4_setting 2 s args wsX4_setting RX4 := hC
  obtain ⟨hx, hb, hml, hown, hts⟩ := id hC
  replace hl : lv_has ls 2 [(0, .ref (a 0 0)), (1, .int v1)] := hl
  unfold fX4_setting at hR
  have hw2 : ∀ w ∈ wsX20, w ∈ wsX4_setting := by decide +kernel
  have hw4 : ∀ w ∈ wsX40, w ∈ wsX4_setting := by decide +kernel
  have hl0 := hts (.fieldLink RX4 10 "FloatOrder" "parade" "LFloatOrder$Parade;") (by decide +kernel)
  have hl1 := hts (.fieldLink RX4 149 "FloatOrder$Parade" "settings" "[I") (by decide +kernel)
  refine lv_iload_n hx hb dX4_setting_0 rfl (lv_at hl 1 rfl) ?_
  obtain ⟨y1, hq2, hR⟩ := kk_bd_el hR
  rcases kk_tr_th hR with ex2 | ⟨x2, ex2, hR⟩
  · subst ex2
    exact kk_callT_S (As := [.int v1]) (rest := []) hC (sX4_needSetting_th l hst g n   v1 k hq2) (va_cwS 1 hts gX4_setting_X4_needSetting rfl rfl rfl (by decide +kernel) ⟨Nat.le_of_ble_eq_true rfl, Nat.le_of_ble_eq_true rfl⟩) hlocks hno hK hG hP hD hS hA [] rfl (by decide +kernel) rfl rfl rfl rfl hl.1 (Nat.le_of_ble_eq_true rfl) dX4_setting_1 ⟨Nat.le_of_ble_eq_true rfl, Nat.le_of_ble_eq_true rfl⟩
  subst ex2
  refine kk_call_Sv (w' := (w_F g a G)) (As := [.int v1]) (rest := []) hC (sX4_needSetting l g n   v1 x2 hq2) (va_cwS 1 hts gX4_setting_X4_needSetting rfl rfl rfl (by decide +kernel) ⟨Nat.le_of_ble_eq_true rfl, Nat.le_of_ble_eq_true rfl⟩) hK hP hD hS hA [] rfl (by decide +kernel) rfl rfl rfl rfl hl.1 (Nat.le_of_ble_eq_true rfl) dX4_setting_1 (fun H locs hP hD hS => ?_)
  refine lv_aload_n hx hb dX4_setting_4 rfl (lv_at hl 0 rfl) ?_
  refine va_get (ci := 4) (C := RX4) (T := TX4) (N := 7) hx hb hts hw4 hown hK hP 0 rfl rfl 0 (by decide) hl0 (fun _ h9 => h9) rfl dX4_setting_5 ?_
  refine va_get (ci := 2) (C := RX2) (T := TX2) (N := 11) hx hb hts hw2 hown hK hP 2 rfl rfl 8 (by decide) hl1 (fun _ h9 => h9) rfl dX4_setting_8 ?_
  refine lv_iload_n hx hb dX4_setting_11 rfl (lv_at hl 1 rfl) ?_
  obtain ⟨hi3, hR⟩ := kk_ck_el hR
  refine va_iald hx hb hK hP 9 0 rfl rfl hi3 dX4_setting_12 ?_
  cases hR
set_option maxHeartbeats 8000000 in
set_option maxRecDepth 100000 in
theorem sX4_bestFold (l : Launch) (g : kG) (n : Nat) (a : Nat → Nat → Nat) (G : St2) (r : Int32 × St2) (hR : fX4_bestFold n G = some r) : kSp l g yX4_bestFold wsX4_bestFold ({ frames := 3, cells := 0, slots := 0, locals := 69 }) [.ref (a 0 0)] (w_F g a G) (kQi g (w_F g a r.2) r.1) := by
  refine kSp.of (cc := cX4_bestFold) (maxL := 5) (ret := (some .int)) (by decide) rfl (Nat.le_of_ble_eq_true rfl) ?_
  intro p e s m args below meth c ls A hC hr hlocks hA hK hl hP hD hS
  replace hC : CallFix p m c cX4_bestFold 5 s args wsX4_bestFold RX4 := hC
  obtain ⟨hx, hb, hml, hown, hts⟩ := id hC
  replace hl : lv_has ls 5 [(0, .ref (a 0 0))] := hl
  unfold fX4_bestFold at hR
  have hw2 : ∀ w ∈ wsX20, w ∈ wsX4_bestFold := by decide +kernel
  have hw4 : ∀ w ∈ wsX40, w ∈ wsX4_bestFold := by decide +kernel
  have hl0 := hts (.fieldLink RX4 16 "FloatOrder" "trial" "LFloatOrder$Parade;") (by decide +kernel)
  have hl1 := hts (.fieldLink RX4 10 "FloatOrder" "parade" "LFloatOrder$Parade;") (by decide +kernel)
  have hl2 := hts (.fieldLink RX4 48 "FloatOrder$Parade" "floats" "I") (by decide +kernel)
  have hl3 := hts (.fieldLink RX4 98 "FloatOrder$Parade" "folded" "[Z") (by decide +kernel)
  refine lv_aload_n hx hb dX4_bestFold_0 rfl (lv_at hl 0 rfl) ?_
  refine va_get (ci := 4) (C := RX4) (T := TX4) (N := 7) hx hb hts hw4 hown hK hP 0 rfl rfl 1 (by decide) hl0 (fun _ h9 => h9) rfl dX4_bestFold_1 ?_
  refine lv_aload_n hx hb dX4_bestFold_4 rfl (lv_at hl 0 rfl) ?_
  refine va_get (ci := 4) (C := RX4) (T := TX4) (N := 7) hx hb hts hw4 hown hK hP 0 rfl rfl 0 (by decide) hl1 (fun _ h9 => h9) rfl dX4_bestFold_5 ?_
  obtain ⟨x1, hq1, hR⟩ := kk_bd_el hR
  obtain ⟨G2, eG2, hR⟩ := kk_nm_el hR
  refine kk_call_Vv (w' := (w_F g a G2)) (As := [.ref (a 1 0)]) (rest := []) 12 2 hC (sX2_copyFrom l g n (a 2) (a 1) (G 2) (G 1)  x1 hq1) (cwV 1 hts gX4_bestFold_X2_copyFrom rfl rfl rfl (by decide +kernel) ⟨Nat.le_of_ble_eq_true rfl, Nat.le_of_ble_eq_true rfl⟩) hK hP hD hS hA [12, 13, 14, 15, 16, 17, 18, 19, 20, 21, 2, 3, 4, 5, 6, 7, 8, 9, 10, 11] (kk_m2 (is1 := [12, 13, 14, 15, 16, 17, 18, 19, 20, 21]) rfl (kk_ml 23 rfl (by decide +kernel) (kk_ml 22 rfl (by decide +kernel) (kk_mr (js := [0, 1, 2, 3, 4, 5, 6, 7, 8, 9]) 12 rfl (by decide +kernel) (kk_m0 10 (by decide +kernel) rfl)))) (kk_ml 23 rfl (by decide +kernel) (kk_ml 22 rfl (by decide +kernel) (kk_ml 12 rfl (by decide +kernel) (kk_mr (js := [0, 1, 2, 3, 4, 5, 6, 7, 8, 9]) 2 rfl (by decide +kernel) (kk_m0 10 (by decide +kernel) rfl)))))) (by decide +kernel) rfl (by rw [eG2]; exact kk_set2 (is1 := [12, 13, 14, 15, 16, 17, 18, 19, 20, 21]) rfl rfl (kk_sl 23 rfl (by decide +kernel) (kk_sl 22 rfl (by decide +kernel) (kk_sr (js := [0, 1, 2, 3, 4, 5, 6, 7, 8, 9]) 12 rfl (by decide +kernel) (kk_s0 10 (by decide +kernel) rfl rfl)))) (kk_sl 23 rfl (by decide +kernel) (kk_sl 22 rfl (by decide +kernel) (kk_sl 12 rfl (by decide +kernel) (kk_sr (js := [0, 1, 2, 3, 4, 5, 6, 7, 8, 9]) 2 rfl (by decide +kernel) (kk_s0 10 (by decide +kernel) rfl rfl)))))) rfl rfl rfl rfl rfl hl.1 (Nat.le_of_ble_eq_true rfl) dX4_bestFold_8 (fun H locs hP hD hS => ?_)
  refine lv_iconst (v := (-1 : Int32)) hx hb dX4_bestFold_11 (by decide) ?_
  refine lv_istore_n (lv' := [(1, .int (-1 : Int32)), (0, .ref (a 0 0))]) hx hb dX4_bestFold_12 rfl hl (by decide) rfl (fun ls hl => ?_)
  refine lv_iconst (v := (0 : Int32)) hx hb dX4_bestFold_13 (by decide) ?_
  refine lv_istore_n (lv' := [(2, .int (0 : Int32)), (1, .int (-1 : Int32)), (0, .ref (a 0 0))]) hx hb dX4_bestFold_14 rfl hl (by decide) rfl (fun ls hl => ?_)
  refine lv_iconst (v := (0 : Int32)) hx hb dX4_bestFold_15 (by decide) ?_
  refine lv_istore_n (lv' := [(3, .int (0 : Int32)), (2, .int (0 : Int32)), (1, .int (-1 : Int32)), (0, .ref (a 0 0))]) hx hb dX4_bestFold_16 rfl hl (by decide) rfl (fun ls hl => ?_)
  obtain ⟨x25, hq25, hR⟩ := kk_bd_el hR
  refine kk_cut (g := g) (A := A) (w' := (w_F g a x25.2)) (nL := 5) (lv := [(1, .int x25.1)]) (pcJ := 91) (st := []) (fun H locs ls hP hD hS hl => ?_) (fun hj25 => ?_)
  · refine lv_iload_n hx hb dX4_bestFold_91 rfl (lv_at hl 0 rfl) ?_
    obtain rfl := Option.some.inj hR
    exact kk_ret_i hC hr hlocks hK hP hD hS dX4_bestFold_92 rfl
  refine kk_loop (g := g) (A := A) (fun (st : Int32 × Int32 × Int32 × St2) => (w_F g a st.2.2.2)) (fun (st : Int32 × Int32 × Int32 × St2) => [(3, .int st.2.2.1), (2, .int st.2.1), (1, .int st.1), (0, .ref (a 0 0))]) 17 (nL := 5) hq25 (fun st xb24 hR ih1 hX1 => ?_) hP hD hS (lv_sub hl [0, 1, 2, 3] rfl)
  clear hP hD hS hl
  obtain ⟨u20, u21, u22, G23⟩ := st
  intro H locs ls hP hD hS hl
  replace hR : fX4_bestFold_b17 n u20 u21 u22 G23 = some xb24 := hR
  replace hP : va_P g.1 vwCl (w_F g a G23) H := hP
  replace hD : va_D A (w_F g a G23) := hD
  replace hl : lv_has ls 5 [(3, .int u22), (2, .int u21), (1, .int u20), (0, .ref (a 0 0))] := hl
  unfold fX4_bestFold_b17 at hR
  refine lv_iload_n hx hb dX4_bestFold_17 rfl (lv_at hl 0 rfl) ?_
  refine lv_aload_n hx hb dX4_bestFold_18 rfl (lv_at hl 3 rfl) ?_
  refine va_get (ci := 4) (C := RX4) (T := TX4) (N := 7) hx hb hts hw4 hown hK hP 0 rfl rfl 1 (by decide) hl0 (fun _ h9 => h9) rfl dX4_bestFold_19 ?_
  refine va_get (ci := 2) (C := RX2) (T := TX2) (N := 11) hx hb hts hw2 hown hK hP 12 rfl rfl 0 (by decide) hl2 (fun _ h9 => h9) rfl dX4_bestFold_22 ?_
  refine lv_icmp_ge (tgt := 91) hx hb dX4_bestFold_25 (by decide) (fun c26 => ?_) (fun c26 => ?_)
  · replace hR := (if_pos c26).symm.trans hR
    obtain rfl := Option.some.inj hR
    obtain rfl := hX1 _ rfl
    exact hj25 _ _ _ hP hD hS (lv_sub hl [2] rfl)
  · replace hR := (if_neg c26).symm.trans hR
    refine lv_aload_n hx hb dX4_bestFold_28 rfl (lv_at hl 3 rfl) ?_
    refine va_get (ci := 4) (C := RX4) (T := TX4) (N := 7) hx hb hts hw4 hown hK hP 0 rfl rfl 1 (by decide) hl0 (fun _ h9 => h9) rfl dX4_bestFold_29 ?_
    refine va_get (ci := 2) (C := RX2) (T := TX2) (N := 11) hx hb hts hw2 hown hK hP 12 rfl rfl 4 (by decide) hl3 (fun _ h9 => h9) rfl dX4_bestFold_32 ?_
    refine lv_iload_n hx hb dX4_bestFold_35 rfl (lv_at hl 0 rfl) ?_
    obtain ⟨hi27, hR⟩ := kk_ck_el hR
    refine va_zald hx hb hK hP 16 1 rfl rfl hi27 dX4_bestFold_36 ?_
    refine lv_if_ne (tgt := 85) hx hb dX4_bestFold_37 (by decide) (fun c28 => ?_) (fun c28 => ?_)
    · replace hR := (if_neg c28).symm.trans hR
      refine lv_iinc (v := (u22 + (1 : Int32))) (lv' := [(3, .int (u22 + (1 : Int32))), (2, .int u21), (1, .int u20), (0, .ref (a 0 0))]) hx hb dX4_bestFold_85 hl (k := 0) rfl rfl (by decide) rfl (fun ls hl => ?_)
      refine lv_goto (tgt := 17) hx hb dX4_bestFold_88 (by decide) ?_
      obtain rfl := Option.some.inj hR
      exact ih1 _ rfl _ _ _ hP hD hS (lv_sub hl [0, 1, 2, 3] rfl)
    · replace hR := (if_pos c28).symm.trans hR
      refine lv_aload_n hx hb dX4_bestFold_40 rfl (lv_at hl 3 rfl) ?_
      refine va_get (ci := 4) (C := RX4) (T := TX4) (N := 7) hx hb hts hw4 hown hK hP 0 rfl rfl 1 (by decide) hl0 (fun _ h9 => h9) rfl dX4_bestFold_41 ?_
      refine va_get (ci := 2) (C := RX2) (T := TX2) (N := 11) hx hb hts hw2 hown hK hP 12 rfl rfl 4 (by decide) hl3 (fun _ h9 => h9) rfl dX4_bestFold_44 ?_
      refine lv_iload_n hx hb dX4_bestFold_47 rfl (lv_at hl 0 rfl) ?_
      refine lv_iconst (v := (1 : Int32)) hx hb dX4_bestFold_48 (by decide) ?_
      obtain ⟨hi30, hR⟩ := kk_ck_el hR
      obtain ⟨hz38, hR⟩ := kk_cb_el hR
      obtain ⟨G29, eG29, hR⟩ := kk_nm_el hR
      refine kk_zast (w' := (w_F g a G29)) hC hK hP hD hS 16 rfl hi30 hz38 (by rw [eG29]; rfl) dX4_bestFold_49 (fun H locs hP hD hS => ?_)
      refine lv_aload_n hx hb dX4_bestFold_50 rfl (lv_at hl 3 rfl) ?_
      refine va_get (ci := 4) (C := RX4) (T := TX4) (N := 7) hx hb hts hw4 hown hK hP 0 rfl rfl 1 (by decide) hl0 (fun _ h9 => h9) rfl dX4_bestFold_51 ?_
      obtain ⟨x31, hq31, hR⟩ := kk_bd_el hR
      obtain ⟨G32, eG32, hR⟩ := kk_nm_el hR
      refine kk_call_Vi (w' := (w_F g a G32)) (As := []) (rest := []) 12 2 hC (sX2_end l g n (a 2) (G29 2)  x31 hq31) (cwV 0 hts gX4_bestFold_X2_end rfl rfl rfl (by decide +kernel) ⟨Nat.le_of_ble_eq_true rfl, Nat.le_of_ble_eq_true rfl⟩) hK hP hD hS hA [12, 13, 14, 15, 16, 17, 18, 19, 20, 21] (kk_ml 23 rfl (by decide +kernel) (kk_ml 22 rfl (by decide +kernel) (kk_mr (js := [0, 1, 2, 3, 4, 5, 6, 7, 8, 9]) 12 rfl (by decide +kernel) (kk_m0 10 (by decide +kernel) rfl)))) (by decide +kernel) rfl (by rw [eG32]; exact kk_sl 23 rfl (by decide +kernel) (kk_sl 22 rfl (by decide +kernel) (kk_sr (js := [0, 1, 2, 3, 4, 5, 6, 7, 8, 9]) 12 rfl (by decide +kernel) (kk_s0 10 (by decide +kernel) rfl rfl)))) rfl rfl rfl rfl rfl hl.1 (Nat.le_of_ble_eq_true rfl) dX4_bestFold_54 (fun H locs hP hD hS => ?_)
      refine lv_istore (lv' := [(4, .int x31.1), (3, .int u22), (2, .int u21), (1, .int u20), (0, .ref (a 0 0))]) hx hb dX4_bestFold_57 hl (by decide) rfl (fun ls hl => ?_)
      refine lv_aload_n hx hb dX4_bestFold_59 rfl (lv_at hl 4 rfl) ?_
      refine va_get (ci := 4) (C := RX4) (T := TX4) (N := 7) hx hb hts hw4 hown hK hP 0 rfl rfl 1 (by decide) hl0 (fun _ h9 => h9) rfl dX4_bestFold_60 ?_
      refine va_get (ci := 2) (C := RX2) (T := TX2) (N := 11) hx hb hts hw2 hown hK hP 12 rfl rfl 4 (by decide) hl3 (fun _ h9 => h9) rfl dX4_bestFold_63 ?_
      refine lv_iload_n hx hb dX4_bestFold_66 rfl (lv_at hl 1 rfl) ?_
      refine lv_iconst (v := (0 : Int32)) hx hb dX4_bestFold_67 (by decide) ?_
      obtain ⟨hi34, hR⟩ := kk_ck_el hR
      obtain ⟨hz37, hR⟩ := kk_cb_el hR
      obtain ⟨G33, eG33, hR⟩ := kk_nm_el hR
      refine kk_zast (w' := (w_F g a G33)) hC hK hP hD hS 16 rfl hi34 hz37 (by rw [eG33]; rfl) dX4_bestFold_68 (fun H locs hP hD hS => ?_)
      refine lv_iload_n hx hb dX4_bestFold_69 rfl (lv_at hl 3 rfl) ?_
      refine lv_iconst (v := (-1 : Int32)) hx hb dX4_bestFold_70 (by decide) ?_
      refine lv_icmp_eq (tgt := 80) hx hb dX4_bestFold_71 (by decide) (fun c35 => ?_) (fun c35 => ?_)
      · replace hR := (if_pos c35).symm.trans hR
        refine lv_iload_n hx hb dX4_bestFold_80 rfl (lv_at hl 1 rfl) ?_
        refine lv_istore_n (lv' := [(1, .int u22), (4, .int x31.1), (3, .int u22), (2, .int u21), (0, .ref (a 0 0))]) hx hb dX4_bestFold_81 rfl hl (by decide) rfl (fun ls hl => ?_)
        refine lv_iload hx hb dX4_bestFold_82 (lv_at hl 1 rfl) ?_
        refine lv_istore_n (lv' := [(2, .int x31.1), (1, .int u22), (4, .int x31.1), (3, .int u22), (0, .ref (a 0 0))]) hx hb dX4_bestFold_84 rfl hl (by decide) rfl (fun ls hl => ?_)
        refine lv_iinc (v := (u22 + (1 : Int32))) (lv' := [(3, .int (u22 + (1 : Int32))), (2, .int x31.1), (1, .int u22), (4, .int x31.1), (0, .ref (a 0 0))]) hx hb dX4_bestFold_85 hl (k := 3) rfl rfl (by decide) rfl (fun ls hl => ?_)
        refine lv_goto (tgt := 17) hx hb dX4_bestFold_88 (by decide) ?_
        obtain rfl := Option.some.inj hR
        exact ih1 _ rfl _ _ _ hP hD hS (lv_sub hl [0, 1, 2, 4] rfl)
      · replace hR := (if_neg c35).symm.trans hR
        refine lv_iload hx hb dX4_bestFold_74 (lv_at hl 0 rfl) ?_
        refine lv_iload_n hx hb dX4_bestFold_76 rfl (lv_at hl 2 rfl) ?_
        refine lv_icmp_ge (tgt := 85) hx hb dX4_bestFold_77 (by decide) (fun c36 => ?_) (fun c36 => ?_)
        · replace hR := (if_pos c36).symm.trans hR
          refine lv_iinc (v := (u22 + (1 : Int32))) (lv' := [(3, .int (u22 + (1 : Int32))), (4, .int x31.1), (2, .int u21), (1, .int u20), (0, .ref (a 0 0))]) hx hb dX4_bestFold_85 hl (k := 1) rfl rfl (by decide) rfl (fun ls hl => ?_)
          refine lv_goto (tgt := 17) hx hb dX4_bestFold_88 (by decide) ?_
          obtain rfl := Option.some.inj hR
          exact ih1 _ rfl _ _ _ hP hD hS (lv_sub hl [0, 2, 3, 4] rfl)
        · replace hR := (if_neg c36).symm.trans hR
          refine lv_iload_n hx hb dX4_bestFold_80 rfl (lv_at hl 1 rfl) ?_
          refine lv_istore_n (lv' := [(1, .int u22), (4, .int x31.1), (3, .int u22), (2, .int u21), (0, .ref (a 0 0))]) hx hb dX4_bestFold_81 rfl hl (by decide) rfl (fun ls hl => ?_)
          refine lv_iload hx hb dX4_bestFold_82 (lv_at hl 1 rfl) ?_
          refine lv_istore_n (lv' := [(2, .int x31.1), (1, .int u22), (4, .int x31.1), (3, .int u22), (0, .ref (a 0 0))]) hx hb dX4_bestFold_84 rfl hl (by decide) rfl (fun ls hl => ?_)
          refine lv_iinc (v := (u22 + (1 : Int32))) (lv' := [(3, .int (u22 + (1 : Int32))), (2, .int x31.1), (1, .int u22), (4, .int x31.1), (0, .ref (a 0 0))]) hx hb dX4_bestFold_85 hl (k := 3) rfl rfl (by decide) rfl (fun ls hl => ?_)
          refine lv_goto (tgt := 17) hx hb dX4_bestFold_88 (by decide) ?_
          obtain rfl := Option.some.inj hR
          exact ih1 _ rfl _ _ _ hP hD hS (lv_sub hl [0, 1, 2, 4] rfl)
set_option maxHeartbeats 8000000 in
set_option maxRecDepth 100000 in
theorem sX4_smoothness (l : Launch) (g : kG) (n : Nat) (a : Nat → Nat → Nat) (G : St2) (r : UInt64) (hR : fX4_smoothness n G = some r) : kSp l g yX4_smoothness wsX4_smoothness ({ frames := 3, cells := 0, slots := 0, locals := 66 }) [.ref (a 0 0)] (w_F g a G) (kQd g (w_F g a G) r) := by
  refine kSp.of (cc := cX4_smoothness) (maxL := 1) (ret := (some .double)) (by decide) rfl (Nat.le_of_ble_eq_true rfl) ?_
  intro p e s m args below meth c ls A hC hr hlocks hA hK hl hP hD hS
  replace hC : CallFix p m c cX4_smoothness 1 s args wsX4_smoothness RX4 := hC
  obtain ⟨hx, hb, hml, hown, hts⟩ := id hC
  replace hl : lv_has ls 1 [(0, .ref (a 0 0))] := hl
  unfold fX4_smoothness at hR
  have hw2 : ∀ w ∈ wsX20, w ∈ wsX4_smoothness := by decide +kernel
  have hw4 : ∀ w ∈ wsX40, w ∈ wsX4_smoothness := by decide +kernel
  have hl0 := hts (.fieldLink RX4 10 "FloatOrder" "parade" "LFloatOrder$Parade;") (by decide +kernel)
  have hl1 := hts (.fieldLink RX4 48 "FloatOrder$Parade" "floats" "I") (by decide +kernel)
  refine lv_aload_n hx hb dX4_smoothness_0 rfl (lv_at hl 0 rfl) ?_
  refine va_get (ci := 4) (C := RX4) (T := TX4) (N := 7) hx hb hts hw4 hown hK hP 0 rfl rfl 0 (by decide) hl0 (fun _ h9 => h9) rfl dX4_smoothness_1 ?_
  refine va_get (ci := 2) (C := RX2) (T := TX2) (N := 11) hx hb hts hw2 hown hK hP 2 rfl rfl 0 (by decide) hl1 (fun _ h9 => h9) rfl dX4_smoothness_4 ?_
  refine lv_if_gt (tgt := 12) hx hb dX4_smoothness_7 (by decide) (fun c1 => ?_) (fun c1 => ?_)
  · replace hR := (if_pos c1).symm.trans hR
    refine lv_aload_n hx hb dX4_smoothness_12 rfl (lv_at hl 0 rfl) ?_
    refine va_get (ci := 4) (C := RX4) (T := TX4) (N := 7) hx hb hts hw4 hown hK hP 0 rfl rfl 0 (by decide) hl0 (fun _ h9 => h9) rfl dX4_smoothness_13 ?_
    refine va_get (ci := 2) (C := RX2) (T := TX2) (N := 11) hx hb hts hw2 hown hK hP 2 rfl rfl 0 (by decide) hl1 (fun _ h9 => h9) rfl dX4_smoothness_16 ?_
    refine lv_aload_n hx hb dX4_smoothness_19 rfl (lv_at hl 0 rfl) ?_
    refine va_get (ci := 4) (C := RX4) (T := TX4) (N := 7) hx hb hts hw4 hown hK hP 0 rfl rfl 0 (by decide) hl0 (fun _ h9 => h9) rfl dX4_smoothness_20 ?_
    obtain ⟨x2, hq2, hR⟩ := kk_bd_el hR
    refine kk_call_Vi (w' := (w_F g a G)) (As := []) (rest := [.int (G 1 0 0)]) 2 2 hC (sX2_troubledFloats l g n (a 1) (G 1)  x2 hq2) (cwV 0 hts gX4_smoothness_X2_troubledFloats rfl rfl rfl (by decide +kernel) ⟨Nat.le_of_ble_eq_true rfl, Nat.le_of_ble_eq_true rfl⟩) hK hP hD hS hA [2, 3, 4, 5, 6, 7, 8, 9, 10, 11] (kk_ml 23 rfl (by decide +kernel) (kk_ml 22 rfl (by decide +kernel) (kk_ml 12 rfl (by decide +kernel) (kk_mr (js := [0, 1, 2, 3, 4, 5, 6, 7, 8, 9]) 2 rfl (by decide +kernel) (kk_m0 10 (by decide +kernel) rfl))))) (by decide +kernel) rfl (kk_sl 23 rfl (by decide +kernel) (kk_sl 22 rfl (by decide +kernel) (kk_sl 12 rfl (by decide +kernel) (kk_sr (js := [0, 1, 2, 3, 4, 5, 6, 7, 8, 9]) 2 rfl (by decide +kernel) (kk_s0 10 (by decide +kernel) rfl rfl))))) rfl rfl rfl rfl rfl hl.1 (Nat.le_of_ble_eq_true rfl) dX4_smoothness_23 (fun H locs hP hD hS => ?_)
    refine lv_isub hx hb dX4_smoothness_26 ?_
    refine lv_i2d hx hb dX4_smoothness_27 ?_
    refine lv_aload_n hx hb dX4_smoothness_28 rfl (lv_at hl 0 rfl) ?_
    refine va_get (ci := 4) (C := RX4) (T := TX4) (N := 7) hx hb hts hw4 hown hK hP 0 rfl rfl 0 (by decide) hl0 (fun _ h9 => h9) rfl dX4_smoothness_29 ?_
    refine va_get (ci := 2) (C := RX2) (T := TX2) (N := 11) hx hb hts hw2 hown hK hP 2 rfl rfl 0 (by decide) hl1 (fun _ h9 => h9) rfl dX4_smoothness_32 ?_
    refine lv_i2d hx hb dX4_smoothness_35 ?_
    obtain ⟨hn3, hR⟩ := kk_cn_el hR
    refine lv_ddiv hx hb dX4_smoothness_36 hn3 ?_
    obtain rfl := Option.some.inj hR
    exact kk_ret_d hC hr hlocks hK hP hD hS dX4_smoothness_37 rfl
  · replace hR := (if_neg c1).symm.trans hR
    refine lv_dconst1 hx hb dX4_smoothness_10 ?_
    obtain rfl := Option.some.inj hR
    exact kk_ret_d hC hr hlocks hK hP hD hS dX4_smoothness_11 rfl
set_option maxHeartbeats 8000000 in
set_option maxRecDepth 100000 in
theorem sX4_put (l : Launch) (g : kG) (n : Nat) (a : Nat → Nat → Nat) (h : Nat → Nat → Nat) (G : St2) (V : St2) (v1 : Int32) (v2 : Int32) (v3 : Int32) (v4 : Int32) (r : Int32 × St2 × St2) (hR : fX4_put n G V v1 v2 v3 v4 = some (.inr r)) : kSp l g yX4_put wsX4_put ({ frames := 2, cells := 0, slots := 0, locals := 49 }) [.ref (a 0 0), .int v1, .int v2, .int v3, .int v4] (w_F g a G ++ w_H g (a 0 2) h V) (kQi g (w_F g a r.2.1 ++ w_H g (a 0 2) h r.2.2) r.1) := by
  refine kSp.of (cc := cX4_put) (maxL := 5) (ret := (some .int)) (by decide) rfl (Nat.le_of_ble_eq_true rfl) ?_
  intro p e s m args below meth c ls A hC hr hlocks hA hK hl hP hD hS
  replace hC : CallFix p m c cX4_put 5 s args wsX4_put RX4 := hC
  obtain ⟨hx, hb, hml, hown, hts⟩ := id hC
  replace hl : lv_has ls 5 [(0, .ref (a 0 0)), (1, .int v1), (2, .int v2), (3, .int v3), (4, .int v4)] := hl
  unfold fX4_put at hR
  have hw2 : ∀ w ∈ wsX20, w ∈ wsX4_put := by decide +kernel
  have hw4 : ∀ w ∈ wsX40, w ∈ wsX4_put := by decide +kernel
  have hl0 := hts (.fieldLink RX4 10 "FloatOrder" "parade" "LFloatOrder$Parade;") (by decide +kernel)
  have hl1 := hts (.fieldLink RX4 48 "FloatOrder$Parade" "floats" "I") (by decide +kernel)
  have hl2 := hts (.fieldLink RX4 22 "FloatOrder" "history" "LFloatOrder$History;") (by decide +kernel)
  refine lv_iload_n hx hb dX4_put_0 rfl (lv_at hl 1 rfl) ?_
  refine lv_if_lt (tgt := 15) hx hb dX4_put_1 (by decide) (fun c1 => ?_) (fun c1 => ?_)
  · replace hR := (if_pos c1).symm.trans hR
    cases hR
  · replace hR := (if_neg c1).symm.trans hR
    refine lv_iload_n hx hb dX4_put_4 rfl (lv_at hl 1 rfl) ?_
    refine lv_aload_n hx hb dX4_put_5 rfl (lv_at hl 0 rfl) ?_
    refine va_get (ci := 4) (C := RX4) (T := TX4) (N := 7) hx hb hts hw4 hown hK hP 0 rfl rfl 0 (by decide) hl0 (fun _ h9 => h9) rfl dX4_put_6 ?_
    refine va_get (ci := 2) (C := RX2) (T := TX2) (N := 11) hx hb hts hw2 hown hK hP 2 rfl rfl 0 (by decide) hl1 (fun _ h9 => h9) rfl dX4_put_9 ?_
    refine lv_icmp_le (tgt := 25) hx hb dX4_put_12 (by decide) (fun c2 => ?_) (fun c2 => ?_)
    · replace hR := (if_pos c2).symm.trans hR
      refine lv_iload_n hx hb dX4_put_25 rfl (lv_at hl 2 rfl) ?_
      refine lv_iload_n hx hb dX4_put_26 rfl (lv_at hl 3 rfl) ?_
      refine lv_iload hx hb dX4_put_27 (lv_at hl 4 rfl) ?_
      obtain ⟨x3, hq3, hR⟩ := kk_bd_el hR
      refine kk_call_Si (w' := (w_F g a G ++ w_H g (a 0 2) h V)) (As := [.int v2, .int v3, .int v4]) (rest := []) hC (sX4_isFloat l g n   v2 v3 v4 x3 hq3) (va_cwS 3 hts gX4_put_X4_isFloat rfl rfl rfl (by decide +kernel) ⟨Nat.le_of_ble_eq_true rfl, Nat.le_of_ble_eq_true rfl⟩) hK hP hD hS hA [] rfl (by decide +kernel) rfl rfl rfl rfl hl.1 (Nat.le_of_ble_eq_true rfl) dX4_put_29 (fun H locs hP hD hS => ?_)
      refine lv_if_ne (tgt := 45) hx hb dX4_put_32 (by decide) (fun c4 => ?_) (fun c4 => ?_)
      · replace hR := (if_neg c4).symm.trans hR
        refine lv_aload_n hx hb dX4_put_45 rfl (lv_at hl 0 rfl) ?_
        refine va_get (ci := 4) (C := RX4) (T := TX4) (N := 7) hx hb hts hw4 hown hK hP 0 rfl rfl 0 (by decide) hl0 (fun _ h9 => h9) rfl dX4_put_46 ?_
        refine va_get (ci := 2) (C := RX2) (T := TX2) (N := 11) hx hb hts hw2 hown hK hP 2 rfl rfl 0 (by decide) hl1 (fun _ h9 => h9) rfl dX4_put_49 ?_
        refine lv_bipush (v := (12 : Int32)) hx hb dX4_put_52 (by decide) ?_
        refine lv_icmp_lt (tgt := 67) hx hb dX4_put_54 (by decide) (fun c5 => ?_) (fun c5 => ?_)
        · replace hR := (if_pos c5).symm.trans hR
          refine lv_aload_n hx hb dX4_put_67 rfl (lv_at hl 0 rfl) ?_
          refine va_get (ci := 4) (C := RX4) (T := TX4) (N := 7) hx hb hts hw4 hown hK hP 0 rfl rfl 2 (by decide) hl2 (fun _ h9 => h9) rfl dX4_put_68 ?_
          refine lv_aload_n hx hb dX4_put_71 rfl (lv_at hl 0 rfl) ?_
          refine va_get (ci := 4) (C := RX4) (T := TX4) (N := 7) hx hb hts hw4 hown hK hP 0 rfl rfl 0 (by decide) hl0 (fun _ h9 => h9) rfl dX4_put_72 ?_
          obtain ⟨x6, hq6, hR⟩ := kk_bd_el hR
          refine kk_call_Vv (w' := (w_F g a G ++ w_H g (a 0 2) h x6)) (As := [.ref (a 1 0)]) (rest := []) 24 1 hC (sX1_save l g n (a 0 2) h (a 1) V (G 1)  x6 hq6) (cwV 1 hts gX4_put_X1_save rfl rfl rfl (by decide +kernel) ⟨Nat.le_of_ble_eq_true rfl, Nat.le_of_ble_eq_true rfl⟩) hK hP hD hS hA [24, 25, 26, 27, 28, 29, 30, 31, 32, 33, 34, 35, 36, 37, 38, 39, 40, 41, 42, 43, 44, 45, 46, 47, 48, 49, 50, 51, 52, 53, 54, 55, 56, 57, 58, 59, 60, 61, 62, 63, 64, 65, 66, 67, 68, 69, 70, 71, 72, 73, 74, 75, 76, 77, 78, 79, 80, 81, 82, 83, 84, 85, 2, 3, 4, 5, 6, 7, 8, 9, 10, 11] (kk_m2 (is1 := [24, 25, 26, 27, 28, 29, 30, 31, 32, 33, 34, 35, 36, 37, 38, 39, 40, 41, 42, 43, 44, 45, 46, 47, 48, 49, 50, 51, 52, 53, 54, 55, 56, 57, 58, 59, 60, 61, 62, 63, 64, 65, 66, 67, 68, 69, 70, 71, 72, 73, 74, 75, 76, 77, 78, 79, 80, 81, 82, 83, 84, 85]) rfl (kk_mr (js := [0, 1, 2, 3, 4, 5, 6, 7, 8, 9, 10, 11, 12, 13, 14, 15, 16, 17, 18, 19, 20, 21, 22, 23, 24, 25, 26, 27, 28, 29, 30, 31, 32, 33, 34, 35, 36, 37, 38, 39, 40, 41, 42, 43, 44, 45, 46, 47, 48, 49, 50, 51, 52, 53, 54, 55, 56, 57, 58, 59, 60, 61]) 24 rfl (by decide +kernel) (kk_m0 62 (by decide +kernel) rfl)) (kk_ml 24 rfl (by decide +kernel) (kk_ml 23 rfl (by decide +kernel) (kk_ml 22 rfl (by decide +kernel) (kk_ml 12 rfl (by decide +kernel) (kk_mr (js := [0, 1, 2, 3, 4, 5, 6, 7, 8, 9]) 2 rfl (by decide +kernel) (kk_m0 10 (by decide +kernel) rfl))))))) (by decide +kernel) rfl (kk_set2 (is1 := [24, 25, 26, 27, 28, 29, 30, 31, 32, 33, 34, 35, 36, 37, 38, 39, 40, 41, 42, 43, 44, 45, 46, 47, 48, 49, 50, 51, 52, 53, 54, 55, 56, 57, 58, 59, 60, 61, 62, 63, 64, 65, 66, 67, 68, 69, 70, 71, 72, 73, 74, 75, 76, 77, 78, 79, 80, 81, 82, 83, 84, 85]) rfl rfl (kk_sr (js := [0, 1, 2, 3, 4, 5, 6, 7, 8, 9, 10, 11, 12, 13, 14, 15, 16, 17, 18, 19, 20, 21, 22, 23, 24, 25, 26, 27, 28, 29, 30, 31, 32, 33, 34, 35, 36, 37, 38, 39, 40, 41, 42, 43, 44, 45, 46, 47, 48, 49, 50, 51, 52, 53, 54, 55, 56, 57, 58, 59, 60, 61]) 24 rfl (by decide +kernel) (kk_s0 62 (by decide +kernel) rfl rfl)) (kk_sl 24 rfl (by decide +kernel) (kk_sl 23 rfl (by decide +kernel) (kk_sl 22 rfl (by decide +kernel) (kk_sl 12 rfl (by decide +kernel) (kk_sr (js := [0, 1, 2, 3, 4, 5, 6, 7, 8, 9]) 2 rfl (by decide +kernel) (kk_s0 10 (by decide +kernel) rfl rfl))))))) rfl rfl rfl rfl rfl hl.1 (Nat.le_of_ble_eq_true rfl) dX4_put_75 (fun H locs hP hD hS => ?_)
          refine lv_aload_n hx hb dX4_put_78 rfl (lv_at hl 0 rfl) ?_
          refine va_get (ci := 4) (C := RX4) (T := TX4) (N := 7) hx hb hts hw4 hown hK hP 0 rfl rfl 0 (by decide) hl0 (fun _ h9 => h9) rfl dX4_put_79 ?_
          refine lv_iload_n hx hb dX4_put_82 rfl (lv_at hl 2 rfl) ?_
          refine lv_iload_n hx hb dX4_put_83 rfl (lv_at hl 3 rfl) ?_
          refine lv_iload hx hb dX4_put_84 (lv_at hl 4 rfl) ?_
          obtain ⟨x7, hq7, hR⟩ := kk_bd_el hR
          obtain ⟨G8, eG8, hR⟩ := kk_nm_el hR
          refine kk_call_Vv (w' := (w_F g a G8 ++ w_H g (a 0 2) h x6)) (As := [.int v2, .int v3, .int v4]) (rest := []) 2 2 hC (sX2_addLast l g n (a 1) (G 1) v2 v3 v4 x7 hq7) (cwV 3 hts gX4_put_X2_addLast rfl rfl rfl (by decide +kernel) ⟨Nat.le_of_ble_eq_true rfl, Nat.le_of_ble_eq_true rfl⟩) hK hP hD hS hA [2, 3, 4, 5, 6, 7, 8, 9, 10, 11] (kk_ml 24 rfl (by decide +kernel) (kk_ml 23 rfl (by decide +kernel) (kk_ml 22 rfl (by decide +kernel) (kk_ml 12 rfl (by decide +kernel) (kk_mr (js := [0, 1, 2, 3, 4, 5, 6, 7, 8, 9]) 2 rfl (by decide +kernel) (kk_m0 10 (by decide +kernel) rfl)))))) (by decide +kernel) rfl (by rw [eG8]; exact kk_sl 24 rfl (by decide +kernel) (kk_sl 23 rfl (by decide +kernel) (kk_sl 22 rfl (by decide +kernel) (kk_sl 12 rfl (by decide +kernel) (kk_sr (js := [0, 1, 2, 3, 4, 5, 6, 7, 8, 9]) 2 rfl (by decide +kernel) (kk_s0 10 (by decide +kernel) rfl rfl)))))) rfl rfl rfl rfl rfl hl.1 (Nat.le_of_ble_eq_true rfl) dX4_put_86 (fun H locs hP hD hS => ?_)
          refine lv_aload_n hx hb dX4_put_89 rfl (lv_at hl 0 rfl) ?_
          refine va_get (ci := 4) (C := RX4) (T := TX4) (N := 7) hx hb hts hw4 hown hK hP 0 rfl rfl 0 (by decide) hl0 (fun _ h9 => h9) rfl dX4_put_90 ?_
          refine lv_aload_n hx hb dX4_put_93 rfl (lv_at hl 0 rfl) ?_
          refine va_get (ci := 4) (C := RX4) (T := TX4) (N := 7) hx hb hts hw4 hown hK hP 0 rfl rfl 0 (by decide) hl0 (fun _ h9 => h9) rfl dX4_put_94 ?_
          refine va_get (ci := 2) (C := RX2) (T := TX2) (N := 11) hx hb hts hw2 hown hK hP 2 rfl rfl 0 (by decide) hl1 (fun _ h9 => h9) rfl dX4_put_97 ?_
          refine lv_iconst (v := (1 : Int32)) hx hb dX4_put_100 (by decide) ?_
          refine lv_isub hx hb dX4_put_101 ?_
          refine lv_iload_n hx hb dX4_put_102 rfl (lv_at hl 1 rfl) ?_
          obtain ⟨x9, hq9, hR⟩ := kk_bd_el hR
          obtain ⟨G10, eG10, hR⟩ := kk_nm_el hR
          refine kk_call_Vv (w' := (w_F g a G10 ++ w_H g (a 0 2) h x6)) (As := [.int ((G8 1 0 0) - (1 : Int32)), .int v1]) (rest := []) 2 2 hC (sX2_shift l g n (a 1) (G8 1) ((G8 1 0 0) - (1 : Int32)) v1 x9 hq9) (cwV 2 hts gX4_put_X2_shift rfl rfl rfl (by decide +kernel) ⟨Nat.le_of_ble_eq_true rfl, Nat.le_of_ble_eq_true rfl⟩) hK hP hD hS hA [2, 3, 4, 5, 6, 7, 8, 9, 10, 11] (kk_ml 24 rfl (by decide +kernel) (kk_ml 23 rfl (by decide +kernel) (kk_ml 22 rfl (by decide +kernel) (kk_ml 12 rfl (by decide +kernel) (kk_mr (js := [0, 1, 2, 3, 4, 5, 6, 7, 8, 9]) 2 rfl (by decide +kernel) (kk_m0 10 (by decide +kernel) rfl)))))) (by decide +kernel) rfl (by rw [eG10]; exact kk_sl 24 rfl (by decide +kernel) (kk_sl 23 rfl (by decide +kernel) (kk_sl 22 rfl (by decide +kernel) (kk_sl 12 rfl (by decide +kernel) (kk_sr (js := [0, 1, 2, 3, 4, 5, 6, 7, 8, 9]) 2 rfl (by decide +kernel) (kk_s0 10 (by decide +kernel) rfl rfl)))))) rfl rfl rfl rfl rfl hl.1 (Nat.le_of_ble_eq_true rfl) dX4_put_103 (fun H locs hP hD hS => ?_)
          refine lv_aload_n hx hb dX4_put_106 rfl (lv_at hl 0 rfl) ?_
          refine va_get (ci := 4) (C := RX4) (T := TX4) (N := 7) hx hb hts hw4 hown hK hP 0 rfl rfl 0 (by decide) hl0 (fun _ h9 => h9) rfl dX4_put_107 ?_
          refine va_get (ci := 2) (C := RX2) (T := TX2) (N := 11) hx hb hts hw2 hown hK hP 2 rfl rfl 0 (by decide) hl1 (fun _ h9 => h9) rfl dX4_put_110 ?_
          obtain rfl := Sum.inr.inj (Option.some.inj hR)
          exact kk_ret_i hC hr hlocks hK hP hD hS dX4_put_113 rfl
        · replace hR := (if_neg c5).symm.trans hR
          cases hR
      · replace hR := (if_pos c4).symm.trans hR
        cases hR
    · replace hR := (if_neg c2).symm.trans hR
      cases hR
set_option maxHeartbeats 8000000 in
set_option maxRecDepth 100000 in
theorem sX4_put_th (l : Launch) (hst : l.stackTraces = false) (g : kG) (n : Nat) (a : Nat → Nat → Nat) (h : Nat → Nat → Nat) (G : St2) (V : St2) (v1 : Int32) (v2 : Int32) (v3 : Int32) (v4 : Int32) (k : Nat) (hR : fX4_put n G V v1 v2 v3 v4 = some (.inl k)) : kSt l g yX4_put wsX4_put ({ frames := 6, cells := 1, slots := 6, locals := 90 }) [.ref (a 0 0), .int v1, .int v2, .int v3, .int v4] (w_F g a G ++ w_H g (a 0 2) h V) (w_F g a G ++ w_H g (a 0 2) h V) k := by
  refine kSt.of (cc := cX4_put) (maxL := 5) (ret := (some .int)) (by decide) rfl (Nat.le_of_ble_eq_true rfl) ?_
  intro p e s m args below meth c ls A hC hlocks hno hA hK hG hl hP hD hS
  replace hC : CallFix p m c cX4_put 5 s args wsX4_put RX4 := hC
  obtain ⟨hx, hb, hml, hown, hts⟩ := id hC
  replace hl : lv_has ls 5 [(0, .ref (a 0 0)), (1, .int v1), (2, .int v2), (3, .int v3), (4, .int v4)] := hl
  unfold fX4_put at hR
  have hw2 : ∀ w ∈ wsX20, w ∈ wsX4_put := by decide +kernel
  have hw4 : ∀ w ∈ wsX40, w ∈ wsX4_put := by decide +kernel
  have hl0 := hts (.classLink RX4 51 "java/lang/IndexOutOfBoundsException") (by decide +kernel)
  have hl1 := hts (.initialized "java/lang/IndexOutOfBoundsException") (by decide +kernel)
  have hl2 := hts (.fieldLink RX4 10 "FloatOrder" "parade" "LFloatOrder$Parade;") (by decide +kernel)
  have hl3 := hts (.fieldLink RX4 48 "FloatOrder$Parade" "floats" "I") (by decide +kernel)
  have hl4 := hts (.fieldLink RX4 22 "FloatOrder" "history" "LFloatOrder$History;") (by decide +kernel)
  have hl5 := hts (.classLink RX4 67 "java/lang/IllegalStateException") (by decide +kernel)
  have hl6 := hts (.initialized "java/lang/IllegalStateException") (by decide +kernel)
  have hl7 := hts (.classLink RX4 62 "java/lang/IllegalArgumentException") (by decide +kernel)
  have hl8 := hts (.initialized "java/lang/IllegalArgumentException") (by decide +kernel)
  refine lv_iload_n hx hb dX4_put_0 rfl (lv_at hl 1 rfl) ?_
  refine lv_if_lt (tgt := 15) hx hb dX4_put_1 (by decide) (fun c1 => ?_) (fun c1 => ?_)
  · replace hR := (if_pos c1).symm.trans hR
    obtain rfl := Sum.inl.inj (Option.some.inj hR)
    exact kk_throw (names := ["java/lang/RuntimeException", "java/lang/Exception"]) (text := "no such place") (k := 1) hC hst hlocks hno hK hG hP hD hS hA rfl rfl (by decide +kernel) (by decide +kernel) (by decide +kernel) hl0 hl1 (by decide +kernel) (by decide +kernel) (by decide +kernel) hl.1 dX4_put_15 dX4_put_18 dX4_put_19 dX4_put_21 dX4_put_24 ⟨Nat.le_of_ble_eq_true rfl, Nat.le_of_ble_eq_true rfl, Nat.le_of_ble_eq_true rfl, Nat.le_of_ble_eq_true rfl⟩
  · replace hR := (if_neg c1).symm.trans hR
    refine lv_iload_n hx hb dX4_put_4 rfl (lv_at hl 1 rfl) ?_
    refine lv_aload_n hx hb dX4_put_5 rfl (lv_at hl 0 rfl) ?_
    refine va_get (ci := 4) (C := RX4) (T := TX4) (N := 7) hx hb hts hw4 hown hK hP 0 rfl rfl 0 (by decide) hl2 (fun _ h9 => h9) rfl dX4_put_6 ?_
    refine va_get (ci := 2) (C := RX2) (T := TX2) (N := 11) hx hb hts hw2 hown hK hP 2 rfl rfl 0 (by decide) hl3 (fun _ h9 => h9) rfl dX4_put_9 ?_
    refine lv_icmp_le (tgt := 25) hx hb dX4_put_12 (by decide) (fun c2 => ?_) (fun c2 => ?_)
    · replace hR := (if_pos c2).symm.trans hR
      refine lv_iload_n hx hb dX4_put_25 rfl (lv_at hl 2 rfl) ?_
      refine lv_iload_n hx hb dX4_put_26 rfl (lv_at hl 3 rfl) ?_
      refine lv_iload hx hb dX4_put_27 (lv_at hl 4 rfl) ?_
      obtain ⟨x3, hq3, hR⟩ := kk_bd_el hR
      refine kk_call_Si (w' := (w_F g a G ++ w_H g (a 0 2) h V)) (As := [.int v2, .int v3, .int v4]) (rest := []) hC (sX4_isFloat l g n   v2 v3 v4 x3 hq3) (va_cwS 3 hts gX4_put_X4_isFloat rfl rfl rfl (by decide +kernel) ⟨Nat.le_of_ble_eq_true rfl, Nat.le_of_ble_eq_true rfl⟩) hK hP hD hS hA [] rfl (by decide +kernel) rfl rfl rfl rfl hl.1 (Nat.le_of_ble_eq_true rfl) dX4_put_29 (fun H locs hP hD hS => ?_)
      refine lv_if_ne (tgt := 45) hx hb dX4_put_32 (by decide) (fun c4 => ?_) (fun c4 => ?_)
      · replace hR := (if_neg c4).symm.trans hR
        refine lv_aload_n hx hb dX4_put_45 rfl (lv_at hl 0 rfl) ?_
        refine va_get (ci := 4) (C := RX4) (T := TX4) (N := 7) hx hb hts hw4 hown hK hP 0 rfl rfl 0 (by decide) hl2 (fun _ h9 => h9) rfl dX4_put_46 ?_
        refine va_get (ci := 2) (C := RX2) (T := TX2) (N := 11) hx hb hts hw2 hown hK hP 2 rfl rfl 0 (by decide) hl3 (fun _ h9 => h9) rfl dX4_put_49 ?_
        refine lv_bipush (v := (12 : Int32)) hx hb dX4_put_52 (by decide) ?_
        refine lv_icmp_lt (tgt := 67) hx hb dX4_put_54 (by decide) (fun c5 => ?_) (fun c5 => ?_)
        · replace hR := (if_pos c5).symm.trans hR
          refine lv_aload_n hx hb dX4_put_67 rfl (lv_at hl 0 rfl) ?_
          refine va_get (ci := 4) (C := RX4) (T := TX4) (N := 7) hx hb hts hw4 hown hK hP 0 rfl rfl 2 (by decide) hl4 (fun _ h9 => h9) rfl dX4_put_68 ?_
          refine lv_aload_n hx hb dX4_put_71 rfl (lv_at hl 0 rfl) ?_
          refine va_get (ci := 4) (C := RX4) (T := TX4) (N := 7) hx hb hts hw4 hown hK hP 0 rfl rfl 0 (by decide) hl2 (fun _ h9 => h9) rfl dX4_put_72 ?_
          obtain ⟨x6, hq6, hR⟩ := kk_bd_el hR
          refine kk_call_Vv (w' := (w_F g a G ++ w_H g (a 0 2) h x6)) (As := [.ref (a 1 0)]) (rest := []) 24 1 hC (sX1_save l g n (a 0 2) h (a 1) V (G 1)  x6 hq6) (cwV 1 hts gX4_put_X1_save rfl rfl rfl (by decide +kernel) ⟨Nat.le_of_ble_eq_true rfl, Nat.le_of_ble_eq_true rfl⟩) hK hP hD hS hA [24, 25, 26, 27, 28, 29, 30, 31, 32, 33, 34, 35, 36, 37, 38, 39, 40, 41, 42, 43, 44, 45, 46, 47, 48, 49, 50, 51, 52, 53, 54, 55, 56, 57, 58, 59, 60, 61, 62, 63, 64, 65, 66, 67, 68, 69, 70, 71, 72, 73, 74, 75, 76, 77, 78, 79, 80, 81, 82, 83, 84, 85, 2, 3, 4, 5, 6, 7, 8, 9, 10, 11] (kk_m2 (is1 := [24, 25, 26, 27, 28, 29, 30, 31, 32, 33, 34, 35, 36, 37, 38, 39, 40, 41, 42, 43, 44, 45, 46, 47, 48, 49, 50, 51, 52, 53, 54, 55, 56, 57, 58, 59, 60, 61, 62, 63, 64, 65, 66, 67, 68, 69, 70, 71, 72, 73, 74, 75, 76, 77, 78, 79, 80, 81, 82, 83, 84, 85]) rfl (kk_mr (js := [0, 1, 2, 3, 4, 5, 6, 7, 8, 9, 10, 11, 12, 13, 14, 15, 16, 17, 18, 19, 20, 21, 22, 23, 24, 25, 26, 27, 28, 29, 30, 31, 32, 33, 34, 35, 36, 37, 38, 39, 40, 41, 42, 43, 44, 45, 46, 47, 48, 49, 50, 51, 52, 53, 54, 55, 56, 57, 58, 59, 60, 61]) 24 rfl (by decide +kernel) (kk_m0 62 (by decide +kernel) rfl)) (kk_ml 24 rfl (by decide +kernel) (kk_ml 23 rfl (by decide +kernel) (kk_ml 22 rfl (by decide +kernel) (kk_ml 12 rfl (by decide +kernel) (kk_mr (js := [0, 1, 2, 3, 4, 5, 6, 7, 8, 9]) 2 rfl (by decide +kernel) (kk_m0 10 (by decide +kernel) rfl))))))) (by decide +kernel) rfl (kk_set2 (is1 := [24, 25, 26, 27, 28, 29, 30, 31, 32, 33, 34, 35, 36, 37, 38, 39, 40, 41, 42, 43, 44, 45, 46, 47, 48, 49, 50, 51, 52, 53, 54, 55, 56, 57, 58, 59, 60, 61, 62, 63, 64, 65, 66, 67, 68, 69, 70, 71, 72, 73, 74, 75, 76, 77, 78, 79, 80, 81, 82, 83, 84, 85]) rfl rfl (kk_sr (js := [0, 1, 2, 3, 4, 5, 6, 7, 8, 9, 10, 11, 12, 13, 14, 15, 16, 17, 18, 19, 20, 21, 22, 23, 24, 25, 26, 27, 28, 29, 30, 31, 32, 33, 34, 35, 36, 37, 38, 39, 40, 41, 42, 43, 44, 45, 46, 47, 48, 49, 50, 51, 52, 53, 54, 55, 56, 57, 58, 59, 60, 61]) 24 rfl (by decide +kernel) (kk_s0 62 (by decide +kernel) rfl rfl)) (kk_sl 24 rfl (by decide +kernel) (kk_sl 23 rfl (by decide +kernel) (kk_sl 22 rfl (by decide +kernel) (kk_sl 12 rfl (by decide +kernel) (kk_sr (js := [0, 1, 2, 3, 4, 5, 6, 7, 8, 9]) 2 rfl (by decide +kernel) (kk_s0 10 (by decide +kernel) rfl rfl))))))) rfl rfl rfl rfl rfl hl.1 (Nat.le_of_ble_eq_true rfl) dX4_put_75 (fun H locs hP hD hS => ?_)
          refine lv_aload_n hx hb dX4_put_78 rfl (lv_at hl 0 rfl) ?_
          refine va_get (ci := 4) (C := RX4) (T := TX4) (N := 7) hx hb hts hw4 hown hK hP 0 rfl rfl 0 (by decide) hl2 (fun _ h9 => h9) rfl dX4_put_79 ?_
          refine lv_iload_n hx hb dX4_put_82 rfl (lv_at hl 2 rfl) ?_
          refine lv_iload_n hx hb dX4_put_83 rfl (lv_at hl 3 rfl) ?_
          refine lv_iload hx hb dX4_put_84 (lv_at hl 4 rfl) ?_
          obtain ⟨x7, hq7, hR⟩ := kk_bd_el hR
          obtain ⟨G8, eG8, hR⟩ := kk_nm_el hR
          refine kk_call_Vv (w' := (w_F g a G8 ++ w_H g (a 0 2) h x6)) (As := [.int v2, .int v3, .int v4]) (rest := []) 2 2 hC (sX2_addLast l g n (a 1) (G 1) v2 v3 v4 x7 hq7) (cwV 3 hts gX4_put_X2_addLast rfl rfl rfl (by decide +kernel) ⟨Nat.le_of_ble_eq_true rfl, Nat.le_of_ble_eq_true rfl⟩) hK hP hD hS hA [2, 3, 4, 5, 6, 7, 8, 9, 10, 11] (kk_ml 24 rfl (by decide +kernel) (kk_ml 23 rfl (by decide +kernel) (kk_ml 22 rfl (by decide +kernel) (kk_ml 12 rfl (by decide +kernel) (kk_mr (js := [0, 1, 2, 3, 4, 5, 6, 7, 8, 9]) 2 rfl (by decide +kernel) (kk_m0 10 (by decide +kernel) rfl)))))) (by decide +kernel) rfl (by rw [eG8]; exact kk_sl 24 rfl (by decide +kernel) (kk_sl 23 rfl (by decide +kernel) (kk_sl 22 rfl (by decide +kernel) (kk_sl 12 rfl (by decide +kernel) (kk_sr (js := [0, 1, 2, 3, 4, 5, 6, 7, 8, 9]) 2 rfl (by decide +kernel) (kk_s0 10 (by decide +kernel) rfl rfl)))))) rfl rfl rfl rfl rfl hl.1 (Nat.le_of_ble_eq_true rfl) dX4_put_86 (fun H locs hP hD hS => ?_)
          refine lv_aload_n hx hb dX4_put_89 rfl (lv_at hl 0 rfl) ?_
          refine va_get (ci := 4) (C := RX4) (T := TX4) (N := 7) hx hb hts hw4 hown hK hP 0 rfl rfl 0 (by decide) hl2 (fun _ h9 => h9) rfl dX4_put_90 ?_
          refine lv_aload_n hx hb dX4_put_93 rfl (lv_at hl 0 rfl) ?_
          refine va_get (ci := 4) (C := RX4) (T := TX4) (N := 7) hx hb hts hw4 hown hK hP 0 rfl rfl 0 (by decide) hl2 (fun _ h9 => h9) rfl dX4_put_94 ?_
          refine va_get (ci := 2) (C := RX2) (T := TX2) (N := 11) hx hb hts hw2 hown hK hP 2 rfl rfl 0 (by decide) hl3 (fun _ h9 => h9) rfl dX4_put_97 ?_
          refine lv_iconst (v := (1 : Int32)) hx hb dX4_put_100 (by decide) ?_
          refine lv_isub hx hb dX4_put_101 ?_
          refine lv_iload_n hx hb dX4_put_102 rfl (lv_at hl 1 rfl) ?_
          obtain ⟨x9, hq9, hR⟩ := kk_bd_el hR
          obtain ⟨G10, eG10, hR⟩ := kk_nm_el hR
          refine kk_call_Vv (w' := (w_F g a G10 ++ w_H g (a 0 2) h x6)) (As := [.int ((G8 1 0 0) - (1 : Int32)), .int v1]) (rest := []) 2 2 hC (sX2_shift l g n (a 1) (G8 1) ((G8 1 0 0) - (1 : Int32)) v1 x9 hq9) (cwV 2 hts gX4_put_X2_shift rfl rfl rfl (by decide +kernel) ⟨Nat.le_of_ble_eq_true rfl, Nat.le_of_ble_eq_true rfl⟩) hK hP hD hS hA [2, 3, 4, 5, 6, 7, 8, 9, 10, 11] (kk_ml 24 rfl (by decide +kernel) (kk_ml 23 rfl (by decide +kernel) (kk_ml 22 rfl (by decide +kernel) (kk_ml 12 rfl (by decide +kernel) (kk_mr (js := [0, 1, 2, 3, 4, 5, 6, 7, 8, 9]) 2 rfl (by decide +kernel) (kk_m0 10 (by decide +kernel) rfl)))))) (by decide +kernel) rfl (by rw [eG10]; exact kk_sl 24 rfl (by decide +kernel) (kk_sl 23 rfl (by decide +kernel) (kk_sl 22 rfl (by decide +kernel) (kk_sl 12 rfl (by decide +kernel) (kk_sr (js := [0, 1, 2, 3, 4, 5, 6, 7, 8, 9]) 2 rfl (by decide +kernel) (kk_s0 10 (by decide +kernel) rfl rfl)))))) rfl rfl rfl rfl rfl hl.1 (Nat.le_of_ble_eq_true rfl) dX4_put_103 (fun H locs hP hD hS => ?_)
          refine lv_aload_n hx hb dX4_put_106 rfl (lv_at hl 0 rfl) ?_
          refine va_get (ci := 4) (C := RX4) (T := TX4) (N := 7) hx hb hts hw4 hown hK hP 0 rfl rfl 0 (by decide) hl2 (fun _ h9 => h9) rfl dX4_put_107 ?_
          refine va_get (ci := 2) (C := RX2) (T := TX2) (N := 11) hx hb hts hw2 hown hK hP 2 rfl rfl 0 (by decide) hl3 (fun _ h9 => h9) rfl dX4_put_110 ?_
          cases hR
        · replace hR := (if_neg c5).symm.trans hR
          obtain rfl := Sum.inl.inj (Option.some.inj hR)
          exact kk_throw (names := ["java/lang/RuntimeException", "java/lang/Exception"]) (text := "there are 12 floats") (k := 3) hC hst hlocks hno hK hG hP hD hS hA rfl rfl (by decide +kernel) (by decide +kernel) (by decide +kernel) hl5 hl6 (by decide +kernel) (by decide +kernel) (by decide +kernel) hl.1 dX4_put_57 dX4_put_60 dX4_put_61 dX4_put_63 dX4_put_66 ⟨Nat.le_of_ble_eq_true rfl, Nat.le_of_ble_eq_true rfl, Nat.le_of_ble_eq_true rfl, Nat.le_of_ble_eq_true rfl⟩
      · replace hR := (if_pos c4).symm.trans hR
        obtain rfl := Sum.inl.inj (Option.some.inj hR)
        exact kk_throw (names := ["java/lang/RuntimeException", "java/lang/Exception"]) (text := "kind, height or shies is out of range") (k := 2) hC hst hlocks hno hK hG hP hD hS hA rfl rfl (by decide +kernel) (by decide +kernel) (by decide +kernel) hl7 hl8 (by decide +kernel) (by decide +kernel) (by decide +kernel) hl.1 dX4_put_35 dX4_put_38 dX4_put_39 dX4_put_41 dX4_put_44 ⟨Nat.le_of_ble_eq_true rfl, Nat.le_of_ble_eq_true rfl, Nat.le_of_ble_eq_true rfl, Nat.le_of_ble_eq_true rfl⟩
    · replace hR := (if_neg c2).symm.trans hR
      obtain rfl := Sum.inl.inj (Option.some.inj hR)
      exact kk_throw (names := ["java/lang/RuntimeException", "java/lang/Exception"]) (text := "no such place") (k := 1) hC hst hlocks hno hK hG hP hD hS hA rfl rfl (by decide +kernel) (by decide +kernel) (by decide +kernel) hl0 hl1 (by decide +kernel) (by decide +kernel) (by decide +kernel) hl.1 dX4_put_15 dX4_put_18 dX4_put_19 dX4_put_21 dX4_put_24 ⟨Nat.le_of_ble_eq_true rfl, Nat.le_of_ble_eq_true rfl, Nat.le_of_ble_eq_true rfl, Nat.le_of_ble_eq_true rfl⟩
set_option maxHeartbeats 8000000 in
set_option maxRecDepth 100000 in
theorem sX4_remove (l : Launch) (g : kG) (n : Nat) (a : Nat → Nat → Nat) (h : Nat → Nat → Nat) (G : St2) (V : St2) (v1 : Int32) (r : Int32 × St2 × St2) (hR : fX4_remove n G V v1 = some (.inr r)) : kSp l g yX4_remove wsX4_remove ({ frames := 3, cells := 0, slots := 0, locals := 70 }) [.ref (a 0 0), .int v1] (w_F g a G ++ w_H g (a 0 2) h V) (kQi g (w_F g a r.2.1 ++ w_H g (a 0 2) h r.2.2) r.1) := by
  refine kSp.of (cc := cX4_remove) (maxL := 2) (ret := (some .int)) (by decide) rfl (Nat.le_of_ble_eq_true rfl) ?_
  intro p e s m args below meth c ls A hC hr hlocks hA hK hl hP hD hS
  replace hC : CallFix p m c cX4_remove 2 s args wsX4_remove RX4 := hC
  obtain ⟨hx, hb, hml, hown, hts⟩ := id hC
  replace hl : lv_has ls 2 [(0, .ref (a 0 0)), (1, .int v1)] := hl
  unfold fX4_remove at hR
  have hw2 : ∀ w ∈ wsX20, w ∈ wsX4_remove := by decide +kernel
  have hw4 : ∀ w ∈ wsX40, w ∈ wsX4_remove := by decide +kernel
  have hl0 := hts (.fieldLink RX4 22 "FloatOrder" "history" "LFloatOrder$History;") (by decide +kernel)
  have hl1 := hts (.fieldLink RX4 10 "FloatOrder" "parade" "LFloatOrder$Parade;") (by decide +kernel)
  have hl2 := hts (.fieldLink RX4 48 "FloatOrder$Parade" "floats" "I") (by decide +kernel)
  refine lv_aload_n hx hb dX4_remove_0 rfl (lv_at hl 0 rfl) ?_
  refine lv_iload_n hx hb dX4_remove_1 rfl (lv_at hl 1 rfl) ?_
  obtain ⟨y1, hq2, hR⟩ := kk_bd_el hR
  obtain ⟨x2, ex2, hR⟩ := kk_tr_ok hR
  subst ex2
  refine kk_call_Vv (w' := (w_F g a G ++ w_H g (a 0 2) h V)) (As := [.int v1]) (rest := []) 0 4 hC (sX4_needFloat l g n a G v1 x2 hq2) (cwV 1 hts gX4_remove_X4_needFloat rfl rfl rfl (by decide +kernel) ⟨Nat.le_of_ble_eq_true rfl, Nat.le_of_ble_eq_true rfl⟩) hK hP hD hS hA [0, 1, 2, 3, 4, 5, 6, 7, 8, 9, 10, 11, 12, 13, 14, 15, 16, 17, 18, 19, 20, 21, 22, 23] (kk_ml 24 rfl (by decide +kernel) (kk_m0 24 (by decide +kernel) rfl)) (by decide +kernel) rfl (kk_sl 24 rfl (by decide +kernel) (kk_s0 24 (by decide +kernel) rfl rfl)) rfl rfl rfl rfl rfl hl.1 (Nat.le_of_ble_eq_true rfl) dX4_remove_2 (fun H locs hP hD hS => ?_)
  refine lv_aload_n hx hb dX4_remove_5 rfl (lv_at hl 0 rfl) ?_
  refine va_get (ci := 4) (C := RX4) (T := TX4) (N := 7) hx hb hts hw4 hown hK hP 0 rfl rfl 2 (by decide) hl0 (fun _ h9 => h9) rfl dX4_remove_6 ?_
  refine lv_aload_n hx hb dX4_remove_9 rfl (lv_at hl 0 rfl) ?_
  refine va_get (ci := 4) (C := RX4) (T := TX4) (N := 7) hx hb hts hw4 hown hK hP 0 rfl rfl 0 (by decide) hl1 (fun _ h9 => h9) rfl dX4_remove_10 ?_
  obtain ⟨x3, hq3, hR⟩ := kk_bd_el hR
  refine kk_call_Vv (w' := (w_F g a G ++ w_H g (a 0 2) h x3)) (As := [.ref (a 1 0)]) (rest := []) 24 1 hC (sX1_save l g n (a 0 2) h (a 1) V (G 1)  x3 hq3) (cwV 1 hts gX4_remove_X1_save rfl rfl rfl (by decide +kernel) ⟨Nat.le_of_ble_eq_true rfl, Nat.le_of_ble_eq_true rfl⟩) hK hP hD hS hA [24, 25, 26, 27, 28, 29, 30, 31, 32, 33, 34, 35, 36, 37, 38, 39, 40, 41, 42, 43, 44, 45, 46, 47, 48, 49, 50, 51, 52, 53, 54, 55, 56, 57, 58, 59, 60, 61, 62, 63, 64, 65, 66, 67, 68, 69, 70, 71, 72, 73, 74, 75, 76, 77, 78, 79, 80, 81, 82, 83, 84, 85, 2, 3, 4, 5, 6, 7, 8, 9, 10, 11] (kk_m2 (is1 := [24, 25, 26, 27, 28, 29, 30, 31, 32, 33, 34, 35, 36, 37, 38, 39, 40, 41, 42, 43, 44, 45, 46, 47, 48, 49, 50, 51, 52, 53, 54, 55, 56, 57, 58, 59, 60, 61, 62, 63, 64, 65, 66, 67, 68, 69, 70, 71, 72, 73, 74, 75, 76, 77, 78, 79, 80, 81, 82, 83, 84, 85]) rfl (kk_mr (js := [0, 1, 2, 3, 4, 5, 6, 7, 8, 9, 10, 11, 12, 13, 14, 15, 16, 17, 18, 19, 20, 21, 22, 23, 24, 25, 26, 27, 28, 29, 30, 31, 32, 33, 34, 35, 36, 37, 38, 39, 40, 41, 42, 43, 44, 45, 46, 47, 48, 49, 50, 51, 52, 53, 54, 55, 56, 57, 58, 59, 60, 61]) 24 rfl (by decide +kernel) (kk_m0 62 (by decide +kernel) rfl)) (kk_ml 24 rfl (by decide +kernel) (kk_ml 23 rfl (by decide +kernel) (kk_ml 22 rfl (by decide +kernel) (kk_ml 12 rfl (by decide +kernel) (kk_mr (js := [0, 1, 2, 3, 4, 5, 6, 7, 8, 9]) 2 rfl (by decide +kernel) (kk_m0 10 (by decide +kernel) rfl))))))) (by decide +kernel) rfl (kk_set2 (is1 := [24, 25, 26, 27, 28, 29, 30, 31, 32, 33, 34, 35, 36, 37, 38, 39, 40, 41, 42, 43, 44, 45, 46, 47, 48, 49, 50, 51, 52, 53, 54, 55, 56, 57, 58, 59, 60, 61, 62, 63, 64, 65, 66, 67, 68, 69, 70, 71, 72, 73, 74, 75, 76, 77, 78, 79, 80, 81, 82, 83, 84, 85]) rfl rfl (kk_sr (js := [0, 1, 2, 3, 4, 5, 6, 7, 8, 9, 10, 11, 12, 13, 14, 15, 16, 17, 18, 19, 20, 21, 22, 23, 24, 25, 26, 27, 28, 29, 30, 31, 32, 33, 34, 35, 36, 37, 38, 39, 40, 41, 42, 43, 44, 45, 46, 47, 48, 49, 50, 51, 52, 53, 54, 55, 56, 57, 58, 59, 60, 61]) 24 rfl (by decide +kernel) (kk_s0 62 (by decide +kernel) rfl rfl)) (kk_sl 24 rfl (by decide +kernel) (kk_sl 23 rfl (by decide +kernel) (kk_sl 22 rfl (by decide +kernel) (kk_sl 12 rfl (by decide +kernel) (kk_sr (js := [0, 1, 2, 3, 4, 5, 6, 7, 8, 9]) 2 rfl (by decide +kernel) (kk_s0 10 (by decide +kernel) rfl rfl))))))) rfl rfl rfl rfl rfl hl.1 (Nat.le_of_ble_eq_true rfl) dX4_remove_13 (fun H locs hP hD hS => ?_)
  refine lv_aload_n hx hb dX4_remove_16 rfl (lv_at hl 0 rfl) ?_
  refine va_get (ci := 4) (C := RX4) (T := TX4) (N := 7) hx hb hts hw4 hown hK hP 0 rfl rfl 0 (by decide) hl1 (fun _ h9 => h9) rfl dX4_remove_17 ?_
  refine lv_iload_n hx hb dX4_remove_20 rfl (lv_at hl 1 rfl) ?_
  obtain ⟨x4, hq4, hR⟩ := kk_bd_el hR
  obtain ⟨G5, eG5, hR⟩ := kk_nm_el hR
  refine kk_call_Vv (w' := (w_F g a G5 ++ w_H g (a 0 2) h x3)) (As := [.int v1]) (rest := []) 2 2 hC (sX2_takeAway l g n (a 1) (G 1) v1 x4 hq4) (cwV 1 hts gX4_remove_X2_takeAway rfl rfl rfl (by decide +kernel) ⟨Nat.le_of_ble_eq_true rfl, Nat.le_of_ble_eq_true rfl⟩) hK hP hD hS hA [2, 3, 4, 5, 6, 7, 8, 9, 10, 11] (kk_ml 24 rfl (by decide +kernel) (kk_ml 23 rfl (by decide +kernel) (kk_ml 22 rfl (by decide +kernel) (kk_ml 12 rfl (by decide +kernel) (kk_mr (js := [0, 1, 2, 3, 4, 5, 6, 7, 8, 9]) 2 rfl (by decide +kernel) (kk_m0 10 (by decide +kernel) rfl)))))) (by decide +kernel) rfl (by rw [eG5]; exact kk_sl 24 rfl (by decide +kernel) (kk_sl 23 rfl (by decide +kernel) (kk_sl 22 rfl (by decide +kernel) (kk_sl 12 rfl (by decide +kernel) (kk_sr (js := [0, 1, 2, 3, 4, 5, 6, 7, 8, 9]) 2 rfl (by decide +kernel) (kk_s0 10 (by decide +kernel) rfl rfl)))))) rfl rfl rfl rfl rfl hl.1 (Nat.le_of_ble_eq_true rfl) dX4_remove_21 (fun H locs hP hD hS => ?_)
  refine lv_aload_n hx hb dX4_remove_24 rfl (lv_at hl 0 rfl) ?_
  refine va_get (ci := 4) (C := RX4) (T := TX4) (N := 7) hx hb hts hw4 hown hK hP 0 rfl rfl 0 (by decide) hl1 (fun _ h9 => h9) rfl dX4_remove_25 ?_
  refine va_get (ci := 2) (C := RX2) (T := TX2) (N := 11) hx hb hts hw2 hown hK hP 2 rfl rfl 0 (by decide) hl2 (fun _ h9 => h9) rfl dX4_remove_28 ?_
  obtain rfl := Sum.inr.inj (Option.some.inj hR)
  exact kk_ret_i hC hr hlocks hK hP hD hS dX4_remove_31 rfl
set_option maxHeartbeats 8000000 in
set_option maxRecDepth 100000 in
theorem sX4_remove_th (l : Launch) (hst : l.stackTraces = false) (g : kG) (n : Nat) (a : Nat → Nat → Nat) (h : Nat → Nat → Nat) (G : St2) (V : St2) (v1 : Int32) (k : Nat) (hR : fX4_remove n G V v1 = some (.inl k)) : kSt l g yX4_remove wsX4_remove ({ frames := 7, cells := 1, slots := 6, locals := 111 }) [.ref (a 0 0), .int v1] (w_F g a G ++ w_H g (a 0 2) h V) (w_F g a G ++ w_H g (a 0 2) h V) k := by
  refine kSt.of (cc := cX4_remove) (maxL := 2) (ret := (some .int)) (by decide) rfl (Nat.le_of_ble_eq_true rfl) ?_
  intro p e s m args below meth c ls A hC hlocks hno hA hK hG hl hP hD hS
  replace hC : CallFix p m c cX4_remove 2 s args wsX4_remove RX4 := hC
  obtain ⟨hx, hb, hml, hown, hts⟩ := id hC
  replace hl : lv_has ls 2 [(0, .ref (a 0 0)), (1, .int v1)] := hl
  unfold fX4_remove at hR
  have hw2 : ∀ w ∈ wsX20, w ∈ wsX4_remove := by decide +kernel
  have hw4 : ∀ w ∈ wsX40, w ∈ wsX4_remove := by decide +kernel
  have hl0 := hts (.fieldLink RX4 22 "FloatOrder" "history" "LFloatOrder$History;") (by decide +kernel)
  have hl1 := hts (.fieldLink RX4 10 "FloatOrder" "parade" "LFloatOrder$Parade;") (by decide +kernel)
  have hl2 := hts (.fieldLink RX4 48 "FloatOrder$Parade" "floats" "I") (by decide +kernel)
  refine lv_aload_n hx hb dX4_remove_0 rfl (lv_at hl 0 rfl) ?_
  refine lv_iload_n hx hb dX4_remove_1 rfl (lv_at hl 1 rfl) ?_
  obtain ⟨y1, hq2, hR⟩ := kk_bd_el hR
  rcases kk_tr_th hR with ex2 | ⟨x2, ex2, hR⟩
  · subst ex2
    exact kk_callT_V (As := [.int v1]) (rest := []) 0 4 hC (sX4_needFloat_th l hst g n a G v1 k hq2) (cwV 1 hts gX4_remove_X4_needFloat rfl rfl rfl (by decide +kernel) ⟨Nat.le_of_ble_eq_true rfl, Nat.le_of_ble_eq_true rfl⟩) hlocks hno hK hG hP hD hS hA [0, 1, 2, 3, 4, 5, 6, 7, 8, 9, 10, 11, 12, 13, 14, 15, 16, 17, 18, 19, 20, 21, 22, 23] (kk_ml 24 rfl (by decide +kernel) (kk_m0 24 (by decide +kernel) rfl)) (by decide +kernel) rfl (kk_sl 24 rfl (by decide +kernel) (kk_s0 24 (by decide +kernel) rfl rfl)) rfl rfl rfl rfl rfl hl.1 (Nat.le_of_ble_eq_true rfl) dX4_remove_2 ⟨Nat.le_of_ble_eq_true rfl, Nat.le_of_ble_eq_true rfl⟩
  subst ex2
  refine kk_call_Vv (w' := (w_F g a G ++ w_H g (a 0 2) h V)) (As := [.int v1]) (rest := []) 0 4 hC (sX4_needFloat l g n a G v1 x2 hq2) (cwV 1 hts gX4_remove_X4_needFloat rfl rfl rfl (by decide +kernel) ⟨Nat.le_of_ble_eq_true rfl, Nat.le_of_ble_eq_true rfl⟩) hK hP hD hS hA [0, 1, 2, 3, 4, 5, 6, 7, 8, 9, 10, 11, 12, 13, 14, 15, 16, 17, 18, 19, 20, 21, 22, 23] (kk_ml 24 rfl (by decide +kernel) (kk_m0 24 (by decide +kernel) rfl)) (by decide +kernel) rfl (kk_sl 24 rfl (by decide +kernel) (kk_s0 24 (by decide +kernel) rfl rfl)) rfl rfl rfl rfl rfl hl.1 (Nat.le_of_ble_eq_true rfl) dX4_remove_2 (fun H locs hP hD hS => ?_)
  refine lv_aload_n hx hb dX4_remove_5 rfl (lv_at hl 0 rfl) ?_
  refine va_get (ci := 4) (C := RX4) (T := TX4) (N := 7) hx hb hts hw4 hown hK hP 0 rfl rfl 2 (by decide) hl0 (fun _ h9 => h9) rfl dX4_remove_6 ?_
  refine lv_aload_n hx hb dX4_remove_9 rfl (lv_at hl 0 rfl) ?_
  refine va_get (ci := 4) (C := RX4) (T := TX4) (N := 7) hx hb hts hw4 hown hK hP 0 rfl rfl 0 (by decide) hl1 (fun _ h9 => h9) rfl dX4_remove_10 ?_
  obtain ⟨x3, hq3, hR⟩ := kk_bd_el hR
  refine kk_call_Vv (w' := (w_F g a G ++ w_H g (a 0 2) h x3)) (As := [.ref (a 1 0)]) (rest := []) 24 1 hC (sX1_save l g n (a 0 2) h (a 1) V (G 1)  x3 hq3) (cwV 1 hts gX4_remove_X1_save rfl rfl rfl (by decide +kernel) ⟨Nat.le_of_ble_eq_true rfl, Nat.le_of_ble_eq_true rfl⟩) hK hP hD hS hA [24, 25, 26, 27, 28, 29, 30, 31, 32, 33, 34, 35, 36, 37, 38, 39, 40, 41, 42, 43, 44, 45, 46, 47, 48, 49, 50, 51, 52, 53, 54, 55, 56, 57, 58, 59, 60, 61, 62, 63, 64, 65, 66, 67, 68, 69, 70, 71, 72, 73, 74, 75, 76, 77, 78, 79, 80, 81, 82, 83, 84, 85, 2, 3, 4, 5, 6, 7, 8, 9, 10, 11] (kk_m2 (is1 := [24, 25, 26, 27, 28, 29, 30, 31, 32, 33, 34, 35, 36, 37, 38, 39, 40, 41, 42, 43, 44, 45, 46, 47, 48, 49, 50, 51, 52, 53, 54, 55, 56, 57, 58, 59, 60, 61, 62, 63, 64, 65, 66, 67, 68, 69, 70, 71, 72, 73, 74, 75, 76, 77, 78, 79, 80, 81, 82, 83, 84, 85]) rfl (kk_mr (js := [0, 1, 2, 3, 4, 5, 6, 7, 8, 9, 10, 11, 12, 13, 14, 15, 16, 17, 18, 19, 20, 21, 22, 23, 24, 25, 26, 27, 28, 29, 30, 31, 32, 33, 34, 35, 36, 37, 38, 39, 40, 41, 42, 43, 44, 45, 46, 47, 48, 49, 50, 51, 52, 53, 54, 55, 56, 57, 58, 59, 60, 61]) 24 rfl (by decide +kernel) (kk_m0 62 (by decide +kernel) rfl)) (kk_ml 24 rfl (by decide +kernel) (kk_ml 23 rfl (by decide +kernel) (kk_ml 22 rfl (by decide +kernel) (kk_ml 12 rfl (by decide +kernel) (kk_mr (js := [0, 1, 2, 3, 4, 5, 6, 7, 8, 9]) 2 rfl (by decide +kernel) (kk_m0 10 (by decide +kernel) rfl))))))) (by decide +kernel) rfl (kk_set2 (is1 := [24, 25, 26, 27, 28, 29, 30, 31, 32, 33, 34, 35, 36, 37, 38, 39, 40, 41, 42, 43, 44, 45, 46, 47, 48, 49, 50, 51, 52, 53, 54, 55, 56, 57, 58, 59, 60, 61, 62, 63, 64, 65, 66, 67, 68, 69, 70, 71, 72, 73, 74, 75, 76, 77, 78, 79, 80, 81, 82, 83, 84, 85]) rfl rfl (kk_sr (js := [0, 1, 2, 3, 4, 5, 6, 7, 8, 9, 10, 11, 12, 13, 14, 15, 16, 17, 18, 19, 20, 21, 22, 23, 24, 25, 26, 27, 28, 29, 30, 31, 32, 33, 34, 35, 36, 37, 38, 39, 40, 41, 42, 43, 44, 45, 46, 47, 48, 49, 50, 51, 52, 53, 54, 55, 56, 57, 58, 59, 60, 61]) 24 rfl (by decide +kernel) (kk_s0 62 (by decide +kernel) rfl rfl)) (kk_sl 24 rfl (by decide +kernel) (kk_sl 23 rfl (by decide +kernel) (kk_sl 22 rfl (by decide +kernel) (kk_sl 12 rfl (by decide +kernel) (kk_sr (js := [0, 1, 2, 3, 4, 5, 6, 7, 8, 9]) 2 rfl (by decide +kernel) (kk_s0 10 (by decide +kernel) rfl rfl))))))) rfl rfl rfl rfl rfl hl.1 (Nat.le_of_ble_eq_true rfl) dX4_remove_13 (fun H locs hP hD hS => ?_)
  refine lv_aload_n hx hb dX4_remove_16 rfl (lv_at hl 0 rfl) ?_
  refine va_get (ci := 4) (C := RX4) (T := TX4) (N := 7) hx hb hts hw4 hown hK hP 0 rfl rfl 0 (by decide) hl1 (fun _ h9 => h9) rfl dX4_remove_17 ?_
  refine lv_iload_n hx hb dX4_remove_20 rfl (lv_at hl 1 rfl) ?_
  obtain ⟨x4, hq4, hR⟩ := kk_bd_el hR
  obtain ⟨G5, eG5, hR⟩ := kk_nm_el hR
  refine kk_call_Vv (w' := (w_F g a G5 ++ w_H g (a 0 2) h x3)) (As := [.int v1]) (rest := []) 2 2 hC (sX2_takeAway l g n (a 1) (G 1) v1 x4 hq4) (cwV 1 hts gX4_remove_X2_takeAway rfl rfl rfl (by decide +kernel) ⟨Nat.le_of_ble_eq_true rfl, Nat.le_of_ble_eq_true rfl⟩) hK hP hD hS hA [2, 3, 4, 5, 6, 7, 8, 9, 10, 11] (kk_ml 24 rfl (by decide +kernel) (kk_ml 23 rfl (by decide +kernel) (kk_ml 22 rfl (by decide +kernel) (kk_ml 12 rfl (by decide +kernel) (kk_mr (js := [0, 1, 2, 3, 4, 5, 6, 7, 8, 9]) 2 rfl (by decide +kernel) (kk_m0 10 (by decide +kernel) rfl)))))) (by decide +kernel) rfl (by rw [eG5]; exact kk_sl 24 rfl (by decide +kernel) (kk_sl 23 rfl (by decide +kernel) (kk_sl 22 rfl (by decide +kernel) (kk_sl 12 rfl (by decide +kernel) (kk_sr (js := [0, 1, 2, 3, 4, 5, 6, 7, 8, 9]) 2 rfl (by decide +kernel) (kk_s0 10 (by decide +kernel) rfl rfl)))))) rfl rfl rfl rfl rfl hl.1 (Nat.le_of_ble_eq_true rfl) dX4_remove_21 (fun H locs hP hD hS => ?_)
  refine lv_aload_n hx hb dX4_remove_24 rfl (lv_at hl 0 rfl) ?_
  refine va_get (ci := 4) (C := RX4) (T := TX4) (N := 7) hx hb hts hw4 hown hK hP 0 rfl rfl 0 (by decide) hl1 (fun _ h9 => h9) rfl dX4_remove_25 ?_
  refine va_get (ci := 2) (C := RX2) (T := TX2) (N := 11) hx hb hts hw2 hown hK hP 2 rfl rfl 0 (by decide) hl2 (fun _ h9 => h9) rfl dX4_remove_28 ?_
  cases hR
set_option maxHeartbeats 8000000 in
set_option maxRecDepth 100000 in
theorem sX4_move (l : Launch) (g : kG) (n : Nat) (a : Nat → Nat → Nat) (h : Nat → Nat → Nat) (G : St2) (V : St2) (v1 : Int32) (v2 : Int32) (r : Int32 × St2 × St2) (hR : fX4_move n G V v1 v2 = some (.inr r)) : kSp l g yX4_move wsX4_move ({ frames := 3, cells := 0, slots := 0, locals := 66 }) [.ref (a 0 0), .int v1, .int v2] (w_F g a G ++ w_H g (a 0 2) h V) (kQi g (w_F g a r.2.1 ++ w_H g (a 0 2) h r.2.2) r.1) := by
  refine kSp.of (cc := cX4_move) (maxL := 3) (ret := (some .int)) (by decide) rfl (Nat.le_of_ble_eq_true rfl) ?_
  intro p e s m args below meth c ls A hC hr hlocks hA hK hl hP hD hS
  replace hC : CallFix p m c cX4_move 3 s args wsX4_move RX4 := hC
  obtain ⟨hx, hb, hml, hown, hts⟩ := id hC
  replace hl : lv_has ls 3 [(0, .ref (a 0 0)), (1, .int v1), (2, .int v2)] := hl
  unfold fX4_move at hR
  have hw4 : ∀ w ∈ wsX40, w ∈ wsX4_move := by decide +kernel
  have hl0 := hts (.fieldLink RX4 22 "FloatOrder" "history" "LFloatOrder$History;") (by decide +kernel)
  have hl1 := hts (.fieldLink RX4 10 "FloatOrder" "parade" "LFloatOrder$Parade;") (by decide +kernel)
  refine lv_aload_n hx hb dX4_move_0 rfl (lv_at hl 0 rfl) ?_
  refine lv_iload_n hx hb dX4_move_1 rfl (lv_at hl 1 rfl) ?_
  obtain ⟨y1, hq2, hR⟩ := kk_bd_el hR
  obtain ⟨x2, ex2, hR⟩ := kk_tr_ok hR
  subst ex2
  refine kk_call_Vv (w' := (w_F g a G ++ w_H g (a 0 2) h V)) (As := [.int v1]) (rest := []) 0 4 hC (sX4_needFloat l g n a G v1 x2 hq2) (cwV 1 hts gX4_move_X4_needFloat rfl rfl rfl (by decide +kernel) ⟨Nat.le_of_ble_eq_true rfl, Nat.le_of_ble_eq_true rfl⟩) hK hP hD hS hA [0, 1, 2, 3, 4, 5, 6, 7, 8, 9, 10, 11, 12, 13, 14, 15, 16, 17, 18, 19, 20, 21, 22, 23] (kk_ml 24 rfl (by decide +kernel) (kk_m0 24 (by decide +kernel) rfl)) (by decide +kernel) rfl (kk_sl 24 rfl (by decide +kernel) (kk_s0 24 (by decide +kernel) rfl rfl)) rfl rfl rfl rfl rfl hl.1 (Nat.le_of_ble_eq_true rfl) dX4_move_2 (fun H locs hP hD hS => ?_)
  refine lv_aload_n hx hb dX4_move_5 rfl (lv_at hl 0 rfl) ?_
  refine lv_iload_n hx hb dX4_move_6 rfl (lv_at hl 2 rfl) ?_
  obtain ⟨y3, hq4, hR⟩ := kk_bd_el hR
  obtain ⟨x4, ex4, hR⟩ := kk_tr_ok hR
  subst ex4
  refine kk_call_Vv (w' := (w_F g a G ++ w_H g (a 0 2) h V)) (As := [.int v2]) (rest := []) 0 4 hC (sX4_needFloat l g n a G v2 x4 hq4) (cwV 1 hts gX4_move_X4_needFloat rfl rfl rfl (by decide +kernel) ⟨Nat.le_of_ble_eq_true rfl, Nat.le_of_ble_eq_true rfl⟩) hK hP hD hS hA [0, 1, 2, 3, 4, 5, 6, 7, 8, 9, 10, 11, 12, 13, 14, 15, 16, 17, 18, 19, 20, 21, 22, 23] (kk_ml 24 rfl (by decide +kernel) (kk_m0 24 (by decide +kernel) rfl)) (by decide +kernel) rfl (kk_sl 24 rfl (by decide +kernel) (kk_s0 24 (by decide +kernel) rfl rfl)) rfl rfl rfl rfl rfl hl.1 (Nat.le_of_ble_eq_true rfl) dX4_move_7 (fun H locs hP hD hS => ?_)
  refine lv_aload_n hx hb dX4_move_10 rfl (lv_at hl 0 rfl) ?_
  refine va_get (ci := 4) (C := RX4) (T := TX4) (N := 7) hx hb hts hw4 hown hK hP 0 rfl rfl 2 (by decide) hl0 (fun _ h9 => h9) rfl dX4_move_11 ?_
  refine lv_aload_n hx hb dX4_move_14 rfl (lv_at hl 0 rfl) ?_
  refine va_get (ci := 4) (C := RX4) (T := TX4) (N := 7) hx hb hts hw4 hown hK hP 0 rfl rfl 0 (by decide) hl1 (fun _ h9 => h9) rfl dX4_move_15 ?_
  obtain ⟨x5, hq5, hR⟩ := kk_bd_el hR
  refine kk_call_Vv (w' := (w_F g a G ++ w_H g (a 0 2) h x5)) (As := [.ref (a 1 0)]) (rest := []) 24 1 hC (sX1_save l g n (a 0 2) h (a 1) V (G 1)  x5 hq5) (cwV 1 hts gX4_move_X1_save rfl rfl rfl (by decide +kernel) ⟨Nat.le_of_ble_eq_true rfl, Nat.le_of_ble_eq_true rfl⟩) hK hP hD hS hA [24, 25, 26, 27, 28, 29, 30, 31, 32, 33, 34, 35, 36, 37, 38, 39, 40, 41, 42, 43, 44, 45, 46, 47, 48, 49, 50, 51, 52, 53, 54, 55, 56, 57, 58, 59, 60, 61, 62, 63, 64, 65, 66, 67, 68, 69, 70, 71, 72, 73, 74, 75, 76, 77, 78, 79, 80, 81, 82, 83, 84, 85, 2, 3, 4, 5, 6, 7, 8, 9, 10, 11] (kk_m2 (is1 := [24, 25, 26, 27, 28, 29, 30, 31, 32, 33, 34, 35, 36, 37, 38, 39, 40, 41, 42, 43, 44, 45, 46, 47, 48, 49, 50, 51, 52, 53, 54, 55, 56, 57, 58, 59, 60, 61, 62, 63, 64, 65, 66, 67, 68, 69, 70, 71, 72, 73, 74, 75, 76, 77, 78, 79, 80, 81, 82, 83, 84, 85]) rfl (kk_mr (js := [0, 1, 2, 3, 4, 5, 6, 7, 8, 9, 10, 11, 12, 13, 14, 15, 16, 17, 18, 19, 20, 21, 22, 23, 24, 25, 26, 27, 28, 29, 30, 31, 32, 33, 34, 35, 36, 37, 38, 39, 40, 41, 42, 43, 44, 45, 46, 47, 48, 49, 50, 51, 52, 53, 54, 55, 56, 57, 58, 59, 60, 61]) 24 rfl (by decide +kernel) (kk_m0 62 (by decide +kernel) rfl)) (kk_ml 24 rfl (by decide +kernel) (kk_ml 23 rfl (by decide +kernel) (kk_ml 22 rfl (by decide +kernel) (kk_ml 12 rfl (by decide +kernel) (kk_mr (js := [0, 1, 2, 3, 4, 5, 6, 7, 8, 9]) 2 rfl (by decide +kernel) (kk_m0 10 (by decide +kernel) rfl))))))) (by decide +kernel) rfl (kk_set2 (is1 := [24, 25, 26, 27, 28, 29, 30, 31, 32, 33, 34, 35, 36, 37, 38, 39, 40, 41, 42, 43, 44, 45, 46, 47, 48, 49, 50, 51, 52, 53, 54, 55, 56, 57, 58, 59, 60, 61, 62, 63, 64, 65, 66, 67, 68, 69, 70, 71, 72, 73, 74, 75, 76, 77, 78, 79, 80, 81, 82, 83, 84, 85]) rfl rfl (kk_sr (js := [0, 1, 2, 3, 4, 5, 6, 7, 8, 9, 10, 11, 12, 13, 14, 15, 16, 17, 18, 19, 20, 21, 22, 23, 24, 25, 26, 27, 28, 29, 30, 31, 32, 33, 34, 35, 36, 37, 38, 39, 40, 41, 42, 43, 44, 45, 46, 47, 48, 49, 50, 51, 52, 53, 54, 55, 56, 57, 58, 59, 60, 61]) 24 rfl (by decide +kernel) (kk_s0 62 (by decide +kernel) rfl rfl)) (kk_sl 24 rfl (by decide +kernel) (kk_sl 23 rfl (by decide +kernel) (kk_sl 22 rfl (by decide +kernel) (kk_sl 12 rfl (by decide +kernel) (kk_sr (js := [0, 1, 2, 3, 4, 5, 6, 7, 8, 9]) 2 rfl (by decide +kernel) (kk_s0 10 (by decide +kernel) rfl rfl))))))) rfl rfl rfl rfl rfl hl.1 (Nat.le_of_ble_eq_true rfl) dX4_move_18 (fun H locs hP hD hS => ?_)
  refine lv_aload_n hx hb dX4_move_21 rfl (lv_at hl 0 rfl) ?_
  refine va_get (ci := 4) (C := RX4) (T := TX4) (N := 7) hx hb hts hw4 hown hK hP 0 rfl rfl 0 (by decide) hl1 (fun _ h9 => h9) rfl dX4_move_22 ?_
  refine lv_iload_n hx hb dX4_move_25 rfl (lv_at hl 1 rfl) ?_
  refine lv_iload_n hx hb dX4_move_26 rfl (lv_at hl 2 rfl) ?_
  obtain ⟨x6, hq6, hR⟩ := kk_bd_el hR
  obtain ⟨G7, eG7, hR⟩ := kk_nm_el hR
  refine kk_call_Vv (w' := (w_F g a G7 ++ w_H g (a 0 2) h x5)) (As := [.int v1, .int v2]) (rest := []) 2 2 hC (sX2_shift l g n (a 1) (G 1) v1 v2 x6 hq6) (cwV 2 hts gX4_move_X2_shift rfl rfl rfl (by decide +kernel) ⟨Nat.le_of_ble_eq_true rfl, Nat.le_of_ble_eq_true rfl⟩) hK hP hD hS hA [2, 3, 4, 5, 6, 7, 8, 9, 10, 11] (kk_ml 24 rfl (by decide +kernel) (kk_ml 23 rfl (by decide +kernel) (kk_ml 22 rfl (by decide +kernel) (kk_ml 12 rfl (by decide +kernel) (kk_mr (js := [0, 1, 2, 3, 4, 5, 6, 7, 8, 9]) 2 rfl (by decide +kernel) (kk_m0 10 (by decide +kernel) rfl)))))) (by decide +kernel) rfl (by rw [eG7]; exact kk_sl 24 rfl (by decide +kernel) (kk_sl 23 rfl (by decide +kernel) (kk_sl 22 rfl (by decide +kernel) (kk_sl 12 rfl (by decide +kernel) (kk_sr (js := [0, 1, 2, 3, 4, 5, 6, 7, 8, 9]) 2 rfl (by decide +kernel) (kk_s0 10 (by decide +kernel) rfl rfl)))))) rfl rfl rfl rfl rfl hl.1 (Nat.le_of_ble_eq_true rfl) dX4_move_27 (fun H locs hP hD hS => ?_)
  refine lv_aload_n hx hb dX4_move_30 rfl (lv_at hl 0 rfl) ?_
  refine va_get (ci := 4) (C := RX4) (T := TX4) (N := 7) hx hb hts hw4 hown hK hP 0 rfl rfl 0 (by decide) hl1 (fun _ h9 => h9) rfl dX4_move_31 ?_
  obtain ⟨x8, hq8, hR⟩ := kk_bd_el hR
  refine kk_call_Vi (w' := (w_F g a G7 ++ w_H g (a 0 2) h x5)) (As := []) (rest := []) 2 2 hC (sX2_allTrouble l g n (a 1) (G7 1)  x8 hq8) (cwV 0 hts gX4_move_X2_allTrouble rfl rfl rfl (by decide +kernel) ⟨Nat.le_of_ble_eq_true rfl, Nat.le_of_ble_eq_true rfl⟩) hK hP hD hS hA [2, 3, 4, 5, 6, 7, 8, 9, 10, 11] (kk_ml 24 rfl (by decide +kernel) (kk_ml 23 rfl (by decide +kernel) (kk_ml 22 rfl (by decide +kernel) (kk_ml 12 rfl (by decide +kernel) (kk_mr (js := [0, 1, 2, 3, 4, 5, 6, 7, 8, 9]) 2 rfl (by decide +kernel) (kk_m0 10 (by decide +kernel) rfl)))))) (by decide +kernel) rfl (kk_sl 24 rfl (by decide +kernel) (kk_sl 23 rfl (by decide +kernel) (kk_sl 22 rfl (by decide +kernel) (kk_sl 12 rfl (by decide +kernel) (kk_sr (js := [0, 1, 2, 3, 4, 5, 6, 7, 8, 9]) 2 rfl (by decide +kernel) (kk_s0 10 (by decide +kernel) rfl rfl)))))) rfl rfl rfl rfl rfl hl.1 (Nat.le_of_ble_eq_true rfl) dX4_move_34 (fun H locs hP hD hS => ?_)
  obtain rfl := Sum.inr.inj (Option.some.inj hR)
  exact kk_ret_i hC hr hlocks hK hP hD hS dX4_move_37 rfl
set_option maxHeartbeats 8000000 in
set_option maxRecDepth 100000 in
theorem sX4_move_th (l : Launch) (hst : l.stackTraces = false) (g : kG) (n : Nat) (a : Nat → Nat → Nat) (h : Nat → Nat → Nat) (G : St2) (V : St2) (v1 : Int32) (v2 : Int32) (k : Nat) (hR : fX4_move n G V v1 v2 = some (.inl k)) : kSt l g yX4_move wsX4_move ({ frames := 7, cells := 1, slots := 6, locals := 111 }) [.ref (a 0 0), .int v1, .int v2] (w_F g a G ++ w_H g (a 0 2) h V) (w_F g a G ++ w_H g (a 0 2) h V) k := by
  refine kSt.of (cc := cX4_move) (maxL := 3) (ret := (some .int)) (by decide) rfl (Nat.le_of_ble_eq_true rfl) ?_
  intro p e s m args below meth c ls A hC hlocks hno hA hK hG hl hP hD hS
  replace hC : CallFix p m c cX4_move 3 s args wsX4_move RX4 := hC
  obtain ⟨hx, hb, hml, hown, hts⟩ := id hC
  replace hl : lv_has ls 3 [(0, .ref (a 0 0)), (1, .int v1), (2, .int v2)] := hl
  unfold fX4_move at hR
  have hw4 : ∀ w ∈ wsX40, w ∈ wsX4_move := by decide +kernel
  have hl0 := hts (.fieldLink RX4 22 "FloatOrder" "history" "LFloatOrder$History;") (by decide +kernel)
  have hl1 := hts (.fieldLink RX4 10 "FloatOrder" "parade" "LFloatOrder$Parade;") (by decide +kernel)
  refine lv_aload_n hx hb dX4_move_0 rfl (lv_at hl 0 rfl) ?_
  refine lv_iload_n hx hb dX4_move_1 rfl (lv_at hl 1 rfl) ?_
  obtain ⟨y1, hq2, hR⟩ := kk_bd_el hR
  rcases kk_tr_th hR with ex2 | ⟨x2, ex2, hR⟩
  · subst ex2
    exact kk_callT_V (As := [.int v1]) (rest := []) 0 4 hC (sX4_needFloat_th l hst g n a G v1 k hq2) (cwV 1 hts gX4_move_X4_needFloat rfl rfl rfl (by decide +kernel) ⟨Nat.le_of_ble_eq_true rfl, Nat.le_of_ble_eq_true rfl⟩) hlocks hno hK hG hP hD hS hA [0, 1, 2, 3, 4, 5, 6, 7, 8, 9, 10, 11, 12, 13, 14, 15, 16, 17, 18, 19, 20, 21, 22, 23] (kk_ml 24 rfl (by decide +kernel) (kk_m0 24 (by decide +kernel) rfl)) (by decide +kernel) rfl (kk_sl 24 rfl (by decide +kernel) (kk_s0 24 (by decide +kernel) rfl rfl)) rfl rfl rfl rfl rfl hl.1 (Nat.le_of_ble_eq_true rfl) dX4_move_2 ⟨Nat.le_of_ble_eq_true rfl, Nat.le_of_ble_eq_true rfl⟩
  subst ex2
  refine kk_call_Vv (w' := (w_F g a G ++ w_H g (a 0 2) h V)) (As := [.int v1]) (rest := []) 0 4 hC (sX4_needFloat l g n a G v1 x2 hq2) (cwV 1 hts gX4_move_X4_needFloat rfl rfl rfl (by decide +kernel) ⟨Nat.le_of_ble_eq_true rfl, Nat.le_of_ble_eq_true rfl⟩) hK hP hD hS hA [0, 1, 2, 3, 4, 5, 6, 7, 8, 9, 10, 11, 12, 13, 14, 15, 16, 17, 18, 19, 20, 21, 22, 23] (kk_ml 24 rfl (by decide +kernel) (kk_m0 24 (by decide +kernel) rfl)) (by decide +kernel) rfl (kk_sl 24 rfl (by decide +kernel) (kk_s0 24 (by decide +kernel) rfl rfl)) rfl rfl rfl rfl rfl hl.1 (Nat.le_of_ble_eq_true rfl) dX4_move_2 (fun H locs hP hD hS => ?_)
  refine lv_aload_n hx hb dX4_move_5 rfl (lv_at hl 0 rfl) ?_
  refine lv_iload_n hx hb dX4_move_6 rfl (lv_at hl 2 rfl) ?_
  obtain ⟨y3, hq4, hR⟩ := kk_bd_el hR
  rcases kk_tr_th hR with ex4 | ⟨x4, ex4, hR⟩
  · subst ex4
    exact kk_callT_V (As := [.int v2]) (rest := []) 0 4 hC (sX4_needFloat_th l hst g n a G v2 k hq4) (cwV 1 hts gX4_move_X4_needFloat rfl rfl rfl (by decide +kernel) ⟨Nat.le_of_ble_eq_true rfl, Nat.le_of_ble_eq_true rfl⟩) hlocks hno hK hG hP hD hS hA [0, 1, 2, 3, 4, 5, 6, 7, 8, 9, 10, 11, 12, 13, 14, 15, 16, 17, 18, 19, 20, 21, 22, 23] (kk_ml 24 rfl (by decide +kernel) (kk_m0 24 (by decide +kernel) rfl)) (by decide +kernel) rfl (kk_sl 24 rfl (by decide +kernel) (kk_s0 24 (by decide +kernel) rfl rfl)) rfl rfl rfl rfl rfl hl.1 (Nat.le_of_ble_eq_true rfl) dX4_move_7 ⟨Nat.le_of_ble_eq_true rfl, Nat.le_of_ble_eq_true rfl⟩
  subst ex4
  refine kk_call_Vv (w' := (w_F g a G ++ w_H g (a 0 2) h V)) (As := [.int v2]) (rest := []) 0 4 hC (sX4_needFloat l g n a G v2 x4 hq4) (cwV 1 hts gX4_move_X4_needFloat rfl rfl rfl (by decide +kernel) ⟨Nat.le_of_ble_eq_true rfl, Nat.le_of_ble_eq_true rfl⟩) hK hP hD hS hA [0, 1, 2, 3, 4, 5, 6, 7, 8, 9, 10, 11, 12, 13, 14, 15, 16, 17, 18, 19, 20, 21, 22, 23] (kk_ml 24 rfl (by decide +kernel) (kk_m0 24 (by decide +kernel) rfl)) (by decide +kernel) rfl (kk_sl 24 rfl (by decide +kernel) (kk_s0 24 (by decide +kernel) rfl rfl)) rfl rfl rfl rfl rfl hl.1 (Nat.le_of_ble_eq_true rfl) dX4_move_7 (fun H locs hP hD hS => ?_)
  refine lv_aload_n hx hb dX4_move_10 rfl (lv_at hl 0 rfl) ?_
  refine va_get (ci := 4) (C := RX4) (T := TX4) (N := 7) hx hb hts hw4 hown hK hP 0 rfl rfl 2 (by decide) hl0 (fun _ h9 => h9) rfl dX4_move_11 ?_
  refine lv_aload_n hx hb dX4_move_14 rfl (lv_at hl 0 rfl) ?_
  refine va_get (ci := 4) (C := RX4) (T := TX4) (N := 7) hx hb hts hw4 hown hK hP 0 rfl rfl 0 (by decide) hl1 (fun _ h9 => h9) rfl dX4_move_15 ?_
  obtain ⟨x5, hq5, hR⟩ := kk_bd_el hR
  refine kk_call_Vv (w' := (w_F g a G ++ w_H g (a 0 2) h x5)) (As := [.ref (a 1 0)]) (rest := []) 24 1 hC (sX1_save l g n (a 0 2) h (a 1) V (G 1)  x5 hq5) (cwV 1 hts gX4_move_X1_save rfl rfl rfl (by decide +kernel) ⟨Nat.le_of_ble_eq_true rfl, Nat.le_of_ble_eq_true rfl⟩) hK hP hD hS hA [24, 25, 26, 27, 28, 29, 30, 31, 32, 33, 34, 35, 36, 37, 38, 39, 40, 41, 42, 43, 44, 45, 46, 47, 48, 49, 50, 51, 52, 53, 54, 55, 56, 57, 58, 59, 60, 61, 62, 63, 64, 65, 66, 67, 68, 69, 70, 71, 72, 73, 74, 75, 76, 77, 78, 79, 80, 81, 82, 83, 84, 85, 2, 3, 4, 5, 6, 7, 8, 9, 10, 11] (kk_m2 (is1 := [24, 25, 26, 27, 28, 29, 30, 31, 32, 33, 34, 35, 36, 37, 38, 39, 40, 41, 42, 43, 44, 45, 46, 47, 48, 49, 50, 51, 52, 53, 54, 55, 56, 57, 58, 59, 60, 61, 62, 63, 64, 65, 66, 67, 68, 69, 70, 71, 72, 73, 74, 75, 76, 77, 78, 79, 80, 81, 82, 83, 84, 85]) rfl (kk_mr (js := [0, 1, 2, 3, 4, 5, 6, 7, 8, 9, 10, 11, 12, 13, 14, 15, 16, 17, 18, 19, 20, 21, 22, 23, 24, 25, 26, 27, 28, 29, 30, 31, 32, 33, 34, 35, 36, 37, 38, 39, 40, 41, 42, 43, 44, 45, 46, 47, 48, 49, 50, 51, 52, 53, 54, 55, 56, 57, 58, 59, 60, 61]) 24 rfl (by decide +kernel) (kk_m0 62 (by decide +kernel) rfl)) (kk_ml 24 rfl (by decide +kernel) (kk_ml 23 rfl (by decide +kernel) (kk_ml 22 rfl (by decide +kernel) (kk_ml 12 rfl (by decide +kernel) (kk_mr (js := [0, 1, 2, 3, 4, 5, 6, 7, 8, 9]) 2 rfl (by decide +kernel) (kk_m0 10 (by decide +kernel) rfl))))))) (by decide +kernel) rfl (kk_set2 (is1 := [24, 25, 26, 27, 28, 29, 30, 31, 32, 33, 34, 35, 36, 37, 38, 39, 40, 41, 42, 43, 44, 45, 46, 47, 48, 49, 50, 51, 52, 53, 54, 55, 56, 57, 58, 59, 60, 61, 62, 63, 64, 65, 66, 67, 68, 69, 70, 71, 72, 73, 74, 75, 76, 77, 78, 79, 80, 81, 82, 83, 84, 85]) rfl rfl (kk_sr (js := [0, 1, 2, 3, 4, 5, 6, 7, 8, 9, 10, 11, 12, 13, 14, 15, 16, 17, 18, 19, 20, 21, 22, 23, 24, 25, 26, 27, 28, 29, 30, 31, 32, 33, 34, 35, 36, 37, 38, 39, 40, 41, 42, 43, 44, 45, 46, 47, 48, 49, 50, 51, 52, 53, 54, 55, 56, 57, 58, 59, 60, 61]) 24 rfl (by decide +kernel) (kk_s0 62 (by decide +kernel) rfl rfl)) (kk_sl 24 rfl (by decide +kernel) (kk_sl 23 rfl (by decide +kernel) (kk_sl 22 rfl (by decide +kernel) (kk_sl 12 rfl (by decide +kernel) (kk_sr (js := [0, 1, 2, 3, 4, 5, 6, 7, 8, 9]) 2 rfl (by decide +kernel) (kk_s0 10 (by decide +kernel) rfl rfl))))))) rfl rfl rfl rfl rfl hl.1 (Nat.le_of_ble_eq_true rfl) dX4_move_18 (fun H locs hP hD hS => ?_)
  refine lv_aload_n hx hb dX4_move_21 rfl (lv_at hl 0 rfl) ?_
  refine va_get (ci := 4) (C := RX4) (T := TX4) (N := 7) hx hb hts hw4 hown hK hP 0 rfl rfl 0 (by decide) hl1 (fun _ h9 => h9) rfl dX4_move_22 ?_
  refine lv_iload_n hx hb dX4_move_25 rfl (lv_at hl 1 rfl) ?_
  refine lv_iload_n hx hb dX4_move_26 rfl (lv_at hl 2 rfl) ?_
  obtain ⟨x6, hq6, hR⟩ := kk_bd_el hR
  obtain ⟨G7, eG7, hR⟩ := kk_nm_el hR
  refine kk_call_Vv (w' := (w_F g a G7 ++ w_H g (a 0 2) h x5)) (As := [.int v1, .int v2]) (rest := []) 2 2 hC (sX2_shift l g n (a 1) (G 1) v1 v2 x6 hq6) (cwV 2 hts gX4_move_X2_shift rfl rfl rfl (by decide +kernel) ⟨Nat.le_of_ble_eq_true rfl, Nat.le_of_ble_eq_true rfl⟩) hK hP hD hS hA [2, 3, 4, 5, 6, 7, 8, 9, 10, 11] (kk_ml 24 rfl (by decide +kernel) (kk_ml 23 rfl (by decide +kernel) (kk_ml 22 rfl (by decide +kernel) (kk_ml 12 rfl (by decide +kernel) (kk_mr (js := [0, 1, 2, 3, 4, 5, 6, 7, 8, 9]) 2 rfl (by decide +kernel) (kk_m0 10 (by decide +kernel) rfl)))))) (by decide +kernel) rfl (by rw [eG7]; exact kk_sl 24 rfl (by decide +kernel) (kk_sl 23 rfl (by decide +kernel) (kk_sl 22 rfl (by decide +kernel) (kk_sl 12 rfl (by decide +kernel) (kk_sr (js := [0, 1, 2, 3, 4, 5, 6, 7, 8, 9]) 2 rfl (by decide +kernel) (kk_s0 10 (by decide +kernel) rfl rfl)))))) rfl rfl rfl rfl rfl hl.1 (Nat.le_of_ble_eq_true rfl) dX4_move_27 (fun H locs hP hD hS => ?_)
  refine lv_aload_n hx hb dX4_move_30 rfl (lv_at hl 0 rfl) ?_
  refine va_get (ci := 4) (C := RX4) (T := TX4) (N := 7) hx hb hts hw4 hown hK hP 0 rfl rfl 0 (by decide) hl1 (fun _ h9 => h9) rfl dX4_move_31 ?_
  obtain ⟨x8, hq8, hR⟩ := kk_bd_el hR
  refine kk_call_Vi (w' := (w_F g a G7 ++ w_H g (a 0 2) h x5)) (As := []) (rest := []) 2 2 hC (sX2_allTrouble l g n (a 1) (G7 1)  x8 hq8) (cwV 0 hts gX4_move_X2_allTrouble rfl rfl rfl (by decide +kernel) ⟨Nat.le_of_ble_eq_true rfl, Nat.le_of_ble_eq_true rfl⟩) hK hP hD hS hA [2, 3, 4, 5, 6, 7, 8, 9, 10, 11] (kk_ml 24 rfl (by decide +kernel) (kk_ml 23 rfl (by decide +kernel) (kk_ml 22 rfl (by decide +kernel) (kk_ml 12 rfl (by decide +kernel) (kk_mr (js := [0, 1, 2, 3, 4, 5, 6, 7, 8, 9]) 2 rfl (by decide +kernel) (kk_m0 10 (by decide +kernel) rfl)))))) (by decide +kernel) rfl (kk_sl 24 rfl (by decide +kernel) (kk_sl 23 rfl (by decide +kernel) (kk_sl 22 rfl (by decide +kernel) (kk_sl 12 rfl (by decide +kernel) (kk_sr (js := [0, 1, 2, 3, 4, 5, 6, 7, 8, 9]) 2 rfl (by decide +kernel) (kk_s0 10 (by decide +kernel) rfl rfl)))))) rfl rfl rfl rfl rfl hl.1 (Nat.le_of_ble_eq_true rfl) dX4_move_34 (fun H locs hP hD hS => ?_)
  cases hR
set_option maxHeartbeats 8000000 in
set_option maxRecDepth 100000 in
theorem sX4_exchange (l : Launch) (g : kG) (n : Nat) (a : Nat → Nat → Nat) (h : Nat → Nat → Nat) (G : St2) (V : St2) (v1 : Int32) (v2 : Int32) (r : Int32 × St2 × St2) (hR : fX4_exchange n G V v1 v2 = some (.inr r)) : kSp l g yX4_exchange wsX4_exchange ({ frames := 3, cells := 0, slots := 0, locals := 66 }) [.ref (a 0 0), .int v1, .int v2] (w_F g a G ++ w_H g (a 0 2) h V) (kQi g (w_F g a r.2.1 ++ w_H g (a 0 2) h r.2.2) r.1) := by
  refine kSp.of (cc := cX4_exchange) (maxL := 3) (ret := (some .int)) (by decide) rfl (Nat.le_of_ble_eq_true rfl) ?_
  intro p e s m args below meth c ls A hC hr hlocks hA hK hl hP hD hS
  replace hC : CallFix p m c cX4_exchange 3 s args wsX4_exchange RX4 := hC
  obtain ⟨hx, hb, hml, hown, hts⟩ := id hC
  replace hl : lv_has ls 3 [(0, .ref (a 0 0)), (1, .int v1), (2, .int v2)] := hl
  unfold fX4_exchange at hR
  have hw4 : ∀ w ∈ wsX40, w ∈ wsX4_exchange := by decide +kernel
  have hl0 := hts (.fieldLink RX4 22 "FloatOrder" "history" "LFloatOrder$History;") (by decide +kernel)
  have hl1 := hts (.fieldLink RX4 10 "FloatOrder" "parade" "LFloatOrder$Parade;") (by decide +kernel)
  refine lv_aload_n hx hb dX4_exchange_0 rfl (lv_at hl 0 rfl) ?_
  refine lv_iload_n hx hb dX4_exchange_1 rfl (lv_at hl 1 rfl) ?_
  obtain ⟨y1, hq2, hR⟩ := kk_bd_el hR
  obtain ⟨x2, ex2, hR⟩ := kk_tr_ok hR
  subst ex2
  refine kk_call_Vv (w' := (w_F g a G ++ w_H g (a 0 2) h V)) (As := [.int v1]) (rest := []) 0 4 hC (sX4_needFloat l g n a G v1 x2 hq2) (cwV 1 hts gX4_exchange_X4_needFloat rfl rfl rfl (by decide +kernel) ⟨Nat.le_of_ble_eq_true rfl, Nat.le_of_ble_eq_true rfl⟩) hK hP hD hS hA [0, 1, 2, 3, 4, 5, 6, 7, 8, 9, 10, 11, 12, 13, 14, 15, 16, 17, 18, 19, 20, 21, 22, 23] (kk_ml 24 rfl (by decide +kernel) (kk_m0 24 (by decide +kernel) rfl)) (by decide +kernel) rfl (kk_sl 24 rfl (by decide +kernel) (kk_s0 24 (by decide +kernel) rfl rfl)) rfl rfl rfl rfl rfl hl.1 (Nat.le_of_ble_eq_true rfl) dX4_exchange_2 (fun H locs hP hD hS => ?_)
  refine lv_aload_n hx hb dX4_exchange_5 rfl (lv_at hl 0 rfl) ?_
  refine lv_iload_n hx hb dX4_exchange_6 rfl (lv_at hl 2 rfl) ?_
  obtain ⟨y3, hq4, hR⟩ := kk_bd_el hR
  obtain ⟨x4, ex4, hR⟩ := kk_tr_ok hR
  subst ex4
  refine kk_call_Vv (w' := (w_F g a G ++ w_H g (a 0 2) h V)) (As := [.int v2]) (rest := []) 0 4 hC (sX4_needFloat l g n a G v2 x4 hq4) (cwV 1 hts gX4_exchange_X4_needFloat rfl rfl rfl (by decide +kernel) ⟨Nat.le_of_ble_eq_true rfl, Nat.le_of_ble_eq_true rfl⟩) hK hP hD hS hA [0, 1, 2, 3, 4, 5, 6, 7, 8, 9, 10, 11, 12, 13, 14, 15, 16, 17, 18, 19, 20, 21, 22, 23] (kk_ml 24 rfl (by decide +kernel) (kk_m0 24 (by decide +kernel) rfl)) (by decide +kernel) rfl (kk_sl 24 rfl (by decide +kernel) (kk_s0 24 (by decide +kernel) rfl rfl)) rfl rfl rfl rfl rfl hl.1 (Nat.le_of_ble_eq_true rfl) dX4_exchange_7 (fun H locs hP hD hS => ?_)
  refine lv_aload_n hx hb dX4_exchange_10 rfl (lv_at hl 0 rfl) ?_
  refine va_get (ci := 4) (C := RX4) (T := TX4) (N := 7) hx hb hts hw4 hown hK hP 0 rfl rfl 2 (by decide) hl0 (fun _ h9 => h9) rfl dX4_exchange_11 ?_
  refine lv_aload_n hx hb dX4_exchange_14 rfl (lv_at hl 0 rfl) ?_
  refine va_get (ci := 4) (C := RX4) (T := TX4) (N := 7) hx hb hts hw4 hown hK hP 0 rfl rfl 0 (by decide) hl1 (fun _ h9 => h9) rfl dX4_exchange_15 ?_
  obtain ⟨x5, hq5, hR⟩ := kk_bd_el hR
  refine kk_call_Vv (w' := (w_F g a G ++ w_H g (a 0 2) h x5)) (As := [.ref (a 1 0)]) (rest := []) 24 1 hC (sX1_save l g n (a 0 2) h (a 1) V (G 1)  x5 hq5) (cwV 1 hts gX4_exchange_X1_save rfl rfl rfl (by decide +kernel) ⟨Nat.le_of_ble_eq_true rfl, Nat.le_of_ble_eq_true rfl⟩) hK hP hD hS hA [24, 25, 26, 27, 28, 29, 30, 31, 32, 33, 34, 35, 36, 37, 38, 39, 40, 41, 42, 43, 44, 45, 46, 47, 48, 49, 50, 51, 52, 53, 54, 55, 56, 57, 58, 59, 60, 61, 62, 63, 64, 65, 66, 67, 68, 69, 70, 71, 72, 73, 74, 75, 76, 77, 78, 79, 80, 81, 82, 83, 84, 85, 2, 3, 4, 5, 6, 7, 8, 9, 10, 11] (kk_m2 (is1 := [24, 25, 26, 27, 28, 29, 30, 31, 32, 33, 34, 35, 36, 37, 38, 39, 40, 41, 42, 43, 44, 45, 46, 47, 48, 49, 50, 51, 52, 53, 54, 55, 56, 57, 58, 59, 60, 61, 62, 63, 64, 65, 66, 67, 68, 69, 70, 71, 72, 73, 74, 75, 76, 77, 78, 79, 80, 81, 82, 83, 84, 85]) rfl (kk_mr (js := [0, 1, 2, 3, 4, 5, 6, 7, 8, 9, 10, 11, 12, 13, 14, 15, 16, 17, 18, 19, 20, 21, 22, 23, 24, 25, 26, 27, 28, 29, 30, 31, 32, 33, 34, 35, 36, 37, 38, 39, 40, 41, 42, 43, 44, 45, 46, 47, 48, 49, 50, 51, 52, 53, 54, 55, 56, 57, 58, 59, 60, 61]) 24 rfl (by decide +kernel) (kk_m0 62 (by decide +kernel) rfl)) (kk_ml 24 rfl (by decide +kernel) (kk_ml 23 rfl (by decide +kernel) (kk_ml 22 rfl (by decide +kernel) (kk_ml 12 rfl (by decide +kernel) (kk_mr (js := [0, 1, 2, 3, 4, 5, 6, 7, 8, 9]) 2 rfl (by decide +kernel) (kk_m0 10 (by decide +kernel) rfl))))))) (by decide +kernel) rfl (kk_set2 (is1 := [24, 25, 26, 27, 28, 29, 30, 31, 32, 33, 34, 35, 36, 37, 38, 39, 40, 41, 42, 43, 44, 45, 46, 47, 48, 49, 50, 51, 52, 53, 54, 55, 56, 57, 58, 59, 60, 61, 62, 63, 64, 65, 66, 67, 68, 69, 70, 71, 72, 73, 74, 75, 76, 77, 78, 79, 80, 81, 82, 83, 84, 85]) rfl rfl (kk_sr (js := [0, 1, 2, 3, 4, 5, 6, 7, 8, 9, 10, 11, 12, 13, 14, 15, 16, 17, 18, 19, 20, 21, 22, 23, 24, 25, 26, 27, 28, 29, 30, 31, 32, 33, 34, 35, 36, 37, 38, 39, 40, 41, 42, 43, 44, 45, 46, 47, 48, 49, 50, 51, 52, 53, 54, 55, 56, 57, 58, 59, 60, 61]) 24 rfl (by decide +kernel) (kk_s0 62 (by decide +kernel) rfl rfl)) (kk_sl 24 rfl (by decide +kernel) (kk_sl 23 rfl (by decide +kernel) (kk_sl 22 rfl (by decide +kernel) (kk_sl 12 rfl (by decide +kernel) (kk_sr (js := [0, 1, 2, 3, 4, 5, 6, 7, 8, 9]) 2 rfl (by decide +kernel) (kk_s0 10 (by decide +kernel) rfl rfl))))))) rfl rfl rfl rfl rfl hl.1 (Nat.le_of_ble_eq_true rfl) dX4_exchange_18 (fun H locs hP hD hS => ?_)
  refine lv_aload_n hx hb dX4_exchange_21 rfl (lv_at hl 0 rfl) ?_
  refine va_get (ci := 4) (C := RX4) (T := TX4) (N := 7) hx hb hts hw4 hown hK hP 0 rfl rfl 0 (by decide) hl1 (fun _ h9 => h9) rfl dX4_exchange_22 ?_
  refine lv_iload_n hx hb dX4_exchange_25 rfl (lv_at hl 1 rfl) ?_
  refine lv_iload_n hx hb dX4_exchange_26 rfl (lv_at hl 2 rfl) ?_
  obtain ⟨x6, hq6, hR⟩ := kk_bd_el hR
  obtain ⟨G7, eG7, hR⟩ := kk_nm_el hR
  refine kk_call_Vv (w' := (w_F g a G7 ++ w_H g (a 0 2) h x5)) (As := [.int v1, .int v2]) (rest := []) 2 2 hC (sX2_swap l g n (a 1) (G 1) v1 v2 x6 hq6) (cwV 2 hts gX4_exchange_X2_swap rfl rfl rfl (by decide +kernel) ⟨Nat.le_of_ble_eq_true rfl, Nat.le_of_ble_eq_true rfl⟩) hK hP hD hS hA [2, 3, 4, 5, 6, 7, 8, 9, 10, 11] (kk_ml 24 rfl (by decide +kernel) (kk_ml 23 rfl (by decide +kernel) (kk_ml 22 rfl (by decide +kernel) (kk_ml 12 rfl (by decide +kernel) (kk_mr (js := [0, 1, 2, 3, 4, 5, 6, 7, 8, 9]) 2 rfl (by decide +kernel) (kk_m0 10 (by decide +kernel) rfl)))))) (by decide +kernel) rfl (by rw [eG7]; exact kk_sl 24 rfl (by decide +kernel) (kk_sl 23 rfl (by decide +kernel) (kk_sl 22 rfl (by decide +kernel) (kk_sl 12 rfl (by decide +kernel) (kk_sr (js := [0, 1, 2, 3, 4, 5, 6, 7, 8, 9]) 2 rfl (by decide +kernel) (kk_s0 10 (by decide +kernel) rfl rfl)))))) rfl rfl rfl rfl rfl hl.1 (Nat.le_of_ble_eq_true rfl) dX4_exchange_27 (fun H locs hP hD hS => ?_)
  refine lv_aload_n hx hb dX4_exchange_30 rfl (lv_at hl 0 rfl) ?_
  refine va_get (ci := 4) (C := RX4) (T := TX4) (N := 7) hx hb hts hw4 hown hK hP 0 rfl rfl 0 (by decide) hl1 (fun _ h9 => h9) rfl dX4_exchange_31 ?_
  obtain ⟨x8, hq8, hR⟩ := kk_bd_el hR
  refine kk_call_Vi (w' := (w_F g a G7 ++ w_H g (a 0 2) h x5)) (As := []) (rest := []) 2 2 hC (sX2_allTrouble l g n (a 1) (G7 1)  x8 hq8) (cwV 0 hts gX4_exchange_X2_allTrouble rfl rfl rfl (by decide +kernel) ⟨Nat.le_of_ble_eq_true rfl, Nat.le_of_ble_eq_true rfl⟩) hK hP hD hS hA [2, 3, 4, 5, 6, 7, 8, 9, 10, 11] (kk_ml 24 rfl (by decide +kernel) (kk_ml 23 rfl (by decide +kernel) (kk_ml 22 rfl (by decide +kernel) (kk_ml 12 rfl (by decide +kernel) (kk_mr (js := [0, 1, 2, 3, 4, 5, 6, 7, 8, 9]) 2 rfl (by decide +kernel) (kk_m0 10 (by decide +kernel) rfl)))))) (by decide +kernel) rfl (kk_sl 24 rfl (by decide +kernel) (kk_sl 23 rfl (by decide +kernel) (kk_sl 22 rfl (by decide +kernel) (kk_sl 12 rfl (by decide +kernel) (kk_sr (js := [0, 1, 2, 3, 4, 5, 6, 7, 8, 9]) 2 rfl (by decide +kernel) (kk_s0 10 (by decide +kernel) rfl rfl)))))) rfl rfl rfl rfl rfl hl.1 (Nat.le_of_ble_eq_true rfl) dX4_exchange_34 (fun H locs hP hD hS => ?_)
  obtain rfl := Sum.inr.inj (Option.some.inj hR)
  exact kk_ret_i hC hr hlocks hK hP hD hS dX4_exchange_37 rfl
set_option maxHeartbeats 8000000 in
set_option maxRecDepth 100000 in
theorem sX4_exchange_th (l : Launch) (hst : l.stackTraces = false) (g : kG) (n : Nat) (a : Nat → Nat → Nat) (h : Nat → Nat → Nat) (G : St2) (V : St2) (v1 : Int32) (v2 : Int32) (k : Nat) (hR : fX4_exchange n G V v1 v2 = some (.inl k)) : kSt l g yX4_exchange wsX4_exchange ({ frames := 7, cells := 1, slots := 6, locals := 111 }) [.ref (a 0 0), .int v1, .int v2] (w_F g a G ++ w_H g (a 0 2) h V) (w_F g a G ++ w_H g (a 0 2) h V) k := by
  refine kSt.of (cc := cX4_exchange) (maxL := 3) (ret := (some .int)) (by decide) rfl (Nat.le_of_ble_eq_true rfl) ?_
  intro p e s m args below meth c ls A hC hlocks hno hA hK hG hl hP hD hS
  replace hC : CallFix p m c cX4_exchange 3 s args wsX4_exchange RX4 := hC
  obtain ⟨hx, hb, hml, hown, hts⟩ := id hC
  replace hl : lv_has ls 3 [(0, .ref (a 0 0)), (1, .int v1), (2, .int v2)] := hl
  unfold fX4_exchange at hR
  have hw4 : ∀ w ∈ wsX40, w ∈ wsX4_exchange := by decide +kernel
  have hl0 := hts (.fieldLink RX4 22 "FloatOrder" "history" "LFloatOrder$History;") (by decide +kernel)
  have hl1 := hts (.fieldLink RX4 10 "FloatOrder" "parade" "LFloatOrder$Parade;") (by decide +kernel)
  refine lv_aload_n hx hb dX4_exchange_0 rfl (lv_at hl 0 rfl) ?_
  refine lv_iload_n hx hb dX4_exchange_1 rfl (lv_at hl 1 rfl) ?_
  obtain ⟨y1, hq2, hR⟩ := kk_bd_el hR
  rcases kk_tr_th hR with ex2 | ⟨x2, ex2, hR⟩
  · subst ex2
    exact kk_callT_V (As := [.int v1]) (rest := []) 0 4 hC (sX4_needFloat_th l hst g n a G v1 k hq2) (cwV 1 hts gX4_exchange_X4_needFloat rfl rfl rfl (by decide +kernel) ⟨Nat.le_of_ble_eq_true rfl, Nat.le_of_ble_eq_true rfl⟩) hlocks hno hK hG hP hD hS hA [0, 1, 2, 3, 4, 5, 6, 7, 8, 9, 10, 11, 12, 13, 14, 15, 16, 17, 18, 19, 20, 21, 22, 23] (kk_ml 24 rfl (by decide +kernel) (kk_m0 24 (by decide +kernel) rfl)) (by decide +kernel) rfl (kk_sl 24 rfl (by decide +kernel) (kk_s0 24 (by decide +kernel) rfl rfl)) rfl rfl rfl rfl rfl hl.1 (Nat.le_of_ble_eq_true rfl) dX4_exchange_2 ⟨Nat.le_of_ble_eq_true rfl, Nat.le_of_ble_eq_true rfl⟩
  subst ex2
  refine kk_call_Vv (w' := (w_F g a G ++ w_H g (a 0 2) h V)) (As := [.int v1]) (rest := []) 0 4 hC (sX4_needFloat l g n a G v1 x2 hq2) (cwV 1 hts gX4_exchange_X4_needFloat rfl rfl rfl (by decide +kernel) ⟨Nat.le_of_ble_eq_true rfl, Nat.le_of_ble_eq_true rfl⟩) hK hP hD hS hA [0, 1, 2, 3, 4, 5, 6, 7, 8, 9, 10, 11, 12, 13, 14, 15, 16, 17, 18, 19, 20, 21, 22, 23] (kk_ml 24 rfl (by decide +kernel) (kk_m0 24 (by decide +kernel) rfl)) (by decide +kernel) rfl (kk_sl 24 rfl (by decide +kernel) (kk_s0 24 (by decide +kernel) rfl rfl)) rfl rfl rfl rfl rfl hl.1 (Nat.le_of_ble_eq_true rfl) dX4_exchange_2 (fun H locs hP hD hS => ?_)
  refine lv_aload_n hx hb dX4_exchange_5 rfl (lv_at hl 0 rfl) ?_
  refine lv_iload_n hx hb dX4_exchange_6 rfl (lv_at hl 2 rfl) ?_
  obtain ⟨y3, hq4, hR⟩ := kk_bd_el hR
  rcases kk_tr_th hR with ex4 | ⟨x4, ex4, hR⟩
  · subst ex4
    exact kk_callT_V (As := [.int v2]) (rest := []) 0 4 hC (sX4_needFloat_th l hst g n a G v2 k hq4) (cwV 1 hts gX4_exchange_X4_needFloat rfl rfl rfl (by decide +kernel) ⟨Nat.le_of_ble_eq_true rfl, Nat.le_of_ble_eq_true rfl⟩) hlocks hno hK hG hP hD hS hA [0, 1, 2, 3, 4, 5, 6, 7, 8, 9, 10, 11, 12, 13, 14, 15, 16, 17, 18, 19, 20, 21, 22, 23] (kk_ml 24 rfl (by decide +kernel) (kk_m0 24 (by decide +kernel) rfl)) (by decide +kernel) rfl (kk_sl 24 rfl (by decide +kernel) (kk_s0 24 (by decide +kernel) rfl rfl)) rfl rfl rfl rfl rfl hl.1 (Nat.le_of_ble_eq_true rfl) dX4_exchange_7 ⟨Nat.le_of_ble_eq_true rfl, Nat.le_of_ble_eq_true rfl⟩
  subst ex4
  refine kk_call_Vv (w' := (w_F g a G ++ w_H g (a 0 2) h V)) (As := [.int v2]) (rest := []) 0 4 hC (sX4_needFloat l g n a G v2 x4 hq4) (cwV 1 hts gX4_exchange_X4_needFloat rfl rfl rfl (by decide +kernel) ⟨Nat.le_of_ble_eq_true rfl, Nat.le_of_ble_eq_true rfl⟩) hK hP hD hS hA [0, 1, 2, 3, 4, 5, 6, 7, 8, 9, 10, 11, 12, 13, 14, 15, 16, 17, 18, 19, 20, 21, 22, 23] (kk_ml 24 rfl (by decide +kernel) (kk_m0 24 (by decide +kernel) rfl)) (by decide +kernel) rfl (kk_sl 24 rfl (by decide +kernel) (kk_s0 24 (by decide +kernel) rfl rfl)) rfl rfl rfl rfl rfl hl.1 (Nat.le_of_ble_eq_true rfl) dX4_exchange_7 (fun H locs hP hD hS => ?_)
  refine lv_aload_n hx hb dX4_exchange_10 rfl (lv_at hl 0 rfl) ?_
  refine va_get (ci := 4) (C := RX4) (T := TX4) (N := 7) hx hb hts hw4 hown hK hP 0 rfl rfl 2 (by decide) hl0 (fun _ h9 => h9) rfl dX4_exchange_11 ?_
  refine lv_aload_n hx hb dX4_exchange_14 rfl (lv_at hl 0 rfl) ?_
  refine va_get (ci := 4) (C := RX4) (T := TX4) (N := 7) hx hb hts hw4 hown hK hP 0 rfl rfl 0 (by decide) hl1 (fun _ h9 => h9) rfl dX4_exchange_15 ?_
  obtain ⟨x5, hq5, hR⟩ := kk_bd_el hR
  refine kk_call_Vv (w' := (w_F g a G ++ w_H g (a 0 2) h x5)) (As := [.ref (a 1 0)]) (rest := []) 24 1 hC (sX1_save l g n (a 0 2) h (a 1) V (G 1)  x5 hq5) (cwV 1 hts gX4_exchange_X1_save rfl rfl rfl (by decide +kernel) ⟨Nat.le_of_ble_eq_true rfl, Nat.le_of_ble_eq_true rfl⟩) hK hP hD hS hA [24, 25, 26, 27, 28, 29, 30, 31, 32, 33, 34, 35, 36, 37, 38, 39, 40, 41, 42, 43, 44, 45, 46, 47, 48, 49, 50, 51, 52, 53, 54, 55, 56, 57, 58, 59, 60, 61, 62, 63, 64, 65, 66, 67, 68, 69, 70, 71, 72, 73, 74, 75, 76, 77, 78, 79, 80, 81, 82, 83, 84, 85, 2, 3, 4, 5, 6, 7, 8, 9, 10, 11] (kk_m2 (is1 := [24, 25, 26, 27, 28, 29, 30, 31, 32, 33, 34, 35, 36, 37, 38, 39, 40, 41, 42, 43, 44, 45, 46, 47, 48, 49, 50, 51, 52, 53, 54, 55, 56, 57, 58, 59, 60, 61, 62, 63, 64, 65, 66, 67, 68, 69, 70, 71, 72, 73, 74, 75, 76, 77, 78, 79, 80, 81, 82, 83, 84, 85]) rfl (kk_mr (js := [0, 1, 2, 3, 4, 5, 6, 7, 8, 9, 10, 11, 12, 13, 14, 15, 16, 17, 18, 19, 20, 21, 22, 23, 24, 25, 26, 27, 28, 29, 30, 31, 32, 33, 34, 35, 36, 37, 38, 39, 40, 41, 42, 43, 44, 45, 46, 47, 48, 49, 50, 51, 52, 53, 54, 55, 56, 57, 58, 59, 60, 61]) 24 rfl (by decide +kernel) (kk_m0 62 (by decide +kernel) rfl)) (kk_ml 24 rfl (by decide +kernel) (kk_ml 23 rfl (by decide +kernel) (kk_ml 22 rfl (by decide +kernel) (kk_ml 12 rfl (by decide +kernel) (kk_mr (js := [0, 1, 2, 3, 4, 5, 6, 7, 8, 9]) 2 rfl (by decide +kernel) (kk_m0 10 (by decide +kernel) rfl))))))) (by decide +kernel) rfl (kk_set2 (is1 := [24, 25, 26, 27, 28, 29, 30, 31, 32, 33, 34, 35, 36, 37, 38, 39, 40, 41, 42, 43, 44, 45, 46, 47, 48, 49, 50, 51, 52, 53, 54, 55, 56, 57, 58, 59, 60, 61, 62, 63, 64, 65, 66, 67, 68, 69, 70, 71, 72, 73, 74, 75, 76, 77, 78, 79, 80, 81, 82, 83, 84, 85]) rfl rfl (kk_sr (js := [0, 1, 2, 3, 4, 5, 6, 7, 8, 9, 10, 11, 12, 13, 14, 15, 16, 17, 18, 19, 20, 21, 22, 23, 24, 25, 26, 27, 28, 29, 30, 31, 32, 33, 34, 35, 36, 37, 38, 39, 40, 41, 42, 43, 44, 45, 46, 47, 48, 49, 50, 51, 52, 53, 54, 55, 56, 57, 58, 59, 60, 61]) 24 rfl (by decide +kernel) (kk_s0 62 (by decide +kernel) rfl rfl)) (kk_sl 24 rfl (by decide +kernel) (kk_sl 23 rfl (by decide +kernel) (kk_sl 22 rfl (by decide +kernel) (kk_sl 12 rfl (by decide +kernel) (kk_sr (js := [0, 1, 2, 3, 4, 5, 6, 7, 8, 9]) 2 rfl (by decide +kernel) (kk_s0 10 (by decide +kernel) rfl rfl))))))) rfl rfl rfl rfl rfl hl.1 (Nat.le_of_ble_eq_true rfl) dX4_exchange_18 (fun H locs hP hD hS => ?_)
  refine lv_aload_n hx hb dX4_exchange_21 rfl (lv_at hl 0 rfl) ?_
  refine va_get (ci := 4) (C := RX4) (T := TX4) (N := 7) hx hb hts hw4 hown hK hP 0 rfl rfl 0 (by decide) hl1 (fun _ h9 => h9) rfl dX4_exchange_22 ?_
  refine lv_iload_n hx hb dX4_exchange_25 rfl (lv_at hl 1 rfl) ?_
  refine lv_iload_n hx hb dX4_exchange_26 rfl (lv_at hl 2 rfl) ?_
  obtain ⟨x6, hq6, hR⟩ := kk_bd_el hR
  obtain ⟨G7, eG7, hR⟩ := kk_nm_el hR
  refine kk_call_Vv (w' := (w_F g a G7 ++ w_H g (a 0 2) h x5)) (As := [.int v1, .int v2]) (rest := []) 2 2 hC (sX2_swap l g n (a 1) (G 1) v1 v2 x6 hq6) (cwV 2 hts gX4_exchange_X2_swap rfl rfl rfl (by decide +kernel) ⟨Nat.le_of_ble_eq_true rfl, Nat.le_of_ble_eq_true rfl⟩) hK hP hD hS hA [2, 3, 4, 5, 6, 7, 8, 9, 10, 11] (kk_ml 24 rfl (by decide +kernel) (kk_ml 23 rfl (by decide +kernel) (kk_ml 22 rfl (by decide +kernel) (kk_ml 12 rfl (by decide +kernel) (kk_mr (js := [0, 1, 2, 3, 4, 5, 6, 7, 8, 9]) 2 rfl (by decide +kernel) (kk_m0 10 (by decide +kernel) rfl)))))) (by decide +kernel) rfl (by rw [eG7]; exact kk_sl 24 rfl (by decide +kernel) (kk_sl 23 rfl (by decide +kernel) (kk_sl 22 rfl (by decide +kernel) (kk_sl 12 rfl (by decide +kernel) (kk_sr (js := [0, 1, 2, 3, 4, 5, 6, 7, 8, 9]) 2 rfl (by decide +kernel) (kk_s0 10 (by decide +kernel) rfl rfl)))))) rfl rfl rfl rfl rfl hl.1 (Nat.le_of_ble_eq_true rfl) dX4_exchange_27 (fun H locs hP hD hS => ?_)
  refine lv_aload_n hx hb dX4_exchange_30 rfl (lv_at hl 0 rfl) ?_
  refine va_get (ci := 4) (C := RX4) (T := TX4) (N := 7) hx hb hts hw4 hown hK hP 0 rfl rfl 0 (by decide) hl1 (fun _ h9 => h9) rfl dX4_exchange_31 ?_
  obtain ⟨x8, hq8, hR⟩ := kk_bd_el hR
  refine kk_call_Vi (w' := (w_F g a G7 ++ w_H g (a 0 2) h x5)) (As := []) (rest := []) 2 2 hC (sX2_allTrouble l g n (a 1) (G7 1)  x8 hq8) (cwV 0 hts gX4_exchange_X2_allTrouble rfl rfl rfl (by decide +kernel) ⟨Nat.le_of_ble_eq_true rfl, Nat.le_of_ble_eq_true rfl⟩) hK hP hD hS hA [2, 3, 4, 5, 6, 7, 8, 9, 10, 11] (kk_ml 24 rfl (by decide +kernel) (kk_ml 23 rfl (by decide +kernel) (kk_ml 22 rfl (by decide +kernel) (kk_ml 12 rfl (by decide +kernel) (kk_mr (js := [0, 1, 2, 3, 4, 5, 6, 7, 8, 9]) 2 rfl (by decide +kernel) (kk_m0 10 (by decide +kernel) rfl)))))) (by decide +kernel) rfl (kk_sl 24 rfl (by decide +kernel) (kk_sl 23 rfl (by decide +kernel) (kk_sl 22 rfl (by decide +kernel) (kk_sl 12 rfl (by decide +kernel) (kk_sr (js := [0, 1, 2, 3, 4, 5, 6, 7, 8, 9]) 2 rfl (by decide +kernel) (kk_s0 10 (by decide +kernel) rfl rfl)))))) rfl rfl rfl rfl rfl hl.1 (Nat.le_of_ble_eq_true rfl) dX4_exchange_34 (fun H locs hP hD hS => ?_)
  cases hR
set_option maxHeartbeats 8000000 in
set_option maxRecDepth 100000 in
theorem sX4_fold (l : Launch) (g : kG) (n : Nat) (a : Nat → Nat → Nat) (h : Nat → Nat → Nat) (G : St2) (V : St2) (v1 : Int32) (v2 : Int32) (r : Int32 × St2 × St2) (hR : fX4_fold n G V v1 v2 = some (.inr r)) : kSp l g yX4_fold wsX4_fold ({ frames := 2, cells := 0, slots := 0, locals := 43 }) [.ref (a 0 0), .int v1, .int v2] (w_F g a G ++ w_H g (a 0 2) h V) (kQi g (w_F g a r.2.1 ++ w_H g (a 0 2) h r.2.2) r.1) := by
  refine kSp.of (cc := cX4_fold) (maxL := 3) (ret := (some .int)) (by decide) rfl (Nat.le_of_ble_eq_true rfl) ?_
  intro p e s m args below meth c ls A hC hr hlocks hA hK hl hP hD hS
  replace hC : CallFix p m c cX4_fold 3 s args wsX4_fold RX4 := hC
  obtain ⟨hx, hb, hml, hown, hts⟩ := id hC
  replace hl : lv_has ls 3 [(0, .ref (a 0 0)), (1, .int v1), (2, .int v2)] := hl
  unfold fX4_fold at hR
  have hw2 : ∀ w ∈ wsX20, w ∈ wsX4_fold := by decide +kernel
  have hw4 : ∀ w ∈ wsX40, w ∈ wsX4_fold := by decide +kernel
  have hl0 := hts (.fieldLink RX4 22 "FloatOrder" "history" "LFloatOrder$History;") (by decide +kernel)
  have hl1 := hts (.fieldLink RX4 10 "FloatOrder" "parade" "LFloatOrder$Parade;") (by decide +kernel)
  have hl2 := hts (.fieldLink RX4 98 "FloatOrder$Parade" "folded" "[Z") (by decide +kernel)
  refine lv_aload_n hx hb dX4_fold_0 rfl (lv_at hl 0 rfl) ?_
  refine lv_iload_n hx hb dX4_fold_1 rfl (lv_at hl 1 rfl) ?_
  obtain ⟨y1, hq2, hR⟩ := kk_bd_el hR
  obtain ⟨x2, ex2, hR⟩ := kk_tr_ok hR
  subst ex2
  refine kk_call_Vv (w' := (w_F g a G ++ w_H g (a 0 2) h V)) (As := [.int v1]) (rest := []) 0 4 hC (sX4_needFloat l g n a G v1 x2 hq2) (cwV 1 hts gX4_fold_X4_needFloat rfl rfl rfl (by decide +kernel) ⟨Nat.le_of_ble_eq_true rfl, Nat.le_of_ble_eq_true rfl⟩) hK hP hD hS hA [0, 1, 2, 3, 4, 5, 6, 7, 8, 9, 10, 11, 12, 13, 14, 15, 16, 17, 18, 19, 20, 21, 22, 23] (kk_ml 24 rfl (by decide +kernel) (kk_m0 24 (by decide +kernel) rfl)) (by decide +kernel) rfl (kk_sl 24 rfl (by decide +kernel) (kk_s0 24 (by decide +kernel) rfl rfl)) rfl rfl rfl rfl rfl hl.1 (Nat.le_of_ble_eq_true rfl) dX4_fold_2 (fun H locs hP hD hS => ?_)
  refine lv_aload_n hx hb dX4_fold_5 rfl (lv_at hl 0 rfl) ?_
  refine va_get (ci := 4) (C := RX4) (T := TX4) (N := 7) hx hb hts hw4 hown hK hP 0 rfl rfl 2 (by decide) hl0 (fun _ h9 => h9) rfl dX4_fold_6 ?_
  refine lv_aload_n hx hb dX4_fold_9 rfl (lv_at hl 0 rfl) ?_
  refine va_get (ci := 4) (C := RX4) (T := TX4) (N := 7) hx hb hts hw4 hown hK hP 0 rfl rfl 0 (by decide) hl1 (fun _ h9 => h9) rfl dX4_fold_10 ?_
  obtain ⟨x3, hq3, hR⟩ := kk_bd_el hR
  refine kk_call_Vv (w' := (w_F g a G ++ w_H g (a 0 2) h x3)) (As := [.ref (a 1 0)]) (rest := []) 24 1 hC (sX1_save l g n (a 0 2) h (a 1) V (G 1)  x3 hq3) (cwV 1 hts gX4_fold_X1_save rfl rfl rfl (by decide +kernel) ⟨Nat.le_of_ble_eq_true rfl, Nat.le_of_ble_eq_true rfl⟩) hK hP hD hS hA [24, 25, 26, 27, 28, 29, 30, 31, 32, 33, 34, 35, 36, 37, 38, 39, 40, 41, 42, 43, 44, 45, 46, 47, 48, 49, 50, 51, 52, 53, 54, 55, 56, 57, 58, 59, 60, 61, 62, 63, 64, 65, 66, 67, 68, 69, 70, 71, 72, 73, 74, 75, 76, 77, 78, 79, 80, 81, 82, 83, 84, 85, 2, 3, 4, 5, 6, 7, 8, 9, 10, 11] (kk_m2 (is1 := [24, 25, 26, 27, 28, 29, 30, 31, 32, 33, 34, 35, 36, 37, 38, 39, 40, 41, 42, 43, 44, 45, 46, 47, 48, 49, 50, 51, 52, 53, 54, 55, 56, 57, 58, 59, 60, 61, 62, 63, 64, 65, 66, 67, 68, 69, 70, 71, 72, 73, 74, 75, 76, 77, 78, 79, 80, 81, 82, 83, 84, 85]) rfl (kk_mr (js := [0, 1, 2, 3, 4, 5, 6, 7, 8, 9, 10, 11, 12, 13, 14, 15, 16, 17, 18, 19, 20, 21, 22, 23, 24, 25, 26, 27, 28, 29, 30, 31, 32, 33, 34, 35, 36, 37, 38, 39, 40, 41, 42, 43, 44, 45, 46, 47, 48, 49, 50, 51, 52, 53, 54, 55, 56, 57, 58, 59, 60, 61]) 24 rfl (by decide +kernel) (kk_m0 62 (by decide +kernel) rfl)) (kk_ml 24 rfl (by decide +kernel) (kk_ml 23 rfl (by decide +kernel) (kk_ml 22 rfl (by decide +kernel) (kk_ml 12 rfl (by decide +kernel) (kk_mr (js := [0, 1, 2, 3, 4, 5, 6, 7, 8, 9]) 2 rfl (by decide +kernel) (kk_m0 10 (by decide +kernel) rfl))))))) (by decide +kernel) rfl (kk_set2 (is1 := [24, 25, 26, 27, 28, 29, 30, 31, 32, 33, 34, 35, 36, 37, 38, 39, 40, 41, 42, 43, 44, 45, 46, 47, 48, 49, 50, 51, 52, 53, 54, 55, 56, 57, 58, 59, 60, 61, 62, 63, 64, 65, 66, 67, 68, 69, 70, 71, 72, 73, 74, 75, 76, 77, 78, 79, 80, 81, 82, 83, 84, 85]) rfl rfl (kk_sr (js := [0, 1, 2, 3, 4, 5, 6, 7, 8, 9, 10, 11, 12, 13, 14, 15, 16, 17, 18, 19, 20, 21, 22, 23, 24, 25, 26, 27, 28, 29, 30, 31, 32, 33, 34, 35, 36, 37, 38, 39, 40, 41, 42, 43, 44, 45, 46, 47, 48, 49, 50, 51, 52, 53, 54, 55, 56, 57, 58, 59, 60, 61]) 24 rfl (by decide +kernel) (kk_s0 62 (by decide +kernel) rfl rfl)) (kk_sl 24 rfl (by decide +kernel) (kk_sl 23 rfl (by decide +kernel) (kk_sl 22 rfl (by decide +kernel) (kk_sl 12 rfl (by decide +kernel) (kk_sr (js := [0, 1, 2, 3, 4, 5, 6, 7, 8, 9]) 2 rfl (by decide +kernel) (kk_s0 10 (by decide +kernel) rfl rfl))))))) rfl rfl rfl rfl rfl hl.1 (Nat.le_of_ble_eq_true rfl) dX4_fold_13 (fun H locs hP hD hS => ?_)
  refine lv_aload_n hx hb dX4_fold_16 rfl (lv_at hl 0 rfl) ?_
  refine va_get (ci := 4) (C := RX4) (T := TX4) (N := 7) hx hb hts hw4 hown hK hP 0 rfl rfl 0 (by decide) hl1 (fun _ h9 => h9) rfl dX4_fold_17 ?_
  refine va_get (ci := 2) (C := RX2) (T := TX2) (N := 11) hx hb hts hw2 hown hK hP 2 rfl rfl 4 (by decide) hl2 (fun _ h9 => h9) rfl dX4_fold_20 ?_
  refine lv_iload_n hx hb dX4_fold_23 rfl (lv_at hl 1 rfl) ?_
  refine lv_iload_n hx hb dX4_fold_24 rfl (lv_at hl 2 rfl) ?_
  obtain ⟨hi5, hR⟩ := kk_ck_el hR
  obtain ⟨hz7, hR⟩ := kk_cb_el hR
  obtain ⟨G4, eG4, hR⟩ := kk_nm_el hR
  refine kk_zast (w' := (w_F g a G4 ++ w_H g (a 0 2) h x3)) hC hK hP hD hS 6 rfl hi5 hz7 (by rw [eG4]; rfl) dX4_fold_25 (fun H locs hP hD hS => ?_)
  refine lv_aload_n hx hb dX4_fold_26 rfl (lv_at hl 0 rfl) ?_
  refine va_get (ci := 4) (C := RX4) (T := TX4) (N := 7) hx hb hts hw4 hown hK hP 0 rfl rfl 0 (by decide) hl1 (fun _ h9 => h9) rfl dX4_fold_27 ?_
  refine lv_iload_n hx hb dX4_fold_30 rfl (lv_at hl 1 rfl) ?_
  obtain ⟨x6, hq6, hR⟩ := kk_bd_el hR
  refine kk_call_Vi (w' := (w_F g a G4 ++ w_H g (a 0 2) h x3)) (As := [.int v1]) (rest := []) 2 2 hC (sX2_countedHeight l g n (a 1) (G4 1) v1 x6 hq6) (cwV 1 hts gX4_fold_X2_countedHeight rfl rfl rfl (by decide +kernel) ⟨Nat.le_of_ble_eq_true rfl, Nat.le_of_ble_eq_true rfl⟩) hK hP hD hS hA [2, 3, 4, 5, 6, 7, 8, 9, 10, 11] (kk_ml 24 rfl (by decide +kernel) (kk_ml 23 rfl (by decide +kernel) (kk_ml 22 rfl (by decide +kernel) (kk_ml 12 rfl (by decide +kernel) (kk_mr (js := [0, 1, 2, 3, 4, 5, 6, 7, 8, 9]) 2 rfl (by decide +kernel) (kk_m0 10 (by decide +kernel) rfl)))))) (by decide +kernel) rfl (kk_sl 24 rfl (by decide +kernel) (kk_sl 23 rfl (by decide +kernel) (kk_sl 22 rfl (by decide +kernel) (kk_sl 12 rfl (by decide +kernel) (kk_sr (js := [0, 1, 2, 3, 4, 5, 6, 7, 8, 9]) 2 rfl (by decide +kernel) (kk_s0 10 (by decide +kernel) rfl rfl)))))) rfl rfl rfl rfl rfl hl.1 (Nat.le_of_ble_eq_true rfl) dX4_fold_31 (fun H locs hP hD hS => ?_)
  obtain rfl := Sum.inr.inj (Option.some.inj hR)
  exact kk_ret_i hC hr hlocks hK hP hD hS dX4_fold_34 rfl
set_option maxHeartbeats 8000000 in
set_option maxRecDepth 100000 in
theorem sX4_fold_th (l : Launch) (hst : l.stackTraces = false) (g : kG) (n : Nat) (a : Nat → Nat → Nat) (h : Nat → Nat → Nat) (G : St2) (V : St2) (v1 : Int32) (v2 : Int32) (k : Nat) (hR : fX4_fold n G V v1 v2 = some (.inl k)) : kSt l g yX4_fold wsX4_fold ({ frames := 7, cells := 1, slots := 6, locals := 111 }) [.ref (a 0 0), .int v1, .int v2] (w_F g a G ++ w_H g (a 0 2) h V) (w_F g a G ++ w_H g (a 0 2) h V) k := by
  refine kSt.of (cc := cX4_fold) (maxL := 3) (ret := (some .int)) (by decide) rfl (Nat.le_of_ble_eq_true rfl) ?_
  intro p e s m args below meth c ls A hC hlocks hno hA hK hG hl hP hD hS
  replace hC : CallFix p m c cX4_fold 3 s args wsX4_fold RX4 := hC
  obtain ⟨hx, hb, hml, hown, hts⟩ := id hC
  replace hl : lv_has ls 3 [(0, .ref (a 0 0)), (1, .int v1), (2, .int v2)] := hl
  unfold fX4_fold at hR
  have hw2 : ∀ w ∈ wsX20, w ∈ wsX4_fold := by decide +kernel
  have hw4 : ∀ w ∈ wsX40, w ∈ wsX4_fold := by decide +kernel
  have hl0 := hts (.fieldLink RX4 22 "FloatOrder" "history" "LFloatOrder$History;") (by decide +kernel)
  have hl1 := hts (.fieldLink RX4 10 "FloatOrder" "parade" "LFloatOrder$Parade;") (by decide +kernel)
  have hl2 := hts (.fieldLink RX4 98 "FloatOrder$Parade" "folded" "[Z") (by decide +kernel)
  refine lv_aload_n hx hb dX4_fold_0 rfl (lv_at hl 0 rfl) ?_
  refine lv_iload_n hx hb dX4_fold_1 rfl (lv_at hl 1 rfl) ?_
  obtain ⟨y1, hq2, hR⟩ := kk_bd_el hR
  rcases kk_tr_th hR with ex2 | ⟨x2, ex2, hR⟩
  · subst ex2
    exact kk_callT_V (As := [.int v1]) (rest := []) 0 4 hC (sX4_needFloat_th l hst g n a G v1 k hq2) (cwV 1 hts gX4_fold_X4_needFloat rfl rfl rfl (by decide +kernel) ⟨Nat.le_of_ble_eq_true rfl, Nat.le_of_ble_eq_true rfl⟩) hlocks hno hK hG hP hD hS hA [0, 1, 2, 3, 4, 5, 6, 7, 8, 9, 10, 11, 12, 13, 14, 15, 16, 17, 18, 19, 20, 21, 22, 23] (kk_ml 24 rfl (by decide +kernel) (kk_m0 24 (by decide +kernel) rfl)) (by decide +kernel) rfl (kk_sl 24 rfl (by decide +kernel) (kk_s0 24 (by decide +kernel) rfl rfl)) rfl rfl rfl rfl rfl hl.1 (Nat.le_of_ble_eq_true rfl) dX4_fold_2 ⟨Nat.le_of_ble_eq_true rfl, Nat.le_of_ble_eq_true rfl⟩
  subst ex2
  refine kk_call_Vv (w' := (w_F g a G ++ w_H g (a 0 2) h V)) (As := [.int v1]) (rest := []) 0 4 hC (sX4_needFloat l g n a G v1 x2 hq2) (cwV 1 hts gX4_fold_X4_needFloat rfl rfl rfl (by decide +kernel) ⟨Nat.le_of_ble_eq_true rfl, Nat.le_of_ble_eq_true rfl⟩) hK hP hD hS hA [0, 1, 2, 3, 4, 5, 6, 7, 8, 9, 10, 11, 12, 13, 14, 15, 16, 17, 18, 19, 20, 21, 22, 23] (kk_ml 24 rfl (by decide +kernel) (kk_m0 24 (by decide +kernel) rfl)) (by decide +kernel) rfl (kk_sl 24 rfl (by decide +kernel) (kk_s0 24 (by decide +kernel) rfl rfl)) rfl rfl rfl rfl rfl hl.1 (Nat.le_of_ble_eq_true rfl) dX4_fold_2 (fun H locs hP hD hS => ?_)
  refine lv_aload_n hx hb dX4_fold_5 rfl (lv_at hl 0 rfl) ?_
  refine va_get (ci := 4) (C := RX4) (T := TX4) (N := 7) hx hb hts hw4 hown hK hP 0 rfl rfl 2 (by decide) hl0 (fun _ h9 => h9) rfl dX4_fold_6 ?_
  refine lv_aload_n hx hb dX4_fold_9 rfl (lv_at hl 0 rfl) ?_
  refine va_get (ci := 4) (C := RX4) (T := TX4) (N := 7) hx hb hts hw4 hown hK hP 0 rfl rfl 0 (by decide) hl1 (fun _ h9 => h9) rfl dX4_fold_10 ?_
  obtain ⟨x3, hq3, hR⟩ := kk_bd_el hR
  refine kk_call_Vv (w' := (w_F g a G ++ w_H g (a 0 2) h x3)) (As := [.ref (a 1 0)]) (rest := []) 24 1 hC (sX1_save l g n (a 0 2) h (a 1) V (G 1)  x3 hq3) (cwV 1 hts gX4_fold_X1_save rfl rfl rfl (by decide +kernel) ⟨Nat.le_of_ble_eq_true rfl, Nat.le_of_ble_eq_true rfl⟩) hK hP hD hS hA [24, 25, 26, 27, 28, 29, 30, 31, 32, 33, 34, 35, 36, 37, 38, 39, 40, 41, 42, 43, 44, 45, 46, 47, 48, 49, 50, 51, 52, 53, 54, 55, 56, 57, 58, 59, 60, 61, 62, 63, 64, 65, 66, 67, 68, 69, 70, 71, 72, 73, 74, 75, 76, 77, 78, 79, 80, 81, 82, 83, 84, 85, 2, 3, 4, 5, 6, 7, 8, 9, 10, 11] (kk_m2 (is1 := [24, 25, 26, 27, 28, 29, 30, 31, 32, 33, 34, 35, 36, 37, 38, 39, 40, 41, 42, 43, 44, 45, 46, 47, 48, 49, 50, 51, 52, 53, 54, 55, 56, 57, 58, 59, 60, 61, 62, 63, 64, 65, 66, 67, 68, 69, 70, 71, 72, 73, 74, 75, 76, 77, 78, 79, 80, 81, 82, 83, 84, 85]) rfl (kk_mr (js := [0, 1, 2, 3, 4, 5, 6, 7, 8, 9, 10, 11, 12, 13, 14, 15, 16, 17, 18, 19, 20, 21, 22, 23, 24, 25, 26, 27, 28, 29, 30, 31, 32, 33, 34, 35, 36, 37, 38, 39, 40, 41, 42, 43, 44, 45, 46, 47, 48, 49, 50, 51, 52, 53, 54, 55, 56, 57, 58, 59, 60, 61]) 24 rfl (by decide +kernel) (kk_m0 62 (by decide +kernel) rfl)) (kk_ml 24 rfl (by decide +kernel) (kk_ml 23 rfl (by decide +kernel) (kk_ml 22 rfl (by decide +kernel) (kk_ml 12 rfl (by decide +kernel) (kk_mr (js := [0, 1, 2, 3, 4, 5, 6, 7, 8, 9]) 2 rfl (by decide +kernel) (kk_m0 10 (by decide +kernel) rfl))))))) (by decide +kernel) rfl (kk_set2 (is1 := [24, 25, 26, 27, 28, 29, 30, 31, 32, 33, 34, 35, 36, 37, 38, 39, 40, 41, 42, 43, 44, 45, 46, 47, 48, 49, 50, 51, 52, 53, 54, 55, 56, 57, 58, 59, 60, 61, 62, 63, 64, 65, 66, 67, 68, 69, 70, 71, 72, 73, 74, 75, 76, 77, 78, 79, 80, 81, 82, 83, 84, 85]) rfl rfl (kk_sr (js := [0, 1, 2, 3, 4, 5, 6, 7, 8, 9, 10, 11, 12, 13, 14, 15, 16, 17, 18, 19, 20, 21, 22, 23, 24, 25, 26, 27, 28, 29, 30, 31, 32, 33, 34, 35, 36, 37, 38, 39, 40, 41, 42, 43, 44, 45, 46, 47, 48, 49, 50, 51, 52, 53, 54, 55, 56, 57, 58, 59, 60, 61]) 24 rfl (by decide +kernel) (kk_s0 62 (by decide +kernel) rfl rfl)) (kk_sl 24 rfl (by decide +kernel) (kk_sl 23 rfl (by decide +kernel) (kk_sl 22 rfl (by decide +kernel) (kk_sl 12 rfl (by decide +kernel) (kk_sr (js := [0, 1, 2, 3, 4, 5, 6, 7, 8, 9]) 2 rfl (by decide +kernel) (kk_s0 10 (by decide +kernel) rfl rfl))))))) rfl rfl rfl rfl rfl hl.1 (Nat.le_of_ble_eq_true rfl) dX4_fold_13 (fun H locs hP hD hS => ?_)
  refine lv_aload_n hx hb dX4_fold_16 rfl (lv_at hl 0 rfl) ?_
  refine va_get (ci := 4) (C := RX4) (T := TX4) (N := 7) hx hb hts hw4 hown hK hP 0 rfl rfl 0 (by decide) hl1 (fun _ h9 => h9) rfl dX4_fold_17 ?_
  refine va_get (ci := 2) (C := RX2) (T := TX2) (N := 11) hx hb hts hw2 hown hK hP 2 rfl rfl 4 (by decide) hl2 (fun _ h9 => h9) rfl dX4_fold_20 ?_
  refine lv_iload_n hx hb dX4_fold_23 rfl (lv_at hl 1 rfl) ?_
  refine lv_iload_n hx hb dX4_fold_24 rfl (lv_at hl 2 rfl) ?_
  obtain ⟨hi5, hR⟩ := kk_ck_el hR
  obtain ⟨hz7, hR⟩ := kk_cb_el hR
  obtain ⟨G4, eG4, hR⟩ := kk_nm_el hR
  refine kk_zast (w' := (w_F g a G4 ++ w_H g (a 0 2) h x3)) hC hK hP hD hS 6 rfl hi5 hz7 (by rw [eG4]; rfl) dX4_fold_25 (fun H locs hP hD hS => ?_)
  refine lv_aload_n hx hb dX4_fold_26 rfl (lv_at hl 0 rfl) ?_
  refine va_get (ci := 4) (C := RX4) (T := TX4) (N := 7) hx hb hts hw4 hown hK hP 0 rfl rfl 0 (by decide) hl1 (fun _ h9 => h9) rfl dX4_fold_27 ?_
  refine lv_iload_n hx hb dX4_fold_30 rfl (lv_at hl 1 rfl) ?_
  obtain ⟨x6, hq6, hR⟩ := kk_bd_el hR
  refine kk_call_Vi (w' := (w_F g a G4 ++ w_H g (a 0 2) h x3)) (As := [.int v1]) (rest := []) 2 2 hC (sX2_countedHeight l g n (a 1) (G4 1) v1 x6 hq6) (cwV 1 hts gX4_fold_X2_countedHeight rfl rfl rfl (by decide +kernel) ⟨Nat.le_of_ble_eq_true rfl, Nat.le_of_ble_eq_true rfl⟩) hK hP hD hS hA [2, 3, 4, 5, 6, 7, 8, 9, 10, 11] (kk_ml 24 rfl (by decide +kernel) (kk_ml 23 rfl (by decide +kernel) (kk_ml 22 rfl (by decide +kernel) (kk_ml 12 rfl (by decide +kernel) (kk_mr (js := [0, 1, 2, 3, 4, 5, 6, 7, 8, 9]) 2 rfl (by decide +kernel) (kk_m0 10 (by decide +kernel) rfl)))))) (by decide +kernel) rfl (kk_sl 24 rfl (by decide +kernel) (kk_sl 23 rfl (by decide +kernel) (kk_sl 22 rfl (by decide +kernel) (kk_sl 12 rfl (by decide +kernel) (kk_sr (js := [0, 1, 2, 3, 4, 5, 6, 7, 8, 9]) 2 rfl (by decide +kernel) (kk_s0 10 (by decide +kernel) rfl rfl)))))) rfl rfl rfl rfl rfl hl.1 (Nat.le_of_ble_eq_true rfl) dX4_fold_31 (fun H locs hP hD hS => ?_)
  cases hR
set_option maxHeartbeats 8000000 in
set_option maxRecDepth 100000 in
theorem sX4_arrange (l : Launch) (g : kG) (n : Nat) (a : Nat → Nat → Nat) (h : Nat → Nat → Nat) (G : St2) (V : St2) (r : Int32 × St2 × St2) (hR : fX4_arrange n G V = some r) : kSp l g yX4_arrange wsX4_arrange ({ frames := 5, cells := 0, slots := 0, locals := 116 }) [.ref (a 0 0)] (w_F g a G ++ w_H g (a 0 2) h V) (kQi g (w_F g a r.2.1 ++ w_H g (a 0 2) h r.2.2) r.1) := by
  refine kSp.of (cc := cX4_arrange) (maxL := 2) (ret := (some .int)) (by decide) rfl (Nat.le_of_ble_eq_true rfl) ?_
  intro p e s m args below meth c ls A hC hr hlocks hA hK hl hP hD hS
  replace hC : CallFix p m c cX4_arrange 2 s args wsX4_arrange RX4 := hC
  obtain ⟨hx, hb, hml, hown, hts⟩ := id hC
  replace hl : lv_has ls 2 [(0, .ref (a 0 0))] := hl
  unfold fX4_arrange at hR
  have hw4 : ∀ w ∈ wsX40, w ∈ wsX4_arrange := by decide +kernel
  have hl0 := hts (.fieldLink RX4 22 "FloatOrder" "history" "LFloatOrder$History;") (by decide +kernel)
  have hl1 := hts (.fieldLink RX4 10 "FloatOrder" "parade" "LFloatOrder$Parade;") (by decide +kernel)
  have hl2 := hts (.constant RX4 106 1000000) (by decide +kernel)
  refine lv_aload_n hx hb dX4_arrange_0 rfl (lv_at hl 0 rfl) ?_
  refine va_get (ci := 4) (C := RX4) (T := TX4) (N := 7) hx hb hts hw4 hown hK hP 0 rfl rfl 2 (by decide) hl0 (fun _ h9 => h9) rfl dX4_arrange_1 ?_
  refine lv_aload_n hx hb dX4_arrange_4 rfl (lv_at hl 0 rfl) ?_
  refine va_get (ci := 4) (C := RX4) (T := TX4) (N := 7) hx hb hts hw4 hown hK hP 0 rfl rfl 0 (by decide) hl1 (fun _ h9 => h9) rfl dX4_arrange_5 ?_
  obtain ⟨x1, hq1, hR⟩ := kk_bd_el hR
  refine kk_call_Vv (w' := (w_F g a G ++ w_H g (a 0 2) h x1)) (As := [.ref (a 1 0)]) (rest := []) 24 1 hC (sX1_save l g n (a 0 2) h (a 1) V (G 1)  x1 hq1) (cwV 1 hts gX4_arrange_X1_save rfl rfl rfl (by decide +kernel) ⟨Nat.le_of_ble_eq_true rfl, Nat.le_of_ble_eq_true rfl⟩) hK hP hD hS hA [24, 25, 26, 27, 28, 29, 30, 31, 32, 33, 34, 35, 36, 37, 38, 39, 40, 41, 42, 43, 44, 45, 46, 47, 48, 49, 50, 51, 52, 53, 54, 55, 56, 57, 58, 59, 60, 61, 62, 63, 64, 65, 66, 67, 68, 69, 70, 71, 72, 73, 74, 75, 76, 77, 78, 79, 80, 81, 82, 83, 84, 85, 2, 3, 4, 5, 6, 7, 8, 9, 10, 11] (kk_m2 (is1 := [24, 25, 26, 27, 28, 29, 30, 31, 32, 33, 34, 35, 36, 37, 38, 39, 40, 41, 42, 43, 44, 45, 46, 47, 48, 49, 50, 51, 52, 53, 54, 55, 56, 57, 58, 59, 60, 61, 62, 63, 64, 65, 66, 67, 68, 69, 70, 71, 72, 73, 74, 75, 76, 77, 78, 79, 80, 81, 82, 83, 84, 85]) rfl (kk_mr (js := [0, 1, 2, 3, 4, 5, 6, 7, 8, 9, 10, 11, 12, 13, 14, 15, 16, 17, 18, 19, 20, 21, 22, 23, 24, 25, 26, 27, 28, 29, 30, 31, 32, 33, 34, 35, 36, 37, 38, 39, 40, 41, 42, 43, 44, 45, 46, 47, 48, 49, 50, 51, 52, 53, 54, 55, 56, 57, 58, 59, 60, 61]) 24 rfl (by decide +kernel) (kk_m0 62 (by decide +kernel) rfl)) (kk_ml 24 rfl (by decide +kernel) (kk_ml 23 rfl (by decide +kernel) (kk_ml 22 rfl (by decide +kernel) (kk_ml 12 rfl (by decide +kernel) (kk_mr (js := [0, 1, 2, 3, 4, 5, 6, 7, 8, 9]) 2 rfl (by decide +kernel) (kk_m0 10 (by decide +kernel) rfl))))))) (by decide +kernel) rfl (kk_set2 (is1 := [24, 25, 26, 27, 28, 29, 30, 31, 32, 33, 34, 35, 36, 37, 38, 39, 40, 41, 42, 43, 44, 45, 46, 47, 48, 49, 50, 51, 52, 53, 54, 55, 56, 57, 58, 59, 60, 61, 62, 63, 64, 65, 66, 67, 68, 69, 70, 71, 72, 73, 74, 75, 76, 77, 78, 79, 80, 81, 82, 83, 84, 85]) rfl rfl (kk_sr (js := [0, 1, 2, 3, 4, 5, 6, 7, 8, 9, 10, 11, 12, 13, 14, 15, 16, 17, 18, 19, 20, 21, 22, 23, 24, 25, 26, 27, 28, 29, 30, 31, 32, 33, 34, 35, 36, 37, 38, 39, 40, 41, 42, 43, 44, 45, 46, 47, 48, 49, 50, 51, 52, 53, 54, 55, 56, 57, 58, 59, 60, 61]) 24 rfl (by decide +kernel) (kk_s0 62 (by decide +kernel) rfl rfl)) (kk_sl 24 rfl (by decide +kernel) (kk_sl 23 rfl (by decide +kernel) (kk_sl 22 rfl (by decide +kernel) (kk_sl 12 rfl (by decide +kernel) (kk_sr (js := [0, 1, 2, 3, 4, 5, 6, 7, 8, 9]) 2 rfl (by decide +kernel) (kk_s0 10 (by decide +kernel) rfl rfl))))))) rfl rfl rfl rfl rfl hl.1 (Nat.le_of_ble_eq_true rfl) dX4_arrange_8 (fun H locs hP hD hS => ?_)
  refine lv_iconst (v := (0 : Int32)) hx hb dX4_arrange_11 (by decide) ?_
  refine lv_istore_n (lv' := [(1, .int (0 : Int32)), (0, .ref (a 0 0))]) hx hb dX4_arrange_12 rfl hl (by decide) rfl (fun ls hl => ?_)
  obtain ⟨x11, hq11, hR⟩ := kk_bd_el hR
  refine kk_cut (g := g) (A := A) (w' := (w_F g a x11.2 ++ w_H g (a 0 2) h x1)) (nL := 2) (lv := [(1, .int x11.1)]) (pcJ := 32) (st := []) (fun H locs ls hP hD hS hl => ?_) (fun hj11 => ?_)
  · refine lv_iload_n hx hb dX4_arrange_32 rfl (lv_at hl 0 rfl) ?_
    obtain rfl := Option.some.inj hR
    exact kk_ret_i hC hr hlocks hK hP hD hS dX4_arrange_33 rfl
  refine kk_loop (g := g) (A := A) (fun (st : Int32 × St2) => (w_F g a st.2 ++ w_H g (a 0 2) h x1)) (fun (st : Int32 × St2) => [(1, .int st.1), (0, .ref (a 0 0))]) 13 (nL := 2) hq11 (fun st xb10 hR ih1 hX1 => ?_) hP hD hS (lv_sub hl [0, 1] rfl)
  clear hP hD hS hl
  obtain ⟨u8, G9⟩ := st
  intro H locs ls hP hD hS hl
  replace hR : fX4_arrange_b13 n u8 G9 = some xb10 := hR
  replace hP : va_P g.1 vwCl (w_F g a G9 ++ w_H g (a 0 2) h x1) H := hP
  replace hD : va_D A (w_F g a G9 ++ w_H g (a 0 2) h x1) := hD
  replace hl : lv_has ls 2 [(1, .int u8), (0, .ref (a 0 0))] := hl
  unfold fX4_arrange_b13 at hR
  refine lv_iload_n hx hb dX4_arrange_13 rfl (lv_at hl 0 rfl) ?_
  refine lv_ldc (v := (1000000 : Int32)) hx hb hown hl2 dX4_arrange_14 ?_
  refine lv_icmp_ge (tgt := 32) hx hb dX4_arrange_16 (by decide) (fun c12 => ?_) (fun c12 => ?_)
  · replace hR := (if_pos c12).symm.trans hR
    obtain rfl := Option.some.inj hR
    obtain rfl := hX1 _ rfl
    exact hj11 _ _ _ hP hD hS (lv_sub hl [0] rfl)
  · replace hR := (if_neg c12).symm.trans hR
    refine lv_aload_n hx hb dX4_arrange_19 rfl (lv_at hl 1 rfl) ?_
    obtain ⟨x13, hq13, hR⟩ := kk_bd_el hR
    refine kk_call_Vi (w' := (w_F g a x13.2 ++ w_H g (a 0 2) h x1)) (As := []) (rest := []) 0 4 hC (sX4_doBestExchange l g n a G9  x13 hq13) (cwV 0 hts gX4_arrange_X4_doBestExchange rfl rfl rfl (by decide +kernel) ⟨Nat.le_of_ble_eq_true rfl, Nat.le_of_ble_eq_true rfl⟩) hK hP hD hS hA [0, 1, 2, 3, 4, 5, 6, 7, 8, 9, 10, 11, 12, 13, 14, 15, 16, 17, 18, 19, 20, 21, 22, 23] (kk_ml 24 rfl (by decide +kernel) (kk_m0 24 (by decide +kernel) rfl)) (by decide +kernel) rfl (kk_sl 24 rfl (by decide +kernel) (kk_s0 24 (by decide +kernel) rfl rfl)) rfl rfl rfl rfl rfl hl.1 (Nat.le_of_ble_eq_true rfl) dX4_arrange_20 (fun H locs hP hD hS => ?_)
    refine lv_if_eq (tgt := 32) hx hb dX4_arrange_23 (by decide) (fun c14 => ?_) (fun c14 => ?_)
    · replace hR := (if_pos c14).symm.trans hR
      obtain rfl := Option.some.inj hR
      obtain rfl := hX1 _ rfl
      exact hj11 _ _ _ hP hD hS (lv_sub hl [0] rfl)
    · replace hR := (if_neg c14).symm.trans hR
      refine lv_iinc (v := (u8 + (1 : Int32))) (lv' := [(1, .int (u8 + (1 : Int32))), (0, .ref (a 0 0))]) hx hb dX4_arrange_26 hl (k := 0) rfl rfl (by decide) rfl (fun ls hl => ?_)
      refine lv_goto (tgt := 13) hx hb dX4_arrange_29 (by decide) ?_
      obtain rfl := Option.some.inj hR
      exact ih1 _ rfl _ _ _ hP hD hS (lv_sub hl [0, 1] rfl)
set_option maxHeartbeats 8000000 in
set_option maxRecDepth 100000 in
theorem sX4_bridge (l : Launch) (g : kG) (n : Nat) (a : Nat → Nat → Nat) (h : Nat → Nat → Nat) (G : St2) (V : St2) (v1 : Int32) (v2 : Int32) (r : Int32 × St2 × St2) (hR : fX4_bridge n G V v1 v2 = some (.inr r)) : kSp l g yX4_bridge wsX4_bridge ({ frames := 2, cells := 0, slots := 0, locals := 43 }) [.ref (a 0 0), .int v1, .int v2] (w_F g a G ++ w_H g (a 0 2) h V) (kQi g (w_F g a r.2.1 ++ w_H g (a 0 2) h r.2.2) r.1) := by
  refine kSp.of (cc := cX4_bridge) (maxL := 3) (ret := (some .int)) (by decide) rfl (Nat.le_of_ble_eq_true rfl) ?_
  intro p e s m args below meth c ls A hC hr hlocks hA hK hl hP hD hS
  replace hC : CallFix p m c cX4_bridge 3 s args wsX4_bridge RX4 := hC
  obtain ⟨hx, hb, hml, hown, hts⟩ := id hC
  replace hl : lv_has ls 3 [(0, .ref (a 0 0)), (1, .int v1), (2, .int v2)] := hl
  unfold fX4_bridge at hR
  have hw2 : ∀ w ∈ wsX20, w ∈ wsX4_bridge := by decide +kernel
  have hw4 : ∀ w ∈ wsX40, w ∈ wsX4_bridge := by decide +kernel
  have hl0 := hts (.fieldLink RX4 10 "FloatOrder" "parade" "LFloatOrder$Parade;") (by decide +kernel)
  have hl1 := hts (.fieldLink RX4 117 "FloatOrder$Parade" "bridges" "I") (by decide +kernel)
  have hl2 := hts (.fieldLink RX4 22 "FloatOrder" "history" "LFloatOrder$History;") (by decide +kernel)
  refine lv_iload_n hx hb dX4_bridge_0 rfl (lv_at hl 1 rfl) ?_
  refine lv_iconst (v := (1 : Int32)) hx hb dX4_bridge_1 (by decide) ?_
  refine lv_icmp_lt (tgt := 18) hx hb dX4_bridge_2 (by decide) (fun c1 => ?_) (fun c1 => ?_)
  · replace hR := (if_pos c1).symm.trans hR
    cases hR
  · replace hR := (if_neg c1).symm.trans hR
    refine lv_iload_n hx hb dX4_bridge_5 rfl (lv_at hl 1 rfl) ?_
    refine lv_bipush (v := (50 : Int32)) hx hb dX4_bridge_6 (by decide) ?_
    refine lv_icmp_gt (tgt := 18) hx hb dX4_bridge_8 (by decide) (fun c2 => ?_) (fun c2 => ?_)
    · replace hR := (if_pos c2).symm.trans hR
      cases hR
    · replace hR := (if_neg c2).symm.trans hR
      refine lv_iload_n hx hb dX4_bridge_11 rfl (lv_at hl 2 rfl) ?_
      obtain ⟨x3, hq3, hR⟩ := kk_bd_el hR
      refine kk_call_Si (w' := (w_F g a G ++ w_H g (a 0 2) h V)) (As := [.int v2]) (rest := []) hC (sX4_isHeight l g n   v2 x3 hq3) (va_cwS 1 hts gX4_bridge_X4_isHeight rfl rfl rfl (by decide +kernel) ⟨Nat.le_of_ble_eq_true rfl, Nat.le_of_ble_eq_true rfl⟩) hK hP hD hS hA [] rfl (by decide +kernel) rfl rfl rfl rfl hl.1 (Nat.le_of_ble_eq_true rfl) dX4_bridge_12 (fun H locs hP hD hS => ?_)
      refine lv_if_ne (tgt := 28) hx hb dX4_bridge_15 (by decide) (fun c4 => ?_) (fun c4 => ?_)
      · replace hR := (if_neg c4).symm.trans hR
        refine lv_aload_n hx hb dX4_bridge_28 rfl (lv_at hl 0 rfl) ?_
        refine va_get (ci := 4) (C := RX4) (T := TX4) (N := 7) hx hb hts hw4 hown hK hP 0 rfl rfl 0 (by decide) hl0 (fun _ h9 => h9) rfl dX4_bridge_29 ?_
        refine va_get (ci := 2) (C := RX2) (T := TX2) (N := 11) hx hb hts hw2 hown hK hP 2 rfl rfl 5 (by decide) hl1 (fun _ h9 => h9) rfl dX4_bridge_32 ?_
        refine lv_iconst (v := (4 : Int32)) hx hb dX4_bridge_35 (by decide) ?_
        refine lv_icmp_ge (tgt := 50) hx hb dX4_bridge_36 (by decide) (fun c5 => ?_) (fun c5 => ?_)
        · replace hR := (if_pos c5).symm.trans hR
          cases hR
        · replace hR := (if_neg c5).symm.trans hR
          refine lv_aload_n hx hb dX4_bridge_39 rfl (lv_at hl 0 rfl) ?_
          refine va_get (ci := 4) (C := RX4) (T := TX4) (N := 7) hx hb hts hw4 hown hK hP 0 rfl rfl 0 (by decide) hl0 (fun _ h9 => h9) rfl dX4_bridge_40 ?_
          refine lv_iload_n hx hb dX4_bridge_43 rfl (lv_at hl 1 rfl) ?_
          obtain ⟨x6, hq6, hR⟩ := kk_bd_el hR
          refine kk_call_Vi (w' := (w_F g a G ++ w_H g (a 0 2) h V)) (As := [.int v1]) (rest := []) 2 2 hC (sX2_hasBridgeAt l g n (a 1) (G 1) v1 x6 hq6) (cwV 1 hts gX4_bridge_X2_hasBridgeAt rfl rfl rfl (by decide +kernel) ⟨Nat.le_of_ble_eq_true rfl, Nat.le_of_ble_eq_true rfl⟩) hK hP hD hS hA [2, 3, 4, 5, 6, 7, 8, 9, 10, 11] (kk_ml 24 rfl (by decide +kernel) (kk_ml 23 rfl (by decide +kernel) (kk_ml 22 rfl (by decide +kernel) (kk_ml 12 rfl (by decide +kernel) (kk_mr (js := [0, 1, 2, 3, 4, 5, 6, 7, 8, 9]) 2 rfl (by decide +kernel) (kk_m0 10 (by decide +kernel) rfl)))))) (by decide +kernel) rfl (kk_sl 24 rfl (by decide +kernel) (kk_sl 23 rfl (by decide +kernel) (kk_sl 22 rfl (by decide +kernel) (kk_sl 12 rfl (by decide +kernel) (kk_sr (js := [0, 1, 2, 3, 4, 5, 6, 7, 8, 9]) 2 rfl (by decide +kernel) (kk_s0 10 (by decide +kernel) rfl rfl)))))) rfl rfl rfl rfl rfl hl.1 (Nat.le_of_ble_eq_true rfl) dX4_bridge_44 (fun H locs hP hD hS => ?_)
          refine lv_if_eq (tgt := 60) hx hb dX4_bridge_47 (by decide) (fun c7 => ?_) (fun c7 => ?_)
          · replace hR := (if_pos c7).symm.trans hR
            refine lv_aload_n hx hb dX4_bridge_60 rfl (lv_at hl 0 rfl) ?_
            refine va_get (ci := 4) (C := RX4) (T := TX4) (N := 7) hx hb hts hw4 hown hK hP 0 rfl rfl 2 (by decide) hl2 (fun _ h9 => h9) rfl dX4_bridge_61 ?_
            refine lv_aload_n hx hb dX4_bridge_64 rfl (lv_at hl 0 rfl) ?_
            refine va_get (ci := 4) (C := RX4) (T := TX4) (N := 7) hx hb hts hw4 hown hK hP 0 rfl rfl 0 (by decide) hl0 (fun _ h9 => h9) rfl dX4_bridge_65 ?_
            obtain ⟨x8, hq8, hR⟩ := kk_bd_el hR
            refine kk_call_Vv (w' := (w_F g a G ++ w_H g (a 0 2) h x8)) (As := [.ref (a 1 0)]) (rest := []) 24 1 hC (sX1_save l g n (a 0 2) h (a 1) V (G 1)  x8 hq8) (cwV 1 hts gX4_bridge_X1_save rfl rfl rfl (by decide +kernel) ⟨Nat.le_of_ble_eq_true rfl, Nat.le_of_ble_eq_true rfl⟩) hK hP hD hS hA [24, 25, 26, 27, 28, 29, 30, 31, 32, 33, 34, 35, 36, 37, 38, 39, 40, 41, 42, 43, 44, 45, 46, 47, 48, 49, 50, 51, 52, 53, 54, 55, 56, 57, 58, 59, 60, 61, 62, 63, 64, 65, 66, 67, 68, 69, 70, 71, 72, 73, 74, 75, 76, 77, 78, 79, 80, 81, 82, 83, 84, 85, 2, 3, 4, 5, 6, 7, 8, 9, 10, 11] (kk_m2 (is1 := [24, 25, 26, 27, 28, 29, 30, 31, 32, 33, 34, 35, 36, 37, 38, 39, 40, 41, 42, 43, 44, 45, 46, 47, 48, 49, 50, 51, 52, 53, 54, 55, 56, 57, 58, 59, 60, 61, 62, 63, 64, 65, 66, 67, 68, 69, 70, 71, 72, 73, 74, 75, 76, 77, 78, 79, 80, 81, 82, 83, 84, 85]) rfl (kk_mr (js := [0, 1, 2, 3, 4, 5, 6, 7, 8, 9, 10, 11, 12, 13, 14, 15, 16, 17, 18, 19, 20, 21, 22, 23, 24, 25, 26, 27, 28, 29, 30, 31, 32, 33, 34, 35, 36, 37, 38, 39, 40, 41, 42, 43, 44, 45, 46, 47, 48, 49, 50, 51, 52, 53, 54, 55, 56, 57, 58, 59, 60, 61]) 24 rfl (by decide +kernel) (kk_m0 62 (by decide +kernel) rfl)) (kk_ml 24 rfl (by decide +kernel) (kk_ml 23 rfl (by decide +kernel) (kk_ml 22 rfl (by decide +kernel) (kk_ml 12 rfl (by decide +kernel) (kk_mr (js := [0, 1, 2, 3, 4, 5, 6, 7, 8, 9]) 2 rfl (by decide +kernel) (kk_m0 10 (by decide +kernel) rfl))))))) (by decide +kernel) rfl (kk_set2 (is1 := [24, 25, 26, 27, 28, 29, 30, 31, 32, 33, 34, 35, 36, 37, 38, 39, 40, 41, 42, 43, 44, 45, 46, 47, 48, 49, 50, 51, 52, 53, 54, 55, 56, 57, 58, 59, 60, 61, 62, 63, 64, 65, 66, 67, 68, 69, 70, 71, 72, 73, 74, 75, 76, 77, 78, 79, 80, 81, 82, 83, 84, 85]) rfl rfl (kk_sr (js := [0, 1, 2, 3, 4, 5, 6, 7, 8, 9, 10, 11, 12, 13, 14, 15, 16, 17, 18, 19, 20, 21, 22, 23, 24, 25, 26, 27, 28, 29, 30, 31, 32, 33, 34, 35, 36, 37, 38, 39, 40, 41, 42, 43, 44, 45, 46, 47, 48, 49, 50, 51, 52, 53, 54, 55, 56, 57, 58, 59, 60, 61]) 24 rfl (by decide +kernel) (kk_s0 62 (by decide +kernel) rfl rfl)) (kk_sl 24 rfl (by decide +kernel) (kk_sl 23 rfl (by decide +kernel) (kk_sl 22 rfl (by decide +kernel) (kk_sl 12 rfl (by decide +kernel) (kk_sr (js := [0, 1, 2, 3, 4, 5, 6, 7, 8, 9]) 2 rfl (by decide +kernel) (kk_s0 10 (by decide +kernel) rfl rfl))))))) rfl rfl rfl rfl rfl hl.1 (Nat.le_of_ble_eq_true rfl) dX4_bridge_68 (fun H locs hP hD hS => ?_)
            refine lv_aload_n hx hb dX4_bridge_71 rfl (lv_at hl 0 rfl) ?_
            refine va_get (ci := 4) (C := RX4) (T := TX4) (N := 7) hx hb hts hw4 hown hK hP 0 rfl rfl 0 (by decide) hl0 (fun _ h9 => h9) rfl dX4_bridge_72 ?_
            refine lv_iload_n hx hb dX4_bridge_75 rfl (lv_at hl 1 rfl) ?_
            refine lv_iload_n hx hb dX4_bridge_76 rfl (lv_at hl 2 rfl) ?_
            obtain ⟨x9, hq9, hR⟩ := kk_bd_el hR
            obtain ⟨G10, eG10, hR⟩ := kk_nm_el hR
            refine kk_call_Vi (w' := (w_F g a G10 ++ w_H g (a 0 2) h x8)) (As := [.int v1, .int v2]) (rest := []) 2 2 hC (sX2_build l g n (a 1) (G 1) v1 v2 x9 hq9) (cwV 2 hts gX4_bridge_X2_build rfl rfl rfl (by decide +kernel) ⟨Nat.le_of_ble_eq_true rfl, Nat.le_of_ble_eq_true rfl⟩) hK hP hD hS hA [2, 3, 4, 5, 6, 7, 8, 9, 10, 11] (kk_ml 24 rfl (by decide +kernel) (kk_ml 23 rfl (by decide +kernel) (kk_ml 22 rfl (by decide +kernel) (kk_ml 12 rfl (by decide +kernel) (kk_mr (js := [0, 1, 2, 3, 4, 5, 6, 7, 8, 9]) 2 rfl (by decide +kernel) (kk_m0 10 (by decide +kernel) rfl)))))) (by decide +kernel) rfl (by rw [eG10]; exact kk_sl 24 rfl (by decide +kernel) (kk_sl 23 rfl (by decide +kernel) (kk_sl 22 rfl (by decide +kernel) (kk_sl 12 rfl (by decide +kernel) (kk_sr (js := [0, 1, 2, 3, 4, 5, 6, 7, 8, 9]) 2 rfl (by decide +kernel) (kk_s0 10 (by decide +kernel) rfl rfl)))))) rfl rfl rfl rfl rfl hl.1 (Nat.le_of_ble_eq_true rfl) dX4_bridge_77 (fun H locs hP hD hS => ?_)
            obtain rfl := Sum.inr.inj (Option.some.inj hR)
            exact kk_ret_i hC hr hlocks hK hP hD hS dX4_bridge_80 rfl
          · replace hR := (if_neg c7).symm.trans hR
            cases hR
      · replace hR := (if_pos c4).symm.trans hR
        cases hR
set_option maxHeartbeats 8000000 in
set_option maxRecDepth 100000 in
theorem sX4_bridge_th (l : Launch) (hst : l.stackTraces = false) (g : kG) (n : Nat) (a : Nat → Nat → Nat) (h : Nat → Nat → Nat) (G : St2) (V : St2) (v1 : Int32) (v2 : Int32) (k : Nat) (hR : fX4_bridge n G V v1 v2 = some (.inl k)) : kSt l g yX4_bridge wsX4_bridge ({ frames := 6, cells := 1, slots := 6, locals := 90 }) [.ref (a 0 0), .int v1, .int v2] (w_F g a G ++ w_H g (a 0 2) h V) (w_F g a G ++ w_H g (a 0 2) h V) k := by
  refine kSt.of (cc := cX4_bridge) (maxL := 3) (ret := (some .int)) (by decide) rfl (Nat.le_of_ble_eq_true rfl) ?_
  intro p e s m args below meth c ls A hC hlocks hno hA hK hG hl hP hD hS
  replace hC : CallFix p m c cX4_bridge 3 s args wsX4_bridge RX4 := hC
  obtain ⟨hx, hb, hml, hown, hts⟩ := id hC
  replace hl : lv_has ls 3 [(0, .ref (a 0 0)), (1, .int v1), (2, .int v2)] := hl
  unfold fX4_bridge at hR
  have hw2 : ∀ w ∈ wsX20, w ∈ wsX4_bridge := by decide +kernel
  have hw4 : ∀ w ∈ wsX40, w ∈ wsX4_bridge := by decide +kernel
  have hl0 := hts (.classLink RX4 62 "java/lang/IllegalArgumentException") (by decide +kernel)
  have hl1 := hts (.initialized "java/lang/IllegalArgumentException") (by decide +kernel)
  have hl2 := hts (.fieldLink RX4 10 "FloatOrder" "parade" "LFloatOrder$Parade;") (by decide +kernel)
  have hl3 := hts (.fieldLink RX4 117 "FloatOrder$Parade" "bridges" "I") (by decide +kernel)
  have hl4 := hts (.classLink RX4 67 "java/lang/IllegalStateException") (by decide +kernel)
  have hl5 := hts (.initialized "java/lang/IllegalStateException") (by decide +kernel)
  have hl6 := hts (.fieldLink RX4 22 "FloatOrder" "history" "LFloatOrder$History;") (by decide +kernel)
  refine lv_iload_n hx hb dX4_bridge_0 rfl (lv_at hl 1 rfl) ?_
  refine lv_iconst (v := (1 : Int32)) hx hb dX4_bridge_1 (by decide) ?_
  refine lv_icmp_lt (tgt := 18) hx hb dX4_bridge_2 (by decide) (fun c1 => ?_) (fun c1 => ?_)
  · replace hR := (if_pos c1).symm.trans hR
    obtain rfl := Sum.inl.inj (Option.some.inj hR)
    exact kk_throw (names := ["java/lang/RuntimeException", "java/lang/Exception"]) (text := "distance or clearance is out of range") (k := 2) hC hst hlocks hno hK hG hP hD hS hA rfl rfl (by decide +kernel) (by decide +kernel) (by decide +kernel) hl0 hl1 (by decide +kernel) (by decide +kernel) (by decide +kernel) hl.1 dX4_bridge_18 dX4_bridge_21 dX4_bridge_22 dX4_bridge_24 dX4_bridge_27 ⟨Nat.le_of_ble_eq_true rfl, Nat.le_of_ble_eq_true rfl, Nat.le_of_ble_eq_true rfl, Nat.le_of_ble_eq_true rfl⟩
  · replace hR := (if_neg c1).symm.trans hR
    refine lv_iload_n hx hb dX4_bridge_5 rfl (lv_at hl 1 rfl) ?_
    refine lv_bipush (v := (50 : Int32)) hx hb dX4_bridge_6 (by decide) ?_
    refine lv_icmp_gt (tgt := 18) hx hb dX4_bridge_8 (by decide) (fun c2 => ?_) (fun c2 => ?_)
    · replace hR := (if_pos c2).symm.trans hR
      obtain rfl := Sum.inl.inj (Option.some.inj hR)
      exact kk_throw (names := ["java/lang/RuntimeException", "java/lang/Exception"]) (text := "distance or clearance is out of range") (k := 2) hC hst hlocks hno hK hG hP hD hS hA rfl rfl (by decide +kernel) (by decide +kernel) (by decide +kernel) hl0 hl1 (by decide +kernel) (by decide +kernel) (by decide +kernel) hl.1 dX4_bridge_18 dX4_bridge_21 dX4_bridge_22 dX4_bridge_24 dX4_bridge_27 ⟨Nat.le_of_ble_eq_true rfl, Nat.le_of_ble_eq_true rfl, Nat.le_of_ble_eq_true rfl, Nat.le_of_ble_eq_true rfl⟩
    · replace hR := (if_neg c2).symm.trans hR
      refine lv_iload_n hx hb dX4_bridge_11 rfl (lv_at hl 2 rfl) ?_
      obtain ⟨x3, hq3, hR⟩ := kk_bd_el hR
      refine kk_call_Si (w' := (w_F g a G ++ w_H g (a 0 2) h V)) (As := [.int v2]) (rest := []) hC (sX4_isHeight l g n   v2 x3 hq3) (va_cwS 1 hts gX4_bridge_X4_isHeight rfl rfl rfl (by decide +kernel) ⟨Nat.le_of_ble_eq_true rfl, Nat.le_of_ble_eq_true rfl⟩) hK hP hD hS hA [] rfl (by decide +kernel) rfl rfl rfl rfl hl.1 (Nat.le_of_ble_eq_true rfl) dX4_bridge_12 (fun H locs hP hD hS => ?_)
      refine lv_if_ne (tgt := 28) hx hb dX4_bridge_15 (by decide) (fun c4 => ?_) (fun c4 => ?_)
      · replace hR := (if_neg c4).symm.trans hR
        refine lv_aload_n hx hb dX4_bridge_28 rfl (lv_at hl 0 rfl) ?_
        refine va_get (ci := 4) (C := RX4) (T := TX4) (N := 7) hx hb hts hw4 hown hK hP 0 rfl rfl 0 (by decide) hl2 (fun _ h9 => h9) rfl dX4_bridge_29 ?_
        refine va_get (ci := 2) (C := RX2) (T := TX2) (N := 11) hx hb hts hw2 hown hK hP 2 rfl rfl 5 (by decide) hl3 (fun _ h9 => h9) rfl dX4_bridge_32 ?_
        refine lv_iconst (v := (4 : Int32)) hx hb dX4_bridge_35 (by decide) ?_
        refine lv_icmp_ge (tgt := 50) hx hb dX4_bridge_36 (by decide) (fun c5 => ?_) (fun c5 => ?_)
        · replace hR := (if_pos c5).symm.trans hR
          obtain rfl := Sum.inl.inj (Option.some.inj hR)
          exact kk_throw (names := ["java/lang/RuntimeException", "java/lang/Exception"]) (text := "there are 4 bridges, or one at this distance") (k := 3) hC hst hlocks hno hK hG hP hD hS hA rfl rfl (by decide +kernel) (by decide +kernel) (by decide +kernel) hl4 hl5 (by decide +kernel) (by decide +kernel) (by decide +kernel) hl.1 dX4_bridge_50 dX4_bridge_53 dX4_bridge_54 dX4_bridge_56 dX4_bridge_59 ⟨Nat.le_of_ble_eq_true rfl, Nat.le_of_ble_eq_true rfl, Nat.le_of_ble_eq_true rfl, Nat.le_of_ble_eq_true rfl⟩
        · replace hR := (if_neg c5).symm.trans hR
          refine lv_aload_n hx hb dX4_bridge_39 rfl (lv_at hl 0 rfl) ?_
          refine va_get (ci := 4) (C := RX4) (T := TX4) (N := 7) hx hb hts hw4 hown hK hP 0 rfl rfl 0 (by decide) hl2 (fun _ h9 => h9) rfl dX4_bridge_40 ?_
          refine lv_iload_n hx hb dX4_bridge_43 rfl (lv_at hl 1 rfl) ?_
          obtain ⟨x6, hq6, hR⟩ := kk_bd_el hR
          refine kk_call_Vi (w' := (w_F g a G ++ w_H g (a 0 2) h V)) (As := [.int v1]) (rest := []) 2 2 hC (sX2_hasBridgeAt l g n (a 1) (G 1) v1 x6 hq6) (cwV 1 hts gX4_bridge_X2_hasBridgeAt rfl rfl rfl (by decide +kernel) ⟨Nat.le_of_ble_eq_true rfl, Nat.le_of_ble_eq_true rfl⟩) hK hP hD hS hA [2, 3, 4, 5, 6, 7, 8, 9, 10, 11] (kk_ml 24 rfl (by decide +kernel) (kk_ml 23 rfl (by decide +kernel) (kk_ml 22 rfl (by decide +kernel) (kk_ml 12 rfl (by decide +kernel) (kk_mr (js := [0, 1, 2, 3, 4, 5, 6, 7, 8, 9]) 2 rfl (by decide +kernel) (kk_m0 10 (by decide +kernel) rfl)))))) (by decide +kernel) rfl (kk_sl 24 rfl (by decide +kernel) (kk_sl 23 rfl (by decide +kernel) (kk_sl 22 rfl (by decide +kernel) (kk_sl 12 rfl (by decide +kernel) (kk_sr (js := [0, 1, 2, 3, 4, 5, 6, 7, 8, 9]) 2 rfl (by decide +kernel) (kk_s0 10 (by decide +kernel) rfl rfl)))))) rfl rfl rfl rfl rfl hl.1 (Nat.le_of_ble_eq_true rfl) dX4_bridge_44 (fun H locs hP hD hS => ?_)
          refine lv_if_eq (tgt := 60) hx hb dX4_bridge_47 (by decide) (fun c7 => ?_) (fun c7 => ?_)
          · replace hR := (if_pos c7).symm.trans hR
            refine lv_aload_n hx hb dX4_bridge_60 rfl (lv_at hl 0 rfl) ?_
            refine va_get (ci := 4) (C := RX4) (T := TX4) (N := 7) hx hb hts hw4 hown hK hP 0 rfl rfl 2 (by decide) hl6 (fun _ h9 => h9) rfl dX4_bridge_61 ?_
            refine lv_aload_n hx hb dX4_bridge_64 rfl (lv_at hl 0 rfl) ?_
            refine va_get (ci := 4) (C := RX4) (T := TX4) (N := 7) hx hb hts hw4 hown hK hP 0 rfl rfl 0 (by decide) hl2 (fun _ h9 => h9) rfl dX4_bridge_65 ?_
            obtain ⟨x8, hq8, hR⟩ := kk_bd_el hR
            refine kk_call_Vv (w' := (w_F g a G ++ w_H g (a 0 2) h x8)) (As := [.ref (a 1 0)]) (rest := []) 24 1 hC (sX1_save l g n (a 0 2) h (a 1) V (G 1)  x8 hq8) (cwV 1 hts gX4_bridge_X1_save rfl rfl rfl (by decide +kernel) ⟨Nat.le_of_ble_eq_true rfl, Nat.le_of_ble_eq_true rfl⟩) hK hP hD hS hA [24, 25, 26, 27, 28, 29, 30, 31, 32, 33, 34, 35, 36, 37, 38, 39, 40, 41, 42, 43, 44, 45, 46, 47, 48, 49, 50, 51, 52, 53, 54, 55, 56, 57, 58, 59, 60, 61, 62, 63, 64, 65, 66, 67, 68, 69, 70, 71, 72, 73, 74, 75, 76, 77, 78, 79, 80, 81, 82, 83, 84, 85, 2, 3, 4, 5, 6, 7, 8, 9, 10, 11] (kk_m2 (is1 := [24, 25, 26, 27, 28, 29, 30, 31, 32, 33, 34, 35, 36, 37, 38, 39, 40, 41, 42, 43, 44, 45, 46, 47, 48, 49, 50, 51, 52, 53, 54, 55, 56, 57, 58, 59, 60, 61, 62, 63, 64, 65, 66, 67, 68, 69, 70, 71, 72, 73, 74, 75, 76, 77, 78, 79, 80, 81, 82, 83, 84, 85]) rfl (kk_mr (js := [0, 1, 2, 3, 4, 5, 6, 7, 8, 9, 10, 11, 12, 13, 14, 15, 16, 17, 18, 19, 20, 21, 22, 23, 24, 25, 26, 27, 28, 29, 30, 31, 32, 33, 34, 35, 36, 37, 38, 39, 40, 41, 42, 43, 44, 45, 46, 47, 48, 49, 50, 51, 52, 53, 54, 55, 56, 57, 58, 59, 60, 61]) 24 rfl (by decide +kernel) (kk_m0 62 (by decide +kernel) rfl)) (kk_ml 24 rfl (by decide +kernel) (kk_ml 23 rfl (by decide +kernel) (kk_ml 22 rfl (by decide +kernel) (kk_ml 12 rfl (by decide +kernel) (kk_mr (js := [0, 1, 2, 3, 4, 5, 6, 7, 8, 9]) 2 rfl (by decide +kernel) (kk_m0 10 (by decide +kernel) rfl))))))) (by decide +kernel) rfl (kk_set2 (is1 := [24, 25, 26, 27, 28, 29, 30, 31, 32, 33, 34, 35, 36, 37, 38, 39, 40, 41, 42, 43, 44, 45, 46, 47, 48, 49, 50, 51, 52, 53, 54, 55, 56, 57, 58, 59, 60, 61, 62, 63, 64, 65, 66, 67, 68, 69, 70, 71, 72, 73, 74, 75, 76, 77, 78, 79, 80, 81, 82, 83, 84, 85]) rfl rfl (kk_sr (js := [0, 1, 2, 3, 4, 5, 6, 7, 8, 9, 10, 11, 12, 13, 14, 15, 16, 17, 18, 19, 20, 21, 22, 23, 24, 25, 26, 27, 28, 29, 30, 31, 32, 33, 34, 35, 36, 37, 38, 39, 40, 41, 42, 43, 44, 45, 46, 47, 48, 49, 50, 51, 52, 53, 54, 55, 56, 57, 58, 59, 60, 61]) 24 rfl (by decide +kernel) (kk_s0 62 (by decide +kernel) rfl rfl)) (kk_sl 24 rfl (by decide +kernel) (kk_sl 23 rfl (by decide +kernel) (kk_sl 22 rfl (by decide +kernel) (kk_sl 12 rfl (by decide +kernel) (kk_sr (js := [0, 1, 2, 3, 4, 5, 6, 7, 8, 9]) 2 rfl (by decide +kernel) (kk_s0 10 (by decide +kernel) rfl rfl))))))) rfl rfl rfl rfl rfl hl.1 (Nat.le_of_ble_eq_true rfl) dX4_bridge_68 (fun H locs hP hD hS => ?_)
            refine lv_aload_n hx hb dX4_bridge_71 rfl (lv_at hl 0 rfl) ?_
            refine va_get (ci := 4) (C := RX4) (T := TX4) (N := 7) hx hb hts hw4 hown hK hP 0 rfl rfl 0 (by decide) hl2 (fun _ h9 => h9) rfl dX4_bridge_72 ?_
            refine lv_iload_n hx hb dX4_bridge_75 rfl (lv_at hl 1 rfl) ?_
            refine lv_iload_n hx hb dX4_bridge_76 rfl (lv_at hl 2 rfl) ?_
            obtain ⟨x9, hq9, hR⟩ := kk_bd_el hR
            obtain ⟨G10, eG10, hR⟩ := kk_nm_el hR
            refine kk_call_Vi (w' := (w_F g a G10 ++ w_H g (a 0 2) h x8)) (As := [.int v1, .int v2]) (rest := []) 2 2 hC (sX2_build l g n (a 1) (G 1) v1 v2 x9 hq9) (cwV 2 hts gX4_bridge_X2_build rfl rfl rfl (by decide +kernel) ⟨Nat.le_of_ble_eq_true rfl, Nat.le_of_ble_eq_true rfl⟩) hK hP hD hS hA [2, 3, 4, 5, 6, 7, 8, 9, 10, 11] (kk_ml 24 rfl (by decide +kernel) (kk_ml 23 rfl (by decide +kernel) (kk_ml 22 rfl (by decide +kernel) (kk_ml 12 rfl (by decide +kernel) (kk_mr (js := [0, 1, 2, 3, 4, 5, 6, 7, 8, 9]) 2 rfl (by decide +kernel) (kk_m0 10 (by decide +kernel) rfl)))))) (by decide +kernel) rfl (by rw [eG10]; exact kk_sl 24 rfl (by decide +kernel) (kk_sl 23 rfl (by decide +kernel) (kk_sl 22 rfl (by decide +kernel) (kk_sl 12 rfl (by decide +kernel) (kk_sr (js := [0, 1, 2, 3, 4, 5, 6, 7, 8, 9]) 2 rfl (by decide +kernel) (kk_s0 10 (by decide +kernel) rfl rfl)))))) rfl rfl rfl rfl rfl hl.1 (Nat.le_of_ble_eq_true rfl) dX4_bridge_77 (fun H locs hP hD hS => ?_)
            cases hR
          · replace hR := (if_neg c7).symm.trans hR
            obtain rfl := Sum.inl.inj (Option.some.inj hR)
            exact kk_throw (names := ["java/lang/RuntimeException", "java/lang/Exception"]) (text := "there are 4 bridges, or one at this distance") (k := 3) hC hst hlocks hno hK hG hP hD hS hA rfl rfl (by decide +kernel) (by decide +kernel) (by decide +kernel) hl4 hl5 (by decide +kernel) (by decide +kernel) (by decide +kernel) hl.1 dX4_bridge_50 dX4_bridge_53 dX4_bridge_54 dX4_bridge_56 dX4_bridge_59 ⟨Nat.le_of_ble_eq_true rfl, Nat.le_of_ble_eq_true rfl, Nat.le_of_ble_eq_true rfl, Nat.le_of_ble_eq_true rfl⟩
      · replace hR := (if_pos c4).symm.trans hR
        obtain rfl := Sum.inl.inj (Option.some.inj hR)
        exact kk_throw (names := ["java/lang/RuntimeException", "java/lang/Exception"]) (text := "distance or clearance is out of range") (k := 2) hC hst hlocks hno hK hG hP hD hS hA rfl rfl (by decide +kernel) (by decide +kernel) (by decide +kernel) hl0 hl1 (by decide +kernel) (by decide +kernel) (by decide +kernel) hl.1 dX4_bridge_18 dX4_bridge_21 dX4_bridge_22 dX4_bridge_24 dX4_bridge_27 ⟨Nat.le_of_ble_eq_true rfl, Nat.le_of_ble_eq_true rfl, Nat.le_of_ble_eq_true rfl, Nat.le_of_ble_eq_true rfl⟩
set_option maxHeartbeats 8000000 in
set_option maxRecDepth 100000 in
theorem sX4_unbridge (l : Launch) (g : kG) (n : Nat) (a : Nat → Nat → Nat) (h : Nat → Nat → Nat) (G : St2) (V : St2) (v1 : Int32) (r : Int32 × St2 × St2) (hR : fX4_unbridge n G V v1 = some (.inr r)) : kSp l g yX4_unbridge wsX4_unbridge ({ frames := 2, cells := 0, slots := 0, locals := 43 }) [.ref (a 0 0), .int v1] (w_F g a G ++ w_H g (a 0 2) h V) (kQi g (w_F g a r.2.1 ++ w_H g (a 0 2) h r.2.2) r.1) := by
  refine kSp.of (cc := cX4_unbridge) (maxL := 3) (ret := (some .int)) (by decide) rfl (Nat.le_of_ble_eq_true rfl) ?_
  intro p e s m args below meth c ls A hC hr hlocks hA hK hl hP hD hS
  replace hC : CallFix p m c cX4_unbridge 3 s args wsX4_unbridge RX4 := hC
  obtain ⟨hx, hb, hml, hown, hts⟩ := id hC
  replace hl : lv_has ls 3 [(0, .ref (a 0 0)), (1, .int v1)] := hl
  unfold fX4_unbridge at hR
  have hw2 : ∀ w ∈ wsX20, w ∈ wsX4_unbridge := by decide +kernel
  have hw4 : ∀ w ∈ wsX40, w ∈ wsX4_unbridge := by decide +kernel
  have hl0 := hts (.fieldLink RX4 22 "FloatOrder" "history" "LFloatOrder$History;") (by decide +kernel)
  have hl1 := hts (.fieldLink RX4 10 "FloatOrder" "parade" "LFloatOrder$Parade;") (by decide +kernel)
  have hl2 := hts (.fieldLink RX4 132 "FloatOrder$Parade" "distances" "[I") (by decide +kernel)
  refine lv_aload_n hx hb dX4_unbridge_0 rfl (lv_at hl 0 rfl) ?_
  refine lv_iload_n hx hb dX4_unbridge_1 rfl (lv_at hl 1 rfl) ?_
  obtain ⟨y1, hq2, hR⟩ := kk_bd_el hR
  obtain ⟨x2, ex2, hR⟩ := kk_tr_ok hR
  subst ex2
  refine kk_call_Vv (w' := (w_F g a G ++ w_H g (a 0 2) h V)) (As := [.int v1]) (rest := []) 0 4 hC (sX4_needBridge l g n a G v1 x2 hq2) (cwV 1 hts gX4_unbridge_X4_needBridge rfl rfl rfl (by decide +kernel) ⟨Nat.le_of_ble_eq_true rfl, Nat.le_of_ble_eq_true rfl⟩) hK hP hD hS hA [0, 1, 2, 3, 4, 5, 6, 7, 8, 9, 10, 11, 12, 13, 14, 15, 16, 17, 18, 19, 20, 21, 22, 23] (kk_ml 24 rfl (by decide +kernel) (kk_m0 24 (by decide +kernel) rfl)) (by decide +kernel) rfl (kk_sl 24 rfl (by decide +kernel) (kk_s0 24 (by decide +kernel) rfl rfl)) rfl rfl rfl rfl rfl hl.1 (Nat.le_of_ble_eq_true rfl) dX4_unbridge_2 (fun H locs hP hD hS => ?_)
  refine lv_aload_n hx hb dX4_unbridge_5 rfl (lv_at hl 0 rfl) ?_
  refine va_get (ci := 4) (C := RX4) (T := TX4) (N := 7) hx hb hts hw4 hown hK hP 0 rfl rfl 2 (by decide) hl0 (fun _ h9 => h9) rfl dX4_unbridge_6 ?_
  refine lv_aload_n hx hb dX4_unbridge_9 rfl (lv_at hl 0 rfl) ?_
  refine va_get (ci := 4) (C := RX4) (T := TX4) (N := 7) hx hb hts hw4 hown hK hP 0 rfl rfl 0 (by decide) hl1 (fun _ h9 => h9) rfl dX4_unbridge_10 ?_
  obtain ⟨x3, hq3, hR⟩ := kk_bd_el hR
  refine kk_call_Vv (w' := (w_F g a G ++ w_H g (a 0 2) h x3)) (As := [.ref (a 1 0)]) (rest := []) 24 1 hC (sX1_save l g n (a 0 2) h (a 1) V (G 1)  x3 hq3) (cwV 1 hts gX4_unbridge_X1_save rfl rfl rfl (by decide +kernel) ⟨Nat.le_of_ble_eq_true rfl, Nat.le_of_ble_eq_true rfl⟩) hK hP hD hS hA [24, 25, 26, 27, 28, 29, 30, 31, 32, 33, 34, 35, 36, 37, 38, 39, 40, 41, 42, 43, 44, 45, 46, 47, 48, 49, 50, 51, 52, 53, 54, 55, 56, 57, 58, 59, 60, 61, 62, 63, 64, 65, 66, 67, 68, 69, 70, 71, 72, 73, 74, 75, 76, 77, 78, 79, 80, 81, 82, 83, 84, 85, 2, 3, 4, 5, 6, 7, 8, 9, 10, 11] (kk_m2 (is1 := [24, 25, 26, 27, 28, 29, 30, 31, 32, 33, 34, 35, 36, 37, 38, 39, 40, 41, 42, 43, 44, 45, 46, 47, 48, 49, 50, 51, 52, 53, 54, 55, 56, 57, 58, 59, 60, 61, 62, 63, 64, 65, 66, 67, 68, 69, 70, 71, 72, 73, 74, 75, 76, 77, 78, 79, 80, 81, 82, 83, 84, 85]) rfl (kk_mr (js := [0, 1, 2, 3, 4, 5, 6, 7, 8, 9, 10, 11, 12, 13, 14, 15, 16, 17, 18, 19, 20, 21, 22, 23, 24, 25, 26, 27, 28, 29, 30, 31, 32, 33, 34, 35, 36, 37, 38, 39, 40, 41, 42, 43, 44, 45, 46, 47, 48, 49, 50, 51, 52, 53, 54, 55, 56, 57, 58, 59, 60, 61]) 24 rfl (by decide +kernel) (kk_m0 62 (by decide +kernel) rfl)) (kk_ml 24 rfl (by decide +kernel) (kk_ml 23 rfl (by decide +kernel) (kk_ml 22 rfl (by decide +kernel) (kk_ml 12 rfl (by decide +kernel) (kk_mr (js := [0, 1, 2, 3, 4, 5, 6, 7, 8, 9]) 2 rfl (by decide +kernel) (kk_m0 10 (by decide +kernel) rfl))))))) (by decide +kernel) rfl (kk_set2 (is1 := [24, 25, 26, 27, 28, 29, 30, 31, 32, 33, 34, 35, 36, 37, 38, 39, 40, 41, 42, 43, 44, 45, 46, 47, 48, 49, 50, 51, 52, 53, 54, 55, 56, 57, 58, 59, 60, 61, 62, 63, 64, 65, 66, 67, 68, 69, 70, 71, 72, 73, 74, 75, 76, 77, 78, 79, 80, 81, 82, 83, 84, 85]) rfl rfl (kk_sr (js := [0, 1, 2, 3, 4, 5, 6, 7, 8, 9, 10, 11, 12, 13, 14, 15, 16, 17, 18, 19, 20, 21, 22, 23, 24, 25, 26, 27, 28, 29, 30, 31, 32, 33, 34, 35, 36, 37, 38, 39, 40, 41, 42, 43, 44, 45, 46, 47, 48, 49, 50, 51, 52, 53, 54, 55, 56, 57, 58, 59, 60, 61]) 24 rfl (by decide +kernel) (kk_s0 62 (by decide +kernel) rfl rfl)) (kk_sl 24 rfl (by decide +kernel) (kk_sl 23 rfl (by decide +kernel) (kk_sl 22 rfl (by decide +kernel) (kk_sl 12 rfl (by decide +kernel) (kk_sr (js := [0, 1, 2, 3, 4, 5, 6, 7, 8, 9]) 2 rfl (by decide +kernel) (kk_s0 10 (by decide +kernel) rfl rfl))))))) rfl rfl rfl rfl rfl hl.1 (Nat.le_of_ble_eq_true rfl) dX4_unbridge_13 (fun H locs hP hD hS => ?_)
  refine lv_aload_n hx hb dX4_unbridge_16 rfl (lv_at hl 0 rfl) ?_
  refine va_get (ci := 4) (C := RX4) (T := TX4) (N := 7) hx hb hts hw4 hown hK hP 0 rfl rfl 0 (by decide) hl1 (fun _ h9 => h9) rfl dX4_unbridge_17 ?_
  refine va_get (ci := 2) (C := RX2) (T := TX2) (N := 11) hx hb hts hw2 hown hK hP 2 rfl rfl 6 (by decide) hl2 (fun _ h9 => h9) rfl dX4_unbridge_20 ?_
  refine lv_iload_n hx hb dX4_unbridge_23 rfl (lv_at hl 1 rfl) ?_
  obtain ⟨hi4, hR⟩ := kk_ck_el hR
  refine va_iald hx hb hK hP 7 0 rfl rfl hi4 dX4_unbridge_24 ?_
  refine lv_istore_n (lv' := [(2, .int ((G 1 6) v1.toNatClampNeg)), (0, .ref (a 0 0)), (1, .int v1)]) hx hb dX4_unbridge_25 rfl hl (by decide) rfl (fun ls hl => ?_)
  refine lv_aload_n hx hb dX4_unbridge_26 rfl (lv_at hl 1 rfl) ?_
  refine va_get (ci := 4) (C := RX4) (T := TX4) (N := 7) hx hb hts hw4 hown hK hP 0 rfl rfl 0 (by decide) hl1 (fun _ h9 => h9) rfl dX4_unbridge_27 ?_
  refine lv_iload_n hx hb dX4_unbridge_30 rfl (lv_at hl 2 rfl) ?_
  obtain ⟨x5, hq5, hR⟩ := kk_bd_el hR
  obtain ⟨G6, eG6, hR⟩ := kk_nm_el hR
  refine kk_call_Vv (w' := (w_F g a G6 ++ w_H g (a 0 2) h x3)) (As := [.int v1]) (rest := []) 2 2 hC (sX2_pullDown l g n (a 1) (G 1) v1 x5 hq5) (cwV 1 hts gX4_unbridge_X2_pullDown rfl rfl rfl (by decide +kernel) ⟨Nat.le_of_ble_eq_true rfl, Nat.le_of_ble_eq_true rfl⟩) hK hP hD hS hA [2, 3, 4, 5, 6, 7, 8, 9, 10, 11] (kk_ml 24 rfl (by decide +kernel) (kk_ml 23 rfl (by decide +kernel) (kk_ml 22 rfl (by decide +kernel) (kk_ml 12 rfl (by decide +kernel) (kk_mr (js := [0, 1, 2, 3, 4, 5, 6, 7, 8, 9]) 2 rfl (by decide +kernel) (kk_m0 10 (by decide +kernel) rfl)))))) (by decide +kernel) rfl (by rw [eG6]; exact kk_sl 24 rfl (by decide +kernel) (kk_sl 23 rfl (by decide +kernel) (kk_sl 22 rfl (by decide +kernel) (kk_sl 12 rfl (by decide +kernel) (kk_sr (js := [0, 1, 2, 3, 4, 5, 6, 7, 8, 9]) 2 rfl (by decide +kernel) (kk_s0 10 (by decide +kernel) rfl rfl)))))) rfl rfl rfl rfl rfl hl.1 (Nat.le_of_ble_eq_true rfl) dX4_unbridge_31 (fun H locs hP hD hS => ?_)
  refine lv_iload_n hx hb dX4_unbridge_34 rfl (lv_at hl 0 rfl) ?_
  obtain rfl := Sum.inr.inj (Option.some.inj hR)
  exact kk_ret_i hC hr hlocks hK hP hD hS dX4_unbridge_35 rfl
set_option maxHeartbeats 8000000 in
set_option maxRecDepth 100000 in
theorem sX4_unbridge_th (l : Launch) (hst : l.stackTraces = false) (g : kG) (n : Nat) (a : Nat → Nat → Nat) (h : Nat → Nat → Nat) (G : St2) (V : St2) (v1 : Int32) (k : Nat) (hR : fX4_unbridge n G V v1 = some (.inl k)) : kSt l g yX4_unbridge wsX4_unbridge ({ frames := 7, cells := 1, slots := 6, locals := 111 }) [.ref (a 0 0), .int v1] (w_F g a G ++ w_H g (a 0 2) h V) (w_F g a G ++ w_H g (a 0 2) h V) k := by
  refine kSt.of (cc := cX4_unbridge) (maxL := 3) (ret := (some .int)) (by decide) rfl (Nat.le_of_ble_eq_true rfl) ?_
  intro p e s m args below meth c ls A hC hlocks hno hA hK hG hl hP hD hS
  replace hC : CallFix p m c cX4_unbridge 3 s args wsX4_unbridge RX4 := hC
  obtain ⟨hx, hb, hml, hown, hts⟩ := id hC
  replace hl : lv_has ls 3 [(0, .ref (a 0 0)), (1, .int v1)] := hl
  unfold fX4_unbridge at hR
  have hw2 : ∀ w ∈ wsX20, w ∈ wsX4_unbridge := by decide +kernel
  have hw4 : ∀ w ∈ wsX40, w ∈ wsX4_unbridge := by decide +kernel
  have hl0 := hts (.fieldLink RX4 22 "FloatOrder" "history" "LFloatOrder$History;") (by decide +kernel)
  have hl1 := hts (.fieldLink RX4 10 "FloatOrder" "parade" "LFloatOrder$Parade;") (by decide +kernel)
  have hl2 := hts (.fieldLink RX4 132 "FloatOrder$Parade" "distances" "[I") (by decide +kernel)
  refine lv_aload_n hx hb dX4_unbridge_0 rfl (lv_at hl 0 rfl) ?_
  refine lv_iload_n hx hb dX4_unbridge_1 rfl (lv_at hl 1 rfl) ?_
  obtain ⟨y1, hq2, hR⟩ := kk_bd_el hR
  rcases kk_tr_th hR with ex2 | ⟨x2, ex2, hR⟩
  · subst ex2
    exact kk_callT_V (As := [.int v1]) (rest := []) 0 4 hC (sX4_needBridge_th l hst g n a G v1 k hq2) (cwV 1 hts gX4_unbridge_X4_needBridge rfl rfl rfl (by decide +kernel) ⟨Nat.le_of_ble_eq_true rfl, Nat.le_of_ble_eq_true rfl⟩) hlocks hno hK hG hP hD hS hA [0, 1, 2, 3, 4, 5, 6, 7, 8, 9, 10, 11, 12, 13, 14, 15, 16, 17, 18, 19, 20, 21, 22, 23] (kk_ml 24 rfl (by decide +kernel) (kk_m0 24 (by decide +kernel) rfl)) (by decide +kernel) rfl (kk_sl 24 rfl (by decide +kernel) (kk_s0 24 (by decide +kernel) rfl rfl)) rfl rfl rfl rfl rfl hl.1 (Nat.le_of_ble_eq_true rfl) dX4_unbridge_2 ⟨Nat.le_of_ble_eq_true rfl, Nat.le_of_ble_eq_true rfl⟩
  subst ex2
  refine kk_call_Vv (w' := (w_F g a G ++ w_H g (a 0 2) h V)) (As := [.int v1]) (rest := []) 0 4 hC (sX4_needBridge l g n a G v1 x2 hq2) (cwV 1 hts gX4_unbridge_X4_needBridge rfl rfl rfl (by decide +kernel) ⟨Nat.le_of_ble_eq_true rfl, Nat.le_of_ble_eq_true rfl⟩) hK hP hD hS hA [0, 1, 2, 3, 4, 5, 6, 7, 8, 9, 10, 11, 12, 13, 14, 15, 16, 17, 18, 19, 20, 21, 22, 23] (kk_ml 24 rfl (by decide +kernel) (kk_m0 24 (by decide +kernel) rfl)) (by decide +kernel) rfl (kk_sl 24 rfl (by decide +kernel) (kk_s0 24 (by decide +kernel) rfl rfl)) rfl rfl rfl rfl rfl hl.1 (Nat.le_of_ble_eq_true rfl) dX4_unbridge_2 (fun H locs hP hD hS => ?_)
  refine lv_aload_n hx hb dX4_unbridge_5 rfl (lv_at hl 0 rfl) ?_
  refine va_get (ci := 4) (C := RX4) (T := TX4) (N := 7) hx hb hts hw4 hown hK hP 0 rfl rfl 2 (by decide) hl0 (fun _ h9 => h9) rfl dX4_unbridge_6 ?_
  refine lv_aload_n hx hb dX4_unbridge_9 rfl (lv_at hl 0 rfl) ?_
  refine va_get (ci := 4) (C := RX4) (T := TX4) (N := 7) hx hb hts hw4 hown hK hP 0 rfl rfl 0 (by decide) hl1 (fun _ h9 => h9) rfl dX4_unbridge_10 ?_
  obtain ⟨x3, hq3, hR⟩ := kk_bd_el hR
  refine kk_call_Vv (w' := (w_F g a G ++ w_H g (a 0 2) h x3)) (As := [.ref (a 1 0)]) (rest := []) 24 1 hC (sX1_save l g n (a 0 2) h (a 1) V (G 1)  x3 hq3) (cwV 1 hts gX4_unbridge_X1_save rfl rfl rfl (by decide +kernel) ⟨Nat.le_of_ble_eq_true rfl, Nat.le_of_ble_eq_true rfl⟩) hK hP hD hS hA [24, 25, 26, 27, 28, 29, 30, 31, 32, 33, 34, 35, 36, 37, 38, 39, 40, 41, 42, 43, 44, 45, 46, 47, 48, 49, 50, 51, 52, 53, 54, 55, 56, 57, 58, 59, 60, 61, 62, 63, 64, 65, 66, 67, 68, 69, 70, 71, 72, 73, 74, 75, 76, 77, 78, 79, 80, 81, 82, 83, 84, 85, 2, 3, 4, 5, 6, 7, 8, 9, 10, 11] (kk_m2 (is1 := [24, 25, 26, 27, 28, 29, 30, 31, 32, 33, 34, 35, 36, 37, 38, 39, 40, 41, 42, 43, 44, 45, 46, 47, 48, 49, 50, 51, 52, 53, 54, 55, 56, 57, 58, 59, 60, 61, 62, 63, 64, 65, 66, 67, 68, 69, 70, 71, 72, 73, 74, 75, 76, 77, 78, 79, 80, 81, 82, 83, 84, 85]) rfl (kk_mr (js := [0, 1, 2, 3, 4, 5, 6, 7, 8, 9, 10, 11, 12, 13, 14, 15, 16, 17, 18, 19, 20, 21, 22, 23, 24, 25, 26, 27, 28, 29, 30, 31, 32, 33, 34, 35, 36, 37, 38, 39, 40, 41, 42, 43, 44, 45, 46, 47, 48, 49, 50, 51, 52, 53, 54, 55, 56, 57, 58, 59, 60, 61]) 24 rfl (by decide +kernel) (kk_m0 62 (by decide +kernel) rfl)) (kk_ml 24 rfl (by decide +kernel) (kk_ml 23 rfl (by decide +kernel) (kk_ml 22 rfl (by decide +kernel) (kk_ml 12 rfl (by decide +kernel) (kk_mr (js := [0, 1, 2, 3, 4, 5, 6, 7, 8, 9]) 2 rfl (by decide +kernel) (kk_m0 10 (by decide +kernel) rfl))))))) (by decide +kernel) rfl (kk_set2 (is1 := [24, 25, 26, 27, 28, 29, 30, 31, 32, 33, 34, 35, 36, 37, 38, 39, 40, 41, 42, 43, 44, 45, 46, 47, 48, 49, 50, 51, 52, 53, 54, 55, 56, 57, 58, 59, 60, 61, 62, 63, 64, 65, 66, 67, 68, 69, 70, 71, 72, 73, 74, 75, 76, 77, 78, 79, 80, 81, 82, 83, 84, 85]) rfl rfl (kk_sr (js := [0, 1, 2, 3, 4, 5, 6, 7, 8, 9, 10, 11, 12, 13, 14, 15, 16, 17, 18, 19, 20, 21, 22, 23, 24, 25, 26, 27, 28, 29, 30, 31, 32, 33, 34, 35, 36, 37, 38, 39, 40, 41, 42, 43, 44, 45, 46, 47, 48, 49, 50, 51, 52, 53, 54, 55, 56, 57, 58, 59, 60, 61]) 24 rfl (by decide +kernel) (kk_s0 62 (by decide +kernel) rfl rfl)) (kk_sl 24 rfl (by decide +kernel) (kk_sl 23 rfl (by decide +kernel) (kk_sl 22 rfl (by decide +kernel) (kk_sl 12 rfl (by decide +kernel) (kk_sr (js := [0, 1, 2, 3, 4, 5, 6, 7, 8, 9]) 2 rfl (by decide +kernel) (kk_s0 10 (by decide +kernel) rfl rfl))))))) rfl rfl rfl rfl rfl hl.1 (Nat.le_of_ble_eq_true rfl) dX4_unbridge_13 (fun H locs hP hD hS => ?_)
  refine lv_aload_n hx hb dX4_unbridge_16 rfl (lv_at hl 0 rfl) ?_
  refine va_get (ci := 4) (C := RX4) (T := TX4) (N := 7) hx hb hts hw4 hown hK hP 0 rfl rfl 0 (by decide) hl1 (fun _ h9 => h9) rfl dX4_unbridge_17 ?_
  refine va_get (ci := 2) (C := RX2) (T := TX2) (N := 11) hx hb hts hw2 hown hK hP 2 rfl rfl 6 (by decide) hl2 (fun _ h9 => h9) rfl dX4_unbridge_20 ?_
  refine lv_iload_n hx hb dX4_unbridge_23 rfl (lv_at hl 1 rfl) ?_
  obtain ⟨hi4, hR⟩ := kk_ck_el hR
  refine va_iald hx hb hK hP 7 0 rfl rfl hi4 dX4_unbridge_24 ?_
  refine lv_istore_n (lv' := [(2, .int ((G 1 6) v1.toNatClampNeg)), (0, .ref (a 0 0)), (1, .int v1)]) hx hb dX4_unbridge_25 rfl hl (by decide) rfl (fun ls hl => ?_)
  refine lv_aload_n hx hb dX4_unbridge_26 rfl (lv_at hl 1 rfl) ?_
  refine va_get (ci := 4) (C := RX4) (T := TX4) (N := 7) hx hb hts hw4 hown hK hP 0 rfl rfl 0 (by decide) hl1 (fun _ h9 => h9) rfl dX4_unbridge_27 ?_
  refine lv_iload_n hx hb dX4_unbridge_30 rfl (lv_at hl 2 rfl) ?_
  obtain ⟨x5, hq5, hR⟩ := kk_bd_el hR
  obtain ⟨G6, eG6, hR⟩ := kk_nm_el hR
  refine kk_call_Vv (w' := (w_F g a G6 ++ w_H g (a 0 2) h x3)) (As := [.int v1]) (rest := []) 2 2 hC (sX2_pullDown l g n (a 1) (G 1) v1 x5 hq5) (cwV 1 hts gX4_unbridge_X2_pullDown rfl rfl rfl (by decide +kernel) ⟨Nat.le_of_ble_eq_true rfl, Nat.le_of_ble_eq_true rfl⟩) hK hP hD hS hA [2, 3, 4, 5, 6, 7, 8, 9, 10, 11] (kk_ml 24 rfl (by decide +kernel) (kk_ml 23 rfl (by decide +kernel) (kk_ml 22 rfl (by decide +kernel) (kk_ml 12 rfl (by decide +kernel) (kk_mr (js := [0, 1, 2, 3, 4, 5, 6, 7, 8, 9]) 2 rfl (by decide +kernel) (kk_m0 10 (by decide +kernel) rfl)))))) (by decide +kernel) rfl (by rw [eG6]; exact kk_sl 24 rfl (by decide +kernel) (kk_sl 23 rfl (by decide +kernel) (kk_sl 22 rfl (by decide +kernel) (kk_sl 12 rfl (by decide +kernel) (kk_sr (js := [0, 1, 2, 3, 4, 5, 6, 7, 8, 9]) 2 rfl (by decide +kernel) (kk_s0 10 (by decide +kernel) rfl rfl)))))) rfl rfl rfl rfl rfl hl.1 (Nat.le_of_ble_eq_true rfl) dX4_unbridge_31 (fun H locs hP hD hS => ?_)
  refine lv_iload_n hx hb dX4_unbridge_34 rfl (lv_at hl 0 rfl) ?_
  cases hR
set_option maxHeartbeats 8000000 in
set_option maxRecDepth 100000 in
theorem sX4_set (l : Launch) (g : kG) (n : Nat) (a : Nat → Nat → Nat) (h : Nat → Nat → Nat) (G : St2) (V : St2) (v1 : Int32) (v2 : Int32) (r : Int32 × St2 × St2) (hR : fX4_set n G V v1 v2 = some (.inr r)) : kSg l g yX4_set wsX4_set ({ frames := 2, cells := 0, slots := 0, locals := 43 }) [.ref (a 0 0), .int v1, .int v2] (w_F g a G ++ w_H g (a 0 2) h V) (kQi g (w_F g a r.2.1 ++ w_H g (a 0 2) h r.2.2) r.1) := by
  refine kSg.of (cc := cX4_set) (maxL := 4) (ret := (some .int)) (by decide) rfl (Nat.le_of_ble_eq_true rfl) ?_
  intro p e s m args below meth c ls A hC hr hlocks hA hK hG hl hP hD hS
  replace hC : CallFix p m c cX4_set 4 s args wsX4_set RX4 := hC
  obtain ⟨hx, hb, hml, hown, hts⟩ := id hC
  replace hl : lv_has ls 4 [(0, .ref (a 0 0)), (1, .int v1), (2, .int v2)] := hl
  unfold fX4_set at hR
  have hw2 : ∀ w ∈ wsX20, w ∈ wsX4_set := by decide +kernel
  have hw4 : ∀ w ∈ wsX40, w ∈ wsX4_set := by decide +kernel
  have hl0 := hts (.fieldLink RX4 141 "FloatOrder" "LEAST_SETTINGS" "[I") (by decide +kernel)
  have hl1 := hts (.fieldLink RX4 144 "FloatOrder" "GREATEST_SETTINGS" "[I") (by decide +kernel)
  have hl2 := hts (.fieldLink RX4 22 "FloatOrder" "history" "LFloatOrder$History;") (by decide +kernel)
  have hl3 := hts (.fieldLink RX4 10 "FloatOrder" "parade" "LFloatOrder$Parade;") (by decide +kernel)
  have hl4 := hts (.fieldLink RX4 149 "FloatOrder$Parade" "settings" "[I") (by decide +kernel)
  refine lv_iload_n hx hb dX4_set_0 rfl (lv_at hl 1 rfl) ?_
  obtain ⟨y1, hq2, hR⟩ := kk_bd_el hR
  obtain ⟨x2, ex2, hR⟩ := kk_tr_ok hR
  subst ex2
  refine kk_call_Sv (w' := (w_F g a G ++ w_H g (a 0 2) h V)) (As := [.int v1]) (rest := []) hC (sX4_needSetting l g n   v1 x2 hq2) (va_cwS 1 hts gX4_set_X4_needSetting rfl rfl rfl (by decide +kernel) ⟨Nat.le_of_ble_eq_true rfl, Nat.le_of_ble_eq_true rfl⟩) hK hP hD hS hA [] rfl (by decide +kernel) rfl rfl rfl rfl hl.1 (Nat.le_of_ble_eq_true rfl) dX4_set_1 (fun H locs hP hD hS => ?_)
  refine lv_iload_n hx hb dX4_set_4 rfl (lv_at hl 2 rfl) ?_
  refine kk_gets (nm := "LEAST_SETTINGS") (f := k_lo) hC hS hG.2.1.1 hl0 dX4_set_5 (fun t3 hTt3 => ?_)
  refine lv_iload_n hx hb dX4_set_8 rfl (lv_at hl 1 rfl) ?_
  obtain ⟨hi4, hR⟩ := kk_ck_el hR
  refine va_ti hx hb hTt3 hS hi4 (v := .int (k_lo v1.toNatClampNeg)) rfl dX4_set_9 ?_
  refine lv_icmp_lt (tgt := 22) hx hb dX4_set_10 (by decide) (fun c5 => ?_) (fun c5 => ?_)
  · replace hR := (if_pos c5).symm.trans hR
    cases hR
  · replace hR := (if_neg c5).symm.trans hR
    refine lv_iload_n hx hb dX4_set_13 rfl (lv_at hl 2 rfl) ?_
    refine kk_gets (nm := "GREATEST_SETTINGS") (f := k_hi) hC hS hG.2.1.2 hl1 dX4_set_14 (fun t6 hTt6 => ?_)
    refine lv_iload_n hx hb dX4_set_17 rfl (lv_at hl 1 rfl) ?_
    obtain ⟨hi7, hR⟩ := kk_ck_el hR
    refine va_ti hx hb hTt6 hS hi7 (v := .int (k_hi v1.toNatClampNeg)) rfl dX4_set_18 ?_
    refine lv_icmp_le (tgt := 32) hx hb dX4_set_19 (by decide) (fun c8 => ?_) (fun c8 => ?_)
    · replace hR := (if_pos c8).symm.trans hR
      refine lv_aload_n hx hb dX4_set_32 rfl (lv_at hl 0 rfl) ?_
      refine va_get (ci := 4) (C := RX4) (T := TX4) (N := 7) hx hb hts hw4 hown hK hP 0 rfl rfl 2 (by decide) hl2 (fun _ h9 => h9) rfl dX4_set_33 ?_
      refine lv_aload_n hx hb dX4_set_36 rfl (lv_at hl 0 rfl) ?_
      refine va_get (ci := 4) (C := RX4) (T := TX4) (N := 7) hx hb hts hw4 hown hK hP 0 rfl rfl 0 (by decide) hl3 (fun _ h9 => h9) rfl dX4_set_37 ?_
      obtain ⟨x9, hq9, hR⟩ := kk_bd_el hR
      refine kk_call_Vv (w' := (w_F g a G ++ w_H g (a 0 2) h x9)) (As := [.ref (a 1 0)]) (rest := []) 24 1 hC (sX1_save l g n (a 0 2) h (a 1) V (G 1)  x9 hq9) (cwV 1 hts gX4_set_X1_save rfl rfl rfl (by decide +kernel) ⟨Nat.le_of_ble_eq_true rfl, Nat.le_of_ble_eq_true rfl⟩) hK hP hD hS hA [24, 25, 26, 27, 28, 29, 30, 31, 32, 33, 34, 35, 36, 37, 38, 39, 40, 41, 42, 43, 44, 45, 46, 47, 48, 49, 50, 51, 52, 53, 54, 55, 56, 57, 58, 59, 60, 61, 62, 63, 64, 65, 66, 67, 68, 69, 70, 71, 72, 73, 74, 75, 76, 77, 78, 79, 80, 81, 82, 83, 84, 85, 2, 3, 4, 5, 6, 7, 8, 9, 10, 11] (kk_m2 (is1 := [24, 25, 26, 27, 28, 29, 30, 31, 32, 33, 34, 35, 36, 37, 38, 39, 40, 41, 42, 43, 44, 45, 46, 47, 48, 49, 50, 51, 52, 53, 54, 55, 56, 57, 58, 59, 60, 61, 62, 63, 64, 65, 66, 67, 68, 69, 70, 71, 72, 73, 74, 75, 76, 77, 78, 79, 80, 81, 82, 83, 84, 85]) rfl (kk_mr (js := [0, 1, 2, 3, 4, 5, 6, 7, 8, 9, 10, 11, 12, 13, 14, 15, 16, 17, 18, 19, 20, 21, 22, 23, 24, 25, 26, 27, 28, 29, 30, 31, 32, 33, 34, 35, 36, 37, 38, 39, 40, 41, 42, 43, 44, 45, 46, 47, 48, 49, 50, 51, 52, 53, 54, 55, 56, 57, 58, 59, 60, 61]) 24 rfl (by decide +kernel) (kk_m0 62 (by decide +kernel) rfl)) (kk_ml 24 rfl (by decide +kernel) (kk_ml 23 rfl (by decide +kernel) (kk_ml 22 rfl (by decide +kernel) (kk_ml 12 rfl (by decide +kernel) (kk_mr (js := [0, 1, 2, 3, 4, 5, 6, 7, 8, 9]) 2 rfl (by decide +kernel) (kk_m0 10 (by decide +kernel) rfl))))))) (by decide +kernel) rfl (kk_set2 (is1 := [24, 25, 26, 27, 28, 29, 30, 31, 32, 33, 34, 35, 36, 37, 38, 39, 40, 41, 42, 43, 44, 45, 46, 47, 48, 49, 50, 51, 52, 53, 54, 55, 56, 57, 58, 59, 60, 61, 62, 63, 64, 65, 66, 67, 68, 69, 70, 71, 72, 73, 74, 75, 76, 77, 78, 79, 80, 81, 82, 83, 84, 85]) rfl rfl (kk_sr (js := [0, 1, 2, 3, 4, 5, 6, 7, 8, 9, 10, 11, 12, 13, 14, 15, 16, 17, 18, 19, 20, 21, 22, 23, 24, 25, 26, 27, 28, 29, 30, 31, 32, 33, 34, 35, 36, 37, 38, 39, 40, 41, 42, 43, 44, 45, 46, 47, 48, 49, 50, 51, 52, 53, 54, 55, 56, 57, 58, 59, 60, 61]) 24 rfl (by decide +kernel) (kk_s0 62 (by decide +kernel) rfl rfl)) (kk_sl 24 rfl (by decide +kernel) (kk_sl 23 rfl (by decide +kernel) (kk_sl 22 rfl (by decide +kernel) (kk_sl 12 rfl (by decide +kernel) (kk_sr (js := [0, 1, 2, 3, 4, 5, 6, 7, 8, 9]) 2 rfl (by decide +kernel) (kk_s0 10 (by decide +kernel) rfl rfl))))))) rfl rfl rfl rfl rfl hl.1 (Nat.le_of_ble_eq_true rfl) dX4_set_40 (fun H locs hP hD hS => ?_)
      refine lv_aload_n hx hb dX4_set_43 rfl (lv_at hl 0 rfl) ?_
      refine va_get (ci := 4) (C := RX4) (T := TX4) (N := 7) hx hb hts hw4 hown hK hP 0 rfl rfl 0 (by decide) hl3 (fun _ h9 => h9) rfl dX4_set_44 ?_
      refine va_get (ci := 2) (C := RX2) (T := TX2) (N := 11) hx hb hts hw2 hown hK hP 2 rfl rfl 8 (by decide) hl4 (fun _ h9 => h9) rfl dX4_set_47 ?_
      refine lv_iload_n hx hb dX4_set_50 rfl (lv_at hl 1 rfl) ?_
      obtain ⟨hi10, hR⟩ := kk_ck_el hR
      refine va_iald hx hb hK hP 9 0 rfl rfl hi10 dX4_set_51 ?_
      refine lv_istore_n (lv' := [(3, .int ((G 1 8) v1.toNatClampNeg)), (0, .ref (a 0 0)), (1, .int v1), (2, .int v2)]) hx hb dX4_set_52 rfl hl (by decide) rfl (fun ls hl => ?_)
      refine lv_aload_n hx hb dX4_set_53 rfl (lv_at hl 1 rfl) ?_
      refine va_get (ci := 4) (C := RX4) (T := TX4) (N := 7) hx hb hts hw4 hown hK hP 0 rfl rfl 0 (by decide) hl3 (fun _ h9 => h9) rfl dX4_set_54 ?_
      refine va_get (ci := 2) (C := RX2) (T := TX2) (N := 11) hx hb hts hw2 hown hK hP 2 rfl rfl 8 (by decide) hl4 (fun _ h9 => h9) rfl dX4_set_57 ?_
      refine lv_iload_n hx hb dX4_set_60 rfl (lv_at hl 2 rfl) ?_
      refine lv_iload_n hx hb dX4_set_61 rfl (lv_at hl 3 rfl) ?_
      obtain ⟨hi12, hR⟩ := kk_ck_el hR
      obtain ⟨G11, eG11, hR⟩ := kk_nm_el hR
      refine kk_iast (w' := (w_F g a G11 ++ w_H g (a 0 2) h x9)) hC hK hP hD hS 9 rfl hi12 (by rw [eG11]; rfl) dX4_set_62 (fun H locs hP hD hS => ?_)
      refine lv_iload_n hx hb dX4_set_63 rfl (lv_at hl 0 rfl) ?_
      obtain rfl := Sum.inr.inj (Option.some.inj hR)
      exact kk_ret_i hC hr hlocks hK hP hD hS dX4_set_64 rfl
    · replace hR := (if_neg c8).symm.trans hR
      cases hR
set_option maxHeartbeats 8000000 in
set_option maxRecDepth 100000 in
theorem sX4_set_th (l : Launch) (hst : l.stackTraces = false) (g : kG) (n : Nat) (a : Nat → Nat → Nat) (h : Nat → Nat → Nat) (G : St2) (V : St2) (v1 : Int32) (v2 : Int32) (k : Nat) (hR : fX4_set n G V v1 v2 = some (.inl k)) : kSt l g yX4_set wsX4_set ({ frames := 7, cells := 1, slots := 6, locals := 110 }) [.ref (a 0 0), .int v1, .int v2] (w_F g a G ++ w_H g (a 0 2) h V) (w_F g a G ++ w_H g (a 0 2) h V) k := by
  refine kSt.of (cc := cX4_set) (maxL := 4) (ret := (some .int)) (by decide) rfl (Nat.le_of_ble_eq_true rfl) ?_
  intro p e s m args below meth c ls A hC hlocks hno hA hK hG hl hP hD hS
  replace hC : CallFix p m c cX4_set 4 s args wsX4_set RX4 := hC
  obtain ⟨hx, hb, hml, hown, hts⟩ := id hC
  replace hl : lv_has ls 4 [(0, .ref (a 0 0)), (1, .int v1), (2, .int v2)] := hl
  unfold fX4_set at hR
  have hw2 : ∀ w ∈ wsX20, w ∈ wsX4_set := by decide +kernel
  have hw4 : ∀ w ∈ wsX40, w ∈ wsX4_set := by decide +kernel
  have hl0 := hts (.fieldLink RX4 141 "FloatOrder" "LEAST_SETTINGS" "[I") (by decide +kernel)
  have hl1 := hts (.classLink RX4 62 "java/lang/IllegalArgumentException") (by decide +kernel)
  have hl2 := hts (.initialized "java/lang/IllegalArgumentException") (by decide +kernel)
  have hl3 := hts (.fieldLink RX4 144 "FloatOrder" "GREATEST_SETTINGS" "[I") (by decide +kernel)
  have hl4 := hts (.fieldLink RX4 22 "FloatOrder" "history" "LFloatOrder$History;") (by decide +kernel)
  have hl5 := hts (.fieldLink RX4 10 "FloatOrder" "parade" "LFloatOrder$Parade;") (by decide +kernel)
  have hl6 := hts (.fieldLink RX4 149 "FloatOrder$Parade" "settings" "[I") (by decide +kernel)
  refine lv_iload_n hx hb dX4_set_0 rfl (lv_at hl 1 rfl) ?_
  obtain ⟨y1, hq2, hR⟩ := kk_bd_el hR
  rcases kk_tr_th hR with ex2 | ⟨x2, ex2, hR⟩
  · subst ex2
    exact kk_callT_S (As := [.int v1]) (rest := []) hC (sX4_needSetting_th l hst g n   v1 k hq2) (va_cwS 1 hts gX4_set_X4_needSetting rfl rfl rfl (by decide +kernel) ⟨Nat.le_of_ble_eq_true rfl, Nat.le_of_ble_eq_true rfl⟩) hlocks hno hK hG hP hD hS hA [] rfl (by decide +kernel) rfl rfl rfl rfl hl.1 (Nat.le_of_ble_eq_true rfl) dX4_set_1 ⟨Nat.le_of_ble_eq_true rfl, Nat.le_of_ble_eq_true rfl⟩
  subst ex2
  refine kk_call_Sv (w' := (w_F g a G ++ w_H g (a 0 2) h V)) (As := [.int v1]) (rest := []) hC (sX4_needSetting l g n   v1 x2 hq2) (va_cwS 1 hts gX4_set_X4_needSetting rfl rfl rfl (by decide +kernel) ⟨Nat.le_of_ble_eq_true rfl, Nat.le_of_ble_eq_true rfl⟩) hK hP hD hS hA [] rfl (by decide +kernel) rfl rfl rfl rfl hl.1 (Nat.le_of_ble_eq_true rfl) dX4_set_1 (fun H locs hP hD hS => ?_)
  refine lv_iload_n hx hb dX4_set_4 rfl (lv_at hl 2 rfl) ?_
  refine kk_gets (nm := "LEAST_SETTINGS") (f := k_lo) hC hS hG.2.1.1 hl0 dX4_set_5 (fun t3 hTt3 => ?_)
  refine lv_iload_n hx hb dX4_set_8 rfl (lv_at hl 1 rfl) ?_
  obtain ⟨hi4, hR⟩ := kk_ck_el hR
  refine va_ti hx hb hTt3 hS hi4 (v := .int (k_lo v1.toNatClampNeg)) rfl dX4_set_9 ?_
  refine lv_icmp_lt (tgt := 22) hx hb dX4_set_10 (by decide) (fun c5 => ?_) (fun c5 => ?_)
  · replace hR := (if_pos c5).symm.trans hR
    obtain rfl := Sum.inl.inj (Option.some.inj hR)
    exact kk_throw (names := ["java/lang/RuntimeException", "java/lang/Exception"]) (text := "value is out of range") (k := 2) hC hst hlocks hno hK hG hP hD hS hA rfl rfl (by decide +kernel) (by decide +kernel) (by decide +kernel) hl1 hl2 (by decide +kernel) (by decide +kernel) (by decide +kernel) hl.1 dX4_set_22 dX4_set_25 dX4_set_26 dX4_set_28 dX4_set_31 ⟨Nat.le_of_ble_eq_true rfl, Nat.le_of_ble_eq_true rfl, Nat.le_of_ble_eq_true rfl, Nat.le_of_ble_eq_true rfl⟩
  · replace hR := (if_neg c5).symm.trans hR
    refine lv_iload_n hx hb dX4_set_13 rfl (lv_at hl 2 rfl) ?_
    refine kk_gets (nm := "GREATEST_SETTINGS") (f := k_hi) hC hS hG.2.1.2 hl3 dX4_set_14 (fun t6 hTt6 => ?_)
    refine lv_iload_n hx hb dX4_set_17 rfl (lv_at hl 1 rfl) ?_
    obtain ⟨hi7, hR⟩ := kk_ck_el hR
    refine va_ti hx hb hTt6 hS hi7 (v := .int (k_hi v1.toNatClampNeg)) rfl dX4_set_18 ?_
    refine lv_icmp_le (tgt := 32) hx hb dX4_set_19 (by decide) (fun c8 => ?_) (fun c8 => ?_)
    · replace hR := (if_pos c8).symm.trans hR
      refine lv_aload_n hx hb dX4_set_32 rfl (lv_at hl 0 rfl) ?_
      refine va_get (ci := 4) (C := RX4) (T := TX4) (N := 7) hx hb hts hw4 hown hK hP 0 rfl rfl 2 (by decide) hl4 (fun _ h9 => h9) rfl dX4_set_33 ?_
      refine lv_aload_n hx hb dX4_set_36 rfl (lv_at hl 0 rfl) ?_
      refine va_get (ci := 4) (C := RX4) (T := TX4) (N := 7) hx hb hts hw4 hown hK hP 0 rfl rfl 0 (by decide) hl5 (fun _ h9 => h9) rfl dX4_set_37 ?_
      obtain ⟨x9, hq9, hR⟩ := kk_bd_el hR
      refine kk_call_Vv (w' := (w_F g a G ++ w_H g (a 0 2) h x9)) (As := [.ref (a 1 0)]) (rest := []) 24 1 hC (sX1_save l g n (a 0 2) h (a 1) V (G 1)  x9 hq9) (cwV 1 hts gX4_set_X1_save rfl rfl rfl (by decide +kernel) ⟨Nat.le_of_ble_eq_true rfl, Nat.le_of_ble_eq_true rfl⟩) hK hP hD hS hA [24, 25, 26, 27, 28, 29, 30, 31, 32, 33, 34, 35, 36, 37, 38, 39, 40, 41, 42, 43, 44, 45, 46, 47, 48, 49, 50, 51, 52, 53, 54, 55, 56, 57, 58, 59, 60, 61, 62, 63, 64, 65, 66, 67, 68, 69, 70, 71, 72, 73, 74, 75, 76, 77, 78, 79, 80, 81, 82, 83, 84, 85, 2, 3, 4, 5, 6, 7, 8, 9, 10, 11] (kk_m2 (is1 := [24, 25, 26, 27, 28, 29, 30, 31, 32, 33, 34, 35, 36, 37, 38, 39, 40, 41, 42, 43, 44, 45, 46, 47, 48, 49, 50, 51, 52, 53, 54, 55, 56, 57, 58, 59, 60, 61, 62, 63, 64, 65, 66, 67, 68, 69, 70, 71, 72, 73, 74, 75, 76, 77, 78, 79, 80, 81, 82, 83, 84, 85]) rfl (kk_mr (js := [0, 1, 2, 3, 4, 5, 6, 7, 8, 9, 10, 11, 12, 13, 14, 15, 16, 17, 18, 19, 20, 21, 22, 23, 24, 25, 26, 27, 28, 29, 30, 31, 32, 33, 34, 35, 36, 37, 38, 39, 40, 41, 42, 43, 44, 45, 46, 47, 48, 49, 50, 51, 52, 53, 54, 55, 56, 57, 58, 59, 60, 61]) 24 rfl (by decide +kernel) (kk_m0 62 (by decide +kernel) rfl)) (kk_ml 24 rfl (by decide +kernel) (kk_ml 23 rfl (by decide +kernel) (kk_ml 22 rfl (by decide +kernel) (kk_ml 12 rfl (by decide +kernel) (kk_mr (js := [0, 1, 2, 3, 4, 5, 6, 7, 8, 9]) 2 rfl (by decide +kernel) (kk_m0 10 (by decide +kernel) rfl))))))) (by decide +kernel) rfl (kk_set2 (is1 := [24, 25, 26, 27, 28, 29, 30, 31, 32, 33, 34, 35, 36, 37, 38, 39, 40, 41, 42, 43, 44, 45, 46, 47, 48, 49, 50, 51, 52, 53, 54, 55, 56, 57, 58, 59, 60, 61, 62, 63, 64, 65, 66, 67, 68, 69, 70, 71, 72, 73, 74, 75, 76, 77, 78, 79, 80, 81, 82, 83, 84, 85]) rfl rfl (kk_sr (js := [0, 1, 2, 3, 4, 5, 6, 7, 8, 9, 10, 11, 12, 13, 14, 15, 16, 17, 18, 19, 20, 21, 22, 23, 24, 25, 26, 27, 28, 29, 30, 31, 32, 33, 34, 35, 36, 37, 38, 39, 40, 41, 42, 43, 44, 45, 46, 47, 48, 49, 50, 51, 52, 53, 54, 55, 56, 57, 58, 59, 60, 61]) 24 rfl (by decide +kernel) (kk_s0 62 (by decide +kernel) rfl rfl)) (kk_sl 24 rfl (by decide +kernel) (kk_sl 23 rfl (by decide +kernel) (kk_sl 22 rfl (by decide +kernel) (kk_sl 12 rfl (by decide +kernel) (kk_sr (js := [0, 1, 2, 3, 4, 5, 6, 7, 8, 9]) 2 rfl (by decide +kernel) (kk_s0 10 (by decide +kernel) rfl rfl))))))) rfl rfl rfl rfl rfl hl.1 (Nat.le_of_ble_eq_true rfl) dX4_set_40 (fun H locs hP hD hS => ?_)
      refine lv_aload_n hx hb dX4_set_43 rfl (lv_at hl 0 rfl) ?_
      refine va_get (ci := 4) (C := RX4) (T := TX4) (N := 7) hx hb hts hw4 hown hK hP 0 rfl rfl 0 (by decide) hl5 (fun _ h9 => h9) rfl dX4_set_44 ?_
      refine va_get (ci := 2) (C := RX2) (T := TX2) (N := 11) hx hb hts hw2 hown hK hP 2 rfl rfl 8 (by decide) hl6 (fun _ h9 => h9) rfl dX4_set_47 ?_
      refine lv_iload_n hx hb dX4_set_50 rfl (lv_at hl 1 rfl) ?_
      obtain ⟨hi10, hR⟩ := kk_ck_el hR
      refine va_iald hx hb hK hP 9 0 rfl rfl hi10 dX4_set_51 ?_
      refine lv_istore_n (lv' := [(3, .int ((G 1 8) v1.toNatClampNeg)), (0, .ref (a 0 0)), (1, .int v1), (2, .int v2)]) hx hb dX4_set_52 rfl hl (by decide) rfl (fun ls hl => ?_)
      refine lv_aload_n hx hb dX4_set_53 rfl (lv_at hl 1 rfl) ?_
      refine va_get (ci := 4) (C := RX4) (T := TX4) (N := 7) hx hb hts hw4 hown hK hP 0 rfl rfl 0 (by decide) hl5 (fun _ h9 => h9) rfl dX4_set_54 ?_
      refine va_get (ci := 2) (C := RX2) (T := TX2) (N := 11) hx hb hts hw2 hown hK hP 2 rfl rfl 8 (by decide) hl6 (fun _ h9 => h9) rfl dX4_set_57 ?_
      refine lv_iload_n hx hb dX4_set_60 rfl (lv_at hl 2 rfl) ?_
      refine lv_iload_n hx hb dX4_set_61 rfl (lv_at hl 3 rfl) ?_
      obtain ⟨hi12, hR⟩ := kk_ck_el hR
      obtain ⟨G11, eG11, hR⟩ := kk_nm_el hR
      refine kk_iast (w' := (w_F g a G11 ++ w_H g (a 0 2) h x9)) hC hK hP hD hS 9 rfl hi12 (by rw [eG11]; rfl) dX4_set_62 (fun H locs hP hD hS => ?_)
      refine lv_iload_n hx hb dX4_set_63 rfl (lv_at hl 0 rfl) ?_
      cases hR
    · replace hR := (if_neg c8).symm.trans hR
      obtain rfl := Sum.inl.inj (Option.some.inj hR)
      exact kk_throw (names := ["java/lang/RuntimeException", "java/lang/Exception"]) (text := "value is out of range") (k := 2) hC hst hlocks hno hK hG hP hD hS hA rfl rfl (by decide +kernel) (by decide +kernel) (by decide +kernel) hl1 hl2 (by decide +kernel) (by decide +kernel) (by decide +kernel) hl.1 dX4_set_22 dX4_set_25 dX4_set_26 dX4_set_28 dX4_set_31 ⟨Nat.le_of_ble_eq_true rfl, Nat.le_of_ble_eq_true rfl, Nat.le_of_ble_eq_true rfl, Nat.le_of_ble_eq_true rfl⟩
set_option maxHeartbeats 8000000 in
set_option maxRecDepth 100000 in
theorem sX4_undo (l : Launch) (g : kG) (n : Nat) (a : Nat → Nat → Nat) (h : Nat → Nat → Nat) (G : St2) (V : St2) (r : Int32 × St2 × St2) (hR : fX4_undo n G V = some (.inr r)) : kSp l g yX4_undo wsX4_undo ({ frames := 2, cells := 0, slots := 0, locals := 43 }) [.ref (a 0 0)] (w_F g a G ++ w_H g (a 0 2) h V) (kQi g (w_F g a r.2.1 ++ w_H g (a 0 2) h r.2.2) r.1) := by
  refine kSp.of (cc := cX4_undo) (maxL := 1) (ret := (some .int)) (by decide) rfl (Nat.le_of_ble_eq_true rfl) ?_
  intro p e s m args below meth c ls A hC hr hlocks hA hK hl hP hD hS
  replace hC : CallFix p m c cX4_undo 1 s args wsX4_undo RX4 := hC
  obtain ⟨hx, hb, hml, hown, hts⟩ := id hC
  replace hl : lv_has ls 1 [(0, .ref (a 0 0))] := hl
  unfold fX4_undo at hR
  have hw1 : ∀ w ∈ wsX10, w ∈ wsX4_undo := by decide +kernel
  have hw4 : ∀ w ∈ wsX40, w ∈ wsX4_undo := by decide +kernel
  have hl0 := hts (.fieldLink RX4 22 "FloatOrder" "history" "LFloatOrder$History;") (by decide +kernel)
  have hl1 := hts (.fieldLink RX4 172 "FloatOrder$History" "size" "I") (by decide +kernel)
  have hl2 := hts (.fieldLink RX4 10 "FloatOrder" "parade" "LFloatOrder$Parade;") (by decide +kernel)
  refine lv_aload_n hx hb dX4_undo_0 rfl (lv_at hl 0 rfl) ?_
  refine va_get (ci := 4) (C := RX4) (T := TX4) (N := 7) hx hb hts hw4 hown hK hP 0 rfl rfl 2 (by decide) hl0 (fun _ h9 => h9) rfl dX4_undo_1 ?_
  refine va_get (ci := 1) (C := RX1) (T := TX1) (N := 2) hx hb hts hw1 hown hK hP 24 rfl rfl 1 (by decide) hl1 (fun _ h9 => h9) rfl dX4_undo_4 ?_
  refine lv_if_gt (tgt := 20) hx hb dX4_undo_7 (by decide) (fun c1 => ?_) (fun c1 => ?_)
  · replace hR := (if_pos c1).symm.trans hR
    refine lv_aload_n hx hb dX4_undo_20 rfl (lv_at hl 0 rfl) ?_
    refine va_get (ci := 4) (C := RX4) (T := TX4) (N := 7) hx hb hts hw4 hown hK hP 0 rfl rfl 2 (by decide) hl0 (fun _ h9 => h9) rfl dX4_undo_21 ?_
    refine lv_aload_n hx hb dX4_undo_24 rfl (lv_at hl 0 rfl) ?_
    refine va_get (ci := 4) (C := RX4) (T := TX4) (N := 7) hx hb hts hw4 hown hK hP 0 rfl rfl 0 (by decide) hl2 (fun _ h9 => h9) rfl dX4_undo_25 ?_
    obtain ⟨x2, hq2, hR⟩ := kk_bd_el hR
    obtain ⟨G3, eG3, hR⟩ := kk_nm_el hR
    refine kk_call_Vv (w' := (w_F g a G3 ++ w_H g (a 0 2) h x2.1)) (As := [.ref (a 1 0)]) (rest := []) 24 1 hC (sX1_restoreLatest l g n (a 0 2) h (a 1) V (G 1)  x2 hq2) (cwV 1 hts gX4_undo_X1_restoreLatest rfl rfl rfl (by decide +kernel) ⟨Nat.le_of_ble_eq_true rfl, Nat.le_of_ble_eq_true rfl⟩) hK hP hD hS hA [24, 25, 26, 27, 28, 29, 30, 31, 32, 33, 34, 35, 36, 37, 38, 39, 40, 41, 42, 43, 44, 45, 46, 47, 48, 49, 50, 51, 52, 53, 54, 55, 56, 57, 58, 59, 60, 61, 62, 63, 64, 65, 66, 67, 68, 69, 70, 71, 72, 73, 74, 75, 76, 77, 78, 79, 80, 81, 82, 83, 84, 85, 2, 3, 4, 5, 6, 7, 8, 9, 10, 11] (kk_m2 (is1 := [24, 25, 26, 27, 28, 29, 30, 31, 32, 33, 34, 35, 36, 37, 38, 39, 40, 41, 42, 43, 44, 45, 46, 47, 48, 49, 50, 51, 52, 53, 54, 55, 56, 57, 58, 59, 60, 61, 62, 63, 64, 65, 66, 67, 68, 69, 70, 71, 72, 73, 74, 75, 76, 77, 78, 79, 80, 81, 82, 83, 84, 85]) rfl (kk_mr (js := [0, 1, 2, 3, 4, 5, 6, 7, 8, 9, 10, 11, 12, 13, 14, 15, 16, 17, 18, 19, 20, 21, 22, 23, 24, 25, 26, 27, 28, 29, 30, 31, 32, 33, 34, 35, 36, 37, 38, 39, 40, 41, 42, 43, 44, 45, 46, 47, 48, 49, 50, 51, 52, 53, 54, 55, 56, 57, 58, 59, 60, 61]) 24 rfl (by decide +kernel) (kk_m0 62 (by decide +kernel) rfl)) (kk_ml 24 rfl (by decide +kernel) (kk_ml 23 rfl (by decide +kernel) (kk_ml 22 rfl (by decide +kernel) (kk_ml 12 rfl (by decide +kernel) (kk_mr (js := [0, 1, 2, 3, 4, 5, 6, 7, 8, 9]) 2 rfl (by decide +kernel) (kk_m0 10 (by decide +kernel) rfl))))))) (by decide +kernel) rfl (by rw [eG3]; exact kk_set2 (is1 := [24, 25, 26, 27, 28, 29, 30, 31, 32, 33, 34, 35, 36, 37, 38, 39, 40, 41, 42, 43, 44, 45, 46, 47, 48, 49, 50, 51, 52, 53, 54, 55, 56, 57, 58, 59, 60, 61, 62, 63, 64, 65, 66, 67, 68, 69, 70, 71, 72, 73, 74, 75, 76, 77, 78, 79, 80, 81, 82, 83, 84, 85]) rfl rfl (kk_sr (js := [0, 1, 2, 3, 4, 5, 6, 7, 8, 9, 10, 11, 12, 13, 14, 15, 16, 17, 18, 19, 20, 21, 22, 23, 24, 25, 26, 27, 28, 29, 30, 31, 32, 33, 34, 35, 36, 37, 38, 39, 40, 41, 42, 43, 44, 45, 46, 47, 48, 49, 50, 51, 52, 53, 54, 55, 56, 57, 58, 59, 60, 61]) 24 rfl (by decide +kernel) (kk_s0 62 (by decide +kernel) rfl rfl)) (kk_sl 24 rfl (by decide +kernel) (kk_sl 23 rfl (by decide +kernel) (kk_sl 22 rfl (by decide +kernel) (kk_sl 12 rfl (by decide +kernel) (kk_sr (js := [0, 1, 2, 3, 4, 5, 6, 7, 8, 9]) 2 rfl (by decide +kernel) (kk_s0 10 (by decide +kernel) rfl rfl))))))) rfl rfl rfl rfl rfl hl.1 (Nat.le_of_ble_eq_true rfl) dX4_undo_28 (fun H locs hP hD hS => ?_)
    refine lv_aload_n hx hb dX4_undo_31 rfl (lv_at hl 0 rfl) ?_
    refine va_get (ci := 4) (C := RX4) (T := TX4) (N := 7) hx hb hts hw4 hown hK hP 0 rfl rfl 2 (by decide) hl0 (fun _ h9 => h9) rfl dX4_undo_32 ?_
    refine va_get (ci := 1) (C := RX1) (T := TX1) (N := 2) hx hb hts hw1 hown hK hP 24 rfl rfl 1 (by decide) hl1 (fun _ h9 => h9) rfl dX4_undo_35 ?_
    obtain rfl := Sum.inr.inj (Option.some.inj hR)
    exact kk_ret_i hC hr hlocks hK hP hD hS dX4_undo_38 rfl
  · replace hR := (if_neg c1).symm.trans hR
    cases hR
set_option maxHeartbeats 8000000 in
set_option maxRecDepth 100000 in
theorem sX4_undo_th (l : Launch) (hst : l.stackTraces = false) (g : kG) (n : Nat) (a : Nat → Nat → Nat) (h : Nat → Nat → Nat) (G : St2) (V : St2) (k : Nat) (hR : fX4_undo n G V = some (.inl k)) : kSt l g yX4_undo wsX4_undo ({ frames := 6, cells := 1, slots := 6, locals := 90 }) [.ref (a 0 0)] (w_F g a G ++ w_H g (a 0 2) h V) (w_F g a G ++ w_H g (a 0 2) h V) k := by
  refine kSt.of (cc := cX4_undo) (maxL := 1) (ret := (some .int)) (by decide) rfl (Nat.le_of_ble_eq_true rfl) ?_
  intro p e s m args below meth c ls A hC hlocks hno hA hK hG hl hP hD hS
  replace hC : CallFix p m c cX4_undo 1 s args wsX4_undo RX4 := hC
  obtain ⟨hx, hb, hml, hown, hts⟩ := id hC
  replace hl : lv_has ls 1 [(0, .ref (a 0 0))] := hl
  unfold fX4_undo at hR
  have hw1 : ∀ w ∈ wsX10, w ∈ wsX4_undo := by decide +kernel
  have hw4 : ∀ w ∈ wsX40, w ∈ wsX4_undo := by decide +kernel
  have hl0 := hts (.fieldLink RX4 22 "FloatOrder" "history" "LFloatOrder$History;") (by decide +kernel)
  have hl1 := hts (.fieldLink RX4 172 "FloatOrder$History" "size" "I") (by decide +kernel)
  have hl2 := hts (.fieldLink RX4 10 "FloatOrder" "parade" "LFloatOrder$Parade;") (by decide +kernel)
  have hl3 := hts (.classLink RX4 67 "java/lang/IllegalStateException") (by decide +kernel)
  have hl4 := hts (.initialized "java/lang/IllegalStateException") (by decide +kernel)
  refine lv_aload_n hx hb dX4_undo_0 rfl (lv_at hl 0 rfl) ?_
  refine va_get (ci := 4) (C := RX4) (T := TX4) (N := 7) hx hb hts hw4 hown hK hP 0 rfl rfl 2 (by decide) hl0 (fun _ h9 => h9) rfl dX4_undo_1 ?_
  refine va_get (ci := 1) (C := RX1) (T := TX1) (N := 2) hx hb hts hw1 hown hK hP 24 rfl rfl 1 (by decide) hl1 (fun _ h9 => h9) rfl dX4_undo_4 ?_
  refine lv_if_gt (tgt := 20) hx hb dX4_undo_7 (by decide) (fun c1 => ?_) (fun c1 => ?_)
  · replace hR := (if_pos c1).symm.trans hR
    refine lv_aload_n hx hb dX4_undo_20 rfl (lv_at hl 0 rfl) ?_
    refine va_get (ci := 4) (C := RX4) (T := TX4) (N := 7) hx hb hts hw4 hown hK hP 0 rfl rfl 2 (by decide) hl0 (fun _ h9 => h9) rfl dX4_undo_21 ?_
    refine lv_aload_n hx hb dX4_undo_24 rfl (lv_at hl 0 rfl) ?_
    refine va_get (ci := 4) (C := RX4) (T := TX4) (N := 7) hx hb hts hw4 hown hK hP 0 rfl rfl 0 (by decide) hl2 (fun _ h9 => h9) rfl dX4_undo_25 ?_
    obtain ⟨x2, hq2, hR⟩ := kk_bd_el hR
    obtain ⟨G3, eG3, hR⟩ := kk_nm_el hR
    refine kk_call_Vv (w' := (w_F g a G3 ++ w_H g (a 0 2) h x2.1)) (As := [.ref (a 1 0)]) (rest := []) 24 1 hC (sX1_restoreLatest l g n (a 0 2) h (a 1) V (G 1)  x2 hq2) (cwV 1 hts gX4_undo_X1_restoreLatest rfl rfl rfl (by decide +kernel) ⟨Nat.le_of_ble_eq_true rfl, Nat.le_of_ble_eq_true rfl⟩) hK hP hD hS hA [24, 25, 26, 27, 28, 29, 30, 31, 32, 33, 34, 35, 36, 37, 38, 39, 40, 41, 42, 43, 44, 45, 46, 47, 48, 49, 50, 51, 52, 53, 54, 55, 56, 57, 58, 59, 60, 61, 62, 63, 64, 65, 66, 67, 68, 69, 70, 71, 72, 73, 74, 75, 76, 77, 78, 79, 80, 81, 82, 83, 84, 85, 2, 3, 4, 5, 6, 7, 8, 9, 10, 11] (kk_m2 (is1 := [24, 25, 26, 27, 28, 29, 30, 31, 32, 33, 34, 35, 36, 37, 38, 39, 40, 41, 42, 43, 44, 45, 46, 47, 48, 49, 50, 51, 52, 53, 54, 55, 56, 57, 58, 59, 60, 61, 62, 63, 64, 65, 66, 67, 68, 69, 70, 71, 72, 73, 74, 75, 76, 77, 78, 79, 80, 81, 82, 83, 84, 85]) rfl (kk_mr (js := [0, 1, 2, 3, 4, 5, 6, 7, 8, 9, 10, 11, 12, 13, 14, 15, 16, 17, 18, 19, 20, 21, 22, 23, 24, 25, 26, 27, 28, 29, 30, 31, 32, 33, 34, 35, 36, 37, 38, 39, 40, 41, 42, 43, 44, 45, 46, 47, 48, 49, 50, 51, 52, 53, 54, 55, 56, 57, 58, 59, 60, 61]) 24 rfl (by decide +kernel) (kk_m0 62 (by decide +kernel) rfl)) (kk_ml 24 rfl (by decide +kernel) (kk_ml 23 rfl (by decide +kernel) (kk_ml 22 rfl (by decide +kernel) (kk_ml 12 rfl (by decide +kernel) (kk_mr (js := [0, 1, 2, 3, 4, 5, 6, 7, 8, 9]) 2 rfl (by decide +kernel) (kk_m0 10 (by decide +kernel) rfl))))))) (by decide +kernel) rfl (by rw [eG3]; exact kk_set2 (is1 := [24, 25, 26, 27, 28, 29, 30, 31, 32, 33, 34, 35, 36, 37, 38, 39, 40, 41, 42, 43, 44, 45, 46, 47, 48, 49, 50, 51, 52, 53, 54, 55, 56, 57, 58, 59, 60, 61, 62, 63, 64, 65, 66, 67, 68, 69, 70, 71, 72, 73, 74, 75, 76, 77, 78, 79, 80, 81, 82, 83, 84, 85]) rfl rfl (kk_sr (js := [0, 1, 2, 3, 4, 5, 6, 7, 8, 9, 10, 11, 12, 13, 14, 15, 16, 17, 18, 19, 20, 21, 22, 23, 24, 25, 26, 27, 28, 29, 30, 31, 32, 33, 34, 35, 36, 37, 38, 39, 40, 41, 42, 43, 44, 45, 46, 47, 48, 49, 50, 51, 52, 53, 54, 55, 56, 57, 58, 59, 60, 61]) 24 rfl (by decide +kernel) (kk_s0 62 (by decide +kernel) rfl rfl)) (kk_sl 24 rfl (by decide +kernel) (kk_sl 23 rfl (by decide +kernel) (kk_sl 22 rfl (by decide +kernel) (kk_sl 12 rfl (by decide +kernel) (kk_sr (js := [0, 1, 2, 3, 4, 5, 6, 7, 8, 9]) 2 rfl (by decide +kernel) (kk_s0 10 (by decide +kernel) rfl rfl))))))) rfl rfl rfl rfl rfl hl.1 (Nat.le_of_ble_eq_true rfl) dX4_undo_28 (fun H locs hP hD hS => ?_)
    refine lv_aload_n hx hb dX4_undo_31 rfl (lv_at hl 0 rfl) ?_
    refine va_get (ci := 4) (C := RX4) (T := TX4) (N := 7) hx hb hts hw4 hown hK hP 0 rfl rfl 2 (by decide) hl0 (fun _ h9 => h9) rfl dX4_undo_32 ?_
    refine va_get (ci := 1) (C := RX1) (T := TX1) (N := 2) hx hb hts hw1 hown hK hP 24 rfl rfl 1 (by decide) hl1 (fun _ h9 => h9) rfl dX4_undo_35 ?_
    cases hR
  · replace hR := (if_neg c1).symm.trans hR
    obtain rfl := Sum.inl.inj (Option.some.inj hR)
    exact kk_throw (names := ["java/lang/RuntimeException", "java/lang/Exception"]) (text := "there is no saved state") (k := 3) hC hst hlocks hno hK hG hP hD hS hA rfl rfl (by decide +kernel) (by decide +kernel) (by decide +kernel) hl3 hl4 (by decide +kernel) (by decide +kernel) (by decide +kernel) hl.1 dX4_undo_10 dX4_undo_13 dX4_undo_14 dX4_undo_16 dX4_undo_19 ⟨Nat.le_of_ble_eq_true rfl, Nat.le_of_ble_eq_true rfl, Nat.le_of_ble_eq_true rfl, Nat.le_of_ble_eq_true rfl⟩
set_option maxHeartbeats 8000000 in
set_option maxRecDepth 100000 in
theorem sX4_count (l : Launch) (g : kG) (n : Nat) (a : Nat → Nat → Nat) (h : Nat → Nat → Nat) (G : St2) (V : St2) (v1 : Int32) (r : Int32 × St2) (hR : fX4_count n G V v1 = some (.inr r)) : kSp l g yX4_count wsX4_count ({ frames := 5, cells := 0, slots := 0, locals := 110 }) [.ref (a 0 0), .int v1] (w_F g a G ++ w_H g (a 0 2) h V) (kQi g (w_F g a r.2 ++ w_H g (a 0 2) h V) r.1) := by
  refine kSp.of (cc := cX4_count) (maxL := 2) (ret := (some .int)) (by decide) rfl (Nat.le_of_ble_eq_true rfl) ?_
  intro p e s m args below meth c ls A hC hr hlocks hA hK hl hP hD hS
  replace hC : CallFix p m c cX4_count 2 s args wsX4_count RX4 := hC
  obtain ⟨hx, hb, hml, hown, hts⟩ := id hC
  replace hl : lv_has ls 2 [(0, .ref (a 0 0)), (1, .int v1)] := hl
  unfold fX4_count at hR
  refine lv_iload_n hx hb dX4_count_0 rfl (lv_at hl 1 rfl) ?_
  refine lv_if_lt (tgt := 10) hx hb dX4_count_1 (by decide) (fun c1 => ?_) (fun c1 => ?_)
  · replace hR := (if_pos c1).symm.trans hR
    cases hR
  · replace hR := (if_neg c1).symm.trans hR
    refine lv_iload_n hx hb dX4_count_4 rfl (lv_at hl 1 rfl) ?_
    refine lv_bipush (v := (9 : Int32)) hx hb dX4_count_5 (by decide) ?_
    refine lv_icmp_lt (tgt := 20) hx hb dX4_count_7 (by decide) (fun c2 => ?_) (fun c2 => ?_)
    · replace hR := (if_pos c2).symm.trans hR
      refine lv_aload_n hx hb dX4_count_20 rfl (lv_at hl 0 rfl) ?_
      refine lv_iload_n hx hb dX4_count_21 rfl (lv_at hl 1 rfl) ?_
      obtain ⟨x3, hq3, hR⟩ := kk_bd_el hR
      refine kk_call_Vi (w' := (w_F g a x3.2 ++ w_H g (a 0 2) h V)) (As := [.int v1]) (rest := []) 0 4 hC (sX4_number l g n a h G V v1 x3 hq3) (cwV 1 hts gX4_count_X4_number rfl rfl rfl (by decide +kernel) ⟨Nat.le_of_ble_eq_true rfl, Nat.le_of_ble_eq_true rfl⟩) hK hP hD hS hA [0, 1, 2, 3, 4, 5, 6, 7, 8, 9, 10, 11, 12, 13, 14, 15, 16, 17, 18, 19, 20, 21, 22, 23, 24, 25, 26, 27, 28, 29, 30, 31, 32, 33, 34, 35, 36, 37, 38, 39, 40, 41, 42, 43, 44, 45, 46, 47, 48, 49, 50, 51, 52, 53, 54, 55, 56, 57, 58, 59, 60, 61, 62, 63, 64, 65, 66, 67, 68, 69, 70, 71, 72, 73, 74, 75, 76, 77, 78, 79, 80, 81, 82, 83, 84, 85] (kk_m2 (is1 := [0, 1, 2, 3, 4, 5, 6, 7, 8, 9, 10, 11, 12, 13, 14, 15, 16, 17, 18, 19, 20, 21, 22, 23]) rfl (kk_ml 24 rfl (by decide +kernel) (kk_m0 24 (by decide +kernel) rfl)) (kk_mr (js := [0, 1, 2, 3, 4, 5, 6, 7, 8, 9, 10, 11, 12, 13, 14, 15, 16, 17, 18, 19, 20, 21, 22, 23, 24, 25, 26, 27, 28, 29, 30, 31, 32, 33, 34, 35, 36, 37, 38, 39, 40, 41, 42, 43, 44, 45, 46, 47, 48, 49, 50, 51, 52, 53, 54, 55, 56, 57, 58, 59, 60, 61]) 24 rfl (by decide +kernel) (kk_m0 62 (by decide +kernel) rfl))) (by decide +kernel) rfl (kk_set2 (is1 := [0, 1, 2, 3, 4, 5, 6, 7, 8, 9, 10, 11, 12, 13, 14, 15, 16, 17, 18, 19, 20, 21, 22, 23]) rfl rfl (kk_sl 24 rfl (by decide +kernel) (kk_s0 24 (by decide +kernel) rfl rfl)) (kk_sr (js := [0, 1, 2, 3, 4, 5, 6, 7, 8, 9, 10, 11, 12, 13, 14, 15, 16, 17, 18, 19, 20, 21, 22, 23, 24, 25, 26, 27, 28, 29, 30, 31, 32, 33, 34, 35, 36, 37, 38, 39, 40, 41, 42, 43, 44, 45, 46, 47, 48, 49, 50, 51, 52, 53, 54, 55, 56, 57, 58, 59, 60, 61]) 24 rfl (by decide +kernel) (kk_s0 62 (by decide +kernel) rfl rfl))) rfl rfl rfl rfl rfl hl.1 (Nat.le_of_ble_eq_true rfl) dX4_count_22 (fun H locs hP hD hS => ?_)
      obtain rfl := Sum.inr.inj (Option.some.inj hR)
      exact kk_ret_i hC hr hlocks hK hP hD hS dX4_count_25 rfl
    · replace hR := (if_neg c2).symm.trans hR
      cases hR
set_option maxHeartbeats 8000000 in
set_option maxRecDepth 100000 in
theorem sX4_count_th (l : Launch) (hst : l.stackTraces = false) (g : kG) (n : Nat) (a : Nat → Nat → Nat) (h : Nat → Nat → Nat) (G : St2) (V : St2) (v1 : Int32) (k : Nat) (hR : fX4_count n G V v1 = some (.inl k)) : kSt l g yX4_count wsX4_count ({ frames := 6, cells := 1, slots := 6, locals := 110 }) [.ref (a 0 0), .int v1] (w_F g a G ++ w_H g (a 0 2) h V) (w_F g a G ++ w_H g (a 0 2) h V) k := by
  refine kSt.of (cc := cX4_count) (maxL := 2) (ret := (some .int)) (by decide) rfl (Nat.le_of_ble_eq_true rfl) ?_
  intro p e s m args below meth c ls A hC hlocks hno hA hK hG hl hP hD hS
  replace hC : CallFix p m c cX4_count 2 s args wsX4_count RX4 := hC
  obtain ⟨hx, hb, hml, hown, hts⟩ := id hC
  replace hl : lv_has ls 2 [(0, .ref (a 0 0)), (1, .int v1)] := hl
  unfold fX4_count at hR
  have hl0 := hts (.classLink RX4 62 "java/lang/IllegalArgumentException") (by decide +kernel)
  have hl1 := hts (.initialized "java/lang/IllegalArgumentException") (by decide +kernel)
  refine lv_iload_n hx hb dX4_count_0 rfl (lv_at hl 1 rfl) ?_
  refine lv_if_lt (tgt := 10) hx hb dX4_count_1 (by decide) (fun c1 => ?_) (fun c1 => ?_)
  · replace hR := (if_pos c1).symm.trans hR
    obtain rfl := Sum.inl.inj (Option.some.inj hR)
    exact kk_throw (names := ["java/lang/RuntimeException", "java/lang/Exception"]) (text := "what is not 0 to 8") (k := 2) hC hst hlocks hno hK hG hP hD hS hA rfl rfl (by decide +kernel) (by decide +kernel) (by decide +kernel) hl0 hl1 (by decide +kernel) (by decide +kernel) (by decide +kernel) hl.1 dX4_count_10 dX4_count_13 dX4_count_14 dX4_count_16 dX4_count_19 ⟨Nat.le_of_ble_eq_true rfl, Nat.le_of_ble_eq_true rfl, Nat.le_of_ble_eq_true rfl, Nat.le_of_ble_eq_true rfl⟩
  · replace hR := (if_neg c1).symm.trans hR
    refine lv_iload_n hx hb dX4_count_4 rfl (lv_at hl 1 rfl) ?_
    refine lv_bipush (v := (9 : Int32)) hx hb dX4_count_5 (by decide) ?_
    refine lv_icmp_lt (tgt := 20) hx hb dX4_count_7 (by decide) (fun c2 => ?_) (fun c2 => ?_)
    · replace hR := (if_pos c2).symm.trans hR
      refine lv_aload_n hx hb dX4_count_20 rfl (lv_at hl 0 rfl) ?_
      refine lv_iload_n hx hb dX4_count_21 rfl (lv_at hl 1 rfl) ?_
      obtain ⟨x3, hq3, hR⟩ := kk_bd_el hR
      refine kk_call_Vi (w' := (w_F g a x3.2 ++ w_H g (a 0 2) h V)) (As := [.int v1]) (rest := []) 0 4 hC (sX4_number l g n a h G V v1 x3 hq3) (cwV 1 hts gX4_count_X4_number rfl rfl rfl (by decide +kernel) ⟨Nat.le_of_ble_eq_true rfl, Nat.le_of_ble_eq_true rfl⟩) hK hP hD hS hA [0, 1, 2, 3, 4, 5, 6, 7, 8, 9, 10, 11, 12, 13, 14, 15, 16, 17, 18, 19, 20, 21, 22, 23, 24, 25, 26, 27, 28, 29, 30, 31, 32, 33, 34, 35, 36, 37, 38, 39, 40, 41, 42, 43, 44, 45, 46, 47, 48, 49, 50, 51, 52, 53, 54, 55, 56, 57, 58, 59, 60, 61, 62, 63, 64, 65, 66, 67, 68, 69, 70, 71, 72, 73, 74, 75, 76, 77, 78, 79, 80, 81, 82, 83, 84, 85] (kk_m2 (is1 := [0, 1, 2, 3, 4, 5, 6, 7, 8, 9, 10, 11, 12, 13, 14, 15, 16, 17, 18, 19, 20, 21, 22, 23]) rfl (kk_ml 24 rfl (by decide +kernel) (kk_m0 24 (by decide +kernel) rfl)) (kk_mr (js := [0, 1, 2, 3, 4, 5, 6, 7, 8, 9, 10, 11, 12, 13, 14, 15, 16, 17, 18, 19, 20, 21, 22, 23, 24, 25, 26, 27, 28, 29, 30, 31, 32, 33, 34, 35, 36, 37, 38, 39, 40, 41, 42, 43, 44, 45, 46, 47, 48, 49, 50, 51, 52, 53, 54, 55, 56, 57, 58, 59, 60, 61]) 24 rfl (by decide +kernel) (kk_m0 62 (by decide +kernel) rfl))) (by decide +kernel) rfl (kk_set2 (is1 := [0, 1, 2, 3, 4, 5, 6, 7, 8, 9, 10, 11, 12, 13, 14, 15, 16, 17, 18, 19, 20, 21, 22, 23]) rfl rfl (kk_sl 24 rfl (by decide +kernel) (kk_s0 24 (by decide +kernel) rfl rfl)) (kk_sr (js := [0, 1, 2, 3, 4, 5, 6, 7, 8, 9, 10, 11, 12, 13, 14, 15, 16, 17, 18, 19, 20, 21, 22, 23, 24, 25, 26, 27, 28, 29, 30, 31, 32, 33, 34, 35, 36, 37, 38, 39, 40, 41, 42, 43, 44, 45, 46, 47, 48, 49, 50, 51, 52, 53, 54, 55, 56, 57, 58, 59, 60, 61]) 24 rfl (by decide +kernel) (kk_s0 62 (by decide +kernel) rfl rfl))) rfl rfl rfl rfl rfl hl.1 (Nat.le_of_ble_eq_true rfl) dX4_count_22 (fun H locs hP hD hS => ?_)
      cases hR
    · replace hR := (if_neg c2).symm.trans hR
      obtain rfl := Sum.inl.inj (Option.some.inj hR)
      exact kk_throw (names := ["java/lang/RuntimeException", "java/lang/Exception"]) (text := "what is not 0 to 8") (k := 2) hC hst hlocks hno hK hG hP hD hS hA rfl rfl (by decide +kernel) (by decide +kernel) (by decide +kernel) hl0 hl1 (by decide +kernel) (by decide +kernel) (by decide +kernel) hl.1 dX4_count_10 dX4_count_13 dX4_count_14 dX4_count_16 dX4_count_19 ⟨Nat.le_of_ble_eq_true rfl, Nat.le_of_ble_eq_true rfl, Nat.le_of_ble_eq_true rfl, Nat.le_of_ble_eq_true rfl⟩