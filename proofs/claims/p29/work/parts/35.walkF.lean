set_option maxHeartbeats 8000000 in
set_option maxRecDepth 100000 in
theorem sX4_needFloat (l : Launch) (g : kG) (n : Nat) (a : Nat → Nat → Nat) (G : St2) (v1 : Int32) (r : Unit) (hR : fX4_needFloat n G v1 = some (.inr r)) : kSp l g yX4_needFloat wsX4_needFloat ({ frames := 0, cells := 0, slots := 0, locals := 0 }) [.ref (a 0 0), .int v1] (w_F g a G) (kQv g (w_F g a G)) := by
  refine kSp.of (cc := cX4_needFloat) (maxL := 2) (ret := none) (by decide) rfl (Nat.le_of_ble_eq_true rfl) ?_
  intro p e s m args below meth c ls A hC hr hlocks hA hK hl hP hD hS
  replace hC : CallFix p m c cX4_needFloat 2 s args wsX4_needFloat RX4 := hC
  obtain ⟨hx, hb, hml, hown, hts⟩ := id hC
  replace hl : lv_has ls 2 [(0, .ref (a 0 0)), (1, .int v1)] := hl
  unfold fX4_needFloat at hR
  have hw2 : ∀ w ∈ wsX20, w ∈ wsX4_needFloat := by decide +kernel
  have hw4 : ∀ w ∈ wsX40, w ∈ wsX4_needFloat := by decide +kernel
  have hl0 := hts (.fieldLink RX4 10 "FloatOrder" "parade" "LFloatOrder$Parade;") (by decide +kernel)
  have hl1 := hts (.fieldLink RX4 48 "FloatOrder$Parade" "floats" "I") (by decide +kernel)
  refine lv_iload_n hx hb dX4_needFloat_0 rfl (lv_at hl 1 rfl) ?_
  refine lv_if_lt (tgt := 15) hx hb dX4_needFloat_1 (by decide) (fun c1 => ?_) (fun c1 => ?_)
  · replace hR := (if_pos c1).symm.trans hR
    cases hR
  · replace hR := (if_neg c1).symm.trans hR
    refine lv_iload_n hx hb dX4_needFloat_4 rfl (lv_at hl 1 rfl) ?_
    refine lv_aload_n hx hb dX4_needFloat_5 rfl (lv_at hl 0 rfl) ?_
    refine va_get (ci := 4) (C := RX4) (T := TX4) (N := 7) hx hb hts hw4 hown hK hP 0 rfl rfl 0 (by decide) hl0 (fun _ h9 => h9) rfl dX4_needFloat_6 ?_
    refine va_get (ci := 2) (C := RX2) (T := TX2) (N := 11) hx hb hts hw2 hown hK hP 2 rfl rfl 0 (by decide) hl1 (fun _ h9 => h9) rfl dX4_needFloat_9 ?_
    refine lv_icmp_lt (tgt := 25) hx hb dX4_needFloat_12 (by decide) (fun c2 => ?_) (fun c2 => ?_)
    · replace hR := (if_pos c2).symm.trans hR
      obtain rfl := Sum.inr.inj (Option.some.inj hR)
      exact kk_ret_v hC hr hlocks hK hP hD hS dX4_needFloat_25
    · replace hR := (if_neg c2).symm.trans hR
      cases hR
set_option maxHeartbeats 8000000 in
set_option maxRecDepth 100000 in
theorem sX4_needFloat_th (l : Launch) (hst : l.stackTraces = false) (g : kG) (n : Nat) (a : Nat → Nat → Nat) (G : St2) (v1 : Int32) (k : Nat) (hR : fX4_needFloat n G v1 = some (.inl k)) : kSt l g yX4_needFloat wsX4_needFloat ({ frames := 6, cells := 1, slots := 6, locals := 90 }) [.ref (a 0 0), .int v1] (w_F g a G) (w_F g a G) k := by
  refine kSt.of (cc := cX4_needFloat) (maxL := 2) (ret := none) (by decide) rfl (Nat.le_of_ble_eq_true rfl) ?_
  intro p e s m args below meth c ls A hC hlocks hno hA hK hG hl hP hD hS
  replace hC : CallFix p m c cX4_needFloat 2 s args wsX4_needFloat RX4 := hC
  obtain ⟨hx, hb, hml, hown, hts⟩ := id hC
  replace hl : lv_has ls 2 [(0, .ref (a 0 0)), (1, .int v1)] := hl
  unfold fX4_needFloat at hR
  have hw2 : ∀ w ∈ wsX20, w ∈ wsX4_needFloat := by decide +kernel
  have hw4 : ∀ w ∈ wsX40, w ∈ wsX4_needFloat := by decide +kernel
  have hl0 := hts (.classLink RX4 51 "java/lang/IndexOutOfBoundsException") (by decide +kernel)
  have hl1 := hts (.initialized "java/lang/IndexOutOfBoundsException") (by decide +kernel)
  have hl2 := hts (.fieldLink RX4 10 "FloatOrder" "parade" "LFloatOrder$Parade;") (by decide +kernel)
  have hl3 := hts (.fieldLink RX4 48 "FloatOrder$Parade" "floats" "I") (by decide +kernel)
  refine lv_iload_n hx hb dX4_needFloat_0 rfl (lv_at hl 1 rfl) ?_
  refine lv_if_lt (tgt := 15) hx hb dX4_needFloat_1 (by decide) (fun c1 => ?_) (fun c1 => ?_)
  · replace hR := (if_pos c1).symm.trans hR
    obtain rfl := Sum.inl.inj (Option.some.inj hR)
    exact kk_throw (names := ["java/lang/RuntimeException", "java/lang/Exception"]) (text := "no such float") (k := 1) hC hst hlocks hno hK hG hP hD hS hA rfl rfl (by decide +kernel) (by decide +kernel) (by decide +kernel) hl0 hl1 (by decide +kernel) (by decide +kernel) (by decide +kernel) hl.1 dX4_needFloat_15 dX4_needFloat_18 dX4_needFloat_19 dX4_needFloat_21 dX4_needFloat_24 ⟨Nat.le_of_ble_eq_true rfl, Nat.le_of_ble_eq_true rfl, Nat.le_of_ble_eq_true rfl, Nat.le_of_ble_eq_true rfl⟩
  · replace hR := (if_neg c1).symm.trans hR
    refine lv_iload_n hx hb dX4_needFloat_4 rfl (lv_at hl 1 rfl) ?_
    refine lv_aload_n hx hb dX4_needFloat_5 rfl (lv_at hl 0 rfl) ?_
    refine va_get (ci := 4) (C := RX4) (T := TX4) (N := 7) hx hb hts hw4 hown hK hP 0 rfl rfl 0 (by decide) hl2 (fun _ h9 => h9) rfl dX4_needFloat_6 ?_
    refine va_get (ci := 2) (C := RX2) (T := TX2) (N := 11) hx hb hts hw2 hown hK hP 2 rfl rfl 0 (by decide) hl3 (fun _ h9 => h9) rfl dX4_needFloat_9 ?_
    refine lv_icmp_lt (tgt := 25) hx hb dX4_needFloat_12 (by decide) (fun c2 => ?_) (fun c2 => ?_)
    · replace hR := (if_pos c2).symm.trans hR
      cases hR
    · replace hR := (if_neg c2).symm.trans hR
      obtain rfl := Sum.inl.inj (Option.some.inj hR)
      exact kk_throw (names := ["java/lang/RuntimeException", "java/lang/Exception"]) (text := "no such float") (k := 1) hC hst hlocks hno hK hG hP hD hS hA rfl rfl (by decide +kernel) (by decide +kernel) (by decide +kernel) hl0 hl1 (by decide +kernel) (by decide +kernel) (by decide +kernel) hl.1 dX4_needFloat_15 dX4_needFloat_18 dX4_needFloat_19 dX4_needFloat_21 dX4_needFloat_24 ⟨Nat.le_of_ble_eq_true rfl, Nat.le_of_ble_eq_true rfl, Nat.le_of_ble_eq_true rfl, Nat.le_of_ble_eq_true rfl⟩
set_option maxHeartbeats 8000000 in
set_option maxRecDepth 100000 in
theorem sX4_needBridge (l : Launch) (g : kG) (n : Nat) (a : Nat → Nat → Nat) (G : St2) (v1 : Int32) (r : Unit) (hR : fX4_needBridge n G v1 = some (.inr r)) : kSp l g yX4_needBridge wsX4_needBridge ({ frames := 0, cells := 0, slots := 0, locals := 0 }) [.ref (a 0 0), .int v1] (w_F g a G) (kQv g (w_F g a G)) := by
  refine kSp.of (cc := cX4_needBridge) (maxL := 2) (ret := none) (by decide) rfl (Nat.le_of_ble_eq_true rfl) ?_
  intro p e s m args below meth c ls A hC hr hlocks hA hK hl hP hD hS
  replace hC : CallFix p m c cX4_needBridge 2 s args wsX4_needBridge RX4 := hC
  obtain ⟨hx, hb, hml, hown, hts⟩ := id hC
  replace hl : lv_has ls 2 [(0, .ref (a 0 0)), (1, .int v1)] := hl
  unfold fX4_needBridge at hR
  have hw2 : ∀ w ∈ wsX20, w ∈ wsX4_needBridge := by decide +kernel
  have hw4 : ∀ w ∈ wsX40, w ∈ wsX4_needBridge := by decide +kernel
  have hl0 := hts (.fieldLink RX4 10 "FloatOrder" "parade" "LFloatOrder$Parade;") (by decide +kernel)
  have hl1 := hts (.fieldLink RX4 117 "FloatOrder$Parade" "bridges" "I") (by decide +kernel)
  refine lv_iload_n hx hb dX4_needBridge_0 rfl (lv_at hl 1 rfl) ?_
  refine lv_if_lt (tgt := 15) hx hb dX4_needBridge_1 (by decide) (fun c1 => ?_) (fun c1 => ?_)
  · replace hR := (if_pos c1).symm.trans hR
    cases hR
  · replace hR := (if_neg c1).symm.trans hR
    refine lv_iload_n hx hb dX4_needBridge_4 rfl (lv_at hl 1 rfl) ?_
    refine lv_aload_n hx hb dX4_needBridge_5 rfl (lv_at hl 0 rfl) ?_
    refine va_get (ci := 4) (C := RX4) (T := TX4) (N := 7) hx hb hts hw4 hown hK hP 0 rfl rfl 0 (by decide) hl0 (fun _ h9 => h9) rfl dX4_needBridge_6 ?_
    refine va_get (ci := 2) (C := RX2) (T := TX2) (N := 11) hx hb hts hw2 hown hK hP 2 rfl rfl 5 (by decide) hl1 (fun _ h9 => h9) rfl dX4_needBridge_9 ?_
    refine lv_icmp_lt (tgt := 25) hx hb dX4_needBridge_12 (by decide) (fun c2 => ?_) (fun c2 => ?_)
    · replace hR := (if_pos c2).symm.trans hR
      obtain rfl := Sum.inr.inj (Option.some.inj hR)
      exact kk_ret_v hC hr hlocks hK hP hD hS dX4_needBridge_25
    · replace hR := (if_neg c2).symm.trans hR
      cases hR
set_option maxHeartbeats 8000000 in
set_option maxRecDepth 100000 in
theorem sX4_needBridge_th (l : Launch) (hst : l.stackTraces = false) (g : kG) (n : Nat) (a : Nat → Nat → Nat) (G : St2) (v1 : Int32) (k : Nat) (hR : fX4_needBridge n G v1 = some (.inl k)) : kSt l g yX4_needBridge wsX4_needBridge ({ frames := 6, cells := 1, slots := 6, locals := 90 }) [.ref (a 0 0), .int v1] (w_F g a G) (w_F g a G) k := by
  refine kSt.of (cc := cX4_needBridge) (maxL := 2) (ret := none) (by decide) rfl (Nat.le_of_ble_eq_true rfl) ?_
  intro p e s m args below meth c ls A hC hlocks hno hA hK hG hl hP hD hS
  replace hC : CallFix p m c cX4_needBridge 2 s args wsX4_needBridge RX4 := hC
  obtain ⟨hx, hb, hml, hown, hts⟩ := id hC
  replace hl : lv_has ls 2 [(0, .ref (a 0 0)), (1, .int v1)] := hl
  unfold fX4_needBridge at hR
  have hw2 : ∀ w ∈ wsX20, w ∈ wsX4_needBridge := by decide +kernel
  have hw4 : ∀ w ∈ wsX40, w ∈ wsX4_needBridge := by decide +kernel
  have hl0 := hts (.classLink RX4 51 "java/lang/IndexOutOfBoundsException") (by decide +kernel)
  have hl1 := hts (.initialized "java/lang/IndexOutOfBoundsException") (by decide +kernel)
  have hl2 := hts (.fieldLink RX4 10 "FloatOrder" "parade" "LFloatOrder$Parade;") (by decide +kernel)
  have hl3 := hts (.fieldLink RX4 117 "FloatOrder$Parade" "bridges" "I") (by decide +kernel)
  refine lv_iload_n hx hb dX4_needBridge_0 rfl (lv_at hl 1 rfl) ?_
  refine lv_if_lt (tgt := 15) hx hb dX4_needBridge_1 (by decide) (fun c1 => ?_) (fun c1 => ?_)
  · replace hR := (if_pos c1).symm.trans hR
    obtain rfl := Sum.inl.inj (Option.some.inj hR)
    exact kk_throw (names := ["java/lang/RuntimeException", "java/lang/Exception"]) (text := "no such bridge") (k := 1) hC hst hlocks hno hK hG hP hD hS hA rfl rfl (by decide +kernel) (by decide +kernel) (by decide +kernel) hl0 hl1 (by decide +kernel) (by decide +kernel) (by decide +kernel) hl.1 dX4_needBridge_15 dX4_needBridge_18 dX4_needBridge_19 dX4_needBridge_21 dX4_needBridge_24 ⟨Nat.le_of_ble_eq_true rfl, Nat.le_of_ble_eq_true rfl, Nat.le_of_ble_eq_true rfl, Nat.le_of_ble_eq_true rfl⟩
  · replace hR := (if_neg c1).symm.trans hR
    refine lv_iload_n hx hb dX4_needBridge_4 rfl (lv_at hl 1 rfl) ?_
    refine lv_aload_n hx hb dX4_needBridge_5 rfl (lv_at hl 0 rfl) ?_
    refine va_get (ci := 4) (C := RX4) (T := TX4) (N := 7) hx hb hts hw4 hown hK hP 0 rfl rfl 0 (by decide) hl2 (fun _ h9 => h9) rfl dX4_needBridge_6 ?_
    refine va_get (ci := 2) (C := RX2) (T := TX2) (N := 11) hx hb hts hw2 hown hK hP 2 rfl rfl 5 (by decide) hl3 (fun _ h9 => h9) rfl dX4_needBridge_9 ?_
    refine lv_icmp_lt (tgt := 25) hx hb dX4_needBridge_12 (by decide) (fun c2 => ?_) (fun c2 => ?_)
    · replace hR := (if_pos c2).symm.trans hR
      cases hR
    · replace hR := (if_neg c2).symm.trans hR
      obtain rfl := Sum.inl.inj (Option.some.inj hR)
      exact kk_throw (names := ["java/lang/RuntimeException", "java/lang/Exception"]) (text := "no such bridge") (k := 1) hC hst hlocks hno hK hG hP hD hS hA rfl rfl (by decide +kernel) (by decide +kernel) (by decide +kernel) hl0 hl1 (by decide +kernel) (by decide +kernel) (by decide +kernel) hl.1 dX4_needBridge_15 dX4_needBridge_18 dX4_needBridge_19 dX4_needBridge_21 dX4_needBridge_24 ⟨Nat.le_of_ble_eq_true rfl, Nat.le_of_ble_eq_true rfl, Nat.le_of_ble_eq_true rfl, Nat.le_of_ble_eq_true rfl⟩
set_option maxHeartbeats 8000000 in
set_option maxRecDepth 100000 in
theorem sX4_needSetting (l : Launch) (g : kG) (n : Nat)  (v0 : Int32) (r : Unit) (hR : fX4_needSetting n v0 = some (.inr r)) : kSp l g yX4_needSetting wsX4_needSetting ({ frames := 0, cells := 0, slots := 0, locals := 0 }) [.int v0] ([] : va_W) (kQv g ([] : va_W)) := by
  refine kSp.of (cc := cX4_needSetting) (maxL := 1) (ret := none) (by decide) rfl (Nat.le_of_ble_eq_true rfl) ?_
  intro p e s m args below meth c ls A hC hr hlocks hA hK hl hP hD hS
  replace hC : CallFix p m c cX4_needSetting 1 s args wsX4_needSetting RX4 := hC
  obtain ⟨hx, hb, hml, hown, hts⟩ := id hC
  replace hl : lv_has ls 1 [(0, .int v0)] := hl
  unfold fX4_needSetting at hR
  refine lv_iload_n hx hb dX4_needSetting_0 rfl (lv_at hl 0 rfl) ?_
  refine lv_if_lt (tgt := 9) hx hb dX4_needSetting_1 (by decide) (fun c1 => ?_) (fun c1 => ?_)
  · replace hR := (if_pos c1).symm.trans hR
    cases hR
  · replace hR := (if_neg c1).symm.trans hR
    refine lv_iload_n hx hb dX4_needSetting_4 rfl (lv_at hl 0 rfl) ?_
    refine lv_iconst (v := (4 : Int32)) hx hb dX4_needSetting_5 (by decide) ?_
    refine lv_icmp_lt (tgt := 19) hx hb dX4_needSetting_6 (by decide) (fun c2 => ?_) (fun c2 => ?_)
    · replace hR := (if_pos c2).symm.trans hR
      obtain rfl := Sum.inr.inj (Option.some.inj hR)
      exact kk_ret_v hC hr hlocks hK hP hD hS dX4_needSetting_19
    · replace hR := (if_neg c2).symm.trans hR
      cases hR
set_option maxHeartbeats 8000000 in
set_option maxRecDepth 100000 in
theorem sX4_needSetting_th (l : Launch) (hst : l.stackTraces = false) (g : kG) (n : Nat)  (v0 : Int32) (k : Nat) (hR : fX4_needSetting n v0 = some (.inl k)) : kSt l g yX4_needSetting wsX4_needSetting ({ frames := 6, cells := 1, slots := 6, locals := 90 }) [.int v0] ([] : va_W) ([] : va_W) k := by
  refine kSt.of (cc := cX4_needSetting) (maxL := 1) (ret := none) (by decide) rfl (Nat.le_of_ble_eq_true rfl) ?_
  intro p e s m args below meth c ls A hC hlocks hno hA hK hG hl hP hD hS
  replace hC : CallFix p m c cX4_needSetting 1 s args wsX4_needSetting RX4 := hC
  obtain ⟨hx, hb, hml, hown, hts⟩ := id hC
  replace hl : lv_has ls 1 [(0, .int v0)] := hl
  unfold fX4_needSetting at hR
  have hl0 := hts (.classLink RX4 51 "java/lang/IndexOutOfBoundsException") (by decide +kernel)
  have hl1 := hts (.initialized "java/lang/IndexOutOfBoundsException") (by decide +kernel)
  refine lv_iload_n hx hb dX4_needSetting_0 rfl (lv_at hl 0 rfl) ?_
  refine lv_if_lt (tgt := 9) hx hb dX4_needSetting_1 (by decide) (fun c1 => ?_) (fun c1 => ?_)
  · replace hR := (if_pos c1).symm.trans hR
    obtain rfl := Sum.inl.inj (Option.some.inj hR)
    exact kk_throw (names := ["java/lang/RuntimeException", "java/lang/Exception"]) (text := "no such setting") (k := 1) hC hst hlocks hno hK hG hP hD hS hA rfl rfl (by decide +kernel) (by decide +kernel) (by decide +kernel) hl0 hl1 (by decide +kernel) (by decide +kernel) (by decide +kernel) hl.1 dX4_needSetting_9 dX4_needSetting_12 dX4_needSetting_13 dX4_needSetting_15 dX4_needSetting_18 ⟨Nat.le_of_ble_eq_true rfl, Nat.le_of_ble_eq_true rfl, Nat.le_of_ble_eq_true rfl, Nat.le_of_ble_eq_true rfl⟩
  · replace hR := (if_neg c1).symm.trans hR
    refine lv_iload_n hx hb dX4_needSetting_4 rfl (lv_at hl 0 rfl) ?_
    refine lv_iconst (v := (4 : Int32)) hx hb dX4_needSetting_5 (by decide) ?_
    refine lv_icmp_lt (tgt := 19) hx hb dX4_needSetting_6 (by decide) (fun c2 => ?_) (fun c2 => ?_)
    · replace hR := (if_pos c2).symm.trans hR
      cases hR
    · replace hR := (if_neg c2).symm.trans hR
      obtain rfl := Sum.inl.inj (Option.some.inj hR)
      exact kk_throw (names := ["java/lang/RuntimeException", "java/lang/Exception"]) (text := "no such setting") (k := 1) hC hst hlocks hno hK hG hP hD hS hA rfl rfl (by decide +kernel) (by decide +kernel) (by decide +kernel) hl0 hl1 (by decide +kernel) (by decide +kernel) (by decide +kernel) hl.1 dX4_needSetting_9 dX4_needSetting_12 dX4_needSetting_13 dX4_needSetting_15 dX4_needSetting_18 ⟨Nat.le_of_ble_eq_true rfl, Nat.le_of_ble_eq_true rfl, Nat.le_of_ble_eq_true rfl, Nat.le_of_ble_eq_true rfl⟩
set_option maxHeartbeats 8000000 in
set_option maxRecDepth 100000 in
theorem sX4_isHeight (l : Launch) (g : kG) (n : Nat)  (v0 : Int32) (r : Int32) (hR : fX4_isHeight n v0 = some r) : kSp l g yX4_isHeight wsX4_isHeight ({ frames := 0, cells := 0, slots := 0, locals := 0 }) [.int v0] ([] : va_W) (kQi g ([] : va_W) r) := by
  refine kSp.of (cc := cX4_isHeight) (maxL := 1) (ret := (some .boolean)) (by decide) rfl (Nat.le_of_ble_eq_true rfl) ?_
  intro p e s m args below meth c ls A hC hr hlocks hA hK hl hP hD hS
  replace hC : CallFix p m c cX4_isHeight 1 s args wsX4_isHeight RX4 := hC
  obtain ⟨hx, hb, hml, hown, hts⟩ := id hC
  replace hl : lv_has ls 1 [(0, .int v0)] := hl
  unfold fX4_isHeight at hR
  refine lv_iload_n hx hb dX4_isHeight_0 rfl (lv_at hl 0 rfl) ?_
  refine lv_bipush (v := (10 : Int32)) hx hb dX4_isHeight_1 (by decide) ?_
  refine lv_icmp_lt (tgt := 16) hx hb dX4_isHeight_3 (by decide) (fun c1 => ?_) (fun c1 => ?_)
  · replace hR := (if_pos c1).symm.trans hR
    refine lv_iconst (v := (0 : Int32)) hx hb dX4_isHeight_16 (by decide) ?_
    obtain rfl := Option.some.inj hR
    exact kk_ret_z hC hr hlocks hK hP hD hS dX4_isHeight_17 (by decide) rfl
  · replace hR := (if_neg c1).symm.trans hR
    refine lv_iload_n hx hb dX4_isHeight_6 rfl (lv_at hl 0 rfl) ?_
    refine lv_bipush (v := (99 : Int32)) hx hb dX4_isHeight_7 (by decide) ?_
    refine lv_icmp_gt (tgt := 16) hx hb dX4_isHeight_9 (by decide) (fun c3 => ?_) (fun c3 => ?_)
    · replace hR := (if_pos c3).symm.trans hR
      refine lv_iconst (v := (0 : Int32)) hx hb dX4_isHeight_16 (by decide) ?_
      obtain rfl := Option.some.inj hR
      exact kk_ret_z hC hr hlocks hK hP hD hS dX4_isHeight_17 (by decide) rfl
    · replace hR := (if_neg c3).symm.trans hR
      refine lv_iconst (v := (1 : Int32)) hx hb dX4_isHeight_12 (by decide) ?_
      refine lv_goto (tgt := 17) hx hb dX4_isHeight_13 (by decide) ?_
      obtain rfl := Option.some.inj hR
      exact kk_ret_z hC hr hlocks hK hP hD hS dX4_isHeight_17 (by decide) rfl
set_option maxHeartbeats 8000000 in
set_option maxRecDepth 100000 in
theorem sX4_isFloat (l : Launch) (g : kG) (n : Nat)  (v0 : Int32) (v1 : Int32) (v2 : Int32) (r : Int32) (hR : fX4_isFloat n v0 v1 v2 = some r) : kSp l g yX4_isFloat wsX4_isFloat ({ frames := 1, cells := 0, slots := 0, locals := 20 }) [.int v0, .int v1, .int v2] ([] : va_W) (kQi g ([] : va_W) r) := by
  refine kSp.of (cc := cX4_isFloat) (maxL := 3) (ret := (some .boolean)) (by decide) rfl (Nat.le_of_ble_eq_true rfl) ?_
  intro p e s m args below meth c ls A hC hr hlocks hA hK hl hP hD hS
  replace hC : CallFix p m c cX4_isFloat 3 s args wsX4_isFloat RX4 := hC
  obtain ⟨hx, hb, hml, hown, hts⟩ := id hC
  replace hl : lv_has ls 3 [(0, .int v0), (1, .int v1), (2, .int v2)] := hl
  unfold fX4_isFloat at hR
  refine lv_iload_n hx hb dX4_isFloat_0 rfl (lv_at hl 0 rfl) ?_
  refine lv_if_lt (tgt := 16) hx hb dX4_isFloat_1 (by decide) (fun c1 => ?_) (fun c1 => ?_)
  · replace hR := (if_pos c1).symm.trans hR
    refine lv_iconst (v := (0 : Int32)) hx hb dX4_isFloat_16 (by decide) ?_
    obtain rfl := Option.some.inj hR
    exact kk_ret_z hC hr hlocks hK hP hD hS dX4_isFloat_17 (by decide) rfl
  · replace hR := (if_neg c1).symm.trans hR
    refine lv_iload_n hx hb dX4_isFloat_4 rfl (lv_at hl 0 rfl) ?_
    refine lv_iconst (v := (4 : Int32)) hx hb dX4_isFloat_5 (by decide) ?_
    refine lv_icmp_ge (tgt := 16) hx hb dX4_isFloat_6 (by decide) (fun c3 => ?_) (fun c3 => ?_)
    · replace hR := (if_pos c3).symm.trans hR
      refine lv_iconst (v := (0 : Int32)) hx hb dX4_isFloat_16 (by decide) ?_
      obtain rfl := Option.some.inj hR
      exact kk_ret_z hC hr hlocks hK hP hD hS dX4_isFloat_17 (by decide) rfl
    · replace hR := (if_neg c3).symm.trans hR
      refine lv_iload_n hx hb dX4_isFloat_9 rfl (lv_at hl 1 rfl) ?_
      obtain ⟨x5, hq5, hR⟩ := kk_bd_el hR
      refine kk_call_Si (w' := ([] : va_W)) (As := [.int v1]) (rest := []) hC (sX4_isHeight l g n   v1 x5 hq5) (va_cwS 1 hts gX4_isFloat_X4_isHeight rfl rfl rfl (by decide +kernel) ⟨Nat.le_of_ble_eq_true rfl, Nat.le_of_ble_eq_true rfl⟩) hK hP hD hS hA [] rfl (by decide +kernel) rfl rfl rfl rfl hl.1 (Nat.le_of_ble_eq_true rfl) dX4_isFloat_10 (fun H locs hP hD hS => ?_)
      refine lv_if_ne (tgt := 18) hx hb dX4_isFloat_13 (by decide) (fun c6 => ?_) (fun c6 => ?_)
      · replace hR := (if_neg c6).symm.trans hR
        refine lv_iload_n hx hb dX4_isFloat_18 rfl (lv_at hl 2 rfl) ?_
        refine lv_if_lt (tgt := 41) hx hb dX4_isFloat_19 (by decide) (fun c7 => ?_) (fun c7 => ?_)
        · replace hR := (if_pos c7).symm.trans hR
          refine lv_iconst (v := (0 : Int32)) hx hb dX4_isFloat_41 (by decide) ?_
          obtain rfl := Option.some.inj hR
          exact kk_ret_z hC hr hlocks hK hP hD hS dX4_isFloat_42 (by decide) rfl
        · replace hR := (if_neg c7).symm.trans hR
          refine lv_iload_n hx hb dX4_isFloat_22 rfl (lv_at hl 2 rfl) ?_
          refine lv_iload_n hx hb dX4_isFloat_23 rfl (lv_at hl 0 rfl) ?_
          refine lv_iconst (v := (1 : Int32)) hx hb dX4_isFloat_24 (by decide) ?_
          obtain ⟨x10, hq10, hR⟩ := kk_bd_el hR
          refine kk_cut (g := g) (A := A) (w' := ([] : va_W)) (nL := 3) (lv := []) (pcJ := 34) (st := [.int x10, .int v2]) (fun H locs ls hP hD hS hl => ?_) (fun hj10 => ?_)
          · refine lv_icmp_gt (tgt := 41) hx hb dX4_isFloat_34 (by decide) (fun c12 => ?_) (fun c12 => ?_)
            · replace hR := (if_pos c12).symm.trans hR
              refine lv_iconst (v := (0 : Int32)) hx hb dX4_isFloat_41 (by decide) ?_
              obtain rfl := Option.some.inj hR
              exact kk_ret_z hC hr hlocks hK hP hD hS dX4_isFloat_42 (by decide) rfl
            · replace hR := (if_neg c12).symm.trans hR
              refine lv_iconst (v := (1 : Int32)) hx hb dX4_isFloat_37 (by decide) ?_
              refine lv_goto (tgt := 42) hx hb dX4_isFloat_38 (by decide) ?_
              obtain rfl := Option.some.inj hR
              exact kk_ret_z hC hr hlocks hK hP hD hS dX4_isFloat_42 (by decide) rfl
          replace hR := hq10
          refine lv_icmp_ne (tgt := 33) hx hb dX4_isFloat_25 (by decide) (fun c11 => ?_) (fun c11 => ?_)
          · replace hR := (if_neg c11).symm.trans hR
            refine lv_iconst (v := (0 : Int32)) hx hb dX4_isFloat_33 (by decide) ?_
            obtain rfl := Option.some.inj hR
            exact hj10 _ _ _ hP hD hS (lv_sub hl [] rfl)
          · replace hR := (if_pos c11).symm.trans hR
            refine lv_bipush (v := (15 : Int32)) hx hb dX4_isFloat_28 (by decide) ?_
            refine lv_goto (tgt := 34) hx hb dX4_isFloat_30 (by decide) ?_
            obtain rfl := Option.some.inj hR
            exact hj10 _ _ _ hP hD hS (lv_sub hl [] rfl)
      · replace hR := (if_pos c6).symm.trans hR
        refine lv_iconst (v := (0 : Int32)) hx hb dX4_isFloat_16 (by decide) ?_
        obtain rfl := Option.some.inj hR
        exact kk_ret_z hC hr hlocks hK hP hD hS dX4_isFloat_17 (by decide) rfl
set_option maxHeartbeats 8000000 in
set_option maxRecDepth 100000 in
theorem sX4_doBestExchange (l : Launch) (g : kG) (n : Nat) (a : Nat → Nat → Nat) (G : St2) (r : Int32 × St2) (hR : fX4_doBestExchange n G = some r) : kSp l g yX4_doBestExchange wsX4_doBestExchange ({ frames := 4, cells := 0, slots := 0, locals := 92 }) [.ref (a 0 0)] (w_F g a G) (kQi g (w_F g a r.2) r.1) := by
  refine kSp.of (cc := cX4_doBestExchange) (maxL := 5) (ret := (some .boolean)) (by decide) rfl (Nat.le_of_ble_eq_true rfl) ?_
  intro p e s m args below meth c ls A hC hr hlocks hA hK hl hP hD hS
  replace hC : CallFix p m c cX4_doBestExchange 5 s args wsX4_doBestExchange RX4 := hC
  obtain ⟨hx, hb, hml, hown, hts⟩ := id hC
  replace hl : lv_has ls 5 [(0, .ref (a 0 0))] := hl
  unfold fX4_doBestExchange at hR
  have hw2 : ∀ w ∈ wsX20, w ∈ wsX4_doBestExchange := by decide +kernel
  have hw4 : ∀ w ∈ wsX40, w ∈ wsX4_doBestExchange := by decide +kernel
  have hl0 := hts (.fieldLink RX4 29 "FloatOrder" "best" "LFloatOrder$Best;") (by decide +kernel)
  have hl1 := hts (.fieldLink RX4 10 "FloatOrder" "parade" "LFloatOrder$Parade;") (by decide +kernel)
  have hl2 := hts (.fieldLink RX4 48 "FloatOrder$Parade" "floats" "I") (by decide +kernel)
  refine lv_iconst (v := (-1 : Int32)) hx hb dX4_doBestExchange_0 (by decide) ?_
  refine lv_istore_n (lv' := [(1, .int (-1 : Int32)), (0, .ref (a 0 0))]) hx hb dX4_doBestExchange_1 rfl hl (by decide) rfl (fun ls hl => ?_)
  refine lv_iconst (v := (-1 : Int32)) hx hb dX4_doBestExchange_2 (by decide) ?_
  refine lv_istore_n (lv' := [(2, .int (-1 : Int32)), (1, .int (-1 : Int32)), (0, .ref (a 0 0))]) hx hb dX4_doBestExchange_3 rfl hl (by decide) rfl (fun ls hl => ?_)
  refine lv_aload_n hx hb dX4_doBestExchange_4 rfl (lv_at hl 2 rfl) ?_
  refine va_get (ci := 4) (C := RX4) (T := TX4) (N := 7) hx hb hts hw4 hown hK hP 0 rfl rfl 3 (by decide) hl0 (fun _ h9 => h9) rfl dX4_doBestExchange_5 ?_
  refine lv_aload_n hx hb dX4_doBestExchange_8 rfl (lv_at hl 2 rfl) ?_
  refine va_get (ci := 4) (C := RX4) (T := TX4) (N := 7) hx hb hts hw4 hown hK hP 0 rfl rfl 0 (by decide) hl1 (fun _ h9 => h9) rfl dX4_doBestExchange_9 ?_
  obtain ⟨x1, hq1, hR⟩ := kk_bd_el hR
  obtain ⟨G2, eG2, hR⟩ := kk_nm_el hR
  obtain ⟨G3, eG3, hR⟩ := kk_nm_el hR
  refine kk_call_Vv (w' := (w_F g a G3)) (As := [.ref (a 1 0)]) (rest := []) 22 0 hC (sX0_startAt l g n (a 3) (a 1) (G 3) (G 1)  x1 hq1) (cwV 1 hts gX4_doBestExchange_X0_startAt rfl rfl rfl (by decide +kernel) ⟨Nat.le_of_ble_eq_true rfl, Nat.le_of_ble_eq_true rfl⟩) hK hP hD hS hA [22, 2, 3, 4, 5, 6, 7, 8, 9, 10, 11] (kk_m2 (is1 := [22]) rfl (kk_ml 23 rfl (by decide +kernel) (kk_mr (js := [0]) 22 rfl (by decide +kernel) (kk_m0 1 (by decide +kernel) rfl))) (kk_ml 23 rfl (by decide +kernel) (kk_ml 22 rfl (by decide +kernel) (kk_ml 12 rfl (by decide +kernel) (kk_mr (js := [0, 1, 2, 3, 4, 5, 6, 7, 8, 9]) 2 rfl (by decide +kernel) (kk_m0 10 (by decide +kernel) rfl)))))) (by decide +kernel) rfl (by rw [eG3, eG2]; exact kk_set2 (is1 := [22]) rfl rfl (kk_sl 23 rfl (by decide +kernel) (kk_sr (js := [0]) 22 rfl (by decide +kernel) (kk_s0 1 (by decide +kernel) rfl rfl))) (kk_sl 23 rfl (by decide +kernel) (kk_sl 22 rfl (by decide +kernel) (kk_sl 12 rfl (by decide +kernel) (kk_sr (js := [0, 1, 2, 3, 4, 5, 6, 7, 8, 9]) 2 rfl (by decide +kernel) (kk_s0 10 (by decide +kernel) rfl rfl)))))) rfl rfl rfl rfl rfl hl.1 (Nat.le_of_ble_eq_true rfl) dX4_doBestExchange_12 (fun H locs hP hD hS => ?_)
  refine lv_iconst (v := (0 : Int32)) hx hb dX4_doBestExchange_15 (by decide) ?_
  refine lv_istore_n (lv' := [(3, .int (0 : Int32)), (2, .int (-1 : Int32)), (1, .int (-1 : Int32)), (0, .ref (a 0 0))]) hx hb dX4_doBestExchange_16 rfl hl (by decide) rfl (fun ls hl => ?_)
  obtain ⟨x46, hq46, hR⟩ := kk_bd_el hR
  refine kk_cut (g := g) (A := A) (w' := (w_F g a x46.2.2)) (nL := 5) (lv := [(2, .int x46.2.1), (1, .int x46.1), (0, .ref (a 0 0))]) (pcJ := 96) (st := []) (fun H locs ls hP hD hS hl => ?_) (fun hj46 => ?_)
  · refine lv_iload_n hx hb dX4_doBestExchange_96 rfl (lv_at hl 1 rfl) ?_
    refine lv_iconst (v := (-1 : Int32)) hx hb dX4_doBestExchange_97 (by decide) ?_
    refine lv_icmp_ne (tgt := 103) hx hb dX4_doBestExchange_98 (by decide) (fun c80 => ?_) (fun c80 => ?_)
    · replace hR := (if_neg c80).symm.trans hR
      refine lv_aload_n hx hb dX4_doBestExchange_103 rfl (lv_at hl 2 rfl) ?_
      refine va_get (ci := 4) (C := RX4) (T := TX4) (N := 7) hx hb hts hw4 hown hK hP 0 rfl rfl 0 (by decide) hl1 (fun _ h9 => h9) rfl dX4_doBestExchange_104 ?_
      refine lv_iload_n hx hb dX4_doBestExchange_107 rfl (lv_at hl 1 rfl) ?_
      refine lv_iload_n hx hb dX4_doBestExchange_108 rfl (lv_at hl 0 rfl) ?_
      obtain ⟨x81, hq81, hR⟩ := kk_bd_el hR
      obtain ⟨G82, eG82, hR⟩ := kk_nm_el hR
      refine kk_call_Vv (w' := (w_F g a G82)) (As := [.int x46.1, .int x46.2.1]) (rest := []) 2 2 hC (sX2_swap l g n (a 1) (x46.2.2 1) x46.1 x46.2.1 x81 hq81) (cwV 2 hts gX4_doBestExchange_X2_swap rfl rfl rfl (by decide +kernel) ⟨Nat.le_of_ble_eq_true rfl, Nat.le_of_ble_eq_true rfl⟩) hK hP hD hS hA [2, 3, 4, 5, 6, 7, 8, 9, 10, 11] (kk_ml 23 rfl (by decide +kernel) (kk_ml 22 rfl (by decide +kernel) (kk_ml 12 rfl (by decide +kernel) (kk_mr (js := [0, 1, 2, 3, 4, 5, 6, 7, 8, 9]) 2 rfl (by decide +kernel) (kk_m0 10 (by decide +kernel) rfl))))) (by decide +kernel) rfl (by rw [eG82]; exact kk_sl 23 rfl (by decide +kernel) (kk_sl 22 rfl (by decide +kernel) (kk_sl 12 rfl (by decide +kernel) (kk_sr (js := [0, 1, 2, 3, 4, 5, 6, 7, 8, 9]) 2 rfl (by decide +kernel) (kk_s0 10 (by decide +kernel) rfl rfl))))) rfl rfl rfl rfl rfl hl.1 (Nat.le_of_ble_eq_true rfl) dX4_doBestExchange_109 (fun H locs hP hD hS => ?_)
      refine lv_iconst (v := (1 : Int32)) hx hb dX4_doBestExchange_112 (by decide) ?_
      obtain rfl := Option.some.inj hR
      exact kk_ret_z hC hr hlocks hK hP hD hS dX4_doBestExchange_113 (by decide) rfl
    · replace hR := (if_pos c80).symm.trans hR
      refine lv_iconst (v := (0 : Int32)) hx hb dX4_doBestExchange_101 (by decide) ?_
      obtain rfl := Option.some.inj hR
      exact kk_ret_z hC hr hlocks hK hP hD hS dX4_doBestExchange_102 (by decide) rfl
  refine kk_loop (g := g) (A := A) (fun (st : Int32 × Int32 × Int32 × St2) => (w_F g a st.2.2.2)) (fun (st : Int32 × Int32 × Int32 × St2) => [(3, .int st.2.2.1), (2, .int st.2.1), (1, .int st.1), (0, .ref (a 0 0))]) 17 (nL := 5) hq46 (fun st xb45 hR ih2 hX2 => ?_) hP hD hS (lv_sub hl [0, 1, 2, 3] rfl)
  clear hP hD hS hl
  obtain ⟨u41, u42, u43, G44⟩ := st
  intro H locs ls hP hD hS hl
  replace hR : fX4_doBestExchange_b17 n u41 u42 u43 G44 = some xb45 := hR
  replace hP : va_P g.1 vwCl (w_F g a G44) H := hP
  replace hD : va_D A (w_F g a G44) := hD
  replace hl : lv_has ls 5 [(3, .int u43), (2, .int u42), (1, .int u41), (0, .ref (a 0 0))] := hl
  unfold fX4_doBestExchange_b17 at hR
  refine lv_iload_n hx hb dX4_doBestExchange_17 rfl (lv_at hl 0 rfl) ?_
  refine lv_aload_n hx hb dX4_doBestExchange_18 rfl (lv_at hl 3 rfl) ?_
  refine va_get (ci := 4) (C := RX4) (T := TX4) (N := 7) hx hb hts hw4 hown hK hP 0 rfl rfl 0 (by decide) hl1 (fun _ h9 => h9) rfl dX4_doBestExchange_19 ?_
  refine va_get (ci := 2) (C := RX2) (T := TX2) (N := 11) hx hb hts hw2 hown hK hP 2 rfl rfl 0 (by decide) hl2 (fun _ h9 => h9) rfl dX4_doBestExchange_22 ?_
  refine lv_icmp_ge (tgt := 96) hx hb dX4_doBestExchange_25 (by decide) (fun c47 => ?_) (fun c47 => ?_)
  · replace hR := (if_pos c47).symm.trans hR
    obtain rfl := Option.some.inj hR
    obtain rfl := hX2 _ rfl
    exact hj46 _ _ _ hP hD hS (lv_sub hl [1, 2, 3] rfl)
  · replace hR := (if_neg c47).symm.trans hR
    refine lv_iload_n hx hb dX4_doBestExchange_28 rfl (lv_at hl 0 rfl) ?_
    refine lv_iconst (v := (1 : Int32)) hx hb dX4_doBestExchange_29 (by decide) ?_
    refine lv_iadd hx hb dX4_doBestExchange_30 ?_
    refine lv_istore (lv' := [(4, .int (u43 + (1 : Int32))), (3, .int u43), (2, .int u42), (1, .int u41), (0, .ref (a 0 0))]) hx hb dX4_doBestExchange_31 hl (by decide) rfl (fun ls hl => ?_)
    obtain ⟨x68, hq68, hR⟩ := kk_bd_el hR
    refine kk_cut (g := g) (A := A) (w' := (w_F g a x68.2.2)) (nL := 5) (lv := [(3, .int u43), (2, .int x68.2.1), (1, .int x68.1), (0, .ref (a 0 0))]) (pcJ := 90) (st := []) (fun H locs ls hP hD hS hl => ?_) (fun hj68 => ?_)
    · refine lv_iinc (v := (u43 + (1 : Int32))) (lv' := [(3, .int (u43 + (1 : Int32))), (2, .int x68.2.1), (1, .int x68.1), (0, .ref (a 0 0))]) hx hb dX4_doBestExchange_90 hl (k := 0) rfl rfl (by decide) rfl (fun ls hl => ?_)
      refine lv_goto (tgt := 17) hx hb dX4_doBestExchange_93 (by decide) ?_
      obtain rfl := Option.some.inj hR
      exact ih2 _ rfl _ _ _ hP hD hS (lv_sub hl [0, 1, 2, 3] rfl)
    refine kk_loop (g := g) (A := A) (fun (st : Int32 × Int32 × Int32 × St2) => (w_F g a st.2.2.2)) (fun (st : Int32 × Int32 × Int32 × St2) => [(4, .int st.2.2.1), (3, .int u43), (2, .int st.2.1), (1, .int st.1), (0, .ref (a 0 0))]) 33 (nL := 5) hq68 (fun st xb67 hR ih3 hX3 => ?_) hP hD hS (lv_sub hl [0, 1, 2, 3, 4] rfl)
    clear hP hD hS hl
    obtain ⟨u63, u64, u65, G66⟩ := st
    intro H locs ls hP hD hS hl
    replace hR : fX4_doBestExchange_b33 n u43 u63 u64 u65 G66 = some xb67 := hR
    replace hP : va_P g.1 vwCl (w_F g a G66) H := hP
    replace hD : va_D A (w_F g a G66) := hD
    replace hl : lv_has ls 5 [(4, .int u65), (3, .int u43), (2, .int u64), (1, .int u63), (0, .ref (a 0 0))] := hl
    unfold fX4_doBestExchange_b33 at hR
    refine lv_iload hx hb dX4_doBestExchange_33 (lv_at hl 0 rfl) ?_
    refine lv_aload_n hx hb dX4_doBestExchange_35 rfl (lv_at hl 4 rfl) ?_
    refine va_get (ci := 4) (C := RX4) (T := TX4) (N := 7) hx hb hts hw4 hown hK hP 0 rfl rfl 0 (by decide) hl1 (fun _ h9 => h9) rfl dX4_doBestExchange_36 ?_
    refine va_get (ci := 2) (C := RX2) (T := TX2) (N := 11) hx hb hts hw2 hown hK hP 2 rfl rfl 0 (by decide) hl2 (fun _ h9 => h9) rfl dX4_doBestExchange_39 ?_
    refine lv_icmp_ge (tgt := 90) hx hb dX4_doBestExchange_42 (by decide) (fun c69 => ?_) (fun c69 => ?_)
    · replace hR := (if_pos c69).symm.trans hR
      obtain rfl := Option.some.inj hR
      obtain rfl := hX3 _ rfl
      exact hj68 _ _ _ hP hD hS (lv_sub hl [1, 2, 3, 4] rfl)
    · replace hR := (if_neg c69).symm.trans hR
      refine lv_aload_n hx hb dX4_doBestExchange_45 rfl (lv_at hl 4 rfl) ?_
      refine va_get (ci := 4) (C := RX4) (T := TX4) (N := 7) hx hb hts hw4 hown hK hP 0 rfl rfl 0 (by decide) hl1 (fun _ h9 => h9) rfl dX4_doBestExchange_46 ?_
      refine lv_iload_n hx hb dX4_doBestExchange_49 rfl (lv_at hl 1 rfl) ?_
      refine lv_iload hx hb dX4_doBestExchange_50 (lv_at hl 0 rfl) ?_
      obtain ⟨x70, hq70, hR⟩ := kk_bd_el hR
      obtain ⟨G71, eG71, hR⟩ := kk_nm_el hR
      refine kk_call_Vv (w' := (w_F g a G71)) (As := [.int u43, .int u65]) (rest := []) 2 2 hC (sX2_swap l g n (a 1) (G66 1) u43 u65 x70 hq70) (cwV 2 hts gX4_doBestExchange_X2_swap rfl rfl rfl (by decide +kernel) ⟨Nat.le_of_ble_eq_true rfl, Nat.le_of_ble_eq_true rfl⟩) hK hP hD hS hA [2, 3, 4, 5, 6, 7, 8, 9, 10, 11] (kk_ml 23 rfl (by decide +kernel) (kk_ml 22 rfl (by decide +kernel) (kk_ml 12 rfl (by decide +kernel) (kk_mr (js := [0, 1, 2, 3, 4, 5, 6, 7, 8, 9]) 2 rfl (by decide +kernel) (kk_m0 10 (by decide +kernel) rfl))))) (by decide +kernel) rfl (by rw [eG71]; exact kk_sl 23 rfl (by decide +kernel) (kk_sl 22 rfl (by decide +kernel) (kk_sl 12 rfl (by decide +kernel) (kk_sr (js := [0, 1, 2, 3, 4, 5, 6, 7, 8, 9]) 2 rfl (by decide +kernel) (kk_s0 10 (by decide +kernel) rfl rfl))))) rfl rfl rfl rfl rfl hl.1 (Nat.le_of_ble_eq_true rfl) dX4_doBestExchange_52 (fun H locs hP hD hS => ?_)
      refine lv_aload_n hx hb dX4_doBestExchange_55 rfl (lv_at hl 4 rfl) ?_
      refine va_get (ci := 4) (C := RX4) (T := TX4) (N := 7) hx hb hts hw4 hown hK hP 0 rfl rfl 3 (by decide) hl0 (fun _ h9 => h9) rfl dX4_doBestExchange_56 ?_
      refine lv_aload_n hx hb dX4_doBestExchange_59 rfl (lv_at hl 4 rfl) ?_
      refine va_get (ci := 4) (C := RX4) (T := TX4) (N := 7) hx hb hts hw4 hown hK hP 0 rfl rfl 0 (by decide) hl1 (fun _ h9 => h9) rfl dX4_doBestExchange_60 ?_
      obtain ⟨x72, hq72, hR⟩ := kk_bd_el hR
      obtain ⟨G73, eG73, hR⟩ := kk_nm_el hR
      obtain ⟨G74, eG74, hR⟩ := kk_nm_el hR
      refine kk_call_Vi (w' := (w_F g a G74)) (As := [.ref (a 1 0)]) (rest := []) 22 0 hC (sX0_isBeatenBy l g n (a 3) (a 1) (G71 3) (G71 1)  x72 hq72) (cwV 1 hts gX4_doBestExchange_X0_isBeatenBy rfl rfl rfl (by decide +kernel) ⟨Nat.le_of_ble_eq_true rfl, Nat.le_of_ble_eq_true rfl⟩) hK hP hD hS hA [22, 2, 3, 4, 5, 6, 7, 8, 9, 10, 11] (kk_m2 (is1 := [22]) rfl (kk_ml 23 rfl (by decide +kernel) (kk_mr (js := [0]) 22 rfl (by decide +kernel) (kk_m0 1 (by decide +kernel) rfl))) (kk_ml 23 rfl (by decide +kernel) (kk_ml 22 rfl (by decide +kernel) (kk_ml 12 rfl (by decide +kernel) (kk_mr (js := [0, 1, 2, 3, 4, 5, 6, 7, 8, 9]) 2 rfl (by decide +kernel) (kk_m0 10 (by decide +kernel) rfl)))))) (by decide +kernel) rfl (by rw [eG74, eG73]; exact kk_set2 (is1 := [22]) rfl rfl (kk_sl 23 rfl (by decide +kernel) (kk_sr (js := [0]) 22 rfl (by decide +kernel) (kk_s0 1 (by decide +kernel) rfl rfl))) (kk_sl 23 rfl (by decide +kernel) (kk_sl 22 rfl (by decide +kernel) (kk_sl 12 rfl (by decide +kernel) (kk_sr (js := [0, 1, 2, 3, 4, 5, 6, 7, 8, 9]) 2 rfl (by decide +kernel) (kk_s0 10 (by decide +kernel) rfl rfl)))))) rfl rfl rfl rfl rfl hl.1 (Nat.le_of_ble_eq_true rfl) dX4_doBestExchange_63 (fun H locs hP hD hS => ?_)
      obtain ⟨x76, hq76, hR⟩ := kk_bd_el hR
      refine kk_cut (g := g) (A := A) (w' := (w_F g a G74)) (nL := 5) (lv := [(4, .int u65), (3, .int u43), (2, .int x76.1), (1, .int x76.2), (0, .ref (a 0 0))]) (pcJ := 74) (st := []) (fun H locs ls hP hD hS hl => ?_) (fun hj76 => ?_)
      · refine lv_aload_n hx hb dX4_doBestExchange_74 rfl (lv_at hl 4 rfl) ?_
        refine va_get (ci := 4) (C := RX4) (T := TX4) (N := 7) hx hb hts hw4 hown hK hP 0 rfl rfl 0 (by decide) hl1 (fun _ h9 => h9) rfl dX4_doBestExchange_75 ?_
        refine lv_iload_n hx hb dX4_doBestExchange_78 rfl (lv_at hl 1 rfl) ?_
        refine lv_iload hx hb dX4_doBestExchange_79 (lv_at hl 0 rfl) ?_
        obtain ⟨x78, hq78, hR⟩ := kk_bd_el hR
        obtain ⟨G79, eG79, hR⟩ := kk_nm_el hR
        refine kk_call_Vv (w' := (w_F g a G79)) (As := [.int u43, .int u65]) (rest := []) 2 2 hC (sX2_swap l g n (a 1) (G74 1) u43 u65 x78 hq78) (cwV 2 hts gX4_doBestExchange_X2_swap rfl rfl rfl (by decide +kernel) ⟨Nat.le_of_ble_eq_true rfl, Nat.le_of_ble_eq_true rfl⟩) hK hP hD hS hA [2, 3, 4, 5, 6, 7, 8, 9, 10, 11] (kk_ml 23 rfl (by decide +kernel) (kk_ml 22 rfl (by decide +kernel) (kk_ml 12 rfl (by decide +kernel) (kk_mr (js := [0, 1, 2, 3, 4, 5, 6, 7, 8, 9]) 2 rfl (by decide +kernel) (kk_m0 10 (by decide +kernel) rfl))))) (by decide +kernel) rfl (by rw [eG79]; exact kk_sl 23 rfl (by decide +kernel) (kk_sl 22 rfl (by decide +kernel) (kk_sl 12 rfl (by decide +kernel) (kk_sr (js := [0, 1, 2, 3, 4, 5, 6, 7, 8, 9]) 2 rfl (by decide +kernel) (kk_s0 10 (by decide +kernel) rfl rfl))))) rfl rfl rfl rfl rfl hl.1 (Nat.le_of_ble_eq_true rfl) dX4_doBestExchange_81 (fun H locs hP hD hS => ?_)
        refine lv_iinc (v := (u65 + (1 : Int32))) (lv' := [(4, .int (u65 + (1 : Int32))), (3, .int u43), (2, .int x76.1), (1, .int x76.2), (0, .ref (a 0 0))]) hx hb dX4_doBestExchange_84 hl (k := 0) rfl rfl (by decide) rfl (fun ls hl => ?_)
        refine lv_goto (tgt := 33) hx hb dX4_doBestExchange_87 (by decide) ?_
        obtain rfl := Option.some.inj hR
        exact ih3 _ rfl _ _ _ hP hD hS (lv_sub hl [0, 1, 2, 3, 4] rfl)
      replace hR := hq76
      refine lv_if_eq (tgt := 74) hx hb dX4_doBestExchange_66 (by decide) (fun c77 => ?_) (fun c77 => ?_)
      · replace hR := (if_pos c77).symm.trans hR
        obtain rfl := Option.some.inj hR
        exact hj76 _ _ _ hP hD hS (lv_sub hl [0, 1, 2, 3, 4] rfl)
      · replace hR := (if_neg c77).symm.trans hR
        refine lv_iload_n hx hb dX4_doBestExchange_69 rfl (lv_at hl 1 rfl) ?_
        refine lv_istore_n (lv' := [(1, .int u43), (4, .int u65), (3, .int u43), (2, .int u64), (0, .ref (a 0 0))]) hx hb dX4_doBestExchange_70 rfl hl (by decide) rfl (fun ls hl => ?_)
        refine lv_iload hx hb dX4_doBestExchange_71 (lv_at hl 1 rfl) ?_
        refine lv_istore_n (lv' := [(2, .int u65), (1, .int u43), (4, .int u65), (3, .int u43), (0, .ref (a 0 0))]) hx hb dX4_doBestExchange_73 rfl hl (by decide) rfl (fun ls hl => ?_)
        obtain rfl := Option.some.inj hR
        exact hj76 _ _ _ hP hD hS (lv_sub hl [2, 3, 0, 1, 4] rfl)
set_option maxHeartbeats 8000000 in
set_option maxRecDepth 100000 in
theorem sX4_number (l : Launch) (g : kG) (n : Nat) (a : Nat → Nat → Nat) (h : Nat → Nat → Nat) (G : St2) (V : St2) (v1 : Int32) (r : Int32 × St2) (hR : fX4_number n G V v1 = some r) : kSp l g yX4_number wsX4_number ({ frames := 4, cells := 0, slots := 0, locals := 89 }) [.ref (a 0 0), .int v1] (w_F g a G ++ w_H g (a 0 2) h V) (kQi g (w_F g a r.2 ++ w_H g (a 0 2) h V) r.1) := by
  refine kSp.of (cc := cX4_number) (maxL := 2) (ret := (some .int)) (by decide) rfl (Nat.le_of_ble_eq_true rfl) ?_
  intro p e s m args below meth c ls A hC hr hlocks hA hK hl hP hD hS
  replace hC : CallFix p m c cX4_number 2 s args wsX4_number RX4 := hC
  obtain ⟨hx, hb, hml, hown, hts⟩ := id hC
  replace hl : lv_has ls 2 [(0, .ref (a 0 0)), (1, .int v1)] := hl
  unfold fX4_number at hR
  have hw1 : ∀ w ∈ wsX10, w ∈ wsX4_number := by decide +kernel
  have hw2 : ∀ w ∈ wsX20, w ∈ wsX4_number := by decide +kernel
  have hw4 : ∀ w ∈ wsX40, w ∈ wsX4_number := by decide +kernel
  have hl0 := hts (.fieldLink RX4 10 "FloatOrder" "parade" "LFloatOrder$Parade;") (by decide +kernel)
  have hl1 := hts (.fieldLink RX4 48 "FloatOrder$Parade" "floats" "I") (by decide +kernel)
  have hl2 := hts (.fieldLink RX4 117 "FloatOrder$Parade" "bridges" "I") (by decide +kernel)
  have hl3 := hts (.fieldLink RX4 22 "FloatOrder" "history" "LFloatOrder$History;") (by decide +kernel)
  have hl4 := hts (.fieldLink RX4 172 "FloatOrder$History" "size" "I") (by decide +kernel)
  refine lv_iload_n hx hb dX4_number_0 rfl (lv_at hl 1 rfl) ?_
  by_cases c1 : v1 = (0 : Int32)
  · replace hR := (if_pos c1).symm.trans hR
    refine lv_tableIn (off := 47) (tgt := 48) hx hb dX4_number_1 (by rw [c1]; decide) (by rw [c1]; decide) (by rw [c1]; rfl) (by decide) ?_
    refine lv_aload_n hx hb dX4_number_48 rfl (lv_at hl 0 rfl) ?_
    refine va_get (ci := 4) (C := RX4) (T := TX4) (N := 7) hx hb hts hw4 hown hK hP 0 rfl rfl 0 (by decide) hl0 (fun _ h9 => h9) rfl dX4_number_49 ?_
    refine va_get (ci := 2) (C := RX2) (T := TX2) (N := 11) hx hb hts hw2 hown hK hP 2 rfl rfl 0 (by decide) hl1 (fun _ h9 => h9) rfl dX4_number_52 ?_
    obtain rfl := Option.some.inj hR
    exact kk_ret_i hC hr hlocks hK hP hD hS dX4_number_55 rfl
  replace hR := (if_neg c1).symm.trans hR
  by_cases c2 : v1 = (1 : Int32)
  · replace hR := (if_pos c2).symm.trans hR
    refine lv_tableIn (off := 55) (tgt := 56) hx hb dX4_number_1 (by rw [c2]; decide) (by rw [c2]; decide) (by rw [c2]; rfl) (by decide) ?_
    refine lv_aload_n hx hb dX4_number_56 rfl (lv_at hl 0 rfl) ?_
    refine va_get (ci := 4) (C := RX4) (T := TX4) (N := 7) hx hb hts hw4 hown hK hP 0 rfl rfl 0 (by decide) hl0 (fun _ h9 => h9) rfl dX4_number_57 ?_
    refine va_get (ci := 2) (C := RX2) (T := TX2) (N := 11) hx hb hts hw2 hown hK hP 2 rfl rfl 5 (by decide) hl2 (fun _ h9 => h9) rfl dX4_number_60 ?_
    obtain rfl := Option.some.inj hR
    exact kk_ret_i hC hr hlocks hK hP hD hS dX4_number_63 rfl
  replace hR := (if_neg c2).symm.trans hR
  by_cases c3 : v1 = (2 : Int32)
  · replace hR := (if_pos c3).symm.trans hR
    refine lv_tableIn (off := 63) (tgt := 64) hx hb dX4_number_1 (by rw [c3]; decide) (by rw [c3]; decide) (by rw [c3]; rfl) (by decide) ?_
    refine lv_aload_n hx hb dX4_number_64 rfl (lv_at hl 0 rfl) ?_
    refine va_get (ci := 4) (C := RX4) (T := TX4) (N := 7) hx hb hts hw4 hown hK hP 0 rfl rfl 0 (by decide) hl0 (fun _ h9 => h9) rfl dX4_number_65 ?_
    obtain ⟨x4, hq4, hR⟩ := kk_bd_el hR
    refine kk_call_Vi (w' := (w_F g a G ++ w_H g (a 0 2) h V)) (As := []) (rest := []) 2 2 hC (sX2_allTrouble l g n (a 1) (G 1)  x4 hq4) (cwV 0 hts gX4_number_X2_allTrouble rfl rfl rfl (by decide +kernel) ⟨Nat.le_of_ble_eq_true rfl, Nat.le_of_ble_eq_true rfl⟩) hK hP hD hS hA [2, 3, 4, 5, 6, 7, 8, 9, 10, 11] (kk_ml 24 rfl (by decide +kernel) (kk_ml 23 rfl (by decide +kernel) (kk_ml 22 rfl (by decide +kernel) (kk_ml 12 rfl (by decide +kernel) (kk_mr (js := [0, 1, 2, 3, 4, 5, 6, 7, 8, 9]) 2 rfl (by decide +kernel) (kk_m0 10 (by decide +kernel) rfl)))))) (by decide +kernel) rfl (kk_sl 24 rfl (by decide +kernel) (kk_sl 23 rfl (by decide +kernel) (kk_sl 22 rfl (by decide +kernel) (kk_sl 12 rfl (by decide +kernel) (kk_sr (js := [0, 1, 2, 3, 4, 5, 6, 7, 8, 9]) 2 rfl (by decide +kernel) (kk_s0 10 (by decide +kernel) rfl rfl)))))) rfl rfl rfl rfl rfl hl.1 (Nat.le_of_ble_eq_true rfl) dX4_number_68 (fun H locs hP hD hS => ?_)
    obtain rfl := Option.some.inj hR
    exact kk_ret_i hC hr hlocks hK hP hD hS dX4_number_71 rfl
  replace hR := (if_neg c3).symm.trans hR
  by_cases c5 : v1 = (3 : Int32)
  · replace hR := (if_pos c5).symm.trans hR
    refine lv_tableIn (off := 71) (tgt := 72) hx hb dX4_number_1 (by rw [c5]; decide) (by rw [c5]; decide) (by rw [c5]; rfl) (by decide) ?_
    refine lv_aload_n hx hb dX4_number_72 rfl (lv_at hl 0 rfl) ?_
    refine va_get (ci := 4) (C := RX4) (T := TX4) (N := 7) hx hb hts hw4 hown hK hP 0 rfl rfl 0 (by decide) hl0 (fun _ h9 => h9) rfl dX4_number_73 ?_
    obtain ⟨x6, hq6, hR⟩ := kk_bd_el hR
    obtain ⟨G7, eG7, hR⟩ := kk_nm_el hR
    refine kk_call_Vi (w' := (w_F g a G7 ++ w_H g (a 0 2) h V)) (As := []) (rest := []) 2 2 hC (sX2_end l g n (a 1) (G 1)  x6 hq6) (cwV 0 hts gX4_number_X2_end rfl rfl rfl (by decide +kernel) ⟨Nat.le_of_ble_eq_true rfl, Nat.le_of_ble_eq_true rfl⟩) hK hP hD hS hA [2, 3, 4, 5, 6, 7, 8, 9, 10, 11] (kk_ml 24 rfl (by decide +kernel) (kk_ml 23 rfl (by decide +kernel) (kk_ml 22 rfl (by decide +kernel) (kk_ml 12 rfl (by decide +kernel) (kk_mr (js := [0, 1, 2, 3, 4, 5, 6, 7, 8, 9]) 2 rfl (by decide +kernel) (kk_m0 10 (by decide +kernel) rfl)))))) (by decide +kernel) rfl (by rw [eG7]; exact kk_sl 24 rfl (by decide +kernel) (kk_sl 23 rfl (by decide +kernel) (kk_sl 22 rfl (by decide +kernel) (kk_sl 12 rfl (by decide +kernel) (kk_sr (js := [0, 1, 2, 3, 4, 5, 6, 7, 8, 9]) 2 rfl (by decide +kernel) (kk_s0 10 (by decide +kernel) rfl rfl)))))) rfl rfl rfl rfl rfl hl.1 (Nat.le_of_ble_eq_true rfl) dX4_number_76 (fun H locs hP hD hS => ?_)
    obtain rfl := Option.some.inj hR
    exact kk_ret_i hC hr hlocks hK hP hD hS dX4_number_79 rfl
  replace hR := (if_neg c5).symm.trans hR
  by_cases c8 : v1 = (4 : Int32)
  · replace hR := (if_pos c8).symm.trans hR
    refine lv_tableIn (off := 79) (tgt := 80) hx hb dX4_number_1 (by rw [c8]; decide) (by rw [c8]; decide) (by rw [c8]; rfl) (by decide) ?_
    refine lv_aload_n hx hb dX4_number_80 rfl (lv_at hl 0 rfl) ?_
    refine va_get (ci := 4) (C := RX4) (T := TX4) (N := 7) hx hb hts hw4 hown hK hP 0 rfl rfl 0 (by decide) hl0 (fun _ h9 => h9) rfl dX4_number_81 ?_
    obtain ⟨x9, hq9, hR⟩ := kk_bd_el hR
    refine kk_call_Vi (w' := (w_F g a G ++ w_H g (a 0 2) h V)) (As := []) (rest := []) 2 2 hC (sX2_loweredFloats l g n (a 1) (G 1)  x9 hq9) (cwV 0 hts gX4_number_X2_loweredFloats rfl rfl rfl (by decide +kernel) ⟨Nat.le_of_ble_eq_true rfl, Nat.le_of_ble_eq_true rfl⟩) hK hP hD hS hA [2, 3, 4, 5, 6, 7, 8, 9, 10, 11] (kk_ml 24 rfl (by decide +kernel) (kk_ml 23 rfl (by decide +kernel) (kk_ml 22 rfl (by decide +kernel) (kk_ml 12 rfl (by decide +kernel) (kk_mr (js := [0, 1, 2, 3, 4, 5, 6, 7, 8, 9]) 2 rfl (by decide +kernel) (kk_m0 10 (by decide +kernel) rfl)))))) (by decide +kernel) rfl (kk_sl 24 rfl (by decide +kernel) (kk_sl 23 rfl (by decide +kernel) (kk_sl 22 rfl (by decide +kernel) (kk_sl 12 rfl (by decide +kernel) (kk_sr (js := [0, 1, 2, 3, 4, 5, 6, 7, 8, 9]) 2 rfl (by decide +kernel) (kk_s0 10 (by decide +kernel) rfl rfl)))))) rfl rfl rfl rfl rfl hl.1 (Nat.le_of_ble_eq_true rfl) dX4_number_84 (fun H locs hP hD hS => ?_)
    obtain rfl := Option.some.inj hR
    exact kk_ret_i hC hr hlocks hK hP hD hS dX4_number_87 rfl
  replace hR := (if_neg c8).symm.trans hR
  by_cases c10 : v1 = (5 : Int32)
  · replace hR := (if_pos c10).symm.trans hR
    refine lv_tableIn (off := 87) (tgt := 88) hx hb dX4_number_1 (by rw [c10]; decide) (by rw [c10]; decide) (by rw [c10]; rfl) (by decide) ?_
    refine lv_aload_n hx hb dX4_number_88 rfl (lv_at hl 0 rfl) ?_
    refine va_get (ci := 4) (C := RX4) (T := TX4) (N := 7) hx hb hts hw4 hown hK hP 0 rfl rfl 0 (by decide) hl0 (fun _ h9 => h9) rfl dX4_number_89 ?_
    obtain ⟨x11, hq11, hR⟩ := kk_bd_el hR
    refine kk_call_Vi (w' := (w_F g a G ++ w_H g (a 0 2) h V)) (As := []) (rest := []) 2 2 hC (sX2_troubledFloats l g n (a 1) (G 1)  x11 hq11) (cwV 0 hts gX4_number_X2_troubledFloats rfl rfl rfl (by decide +kernel) ⟨Nat.le_of_ble_eq_true rfl, Nat.le_of_ble_eq_true rfl⟩) hK hP hD hS hA [2, 3, 4, 5, 6, 7, 8, 9, 10, 11] (kk_ml 24 rfl (by decide +kernel) (kk_ml 23 rfl (by decide +kernel) (kk_ml 22 rfl (by decide +kernel) (kk_ml 12 rfl (by decide +kernel) (kk_mr (js := [0, 1, 2, 3, 4, 5, 6, 7, 8, 9]) 2 rfl (by decide +kernel) (kk_m0 10 (by decide +kernel) rfl)))))) (by decide +kernel) rfl (kk_sl 24 rfl (by decide +kernel) (kk_sl 23 rfl (by decide +kernel) (kk_sl 22 rfl (by decide +kernel) (kk_sl 12 rfl (by decide +kernel) (kk_sr (js := [0, 1, 2, 3, 4, 5, 6, 7, 8, 9]) 2 rfl (by decide +kernel) (kk_s0 10 (by decide +kernel) rfl rfl)))))) rfl rfl rfl rfl rfl hl.1 (Nat.le_of_ble_eq_true rfl) dX4_number_92 (fun H locs hP hD hS => ?_)
    obtain rfl := Option.some.inj hR
    exact kk_ret_i hC hr hlocks hK hP hD hS dX4_number_95 rfl
  replace hR := (if_neg c10).symm.trans hR
  by_cases c12 : v1 = (6 : Int32)
  · replace hR := (if_pos c12).symm.trans hR
    refine lv_tableIn (off := 95) (tgt := 96) hx hb dX4_number_1 (by rw [c12]; decide) (by rw [c12]; decide) (by rw [c12]; rfl) (by decide) ?_
    refine lv_aload_n hx hb dX4_number_96 rfl (lv_at hl 0 rfl) ?_
    refine va_get (ci := 4) (C := RX4) (T := TX4) (N := 7) hx hb hts hw4 hown hK hP 0 rfl rfl 0 (by decide) hl0 (fun _ h9 => h9) rfl dX4_number_97 ?_
    obtain ⟨x13, hq13, hR⟩ := kk_bd_el hR
    obtain ⟨G14, eG14, hR⟩ := kk_nm_el hR
    refine kk_call_Vi (w' := (w_F g a G14 ++ w_H g (a 0 2) h V)) (As := []) (rest := []) 2 2 hC (sX2_waiting l g n (a 1) (G 1)  x13 hq13) (cwV 0 hts gX4_number_X2_waiting rfl rfl rfl (by decide +kernel) ⟨Nat.le_of_ble_eq_true rfl, Nat.le_of_ble_eq_true rfl⟩) hK hP hD hS hA [2, 3, 4, 5, 6, 7, 8, 9, 10, 11] (kk_ml 24 rfl (by decide +kernel) (kk_ml 23 rfl (by decide +kernel) (kk_ml 22 rfl (by decide +kernel) (kk_ml 12 rfl (by decide +kernel) (kk_mr (js := [0, 1, 2, 3, 4, 5, 6, 7, 8, 9]) 2 rfl (by decide +kernel) (kk_m0 10 (by decide +kernel) rfl)))))) (by decide +kernel) rfl (by rw [eG14]; exact kk_sl 24 rfl (by decide +kernel) (kk_sl 23 rfl (by decide +kernel) (kk_sl 22 rfl (by decide +kernel) (kk_sl 12 rfl (by decide +kernel) (kk_sr (js := [0, 1, 2, 3, 4, 5, 6, 7, 8, 9]) 2 rfl (by decide +kernel) (kk_s0 10 (by decide +kernel) rfl rfl)))))) rfl rfl rfl rfl rfl hl.1 (Nat.le_of_ble_eq_true rfl) dX4_number_100 (fun H locs hP hD hS => ?_)
    obtain rfl := Option.some.inj hR
    exact kk_ret_i hC hr hlocks hK hP hD hS dX4_number_103 rfl
  replace hR := (if_neg c12).symm.trans hR
  by_cases c15 : v1 = (7 : Int32)
  · replace hR := (if_pos c15).symm.trans hR
    refine lv_tableIn (off := 103) (tgt := 104) hx hb dX4_number_1 (by rw [c15]; decide) (by rw [c15]; decide) (by rw [c15]; rfl) (by decide) ?_
    refine lv_aload_n hx hb dX4_number_104 rfl (lv_at hl 0 rfl) ?_
    refine va_get (ci := 4) (C := RX4) (T := TX4) (N := 7) hx hb hts hw4 hown hK hP 0 rfl rfl 0 (by decide) hl0 (fun _ h9 => h9) rfl dX4_number_105 ?_
    obtain ⟨x16, hq16, hR⟩ := kk_bd_el hR
    refine kk_call_Vi (w' := (w_F g a G ++ w_H g (a 0 2) h V)) (As := []) (rest := []) 2 2 hC (sX2_greatestHeight l g n (a 1) (G 1)  x16 hq16) (cwV 0 hts gX4_number_X2_greatestHeight rfl rfl rfl (by decide +kernel) ⟨Nat.le_of_ble_eq_true rfl, Nat.le_of_ble_eq_true rfl⟩) hK hP hD hS hA [2, 3, 4, 5, 6, 7, 8, 9, 10, 11] (kk_ml 24 rfl (by decide +kernel) (kk_ml 23 rfl (by decide +kernel) (kk_ml 22 rfl (by decide +kernel) (kk_ml 12 rfl (by decide +kernel) (kk_mr (js := [0, 1, 2, 3, 4, 5, 6, 7, 8, 9]) 2 rfl (by decide +kernel) (kk_m0 10 (by decide +kernel) rfl)))))) (by decide +kernel) rfl (kk_sl 24 rfl (by decide +kernel) (kk_sl 23 rfl (by decide +kernel) (kk_sl 22 rfl (by decide +kernel) (kk_sl 12 rfl (by decide +kernel) (kk_sr (js := [0, 1, 2, 3, 4, 5, 6, 7, 8, 9]) 2 rfl (by decide +kernel) (kk_s0 10 (by decide +kernel) rfl rfl)))))) rfl rfl rfl rfl rfl hl.1 (Nat.le_of_ble_eq_true rfl) dX4_number_108 (fun H locs hP hD hS => ?_)
    obtain rfl := Option.some.inj hR
    exact kk_ret_i hC hr hlocks hK hP hD hS dX4_number_111 rfl
  replace hR := (if_neg c15).symm.trans hR
  have m0 := lv_neT (k := (0 : Int32)) (a := 0) c1 rfl
  have m1 := lv_neT (k := (1 : Int32)) (a := 1) c2 rfl
  have m2 := lv_neT (k := (2 : Int32)) (a := 2) c3 rfl
  have m3 := lv_neT (k := (3 : Int32)) (a := 3) c5 rfl
  have m4 := lv_neT (k := (4 : Int32)) (a := 4) c8 rfl
  have m5 := lv_neT (k := (5 : Int32)) (a := 5) c10 rfl
  have m6 := lv_neT (k := (6 : Int32)) (a := 6) c12 rfl
  have m7 := lv_neT (k := (7 : Int32)) (a := 7) c15 rfl
  refine lv_tableOut (tgt := 112) hx hb dX4_number_1 (by omega) (by decide) ?_
  refine lv_aload_n hx hb dX4_number_112 rfl (lv_at hl 0 rfl) ?_
  refine va_get (ci := 4) (C := RX4) (T := TX4) (N := 7) hx hb hts hw4 hown hK hP 0 rfl rfl 2 (by decide) hl3 (fun _ h9 => h9) rfl dX4_number_113 ?_
  refine va_get (ci := 1) (C := RX1) (T := TX1) (N := 2) hx hb hts hw1 hown hK hP 24 rfl rfl 1 (by decide) hl4 (fun _ h9 => h9) rfl dX4_number_116 ?_
  obtain rfl := Option.some.inj hR
  exact kk_ret_i hC hr hlocks hK hP hD hS dX4_number_119 rfl