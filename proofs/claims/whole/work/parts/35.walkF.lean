set_option maxHeartbeats 8000000 in
set_option maxRecDepth 100000 in
theorem sX4_needFloat (l : Launch) (g : kG) (n : Nat) (a : Nat → Nat → Nat) (G : St2) (v1 : Int32) (r : Unit) (hR : fX4_needFloat n G v1 = some (.inr r)) : kSp l g yX4_needFloat wsX4_needFloat ({ frames := 0, cells := 0, slots := 0, locals := 0 }) [.ref (a 0 0), .int v1] (w_F g a G) (kQv g (w_F g a G)) := by
  refine kSp.of (cc := cX4_needFloat) (maxL := 2) (ret := none) (by decide) rfl (Nat.le_of_ble_eq_true rfl) ?_
  intro p e s m args below meth c ls A hC hr hlocks hA hK hl hP hD hS
  replace hC : CallFix p m c cX4_needFloat 2 s args wsX4_needFloat RX4 := hC
  obtain ⟨hx, hb, hml, hown, hts⟩ := id hC
  replace hl : lv_has ls 2 [(0, .ref (a 0 0)), (1, .int v1)] := hl
  unfold fX4_needFloat at hR
  have hw2 : ∀ w ∈ wsX20, w ∈ wsX4_needFloat := by decide +kernel
  have hw4 : ∀ w ∈ wsX40, w ∈ wsX4_needFloat := by decide +kernel
  have hl0 := hts (.fieldLink RX4 10 "FloatOrder" "parade" "LFloatOrder$Parade;") (by decide +kernel)
  have hl1 := hts (.fieldLink RX4 48 "FloatOrder$Parade" "floats" "I") (by decide +kernel)
  refine lv_iload_n hx hb dX4_needFloat_0 rfl (lv_at hl 1 rfl) ?_
  refine lv_if_lt (tgt := 15) hx hb dX4_needFloat_1 (by decide) (fun c1 => ?_) (fun c1 => ?_)
  · replace hR := (if_pos c1).symm.trans hR
    cases hR
  · replace hR := (if_neg c1).symm.trans hR
    refine lv_iload_n hx hb dX4_needFloat_4 rfl (lv_at hl 1 rfl) ?_
    refine lv_aload_n hx hb dX4_needFloat_5 rfl (lv_at hl 0 rfl) ?_
    refine va_get (ci := 4) (C := RX4) (T := TX4) (N := 7) hx hb hts hw4 hown hK hP 0 rfl rfl 0 (by decide) hl0 (fun _ h9 => h9) rfl dX4_needFloat_6 ?_
    refine va_get (ci := 2) (C := RX2) (T := TX2) (N := 11) hx hb hts hw2 hown hK hP 2 rfl rfl 0 (by decide) hl1 (fun _ h9 => h9) rfl dX4_needFloat_9 ?_
    refine lv_icmp_lt (tgt := 25) hx hb dX4_needFloat_12 (by decide) (fun c2 => ?_) (fun c2 => ?_)
    · replace hR := (if_pos c2).symm.trans hR
      obtain rfl := Sum.inr.inj (Option.some.inj hR)
      exact kk_ret_v hC hr hlocks hK hP hD hS dX4_needFloat_25
    · replace hR := (if_neg c2).symm.trans hR
      cases hR
set_option maxHeartbeats 8000000 in
set_option maxRecDepth 100000 in
theorem sX4_needFloat_th (l : Launch) (hst : l.stackTraces = false) (g : kG) (n : Nat) (a : Nat → Nat → Nat) (G : St2) (v1 : Int32) (k : Nat) (hR : fX4_needFloat n G v1 = some (.inl k)) : kSt l g yX4_needFloat wsX4_needFloat ({ frames := 6, cells := 1, slots := 6, locals := 90 }) [.ref (a 0 0), .int v1] (w_F g a G) (w_F g a G) k := by
  refine kSt.of (cc := cX4_needFloat) (maxL := 2) (ret := none) (by decide) rfl (Nat.le_of_ble_eq_true rfl) ?_
  intro p e s m args below meth c ls A hC hlocks hno hA hK hG hl hP hD hS
  replace hC : CallFix p m c cX4_needFloat 2 s args wsX4_needFloat RX4 := hC
  obtain ⟨hx, hb, hml, hown, hts⟩ := id hC
  replace hl : lv_has ls 2 [(0, .ref (a 0 0)), (1, .int v1)] := hl
  unfold fX4_needFloat at hR
  have hw2 : ∀ w ∈ wsX20, w ∈ wsX4_needFloat := by decide +kernel
  have hw4 : ∀ w ∈ wsX40, w ∈ wsX4_needFloat := by decide +kernel
  have hl0 := hts (.classLink RX4 51 "java/lang/IndexOutOfBoundsException") (by decide +kernel)
  have hl1 := hts (.initialized "java/lang/IndexOutOfBoundsException") (by decide +kernel)
  have hl2 := hts (.fieldLink RX4 10 "FloatOrder" "parade" "LFloatOrder$Parade;") (by decide +kernel)
  have hl3 := hts (.fieldLink RX4 48 "FloatOrder$Parade" "floats" "I") (by decide +kernel)
  refine lv_iload_n hx hb dX4_needFloat_0 rfl (lv_at hl 1 rfl) ?_
  refine lv_if_lt (tgt := 15) hx hb dX4_needFloat_1 (by decide) (fun c1 => ?_) (fun c1 => ?_)
  · replace hR := (if_pos c1).symm.trans hR
    obtain rfl := Sum.inl.inj (Option.some.inj hR)
    exact kk_throw (names := ["java/lang/RuntimeException", "java/lang/Exception"]) (text := "no such float") (k := 1) hC hst hlocks hno hK hG hP hD hS hA rfl rfl (by decide +kernel) (by decide +kernel) (by decide +kernel) hl0 hl1 (by decide +kernel) (by decide +kernel) (by decide +kernel) hl.1 dX4_needFloat_15 dX4_needFloat_18 dX4_needFloat_19 dX4_needFloat_21 dX4_needFloat_24 ⟨Nat.le_of_ble_eq_true rfl, Nat.le_of_ble_eq_true rfl, Nat.le_of_ble_eq_true rfl, Nat.le_of_ble_eq_true rfl⟩
  · replace hR := (if_neg c1).symm.trans hR
    refine lv_iload_n hx hb dX4_needFloat_4 rfl (lv_at hl 1 rfl) ?_
    refine lv_aload_n hx hb dX4_needFloat_5 rfl (lv_at hl 0 rfl) ?_
    refine va_get (ci := 4) (C := RX4) (T := TX4) (N := 7) hx hb hts hw4 hown hK hP 0 rfl rfl 0 (by decide) hl2 (fun _ h9 => h9) rfl dX4_needFloat_6 ?_
    refine va_get (ci := 2) (C := RX2) (T := TX2) (N := 11) hx hb hts hw2 hown hK hP 2 rfl rfl 0 (by decide) hl3 (fun _ h9 => h9) rfl dX4_needFloat_9 ?_
    refine lv_icmp_lt (tgt := 25) hx hb dX4_needFloat_12 (by decide) (fun c2 => ?_) (fun c2 => ?_)
    · replace hR := (if_pos c2).symm.trans hR
      cases hR
    · replace hR := (if_neg c2).symm.trans hR
      obtain rfl := Sum.inl.inj (Option.some.inj hR)
      exact kk_throw (names := ["java/lang/RuntimeException", "java/lang/Exception"]) (text := "no such float") (k := 1) hC hst hlocks hno hK hG hP hD hS hA rfl rfl (by decide +kernel) (by decide +kernel) (by decide +kernel) hl0 hl1 (by decide +kernel) (by decide +kernel) (by decide +kernel) hl.1 dX4_needFloat_15 dX4_needFloat_18 dX4_needFloat_19 dX4_needFloat_21 dX4_needFloat_24 ⟨Nat.le_of_ble_eq_true rfl, Nat.le_of_ble_eq_true rfl, Nat.le_of_ble_eq_true rfl, Nat.le_of_ble_eq_true rfl⟩
set_option maxHeartbeats 8000000 in
set_option maxRecDepth 100000 in
theorem sX4_needBridge (l : Launch) (g : kG) (n : Nat) (a : Nat → Nat → Nat) (G : St2) (v1 : Int32) (r : Unit) (hR : fX4_needBridge n G v1 = some (.inr r)) : kSp l g yX4_needBridge wsX4_needBridge ({ frames := 0, cells := 0, slots := 0, locals := 0 }) [.ref (a 0 0), .int v1] (w_F g a G) (kQv g (w_F g a G)) := by
  refine kSp.of (cc := cX4_needBridge) (maxL := 2) (ret := none) (by decide) rfl (Nat.le_of_ble_eq_true rfl) ?_
  intro p e s m args below meth c ls A hC hr hlocks hA hK hl hP hD hS
  replace hC : CallFix p m c cX4_needBridge 2 s args wsX4_needBridge RX4 := hC
  obtain ⟨hx, hb, hml, hown, hts⟩ := id hC
  replace hl : lv_has ls 2 [(0, .ref (a 0 0)), (1, .int v1)] := hl
  unfold fX4_needBridge at hR
  have hw2 : ∀ w ∈ wsX20, w ∈ wsX4_needBridge := by decide +kernel
  have hw4 : ∀ w ∈ wsX40, w ∈ wsX4_needBridge := by decide +kernel
  have hl0 := hts (.fieldLink RX4 10 "FloatOrder" "parade" "LFloatOrder$Parade;") (by decide +kernel)
  have hl1 := hts (.fieldLink RX4 117 "FloatOrder$Parade" "bridges" "I") (by decide +kernel)
  refine lv_iload_n hx hb dX4_needBridge_0 rfl (lv_at hl 1 rfl) ?_
  refine lv_if_lt (tgt := 15) hx hb dX4_needBridge_1 (by decide) (fun c1 => ?_) (fun c1 => ?_)
  · replace hR := (if_pos c1).symm.trans hR
    cases hR
  · replace hR := (if_neg c1).symm.trans hR
    refine lv_iload_n hx hb dX4_needBridge_4 rfl (lv_at hl 1 rfl) ?_
    refine lv_aload_n hx hb dX4_needBridge_5 rfl (lv_at hl 0 rfl) ?_
    refine va_get (ci := 4) (C := RX4) (T := TX4) (N := 7) hx hb hts hw4 hown hK hP 0 rfl rfl 0 (by decide) hl0 (fun _ h9 => h9) rfl dX4_needBridge_6 ?_
    refine va_get (ci := 2) (C := RX2) (T := TX2) (N := 11) hx hb hts hw2 hown hK hP 2 rfl rfl 5 (by decide) hl1 (fun _ h9 => h9) rfl dX4_needBridge_9 ?_
    refine lv_icmp_lt (tgt := 25) hx hb dX4_needBridge_12 (by decide) (fun c2 => ?_) (fun c2 => ?_)
    · replace hR := (if_pos c2).symm.trans hR
      obtain rfl := Sum.inr.inj (Option.some.inj hR)
      exact kk_ret_v hC hr hlocks hK hP hD hS dX4_needBridge_25
    · replace hR := (if_neg c2).symm.trans hR
      cases hR
set_option maxHeartbeats 8000000 in
set_option maxRecDepth 100000 in
theorem sX4_needBridge_th (l : Launch) (hst : l.stackTraces = false) (g : kG) (n : Nat) (a : Nat → Nat → Nat) (G : St2) (v1 : Int32) (k : Nat) (hR : fX4_needBridge n G v1 = some (.inl k)) : kSt l g yX4_needBridge wsX4_needBridge ({ frames := 6, cells := 1, slots := 6, locals := 90 }) [.ref (a 0 0), .int v1] (w_F g a G) (w_F g a G) k := by
  refine kSt.of (cc := cX4_needBridge) (maxL := 2) (ret := none) (by decide) rfl (Nat.le_of_ble_eq_true rfl) ?_
  intro p e s m args below meth c ls A hC hlocks hno hA hK hG hl hP hD hS
  replace hC : CallFix p m c cX4_needBridge 2 s args wsX4_needBridge RX4 := hC
  obtain ⟨hx, hb, hml, hown, hts⟩ := id hC
  replace hl : lv_has ls 2 [(0, .ref (a 0 0)), (1, .int v1)] := hl
  unfold fX4_needBridge at hR
  have hw2 : ∀ w ∈ wsX20, w ∈ wsX4_needBridge := by decide +kernel
  have hw4 : ∀ w ∈ wsX40, w ∈ wsX4_needBridge := by decide +kernel
  have hl0 := hts (.classLink RX4 51 "java/lang/IndexOutOfBoundsException") (by decide +kernel)
  have hl1 := hts (.initialized "java/lang/IndexOutOfBoundsException") (by decide +kernel)
  have hl2 := hts (.fieldLink RX4 10 "FloatOrder" "parade" "LFloatOrder$Parade;") (by decide +kernel)
  have hl3 := hts (.fieldLink RX4 117 "FloatOrder$Parade" "bridges" "I") (by decide +kernel)
  refine lv_iload_n hx hb dX4_needBridge_0 rfl (lv_at hl 1 rfl) ?_
  refine lv_if_lt (tgt := 15) hx hb dX4_needBridge_1 (by decide) (fun c1 => ?_) (fun c1 => ?_)
  · replace hR := (if_pos c1).symm.trans hR
    obtain rfl := Sum.inl.inj (Option.some.inj hR)
    exact kk_throw (names := ["java/lang/RuntimeException", "java/lang/Exception"]) (text := "no such bridge") (k := 1) hC hst hlocks hno hK hG hP hD hS hA rfl rfl (by decide +kernel) (by decide +kernel) (by decide +kernel) hl0 hl1 (by decide +kernel) (by decide +kernel) (by decide +kernel) hl.1 dX4_needBridge_15 dX4_needBridge_18 dX4_needBridge_19 dX4_needBridge_21 dX4_needBridge_24 ⟨Nat.le_of_ble_eq_true rfl, Nat.le_of_ble_eq_true rfl, Nat.le_of_ble_eq_true rfl, Nat.le_of_ble_eq_true rfl⟩
  · replace hR := (if_neg c1).symm.trans hR
    refine lv_iload_n hx hb dX4_needBridge_4 rfl (lv_at hl 1 rfl) ?_
    refine lv_aload_n hx hb dX4_needBridge_5 rfl (lv_at hl 0 rfl) ?_
    refine va_get (ci := 4) (C := RX4) (T := TX4) (N := 7) hx hb hts hw4 hown hK hP 0 rfl rfl 0 (by decide) hl2 (fun _ h9 => h9) rfl dX4_needBridge_6 ?_
    refine va_get (ci := 2) (C := RX2) (T := TX2) (N := 11) hx hb hts hw2 hown hK hP 2 rfl rfl 5 (by decide) hl3 (fun _ h9 => h9) rfl dX4_needBridge_9 ?_
    refine lv_icmp_lt (tgt := 25) hx hb dX4_needBridge_12 (by decide) (fun c2 => ?_) (fun c2 => ?_)
    · replace hR := (if_pos c2).symm.trans hR
      cases hR
    · replace hR := (if_neg c2).symm.trans hR
      obtain rfl := Sum.inl.inj (Option.some.inj hR)
      exact kk_throw (names := ["java/lang/RuntimeException", "java/lang/Exception"]) (text := "no such bridge") (k := 1) hC hst hlocks hno hK hG hP hD hS hA rfl rfl (by decide +kernel) (by decide +kernel) (by decide +kernel) hl0 hl1 (by decide +kernel) (by decide +kernel) (by decide +kernel) hl.1 dX4_needBridge_15 dX4_needBridge_18 dX4_needBridge_19 dX4_needBridge_21 dX4_needBridge_24 ⟨Nat.le_of_ble_eq_true rfl, Nat.le_of_ble_eq_true rfl, Nat.le_of_ble_eq_true rfl, Nat.le_of_ble_eq_true rfl⟩
set_option maxHeartbeats 8000000 in
set_option maxRecDepth 100000 in
theorem sX4_needSetting (l : Launch) (g : kG) (n : Nat)  (v0 : Int32) (r : Unit) (hR : fX4_needSetting n v0 = some (.inr r)) : kSp l g yX4_needSetting wsX4_needSetting ({ frames := 0, cells := 0, slots := 0, locals := 0 }) [.int v0] ([] : va_W) (kQv g ([] : va_W)) := by
  refine kSp.of (cc := cX4_needSetting) (maxL := 1) (ret := none) (by decide) rfl (Nat.le_of_ble_eq_true rfl) ?_
  intro p e s m args below meth c ls A hC hr hlocks hA hK hl hP hD hS
  replace hC : CallFix p m c cX4_needSetting 1 s args wsX4_needSetting RX4 := hC
  obtain ⟨hx, hb, hml, hown, hts⟩ := id hC
  replace hl : lv_has ls 1 [(0, .int v0)] := hl
  unfold fX4_needSetting at hR
  refine lv_iload_n hx hb dX4_needSetting_0 rfl (lv_at hl 0 rfl) ?_
  refine lv_if_lt (tgt := 9) hx hb dX4_needSetting_1 (by decide) (fun c1 => ?_) (fun c1 => ?_)
  · replace hR := (if_pos c1).symm.trans hR
    cases hR
  · replace hR := (if_neg c1).symm.trans hR
    refine lv_iload_n hx hb dX4_needSetting_4 rfl (lv_at hl 0 rfl) ?_
    refine lv_iconst (v := (4 : Int32)) hx hb dX4_needSetting_5 (by decide) ?_
    refine lv_icmp_lt (tgt := 19) hx hb dX4_needSetting_6 (by decide) (fun c2 => ?_) (fun c2 => ?_)
    · replace hR := (if_pos c2).symm.trans hR
      obtain rfl := Sum.inr.inj (Option.some.inj hR)
      exact kk_ret_v hC hr hlocks hK hP hD hS dX4_needSetting_19
    · replace hR := (if_neg c2).symm.trans hR
      cases hR
set_option maxHeartbeats 8000000 in
set_option maxRecDepth 100000 in
theorem sX4_needSetting_th (l : Launch) (hst : l.stackTraces = false) (g : kG) (n : Nat)  (v0 : Int32) (k : Nat) (hR : fX4_needSetting n v0 = some (.inl k)) : kSt l g yX4_needSetting wsX4_needSetting ({ frames := 6, cells := 1, slots := 6, locals := 90 }) [.int v0] ([] : va_W) ([] : va_W) k := by
  refine kSt.of (cc := cX4_needSetting) (maxL := 1) (ret := none) (by decide) rfl (Nat.le_of_ble_eq_true rfl) ?_
  intro p e s m args below meth c ls A hC hlocks hno hA hK hG hl hP hD hS
  replace hC : CallFix p m c cX4_needSetting 1 s args wsX4_needSetting RX4 := hC
  obtain ⟨hx, hb, hml, hown, hts⟩ := id hC
  replace hl : lv_has ls 1 [(0, .int v0)] := hl
  unfold fX4_needSetting at hR
  have hl0 := hts (.classLink RX4 51 "java/lang/IndexOutOfBoundsException") (by decide +kernel)
  have hl1 := hts (.initialized "java/lang/IndexOutOfBoundsException") (by decide +kernel)
  refine lv_iload_n hx hb dX4_needSetting_0 rfl (lv_at hl 0 rfl) ?_
  refine lv_if_lt (tgt := 9) hx hb dX4_needSetting_1 (by decide) (fun c1 => ?_) (fun c1 => ?_)
  · replace hR := (if_pos c1).symm.trans hR
    obtain rfl := Sum.inl.inj (Option.some.inj hR)
    exact kk_throw (names := ["java/lang/RuntimeException", "java/lang/Exception"]) (text := "no such setting") (k := 1) hC hst hlocks hno hK hG hP hD hS hA rfl rfl (by decide +kernel) (by decide +kernel) (by decide +kernel) hl0 hl1 (by decide +kernel) (by decide +kernel) (by decide +kernel) hl.1 dX4_needSetting_9 dX4_needSetting_12 dX4_needSetting_13 dX4_needSetting_15 dX4_needSetting_18 ⟨Nat.le_of_ble_eq_true rfl, Nat.le_of_ble_eq_true rfl, Nat.le_of_ble_eq_true rfl, Nat.le_of_ble_eq_true rfl⟩
  · replace hR := (if_neg c1).symm.trans hR
    refine lv_iload_n hx hb dX4_needSetting_4 rfl (lv_at hl 0 rfl) ?_
    refine lv_iconst (v := (4 : Int32)) hx hb dX4_needSetting_5 (by decide) ?_
    refine lv_icmp_lt (tgt := 19) hx hb dX4_needSetting_6 (by decide) (fun c2 => ?_) (fun c2 => ?_)
    · replace hR := (if_pos c2).symm.trans hR
      cases hR
    · replace hR := (if_neg c2).symm.trans hR
      obtain rfl := Sum.inl.inj (Option.some.inj hR)
      exact kk_throw (names := ["java/lang/RuntimeException", "java/lang/Exception"]) (text := "no such setting") (k := 1) hC hst hlocks hno hK hG hP hD hS hA rfl rfl (by decide +kernel) (by decide +kernel) (by decide +kernel) hl0 hl1 (by decide +kernel) (by decide +kernel) (by decide +kernel) hl.1 dX4_needSetting_9 dX4_needSetting_12 dX4_needSetting_13 dX4_needSetting_15 dX4_needSetting_18 ⟨Nat.le_of_ble_eq_true rfl, Nat.le_of_ble_eq_true rfl, Nat.le_of_ble_eq_true rfl, Nat.le_of_ble_eq_true rfl⟩
set_option maxHeartbeats 8000000 in
set_option maxRecDepth 100000 in
theorem sX4_isHeight (l : Launch) (g : kG) (n : Nat)  (v0 : Int32) (r : Int32) (hR : fX4_isHeight n v0 = some r) : kSp l g yX4_isHeight wsX4_isHeight ({ frames := 0, cells := 0, slots := 0, locals := 0 }) [.int v0] ([] : va_W) (kQi g ([] : va_W) r) := by
  refine kSp.of (cc := cX4_isHeight) (maxL := 1) (ret := (some .boolean)) (by decide) rfl (Nat.le_of_ble_eq_true rfl) ?_
  intro p e s m args below meth c ls A hC hr hlocks hA hK hl hP hD hS
  replace hC : CallFix p m c cX4_isHeight 1 s args wsX4_isHeight RX4 := hC
  obtain ⟨hx, hb, hml, hown, hts⟩ := id hC
  replace hl : lv_has ls 1 [(0, .int v0)] := hl
  unfold fX4_isHeight at hR
  refine lv_iload_n hx hb dX4_isHeight_0 rfl (lv_at hl 0 rfl) ?_
  refine lv_bipush (v := (10 : Int32)) hx hb dX4_isHeight_1 (by decide) ?_
  refine lv_icmp_lt (tgt := 16) hx hb dX4_isHeight_3 (by decide) (fun c1 => ?_) (fun c1 => ?_)
  · replace hR := (if_pos c1).symm.trans hR
    refine lv_iconst (v := (0 : Int32)) hx hb dX4_isHeight_16 (by decide) ?_
    obtain rfl := Option.some.inj hR
    exact kk_ret_z hC hr hlocks hK hP hD hS dX4_isHeight_17 (by decide) rfl
  · replace hR := (if_neg c1).symm.trans hR
    refine lv_iload_n hx hb dX4_isHeight_6 rfl (lv_at hl 0 rfl) ?_
    refine lv_bipush (v := (99 : Int32)) hx hb dX4_isHeight_7 (by decide) ?_
    refine lv_icmp_gt (tgt := 16) hx hb dX4_isHeight_9 (by decide) (fun c3 => ?_) (fun c3 => ?_)
    · replace hR := (if_pos c3).symm.trans hR
      refine lv_iconst (v := (0 : Int32)) hx hb dX4_isHeight_16 (by decide) ?_
      obtain rfl := Option.some.inj hR
      exact kk_ret_z hC hr hlocks hK hP hD hS dX4_isHeight_17 (by decide) rfl
    · replace hR := (if_neg c3).symm.trans hR
      refine lv_iconst (v := (1 : Int32)) hx hb dX4_isHeight_12 (by decide) ?_
      refine lv_goto (tgt := 17) hx hb dX4_isHeight_13 (by decide) ?_
      obtain rfl := Option.some.inj hR
      exact kk_ret_z hC hr hlocks hK hP hD hS dX4_isHeight_17 (by decide) rfl
set_option maxHeartbeats 8000000 in
set_option maxRecDepth 100000 in
theorem sX4_isFloat (l : Launch) (g : kG) (n : Nat)  (v0 : Int32) (v1 : Int32) (v2 : Int32) (r : Int32) (hR : fX4_isFloat n v0 v1 v2 = some r) : kSp l g yX4_isFloat wsX4_isFloat ({ frames := 1, cells := 0, slots := 0, locals := 20 }) [.int v0, .int v1, .int v2] ([] : va_W) (kQi g ([] : va_W) r) := by
  refine kSp.of (cc := cX4_isFloat) (maxL := 3) (ret := (some .boolean)) (by decide) rfl (Nat.le_of_ble_eq_true rfl) ?_
  intro p e s m args below meth c ls A hC hr hlocks hA hK hl hP hD hS
  replace hC : CallFix p m c cX4_isFloat 3 s args wsX4_isFloat RX4 := hC
  obtain ⟨hx, hb, hml, hown, hts⟩ := id hC
  replace hl : lv_has ls 3 [(0, .int v0), (1, .int v1), (2, .int v2)] := hl
  unfold fX4_isFloat at hR
  refine lv_iload_n hx hb dX4_isFloat_0 rfl (lv_at hl 0 rfl) ?_
  refine lv_if_lt (tgt := 16) hx hb dX4_isFloat_1 (by decide) (fun c1 => ?_) (fun c1 => ?_)
  · replace hR := (if_pos c1).symm.trans hR
    refine lv_iconst (v := (0 : Int32)) hx hb dX4_isFloat_16 (by decide) ?_
    obtain rfl := Option.some.inj hR
    exact kk_ret_z hC hr hlocks hK hP hD hS dX4_isFloat_17 (by decide) rfl
  · replace hR := (if_neg c1).symm.trans hR
    refine lv_iload_n hx hb dX4_isFloat_4 rfl (lv_at hl 0 rfl) ?_
    refine lv_iconst (v := (4 : Int32)) hx hb dX4_isFloat_5 (by decide) ?_
    refine lv_icmp_ge (tgt := 16) hx hb dX4_isFloat_6 (by decide) (fun c3 => ?_) (fun c3 => ?_)
    · replace hR := (if_pos c3).symm.trans hR
      refine lv_iconst (v := (0 : Int32)) hx hb dX4_isFloat_16 (by decide) ?_
      obtain rfl := Option.some.inj hR
      exact kk_ret_z hC hr hlocks hK hP hD hS dX4_isFloat_17 (by decide) rfl
    · replace hR := (if_neg c3).symm.trans hR
      refine lv_iload_n hx hb dX4_isFloat_9 rfl (lv_at hl 1 rfl) ?_
      obtain ⟨x5, hq5, hR⟩ := kk_bd_el hR
      refine kk_call_Si (w' := ([] : va_W)) (As := [.int v1]) (rest := []) hC (sX4_isHeight l g n   v1 x5 hq5) (va_cwS 1 hts gX4_isFloat_X4_isHeight rfl rfl rfl (by decide +kernel) ⟨Nat.le_of_ble_eq_true rfl, Nat.le_of_ble_eq_true rfl⟩) hK hP hD hS hA [] rfl (by decide +kernel) rfl rfl rfl rfl hl.1 (Nat.le_of_ble_eq_true rfl) dX4_isFloat_10 (fun H locs hP hD hS => ?_)
      refine lv_if_ne (tgt := 18) hx hb dX4_isFloat_13 (by decide) (fun c6 => ?_) (fun c6 => ?_)
      · replace hR := (if_neg c6).symm.trans hR
        refine lv_iload_n hx hb dX4_isFloat_18 rfl (lv_at hl 2 rfl) ?_
        refine lv_if_lt (tgt := 41) hx hb dX4_isFloat_19 (by decide) (fun c7 => ?_) (fun c7 => ?_)
        · replace hR := (if_pos c7).symm.trans hR
          refine lv_iconst (v := (0 : Int32)) hx hb dX4_isFloat_41 (by decide) ?_
          obtain rfl := Option.some.inj hR
          exact kk_ret_z hC hr hlocks hK hP hD hS dX4_isFloat_42 (by decide) rfl
        · replace hR := (if_neg c7).symm.trans hR
          refine lv_iload_n hx hb dX4_isFloat_22 rfl (lv_at hl 2 rfl) ?_
          refine lv_iload_n hx hb dX4_isFloat_23 rfl (lv_at hl 0 rfl) ?_
          refine lv_iconst (v := (1 : Int32)) hx hb dX4_isFloat_24 (by decide) ?_
          obtain ⟨x10, hq10, hR⟩ := kk_bd_el hR
          refine kk_cut (g := g) (A := A) (w' := ([] : va_W)) (nL := 3) (lv := []) (pcJ := 34) (st := [.int x10, .int v2]) (fun H locs ls hP hD hS hl => ?_) (fun hj10 => ?_)
          · refine lv_icmp_gt (tgt := 41) hx hb dX4_isFloat_34 (by decide) (fun c12 => ?_) (fun c12 => ?_)
            · replace hR := (if_pos c12).symm.trans hR
              refine lv_iconst (v := (0 : Int32)) hx hb dX4_isFloat_41 (by decide) ?_
              obtain rfl := Option.some.inj hR
              exact kk_ret_z hC hr hlocks hK hP hD hS dX4_isFloat_42 (by decide) rfl
            · replace hR := (if_neg c12).symm.trans hR
              refine lv_iconst (v := (1 : Int32)) hx hb dX4_isFloat_37 (by decide) ?_
              refine lv_goto (tgt := 42) hx hb dX4_isFloat_38 (by decide) ?_
              obtain rfl := Option.some.inj hR
              exact kk_ret_z hC hr hlocks hK hP hD hS dX4_isFloat_42 (by decide) rfl
          replace hR := hq10
          refine lv_icmp_ne (tgt := 33) hx hb dX4_isFloat_25 (by decide) (fun c11 => ?_) (fun c11 => ?_)
          · replace hR := (if_neg c11).symm.trans hR
            refine lv_iconst (v := (0 : Int32)) hx hb dX4_isFloat_33 (by decide) ?_
            obtain rfl := Option.some.inj hR
            exact hj10 _ _ _ hP hD hS (lv_sub hl [] rfl)
          · replace hR := (if_pos c11).symm.trans hR
            refine lv_bipush (v := (15 : Int32)) hx hb dX4_isFloat_28 (by decide) ?_
            refine lv_goto (tgt := 34) hx hb dX4_isFloat_30 (by decide) ?_
            obtain rfl := Option.some.inj hR
            exact hj10 _ _ _ hP hD hS (lv_sub hl [] rfl)
      · replace hR := (if_pos c6).symm.trans hR
        refine lv_iconst (v := (0 : Int32)) hx hb dX4_isFloat_16 (by decide) ?_
        obtain rfl := Option.some.inj hR
        exact kk_ret_z hC hr hlocks hK hP hD hS dX4_isFloat_17 (by decide) rfl
set_option maxHeartbeats 8000000 in
set_option maxRecDepth 100000 in
theorem sX4_mixed (l : Launch) (g : kG) (n : Nat)  (v0 : Int64) (v2 : Int64) (r : Int64) (hR : fX4_mixed n v0 v2 = some r) : kSp l g yX4_mixed wsX4_mixed ({ frames := 0, cells := 0, slots := 0, locals := 0 }) [.long v0, .long v2] ([] : va_W) (kQl g ([] : va_W) r) := by
  refine kSp.of (cc := cX4_mixed) (maxL := 4) (ret := (some .long)) (by decide) rfl (Nat.le_of_ble_eq_true rfl) ?_
  intro p e s m args below meth c ls A hC hr hlocks hA hK hl hP hD hS
  replace hC : CallFix p m c cX4_mixed 4 s args wsX4_mixed RX4 := hC
  obtain ⟨hx, hb, hml, hown, hts⟩ := id hC
  replace hl : lv_has ls 4 [(0, .long v0), (2, .long v2)] := hl
  unfold fX4_mixed at hR
  have hl0 := hts (.constantLong RX4 288 31) (by decide +kernel)
  refine lv_ldc2 (v := (31 : Int64)) hx hb hown hl0 dX4_mixed_0 ?_
  refine lv_lload_n hx hb dX4_mixed_3 rfl (lv_at hl 0 rfl) ?_
  refine lv_lmul hx hb dX4_mixed_4 ?_
  refine lv_lload_n hx hb dX4_mixed_5 rfl (lv_at hl 1 rfl) ?_
  refine lv_ladd hx hb dX4_mixed_6 ?_
  obtain rfl := Option.some.inj hR
  exact kk_ret_l hC hr hlocks hK hP hD hS dX4_mixed_7 rfl
set_option maxHeartbeats 8000000 in
set_option maxRecDepth 100000 in
theorem sX4_doBestExchange (l : Launch) (g : kG) (n : Nat) (a : Nat → Nat → Nat) (G : St2) (r : Int32 × St2) (hR : fX4_doBestExchange n G = some r) : kSp l g yX4_doBestExchange wsX4_doBestExchange ({ frames := 4, cells := 0, slots := 0, locals := 92 }) [.ref (a 0 0)] (w_F g a G) (kQi g (w_F g a r.2) r.1) := by
  refine kSp.of (cc := cX4_doBestExchange) (maxL := 5) (ret := (some .boolean)) (by decide) rfl (Nat.le_of_ble_eq_true rfl) ?_
  intro p e s m args below meth c ls A hC hr hlocks hA hK hl hP hD hS
  replace hC : CallFix p m c cX4_doBestExchange 5 s args wsX4_doBestExchange RX4 := hC
  obtain ⟨hx, hb, hml, hown, hts⟩ := id hC
  replace hl : lv_has ls 5 [(0, .ref (a 0 0))] := hl
  unfold fX4_doBestExchange at hR
  have hw2 : ∀ w ∈ wsX20, w ∈ wsX4_doBestExchange := by decide +kernel
  have hw4 : ∀ w ∈ wsX40, w ∈ wsX4_doBestExchange := by decide +kernel
  have hl0 := hts (.fieldLink RX4 29 "FloatOrder" "best" "LFloatOrder$Best;") (by decide +kernel)
  have hl1 := hts (.fieldLink RX4 10 "FloatOrder" "parade" "LFloatOrder$Parade;") (by decide +kernel)
  have hl2 := hts (.fieldLink RX4 48 "FloatOrder$Parade" "floats" "I") (by decide +kernel)
  refine lv_iconst (v := (-1 : Int32)) hx hb dX4_doBestExchange_0 (by decide) ?_
  refine lv_istore_n (lv' := [(1, .int (-1 : Int32)), (0, .ref (a 0 0))]) hx hb dX4_doBestExchange_1 rfl hl (by decide) rfl (fun ls hl => ?_)
  refine lv_iconst (v := (-1 : Int32)) hx hb dX4_doBestExchange_2 (by decide) ?_
  refine lv_istore_n (lv' := [(2, .int (-1 : Int32)), (1, .int (-1 : Int32)), (0, .ref (a 0 0))]) hx hb dX4_doBestExchange_3 rfl hl (by decide) rfl (fun ls hl => ?_)
  refine lv_aload_n hx hb dX4_doBestExchange_4 rfl (lv_at hl 2 rfl) ?_
  refine va_get (ci := 4) (C := RX4) (T := TX4) (N := 7) hx hb hts hw4 hown hK hP 0 rfl rfl 3 (by decide) hl0 (fun _ h9 => h9) rfl dX4_doBestExchange_5 ?_
  refine lv_aload_n hx hb dX4_doBestExchange_8 rfl (lv_at hl 2 rfl) ?_
  refine va_get (ci := 4) (C := RX4) (T := TX4) (N := 7) hx hb hts hw4 hown hK hP 0 rfl rfl 0 (by decide) hl1 (fun _ h9 => h9) rfl dX4_doBestExchange_9 ?_
  obtain ⟨x1, hq1, hR⟩ := kk_bd_el hR
  obtain ⟨G2, eG2, hR⟩ := kk_nm_el hR
  obtain ⟨G3, eG3, hR⟩ := kk_nm_el hR
  refine kk_call_Vv (w' := (w_F g a G3)) (As := [.ref (a 1 0)]) (rest := []) 22 0 hC (sX0_startAt l g n (a 3) (a 1) (G 3) (G 1)  x1 hq1) (cwV 1 hts gX4_doBestExchange_X0_startAt rfl rfl rfl (by decide +kernel) ⟨Nat.le_of_ble_eq_true rfl, Nat.le_of_ble_eq_true rfl⟩) hK hP hD hS hA [22, 2, 3, 4, 5, 6, 7, 8, 9, 10, 11] (kk_m2 (is1 := [22]) rfl (kk_ml 23 rfl (by decide +kernel) (kk_mr (js := [0]) 22 rfl (by decide +kernel) (kk_m0 1 (by decide +kernel) rfl))) (kk_ml 23 rfl (by decide +kernel) (kk_ml 22 rfl (by decide +kernel) (kk_ml 12 rfl (by decide +kernel) (kk_mr (js := [0, 1, 2, 3, 4, 5, 6, 7, 8, 9]) 2 rfl (by decide +kernel) (kk_m0 10 (by decide +kernel) rfl)))))) (by decide +kernel) rfl (by rw [eG3, eG2]; exact kk_set2 (is1 := [22]) rfl rfl (kk_sl 23 rfl (by decide +kernel) (kk_sr (js := [0]) 22 rfl (by decide +kernel) (kk_s0 1 (by decide +kernel) rfl rfl))) (kk_sl 23 rfl (by decide +kernel) (kk_sl 22 rfl (by decide +kernel) (kk_sl 12 rfl (by decide +kernel) (kk_sr (js := [0, 1, 2, 3, 4, 5, 6, 7, 8, 9]) 2 rfl (by decide +kernel) (kk_s0 10 (by decide +kernel) rfl rfl)))))) rfl rfl rfl rfl rfl hl.1 (Nat.le_of_ble_eq_true rfl) dX4_doBestExchange_12 (fun H locs hP hD hS => ?_)
  refine lv_iconst (v := (0 : Int32)) hx hb dX4_doBestExchange_15 (by decide) ?_
  refine lv_istore_n (lv' := [(3, .int (0 : Int32)), (2, .int (-1 : Int32)), (1, .int (-1 : Int32)), (0, .ref (a 0 0))]) hx hb dX4_doBestExchange_16 rfl hl (by decide) rfl (fun ls hl => ?_)
  obtain ⟨x46, hq46, hR⟩ := kk_bd_el hR
  refine kk_cut (g := g) (A := A) (w' := (w_F g a x46.2.2)) (nL := 5) (lv := [(2, .int x46.2.1), (1, .int x46.1), (0, .ref (a 0 0))]) (pcJ := 96) (st := []) (fun H locs ls hP hD hS hl => ?_) (fun hj46 => ?_)
  · refine lv_iload_n hx hb dX4_doBestExchange_96 rfl (lv_at hl 1 rfl) ?_
    refine lv_iconst (v := (-1 : Int32)) hx hb dX4_doBestExchange_97 (by decide) ?_
    refine lv_icmp_ne (tgt := 103) hx hb dX4_doBestExchange_98 (by decide) (fun c80 => ?_) (fun c80 => ?_)
    · replace hR := (if_neg c80).symm.trans hR
      refine lv_aload_n hx hb dX4_doBestExchange_103 rfl (lv_at hl 2 rfl) ?_
      refine va_get (ci := 4) (C := RX4) (T := TX4) (N := 7) hx hb hts hw4 hown hK hP 0 rfl rfl 0 (by decide) hl1 (fun _ h9 => h9) rfl dX4_doBestExchange_104 ?_
      refine lv_iload_n hx hb dX4_doBestExchange_107 rfl (lv_at hl 1 rfl) ?_
      refine lv_iload_n hx hb dX4_doBestExchange_108 rfl (lv_at hl 0 rfl) ?_
      obtain ⟨x81, hq81, hR⟩ := kk_bd_el hR
      obtain ⟨G82, eG82, hR⟩ := kk_nm_el hR
      refine kk_call_Vv (w' := (w_F g a G82)) (As := [.int x46.1, .int x46.2.1]) (rest := []) 2 2 hC (sX2_swap l g n (a 1) (x46.2.2 1) x46.1 x46.2.1 x81 hq81) (cwV 2 hts gX4_doBestExchange_X2_swap rfl rfl rfl (by decide +kernel) ⟨Nat.le_of_ble_eq_true rfl, Nat.le_of_ble_eq_true rfl⟩) hK hP hD hS hA [2, 3, 4, 5, 6, 7, 8, 9, 10, 11] (kk_ml 23 rfl (by decide +kernel) (kk_ml 22 rfl (by decide +kernel) (kk_ml 12 rfl (by decide +kernel) (kk_mr (js := [0, 1, 2, 3, 4, 5, 6, 7, 8, 9]) 2 rfl (by decide +kernel) (kk_m0 10 (by decide +kernel) rfl))))) (by decide +kernel) rfl (by rw [eG82]; exact kk_sl 23 rfl (by decide +kernel) (kk_sl 22 rfl (by decide +kernel) (kk_sl 12 rfl (by decide +kernel) (kk_sr (js := [0, 1, 2, 3, 4, 5, 6, 7, 8, 9]) 2 rfl (by decide +kernel) (kk_s0 10 (by decide +kernel) rfl rfl))))) rfl rfl rfl rfl rfl hl.1 (Nat.le_of_ble_eq_true rfl) dX4_doBestExchange_109 (fun H locs hP hD hS => ?_)
      refine lv_iconst (v := (1 : Int32)) hx hb dX4_doBestExchange_112 (by decide) ?_
      obtain rfl := Option.some.inj hR
      exact kk_ret_z hC hr hlocks hK hP hD hS dX4_doBestExchange_113 (by decide) rfl
    · replace hR := (if_pos c80).symm.trans hR
      refine lv_iconst (v := (0 : Int32)) hx hb dX4_doBestExchange_101 (by decide) ?_
      obtain rfl := Option.some.inj hR
      exact kk_ret_z hC hr hlocks hK hP hD hS dX4_doBestExchange_102 (by decide) rfl
  refine kk_loop (g := g) (A := A) (fun (st : Int32 × Int32 × Int32 × St2) => (w_F g a st.2.2.2)) (fun (st : Int32 × Int32 × Int32 × St2) => [(3, .int st.2.2.1), (2, .int st.2.1), (1, .int st.1), (0, .ref (a 0 0))]) 17 (nL := 5) hq46 (fun st xb45 hR ih2 hX2 => ?_) hP hD hS (lv_sub hl [0, 1, 2, 3] rfl)
  clear hP hD hS hl
  obtain ⟨u41, u42, u43, G44⟩ := st
  intro H locs ls hP hD hS hl
  replace hR : fX4_doBestExchange_b17 n u41 u42 u43 G44 = some xb45 := hR
  replace hP : va_P g.1 vwCl (w_F g a G44) H := hP
  replace hD : va_D A (w_F g a G44) := hD
  replace hl : lv_has ls 5 [(3, .int u43), (2, .int u42), (1, .int u41), (0, .ref (a 0 0))] := hl
  unfold fX4_doBestExchange_b17 at hR
  refine lv_iload_n hx hb dX4_doBestExchange_17 rfl (lv_at hl 0 rfl) ?_
  refine lv_aload_n hx hb dX4_doBestExchange_18 rfl (lv_at hl 3 rfl) ?_
  refine va_get (ci := 4) (C := RX4) (T := TX4) (N := 7) hx hb hts hw4 hown hK hP 0 rfl rfl 0 (by decide) hl1 (fun _ h9 => h9) rfl dX4_doBestExchange_19 ?_
  refine va_get (ci := 2) (C := RX2) (T := TX2) (N := 11) hx hb hts hw2 hown hK hP 2 rfl rfl 0 (by decide) hl2 (fun _ h9 => h9) rfl dX4_doBestExchange_22 ?_
  refine lv_icmp_ge (tgt := 96) hx hb dX4_doBestExchange_25 (by decide) (fun c47 => ?_) (fun c47 => ?_)
  · replace hR := (if_pos c47).symm.trans hR
    obtain rfl := Option.some.inj hR
    obtain rfl := hX2 _ rfl
    exact hj46 _ _ _ hP hD hS (lv_sub hl [1, 2, 3] rfl)
  · replace hR := (if_neg c47).symm.trans hR
    refine lv_iload_n hx hb dX4_doBestExchange_28 rfl (lv_at hl 0 rfl) ?_
    refine lv_iconst (v := (1 : Int32)) hx hb dX4_doBestExchange_29 (by decide) ?_
    refine lv_iadd hx hb dX4_doBestExchange_30 ?_
    refine lv_istore (lv' := [(4, .int (u43 + (1 : Int32))), (3, .int u43), (2, .int u42), (1, .int u41), (0, .ref (a 0 0))]) hx hb dX4_doBestExchange_31 hl (by decide) rfl (fun ls hl => ?_)
    obtain ⟨x68, hq68, hR⟩ := kk_bd_el hR
    refine kk_cut (g := g) (A := A) (w' := (w_F g a x68.2.2)) (nL := 5) (lv := [(3, .int u43), (2, .int x68.2.1), (1, .int x68.1), (0, .ref (a 0 0))]) (pcJ := 90) (st := []) (fun H locs ls hP hD hS hl => ?_) (fun hj68 => ?_)
    · refine lv_iinc (v := (u43 + (1 : Int32))) (lv' := [(3, .int (u43 + (1 : Int32))), (2, .int x68.2.1), (1, .int x68.1), (0, .ref (a 0 0))]) hx hb dX4_doBestExchange_90 hl (k := 0) rfl rfl (by decide) rfl (fun ls hl => ?_)
      refine lv_goto (tgt := 17) hx hb dX4_doBestExchange_93 (by decide) ?_
      obtain rfl := Option.some.inj hR
      exact ih2 _ rfl _ _ _ hP hD hS (lv_sub hl [0, 1, 2, 3] rfl)
    refine kk_loop (g := g) (A := A) (fun (st : Int32 × Int32 × Int32 × St2) => (w_F g a st.2.2.2)) (fun (st : Int32 × Int32 × Int32 × St2) => [(4, .int st.2.2.1), (3, .int u43), (2, .int st.2.1), (1, .int st.1), (0, .ref (a 0 0))]) 33 (nL := 5) hq68 (fun st xb67 hR ih3 hX3 => ?_) hP hD hS (lv_sub hl [0, 1, 2, 3, 4] rfl)
    clear hP hD hS hl
    obtain ⟨u63, u64, u65, G66⟩ := st
    intro H locs ls hP hD hS hl
    replace hR : fX4_doBestExchange_b33 n u43 u63 u64 u65 G66 = some xb67 := hR
    replace hP : va_P g.1 vwCl (w_F g a G66) H := hP
    replace hD : va_D A (w_F g a G66) := hD
    replace hl : lv_has ls 5 [(4, .int u65), (3, .int u43), (2, .int u64), (1, .int u63), (0, .ref (a 0 0))] := hl
    unfold fX4_doBestExchange_b33 at hR
    refine lv_iload hx hb dX4_doBestExchange_33 (lv_at hl 0 rfl) ?_
    refine lv_aload_n hx hb dX4_doBestExchange_35 rfl (lv_at hl 4 rfl) ?_
    refine va_get (ci := 4) (C := RX4) (T := TX4) (N := 7) hx hb hts hw4 hown hK hP 0 rfl rfl 0 (by decide) hl1 (fun _ h9 => h9) rfl dX4_doBestExchange_36 ?_
    refine va_get (ci := 2) (C := RX2) (T := TX2) (N := 11) hx hb hts hw2 hown hK hP 2 rfl rfl 0 (by decide) hl2 (fun _ h9 => h9) rfl dX4_doBestExchange_39 ?_
    refine lv_icmp_ge (tgt := 90) hx hb dX4_doBestExchange_42 (by decide) (fun c69 => ?_) (fun c69 => ?_)
    · replace hR := (if_pos c69).symm.trans hR
      obtain rfl := Option.some.inj hR
      obtain rfl := hX3 _ rfl
      exact hj68 _ _ _ hP hD hS (lv_sub hl [1, 2, 3, 4] rfl)
    · replace hR := (if_neg c69).symm.trans hR
      refine lv_aload_n hx hb dX4_doBestExchange_45 rfl (lv_at hl 4 rfl) ?_
      refine va_get (ci := 4) (C := RX4) (T := TX4) (N := 7) hx hb hts hw4 hown hK hP 0 rfl rfl 0 (by decide) hl1 (fun _ h9 => h9) rfl dX4_doBestExchange_46 ?_
      refine lv_iload_n hx hb dX4_doBestExchange_49 rfl (lv_at hl 1 rfl) ?_
      refine lv_iload hx hb dX4_doBestExchange_50 (lv_at hl 0 rfl) ?_
      obtain ⟨x70, hq70, hR⟩ := kk_bd_el hR
      obtain ⟨G71, eG71, hR⟩ := kk_nm_el hR
      refine kk_call_Vv (w' := (w_F g a G71)) (As := [.int u43, .int u65]) (rest := []) 2 2 hC (sX2_swap l g n (a 1) (G66 1) u43 u65 x70 hq70) (cwV 2 hts gX4_doBestExchange_X2_swap rfl rfl rfl (by decide +kernel) ⟨Nat.le_of_ble_eq_true rfl, Nat.le_of_ble_eq_true rfl⟩) hK hP hD hS hA [2, 3, 4, 5, 6, 7, 8, 9, 10, 11] (kk_ml 23 rfl (by decide +kernel) (kk_ml 22 rfl (by decide +kernel) (kk_ml 12 rfl (by decide +kernel) (kk_mr (js := [0, 1, 2, 3, 4, 5, 6, 7, 8, 9]) 2 rfl (by decide +kernel) (kk_m0 10 (by decide +kernel) rfl))))) (by decide +kernel) rfl (by rw [eG71]; exact kk_sl 23 rfl (by decide +kernel) (kk_sl 22 rfl (by decide +kernel) (kk_sl 12 rfl (by decide +kernel) (kk_sr (js := [0, 1, 2, 3, 4, 5, 6, 7, 8, 9]) 2 rfl (by decide +kernel) (kk_s0 10 (by decide +kernel) rfl rfl))))) rfl rfl rfl rfl rfl hl.1 (Nat.le_of_ble_eq_true rfl) dX4_doBestExchange_52 (fun H locs hP hD hS => ?_)
      refine lv_aload_n hx hb dX4_doBestExchange_55 rfl (lv_at hl 4 rfl) ?_
      refine va_get (ci := 4) (C := RX4) (T := TX4) (N := 7) hx hb hts hw4 hown hK hP 0 rfl rfl 3 (by decide) hl0 (fun _ h9 => h9) rfl dX4_doBestExchange_56 ?_
      refine lv_aload_n hx hb dX4_doBestExchange_59 rfl (lv_at hl 4 rfl) ?_
      refine va_get (ci := 4) (C := RX4) (T := TX4) (N := 7) hx hb hts hw4 hown hK hP 0 rfl rfl 0 (by decide) hl1 (fun _ h9 => h9) rfl dX4_doBestExchange_60 ?_
      obtain ⟨x72, hq72, hR⟩ := kk_bd_el hR
      obtain ⟨G73, eG73, hR⟩ := kk_nm_el hR
      obtain ⟨G74, eG74, hR⟩ := kk_nm_el hR
      refine kk_call_Vi (w' := (w_F g a G74)) (As := [.ref (a 1 0)]) (rest := []) 22 0 hC (sX0_isBeatenBy l g n (a 3) (a 1) (G71 3) (G71 1)  x72 hq72) (cwV 1 hts gX4_doBestExchange_X0_isBeatenBy rfl rfl rfl (by decide +kernel) ⟨Nat.le_of_ble_eq_true rfl, Nat.le_of_ble_eq_true rfl⟩) hK hP hD hS hA [22, 2, 3, 4, 5, 6, 7, 8, 9, 10, 11] (kk_m2 (is1 := [22]) rfl (kk_ml 23 rfl (by decide +kernel) (kk_mr (js := [0]) 22 rfl (by decide +kernel) (kk_m0 1 (by decide +kernel) rfl))) (kk_ml 23 rfl (by decide +kernel) (kk_ml 22 rfl (by decide +kernel) (kk_ml 12 rfl (by decide +kernel) (kk_mr (js := [0, 1, 2, 3, 4, 5, 6, 7, 8, 9]) 2 rfl (by decide +kernel) (kk_m0 10 (by decide +kernel) rfl)))))) (by decide +kernel) rfl (by rw [eG74, eG73]; exact kk_set2 (is1 := [22]) rfl rfl (kk_sl 23 rfl (by decide +kernel) (kk_sr (js := [0]) 22 rfl (by decide +kernel) (kk_s0 1 (by decide +kernel) rfl rfl))) (kk_sl 23 rfl (by decide +kernel) (kk_sl 22 rfl (by decide +kernel) (kk_sl 12 rfl (by decide +kernel) (kk_sr (js := [0, 1, 2, 3, 4, 5, 6, 7, 8, 9]) 2 rfl (by decide +kernel) (kk_s0 10 (by decide +kernel) rfl rfl)))))) rfl rfl rfl rfl rfl hl.1 (Nat.le_of_ble_eq_true rfl) dX4_doBestExchange_63 (fun H locs hP hD hS => ?_)
      obtain ⟨x76, hq76, hR⟩ := kk_bd_el hR
      refine kk_cut (g := g) (A := A) (w' := (w_F g a G74)) (nL := 5) (lv := [(4, .int u65), (3, .int u43), (2, .int x76.1), (1, .int x76.2), (0, .ref (a 0 0))]) (pcJ := 74) (st := []) (fun H locs ls hP hD hS hl => ?_) (fun hj76 => ?_)
      · refine lv_aload_n hx hb dX4_doBestExchange_74 rfl (lv_at hl 4 rfl) ?_
        refine va_get (ci := 4) (C := RX4) (T := TX4) (N := 7) hx hb hts hw4 hown hK hP 0 rfl rfl 0 (by decide) hl1 (fun _ h9 => h9) rfl dX4_doBestExchange_75 ?_
        refine lv_iload_n hx hb dX4_doBestExchange_78 rfl (lv_at hl 1 rfl) ?_
        refine lv_iload hx hb dX4_doBestExchange_79 (lv_at hl 0 rfl) ?_
        obtain ⟨x78, hq78, hR⟩ := kk_bd_el hR
        obtain ⟨G79, eG79, hR⟩ := kk_nm_el hR
        refine kk_call_Vv (w' := (w_F g a G79)) (As := [.int u43, .int u65]) (rest := []) 2 2 hC (sX2_swap l g n (a 1) (G74 1) u43 u65 x78 hq78) (cwV 2 hts gX4_doBestExchange_X2_swap rfl rfl rfl (by decide +kernel) ⟨Nat.le_of_ble_eq_true rfl, Nat.le_of_ble_eq_true rfl⟩) hK hP hD hS hA [2, 3, 4, 5, 6, 7, 8, 9, 10, 11] (kk_ml 23 rfl (by decide +kernel) (kk_ml 22 rfl (by decide +kernel) (kk_ml 12 rfl (by decide +kernel) (kk_mr (js := [0, 1, 2, 3, 4, 5, 6, 7, 8, 9]) 2 rfl (by decide +kernel) (kk_m0 10 (by decide +kernel) rfl))))) (by decide +kernel) rfl (by rw [eG79]; exact kk_sl 23 rfl (by decide +kernel) (kk_sl 22 rfl (by decide +kernel) (kk_sl 12 rfl (by decide +kernel) (kk_sr (js := [0, 1, 2, 3, 4, 5, 6, 7, 8, 9]) 2 rfl (by decide +kernel) (kk_s0 10 (by decide +kernel) rfl rfl))))) rfl rfl rfl rfl rfl hl.1 (Nat.le_of_ble_eq_true rfl) dX4_doBestExchange_81 (fun H locs hP hD hS => ?_)
        refine lv_iinc (v := (u65 + (1 : Int32))) (lv' := [(4, .int (u65 + (1 : Int32))), (3, .int u43), (2, .int x76.1), (1, .int x76.2), (0, .ref (a 0 0))]) hx hb dX4_doBestExchange_84 hl (k := 0) rfl rfl (by decide) rfl (fun ls hl => ?_)
        refine lv_goto (tgt := 33) hx hb dX4_doBestExchange_87 (by decide) ?_
        obtain rfl := Option.some.inj hR
        exact ih3 _ rfl _ _ _ hP hD hS (lv_sub hl [0, 1, 2, 3, 4] rfl)
      replace hR := hq76
      refine lv_if_eq (tgt := 74) hx hb dX4_doBestExchange_66 (by decide) (fun c77 => ?_) (fun c77 => ?_)
      · replace hR := (if_pos c77).symm.trans hR
        obtain rfl := Option.some.inj hR
        exact hj76 _ _ _ hP hD hS (lv_sub hl [0, 1, 2, 3, 4] rfl)
      · replace hR := (if_neg c77).symm.trans hR
        refine lv_iload_n hx hb dX4_doBestExchange_69 rfl (lv_at hl 1 rfl) ?_
        refine lv_istore_n (lv' := [(1, .int u43), (4, .int u65), (3, .int u43), (2, .int u64), (0, .ref (a 0 0))]) hx hb dX4_doBestExchange_70 rfl hl (by decide) rfl (fun ls hl => ?_)
        refine lv_iload hx hb dX4_doBestExchange_71 (lv_at hl 1 rfl) ?_
        refine lv_istore_n (lv' := [(2, .int u65), (1, .int u43), (4, .int u65), (3, .int u43), (0, .ref (a 0 0))]) hx hb dX4_doBestExchange_73 rfl hl (by decide) rfl (fun ls hl => ?_)
        obtain rfl := Option.some.inj hR
        exact hj76 _ _ _ hP hD hS (lv_sub hl [2, 3, 0, 1, 4] rfl)
set_option maxHeartbeats 8000000 in
set_option maxRecDepth 100000 in
theorem sX4_placeOfLeast (l : Launch) (g : kG) (n : Nat) (a : Nat → Nat → Nat) (G : St2) (v1 : Int32) (r : Int32 × St2) (hR : fX4_placeOfLeast n G v1 = some r) : kSp l g yX4_placeOfLeast wsX4_placeOfLeast ({ frames := 4, cells := 0, slots := 0, locals := 92 }) [.ref (a 0 0), .int v1] (w_F g a G) (kQi g (w_F g a r.2) r.1) := by
  refine kSp.of (cc := cX4_placeOfLeast) (maxL := 4) (ret := (some .int)) (by decide) rfl (Nat.le_of_ble_eq_true rfl) ?_
  intro p e s m args below meth c ls A hC hr hlocks hA hK hl hP hD hS
  replace hC : CallFix p m c cX4_placeOfLeast 4 s args wsX4_placeOfLeast RX4 := hC
  obtain ⟨hx, hb, hml, hown, hts⟩ := id hC
  replace hl : lv_has ls 4 [(0, .ref (a 0 0)), (1, .int v1)] := hl
  unfold fX4_placeOfLeast at hR
  have hw2 : ∀ w ∈ wsX20, w ∈ wsX4_placeOfLeast := by decide +kernel
  have hw4 : ∀ w ∈ wsX40, w ∈ wsX4_placeOfLeast := by decide +kernel
  have hl0 := hts (.fieldLink RX4 16 "FloatOrder" "trial" "LFloatOrder$Parade;") (by decide +kernel)
  have hl1 := hts (.fieldLink RX4 10 "FloatOrder" "parade" "LFloatOrder$Parade;") (by decide +kernel)
  have hl2 := hts (.fieldLink RX4 29 "FloatOrder" "best" "LFloatOrder$Best;") (by decide +kernel)
  have hl3 := hts (.fieldLink RX4 48 "FloatOrder$Parade" "floats" "I") (by decide +kernel)
  refine lv_aload_n hx hb dX4_placeOfLeast_0 rfl (lv_at hl 0 rfl) ?_
  refine va_get (ci := 4) (C := RX4) (T := TX4) (N := 7) hx hb hts hw4 hown hK hP 0 rfl rfl 1 (by decide) hl0 (fun _ h9 => h9) rfl dX4_placeOfLeast_1 ?_
  refine lv_aload_n hx hb dX4_placeOfLeast_4 rfl (lv_at hl 0 rfl) ?_
  refine va_get (ci := 4) (C := RX4) (T := TX4) (N := 7) hx hb hts hw4 hown hK hP 0 rfl rfl 0 (by decide) hl1 (fun _ h9 => h9) rfl dX4_placeOfLeast_5 ?_
  obtain ⟨x1, hq1, hR⟩ := kk_bd_el hR
  obtain ⟨G2, eG2, hR⟩ := kk_nm_el hR
  refine kk_call_Vv (w' := (w_F g a G2)) (As := [.ref (a 1 0)]) (rest := []) 12 2 hC (sX2_copyFrom l g n (a 2) (a 1) (G 2) (G 1)  x1 hq1) (cwV 1 hts gX4_placeOfLeast_X2_copyFrom rfl rfl rfl (by decide +kernel) ⟨Nat.le_of_ble_eq_true rfl, Nat.le_of_ble_eq_true rfl⟩) hK hP hD hS hA [12, 13, 14, 15, 16, 17, 18, 19, 20, 21, 2, 3, 4, 5, 6, 7, 8, 9, 10, 11] (kk_m2 (is1 := [12, 13, 14, 15, 16, 17, 18, 19, 20, 21]) rfl (kk_ml 23 rfl (by decide +kernel) (kk_ml 22 rfl (by decide +kernel) (kk_mr (js := [0, 1, 2, 3, 4, 5, 6, 7, 8, 9]) 12 rfl (by decide +kernel) (kk_m0 10 (by decide +kernel) rfl)))) (kk_ml 23 rfl (by decide +kernel) (kk_ml 22 rfl (by decide +kernel) (kk_ml 12 rfl (by decide +kernel) (kk_mr (js := [0, 1, 2, 3, 4, 5, 6, 7, 8, 9]) 2 rfl (by decide +kernel) (kk_m0 10 (by decide +kernel) rfl)))))) (by decide +kernel) rfl (by rw [eG2]; exact kk_set2 (is1 := [12, 13, 14, 15, 16, 17, 18, 19, 20, 21]) rfl rfl (kk_sl 23 rfl (by decide +kernel) (kk_sl 22 rfl (by decide +kernel) (kk_sr (js := [0, 1, 2, 3, 4, 5, 6, 7, 8, 9]) 12 rfl (by decide +kernel) (kk_s0 10 (by decide +kernel) rfl rfl)))) (kk_sl 23 rfl (by decide +kernel) (kk_sl 22 rfl (by decide +kernel) (kk_sl 12 rfl (by decide +kernel) (kk_sr (js := [0, 1, 2, 3, 4, 5, 6, 7, 8, 9]) 2 rfl (by decide +kernel) (kk_s0 10 (by decide +kernel) rfl rfl)))))) rfl rfl rfl rfl rfl hl.1 (Nat.le_of_ble_eq_true rfl) dX4_placeOfLeast_8 (fun H locs hP hD hS => ?_)
  refine lv_aload_n hx hb dX4_placeOfLeast_11 rfl (lv_at hl 0 rfl) ?_
  refine va_get (ci := 4) (C := RX4) (T := TX4) (N := 7) hx hb hts hw4 hown hK hP 0 rfl rfl 1 (by decide) hl0 (fun _ h9 => h9) rfl dX4_placeOfLeast_12 ?_
  refine lv_iload_n hx hb dX4_placeOfLeast_15 rfl (lv_at hl 1 rfl) ?_
  refine lv_iconst (v := (0 : Int32)) hx hb dX4_placeOfLeast_16 (by decide) ?_
  obtain ⟨x3, hq3, hR⟩ := kk_bd_el hR
  obtain ⟨G4, eG4, hR⟩ := kk_nm_el hR
  refine kk_call_Vv (w' := (w_F g a G4)) (As := [.int v1, .int (0 : Int32)]) (rest := []) 12 2 hC (sX2_shift l g n (a 2) (G2 2) v1 (0 : Int32) x3 hq3) (cwV 2 hts gX4_placeOfLeast_X2_shift rfl rfl rfl (by decide +kernel) ⟨Nat.le_of_ble_eq_true rfl, Nat.le_of_ble_eq_true rfl⟩) hK hP hD hS hA [12, 13, 14, 15, 16, 17, 18, 19, 20, 21] (kk_ml 23 rfl (by decide +kernel) (kk_ml 22 rfl (by decide +kernel) (kk_mr (js := [0, 1, 2, 3, 4, 5, 6, 7, 8, 9]) 12 rfl (by decide +kernel) (kk_m0 10 (by decide +kernel) rfl)))) (by decide +kernel) rfl (by rw [eG4]; exact kk_sl 23 rfl (by decide +kernel) (kk_sl 22 rfl (by decide +kernel) (kk_sr (js := [0, 1, 2, 3, 4, 5, 6, 7, 8, 9]) 12 rfl (by decide +kernel) (kk_s0 10 (by decide +kernel) rfl rfl)))) rfl rfl rfl rfl rfl hl.1 (Nat.le_of_ble_eq_true rfl) dX4_placeOfLeast_17 (fun H locs hP hD hS => ?_)
  refine lv_aload_n hx hb dX4_placeOfLeast_20 rfl (lv_at hl 0 rfl) ?_
  refine va_get (ci := 4) (C := RX4) (T := TX4) (N := 7) hx hb hts hw4 hown hK hP 0 rfl rfl 3 (by decide) hl2 (fun _ h9 => h9) rfl dX4_placeOfLeast_21 ?_
  refine lv_aload_n hx hb dX4_placeOfLeast_24 rfl (lv_at hl 0 rfl) ?_
  refine va_get (ci := 4) (C := RX4) (T := TX4) (N := 7) hx hb hts hw4 hown hK hP 0 rfl rfl 1 (by decide) hl0 (fun _ h9 => h9) rfl dX4_placeOfLeast_25 ?_
  obtain ⟨x5, hq5, hR⟩ := kk_bd_el hR
  obtain ⟨G6, eG6, hR⟩ := kk_nm_el hR
  obtain ⟨G7, eG7, hR⟩ := kk_nm_el hR
  refine kk_call_Vv (w' := (w_F g a G7)) (As := [.ref (a 2 0)]) (rest := []) 22 0 hC (sX0_startAt l g n (a 3) (a 2) (G4 3) (G4 2)  x5 hq5) (cwV 1 hts gX4_placeOfLeast_X0_startAt rfl rfl rfl (by decide +kernel) ⟨Nat.le_of_ble_eq_true rfl, Nat.le_of_ble_eq_true rfl⟩) hK hP hD hS hA [22, 12, 13, 14, 15, 16, 17, 18, 19, 20, 21] (kk_m2 (is1 := [22]) rfl (kk_ml 23 rfl (by decide +kernel) (kk_mr (js := [0]) 22 rfl (by decide +kernel) (kk_m0 1 (by decide +kernel) rfl))) (kk_ml 23 rfl (by decide +kernel) (kk_ml 22 rfl (by decide +kernel) (kk_mr (js := [0, 1, 2, 3, 4, 5, 6, 7, 8, 9]) 12 rfl (by decide +kernel) (kk_m0 10 (by decide +kernel) rfl))))) (by decide +kernel) rfl (by rw [eG7, eG6]; exact kk_set2 (is1 := [22]) rfl rfl (kk_sl 23 rfl (by decide +kernel) (kk_sr (js := [0]) 22 rfl (by decide +kernel) (kk_s0 1 (by decide +kernel) rfl rfl))) (kk_sl 23 rfl (by decide +kernel) (kk_sl 22 rfl (by decide +kernel) (kk_sr (js := [0, 1, 2, 3, 4, 5, 6, 7, 8, 9]) 12 rfl (by decide +kernel) (kk_s0 10 (by decide +kernel) rfl rfl))))) rfl rfl rfl rfl rfl hl.1 (Nat.le_of_ble_eq_true rfl) dX4_placeOfLeast_28 (fun H locs hP hD hS => ?_)
  refine lv_iconst (v := (0 : Int32)) hx hb dX4_placeOfLeast_31 (by decide) ?_
  refine lv_istore_n (lv' := [(2, .int (0 : Int32)), (0, .ref (a 0 0)), (1, .int v1)]) hx hb dX4_placeOfLeast_32 rfl hl (by decide) rfl (fun ls hl => ?_)
  refine lv_iconst (v := (1 : Int32)) hx hb dX4_placeOfLeast_33 (by decide) ?_
  refine lv_istore_n (lv' := [(3, .int (1 : Int32)), (2, .int (0 : Int32)), (0, .ref (a 0 0)), (1, .int v1)]) hx hb dX4_placeOfLeast_34 rfl hl (by decide) rfl (fun ls hl => ?_)
  obtain ⟨x22, hq22, hR⟩ := kk_bd_el hR
  refine kk_cut (g := g) (A := A) (w' := (w_F g a x22.2)) (nL := 4) (lv := [(2, .int x22.1)]) (pcJ := 79) (st := []) (fun H locs ls hP hD hS hl => ?_) (fun hj22 => ?_)
  · refine lv_iload_n hx hb dX4_placeOfLeast_79 rfl (lv_at hl 0 rfl) ?_
    obtain rfl := Option.some.inj hR
    exact kk_ret_i hC hr hlocks hK hP hD hS dX4_placeOfLeast_80 rfl
  refine kk_loop (g := g) (A := A) (fun (st : Int32 × Int32 × St2) => (w_F g a st.2.2)) (fun (st : Int32 × Int32 × St2) => [(3, .int st.2.1), (2, .int st.1), (0, .ref (a 0 0))]) 35 (nL := 4) hq22 (fun st xb21 hR ih1 hX1 => ?_) hP hD hS (lv_sub hl [0, 1, 2] rfl)
  clear hP hD hS hl
  obtain ⟨u18, u19, G20⟩ := st
  intro H locs ls hP hD hS hl
  replace hR : fX4_placeOfLeast_b35 n u18 u19 G20 = some xb21 := hR
  replace hP : va_P g.1 vwCl (w_F g a G20) H := hP
  replace hD : va_D A (w_F g a G20) := hD
  replace hl : lv_has ls 4 [(3, .int u19), (2, .int u18), (0, .ref (a 0 0))] := hl
  unfold fX4_placeOfLeast_b35 at hR
  refine lv_iload_n hx hb dX4_placeOfLeast_35 rfl (lv_at hl 0 rfl) ?_
  refine lv_aload_n hx hb dX4_placeOfLeast_36 rfl (lv_at hl 2 rfl) ?_
  refine va_get (ci := 4) (C := RX4) (T := TX4) (N := 7) hx hb hts hw4 hown hK hP 0 rfl rfl 1 (by decide) hl0 (fun _ h9 => h9) rfl dX4_placeOfLeast_37 ?_
  refine va_get (ci := 2) (C := RX2) (T := TX2) (N := 11) hx hb hts hw2 hown hK hP 12 rfl rfl 0 (by decide) hl3 (fun _ h9 => h9) rfl dX4_placeOfLeast_40 ?_
  refine lv_icmp_ge (tgt := 79) hx hb dX4_placeOfLeast_43 (by decide) (fun c23 => ?_) (fun c23 => ?_)
  · replace hR := (if_pos c23).symm.trans hR
    obtain rfl := Option.some.inj hR
    obtain rfl := hX1 _ rfl
    exact hj22 _ _ _ hP hD hS (lv_sub hl [1] rfl)
  · replace hR := (if_neg c23).symm.trans hR
    refine lv_aload_n hx hb dX4_placeOfLeast_46 rfl (lv_at hl 2 rfl) ?_
    refine va_get (ci := 4) (C := RX4) (T := TX4) (N := 7) hx hb hts hw4 hown hK hP 0 rfl rfl 1 (by decide) hl0 (fun _ h9 => h9) rfl dX4_placeOfLeast_47 ?_
    refine lv_iload_n hx hb dX4_placeOfLeast_50 rfl (lv_at hl 0 rfl) ?_
    refine lv_iconst (v := (1 : Int32)) hx hb dX4_placeOfLeast_51 (by decide) ?_
    refine lv_isub hx hb dX4_placeOfLeast_52 ?_
    refine lv_iload_n hx hb dX4_placeOfLeast_53 rfl (lv_at hl 0 rfl) ?_
    obtain ⟨x24, hq24, hR⟩ := kk_bd_el hR
    obtain ⟨G25, eG25, hR⟩ := kk_nm_el hR
    refine kk_call_Vv (w' := (w_F g a G25)) (As := [.int (u19 - (1 : Int32)), .int u19]) (rest := []) 12 2 hC (sX2_swap l g n (a 2) (G20 2) (u19 - (1 : Int32)) u19 x24 hq24) (cwV 2 hts gX4_placeOfLeast_X2_swap rfl rfl rfl (by decide +kernel) ⟨Nat.le_of_ble_eq_true rfl, Nat.le_of_ble_eq_true rfl⟩) hK hP hD hS hA [12, 13, 14, 15, 16, 17, 18, 19, 20, 21] (kk_ml 23 rfl (by decide +kernel) (kk_ml 22 rfl (by decide +kernel) (kk_mr (js := [0, 1, 2, 3, 4, 5, 6, 7, 8, 9]) 12 rfl (by decide +kernel) (kk_m0 10 (by decide +kernel) rfl)))) (by decide +kernel) rfl (by rw [eG25]; exact kk_sl 23 rfl (by decide +kernel) (kk_sl 22 rfl (by decide +kernel) (kk_sr (js := [0, 1, 2, 3, 4, 5, 6, 7, 8, 9]) 12 rfl (by decide +kernel) (kk_s0 10 (by decide +kernel) rfl rfl)))) rfl rfl rfl rfl rfl hl.1 (Nat.le_of_ble_eq_true rfl) dX4_placeOfLeast_54 (fun H locs hP hD hS => ?_)
    refine lv_aload_n hx hb dX4_placeOfLeast_57 rfl (lv_at hl 2 rfl) ?_
    refine va_get (ci := 4) (C := RX4) (T := TX4) (N := 7) hx hb hts hw4 hown hK hP 0 rfl rfl 3 (by decide) hl2 (fun _ h9 => h9) rfl dX4_placeOfLeast_58 ?_
    refine lv_aload_n hx hb dX4_placeOfLeast_61 rfl (lv_at hl 2 rfl) ?_
    refine va_get (ci := 4) (C := RX4) (T := TX4) (N := 7) hx hb hts hw4 hown hK hP 0 rfl rfl 1 (by decide) hl0 (fun _ h9 => h9) rfl dX4_placeOfLeast_62 ?_
    obtain ⟨x26, hq26, hR⟩ := kk_bd_el hR
    obtain ⟨G27, eG27, hR⟩ := kk_nm_el hR
    obtain ⟨G28, eG28, hR⟩ := kk_nm_el hR
    refine kk_call_Vi (w' := (w_F g a G28)) (As := [.ref (a 2 0)]) (rest := []) 22 0 hC (sX0_isBeatenBy l g n (a 3) (a 2) (G25 3) (G25 2)  x26 hq26) (cwV 1 hts gX4_placeOfLeast_X0_isBeatenBy rfl rfl rfl (by decide +kernel) ⟨Nat.le_of_ble_eq_true rfl, Nat.le_of_ble_eq_true rfl⟩) hK hP hD hS hA [22, 12, 13, 14, 15, 16, 17, 18, 19, 20, 21] (kk_m2 (is1 := [22]) rfl (kk_ml 23 rfl (by decide +kernel) (kk_mr (js := [0]) 22 rfl (by decide +kernel) (kk_m0 1 (by decide +kernel) rfl))) (kk_ml 23 rfl (by decide +kernel) (kk_ml 22 rfl (by decide +kernel) (kk_mr (js := [0, 1, 2, 3, 4, 5, 6, 7, 8, 9]) 12 rfl (by decide +kernel) (kk_m0 10 (by decide +kernel) rfl))))) (by decide +kernel) rfl (by rw [eG28, eG27]; exact kk_set2 (is1 := [22]) rfl rfl (kk_sl 23 rfl (by decide +kernel) (kk_sr (js := [0]) 22 rfl (by decide +kernel) (kk_s0 1 (by decide +kernel) rfl rfl))) (kk_sl 23 rfl (by decide +kernel) (kk_sl 22 rfl (by decide +kernel) (kk_sr (js := [0, 1, 2, 3, 4, 5, 6, 7, 8, 9]) 12 rfl (by decide +kernel) (kk_s0 10 (by decide +kernel) rfl rfl))))) rfl rfl rfl rfl rfl hl.1 (Nat.le_of_ble_eq_true rfl) dX4_placeOfLeast_65 (fun H locs hP hD hS => ?_)
    refine lv_if_eq (tgt := 73) hx hb dX4_placeOfLeast_68 (by decide) (fun c29 => ?_) (fun c29 => ?_)
    · replace hR := (if_pos c29).symm.trans hR
      refine lv_iinc (v := (u19 + (1 : Int32))) (lv' := [(3, .int (u19 + (1 : Int32))), (2, .int u18), (0, .ref (a 0 0))]) hx hb dX4_placeOfLeast_73 hl (k := 0) rfl rfl (by decide) rfl (fun ls hl => ?_)
      refine lv_goto (tgt := 35) hx hb dX4_placeOfLeast_76 (by decide) ?_
      obtain rfl := Option.some.inj hR
      exact ih1 _ rfl _ _ _ hP hD hS (lv_sub hl [0, 1, 2] rfl)
    · replace hR := (if_neg c29).symm.trans hR
      refine lv_iload_n hx hb dX4_placeOfLeast_71 rfl (lv_at hl 0 rfl) ?_
      refine lv_istore_n (lv' := [(2, .int u19), (3, .int u19), (0, .ref (a 0 0))]) hx hb dX4_placeOfLeast_72 rfl hl (by decide) rfl (fun ls hl => ?_)
      refine lv_iinc (v := (u19 + (1 : Int32))) (lv' := [(3, .int (u19 + (1 : Int32))), (2, .int u19), (0, .ref (a 0 0))]) hx hb dX4_placeOfLeast_73 hl (k := 1) rfl rfl (by decide) rfl (fun ls hl => ?_)
      refine lv_goto (tgt := 35) hx hb dX4_placeOfLeast_76 (by decide) ?_
      obtain rfl := Option.some.inj hR
      exact ih1 _ rfl _ _ _ hP hD hS (lv_sub hl [0, 1, 2] rfl)
set_option maxHeartbeats 8000000 in
set_option maxRecDepth 100000 in
theorem sX4_readBuffer (l : Launch) (g : kG) (n : Nat) (a : Nat → Nat → Nat) (G : St2) (r : Int32 × St2) (hR : fX4_readBuffer n G = some r) : kSp l g yX4_readBuffer wsX4_readBuffer ({ frames := 3, cells := 0, slots := 0, locals := 63 }) [.ref (a 0 0)] (w_F g a G) (kQi g (w_F g a r.2) r.1) := by
  refine kSp.of (cc := cX4_readBuffer) (maxL := 2) (ret := (some .int)) (by decide) rfl (Nat.le_of_ble_eq_true rfl) ?_
  intro p e s m args below meth c ls A hC hr hlocks hA hK hl hP hD hS
  replace hC : CallFix p m c cX4_readBuffer 2 s args wsX4_readBuffer RX4 := hC
  obtain ⟨hx, hb, hml, hown, hts⟩ := id hC
  replace hl : lv_has ls 2 [(0, .ref (a 0 0))] := hl
  unfold fX4_readBuffer at hR
  have hw4 : ∀ w ∈ wsX40, w ∈ wsX4_readBuffer := by decide +kernel
  have hl0 := hts (.fieldLink RX4 36 "FloatOrder" "reader" "LFloatOrder$PartReader;") (by decide +kernel)
  have hl1 := hts (.fieldLink RX4 44 "FloatOrder" "characters" "I") (by decide +kernel)
  have hl2 := hts (.fieldLink RX4 40 "FloatOrder" "buffer" "[I") (by decide +kernel)
  refine lv_aload_n hx hb dX4_readBuffer_0 rfl (lv_at hl 0 rfl) ?_
  refine va_get (ci := 4) (C := RX4) (T := TX4) (N := 7) hx hb hts hw4 hown hK hP 0 rfl rfl 4 (by decide) hl0 (fun _ h9 => h9) rfl dX4_readBuffer_1 ?_
  obtain ⟨x1, hq1, hR⟩ := kk_bd_el hR
  obtain ⟨G2, eG2, hR⟩ := kk_nm_el hR
  refine kk_call_Vv (w' := (w_F g a G2)) (As := []) (rest := []) 23 3 hC (sX3_start l g n (a 4) (G 4)  x1 hq1) (cwV 0 hts gX4_readBuffer_X3_start rfl rfl rfl (by decide +kernel) ⟨Nat.le_of_ble_eq_true rfl, Nat.le_of_ble_eq_true rfl⟩) hK hP hD hS hA [23] (kk_mr (js := [0]) 23 rfl (by decide +kernel) (kk_m0 1 (by decide +kernel) rfl)) (by decide +kernel) rfl (by rw [eG2]; exact kk_sr (js := [0]) 23 rfl (by decide +kernel) (kk_s0 1 (by decide +kernel) rfl rfl)) rfl rfl rfl rfl rfl hl.1 (Nat.le_of_ble_eq_true rfl) dX4_readBuffer_4 (fun H locs hP hD hS => ?_)
  refine lv_iconst (v := (0 : Int32)) hx hb dX4_readBuffer_7 (by decide) ?_
  refine lv_istore_n (lv' := [(1, .int (0 : Int32)), (0, .ref (a 0 0))]) hx hb dX4_readBuffer_8 rfl hl (by decide) rfl (fun ls hl => ?_)
  have hq0 := hR
  refine kk_loop (g := g) (A := A) (fun (st : Int32 × St2) => (w_F g a st.2)) (fun (st : Int32 × St2) => [(1, .int st.1), (0, .ref (a 0 0))]) 9 (nL := 2) hq0 (fun st xb12 hR ih1 hX1 => ?_) hP hD hS (lv_sub hl [0, 1] rfl)
  clear hP hD hS hl
  obtain ⟨u10, G11⟩ := st
  intro H locs ls hP hD hS hl
  replace hR : fX4_readBuffer_b9 n u10 G11 = some xb12 := hR
  replace hP : va_P g.1 vwCl (w_F g a G11) H := hP
  replace hD : va_D A (w_F g a G11) := hD
  replace hl : lv_has ls 2 [(1, .int u10), (0, .ref (a 0 0))] := hl
  unfold fX4_readBuffer_b9 at hR
  refine lv_iload_n hx hb dX4_readBuffer_9 rfl (lv_at hl 0 rfl) ?_
  refine lv_aload_n hx hb dX4_readBuffer_10 rfl (lv_at hl 1 rfl) ?_
  refine va_get (ci := 4) (C := RX4) (T := TX4) (N := 7) hx hb hts hw4 hown hK hP 0 rfl rfl 6 (by decide) hl1 (fun _ h9 => h9) rfl dX4_readBuffer_11 ?_
  refine lv_icmp_ge (tgt := 41) hx hb dX4_readBuffer_14 (by decide) (fun c13 => ?_) (fun c13 => ?_)
  · replace hR := (if_pos c13).symm.trans hR
    refine lv_aload_n hx hb dX4_readBuffer_41 rfl (lv_at hl 1 rfl) ?_
    refine va_get (ci := 4) (C := RX4) (T := TX4) (N := 7) hx hb hts hw4 hown hK hP 0 rfl rfl 6 (by decide) hl1 (fun _ h9 => h9) rfl dX4_readBuffer_42 ?_
    obtain rfl := Option.some.inj hR
    obtain rfl := hX1 _ rfl
    exact kk_ret_i hC hr hlocks hK hP hD hS dX4_readBuffer_45 rfl
  · replace hR := (if_neg c13).symm.trans hR
    refine lv_aload_n hx hb dX4_readBuffer_17 rfl (lv_at hl 1 rfl) ?_
    refine va_get (ci := 4) (C := RX4) (T := TX4) (N := 7) hx hb hts hw4 hown hK hP 0 rfl rfl 4 (by decide) hl0 (fun _ h9 => h9) rfl dX4_readBuffer_18 ?_
    refine lv_aload_n hx hb dX4_readBuffer_21 rfl (lv_at hl 1 rfl) ?_
    refine va_get (ci := 4) (C := RX4) (T := TX4) (N := 7) hx hb hts hw4 hown hK hP 0 rfl rfl 5 (by decide) hl2 (fun _ h9 => h9) rfl dX4_readBuffer_22 ?_
    refine lv_iload_n hx hb dX4_readBuffer_25 rfl (lv_at hl 0 rfl) ?_
    obtain ⟨hi14, hR⟩ := kk_ck_el hR
    refine va_iald hx hb hK hP 1 0 rfl rfl hi14 dX4_readBuffer_26 ?_
    obtain ⟨x15, hq15, hR⟩ := kk_bd_el hR
    obtain ⟨G16, eG16, hR⟩ := kk_nm_el hR
    refine kk_call_Vi (w' := (w_F g a G16)) (As := [.int ((G11 0 5) u10.toNatClampNeg)]) (rest := []) 23 3 hC (sX3_accepts l g n (a 4) (G11 4) ((G11 0 5) u10.toNatClampNeg) x15 hq15) (cwV 1 hts gX4_readBuffer_X3_accepts rfl rfl rfl (by decide +kernel) ⟨Nat.le_of_ble_eq_true rfl, Nat.le_of_ble_eq_true rfl⟩) hK hP hD hS hA [23] (kk_mr (js := [0]) 23 rfl (by decide +kernel) (kk_m0 1 (by decide +kernel) rfl)) (by decide +kernel) rfl (by rw [eG16]; exact kk_sr (js := [0]) 23 rfl (by decide +kernel) (kk_s0 1 (by decide +kernel) rfl rfl)) rfl rfl rfl rfl rfl hl.1 (Nat.le_of_ble_eq_true rfl) dX4_readBuffer_27 (fun H locs hP hD hS => ?_)
    refine lv_if_ne (tgt := 35) hx hb dX4_readBuffer_30 (by decide) (fun c17 => ?_) (fun c17 => ?_)
    · replace hR := (if_neg c17).symm.trans hR
      refine lv_iinc (v := (u10 + (1 : Int32))) (lv' := [(1, .int (u10 + (1 : Int32))), (0, .ref (a 0 0))]) hx hb dX4_readBuffer_35 hl (k := 0) rfl rfl (by decide) rfl (fun ls hl => ?_)
      refine lv_goto (tgt := 9) hx hb dX4_readBuffer_38 (by decide) ?_
      obtain rfl := Option.some.inj hR
      exact ih1 _ rfl _ _ _ hP hD hS (lv_sub hl [0, 1] rfl)
    · replace hR := (if_pos c17).symm.trans hR
      refine lv_iload_n hx hb dX4_readBuffer_33 rfl (lv_at hl 0 rfl) ?_
      obtain rfl := Option.some.inj hR
      obtain rfl := hX1 _ rfl
      exact kk_ret_i hC hr hlocks hK hP hD hS dX4_readBuffer_34 rfl
set_option maxHeartbeats 8000000 in
set_option maxRecDepth 100000 in
theorem sX4_partsInBuffer (l : Launch) (g : kG) (n : Nat) (a : Nat → Nat → Nat) (G : St2) (r : Int32) (hR : fX4_partsInBuffer n G = some r) : kSp l g yX4_partsInBuffer wsX4_partsInBuffer ({ frames := 0, cells := 0, slots := 0, locals := 0 }) [.ref (a 0 0)] (w_F g a G) (kQi g (w_F g a G) r) := by
  refine kSp.of (cc := cX4_partsInBuffer) (maxL := 3) (ret := (some .int)) (by decide) rfl (Nat.le_of_ble_eq_true rfl) ?_
  intro p e s m args below meth c ls A hC hr hlocks hA hK hl hP hD hS
  replace hC : CallFix p m c cX4_partsInBuffer 3 s args wsX4_partsInBuffer RX4 := hC
  obtain ⟨hx, hb, hml, hown, hts⟩ := id hC
  replace hl : lv_has ls 3 [(0, .ref (a 0 0))] := hl
  unfold fX4_partsInBuffer at hR
  have hw4 : ∀ w ∈ wsX40, w ∈ wsX4_partsInBuffer := by decide +kernel
  have hl0 := hts (.fieldLink RX4 44 "FloatOrder" "characters" "I") (by decide +kernel)
  have hl1 := hts (.fieldLink RX4 40 "FloatOrder" "buffer" "[I") (by decide +kernel)
  refine lv_iconst (v := (1 : Int32)) hx hb dX4_partsInBuffer_0 (by decide) ?_
  refine lv_istore_n (lv' := [(1, .int (1 : Int32)), (0, .ref (a 0 0))]) hx hb dX4_partsInBuffer_1 rfl hl (by decide) rfl (fun ls hl => ?_)
  refine lv_iconst (v := (0 : Int32)) hx hb dX4_partsInBuffer_2 (by decide) ?_
  refine lv_istore_n (lv' := [(2, .int (0 : Int32)), (1, .int (1 : Int32)), (0, .ref (a 0 0))]) hx hb dX4_partsInBuffer_3 rfl hl (by decide) rfl (fun ls hl => ?_)
  obtain ⟨x10, hq10, hR⟩ := kk_bd_el hR
  refine kk_cut (g := g) (A := A) (w' := (w_F g a G)) (nL := 3) (lv := [(1, .int x10)]) (pcJ := 32) (st := []) (fun H locs ls hP hD hS hl => ?_) (fun hj10 => ?_)
  · refine lv_iload_n hx hb dX4_partsInBuffer_32 rfl (lv_at hl 0 rfl) ?_
    obtain rfl := Option.some.inj hR
    exact kk_ret_i hC hr hlocks hK hP hD hS dX4_partsInBuffer_33 rfl
  refine kk_loop (g := g) (A := A) (fun (st : Int32 × Int32) => (w_F g a G)) (fun (st : Int32 × Int32) => [(2, .int st.2), (1, .int st.1), (0, .ref (a 0 0))]) 4 (nL := 3) hq10 (fun st xb9 hR ih1 hX1 => ?_) hP hD hS (lv_sub hl [0, 1, 2] rfl)
  clear hP hD hS hl
  obtain ⟨u7, u8⟩ := st
  intro H locs ls hP hD hS hl
  replace hR : fX4_partsInBuffer_b4 n G u7 u8 = some xb9 := hR
  replace hP : va_P g.1 vwCl (w_F g a G) H := hP
  replace hD : va_D A (w_F g a G) := hD
  replace hl : lv_has ls 3 [(2, .int u8), (1, .int u7), (0, .ref (a 0 0))] := hl
  unfold fX4_partsInBuffer_b4 at hR
  refine lv_iload_n hx hb dX4_partsInBuffer_4 rfl (lv_at hl 0 rfl) ?_
  refine lv_aload_n hx hb dX4_partsInBuffer_5 rfl (lv_at hl 2 rfl) ?_
  refine va_get (ci := 4) (C := RX4) (T := TX4) (N := 7) hx hb hts hw4 hown hK hP 0 rfl rfl 6 (by decide) hl0 (fun _ h9 => h9) rfl dX4_partsInBuffer_6 ?_
  refine lv_icmp_ge (tgt := 32) hx hb dX4_partsInBuffer_9 (by decide) (fun c11 => ?_) (fun c11 => ?_)
  · replace hR := (if_pos c11).symm.trans hR
    obtain rfl := Option.some.inj hR
    obtain rfl := hX1 _ rfl
    exact hj10 _ _ _ hP hD hS (lv_sub hl [1] rfl)
  · replace hR := (if_neg c11).symm.trans hR
    refine lv_aload_n hx hb dX4_partsInBuffer_12 rfl (lv_at hl 2 rfl) ?_
    refine va_get (ci := 4) (C := RX4) (T := TX4) (N := 7) hx hb hts hw4 hown hK hP 0 rfl rfl 5 (by decide) hl1 (fun _ h9 => h9) rfl dX4_partsInBuffer_13 ?_
    refine lv_iload_n hx hb dX4_partsInBuffer_16 rfl (lv_at hl 0 rfl) ?_
    obtain ⟨hi12, hR⟩ := kk_ck_el hR
    refine va_iald hx hb hK hP 1 0 rfl rfl hi12 dX4_partsInBuffer_17 ?_
    refine lv_bipush (v := (59 : Int32)) hx hb dX4_partsInBuffer_18 (by decide) ?_
    refine lv_icmp_ne (tgt := 26) hx hb dX4_partsInBuffer_20 (by decide) (fun c13 => ?_) (fun c13 => ?_)
    · replace hR := (if_neg c13).symm.trans hR
      refine lv_iinc (v := (u8 + (1 : Int32))) (lv' := [(2, .int (u8 + (1 : Int32))), (1, .int u7), (0, .ref (a 0 0))]) hx hb dX4_partsInBuffer_26 hl (k := 0) rfl rfl (by decide) rfl (fun ls hl => ?_)
      refine lv_goto (tgt := 4) hx hb dX4_partsInBuffer_29 (by decide) ?_
      obtain rfl := Option.some.inj hR
      exact ih1 _ rfl _ _ _ hP hD hS (lv_sub hl [0, 1, 2] rfl)
    · replace hR := (if_pos c13).symm.trans hR
      refine lv_iinc (v := (u7 + (1 : Int32))) (lv' := [(1, .int (u7 + (1 : Int32))), (2, .int u8), (0, .ref (a 0 0))]) hx hb dX4_partsInBuffer_23 hl (k := 1) rfl rfl (by decide) rfl (fun ls hl => ?_)
      refine lv_iinc (v := (u8 + (1 : Int32))) (lv' := [(2, .int (u8 + (1 : Int32))), (1, .int (u7 + (1 : Int32))), (0, .ref (a 0 0))]) hx hb dX4_partsInBuffer_26 hl (k := 1) rfl rfl (by decide) rfl (fun ls hl => ?_)
      refine lv_goto (tgt := 4) hx hb dX4_partsInBuffer_29 (by decide) ?_
      obtain rfl := Option.some.inj hR
      exact ih1 _ rfl _ _ _ hP hD hS (lv_sub hl [0, 1, 2] rfl)
set_option maxHeartbeats 8000000 in
set_option maxRecDepth 100000 in
theorem sX4_addParts (l : Launch) (g : kG) (n : Nat) (a : Nat → Nat → Nat) (G : St2) (r : St2) (hR : fX4_addParts n G = some r) : kSp l g yX4_addParts wsX4_addParts ({ frames := 3, cells := 0, slots := 0, locals := 63 }) [.ref (a 0 0)] (w_F g a G) (kQv g (w_F g a r)) := by
  refine kSp.of (cc := cX4_addParts) (maxL := 2) (ret := none) (by decide) rfl (Nat.le_of_ble_eq_true rfl) ?_
  intro p e s m args below meth c ls A hC hr hlocks hA hK hl hP hD hS
  replace hC : CallFix p m c cX4_addParts 2 s args wsX4_addParts RX4 := hC
  obtain ⟨hx, hb, hml, hown, hts⟩ := id hC
  replace hl : lv_has ls 2 [(0, .ref (a 0 0))] := hl
  unfold fX4_addParts at hR
  have hw3 : ∀ w ∈ wsX30, w ∈ wsX4_addParts := by decide +kernel
  have hw4 : ∀ w ∈ wsX40, w ∈ wsX4_addParts := by decide +kernel
  have hl0 := hts (.fieldLink RX4 36 "FloatOrder" "reader" "LFloatOrder$PartReader;") (by decide +kernel)
  have hl1 := hts (.fieldLink RX4 44 "FloatOrder" "characters" "I") (by decide +kernel)
  have hl2 := hts (.fieldLink RX4 40 "FloatOrder" "buffer" "[I") (by decide +kernel)
  have hl3 := hts (.fieldLink RX4 10 "FloatOrder" "parade" "LFloatOrder$Parade;") (by decide +kernel)
  have hl4 := hts (.fieldLink RX4 279 "FloatOrder$PartReader" "kind" "I") (by decide +kernel)
  have hl5 := hts (.fieldLink RX4 282 "FloatOrder$PartReader" "height" "I") (by decide +kernel)
  have hl6 := hts (.fieldLink RX4 285 "FloatOrder$PartReader" "mask" "I") (by decide +kernel)
  refine lv_aload_n hx hb dX4_addParts_0 rfl (lv_at hl 0 rfl) ?_
  refine va_get (ci := 4) (C := RX4) (T := TX4) (N := 7) hx hb hts hw4 hown hK hP 0 rfl rfl 4 (by decide) hl0 (fun _ h9 => h9) rfl dX4_addParts_1 ?_
  obtain ⟨x1, hq1, hR⟩ := kk_bd_el hR
  obtain ⟨G2, eG2, hR⟩ := kk_nm_el hR
  refine kk_call_Vv (w' := (w_F g a G2)) (As := []) (rest := []) 23 3 hC (sX3_start l g n (a 4) (G 4)  x1 hq1) (cwV 0 hts gX4_addParts_X3_start rfl rfl rfl (by decide +kernel) ⟨Nat.le_of_ble_eq_true rfl, Nat.le_of_ble_eq_true rfl⟩) hK hP hD hS hA [23] (kk_mr (js := [0]) 23 rfl (by decide +kernel) (kk_m0 1 (by decide +kernel) rfl)) (by decide +kernel) rfl (by rw [eG2]; exact kk_sr (js := [0]) 23 rfl (by decide +kernel) (kk_s0 1 (by decide +kernel) rfl rfl)) rfl rfl rfl rfl rfl hl.1 (Nat.le_of_ble_eq_true rfl) dX4_addParts_4 (fun H locs hP hD hS => ?_)
  refine lv_iconst (v := (0 : Int32)) hx hb dX4_addParts_7 (by decide) ?_
  refine lv_istore_n (lv' := [(1, .int (0 : Int32)), (0, .ref (a 0 0))]) hx hb dX4_addParts_8 rfl hl (by decide) rfl (fun ls hl => ?_)
  obtain ⟨x20, hq20, hR⟩ := kk_bd_el hR
  refine kk_cut (g := g) (A := A) (w' := (w_F g a x20)) (nL := 2) (lv := [(0, .ref (a 0 0))]) (pcJ := 76) (st := []) (fun H locs ls hP hD hS hl => ?_) (fun hj20 => ?_)
  · refine lv_aload_n hx hb dX4_addParts_76 rfl (lv_at hl 0 rfl) ?_
    refine va_get (ci := 4) (C := RX4) (T := TX4) (N := 7) hx hb hts hw4 hown hK hP 0 rfl rfl 0 (by decide) hl3 (fun _ h9 => h9) rfl dX4_addParts_77 ?_
    refine lv_aload_n hx hb dX4_addParts_80 rfl (lv_at hl 0 rfl) ?_
    refine va_get (ci := 4) (C := RX4) (T := TX4) (N := 7) hx hb hts hw4 hown hK hP 0 rfl rfl 4 (by decide) hl0 (fun _ h9 => h9) rfl dX4_addParts_81 ?_
    refine va_get (ci := 3) (C := RX3) (T := TX3) (N := 4) hx hb hts hw3 hown hK hP 23 rfl rfl 0 (by decide) hl4 (fun _ h9 => h9) rfl dX4_addParts_84 ?_
    refine lv_aload_n hx hb dX4_addParts_87 rfl (lv_at hl 0 rfl) ?_
    refine va_get (ci := 4) (C := RX4) (T := TX4) (N := 7) hx hb hts hw4 hown hK hP 0 rfl rfl 4 (by decide) hl0 (fun _ h9 => h9) rfl dX4_addParts_88 ?_
    refine va_get (ci := 3) (C := RX3) (T := TX3) (N := 4) hx hb hts hw3 hown hK hP 23 rfl rfl 1 (by decide) hl5 (fun _ h9 => h9) rfl dX4_addParts_91 ?_
    refine lv_aload_n hx hb dX4_addParts_94 rfl (lv_at hl 0 rfl) ?_
    refine va_get (ci := 4) (C := RX4) (T := TX4) (N := 7) hx hb hts hw4 hown hK hP 0 rfl rfl 4 (by decide) hl0 (fun _ h9 => h9) rfl dX4_addParts_95 ?_
    refine va_get (ci := 3) (C := RX3) (T := TX3) (N := 4) hx hb hts hw3 hown hK hP 23 rfl rfl 2 (by decide) hl6 (fun _ h9 => h9) rfl dX4_addParts_98 ?_
    obtain ⟨x33, hq33, hR⟩ := kk_bd_el hR
    obtain ⟨G34, eG34, hR⟩ := kk_nm_el hR
    refine kk_call_Vv (w' := (w_F g a G34)) (As := [.int (x20 4 0 0), .int (x20 4 1 0), .int (x20 4 2 0)]) (rest := []) 2 2 hC (sX2_addLast l g n (a 1) (x20 1) (x20 4 0 0) (x20 4 1 0) (x20 4 2 0) x33 hq33) (cwV 3 hts gX4_addParts_X2_addLast rfl rfl rfl (by decide +kernel) ⟨Nat.le_of_ble_eq_true rfl, Nat.le_of_ble_eq_true rfl⟩) hK hP hD hS hA [2, 3, 4, 5, 6, 7, 8, 9, 10, 11] (kk_ml 23 rfl (by decide +kernel) (kk_ml 22 rfl (by decide +kernel) (kk_ml 12 rfl (by decide +kernel) (kk_mr (js := [0, 1, 2, 3, 4, 5, 6, 7, 8, 9]) 2 rfl (by decide +kernel) (kk_m0 10 (by decide +kernel) rfl))))) (by decide +kernel) rfl (by rw [eG34]; exact kk_sl 23 rfl (by decide +kernel) (kk_sl 22 rfl (by decide +kernel) (kk_sl 12 rfl (by decide +kernel) (kk_sr (js := [0, 1, 2, 3, 4, 5, 6, 7, 8, 9]) 2 rfl (by decide +kernel) (kk_s0 10 (by decide +kernel) rfl rfl))))) rfl rfl rfl rfl rfl hl.1 (Nat.le_of_ble_eq_true rfl) dX4_addParts_101 (fun H locs hP hD hS => ?_)
    obtain rfl := Option.some.inj hR
    exact kk_ret_v hC hr hlocks hK hP hD hS dX4_addParts_104
  refine kk_loop (g := g) (A := A) (fun (st : Int32 × St2) => (w_F g a st.2)) (fun (st : Int32 × St2) => [(1, .int st.1), (0, .ref (a 0 0))]) 9 (nL := 2) hq20 (fun st xb19 hR ih1 hX1 => ?_) hP hD hS (lv_sub hl [0, 1] rfl)
  clear hP hD hS hl
  obtain ⟨u17, G18⟩ := st
  intro H locs ls hP hD hS hl
  replace hR : fX4_addParts_b9 n u17 G18 = some xb19 := hR
  replace hP : va_P g.1 vwCl (w_F g a G18) H := hP
  replace hD : va_D A (w_F g a G18) := hD
  replace hl : lv_has ls 2 [(1, .int u17), (0, .ref (a 0 0))] := hl
  unfold fX4_addParts_b9 at hR
  refine lv_iload_n hx hb dX4_addParts_9 rfl (lv_at hl 0 rfl) ?_
  refine lv_aload_n hx hb dX4_addParts_10 rfl (lv_at hl 1 rfl) ?_
  refine va_get (ci := 4) (C := RX4) (T := TX4) (N := 7) hx hb hts hw4 hown hK hP 0 rfl rfl 6 (by decide) hl1 (fun _ h9 => h9) rfl dX4_addParts_11 ?_
  refine lv_icmp_ge (tgt := 76) hx hb dX4_addParts_14 (by decide) (fun c21 => ?_) (fun c21 => ?_)
  · replace hR := (if_pos c21).symm.trans hR
    obtain rfl := Option.some.inj hR
    obtain rfl := hX1 _ rfl
    exact hj20 _ _ _ hP hD hS (lv_sub hl [1] rfl)
  · replace hR := (if_neg c21).symm.trans hR
    refine lv_aload_n hx hb dX4_addParts_17 rfl (lv_at hl 1 rfl) ?_
    refine va_get (ci := 4) (C := RX4) (T := TX4) (N := 7) hx hb hts hw4 hown hK hP 0 rfl rfl 5 (by decide) hl2 (fun _ h9 => h9) rfl dX4_addParts_18 ?_
    refine lv_iload_n hx hb dX4_addParts_21 rfl (lv_at hl 0 rfl) ?_
    obtain ⟨hi22, hR⟩ := kk_ck_el hR
    refine va_iald hx hb hK hP 1 0 rfl rfl hi22 dX4_addParts_22 ?_
    refine lv_bipush (v := (59 : Int32)) hx hb dX4_addParts_23 (by decide) ?_
    obtain ⟨x26, hq26, hR⟩ := kk_bd_el hR
    refine kk_cut (g := g) (A := A) (w' := (w_F g a x26)) (nL := 2) (lv := [(1, .int u17), (0, .ref (a 0 0))]) (pcJ := 56) (st := []) (fun H locs ls hP hD hS hl => ?_) (fun hj26 => ?_)
    · refine lv_aload_n hx hb dX4_addParts_56 rfl (lv_at hl 1 rfl) ?_
      refine va_get (ci := 4) (C := RX4) (T := TX4) (N := 7) hx hb hts hw4 hown hK hP 0 rfl rfl 4 (by decide) hl0 (fun _ h9 => h9) rfl dX4_addParts_57 ?_
      refine lv_aload_n hx hb dX4_addParts_60 rfl (lv_at hl 1 rfl) ?_
      refine va_get (ci := 4) (C := RX4) (T := TX4) (N := 7) hx hb hts hw4 hown hK hP 0 rfl rfl 5 (by decide) hl2 (fun _ h9 => h9) rfl dX4_addParts_61 ?_
      refine lv_iload_n hx hb dX4_addParts_64 rfl (lv_at hl 0 rfl) ?_
      obtain ⟨hi30, hR⟩ := kk_ck_el hR
      refine va_iald hx hb hK hP 1 0 rfl rfl hi30 dX4_addParts_65 ?_
      obtain ⟨x31, hq31, hR⟩ := kk_bd_el hR
      obtain ⟨G32, eG32, hR⟩ := kk_nm_el hR
      refine kk_call_Vi (w' := (w_F g a G32)) (As := [.int ((x26 0 5) u17.toNatClampNeg)]) (rest := []) 23 3 hC (sX3_accepts l g n (a 4) (x26 4) ((x26 0 5) u17.toNatClampNeg) x31 hq31) (cwV 1 hts gX4_addParts_X3_accepts rfl rfl rfl (by decide +kernel) ⟨Nat.le_of_ble_eq_true rfl, Nat.le_of_ble_eq_true rfl⟩) hK hP hD hS hA [23] (kk_mr (js := [0]) 23 rfl (by decide +kernel) (kk_m0 1 (by decide +kernel) rfl)) (by decide +kernel) rfl (by rw [eG32]; exact kk_sr (js := [0]) 23 rfl (by decide +kernel) (kk_s0 1 (by decide +kernel) rfl rfl)) rfl rfl rfl rfl rfl hl.1 (Nat.le_of_ble_eq_true rfl) dX4_addParts_66 (fun H locs hP hD hS => ?_)
      refine lv_pop hx hb dX4_addParts_69 rfl ?_
      refine lv_iinc (v := (u17 + (1 : Int32))) (lv' := [(1, .int (u17 + (1 : Int32))), (0, .ref (a 0 0))]) hx hb dX4_addParts_70 hl (k := 0) rfl rfl (by decide) rfl (fun ls hl => ?_)
      refine lv_goto (tgt := 9) hx hb dX4_addParts_73 (by decide) ?_
      obtain rfl := Option.some.inj hR
      exact ih1 _ rfl _ _ _ hP hD hS (lv_sub hl [0, 1] rfl)
    replace hR := hq26
    refine lv_icmp_ne (tgt := 56) hx hb dX4_addParts_25 (by decide) (fun c27 => ?_) (fun c27 => ?_)
    · replace hR := (if_neg c27).symm.trans hR
      obtain rfl := Option.some.inj hR
      exact hj26 _ _ _ hP hD hS (lv_sub hl [0, 1] rfl)
    · replace hR := (if_pos c27).symm.trans hR
      refine lv_aload_n hx hb dX4_addParts_28 rfl (lv_at hl 1 rfl) ?_
      refine va_get (ci := 4) (C := RX4) (T := TX4) (N := 7) hx hb hts hw4 hown hK hP 0 rfl rfl 0 (by decide) hl3 (fun _ h9 => h9) rfl dX4_addParts_29 ?_
      refine lv_aload_n hx hb dX4_addParts_32 rfl (lv_at hl 1 rfl) ?_
      refine va_get (ci := 4) (C := RX4) (T := TX4) (N := 7) hx hb hts hw4 hown hK hP 0 rfl rfl 4 (by decide) hl0 (fun _ h9 => h9) rfl dX4_addParts_33 ?_
      refine va_get (ci := 3) (C := RX3) (T := TX3) (N := 4) hx hb hts hw3 hown hK hP 23 rfl rfl 0 (by decide) hl4 (fun _ h9 => h9) rfl dX4_addParts_36 ?_
      refine lv_aload_n hx hb dX4_addParts_39 rfl (lv_at hl 1 rfl) ?_
      refine va_get (ci := 4) (C := RX4) (T := TX4) (N := 7) hx hb hts hw4 hown hK hP 0 rfl rfl 4 (by decide) hl0 (fun _ h9 => h9) rfl dX4_addParts_40 ?_
      refine va_get (ci := 3) (C := RX3) (T := TX3) (N := 4) hx hb hts hw3 hown hK hP 23 rfl rfl 1 (by decide) hl5 (fun _ h9 => h9) rfl dX4_addParts_43 ?_
      refine lv_aload_n hx hb dX4_addParts_46 rfl (lv_at hl 1 rfl) ?_
      refine va_get (ci := 4) (C := RX4) (T := TX4) (N := 7) hx hb hts hw4 hown hK hP 0 rfl rfl 4 (by decide) hl0 (fun _ h9 => h9) rfl dX4_addParts_47 ?_
      refine va_get (ci := 3) (C := RX3) (T := TX3) (N := 4) hx hb hts hw3 hown hK hP 23 rfl rfl 2 (by decide) hl6 (fun _ h9 => h9) rfl dX4_addParts_50 ?_
      obtain ⟨x28, hq28, hR⟩ := kk_bd_el hR
      obtain ⟨G29, eG29, hR⟩ := kk_nm_el hR
      refine kk_call_Vv (w' := (w_F g a G29)) (As := [.int (G18 4 0 0), .int (G18 4 1 0), .int (G18 4 2 0)]) (rest := []) 2 2 hC (sX2_addLast l g n (a 1) (G18 1) (G18 4 0 0) (G18 4 1 0) (G18 4 2 0) x28 hq28) (cwV 3 hts gX4_addParts_X2_addLast rfl rfl rfl (by decide +kernel) ⟨Nat.le_of_ble_eq_true rfl, Nat.le_of_ble_eq_true rfl⟩) hK hP hD hS hA [2, 3, 4, 5, 6, 7, 8, 9, 10, 11] (kk_ml 23 rfl (by decide +kernel) (kk_ml 22 rfl (by decide +kernel) (kk_ml 12 rfl (by decide +kernel) (kk_mr (js := [0, 1, 2, 3, 4, 5, 6, 7, 8, 9]) 2 rfl (by decide +kernel) (kk_m0 10 (by decide +kernel) rfl))))) (by decide +kernel) rfl (by rw [eG29]; exact kk_sl 23 rfl (by decide +kernel) (kk_sl 22 rfl (by decide +kernel) (kk_sl 12 rfl (by decide +kernel) (kk_sr (js := [0, 1, 2, 3, 4, 5, 6, 7, 8, 9]) 2 rfl (by decide +kernel) (kk_s0 10 (by decide +kernel) rfl rfl))))) rfl rfl rfl rfl rfl hl.1 (Nat.le_of_ble_eq_true rfl) dX4_addParts_53 (fun H locs hP hD hS => ?_)
      obtain rfl := Option.some.inj hR
      exact hj26 _ _ _ hP hD hS (lv_sub hl [0, 1] rfl)
set_option maxHeartbeats 8000000 in
set_option maxRecDepth 100000 in
theorem sX4_withFloat (l : Launch) (g : kG) (n : Nat) (a : Nat → Nat → Nat) (G : St2) (v1 : Int64) (v3 : Int32) (r : Int64 × St2) (hR : fX4_withFloat n G v1 v3 = some r) : kSp l g yX4_withFloat wsX4_withFloat ({ frames := 5, cells := 0, slots := 0, locals := 115 }) [.ref (a 0 0), .long v1, .int v3] (w_F g a G) (kQl g (w_F g a r.2) r.1) := by
  refine kSp.of (cc := cX4_withFloat) (maxL := 7) (ret := (some .long)) (by decide) rfl (Nat.le_of_ble_eq_true rfl) ?_
  intro p e s m args below meth c ls A hC hr hlocks hA hK hl hP hD hS
  replace hC : CallFix p m c cX4_withFloat 7 s args wsX4_withFloat RX4 := hC
  obtain ⟨hx, hb, hml, hown, hts⟩ := id hC
  replace hl : lv_has ls 7 [(0, .ref (a 0 0)), (1, .long v1), (3, .int v3)] := hl
  unfold fX4_withFloat at hR
  have hw2 : ∀ w ∈ wsX20, w ∈ wsX4_withFloat := by decide +kernel
  have hw4 : ∀ w ∈ wsX40, w ∈ wsX4_withFloat := by decide +kernel
  have hl0 := hts (.fieldLink RX4 10 "FloatOrder" "parade" "LFloatOrder$Parade;") (by decide +kernel)
  have hl1 := hts (.fieldLink RX4 117 "FloatOrder$Parade" "bridges" "I") (by decide +kernel)
  have hl2 := hts (.fieldLink RX4 193 "FloatOrder$Parade" "came" "[I") (by decide +kernel)
  refine lv_lload_n hx hb dX4_withFloat_0 rfl (lv_at hl 1 rfl) ?_
  refine lv_lstore (lv' := [(4, .long v1), (0, .ref (a 0 0)), (1, .long v1), (3, .int v3)]) hx hb dX4_withFloat_1 hl (by decide) rfl (fun ls hl => ?_)
  refine lv_iconst (v := (0 : Int32)) hx hb dX4_withFloat_3 (by decide) ?_
  refine lv_istore (lv' := [(6, .int (0 : Int32)), (4, .long v1), (0, .ref (a 0 0)), (1, .long v1), (3, .int v3)]) hx hb dX4_withFloat_4 hl (by decide) rfl (fun ls hl => ?_)
  obtain ⟨x10, hq10, hR⟩ := kk_bd_el hR
  refine kk_cut (g := g) (A := A) (w' := (w_F g a G)) (nL := 7) (lv := [(4, .long x10), (0, .ref (a 0 0)), (3, .int v3)]) (pcJ := 37) (st := []) (fun H locs ls hP hD hS hl => ?_) (fun hj10 => ?_)
  · refine lv_iconst (v := (0 : Int32)) hx hb dX4_withFloat_37 (by decide) ?_
    refine lv_istore (lv' := [(6, .int (0 : Int32)), (4, .long x10), (0, .ref (a 0 0)), (3, .int v3)]) hx hb dX4_withFloat_38 hl (by decide) rfl (fun ls hl => ?_)
    obtain ⟨x23, hq23, hR⟩ := kk_bd_el hR
    refine kk_cut (g := g) (A := A) (w' := (w_F g a G)) (nL := 7) (lv := [(4, .long x23), (0, .ref (a 0 0)), (3, .int v3)]) (pcJ := 70) (st := []) (fun H locs ls hP hD hS hl => ?_) (fun hj23 => ?_)
    · refine lv_aload_n hx hb dX4_withFloat_70 rfl (lv_at hl 1 rfl) ?_
      refine va_get (ci := 4) (C := RX4) (T := TX4) (N := 7) hx hb hts hw4 hown hK hP 0 rfl rfl 0 (by decide) hl0 (fun _ h9 => h9) rfl dX4_withFloat_71 ?_
      refine lv_iload_n hx hb dX4_withFloat_74 rfl (lv_at hl 2 rfl) ?_
      obtain ⟨x27, hq27, hR⟩ := kk_bd_el hR
      obtain ⟨G28, eG28, hR⟩ := kk_nm_el hR
      refine kk_call_Vv (w' := (w_F g a G28)) (As := [.int v3]) (rest := []) 2 2 hC (sX2_travel l g n (a 1) (G 1) v3 x27 hq27) (cwV 1 hts gX4_withFloat_X2_travel rfl rfl rfl (by decide +kernel) ⟨Nat.le_of_ble_eq_true rfl, Nat.le_of_ble_eq_true rfl⟩) hK hP hD hS hA [2, 3, 4, 5, 6, 7, 8, 9, 10, 11] (kk_ml 23 rfl (by decide +kernel) (kk_ml 22 rfl (by decide +kernel) (kk_ml 12 rfl (by decide +kernel) (kk_mr (js := [0, 1, 2, 3, 4, 5, 6, 7, 8, 9]) 2 rfl (by decide +kernel) (kk_m0 10 (by decide +kernel) rfl))))) (by decide +kernel) rfl (by rw [eG28]; exact kk_sl 23 rfl (by decide +kernel) (kk_sl 22 rfl (by decide +kernel) (kk_sl 12 rfl (by decide +kernel) (kk_sr (js := [0, 1, 2, 3, 4, 5, 6, 7, 8, 9]) 2 rfl (by decide +kernel) (kk_s0 10 (by decide +kernel) rfl rfl))))) rfl rfl rfl rfl rfl hl.1 (Nat.le_of_ble_eq_true rfl) dX4_withFloat_75 (fun H locs hP hD hS => ?_)
      refine lv_iconst (v := (0 : Int32)) hx hb dX4_withFloat_78 (by decide) ?_
      refine lv_istore (lv' := [(6, .int (0 : Int32)), (4, .long x23), (0, .ref (a 0 0)), (3, .int v3)]) hx hb dX4_withFloat_79 hl (by decide) rfl (fun ls hl => ?_)
      obtain ⟨x38, hq38, hR⟩ := kk_bd_el hR
      refine kk_cut (g := g) (A := A) (w' := (w_F g a G28)) (nL := 7) (lv := [(4, .long x38), (0, .ref (a 0 0)), (3, .int v3)]) (pcJ := 117) (st := []) (fun H locs ls hP hD hS hl => ?_) (fun hj38 => ?_)
      · refine lv_lload hx hb dX4_withFloat_117 (lv_at hl 0 rfl) ?_
        refine lv_aload_n hx hb dX4_withFloat_119 rfl (lv_at hl 1 rfl) ?_
        refine lv_iload_n hx hb dX4_withFloat_120 rfl (lv_at hl 2 rfl) ?_
        obtain ⟨x42, hq42, hR⟩ := kk_bd_el hR
        refine kk_call_Vi (w' := (w_F g a x42.2)) (As := [.int v3]) (rest := [.long x38]) 0 4 hC (sX4_placeOfLeast l g n a G28 v3 x42 hq42) (cwV 1 hts gX4_withFloat_X4_placeOfLeast rfl rfl rfl (by decide +kernel) ⟨Nat.le_of_ble_eq_true rfl, Nat.le_of_ble_eq_true rfl⟩) hK hP hD hS hA [0, 1, 2, 3, 4, 5, 6, 7, 8, 9, 10, 11, 12, 13, 14, 15, 16, 17, 18, 19, 20, 21, 22, 23] (kk_m0 24 (by decide +kernel) rfl) (by decide +kernel) rfl (kk_s0 24 (by decide +kernel) rfl rfl) rfl rfl rfl rfl rfl hl.1 (Nat.le_of_ble_eq_true rfl) dX4_withFloat_121 (fun H locs hP hD hS => ?_)
        refine lv_i2l (v := x42.1.toInt64) hx hb dX4_withFloat_124 rfl ?_
        obtain ⟨x43, hq43, hR⟩ := kk_bd_el hR
        refine kk_call_Sl (w' := (w_F g a x42.2)) (As := [.long x38, .long x42.1.toInt64]) (rest := []) hC (sX4_mixed l g n   x38 x42.1.toInt64 x43 hq43) (va_cwS 2 hts gX4_withFloat_X4_mixed rfl rfl rfl (by decide +kernel) ⟨Nat.le_of_ble_eq_true rfl, Nat.le_of_ble_eq_true rfl⟩) hK hP hD hS hA [] rfl (by decide +kernel) rfl rfl rfl rfl hl.1 (Nat.le_of_ble_eq_true rfl) dX4_withFloat_125 (fun H locs hP hD hS => ?_)
        obtain rfl := Option.some.inj hR
        exact kk_ret_l hC hr hlocks hK hP hD hS dX4_withFloat_128 rfl
      refine kk_loop (g := g) (A := A) (fun (st : Int64 × Int32) => (w_F g a G28)) (fun (st : Int64 × Int32) => [(6, .int st.2), (4, .long st.1), (0, .ref (a 0 0)), (3, .int v3)]) 81 (nL := 7) hq38 (fun st xb37 hR ih3 hX3 => ?_) hP hD hS (lv_sub hl [0, 1, 2, 3] rfl)
      clear hP hD hS hl
      obtain ⟨u35, u36⟩ := st
      intro H locs ls hP hD hS hl
      replace hR : fX4_withFloat_b81 n G28 u35 u36 = some xb37 := hR
      replace hP : va_P g.1 vwCl (w_F g a G28) H := hP
      replace hD : va_D A (w_F g a G28) := hD
      replace hl : lv_has ls 7 [(6, .int u36), (4, .long u35), (0, .ref (a 0 0)), (3, .int v3)] := hl
      unfold fX4_withFloat_b81 at hR
      refine lv_iload hx hb dX4_withFloat_81 (lv_at hl 0 rfl) ?_
      refine lv_aload_n hx hb dX4_withFloat_83 rfl (lv_at hl 2 rfl) ?_
      refine va_get (ci := 4) (C := RX4) (T := TX4) (N := 7) hx hb hts hw4 hown hK hP 0 rfl rfl 0 (by decide) hl0 (fun _ h9 => h9) rfl dX4_withFloat_84 ?_
      refine va_get (ci := 2) (C := RX2) (T := TX2) (N := 11) hx hb hts hw2 hown hK hP 2 rfl rfl 5 (by decide) hl1 (fun _ h9 => h9) rfl dX4_withFloat_87 ?_
      refine lv_icmp_gt (tgt := 117) hx hb dX4_withFloat_90 (by decide) (fun c39 => ?_) (fun c39 => ?_)
      · replace hR := (if_pos c39).symm.trans hR
        obtain rfl := Option.some.inj hR
        obtain rfl := hX3 _ rfl
        exact hj38 _ _ _ hP hD hS (lv_sub hl [1, 2, 3] rfl)
      · replace hR := (if_neg c39).symm.trans hR
        refine lv_lload hx hb dX4_withFloat_93 (lv_at hl 1 rfl) ?_
        refine lv_aload_n hx hb dX4_withFloat_95 rfl (lv_at hl 2 rfl) ?_
        refine va_get (ci := 4) (C := RX4) (T := TX4) (N := 7) hx hb hts hw4 hown hK hP 0 rfl rfl 0 (by decide) hl0 (fun _ h9 => h9) rfl dX4_withFloat_96 ?_
        refine va_get (ci := 2) (C := RX2) (T := TX2) (N := 11) hx hb hts hw2 hown hK hP 2 rfl rfl 9 (by decide) hl2 (fun _ h9 => h9) rfl dX4_withFloat_99 ?_
        refine lv_iload hx hb dX4_withFloat_102 (lv_at hl 0 rfl) ?_
        obtain ⟨hi40, hR⟩ := kk_ck_el hR
        refine va_iald hx hb hK hP 10 0 rfl rfl hi40 dX4_withFloat_104 ?_
        refine lv_i2l (v := ((G28 1 9) u36.toNatClampNeg).toInt64) hx hb dX4_withFloat_105 rfl ?_
        obtain ⟨x41, hq41, hR⟩ := kk_bd_el hR
        refine kk_call_Sl (w' := (w_F g a G28)) (As := [.long u35, .long ((G28 1 9) u36.toNatClampNeg).toInt64]) (rest := []) hC (sX4_mixed l g n   u35 ((G28 1 9) u36.toNatClampNeg).toInt64 x41 hq41) (va_cwS 2 hts gX4_withFloat_X4_mixed rfl rfl rfl (by decide +kernel) ⟨Nat.le_of_ble_eq_true rfl, Nat.le_of_ble_eq_true rfl⟩) hK hP hD hS hA [] rfl (by decide +kernel) rfl rfl rfl rfl hl.1 (Nat.le_of_ble_eq_true rfl) dX4_withFloat_106 (fun H locs hP hD hS => ?_)
        refine lv_lstore (lv' := [(4, .long x41), (6, .int u36), (0, .ref (a 0 0)), (3, .int v3)]) hx hb dX4_withFloat_109 hl (by decide) rfl (fun ls hl => ?_)
        refine lv_iinc (v := (u36 + (1 : Int32))) (lv' := [(6, .int (u36 + (1 : Int32))), (4, .long x41), (0, .ref (a 0 0)), (3, .int v3)]) hx hb dX4_withFloat_111 hl (k := 1) rfl rfl (by decide) rfl (fun ls hl => ?_)
        refine lv_goto (tgt := 81) hx hb dX4_withFloat_114 (by decide) ?_
        obtain rfl := Option.some.inj hR
        exact ih3 _ rfl _ _ _ hP hD hS (lv_sub hl [0, 1, 2, 3] rfl)
    refine kk_loop (g := g) (A := A) (fun (st : Int64 × Int32) => (w_F g a G)) (fun (st : Int64 × Int32) => [(6, .int st.2), (4, .long st.1), (0, .ref (a 0 0)), (3, .int v3)]) 40 (nL := 7) hq23 (fun st xb22 hR ih2 hX2 => ?_) hP hD hS (lv_sub hl [0, 1, 2, 3] rfl)
    clear hP hD hS hl
    obtain ⟨u20, u21⟩ := st
    intro H locs ls hP hD hS hl
    replace hR : fX4_withFloat_b40 n G v3 u20 u21 = some xb22 := hR
    replace hP : va_P g.1 vwCl (w_F g a G) H := hP
    replace hD : va_D A (w_F g a G) := hD
    replace hl : lv_has ls 7 [(6, .int u21), (4, .long u20), (0, .ref (a 0 0)), (3, .int v3)] := hl
    unfold fX4_withFloat_b40 at hR
    refine lv_iload hx hb dX4_withFloat_40 (lv_at hl 0 rfl) ?_
    refine lv_iconst (v := (3 : Int32)) hx hb dX4_withFloat_42 (by decide) ?_
    refine lv_icmp_ge (tgt := 70) hx hb dX4_withFloat_43 (by decide) (fun c24 => ?_) (fun c24 => ?_)
    · replace hR := (if_pos c24).symm.trans hR
      obtain rfl := Option.some.inj hR
      obtain rfl := hX2 _ rfl
      exact hj23 _ _ _ hP hD hS (lv_sub hl [1, 2, 3] rfl)
    · replace hR := (if_neg c24).symm.trans hR
      refine lv_lload hx hb dX4_withFloat_46 (lv_at hl 1 rfl) ?_
      refine lv_aload_n hx hb dX4_withFloat_48 rfl (lv_at hl 2 rfl) ?_
      refine va_get (ci := 4) (C := RX4) (T := TX4) (N := 7) hx hb hts hw4 hown hK hP 0 rfl rfl 0 (by decide) hl0 (fun _ h9 => h9) rfl dX4_withFloat_49 ?_
      refine lv_iload_n hx hb dX4_withFloat_52 rfl (lv_at hl 3 rfl) ?_
      refine lv_iload hx hb dX4_withFloat_53 (lv_at hl 0 rfl) ?_
      obtain ⟨x25, hq25, hR⟩ := kk_bd_el hR
      refine kk_call_Vi (w' := (w_F g a G)) (As := [.int v3, .int u21]) (rest := [.long u20]) 2 2 hC (sX2_troubleBy l g n (a 1) (G 1) v3 u21 x25 hq25) (cwV 2 hts gX4_withFloat_X2_troubleBy rfl rfl rfl (by decide +kernel) ⟨Nat.le_of_ble_eq_true rfl, Nat.le_of_ble_eq_true rfl⟩) hK hP hD hS hA [2, 3, 4, 5, 6, 7, 8, 9, 10, 11] (kk_ml 23 rfl (by decide +kernel) (kk_ml 22 rfl (by decide +kernel) (kk_ml 12 rfl (by decide +kernel) (kk_mr (js := [0, 1, 2, 3, 4, 5, 6, 7, 8, 9]) 2 rfl (by decide +kernel) (kk_m0 10 (by decide +kernel) rfl))))) (by decide +kernel) rfl (kk_sl 23 rfl (by decide +kernel) (kk_sl 22 rfl (by decide +kernel) (kk_sl 12 rfl (by decide +kernel) (kk_sr (js := [0, 1, 2, 3, 4, 5, 6, 7, 8, 9]) 2 rfl (by decide +kernel) (kk_s0 10 (by decide +kernel) rfl rfl))))) rfl rfl rfl rfl rfl hl.1 (Nat.le_of_ble_eq_true rfl) dX4_withFloat_55 (fun H locs hP hD hS => ?_)
      refine lv_i2l (v := x25.toInt64) hx hb dX4_withFloat_58 rfl ?_
      obtain ⟨x26, hq26, hR⟩ := kk_bd_el hR
      refine kk_call_Sl (w' := (w_F g a G)) (As := [.long u20, .long x25.toInt64]) (rest := []) hC (sX4_mixed l g n   u20 x25.toInt64 x26 hq26) (va_cwS 2 hts gX4_withFloat_X4_mixed rfl rfl rfl (by decide +kernel) ⟨Nat.le_of_ble_eq_true rfl, Nat.le_of_ble_eq_true rfl⟩) hK hP hD hS hA [] rfl (by decide +kernel) rfl rfl rfl rfl hl.1 (Nat.le_of_ble_eq_true rfl) dX4_withFloat_59 (fun H locs hP hD hS => ?_)
      refine lv_lstore (lv' := [(4, .long x26), (6, .int u21), (0, .ref (a 0 0)), (3, .int v3)]) hx hb dX4_withFloat_62 hl (by decide) rfl (fun ls hl => ?_)
      refine lv_iinc (v := (u21 + (1 : Int32))) (lv' := [(6, .int (u21 + (1 : Int32))), (4, .long x26), (0, .ref (a 0 0)), (3, .int v3)]) hx hb dX4_withFloat_64 hl (k := 1) rfl rfl (by decide) rfl (fun ls hl => ?_)
      refine lv_goto (tgt := 40) hx hb dX4_withFloat_67 (by decide) ?_
      obtain rfl := Option.some.inj hR
      exact ih2 _ rfl _ _ _ hP hD hS (lv_sub hl [0, 1, 2, 3] rfl)
  refine kk_loop (g := g) (A := A) (fun (st : Int64 × Int32) => (w_F g a G)) (fun (st : Int64 × Int32) => [(6, .int st.2), (4, .long st.1), (0, .ref (a 0 0)), (3, .int v3)]) 6 (nL := 7) hq10 (fun st xb9 hR ih1 hX1 => ?_) hP hD hS (lv_sub hl [0, 1, 2, 4] rfl)
  clear hP hD hS hl
  obtain ⟨u7, u8⟩ := st
  intro H locs ls hP hD hS hl
  replace hR : fX4_withFloat_b6 n G v3 u7 u8 = some xb9 := hR
  replace hP : va_P g.1 vwCl (w_F g a G) H := hP
  replace hD : va_D A (w_F g a G) := hD
  replace hl : lv_has ls 7 [(6, .int u8), (4, .long u7), (0, .ref (a 0 0)), (3, .int v3)] := hl
  unfold fX4_withFloat_b6 at hR
  refine lv_iload hx hb dX4_withFloat_6 (lv_at hl 0 rfl) ?_
  refine lv_bipush (v := (7 : Int32)) hx hb dX4_withFloat_8 (by decide) ?_
  refine lv_icmp_ge (tgt := 37) hx hb dX4_withFloat_10 (by decide) (fun c11 => ?_) (fun c11 => ?_)
  · replace hR := (if_pos c11).symm.trans hR
    obtain rfl := Option.some.inj hR
    obtain rfl := hX1 _ rfl
    exact hj10 _ _ _ hP hD hS (lv_sub hl [1, 2, 3] rfl)
  · replace hR := (if_neg c11).symm.trans hR
    refine lv_lload hx hb dX4_withFloat_13 (lv_at hl 1 rfl) ?_
    refine lv_aload_n hx hb dX4_withFloat_15 rfl (lv_at hl 2 rfl) ?_
    refine va_get (ci := 4) (C := RX4) (T := TX4) (N := 7) hx hb hts hw4 hown hK hP 0 rfl rfl 0 (by decide) hl0 (fun _ h9 => h9) rfl dX4_withFloat_16 ?_
    refine lv_iload_n hx hb dX4_withFloat_19 rfl (lv_at hl 3 rfl) ?_
    refine lv_iload hx hb dX4_withFloat_20 (lv_at hl 0 rfl) ?_
    obtain ⟨x12, hq12, hR⟩ := kk_bd_el hR
    refine kk_call_Vi (w' := (w_F g a G)) (As := [.int v3, .int u8]) (rest := [.long u7]) 2 2 hC (sX2_floatProperty l g n (a 1) (G 1) v3 u8 x12 hq12) (cwV 2 hts gX4_withFloat_X2_floatProperty rfl rfl rfl (by decide +kernel) ⟨Nat.le_of_ble_eq_true rfl, Nat.le_of_ble_eq_true rfl⟩) hK hP hD hS hA [2, 3, 4, 5, 6, 7, 8, 9, 10, 11] (kk_ml 23 rfl (by decide +kernel) (kk_ml 22 rfl (by decide +kernel) (kk_ml 12 rfl (by decide +kernel) (kk_mr (js := [0, 1, 2, 3, 4, 5, 6, 7, 8, 9]) 2 rfl (by decide +kernel) (kk_m0 10 (by decide +kernel) rfl))))) (by decide +kernel) rfl (kk_sl 23 rfl (by decide +kernel) (kk_sl 22 rfl (by decide +kernel) (kk_sl 12 rfl (by decide +kernel) (kk_sr (js := [0, 1, 2, 3, 4, 5, 6, 7, 8, 9]) 2 rfl (by decide +kernel) (kk_s0 10 (by decide +kernel) rfl rfl))))) rfl rfl rfl rfl rfl hl.1 (Nat.le_of_ble_eq_true rfl) dX4_withFloat_22 (fun H locs hP hD hS => ?_)
    refine lv_i2l (v := x12.toInt64) hx hb dX4_withFloat_25 rfl ?_
    obtain ⟨x13, hq13, hR⟩ := kk_bd_el hR
    refine kk_call_Sl (w' := (w_F g a G)) (As := [.long u7, .long x12.toInt64]) (rest := []) hC (sX4_mixed l g n   u7 x12.toInt64 x13 hq13) (va_cwS 2 hts gX4_withFloat_X4_mixed rfl rfl rfl (by decide +kernel) ⟨Nat.le_of_ble_eq_true rfl, Nat.le_of_ble_eq_true rfl⟩) hK hP hD hS hA [] rfl (by decide +kernel) rfl rfl rfl rfl hl.1 (Nat.le_of_ble_eq_true rfl) dX4_withFloat_26 (fun H locs hP hD hS => ?_)
    refine lv_lstore (lv' := [(4, .long x13), (6, .int u8), (0, .ref (a 0 0)), (3, .int v3)]) hx hb dX4_withFloat_29 hl (by decide) rfl (fun ls hl => ?_)
    refine lv_iinc (v := (u8 + (1 : Int32))) (lv' := [(6, .int (u8 + (1 : Int32))), (4, .long x13), (0, .ref (a 0 0)), (3, .int v3)]) hx hb dX4_withFloat_31 hl (k := 1) rfl rfl (by decide) rfl (fun ls hl => ?_)
    refine lv_goto (tgt := 6) hx hb dX4_withFloat_34 (by decide) ?_
    obtain rfl := Option.some.inj hR
    exact ih1 _ rfl _ _ _ hP hD hS (lv_sub hl [0, 1, 2, 3] rfl)
set_option maxHeartbeats 8000000 in
set_option maxRecDepth 100000 in
theorem sX4_number (l : Launch) (g : kG) (n : Nat) (a : Nat → Nat → Nat) (h : Nat → Nat → Nat) (G : St2) (V : St2) (v1 : Int32) (r : Int32 × St2) (hR : fX4_number n G V v1 = some r) : kSp l g yX4_number wsX4_number ({ frames := 4, cells := 0, slots := 0, locals := 89 }) [.ref (a 0 0), .int v1] (w_F g a G ++ w_H g (a 0 2) h V) (kQi g (w_F g a r.2 ++ w_H g (a 0 2) h V) r.1) := by
  refine kSp.of (cc := cX4_number) (maxL := 2) (ret := (some .int)) (by decide) rfl (Nat.le_of_ble_eq_true rfl) ?_
  intro p e s m args below meth c ls A hC hr hlocks hA hK hl hP hD hS
  replace hC : CallFix p m c cX4_number 2 s args wsX4_number RX4 := hC
  obtain ⟨hx, hb, hml, hown, hts⟩ := id hC
  replace hl : lv_has ls 2 [(0, .ref (a 0 0)), (1, .int v1)] := hl
  unfold fX4_number at hR
  have hw1 : ∀ w ∈ wsX10, w ∈ wsX4_number := by decide +kernel
  have hw2 : ∀ w ∈ wsX20, w ∈ wsX4_number := by decide +kernel
  have hw4 : ∀ w ∈ wsX40, w ∈ wsX4_number := by decide +kernel
  have hl0 := hts (.fieldLink RX4 10 "FloatOrder" "parade" "LFloatOrder$Parade;") (by decide +kernel)
  have hl1 := hts (.fieldLink RX4 48 "FloatOrder$Parade" "floats" "I") (by decide +kernel)
  have hl2 := hts (.fieldLink RX4 117 "FloatOrder$Parade" "bridges" "I") (by decide +kernel)
  have hl3 := hts (.fieldLink RX4 22 "FloatOrder" "history" "LFloatOrder$History;") (by decide +kernel)
  have hl4 := hts (.fieldLink RX4 172 "FloatOrder$History" "size" "I") (by decide +kernel)
  refine lv_iload_n hx hb dX4_number_0 rfl (lv_at hl 1 rfl) ?_
  by_cases c1 : v1 = (0 : Int32)
  · replace hR := (if_pos c1).symm.trans hR
    refine lv_tableIn (off := 47) (tgt := 48) hx hb dX4_number_1 (by rw [c1]; decide) (by rw [c1]; decide) (by rw [c1]; rfl) (by decide) ?_
    refine lv_aload_n hx hb dX4_number_48 rfl (lv_at hl 0 rfl) ?_
    refine va_get (ci := 4) (C := RX4) (T := TX4) (N := 7) hx hb hts hw4 hown hK hP 0 rfl rfl 0 (by decide) hl0 (fun _ h9 => h9) rfl dX4_number_49 ?_
    refine va_get (ci := 2) (C := RX2) (T := TX2) (N := 11) hx hb hts hw2 hown hK hP 2 rfl rfl 0 (by decide) hl1 (fun _ h9 => h9) rfl dX4_number_52 ?_
    obtain rfl := Option.some.inj hR
    exact kk_ret_i hC hr hlocks hK hP hD hS dX4_number_55 rfl
  replace hR := (if_neg c1).symm.trans hR
  by_cases c2 : v1 = (1 : Int32)
  · replace hR := (if_pos c2).symm.trans hR
    refine lv_tableIn (off := 55) (tgt := 56) hx hb dX4_number_1 (by rw [c2]; decide) (by rw [c2]; decide) (by rw [c2]; rfl) (by decide) ?_
    refine lv_aload_n hx hb dX4_number_56 rfl (lv_at hl 0 rfl) ?_
    refine va_get (ci := 4) (C := RX4) (T := TX4) (N := 7) hx hb hts hw4 hown hK hP 0 rfl rfl 0 (by decide) hl0 (fun _ h9 => h9) rfl dX4_number_57 ?_
    refine va_get (ci := 2) (C := RX2) (T := TX2) (N := 11) hx hb hts hw2 hown hK hP 2 rfl rfl 5 (by decide) hl2 (fun _ h9 => h9) rfl dX4_number_60 ?_
    obtain rfl := Option.some.inj hR
    exact kk_ret_i hC hr hlocks hK hP hD hS dX4_number_63 rfl
  replace hR := (if_neg c2).symm.trans hR
  by_cases c3 : v1 = (2 : Int32)
  · replace hR := (if_pos c3).symm.trans hR
    refine lv_tableIn (off := 63) (tgt := 64) hx hb dX4_number_1 (by rw [c3]; decide) (by rw [c3]; decide) (by rw [c3]; rfl) (by decide) ?_
    refine lv_aload_n hx hb dX4_number_64 rfl (lv_at hl 0 rfl) ?_
    refine va_get (ci := 4) (C := RX4) (T := TX4) (N := 7) hx hb hts hw4 hown hK hP 0 rfl rfl 0 (by decide) hl0 (fun _ h9 => h9) rfl dX4_number_65 ?_
    obtain ⟨x4, hq4, hR⟩ := kk_bd_el hR
    refine kk_call_Vi (w' := (w_F g a G ++ w_H g (a 0 2) h V)) (As := []) (rest := []) 2 2 hC (sX2_allTrouble l g n (a 1) (G 1)  x4 hq4) (cwV 0 hts gX4_number_X2_allTrouble rfl rfl rfl (by decide +kernel) ⟨Nat.le_of_ble_eq_true rfl, Nat.le_of_ble_eq_true rfl⟩) hK hP hD hS hA [2, 3, 4, 5, 6, 7, 8, 9, 10, 11] (kk_ml 24 rfl (by decide +kernel) (kk_ml 23 rfl (by decide +kernel) (kk_ml 22 rfl (by decide +kernel) (kk_ml 12 rfl (by decide +kernel) (kk_mr (js := [0, 1, 2, 3, 4, 5, 6, 7, 8, 9]) 2 rfl (by decide +kernel) (kk_m0 10 (by decide +kernel) rfl)))))) (by decide +kernel) rfl (kk_sl 24 rfl (by decide +kernel) (kk_sl 23 rfl (by decide +kernel) (kk_sl 22 rfl (by decide +kernel) (kk_sl 12 rfl (by decide +kernel) (kk_sr (js := [0, 1, 2, 3, 4, 5, 6, 7, 8, 9]) 2 rfl (by decide +kernel) (kk_s0 10 (by decide +kernel) rfl rfl)))))) rfl rfl rfl rfl rfl hl.1 (Nat.le_of_ble_eq_true rfl) dX4_number_68 (fun H locs hP hD hS => ?_)
    obtain rfl := Option.some.inj hR
    exact kk_ret_i hC hr hlocks hK hP hD hS dX4_number_71 rfl
  replace hR := (if_neg c3).symm.trans hR
  by_cases c5 : v1 = (3 : Int32)
  · replace hR := (if_pos c5).symm.trans hR
    refine lv_tableIn (off := 71) (tgt := 72) hx hb dX4_number_1 (by rw [c5]; decide) (by rw [c5]; decide) (by rw [c5]; rfl) (by decide) ?_
    refine lv_aload_n hx hb dX4_number_72 rfl (lv_at hl 0 rfl) ?_
    refine va_get (ci := 4) (C := RX4) (T := TX4) (N := 7) hx hb hts hw4 hown hK hP 0 rfl rfl 0 (by decide) hl0 (fun _ h9 => h9) rfl dX4_number_73 ?_
    obtain ⟨x6, hq6, hR⟩ := kk_bd_el hR
    obtain ⟨G7, eG7, hR⟩ := kk_nm_el hR
    refine kk_call_Vi (w' := (w_F g a G7 ++ w_H g (a 0 2) h V)) (As := []) (rest := []) 2 2 hC (sX2_end l g n (a 1) (G 1)  x6 hq6) (cwV 0 hts gX4_number_X2_end rfl rfl rfl (by decide +kernel) ⟨Nat.le_of_ble_eq_true rfl, Nat.le_of_ble_eq_true rfl⟩) hK hP hD hS hA [2, 3, 4, 5, 6, 7, 8, 9, 10, 11] (kk_ml 24 rfl (by decide +kernel) (kk_ml 23 rfl (by decide +kernel) (kk_ml 22 rfl (by decide +kernel) (kk_ml 12 rfl (by decide +kernel) (kk_mr (js := [0, 1, 2, 3, 4, 5, 6, 7, 8, 9]) 2 rfl (by decide +kernel) (kk_m0 10 (by decide +kernel) rfl)))))) (by decide +kernel) rfl (by rw [eG7]; exact kk_sl 24 rfl (by decide +kernel) (kk_sl 23 rfl (by decide +kernel) (kk_sl 22 rfl (by decide +kernel) (kk_sl 12 rfl (by decide +kernel) (kk_sr (js := [0, 1, 2, 3, 4, 5, 6, 7, 8, 9]) 2 rfl (by decide +kernel) (kk_s0 10 (by decide +kernel) rfl rfl)))))) rfl rfl rfl rfl rfl hl.1 (Nat.le_of_ble_eq_true rfl) dX4_number_76 (fun H locs hP hD hS => ?_)
    obtain rfl := Option.some.inj hR
    exact kk_ret_i hC hr hlocks hK hP hD hS dX4_number_79 rfl
  replace hR := (if_neg c5).symm.trans hR
  by_cases c8 : v1 = (4 : Int32)
  · replace hR := (if_pos c8).symm.trans hR
    refine lv_tableIn (off := 79) (tgt := 80) hx hb dX4_number_1 (by rw [c8]; decide) (by rw [c8]; decide) (by rw [c8]; rfl) (by decide) ?_
    refine lv_aload_n hx hb dX4_number_80 rfl (lv_at hl 0 rfl) ?_
    refine va_get (ci := 4) (C := RX4) (T := TX4) (N := 7) hx hb hts hw4 hown hK hP 0 rfl rfl 0 (by decide) hl0 (fun _ h9 => h9) rfl dX4_number_81 ?_
    obtain ⟨x9, hq9, hR⟩ := kk_bd_el hR
    refine kk_call_Vi (w' := (w_F g a G ++ w_H g (a 0 2) h V)) (As := []) (rest := []) 2 2 hC (sX2_loweredFloats l g n (a 1) (G 1)  x9 hq9) (cwV 0 hts gX4_number_X2_loweredFloats rfl rfl rfl (by decide +kernel) ⟨Nat.le_of_ble_eq_true rfl, Nat.le_of_ble_eq_true rfl⟩) hK hP hD hS hA [2, 3, 4, 5, 6, 7, 8, 9, 10, 11] (kk_ml 24 rfl (by decide +kernel) (kk_ml 23 rfl (by decide +kernel) (kk_ml 22 rfl (by decide +kernel) (kk_ml 12 rfl (by decide +kernel) (kk_mr (js := [0, 1, 2, 3, 4, 5, 6, 7, 8, 9]) 2 rfl (by decide +kernel) (kk_m0 10 (by decide +kernel) rfl)))))) (by decide +kernel) rfl (kk_sl 24 rfl (by decide +kernel) (kk_sl 23 rfl (by decide +kernel) (kk_sl 22 rfl (by decide +kernel) (kk_sl 12 rfl (by decide +kernel) (kk_sr (js := [0, 1, 2, 3, 4, 5, 6, 7, 8, 9]) 2 rfl (by decide +kernel) (kk_s0 10 (by decide +kernel) rfl rfl)))))) rfl rfl rfl rfl rfl hl.1 (Nat.le_of_ble_eq_true rfl) dX4_number_84 (fun H locs hP hD hS => ?_)
    obtain rfl := Option.some.inj hR
    exact kk_ret_i hC hr hlocks hK hP hD hS dX4_number_87 rfl
  replace hR := (if_neg c8).symm.trans hR
  by_cases c10 : v1 = (5 : Int32)
  · replace hR := (if_pos c10).symm.trans hR
    refine lv_tableIn (off := 87) (tgt := 88) hx hb dX4_number_1 (by rw [c10]; decide) (by rw [c10]; decide) (by rw [c10]; rfl) (by decide) ?_
    refine lv_aload_n hx hb dX4_number_88 rfl (lv_at hl 0 rfl) ?_
    refine va_get (ci := 4) (C := RX4) (T := TX4) (N := 7) hx hb hts hw4 hown hK hP 0 rfl rfl 0 (by decide) hl0 (fun _ h9 => h9) rfl dX4_number_89 ?_
    obtain ⟨x11, hq11, hR⟩ := kk_bd_el hR
    refine kk_call_Vi (w' := (w_F g a G ++ w_H g (a 0 2) h V)) (As := []) (rest := []) 2 2 hC (sX2_troubledFloats l g n (a 1) (G 1)  x11 hq11) (cwV 0 hts gX4_number_X2_troubledFloats rfl rfl rfl (by decide +kernel) ⟨Nat.le_of_ble_eq_true rfl, Nat.le_of_ble_eq_true rfl⟩) hK hP hD hS hA [2, 3, 4, 5, 6, 7, 8, 9, 10, 11] (kk_ml 24 rfl (by decide +kernel) (kk_ml 23 rfl (by decide +kernel) (kk_ml 22 rfl (by decide +kernel) (kk_ml 12 rfl (by decide +kernel) (kk_mr (js := [0, 1, 2, 3, 4, 5, 6, 7, 8, 9]) 2 rfl (by decide +kernel) (kk_m0 10 (by decide +kernel) rfl)))))) (by decide +kernel) rfl (kk_sl 24 rfl (by decide +kernel) (kk_sl 23 rfl (by decide +kernel) (kk_sl 22 rfl (by decide +kernel) (kk_sl 12 rfl (by decide +kernel) (kk_sr (js := [0, 1, 2, 3, 4, 5, 6, 7, 8, 9]) 2 rfl (by decide +kernel) (kk_s0 10 (by decide +kernel) rfl rfl)))))) rfl rfl rfl rfl rfl hl.1 (Nat.le_of_ble_eq_true rfl) dX4_number_92 (fun H locs hP hD hS => ?_)
    obtain rfl := Option.some.inj hR
    exact kk_ret_i hC hr hlocks hK hP hD hS dX4_number_95 rfl
  replace hR := (if_neg c10).symm.trans hR
  by_cases c12 : v1 = (6 : Int32)
  · replace hR := (if_pos c12).symm.trans hR
    refine lv_tableIn (off := 95) (tgt := 96) hx hb dX4_number_1 (by rw [c12]; decide) (by rw [c12]; decide) (by rw [c12]; rfl) (by decide) ?_
    refine lv_aload_n hx hb dX4_number_96 rfl (lv_at hl 0 rfl) ?_
    refine va_get (ci := 4) (C := RX4) (T := TX4) (N := 7) hx hb hts hw4 hown hK hP 0 rfl rfl 0 (by decide) hl0 (fun _ h9 => h9) rfl dX4_number_97 ?_
    obtain ⟨x13, hq13, hR⟩ := kk_bd_el hR
    obtain ⟨G14, eG14, hR⟩ := kk_nm_el hR
    refine kk_call_Vi (w' := (w_F g a G14 ++ w_H g (a 0 2) h V)) (As := []) (rest := []) 2 2 hC (sX2_waiting l g n (a 1) (G 1)  x13 hq13) (cwV 0 hts gX4_number_X2_waiting rfl rfl rfl (by decide +kernel) ⟨Nat.le_of_ble_eq_true rfl, Nat.le_of_ble_eq_true rfl⟩) hK hP hD hS hA [2, 3, 4, 5, 6, 7, 8, 9, 10, 11] (kk_ml 24 rfl (by decide +kernel) (kk_ml 23 rfl (by decide +kernel) (kk_ml 22 rfl (by decide +kernel) (kk_ml 12 rfl (by decide +kernel) (kk_mr (js := [0, 1, 2, 3, 4, 5, 6, 7, 8, 9]) 2 rfl (by decide +kernel) (kk_m0 10 (by decide +kernel) rfl)))))) (by decide +kernel) rfl (by rw [eG14]; exact kk_sl 24 rfl (by decide +kernel) (kk_sl 23 rfl (by decide +kernel) (kk_sl 22 rfl (by decide +kernel) (kk_sl 12 rfl (by decide +kernel) (kk_sr (js := [0, 1, 2, 3, 4, 5, 6, 7, 8, 9]) 2 rfl (by decide +kernel) (kk_s0 10 (by decide +kernel) rfl rfl)))))) rfl rfl rfl rfl rfl hl.1 (Nat.le_of_ble_eq_true rfl) dX4_number_100 (fun H locs hP hD hS => ?_)
    obtain rfl := Option.some.inj hR
    exact kk_ret_i hC hr hlocks hK hP hD hS dX4_number_103 rfl
  replace hR := (if_neg c12).symm.trans hR
  by_cases c15 : v1 = (7 : Int32)
  · replace hR := (if_pos c15).symm.trans hR
    refine lv_tableIn (off := 103) (tgt := 104) hx hb dX4_number_1 (by rw [c15]; decide) (by rw [c15]; decide) (by rw [c15]; rfl) (by decide) ?_
    refine lv_aload_n hx hb dX4_number_104 rfl (lv_at hl 0 rfl) ?_
    refine va_get (ci := 4) (C := RX4) (T := TX4) (N := 7) hx hb hts hw4 hown hK hP 0 rfl rfl 0 (by decide) hl0 (fun _ h9 => h9) rfl dX4_number_105 ?_
    obtain ⟨x16, hq16, hR⟩ := kk_bd_el hR
    refine kk_call_Vi (w' := (w_F g a G ++ w_H g (a 0 2) h V)) (As := []) (rest := []) 2 2 hC (sX2_greatestHeight l g n (a 1) (G 1)  x16 hq16) (cwV 0 hts gX4_number_X2_greatestHeight rfl rfl rfl (by decide +kernel) ⟨Nat.le_of_ble_eq_true rfl, Nat.le_of_ble_eq_true rfl⟩) hK hP hD hS hA [2, 3, 4, 5, 6, 7, 8, 9, 10, 11] (kk_ml 24 rfl (by decide +kernel) (kk_ml 23 rfl (by decide +kernel) (kk_ml 22 rfl (by decide +kernel) (kk_ml 12 rfl (by decide +kernel) (kk_mr (js := [0, 1, 2, 3, 4, 5, 6, 7, 8, 9]) 2 rfl (by decide +kernel) (kk_m0 10 (by decide +kernel) rfl)))))) (by decide +kernel) rfl (kk_sl 24 rfl (by decide +kernel) (kk_sl 23 rfl (by decide +kernel) (kk_sl 22 rfl (by decide +kernel) (kk_sl 12 rfl (by decide +kernel) (kk_sr (js := [0, 1, 2, 3, 4, 5, 6, 7, 8, 9]) 2 rfl (by decide +kernel) (kk_s0 10 (by decide +kernel) rfl rfl)))))) rfl rfl rfl rfl rfl hl.1 (Nat.le_of_ble_eq_true rfl) dX4_number_108 (fun H locs hP hD hS => ?_)
    obtain rfl := Option.some.inj hR
    exact kk_ret_i hC hr hlocks hK hP hD hS dX4_number_111 rfl
  replace hR := (if_neg c15).symm.trans hR
  have m0 := lv_neT (k := (0 : Int32)) (a := 0) c1 rfl
  have m1 := lv_neT (k := (1 : Int32)) (a := 1) c2 rfl
  have m2 := lv_neT (k := (2 : Int32)) (a := 2) c3 rfl
  have m3 := lv_neT (k := (3 : Int32)) (a := 3) c5 rfl
  have m4 := lv_neT (k := (4 : Int32)) (a := 4) c8 rfl
  have m5 := lv_neT (k := (5 : Int32)) (a := 5) c10 rfl
  have m6 := lv_neT (k := (6 : Int32)) (a := 6) c12 rfl
  have m7 := lv_neT (k := (7 : Int32)) (a := 7) c15 rfl
  refine lv_tableOut (tgt := 112) hx hb dX4_number_1 (by omega) (by decide) ?_
  refine lv_aload_n hx hb dX4_number_112 rfl (lv_at hl 0 rfl) ?_
  refine va_get (ci := 4) (C := RX4) (T := TX4) (N := 7) hx hb hts hw4 hown hK hP 0 rfl rfl 2 (by decide) hl3 (fun _ h9 => h9) rfl dX4_number_113 ?_
  refine va_get (ci := 1) (C := RX1) (T := TX1) (N := 2) hx hb hts hw1 hown hK hP 24 rfl rfl 1 (by decide) hl4 (fun _ h9 => h9) rfl dX4_number_116 ?_
  obtain rfl := Option.some.inj hR
  exact kk_ret_i hC hr hlocks hK hP hD hS dX4_number_119 rfl
set_option maxHeartbeats 8000000 in
set_option maxRecDepth 100000 in
theorem sX4_bitsOfShare (l : Launch) (g : kG) (n : Nat)  (v0 : UInt64) (r : Int64) (hR : fX4_bitsOfShare n v0 = some r) : kSp l g yX4_bitsOfShare wsX4_bitsOfShare ({ frames := 0, cells := 0, slots := 0, locals := 0 }) [.double v0] ([] : va_W) (kQl g ([] : va_W) r) := by
  refine kSp.of (cc := cX4_bitsOfShare) (maxL := 8) (ret := (some .long)) (by decide) rfl (Nat.le_of_ble_eq_true rfl) ?_
  intro p e s m args below meth c ls A hC hr hlocks hA hK hl hP hD hS
  replace hC : CallFix p m c cX4_bitsOfShare 8 s args wsX4_bitsOfShare RX4 := hC
  obtain ⟨hx, hb, hml, hown, hts⟩ := id hC
  replace hl : lv_has ls 8 [(0, .double v0)] := hl
  unfold fX4_bitsOfShare at hR
  have hl0 := hts (.constantLong RX4 290 1023) (by decide +kernel)
  have hl1 := hts (.constantDouble RX4 292 4611686018427387904) (by decide +kernel)
  have hl2 := hts (.constantDouble RX4 294 4841369599423283200) (by decide +kernel)
  refine lv_dload_n hx hb dX4_bitsOfShare_0 rfl (lv_at hl 0 rfl) ?_
  refine lv_dconst0 hx hb dX4_bitsOfShare_1 ?_
  refine lv_dcmp hx hb dX4_bitsOfShare_2 ?_
  refine lv_if_gt (tgt := 8) hx hb dX4_bitsOfShare_3 (by decide) (fun c1 => ?_) (fun c1 => ?_)
  · replace hR := (if_pos c1).symm.trans hR
    refine lv_dload_n hx hb dX4_bitsOfShare_8 rfl (lv_at hl 0 rfl) ?_
    refine lv_dstore_n (lv' := [(2, .double v0), (0, .double v0)]) hx hb dX4_bitsOfShare_9 rfl hl (by decide) rfl (fun ls hl => ?_)
    refine lv_ldc2 (v := (1023 : Int64)) hx hb hown hl0 dX4_bitsOfShare_10 ?_
    refine lv_lstore (lv' := [(4, .long (1023 : Int64)), (2, .double v0), (0, .double v0)]) hx hb dX4_bitsOfShare_13 hl (by decide) rfl (fun ls hl => ?_)
    obtain ⟨x10, hq10, hR⟩ := kk_bd_el hR
    refine kk_cut (g := g) (A := A) (w' := ([] : va_W)) (nL := 8) (lv := [(4, .long x10.2), (2, .double x10.1)]) (pcJ := 43) (st := []) (fun H locs ls hP hD hS hl => ?_) (fun hj10 => ?_)
    · refine lv_dload_n hx hb dX4_bitsOfShare_43 rfl (lv_at hl 1 rfl) ?_
      refine lv_dconst1 hx hb dX4_bitsOfShare_44 ?_
      obtain ⟨hn14, hR⟩ := kk_cn_el hR
      refine lv_dsub hx hb dX4_bitsOfShare_45 hn14 ?_
      refine lv_ldc2d (v := (4841369599423283200 : UInt64)) hx hb hown hl2 dX4_bitsOfShare_46 ?_
      obtain ⟨hn15, hR⟩ := kk_cn_el hR
      refine lv_dmul hx hb dX4_bitsOfShare_49 hn15 ?_
      refine lv_d2l hx hb dX4_bitsOfShare_50 ?_
      refine lv_lstore (lv' := [(6, .long (FP.d2l (FP.dmul (FP.dsub x10.1 FP.dconst1) (4841369599423283200 : UInt64)))), (4, .long x10.2), (2, .double x10.1)]) hx hb dX4_bitsOfShare_51 hl (by decide) rfl (fun ls hl => ?_)
      refine lv_lload hx hb dX4_bitsOfShare_53 (lv_at hl 1 rfl) ?_
      refine lv_bipush (v := (52 : Int32)) hx hb dX4_bitsOfShare_55 (by decide) ?_
      refine lv_lshl (v := (x10.2 <<< ((52 : Int32).toInt64 &&& 63))) hx hb dX4_bitsOfShare_57 rfl ?_
      refine lv_lload hx hb dX4_bitsOfShare_58 (lv_at hl 0 rfl) ?_
      refine lv_ladd hx hb dX4_bitsOfShare_60 ?_
      obtain rfl := Option.some.inj hR
      exact kk_ret_l hC hr hlocks hK hP hD hS dX4_bitsOfShare_61 rfl
    refine kk_loop (g := g) (A := A) (fun (st : UInt64 × Int64) => ([] : va_W)) (fun (st : UInt64 × Int64) => [(4, .long st.2), (2, .double st.1)]) 15 (nL := 8) hq10 (fun st xb9 hR ih1 hX1 => ?_) hP hD hS (lv_sub hl [0, 1] rfl)
    clear hP hD hS hl
    obtain ⟨u7, u8⟩ := st
    intro H locs ls hP hD hS hl
    replace hR : fX4_bitsOfShare_b15 n u7 u8 = some xb9 := hR
    replace hP : va_P g.1 vwCl ([] : va_W) H := hP
    replace hD : va_D A ([] : va_W) := hD
    replace hl : lv_has ls 8 [(4, .long u8), (2, .double u7)] := hl
    unfold fX4_bitsOfShare_b15 at hR
    refine lv_dload_n hx hb dX4_bitsOfShare_15 rfl (lv_at hl 1 rfl) ?_
    refine lv_dconst1 hx hb dX4_bitsOfShare_16 ?_
    refine lv_dcmp hx hb dX4_bitsOfShare_17 ?_
    refine lv_if_ge (tgt := 43) hx hb dX4_bitsOfShare_18 (by decide) (fun c11 => ?_) (fun c11 => ?_)
    · replace hR := (if_pos c11).symm.trans hR
      obtain rfl := Option.some.inj hR
      obtain rfl := hX1 _ rfl
      exact hj10 _ _ _ hP hD hS (lv_sub hl [0, 1] rfl)
    · replace hR := (if_neg c11).symm.trans hR
      refine lv_lload hx hb dX4_bitsOfShare_21 (lv_at hl 0 rfl) ?_
      refine lv_lconst (v := (1 : Int64)) hx hb dX4_bitsOfShare_23 (by decide) ?_
      refine W.lcmp hx hb dX4_bitsOfShare_24 ?_
      refine lv_if_le (tgt := 43) hx hb dX4_bitsOfShare_25 (by decide) (fun c12 => ?_) (fun c12 => ?_)
      · replace hR := (if_pos c12).symm.trans hR
        obtain rfl := Option.some.inj hR
        obtain rfl := hX1 _ rfl
        exact hj10 _ _ _ hP hD hS (lv_sub hl [0, 1] rfl)
      · replace hR := (if_neg c12).symm.trans hR
        refine lv_dload_n hx hb dX4_bitsOfShare_28 rfl (lv_at hl 1 rfl) ?_
        refine lv_ldc2d (v := (4611686018427387904 : UInt64)) hx hb hown hl1 dX4_bitsOfShare_29 ?_
        obtain ⟨hn13, hR⟩ := kk_cn_el hR
        refine lv_dmul hx hb dX4_bitsOfShare_32 hn13 ?_
        refine lv_dstore_n (lv' := [(2, .double (FP.dmul u7 (4611686018427387904 : UInt64))), (4, .long u8)]) hx hb dX4_bitsOfShare_33 rfl hl (by decide) rfl (fun ls hl => ?_)
        refine lv_lload hx hb dX4_bitsOfShare_34 (lv_at hl 1 rfl) ?_
        refine lv_lconst (v := (1 : Int64)) hx hb dX4_bitsOfShare_36 (by decide) ?_
        refine lv_lsub hx hb dX4_bitsOfShare_37 ?_
        refine lv_lstore (lv' := [(4, .long (u8 - (1 : Int64))), (2, .double (FP.dmul u7 (4611686018427387904 : UInt64)))]) hx hb dX4_bitsOfShare_38 hl (by decide) rfl (fun ls hl => ?_)
        refine lv_goto (tgt := 15) hx hb dX4_bitsOfShare_40 (by decide) ?_
        obtain rfl := Option.some.inj hR
        exact ih1 _ rfl _ _ _ hP hD hS (lv_sub hl [0, 1] rfl)
  · replace hR := (if_neg c1).symm.trans hR
    refine lv_lconst (v := (0 : Int64)) hx hb dX4_bitsOfShare_6 (by decide) ?_
    obtain rfl := Option.some.inj hR
    exact kk_ret_l hC hr hlocks hK hP hD hS dX4_bitsOfShare_7 rfl