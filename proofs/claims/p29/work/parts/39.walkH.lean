set_option maxHeartbeats 8000000 in
set_option maxRecDepth 100000 in
theorem sX4_leastFrom_m (l : Launch) (g : kG) (n F L : Nat) (rcf : St1 → Int32 → Int32 → Int32 → Option (Int32 × St1)) (a : Nat → Nat) (P : St1) (v1 : Int32) (v2 : Int32) (v3 : Int32) (r : Int32 × St1) (ihr : ∀ (P : St1) (v1 v2 v3 : Int32) (r : Int32 × St1), rcf P v1 v2 v3 = some r → kSp l g yX4_leastFrom wsX4_leastFrom ({ frames := F + 7, cells := 0, slots := 0, locals := L + 200 }) [.ref (a 0), .int v1, .int v2, .int v3] (w_P g a P) (kQi g (w_P g a r.2) r.1)) (hR : fX4_leastFrom_m n rcf P v1 v2 v3 = some r) : kSp l g yX4_leastFrom wsX4_leastFrom ({ frames := F + 8, cells := 0, slots := 0, locals := L + 300 }) [.ref (a 0), .int v1, .int v2, .int v3] (w_P g a P) (kQi g (w_P g a r.2) r.1) := by
  refine kSp.of (cc := cX4_leastFrom) (maxL := 6) (ret := (some .int)) (by decide) rfl (Nat.le_of_ble_eq_true rfl) ?_
  intro p e s m args below meth c ls A hC hr hlocks hA hK hl hP hD hS
  replace hC : CallFix p m c cX4_leastFrom 6 s args wsX4_leastFrom RX4 := hC
  obtain ⟨hx, hb, hml, hown, hts⟩ := id hC
  replace hl : lv_has ls 6 [(0, .ref (a 0)), (1, .int v1), (2, .int v2), (3, .int v3)] := hl
  unfold fX4_leastFrom_m at hR
  have hw2 : ∀ w ∈ wsX20, w ∈ wsX4_leastFrom := by decide +kernel
  have hl0 := hts (.fieldLink RX4 48 "FloatOrder$Parade" "floats" "I") (by decide +kernel)
  refine lv_iload_n hx hb dX4_leastFrom_0 rfl (lv_at hl 2 rfl) ?_
  refine lv_iload_n hx hb dX4_leastFrom_1 rfl (lv_at hl 3 rfl) ?_
  refine lv_icmp_lt (tgt := 7) hx hb dX4_leastFrom_2 (by decide) (fun c1 => ?_) (fun c1 => ?_)
  · replace hR := (if_pos c1).symm.trans hR
    refine lv_iload_n hx hb dX4_leastFrom_7 rfl (lv_at hl 1 rfl) ?_
    refine lv_aload_n hx hb dX4_leastFrom_8 rfl (lv_at hl 0 rfl) ?_
    refine va_get (ci := 2) (C := RX2) (T := TX2) (N := 11) hx hb hts hw2 hown hK hP 0 rfl rfl 0 (by decide) hl0 (fun _ h9 => h9) rfl dX4_leastFrom_9 ?_
    refine lv_icmp_ge (tgt := 21) hx hb dX4_leastFrom_12 (by decide) (fun c2 => ?_) (fun c2 => ?_)
    · replace hR := (if_pos c2).symm.trans hR
      refine lv_iload_n hx hb dX4_leastFrom_21 rfl (lv_at hl 2 rfl) ?_
      obtain rfl := Option.some.inj hR
      exact kk_ret_i hC hr hlocks hK hP hD hS dX4_leastFrom_22 rfl
    · replace hR := (if_neg c2).symm.trans hR
      refine lv_iload_n hx hb dX4_leastFrom_15 rfl (lv_at hl 1 rfl) ?_
      refine lv_bipush (v := (6 : Int32)) hx hb dX4_leastFrom_16 (by decide) ?_
      refine lv_icmp_lt (tgt := 23) hx hb dX4_leastFrom_18 (by decide) (fun c3 => ?_) (fun c3 => ?_)
      · replace hR := (if_pos c3).symm.trans hR
        refine lv_iload_n hx hb dX4_leastFrom_23 rfl (lv_at hl 3 rfl) ?_
        refine lv_istore (lv' := [(4, .int v3), (0, .ref (a 0)), (1, .int v1), (2, .int v2), (3, .int v3)]) hx hb dX4_leastFrom_24 hl (by decide) rfl (fun ls hl => ?_)
        refine lv_iload_n hx hb dX4_leastFrom_26 rfl (lv_at hl 2 rfl) ?_
        refine lv_istore (lv' := [(5, .int v1), (4, .int v3), (0, .ref (a 0)), (1, .int v1), (2, .int v2), (3, .int v3)]) hx hb dX4_leastFrom_27 hl (by decide) rfl (fun ls hl => ?_)
        obtain ⟨x16, hq16, hR⟩ := kk_bd_el hR
        refine kk_cut (g := g) (A := A) (w' := (w_P g a x16.2)) (nL := 6) (lv := [(4, .int x16.1)]) (pcJ := 76) (st := []) (fun H locs ls hP hD hS hl => ?_) (fun hj16 => ?_)
        · refine lv_iload hx hb dX4_leastFrom_76 (lv_at hl 0 rfl) ?_
          obtain rfl := Option.some.inj hR
          exact kk_ret_i hC hr hlocks hK hP hD hS dX4_leastFrom_78 rfl
        refine kk_loop (g := g) (A := A) (fun (st : Int32 × Int32 × St1) => (w_P g a st.2.2)) (fun (st : Int32 × Int32 × St1) => [(5, .int st.2.1), (4, .int st.1), (0, .ref (a 0)), (1, .int v1), (2, .int v2)]) 29 (nL := 6) hq16 (fun st xb15 hR ih1 hX1 => ?_) hP hD hS (lv_sub hl [0, 1, 2, 3, 4] rfl)
        clear hP hD hS hl
        obtain ⟨u12, u13, P14⟩ := st
        intro H locs ls hP hD hS hl
        replace hR : fX4_leastFrom_b29 n rcf v1 v2 u12 u13 P14 = some xb15 := hR
        replace hP : va_P g.1 vwCl (w_P g a P14) H := hP
        replace hD : va_D A (w_P g a P14) := hD
        replace hl : lv_has ls 6 [(5, .int u13), (4, .int u12), (0, .ref (a 0)), (1, .int v1), (2, .int v2)] := hl
        unfold fX4_leastFrom_b29 at hR
        refine lv_iload hx hb dX4_leastFrom_29 (lv_at hl 0 rfl) ?_
        refine lv_aload_n hx hb dX4_leastFrom_31 rfl (lv_at hl 2 rfl) ?_
        refine va_get (ci := 2) (C := RX2) (T := TX2) (N := 11) hx hb hts hw2 hown hK hP 0 rfl rfl 0 (by decide) hl0 (fun _ h9 => h9) rfl dX4_leastFrom_32 ?_
        refine lv_icmp_ge (tgt := 76) hx hb dX4_leastFrom_35 (by decide) (fun c17 => ?_) (fun c17 => ?_)
        · replace hR := (if_pos c17).symm.trans hR
          obtain rfl := Option.some.inj hR
          obtain rfl := hX1 _ rfl
          exact hj16 _ _ _ hP hD hS (lv_sub hl [1] rfl)
        · replace hR := (if_neg c17).symm.trans hR
          refine lv_aload_n hx hb dX4_leastFrom_38 rfl (lv_at hl 2 rfl) ?_
          refine lv_iload_n hx hb dX4_leastFrom_39 rfl (lv_at hl 3 rfl) ?_
          refine lv_iload hx hb dX4_leastFrom_40 (lv_at hl 0 rfl) ?_
          obtain ⟨x18, hq18, hR⟩ := kk_bd_el hR
          refine kk_call_Vv (w' := (w_P g a x18)) (As := [.int v1, .int u13]) (rest := []) 0 2 hC (sX2_swap l g n a P14 v1 u13 x18 hq18) (cwV 2 hts gX4_leastFrom_X2_swap rfl rfl rfl (by decide +kernel) ⟨by dsimp only; omega, by dsimp only; omega⟩) hK hP hD hS hA [0, 1, 2, 3, 4, 5, 6, 7, 8, 9] rfl (by decide +kernel) rfl rfl rfl rfl rfl rfl rfl hl.1 (Nat.le_of_ble_eq_true rfl) dX4_leastFrom_42 (fun H locs hP hD hS => ?_)
          refine lv_aload_n hx hb dX4_leastFrom_45 rfl (lv_at hl 2 rfl) ?_
          refine lv_iload_n hx hb dX4_leastFrom_46 rfl (lv_at hl 3 rfl) ?_
          refine lv_iconst (v := (1 : Int32)) hx hb dX4_leastFrom_47 (by decide) ?_
          refine lv_iadd hx hb dX4_leastFrom_48 ?_
          refine lv_iload_n hx hb dX4_leastFrom_49 rfl (lv_at hl 4 rfl) ?_
          refine lv_aload_n hx hb dX4_leastFrom_50 rfl (lv_at hl 2 rfl) ?_
          refine lv_iload_n hx hb dX4_leastFrom_51 rfl (lv_at hl 3 rfl) ?_
          obtain ⟨x19, hq19, hR⟩ := kk_bd_el hR
          refine kk_call_Vi (w' := (w_P g a x18)) (As := [.int v1]) (rest := [.int v2, .int (v1 + (1 : Int32)), .ref (a 0)]) 0 2 hC (sX2_troubleAt l g n a x18 v1 x19 hq19) (cwV 1 hts gX4_leastFrom_X2_troubleAt rfl rfl rfl (by decide +kernel) ⟨by dsimp only; omega, by dsimp only; omega⟩) hK hP hD hS hA [0, 1, 2, 3, 4, 5, 6, 7, 8, 9] rfl (by decide +kernel) rfl rfl rfl rfl rfl rfl rfl hl.1 (Nat.le_of_ble_eq_true rfl) dX4_leastFrom_52 (fun H locs hP hD hS => ?_)
          refine lv_iadd hx hb dX4_leastFrom_55 ?_
          refine lv_iload hx hb dX4_leastFrom_56 (lv_at hl 1 rfl) ?_
          obtain ⟨x20, hq20, hR⟩ := kk_bd_el hR
          refine kk_call_Si (w' := (w_P g a x20.2)) (As := [.ref (a 0), .int (v1 + (1 : Int32)), .int (v2 + x19), .int u12]) (rest := []) hC (ihr x18 (v1 + (1 : Int32)) (v2 + x19) u12 x20 hq20) (va_cwS 4 hts gX4_leastFrom_X4_leastFrom rfl rfl rfl (by decide +kernel) ⟨by dsimp only; omega, by dsimp only; omega⟩) hK hP hD hS hA [0, 1, 2, 3, 4, 5, 6, 7, 8, 9] rfl (by decide +kernel) rfl rfl rfl rfl hl.1 (Nat.le_of_ble_eq_true rfl) dX4_leastFrom_58 (fun H locs hP hD hS => ?_)
          refine lv_istore (lv' := [(4, .int x20.1), (5, .int u13), (0, .ref (a 0)), (1, .int v1), (2, .int v2)]) hx hb dX4_leastFrom_61 hl (by decide) rfl (fun ls hl => ?_)
          refine lv_aload_n hx hb dX4_leastFrom_63 rfl (lv_at hl 2 rfl) ?_
          refine lv_iload_n hx hb dX4_leastFrom_64 rfl (lv_at hl 3 rfl) ?_
          refine lv_iload hx hb dX4_leastFrom_65 (lv_at hl 1 rfl) ?_
          obtain ⟨x21, hq21, hR⟩ := kk_bd_el hR
          refine kk_call_Vv (w' := (w_P g a x21)) (As := [.int v1, .int u13]) (rest := []) 0 2 hC (sX2_swap l g n a x20.2 v1 u13 x21 hq21) (cwV 2 hts gX4_leastFrom_X2_swap rfl rfl rfl (by decide +kernel) ⟨by dsimp only; omega, by dsimp only; omega⟩) hK hP hD hS hA [0, 1, 2, 3, 4, 5, 6, 7, 8, 9] rfl (by decide +kernel) rfl rfl rfl rfl rfl rfl rfl hl.1 (Nat.le_of_ble_eq_true rfl) dX4_leastFrom_67 (fun H locs hP hD hS => ?_)
          refine lv_iinc (v := (u13 + (1 : Int32))) (lv' := [(5, .int (u13 + (1 : Int32))), (4, .int x20.1), (0, .ref (a 0)), (1, .int v1), (2, .int v2)]) hx hb dX4_leastFrom_70 hl (k := 1) rfl rfl (by decide) rfl (fun ls hl => ?_)
          refine lv_goto (tgt := 29) hx hb dX4_leastFrom_73 (by decide) ?_
          obtain rfl := Option.some.inj hR
          exact ih1 _ rfl _ _ _ hP hD hS (lv_sub hl [0, 1, 2, 3, 4] rfl)
      · replace hR := (if_neg c3).symm.trans hR
        refine lv_iload_n hx hb dX4_leastFrom_21 rfl (lv_at hl 2 rfl) ?_
        obtain rfl := Option.some.inj hR
        exact kk_ret_i hC hr hlocks hK hP hD hS dX4_leastFrom_22 rfl
  · replace hR := (if_neg c1).symm.trans hR
    refine lv_iload_n hx hb dX4_leastFrom_5 rfl (lv_at hl 3 rfl) ?_
    obtain rfl := Option.some.inj hR
    exact kk_ret_i hC hr hlocks hK hP hD hS dX4_leastFrom_6 rfl
theorem sX4_leastFrom (l : Launch) (g : kG) (n : Nat) (a : Nat → Nat) : ∀ (d : Nat) (P : St1) (v1 v2 v3 : Int32) (r : Int32 × St1), fX4_leastFrom n d P v1 v2 v3 = some r → kSp l g yX4_leastFrom wsX4_leastFrom ({ frames := d + 7, cells := 0, slots := 0, locals := 100 * d + 200 }) [.ref (a 0), .int v1, .int v2, .int v3] (w_P g a P) (kQi g (w_P g a r.2) r.1) := by
  intro d
  induction d with
  | zero => intro P v1 v2 v3 r h; cases h
  | succ d ih =>
    intro P v1 v2 v3 r h
    have e : ({ frames := d + 1 + 7, cells := 0, slots := 0, locals := 100 * (d + 1) + 200 } : Room) = { frames := d + 8, cells := 0, slots := 0, locals := 100 * d + 300 } := by
      congr 1
    rw [e]
    exact sX4_leastFrom_m l g n d (100 * d) (fX4_leastFrom n d) a P v1 v2 v3 r ih h
theorem sX4_leastFrom8 (l : Launch) (g : kG) (n : Nat) (a : Nat → Nat) (P : St1) (v1 v2 v3 : Int32) (r : Int32 × St1) (h : fX4_leastFrom n 8 P v1 v2 v3 = some r) : kSp l g yX4_leastFrom wsX4_leastFrom ({ frames := 15, cells := 0, slots := 0, locals := 1000 }) [.ref (a 0), .int v1, .int v2, .int v3] (w_P g a P) (kQi g (w_P g a r.2) r.1) := sX4_leastFrom l g n a 8 P v1 v2 v3 r h

set_option maxHeartbeats 8000000 in
set_option maxRecDepth 100000 in
theorem sX4_leastTrouble (l : Launch) (g : kG) (n : Nat) (a : Nat → Nat → Nat) (G : St2) (r : Int32 × St2) (hR : fX4_leastTrouble n G = some r) : kSp l g yX4_leastTrouble wsX4_leastTrouble ({ frames := 16, cells := 0, slots := 0, locals := 1025 }) [.ref (a 0 0)] (w_F g a G) (kQi g (w_F g a r.2) r.1) := by
  refine kSp.of (cc := cX4_leastTrouble) (maxL := 1) (ret := (some .int)) (by decide) rfl (Nat.le_of_ble_eq_true rfl) ?_
  intro p e s m args below meth c ls A hC hr hlocks hA hK hl hP hD hS
  replace hC : CallFix p m c cX4_leastTrouble 1 s args wsX4_leastTrouble RX4 := hC
  obtain ⟨hx, hb, hml, hown, hts⟩ := id hC
  replace hl : lv_has ls 1 [(0, .ref (a 0 0))] := hl
  unfold fX4_leastTrouble at hR
  have hw2 : ∀ w ∈ wsX20, w ∈ wsX4_leastTrouble := by decide +kernel
  have hw4 : ∀ w ∈ wsX40, w ∈ wsX4_leastTrouble := by decide +kernel
  have hl0 := hts (.fieldLink RX4 10 "FloatOrder" "parade" "LFloatOrder$Parade;") (by decide +kernel)
  have hl1 := hts (.fieldLink RX4 48 "FloatOrder$Parade" "floats" "I") (by decide +kernel)
  have hl2 := hts (.fieldLink RX4 16 "FloatOrder" "trial" "LFloatOrder$Parade;") (by decide +kernel)
  refine lv_aload_n hx hb dX4_leastTrouble_0 rfl (lv_at hl 0 rfl) ?_
  refine va_get (ci := 4) (C := RX4) (T := TX4) (N := 7) hx hb hts hw4 hown hK hP 0 rfl rfl 0 (by decide) hl0 (fun _ h9 => h9) rfl dX4_leastTrouble_1 ?_
  refine va_get (ci := 2) (C := RX2) (T := TX2) (N := 11) hx hb hts hw2 hown hK hP 2 rfl rfl 0 (by decide) hl1 (fun _ h9 => h9) rfl dX4_leastTrouble_4 ?_
  refine lv_bipush (v := (6 : Int32)) hx hb dX4_leastTrouble_7 (by decide) ?_
  refine lv_icmp_le (tgt := 14) hx hb dX4_leastTrouble_9 (by decide) (fun c1 => ?_) (fun c1 => ?_)
  · replace hR := (if_pos c1).symm.trans hR
    refine lv_aload_n hx hb dX4_leastTrouble_14 rfl (lv_at hl 0 rfl) ?_
    refine va_get (ci := 4) (C := RX4) (T := TX4) (N := 7) hx hb hts hw4 hown hK hP 0 rfl rfl 1 (by decide) hl2 (fun _ h9 => h9) rfl dX4_leastTrouble_15 ?_
    refine lv_aload_n hx hb dX4_leastTrouble_18 rfl (lv_at hl 0 rfl) ?_
    refine va_get (ci := 4) (C := RX4) (T := TX4) (N := 7) hx hb hts hw4 hown hK hP 0 rfl rfl 0 (by decide) hl0 (fun _ h9 => h9) rfl dX4_leastTrouble_19 ?_
    obtain ⟨x2, hq2, hR⟩ := kk_bd_el hR
    obtain ⟨G3, eG3, hR⟩ := kk_nm_el hR
    refine kk_call_Vv (w' := (w_F g a G3)) (As := [.ref (a 1 0)]) (rest := []) 12 2 hC (sX2_copyFrom l g n (a 2) (a 1) (G 2) (G 1)  x2 hq2) (cwV 1 hts gX4_leastTrouble_X2_copyFrom rfl rfl rfl (by decide +kernel) ⟨Nat.le_of_ble_eq_true rfl, Nat.le_of_ble_eq_true rfl⟩) hK hP hD hS hA [12, 13, 14, 15, 16, 17, 18, 19, 20, 21, 2, 3, 4, 5, 6, 7, 8, 9, 10, 11] (kk_m2 (is1 := [12, 13, 14, 15, 16, 17, 18, 19, 20, 21]) rfl (kk_ml 23 rfl (by decide +kernel) (kk_ml 22 rfl (by decide +kernel) (kk_mr (js := [0, 1, 2, 3, 4, 5, 6, 7, 8, 9]) 12 rfl (by decide +kernel) (kk_m0 10 (by decide +kernel) rfl)))) (kk_ml 23 rfl (by decide +kernel) (kk_ml 22 rfl (by decide +kernel) (kk_ml 12 rfl (by decide +kernel) (kk_mr (js := [0, 1, 2, 3, 4, 5, 6, 7, 8, 9]) 2 rfl (by decide +kernel) (kk_m0 10 (by decide +kernel) rfl)))))) (by decide +kernel) rfl (by rw [eG3]; exact kk_set2 (is1 := [12, 13, 14, 15, 16, 17, 18, 19, 20, 21]) rfl rfl (kk_sl 23 rfl (by decide +kernel) (kk_sl 22 rfl (by decide +kernel) (kk_sr (js := [0, 1, 2, 3, 4, 5, 6, 7, 8, 9]) 12 rfl (by decide +kernel) (kk_s0 10 (by decide +kernel) rfl rfl)))) (kk_sl 23 rfl (by decide +kernel) (kk_sl 22 rfl (by decide +kernel) (kk_sl 12 rfl (by decide +kernel) (kk_sr (js := [0, 1, 2, 3, 4, 5, 6, 7, 8, 9]) 2 rfl (by decide +kernel) (kk_s0 10 (by decide +kernel) rfl rfl)))))) rfl rfl rfl rfl rfl hl.1 (Nat.le_of_ble_eq_true rfl) dX4_leastTrouble_22 (fun H locs hP hD hS => ?_)
    refine lv_aload_n hx hb dX4_leastTrouble_25 rfl (lv_at hl 0 rfl) ?_
    refine va_get (ci := 4) (C := RX4) (T := TX4) (N := 7) hx hb hts hw4 hown hK hP 0 rfl rfl 1 (by decide) hl2 (fun _ h9 => h9) rfl dX4_leastTrouble_26 ?_
    refine lv_iconst (v := (0 : Int32)) hx hb dX4_leastTrouble_29 (by decide) ?_
    refine lv_iconst (v := (0 : Int32)) hx hb dX4_leastTrouble_30 (by decide) ?_
    refine lv_aload_n hx hb dX4_leastTrouble_31 rfl (lv_at hl 0 rfl) ?_
    refine va_get (ci := 4) (C := RX4) (T := TX4) (N := 7) hx hb hts hw4 hown hK hP 0 rfl rfl 1 (by decide) hl2 (fun _ h9 => h9) rfl dX4_leastTrouble_32 ?_
    obtain ⟨x4, hq4, hR⟩ := kk_bd_el hR
    refine kk_call_Vi (w' := (w_F g a G3)) (As := []) (rest := [.int (0 : Int32), .int (0 : Int32), .ref (a 2 0)]) 12 2 hC (sX2_allTrouble l g n (a 2) (G3 2)  x4 hq4) (cwV 0 hts gX4_leastTrouble_X2_allTrouble rfl rfl rfl (by decide +kernel) ⟨Nat.le_of_ble_eq_true rfl, Nat.le_of_ble_eq_true rfl⟩) hK hP hD hS hA [12, 13, 14, 15, 16, 17, 18, 19, 20, 21] (kk_ml 23 rfl (by decide +kernel) (kk_ml 22 rfl (by decide +kernel) (kk_mr (js := [0, 1, 2, 3, 4, 5, 6, 7, 8, 9]) 12 rfl (by decide +kernel) (kk_m0 10 (by decide +kernel) rfl)))) (by decide +kernel) rfl (kk_sl 23 rfl (by decide +kernel) (kk_sl 22 rfl (by decide +kernel) (kk_sr (js := [0, 1, 2, 3, 4, 5, 6, 7, 8, 9]) 12 rfl (by decide +kernel) (kk_s0 10 (by decide +kernel) rfl rfl)))) rfl rfl rfl rfl rfl hl.1 (Nat.le_of_ble_eq_true rfl) dX4_leastTrouble_35 (fun H locs hP hD hS => ?_)
    obtain ⟨x5, hq5, hR⟩ := kk_bd_el hR
    obtain ⟨G6, eG6, hR⟩ := kk_nm_el hR
    refine kk_call_Si (w' := (w_F g a G6)) (As := [.ref (a 2 0), .int (0 : Int32), .int (0 : Int32), .int x4]) (rest := []) hC (sX4_leastFrom8 l g n (a 2) (G3 2) (0 : Int32) (0 : Int32) x4 x5 hq5) (va_cwS 4 hts gX4_leastTrouble_X4_leastFrom rfl rfl rfl (by decide +kernel) ⟨Nat.le_of_ble_eq_true rfl, Nat.le_of_ble_eq_true rfl⟩) hK hP hD hS hA [12, 13, 14, 15, 16, 17, 18, 19, 20, 21] (kk_ml 23 rfl (by decide +kernel) (kk_ml 22 rfl (by decide +kernel) (kk_mr (js := [0, 1, 2, 3, 4, 5, 6, 7, 8, 9]) 12 rfl (by decide +kernel) (kk_m0 10 (by decide +kernel) rfl)))) (by decide +kernel) rfl (by rw [eG6]; exact kk_sl 23 rfl (by decide +kernel) (kk_sl 22 rfl (by decide +kernel) (kk_sr (js := [0, 1, 2, 3, 4, 5, 6, 7, 8, 9]) 12 rfl (by decide +kernel) (kk_s0 10 (by decide +kernel) rfl rfl)))) rfl rfl hl.1 (Nat.le_of_ble_eq_true rfl) dX4_leastTrouble_38 (fun H locs hP hD hS => ?_)
    obtain rfl := Option.some.inj hR
    exact kk_ret_i hC hr hlocks hK hP hD hS dX4_leastTrouble_41 rfl
  · replace hR := (if_neg c1).symm.trans hR
    refine lv_iconst (v := (-1 : Int32)) hx hb dX4_leastTrouble_12 (by decide) ?_
    obtain rfl := Option.some.inj hR
    exact kk_ret_i hC hr hlocks hK hP hD hS dX4_leastTrouble_13 rfl