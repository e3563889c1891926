set_option maxHeartbeats 8000000 in
set_option maxRecDepth 100000 in
theorem sX4_leastFrom_m (l : Launch) (g : kG) (n F L : Nat) (rcf : St1 → Int32 → Int32 → Int32 → Option (Int32 × St1)) (a : Nat → Nat) (P : St1) (v1 : Int32) (v2 : Int32) (v3 : Int32) (r : Int32 × St1) (ihr : ∀ (P : St1) (v1 v2 v3 : Int32) (r : Int32 × St1), rcf P v1 v2 v3 = some r → kSp l g yX4_leastFrom wsX4_leastFrom ({ frames := F + 7, cells := 0, slots := 0, locals := L + 200 }) [.ref (a 0), .int v1, .int v2, .int v3] (w_P g a P) (kQi g (w_P g a r.2) r.1)) (hR : fX4_leastFrom_m n rcf P v1 v2 v3 = some r) : kSp l g yX4_leastFrom wsX4_leastFrom ({ frames := F + 8, cells := 0, slots := 0, locals := L + 300 }) [.ref (a 0), .int v1, .int v2, .int v3] (w_P g a P) (kQi g (w_P g a r.2) r.1) := by
  refine kSp.of (cc := cX4_leastFrom) (maxL := 6) (ret := (some .int)) (by decide) rfl (Nat.le_of_ble_eq_true rfl) ?_
  intro p e s m args below meth c ls A hC hr hlocks hA hK hl hP hD hS
  replace hC : CallFix p m c cX4_leastFrom 6 s args wsX4_leastFrom RX4 := hC
  obtain ⟨hx, hb, hml, hown, hts⟩ := id hC
  replace hl : lv_has ls 6 [(0, .ref (a 0)), (1, .int v1), (2, .int v2), (3, .int v3)] := hl
  unfold fX4_leastFrom_m at hR
  have hw2 : ∀ w ∈ wsX20, w ∈ wsX4_leastFrom := by decide +kernel
  have hl0 := hts (.fieldLink RX4 48 "FloatOrder$Parade" "floats" "I") (by decide +kernel)
  refine lv_iload_n hx hb dX4_leastFrom_0 rfl (lv_at hl 2 rfl) ?_
  refine lv_iload_n hx hb dX4_leastFrom_1 rfl (lv_at hl 3 rfl) ?_
  refine lv_icmp_lt (tgt := 7) hx hb dX4_leastFrom_2 (by decide) (fun c1 => ?_) (fun c1 => ?_)
  · replace hR := (if_pos c1).symm.trans hR
    refine lv_iload_n hx hb dX4_leastFrom_7 rfl (lv_at hl 1 rfl) ?_
    refine lv_aload_n hx hb dX4_leastFrom_8 rfl (lv_at hl 0 rfl) ?_
    refine va_get (ci := 2) (C := RX2) (T := TX2) (N := 11) hx hb hts hw2 hown hK hP 0 rfl rfl 0 (by decide) hl0 (fun _ h9 => h9) rfl dX4_leastFrom_9 ?_
    refine lv_icmp_ge (tgt := 21) hx hb dX4_leastFrom_12 (by decide) (fun c2 => ?_) (fun c2 => ?_)
    · replace hR := (if_pos c2).symm.trans hR
      refine lv_iload_n hx hb dX4_leastFrom_21 rfl (lv_at hl 2 rfl) ?_
      obtain rfl := Option.some.inj hR
      exact kk_ret_i hC hr hlocks hK hP hD hS dX4_leastFrom_22 rfl
    · replace hR := (if_neg c2).symm.trans hR
      refine lv_iload_n hx hb dX4_leastFrom_15 rfl (lv_at hl 1 rfl) ?_
      refine lv_bipush (v := (6 : Int32)) hx hb dX4_leastFrom_16 (by decide) ?_
      refine lv_icmp_lt (tgt := 23) hx hb dX4_leastFrom_18 (by decide) (fun c3 => ?_) (fun c3 => ?_)
      · replace hR := (if_pos c3).symm.trans hR
        refine lv_iload_n hx hb dX4_leastFrom_23 rfl (lv_at hl 3 rfl) ?_
        refine lv_istore (lv' := [(4, .int v3), (0, .ref (a 0)), (1, .int v1), (2, .int v2), (3, .int v3)]) hx hb dX4_leastFrom_24 hl (by decide) rfl (fun ls hl => ?_)
        refine lv_iload_n hx hb dX4_leastFrom_26 rfl (lv_at hl 2 rfl) ?_
        refine lv_istore (lv' := [(5, .int v1), (4, .int v3), (0, .ref (a 0)), (1, .int v1), (2, .int v2), (3, .int v3)]) hx hb dX4_leastFrom_27 hl (by decide) rfl (fun ls hl => ?_)
        obtain ⟨x16, hq16, hR⟩ := kk_bd_el hR
        refine kk_cut (g := g) (A := A) (w' := (w_P g a x16.2)) (nL := 6) (lv := [(4, .int x16.1)]) (pcJ := 76) (st := []) (fun H locs ls hP hD hS hl => ?_) (fun hj16 => ?_)
        · refine lv_iload hx hb dX4_leastFrom_76 (lv_at hl 0 rfl) ?_
          obtain rfl := Option.some.inj hR
          exact kk_ret_i hC hr hlocks hK hP hD hS dX4_leastFrom_78 rfl
        refine kk_loop (g := g) (A := A) (fun (st : Int32 × Int32 × St1) => (w_P g a st.2.2)) (fun (st : Int32 × Int32 × St1) => [(5, .int st.2.1), (4, .int st.1), (0, .ref (a 0)), (1, .int v1), (2, .int v2)]) 29 (nL := 6) hq16 (fun st xb15 hR ih1 hX1 => ?_) hP hD hS (lv_sub hl [0, 1, 2, 3, 4] rfl)
        clear hP hD hS hl
        obtain ⟨u12, u13, P14⟩ := st
        intro H locs ls hP hD hS hl
        replace hR : fX4_leastFrom_b29 n rcf v1 v2 u12 u13 P14 = some xb15 := hR
        replace hP : va_P g.1 vwCl (w_P g a P14) H := hP
        replace hD : va_D A (w_P g a P14) := hD
        replace hl : lv_has ls 6 [(5, .int u13), (4, .int u12), (0, .ref (a 0)), (1, .int v1), (2, .int v2)] := hl
        unfold fX4_leastFrom_b29 at hR
        refine lv_iload hx hb dX4_leastFrom_29 (lv_at hl 0 rfl) ?_
        refine lv_aload_n hx hb dX4_leastFrom_31 rfl (lv_at hl 2 rfl) ?_
        refine va_get (ci := 2) (C := RX2) (T := TX2) (N := 11) hx hb hts hw2 hown hK hP 0 rfl rfl 0 (by decide) hl0 (fun _ h9 => h9) rfl dX4_leastFrom_32 ?_
        refine lv_icmp_ge (tgt := 76) hx hb dX4_leastFrom_35 (by decide) (fun c17 => ?_) (fun c17 => ?_)
        · replace hR := (if_pos c17).symm.trans hR
          obtain rfl := Option.some.inj hR
          obtain rfl := hX1 _ rfl
          exact hj16 _ _ _ hP hD hS (lv_sub hl [1] rfl)
        · replace hR := (if_neg c17).symm.trans hR
          refine lv_aload_n hx hb dX4_leastFrom_38 rfl (lv_at hl 2 rfl) ?_
          refine lv_iload_n hx hb dX4_leastFrom_39 rfl (lv_at hl 3 rfl) ?_
          refine lv_iload hx hb dX4_leastFrom_40 (lv_at hl 0 rfl) ?_
          obtain ⟨x18, hq18, hR⟩ := kk_bd_el hR
          refine kk_call_Vv (w' := (w_P g a x18)) (As := [.int v1, .int u13]) (rest := []) 0 2 hC (sX2_swap l g n a P14 v1 u13 x18 hq18) (cwV 2 hts gX4_leastFrom_X2_swap rfl rfl rfl (by decide +kernel) ⟨by dsimp only; omega, by dsimp only; omega⟩) hK hP hD hS hA [0, 1, 2, 3, 4, 5, 6, 7, 8, 9] rfl (by decide +kernel) rfl rfl rfl rfl rfl rfl rfl hl.1 (Nat.le_of_ble_eq_true rfl) dX4_leastFrom_42 (fun H locs hP hD hS => ?_)
          refine lv_aload_n hx hb dX4_leastFrom_45 rfl (lv_at hl 2 rfl) ?_
          refine lv_iload_n hx hb dX4_leastFrom_46 rfl (lv_at hl 3 rfl) ?_
          refine lv_iconst (v := (1 : Int32)) hx hb dX4_leastFrom_47 (by decide) ?_
          refine lv_iadd hx hb dX4_leastFrom_48 ?_
          refine lv_iload_n hx hb dX4_leastFrom_49 rfl (lv_at hl 4 rfl) ?_
          refine lv_aload_n hx hb dX4_leastFrom_50 rfl (lv_at hl 2 rfl) ?_
          refine lv_iload_n hx hb dX4_leastFrom_51 rfl (lv_at hl 3 rfl) ?_
          obtain ⟨x19, hq19, hR⟩ := kk_bd_el hR
          refine kk_call_Vi (w' := (w_P g a x18)) (As := [.int v1]) (rest := [.int v2, .int (v1 + (1 : Int32)), .ref (a 0)]) 0 2 hC (sX2_troubleAt l g n a x18 v1 x19 hq19) (cwV 1 hts gX4_leastFrom_X2_troubleAt rfl rfl rfl (by decide +kernel) ⟨by dsimp only; omega, by dsimp only; omega⟩) hK hP hD hS hA [0, 1, 2, 3, 4, 5, 6, 7, 8, 9] rfl (by decide +kernel) rfl rfl rfl rfl rfl rfl rfl hl.1 (Nat.le_of_ble_eq_true rfl) dX4_leastFrom_52 (fun H locs hP hD hS => ?_)
          refine lv_iadd hx hb dX4_leastFrom_55 ?_
          refine lv_iload hx hb dX4_leastFrom_56 (lv_at hl 1 rfl) ?_
          obtain ⟨x20, hq20, hR⟩ := kk_bd_el hR
          refine kk_call_Si (w' := (w_P g a x20.2)) (As := [.ref (a 0), .int (v1 + (1 : Int32)), .int (v2 + x19), .int u12]) (rest := []) hC (ihr x18 (v1 + (1 : Int32)) (v2 + x19) u12 x20 hq20) (va_cwS 4 hts gX4_leastFrom_X4_leastFrom rfl rfl rfl (by decide +kernel) ⟨by dsimp only; omega, by dsimp only; omega⟩) hK hP hD hS hA [0, 1, 2, 3, 4, 5, 6, 7, 8, 9] rfl (by decide +kernel) rfl rfl rfl rfl hl.1 (Nat.le_of_ble_eq_true rfl) dX4_leastFrom_58 (fun H locs hP hD hS => ?_)
          refine lv_istore (lv' := [(4, .int x20.1), (5, .int u13), (0, .ref (a 0)), (1, .int v1), (2, .int v2)]) hx hb dX4_leastFrom_61 hl (by decide) rfl (fun ls hl => ?_)
          refine lv_aload_n hx hb dX4_leastFrom_63 rfl (lv_at hl 2 rfl) ?_
          refine lv_iload_n hx hb dX4_leastFrom_64 rfl (lv_at hl 3 rfl) ?_
          refine lv_iload hx hb dX4_leastFrom_65 (lv_at hl 1 rfl) ?_
          obtain ⟨x21, hq21, hR⟩ := kk_bd_el hR
          refine kk_call_Vv (w' := (w_P g a x21)) (As := [.int v1, .int u13]) (rest := []) 0 2 hC (sX2_swap l g n a x20.2 v1 u13 x21 hq21) (cwV 2 hts gX4_leastFrom_X2_swap rfl rfl rfl (by decide +kernel) ⟨by dsimp only; omega, by dsimp only; omega⟩) hK hP hD hS hA [0, 1, 2, 3, 4, 5, 6, 7, 8, 9] rfl (by decide +kernel) rfl rfl rfl rfl rfl rfl rfl hl.1 (Nat.le_of_ble_eq_true rfl) dX4_leastFrom_67 (fun H locs hP hD hS => ?_)
          refine lv_iinc (v := (u13 + (1 : Int32))) (lv' := [(5, .int (u13 + (1 : Int32))), (4, .int x20.1), (0, .ref (a 0)), (1, .int v1), (2, .int v2)]) hx hb dX4_leastFrom_70 hl (k := 1) rfl rfl (by decide) rfl (fun ls hl => ?_)
          refine lv_goto (tgt := 29) hx hb dX4_leastFrom_73 (by decide) ?_
          obtain rfl := Option.some.inj hR
          exact ih1 _ rfl _ _ _ hP hD hS (lv_sub hl [0, 1, 2, 3, 4] rfl)
      · replace hR := (if_neg c3).symm.trans hR
        refine lv_iload_n hx hb dX4_leastFrom_21 rfl (lv_at hl 2 rfl) ?_
        obtain rfl := Option.some.inj hR
        exact kk_ret_i hC hr hlocks hK hP hD hS dX4_leastFrom_22 rfl
  · replace hR := (if_neg c1).symm.trans hR
    refine lv_iload_n hx hb dX4_leastFrom_5 rfl (lv_at hl 3 rfl) ?_
    obtain rfl := Option.some.inj hR
    exact kk_ret_i hC hr hlocks hK hP hD hS dX4_leastFrom_6 rfl
theorem sX4_leastFrom (l : Launch) (g : kG) (n : Nat) (a : Nat → Nat) : ∀ (d : Nat) (P : St1) (v1 v2 v3 : Int32) (r : Int32 × St1), fX4_leastFrom n d P v1 v2 v3 = some r → kSp l g yX4_leastFrom wsX4_leastFrom ({ frames := d + 7, cells := 0, slots := 0, locals := 100 * d + 200 }) [.ref (a 0), .int v1, .int v2, .int v3] (w_P g a P) (kQi g (w_P g a r.2) r.1) := by
  intro d
  induction d with
  | zero => intro P v1 v2 v3 r h; cases h
  | succ d ih =>
    intro P v1 v2 v3 r h
    have e : ({ frames := d + 1 + 7, cells := 0, slots := 0, locals := 100 * (d + 1) + 200 } : Room) = { frames := d + 8, cells := 0, slots := 0, locals := 100 * d + 300 } := by
      congr 1
    rw [e]
    exact sX4_leastFrom_m l g n d (100 * d) (fX4_leastFrom n d) a P v1 v2 v3 r ih h
theorem sX4_leastFrom8 (l : Launch) (g : kG) (n : Nat) (a : Nat → Nat) (P : St1) (v1 v2 v3 : Int32) (r : Int32 × St1) (h : fX4_leastFrom n 8 P v1 v2 v3 = some r) : kSp l g yX4_leastFrom wsX4_leastFrom ({ frames := 15, cells := 0, slots := 0, locals := 1000 }) [.ref (a 0), .int v1, .int v2, .int v3] (w_P g a P) (kQi g (w_P g a r.2) r.1) := sX4_leastFrom l g n a 8 P v1 v2 v3 r h

set_option maxHeartbeats 8000000 in
set_option maxRecDepth 100000 in
theorem sX4_leastTrouble (l : Launch) (g : kG) (n : Nat) (a : Nat → Nat → Nat) (G : St2) (r : Int32 × St2) (hR : fX4_leastTrouble n G = some r) : kSp l g yX4_leastTrouble wsX4_leastTrouble ({ frames := 16, cells := 0, slots := 0, locals := 1025 }) [.ref (a 0 0)] (w_F g a G) (kQi g (w_F g a r.2) r.1) := by
  refine kSp.of (cc := cX4_leastTrouble) (maxL := 1) (ret := (some .int)) (by decide) rfl (Nat.le_of_ble_eq_true rfl) ?_
  intro p e s m args below meth c ls A hC hr hlocks hA hK hl hP hD hS
  replace hC : CallFix p m c cX4_leastTrouble 1 s args wsX4_leastTrouble RX4 := hC
  obtain ⟨hx, hb, hml, hown, hts⟩ := id hC
  replace hl : lv_has ls 1 [(0, .ref (a 0 0))] := hl
  unfold fX4_leastTrouble at hR
  have hw2 : ∀ w ∈ wsX20, w ∈ wsX4_leastTrouble := by decide +kernel
  have hw4 : ∀ w ∈ wsX40, w ∈ wsX4_leastTrouble := by decide +kernel
  have hl0 := hts (.fieldLink RX4 10 "FloatOrder" "parade" "LFloatOrder$Parade;") (by decide +kernel)
  have hl1 := hts (.fieldLink RX4 48 "FloatOrder$Parade" "floats" "I") (by decide +kernel)
  have hl2 := hts (.fieldLink RX4 16 "FloatOrder" "trial" "LFloatOrder$Parade;") (by decide +kernel)
  refine lv_aload_n hx hb dX4_leastTrouble_0 rfl (lv_at hl 0 rfl) ?_
  refine va_get (ci := 4) (C := RX4) (T := TX4) (N := 7) hx hb hts hw4 hown hK hP 0 rfl rfl 0 (by decide) hl0 (fun _ h9 => h9) rfl dX4_leastTrouble_1 ?_
  refine va_get (ci := 2) (C := RX2) (T := TX2) (N := 11) hx hb hts hw2 hown hK hP 2 rfl rfl 0 (by decide) hl1 (fun _ h9 => h9) rfl dX4_leastTrouble_4 ?_
  refine lv_bipush (v := (6 : Int32)) hx hb dX4_leastTrouble_7 (by decide) ?_
  refine lv_icmp_le (tgt := 14) hx hb dX4_leastTrouble_9 (by decide) (fun c1 => ?_) (fun c1 => ?_)
  · replace hR := (if_pos c1).symm.trans hR
    refine lv_aload_n hx hb dX4_leastTrouble_14 rfl (lv_at hl 0 rfl) ?_
    refine va_get (ci := 4) (C := RX4) (T := TX4) (N := 7) hx hb hts hw4 hown hK hP 0 rfl rfl 1 (by decide) hl2 (fun _ h9 => h9) rfl dX4_leastTrouble_15 ?_
    refine lv_aload_n hx hb dX4_leastTrouble_18 rfl (lv_at hl 0 rfl) ?_
    refine va_get (ci := 4) (C := RX4) (T := TX4) (N := 7) hx hb hts hw4 hown hK hP 0 rfl rfl 0 (by decide) hl0 (fun _ h9 => h9) rfl dX4_leastTrouble_19 ?_
    obtain ⟨x2, hq2, hR⟩ := kk_bd_el hR
    obtain ⟨G3, eG3, hR⟩ := kk_nm_el hR
    refine kk_call_Vv (w' := (w_F g a G3)) (As := [.ref (a 1 0)]) (rest := []) 12 2 hC (sX2_copyFrom l g n (a 2) (a 1) (G 2) (G 1)  x2 hq2) (cwV 1 hts gX4_leastTrouble_X2_copyFrom rfl rfl rfl (by decide +kernel) ⟨Nat.le_of_ble_eq_true rfl, Nat.le_of_ble_eq_true rfl⟩) hK hP hD hS hA [12, 13, 14, 15, 16, 17, 18, 19, 20, 21, 2, 3, 4, 5, 6, 7, 8, 9, 10, 11] (kk_m2 (is1 := [12, 13, 14, 15, 16, 17, 18, 19, 20, 21]) rfl (kk_ml 23 rfl (by decide +kernel) (kk_ml 22 rfl (by decide +kernel) (kk_mr (js := [0, 1, 2, 3, 4, 5, 6, 7, 8, 9]) 12 rfl (by decide +kernel) (kk_m0 10 (by decide +kernel) rfl)))) (kk_ml 23 rfl (by decide +kernel) (kk_ml 22 rfl (by decide +kernel) (kk_ml 12 rfl (by decide +kernel) (kk_mr (js := [0, 1, 2, 3, 4, 5, 6, 7, 8, 9]) 2 rfl (by decide +kernel) (kk_m0 10 (by decide +kernel) rfl)))))) (by decide +kernel) rfl (by rw [eG3]; exact kk_set2 (is1 := [12, 13, 14, 15, 16, 17, 18, 19, 20, 21]) rfl rfl (kk_sl 23 rfl (by decide +kernel) (kk_sl 22 rfl (by decide +kernel) (kk_sr (js := [0, 1, 2, 3, 4, 5, 6, 7, 8, 9]) 12 rfl (by decide +kernel) (kk_s0 10 (by decide +kernel) rfl rfl)))) (kk_sl 23 rfl (by decide +kernel) (kk_sl 22 rfl (by decide +kernel) (kk_sl 12 rfl (by decide +kernel) (kk_sr (js := [0, 1, 2, 3, 4, 5, 6, 7, 8, 9]) 2 rfl (by decide +kernel) (kk_s0 10 (by decide +kernel) rfl rfl)))))) rfl rfl rfl rfl rfl hl.1 (Nat.le_of_ble_eq_true rfl) dX4_leastTrouble_22 (fun H locs hP hD hS => ?_)
    refine lv_aload_n hx hb dX4_leastTrouble_25 rfl (lv_at hl 0 rfl) ?_
    refine va_get (ci := 4) (C := RX4) (T := TX4) (N := 7) hx hb hts hw4 hown hK hP 0 rfl rfl 1 (by decide) hl2 (fun _ h9 => h9) rfl dX4_leastTrouble_26 ?_
    refine lv_iconst (v := (0 : Int32)) hx hb dX4_leastTrouble_29 (by decide) ?_
    refine lv_iconst (v := (0 : Int32)) hx hb dX4_leastTrouble_30 (by decide) ?_
    refine lv_aload_n hx hb dX4_leastTrouble_31 rfl (lv_at hl 0 rfl) ?_
    refine va_get (ci := 4) (C := RX4) (T := TX4) (N := 7) hx hb hts hw4 hown hK hP 0 rfl rfl 1 (by decide) hl2 (fun _ h9 => h9) rfl dX4_leastTrouble_32 ?_
    obtain ⟨x4, hq4, hR⟩ := kk_bd_el hR
    refine kk_call_Vi (w' := (w_F g a G3)) (As := []) (rest := [.int (0 : Int32), .int (0 : Int32), .ref (a 2 0)]) 12 2 hC (sX2_allTrouble l g n (a 2) (G3 2)  x4 hq4) (cwV 0 hts gX4_leastTrouble_X2_allTrouble rfl rfl rfl (by decide +kernel) ⟨Nat.le_of_ble_eq_true rfl, Nat.le_of_ble_eq_true rfl⟩) hK hP hD hS hA [12, 13, 14, 15, 16, 17, 18, 19, 20, 21] (kk_ml 23 rfl (by decide +kernel) (kk_ml 22 rfl (by decide +kernel) (kk_mr (js := [0, 1, 2, 3, 4, 5, 6, 7, 8, 9]) 12 rfl (by decide +kernel) (kk_m0 10 (by decide +kernel) rfl)))) (by decide +kernel) rfl (kk_sl 23 rfl (by decide +kernel) (kk_sl 22 rfl (by decide +kernel) (kk_sr (js := [0, 1, 2, 3, 4, 5, 6, 7, 8, 9]) 12 rfl (by decide +kernel) (kk_s0 10 (by decide +kernel) rfl rfl)))) rfl rfl rfl rfl rfl hl.1 (Nat.le_of_ble_eq_true rfl) dX4_leastTrouble_35 (fun H locs hP hD hS => ?_)
    obtain ⟨x5, hq5, hR⟩ := kk_bd_el hR
    obtain ⟨G6, eG6, hR⟩ := kk_nm_el hR
    refine kk_call_Si (w' := (w_F g a G6)) (As := [.ref (a 2 0), .int (0 : Int32), .int (0 : Int32), .int x4]) (rest := []) hC (sX4_leastFrom8 l g n (a 2) (G3 2) (0 : Int32) (0 : Int32) x4 x5 hq5) (va_cwS 4 hts gX4_leastTrouble_X4_leastFrom rfl rfl rfl (by decide +kernel) ⟨Nat.le_of_ble_eq_true rfl, Nat.le_of_ble_eq_true rfl⟩) hK hP hD hS hA [12, 13, 14, 15, 16, 17, 18, 19, 20, 21] (kk_ml 23 rfl (by decide +kernel) (kk_ml 22 rfl (by decide +kernel) (kk_mr (js := [0, 1, 2, 3, 4, 5, 6, 7, 8, 9]) 12 rfl (by decide +kernel) (kk_m0 10 (by decide +kernel) rfl)))) (by decide +kernel) rfl (by rw [eG6]; exact kk_sl 23 rfl (by decide +kernel) (kk_sl 22 rfl (by decide +kernel) (kk_sr (js := [0, 1, 2, 3, 4, 5, 6, 7, 8, 9]) 12 rfl (by decide +kernel) (kk_s0 10 (by decide +kernel) rfl rfl)))) rfl rfl hl.1 (Nat.le_of_ble_eq_true rfl) dX4_leastTrouble_38 (fun H locs hP hD hS => ?_)
    obtain rfl := Option.some.inj hR
    exact kk_ret_i hC hr hlocks hK hP hD hS dX4_leastTrouble_41 rfl
  · replace hR := (if_neg c1).symm.trans hR
    refine lv_iconst (v := (-1 : Int32)) hx hb dX4_leastTrouble_12 (by decide) ?_
    obtain rfl := Option.some.inj hR
    exact kk_ret_i hC hr hlocks hK hP hD hS dX4_leastTrouble_13 rfl
set_option maxHeartbeats 8000000 in
set_option maxRecDepth 100000 in
theorem sX4_digest (l : Launch) (g : kG) (n : Nat) (a : Nat → Nat → Nat) (h : Nat → Nat → Nat) (G : St2) (V : St2) (r : Int64 × St2) (hR : fX4_digest n G V = some r) : kSp l g yX4_digest wsX4_digest ({ frames := 17, cells := 0, slots := 0, locals := 1045 }) [.ref (a 0 0)] (w_F g a G ++ w_H g (a 0 2) h V) (kQl g (w_F g a r.2 ++ w_H g (a 0 2) h V) r.1) := by
  refine kSp.of (cc := cX4_digest) (maxL := 5) (ret := (some .long)) (by decide) rfl (Nat.le_of_ble_eq_true rfl) ?_
  intro p e s m args below meth c ls A hC hr hlocks hA hK hl hP hD hS
  replace hC : CallFix p m c cX4_digest 5 s args wsX4_digest RX4 := hC
  obtain ⟨hx, hb, hml, hown, hts⟩ := id hC
  replace hl : lv_has ls 5 [(0, .ref (a 0 0))] := hl
  unfold fX4_digest at hR
  have hw2 : ∀ w ∈ wsX20, w ∈ wsX4_digest := by decide +kernel
  have hw4 : ∀ w ∈ wsX40, w ∈ wsX4_digest := by decide +kernel
  have hl0 := hts (.constantLong RX4 224 2971) (by decide +kernel)
  have hl1 := hts (.fieldLink RX4 10 "FloatOrder" "parade" "LFloatOrder$Parade;") (by decide +kernel)
  have hl2 := hts (.fieldLink RX4 149 "FloatOrder$Parade" "settings" "[I") (by decide +kernel)
  have hl3 := hts (.fieldLink RX4 117 "FloatOrder$Parade" "bridges" "I") (by decide +kernel)
  have hl4 := hts (.fieldLink RX4 48 "FloatOrder$Parade" "floats" "I") (by decide +kernel)
  have hl5 := hts (.fieldLink RX4 44 "FloatOrder" "characters" "I") (by decide +kernel)
  have hl6 := hts (.fieldLink RX4 40 "FloatOrder" "buffer" "[I") (by decide +kernel)
  refine lv_ldc2 (v := (2971 : Int64)) hx hb hown hl0 dX4_digest_0 ?_
  refine lv_lstore_n (lv' := [(1, .long (2971 : Int64)), (0, .ref (a 0 0))]) hx hb dX4_digest_3 rfl hl (by decide) rfl (fun ls hl => ?_)
  refine lv_iconst (v := (0 : Int32)) hx hb dX4_digest_4 (by decide) ?_
  refine lv_istore_n (lv' := [(3, .int (0 : Int32)), (1, .long (2971 : Int64)), (0, .ref (a 0 0))]) hx hb dX4_digest_5 rfl hl (by decide) rfl (fun ls hl => ?_)
  obtain ⟨x12, hq12, hR⟩ := kk_bd_el hR
  refine kk_cut (g := g) (A := A) (w' := (w_F g a x12.2 ++ w_H g (a 0 2) h V)) (nL := 5) (lv := [(1, .long x12.1), (0, .ref (a 0 0))]) (pcJ := 29) (st := []) (fun H locs ls hP hD hS hl => ?_) (fun hj12 => ?_)
  · refine lv_iconst (v := (0 : Int32)) hx hb dX4_digest_29 (by decide) ?_
    refine lv_istore_n (lv' := [(3, .int (0 : Int32)), (1, .long x12.1), (0, .ref (a 0 0))]) hx hb dX4_digest_30 rfl hl (by decide) rfl (fun ls hl => ?_)
    obtain ⟨x26, hq26, hR⟩ := kk_bd_el hR
    refine kk_cut (g := g) (A := A) (w' := (w_F g a x12.2 ++ w_H g (a 0 2) h V)) (nL := 5) (lv := [(1, .long x26), (0, .ref (a 0 0))]) (pcJ := 57) (st := []) (fun H locs ls hP hD hS hl => ?_) (fun hj26 => ?_)
    · refine lv_iconst (v := (0 : Int32)) hx hb dX4_digest_57 (by decide) ?_
      refine lv_istore_n (lv' := [(3, .int (0 : Int32)), (1, .long x26), (0, .ref (a 0 0))]) hx hb dX4_digest_58 rfl hl (by decide) rfl (fun ls hl => ?_)
      obtain ⟨x52, hq52, hR⟩ := kk_bd_el hR
      refine kk_cut (g := g) (A := A) (w' := (w_F g a x12.2 ++ w_H g (a 0 2) h V)) (nL := 5) (lv := [(1, .long x52), (0, .ref (a 0 0))]) (pcJ := 107) (st := []) (fun H locs ls hP hD hS hl => ?_) (fun hj52 => ?_)
      · refine lv_iconst (v := (0 : Int32)) hx hb dX4_digest_107 (by decide) ?_
        refine lv_istore_n (lv' := [(3, .int (0 : Int32)), (1, .long x52), (0, .ref (a 0 0))]) hx hb dX4_digest_108 rfl hl (by decide) rfl (fun ls hl => ?_)
        obtain ⟨x78, hq78, hR⟩ := kk_bd_el hR
        refine kk_cut (g := g) (A := A) (w' := (w_F g a x78.2 ++ w_H g (a 0 2) h V)) (nL := 5) (lv := [(1, .long x78.1), (0, .ref (a 0 0))]) (pcJ := 133) (st := []) (fun H locs ls hP hD hS hl => ?_) (fun hj78 => ?_)
        · refine lv_lload_n hx hb dX4_digest_133 rfl (lv_at hl 0 rfl) ?_
          refine lv_aload_n hx hb dX4_digest_134 rfl (lv_at hl 1 rfl) ?_
          obtain ⟨x81, hq81, hR⟩ := kk_bd_el hR
          refine kk_call_Vi (w' := (w_F g a x81.2 ++ w_H g (a 0 2) h V)) (As := []) (rest := [.long x78.1]) 0 4 hC (sX4_bestFold l g n a x78.2  x81 hq81) (cwV 0 hts gX4_digest_X4_bestFold rfl rfl rfl (by decide +kernel) ⟨Nat.le_of_ble_eq_true rfl, Nat.le_of_ble_eq_true rfl⟩) hK hP hD hS hA [0, 1, 2, 3, 4, 5, 6, 7, 8, 9, 10, 11, 12, 13, 14, 15, 16, 17, 18, 19, 20, 21, 22, 23] (kk_ml 24 rfl (by decide +kernel) (kk_m0 24 (by decide +kernel) rfl)) (by decide +kernel) rfl (kk_sl 24 rfl (by decide +kernel) (kk_s0 24 (by decide +kernel) rfl rfl)) rfl rfl rfl rfl rfl hl.1 (Nat.le_of_ble_eq_true rfl) dX4_digest_135 (fun H locs hP hD hS => ?_)
          refine lv_i2l (v := x81.1.toInt64) hx hb dX4_digest_138 rfl ?_
          obtain ⟨x82, hq82, hR⟩ := kk_bd_el hR
          refine kk_call_Sl (w' := (w_F g a x81.2 ++ w_H g (a 0 2) h V)) (As := [.long x78.1, .long x81.1.toInt64]) (rest := []) hC (sX4_mixed l g n   x78.1 x81.1.toInt64 x82 hq82) (va_cwS 2 hts gX4_digest_X4_mixed rfl rfl rfl (by decide +kernel) ⟨Nat.le_of_ble_eq_true rfl, Nat.le_of_ble_eq_true rfl⟩) hK hP hD hS hA [] rfl (by decide +kernel) rfl rfl rfl rfl hl.1 (Nat.le_of_ble_eq_true rfl) dX4_digest_139 (fun H locs hP hD hS => ?_)
          refine lv_lstore_n (lv' := [(1, .long x82), (0, .ref (a 0 0))]) hx hb dX4_digest_142 rfl hl (by decide) rfl (fun ls hl => ?_)
          refine lv_lload_n hx hb dX4_digest_143 rfl (lv_at hl 0 rfl) ?_
          refine lv_aload_n hx hb dX4_digest_144 rfl (lv_at hl 1 rfl) ?_
          obtain ⟨x83, hq83, hR⟩ := kk_bd_el hR
          refine kk_call_Vi (w' := (w_F g a x83.2 ++ w_H g (a 0 2) h V)) (As := []) (rest := [.long x82]) 0 4 hC (sX4_leastTrouble l g n a x81.2  x83 hq83) (cwV 0 hts gX4_digest_X4_leastTrouble rfl rfl rfl (by decide +kernel) ⟨Nat.le_of_ble_eq_true rfl, Nat.le_of_ble_eq_true rfl⟩) hK hP hD hS hA [0, 1, 2, 3, 4, 5, 6, 7, 8, 9, 10, 11, 12, 13, 14, 15, 16, 17, 18, 19, 20, 21, 22, 23] (kk_ml 24 rfl (by decide +kernel) (kk_m0 24 (by decide +kernel) rfl)) (by decide +kernel) rfl (kk_sl 24 rfl (by decide +kernel) (kk_s0 24 (by decide +kernel) rfl rfl)) rfl rfl rfl rfl rfl hl.1 (Nat.le_of_ble_eq_true rfl) dX4_digest_145 (fun H locs hP hD hS => ?_)
          refine lv_i2l (v := x83.1.toInt64) hx hb dX4_digest_148 rfl ?_
          obtain ⟨x84, hq84, hR⟩ := kk_bd_el hR
          refine kk_call_Sl (w' := (w_F g a x83.2 ++ w_H g (a 0 2) h V)) (As := [.long x82, .long x83.1.toInt64]) (rest := []) hC (sX4_mixed l g n   x82 x83.1.toInt64 x84 hq84) (va_cwS 2 hts gX4_digest_X4_mixed rfl rfl rfl (by decide +kernel) ⟨Nat.le_of_ble_eq_true rfl, Nat.le_of_ble_eq_true rfl⟩) hK hP hD hS hA [] rfl (by decide +kernel) rfl rfl rfl rfl hl.1 (Nat.le_of_ble_eq_true rfl) dX4_digest_149 (fun H locs hP hD hS => ?_)
          refine lv_lstore_n (lv' := [(1, .long x84), (0, .ref (a 0 0))]) hx hb dX4_digest_152 rfl hl (by decide) rfl (fun ls hl => ?_)
          refine lv_lload_n hx hb dX4_digest_153 rfl (lv_at hl 0 rfl) ?_
          refine lv_aload_n hx hb dX4_digest_154 rfl (lv_at hl 1 rfl) ?_
          obtain ⟨x85, hq85, hR⟩ := kk_bd_el hR
          refine kk_call_Vd (w' := (w_F g a x83.2 ++ w_H g (a 0 2) h V)) (As := []) (rest := [.long x84]) 0 4 hC (sX4_smoothness l g n a x83.2  x85 hq85) (cwV 0 hts gX4_digest_X4_smoothness rfl rfl rfl (by decide +kernel) ⟨Nat.le_of_ble_eq_true rfl, Nat.le_of_ble_eq_true rfl⟩) hK hP hD hS hA [0, 1, 2, 3, 4, 5, 6, 7, 8, 9, 10, 11, 12, 13, 14, 15, 16, 17, 18, 19, 20, 21, 22, 23] (kk_ml 24 rfl (by decide +kernel) (kk_m0 24 (by decide +kernel) rfl)) (by decide +kernel) rfl (kk_sl 24 rfl (by decide +kernel) (kk_s0 24 (by decide +kernel) rfl rfl)) rfl rfl rfl rfl rfl hl.1 (Nat.le_of_ble_eq_true rfl) dX4_digest_155 (fun H locs hP hD hS => ?_)
          obtain ⟨x86, hq86, hR⟩ := kk_bd_el hR
          refine kk_call_Sl (w' := (w_F g a x83.2 ++ w_H g (a 0 2) h V)) (As := [.double x85]) (rest := [.long x84]) hC (sX4_bitsOfShare l g n   x85 x86 hq86) (va_cwS 1 hts gX4_digest_X4_bitsOfShare rfl rfl rfl (by decide +kernel) ⟨Nat.le_of_ble_eq_true rfl, Nat.le_of_ble_eq_true rfl⟩) hK hP hD hS hA [] rfl (by decide +kernel) rfl rfl rfl rfl hl.1 (Nat.le_of_ble_eq_true rfl) dX4_digest_158 (fun H locs hP hD hS => ?_)
          obtain ⟨x87, hq87, hR⟩ := kk_bd_el hR
          refine kk_call_Sl (w' := (w_F g a x83.2 ++ w_H g (a 0 2) h V)) (As := [.long x84, .long x86]) (rest := []) hC (sX4_mixed l g n   x84 x86 x87 hq87) (va_cwS 2 hts gX4_digest_X4_mixed rfl rfl rfl (by decide +kernel) ⟨Nat.le_of_ble_eq_true rfl, Nat.le_of_ble_eq_true rfl⟩) hK hP hD hS hA [] rfl (by decide +kernel) rfl rfl rfl rfl hl.1 (Nat.le_of_ble_eq_true rfl) dX4_digest_161 (fun H locs hP hD hS => ?_)
          refine lv_lstore_n (lv' := [(1, .long x87), (0, .ref (a 0 0))]) hx hb dX4_digest_164 rfl hl (by decide) rfl (fun ls hl => ?_)
          refine lv_lload_n hx hb dX4_digest_165 rfl (lv_at hl 0 rfl) ?_
          refine lv_aload_n hx hb dX4_digest_166 rfl (lv_at hl 1 rfl) ?_
          refine va_get (ci := 4) (C := RX4) (T := TX4) (N := 7) hx hb hts hw4 hown hK hP 0 rfl rfl 6 (by decide) hl5 (fun _ h9 => h9) rfl dX4_digest_167 ?_
          refine lv_i2l (v := (x83.2 0 6 0).toInt64) hx hb dX4_digest_170 rfl ?_
          obtain ⟨x88, hq88, hR⟩ := kk_bd_el hR
          refine kk_call_Sl (w' := (w_F g a x83.2 ++ w_H g (a 0 2) h V)) (As := [.long x87, .long (x83.2 0 6 0).toInt64]) (rest := []) hC (sX4_mixed l g n   x87 (x83.2 0 6 0).toInt64 x88 hq88) (va_cwS 2 hts gX4_digest_X4_mixed rfl rfl rfl (by decide +kernel) ⟨Nat.le_of_ble_eq_true rfl, Nat.le_of_ble_eq_true rfl⟩) hK hP hD hS hA [] rfl (by decide +kernel) rfl rfl rfl rfl hl.1 (Nat.le_of_ble_eq_true rfl) dX4_digest_171 (fun H locs hP hD hS => ?_)
          refine lv_lstore_n (lv' := [(1, .long x88), (0, .ref (a 0 0))]) hx hb dX4_digest_174 rfl hl (by decide) rfl (fun ls hl => ?_)
          refine lv_iconst (v := (0 : Int32)) hx hb dX4_digest_175 (by decide) ?_
          refine lv_istore_n (lv' := [(3, .int (0 : Int32)), (1, .long x88), (0, .ref (a 0 0))]) hx hb dX4_digest_176 rfl hl (by decide) rfl (fun ls hl => ?_)
          obtain ⟨x99, hq99, hR⟩ := kk_bd_el hR
          refine kk_cut (g := g) (A := A) (w' := (w_F g a x83.2 ++ w_H g (a 0 2) h V)) (nL := 5) (lv := [(1, .long x99)]) (pcJ := 203) (st := []) (fun H locs ls hP hD hS hl => ?_) (fun hj99 => ?_)
          · refine lv_lload_n hx hb dX4_digest_203 rfl (lv_at hl 0 rfl) ?_
            obtain rfl := Option.some.inj hR
            exact kk_ret_l hC hr hlocks hK hP hD hS dX4_digest_204 rfl
          refine kk_loop (g := g) (A := A) (fun (st : Int64 × Int32) => (w_F g a x83.2 ++ w_H g (a 0 2) h V)) (fun (st : Int64 × Int32) => [(3, .int st.2), (1, .long st.1), (0, .ref (a 0 0))]) 177 (nL := 5) hq99 (fun st xb98 hR ih7 hX7 => ?_) hP hD hS (lv_sub hl [0, 1, 2] rfl)
          clear hP hD hS hl
          obtain ⟨u96, u97⟩ := st
          intro H locs ls hP hD hS hl
          replace hR : fX4_digest_b177 n x83 u96 u97 = some xb98 := hR
          replace hP : va_P g.1 vwCl (w_F g a x83.2 ++ w_H g (a 0 2) h V) H := hP
          replace hD : va_D A (w_F g a x83.2 ++ w_H g (a 0 2) h V) := hD
          replace hl : lv_has ls 5 [(3, .int u97), (1, .long u96), (0, .ref (a 0 0))] := hl
          unfold fX4_digest_b177 at hR
          refine lv_iload_n hx hb dX4_digest_177 rfl (lv_at hl 0 rfl) ?_
          refine lv_aload_n hx hb dX4_digest_178 rfl (lv_at hl 2 rfl) ?_
          refine va_get (ci := 4) (C := RX4) (T := TX4) (N := 7) hx hb hts hw4 hown hK hP 0 rfl rfl 6 (by decide) hl5 (fun _ h9 => h9) rfl dX4_digest_179 ?_
          refine lv_icmp_ge (tgt := 203) hx hb dX4_digest_182 (by decide) (fun c100 => ?_) (fun c100 => ?_)
          · replace hR := (if_pos c100).symm.trans hR
            obtain rfl := Option.some.inj hR
            obtain rfl := hX7 _ rfl
            exact hj99 _ _ _ hP hD hS (lv_sub hl [1] rfl)
          · replace hR := (if_neg c100).symm.trans hR
            refine lv_lload_n hx hb dX4_digest_185 rfl (lv_at hl 1 rfl) ?_
            refine lv_aload_n hx hb dX4_digest_186 rfl (lv_at hl 2 rfl) ?_
            refine va_get (ci := 4) (C := RX4) (T := TX4) (N := 7) hx hb hts hw4 hown hK hP 0 rfl rfl 5 (by decide) hl6 (fun _ h9 => h9) rfl dX4_digest_187 ?_
            refine lv_iload_n hx hb dX4_digest_190 rfl (lv_at hl 0 rfl) ?_
            obtain ⟨hi101, hR⟩ := kk_ck_el hR
            refine va_iald hx hb hK hP 1 0 rfl rfl hi101 dX4_digest_191 ?_
            refine lv_i2l (v := ((x83.2 0 5) u97.toNatClampNeg).toInt64) hx hb dX4_digest_192 rfl ?_
            obtain ⟨x102, hq102, hR⟩ := kk_bd_el hR
            refine kk_call_Sl (w' := (w_F g a x83.2 ++ w_H g (a 0 2) h V)) (As := [.long u96, .long ((x83.2 0 5) u97.toNatClampNeg).toInt64]) (rest := []) hC (sX4_mixed l g n   u96 ((x83.2 0 5) u97.toNatClampNeg).toInt64 x102 hq102) (va_cwS 2 hts gX4_digest_X4_mixed rfl rfl rfl (by decide +kernel) ⟨Nat.le_of_ble_eq_true rfl, Nat.le_of_ble_eq_true rfl⟩) hK hP hD hS hA [] rfl (by decide +kernel) rfl rfl rfl rfl hl.1 (Nat.le_of_ble_eq_true rfl) dX4_digest_193 (fun H locs hP hD hS => ?_)
            refine lv_lstore_n (lv' := [(1, .long x102), (3, .int u97), (0, .ref (a 0 0))]) hx hb dX4_digest_196 rfl hl (by decide) rfl (fun ls hl => ?_)
            refine lv_iinc (v := (u97 + (1 : Int32))) (lv' := [(3, .int (u97 + (1 : Int32))), (1, .long x102), (0, .ref (a 0 0))]) hx hb dX4_digest_197 hl (k := 1) rfl rfl (by decide) rfl (fun ls hl => ?_)
            refine lv_goto (tgt := 177) hx hb dX4_digest_200 (by decide) ?_
            obtain rfl := Option.some.inj hR
            exact ih7 _ rfl _ _ _ hP hD hS (lv_sub hl [0, 1, 2] rfl)
        refine kk_loop (g := g) (A := A) (fun (st : Int64 × Int32 × St2) => (w_F g a st.2.2 ++ w_H g (a 0 2) h V)) (fun (st : Int64 × Int32 × St2) => [(3, .int st.2.1), (1, .long st.1), (0, .ref (a 0 0))]) 109 (nL := 5) hq78 (fun st xb77 hR ih6 hX6 => ?_) hP hD hS (lv_sub hl [0, 1, 2] rfl)
        clear hP hD hS hl
        obtain ⟨u74, u75, G76⟩ := st
        intro H locs ls hP hD hS hl
        replace hR : fX4_digest_b109 n u74 u75 G76 = some xb77 := hR
        replace hP : va_P g.1 vwCl (w_F g a G76 ++ w_H g (a 0 2) h V) H := hP
        replace hD : va_D A (w_F g a G76 ++ w_H g (a 0 2) h V) := hD
        replace hl : lv_has ls 5 [(3, .int u75), (1, .long u74), (0, .ref (a 0 0))] := hl
        unfold fX4_digest_b109 at hR
        refine lv_iload_n hx hb dX4_digest_109 rfl (lv_at hl 0 rfl) ?_
        refine lv_aload_n hx hb dX4_digest_110 rfl (lv_at hl 2 rfl) ?_
        refine va_get (ci := 4) (C := RX4) (T := TX4) (N := 7) hx hb hts hw4 hown hK hP 0 rfl rfl 0 (by decide) hl1 (fun _ h9 => h9) rfl dX4_digest_111 ?_
        refine va_get (ci := 2) (C := RX2) (T := TX2) (N := 11) hx hb hts hw2 hown hK hP 2 rfl rfl 0 (by decide) hl4 (fun _ h9 => h9) rfl dX4_digest_114 ?_
        refine lv_icmp_ge (tgt := 133) hx hb dX4_digest_117 (by decide) (fun c79 => ?_) (fun c79 => ?_)
        · replace hR := (if_pos c79).symm.trans hR
          obtain rfl := Option.some.inj hR
          obtain rfl := hX6 _ rfl
          exact hj78 _ _ _ hP hD hS (lv_sub hl [1, 2] rfl)
        · replace hR := (if_neg c79).symm.trans hR
          refine lv_aload_n hx hb dX4_digest_120 rfl (lv_at hl 2 rfl) ?_
          refine lv_lload_n hx hb dX4_digest_121 rfl (lv_at hl 1 rfl) ?_
          refine lv_iload_n hx hb dX4_digest_122 rfl (lv_at hl 0 rfl) ?_
          obtain ⟨x80, hq80, hR⟩ := kk_bd_el hR
          refine kk_call_Vl (w' := (w_F g a x80.2 ++ w_H g (a 0 2) h V)) (As := [.long u74, .int u75]) (rest := []) 0 4 hC (sX4_withFloat l g n a G76 u74 u75 x80 hq80) (cwV 2 hts gX4_digest_X4_withFloat rfl rfl rfl (by decide +kernel) ⟨Nat.le_of_ble_eq_true rfl, Nat.le_of_ble_eq_true rfl⟩) hK hP hD hS hA [0, 1, 2, 3, 4, 5, 6, 7, 8, 9, 10, 11, 12, 13, 14, 15, 16, 17, 18, 19, 20, 21, 22, 23] (kk_ml 24 rfl (by decide +kernel) (kk_m0 24 (by decide +kernel) rfl)) (by decide +kernel) rfl (kk_sl 24 rfl (by decide +kernel) (kk_s0 24 (by decide +kernel) rfl rfl)) rfl rfl rfl rfl rfl hl.1 (Nat.le_of_ble_eq_true rfl) dX4_digest_123 (fun H locs hP hD hS => ?_)
          refine lv_lstore_n (lv' := [(1, .long x80.1), (3, .int u75), (0, .ref (a 0 0))]) hx hb dX4_digest_126 rfl hl (by decide) rfl (fun ls hl => ?_)
          refine lv_iinc (v := (u75 + (1 : Int32))) (lv' := [(3, .int (u75 + (1 : Int32))), (1, .long x80.1), (0, .ref (a 0 0))]) hx hb dX4_digest_127 hl (k := 1) rfl rfl (by decide) rfl (fun ls hl => ?_)
          refine lv_goto (tgt := 109) hx hb dX4_digest_130 (by decide) ?_
          obtain rfl := Option.some.inj hR
          exact ih6 _ rfl _ _ _ hP hD hS (lv_sub hl [0, 1, 2] rfl)
      refine kk_loop (g := g) (A := A) (fun (st : Int64 × Int32) => (w_F g a x12.2 ++ w_H g (a 0 2) h V)) (fun (st : Int64 × Int32) => [(3, .int st.2), (1, .long st.1), (0, .ref (a 0 0))]) 59 (nL := 5) hq52 (fun st xb51 hR ih4 hX4 => ?_) hP hD hS (lv_sub hl [0, 1, 2] rfl)
      clear hP hD hS hl
      obtain ⟨u49, u50⟩ := st
      intro H locs ls hP hD hS hl
      replace hR : fX4_digest_b59 n x12 u49 u50 = some xb51 := hR
      replace hP : va_P g.1 vwCl (w_F g a x12.2 ++ w_H g (a 0 2) h V) H := hP
      replace hD : va_D A (w_F g a x12.2 ++ w_H g (a 0 2) h V) := hD
      replace hl : lv_has ls 5 [(3, .int u50), (1, .long u49), (0, .ref (a 0 0))] := hl
      unfold fX4_digest_b59 at hR
      refine lv_iload_n hx hb dX4_digest_59 rfl (lv_at hl 0 rfl) ?_
      refine lv_aload_n hx hb dX4_digest_60 rfl (lv_at hl 2 rfl) ?_
      refine va_get (ci := 4) (C := RX4) (T := TX4) (N := 7) hx hb hts hw4 hown hK hP 0 rfl rfl 0 (by decide) hl1 (fun _ h9 => h9) rfl dX4_digest_61 ?_
      refine va_get (ci := 2) (C := RX2) (T := TX2) (N := 11) hx hb hts hw2 hown hK hP 2 rfl rfl 5 (by decide) hl3 (fun _ h9 => h9) rfl dX4_digest_64 ?_
      refine lv_icmp_ge (tgt := 107) hx hb dX4_digest_67 (by decide) (fun c53 => ?_) (fun c53 => ?_)
      · replace hR := (if_pos c53).symm.trans hR
        obtain rfl := Option.some.inj hR
        obtain rfl := hX4 _ rfl
        exact hj52 _ _ _ hP hD hS (lv_sub hl [1, 2] rfl)
      · replace hR := (if_neg c53).symm.trans hR
        refine lv_iconst (v := (0 : Int32)) hx hb dX4_digest_70 (by decide) ?_
        refine lv_istore (lv' := [(4, .int (0 : Int32)), (3, .int u50), (1, .long u49), (0, .ref (a 0 0))]) hx hb dX4_digest_71 hl (by decide) rfl (fun ls hl => ?_)
        obtain ⟨x64, hq64, hR⟩ := kk_bd_el hR
        refine kk_cut (g := g) (A := A) (w' := (w_F g a x12.2 ++ w_H g (a 0 2) h V)) (nL := 5) (lv := [(3, .int u50), (1, .long x64), (0, .ref (a 0 0))]) (pcJ := 101) (st := []) (fun H locs ls hP hD hS hl => ?_) (fun hj64 => ?_)
        · refine lv_iinc (v := (u50 + (1 : Int32))) (lv' := [(3, .int (u50 + (1 : Int32))), (1, .long x64), (0, .ref (a 0 0))]) hx hb dX4_digest_101 hl (k := 0) rfl rfl (by decide) rfl (fun ls hl => ?_)
          refine lv_goto (tgt := 59) hx hb dX4_digest_104 (by decide) ?_
          obtain rfl := Option.some.inj hR
          exact ih4 _ rfl _ _ _ hP hD hS (lv_sub hl [0, 1, 2] rfl)
        refine kk_loop (g := g) (A := A) (fun (st : Int64 × Int32) => (w_F g a x12.2 ++ w_H g (a 0 2) h V)) (fun (st : Int64 × Int32) => [(4, .int st.2), (3, .int u50), (1, .long st.1), (0, .ref (a 0 0))]) 73 (nL := 5) hq64 (fun st xb63 hR ih5 hX5 => ?_) hP hD hS (lv_sub hl [0, 1, 2, 3] rfl)
        clear hP hD hS hl
        obtain ⟨u61, u62⟩ := st
        intro H locs ls hP hD hS hl
        replace hR : fX4_digest_b73 n x12 u50 u61 u62 = some xb63 := hR
        replace hP : va_P g.1 vwCl (w_F g a x12.2 ++ w_H g (a 0 2) h V) H := hP
        replace hD : va_D A (w_F g a x12.2 ++ w_H g (a 0 2) h V) := hD
        replace hl : lv_has ls 5 [(4, .int u62), (3, .int u50), (1, .long u61), (0, .ref (a 0 0))] := hl
        unfold fX4_digest_b73 at hR
        refine lv_iload hx hb dX4_digest_73 (lv_at hl 0 rfl) ?_
        refine lv_iconst (v := (3 : Int32)) hx hb dX4_digest_75 (by decide) ?_
        refine lv_icmp_ge (tgt := 101) hx hb dX4_digest_76 (by decide) (fun c65 => ?_) (fun c65 => ?_)
        · replace hR := (if_pos c65).symm.trans hR
          obtain rfl := Option.some.inj hR
          obtain rfl := hX5 _ rfl
          exact hj64 _ _ _ hP hD hS (lv_sub hl [1, 2, 3] rfl)
        · replace hR := (if_neg c65).symm.trans hR
          refine lv_lload_n hx hb dX4_digest_79 rfl (lv_at hl 2 rfl) ?_
          refine lv_aload_n hx hb dX4_digest_80 rfl (lv_at hl 3 rfl) ?_
          refine va_get (ci := 4) (C := RX4) (T := TX4) (N := 7) hx hb hts hw4 hown hK hP 0 rfl rfl 0 (by decide) hl1 (fun _ h9 => h9) rfl dX4_digest_81 ?_
          refine lv_iload_n hx hb dX4_digest_84 rfl (lv_at hl 1 rfl) ?_
          refine lv_iload hx hb dX4_digest_85 (lv_at hl 0 rfl) ?_
          obtain ⟨x66, hq66, hR⟩ := kk_bd_el hR
          refine kk_call_Vi (w' := (w_F g a x12.2 ++ w_H g (a 0 2) h V)) (As := [.int u50, .int u62]) (rest := [.long u61]) 2 2 hC (sX2_bridgeProperty l g n (a 1) (x12.2 1) u50 u62 x66 hq66) (cwV 2 hts gX4_digest_X2_bridgeProperty rfl rfl rfl (by decide +kernel) ⟨Nat.le_of_ble_eq_true rfl, Nat.le_of_ble_eq_true rfl⟩) hK hP hD hS hA [2, 3, 4, 5, 6, 7, 8, 9, 10, 11] (kk_ml 24 rfl (by decide +kernel) (kk_ml 23 rfl (by decide +kernel) (kk_ml 22 rfl (by decide +kernel) (kk_ml 12 rfl (by decide +kernel) (kk_mr (js := [0, 1, 2, 3, 4, 5, 6, 7, 8, 9]) 2 rfl (by decide +kernel) (kk_m0 10 (by decide +kernel) rfl)))))) (by decide +kernel) rfl (kk_sl 24 rfl (by decide +kernel) (kk_sl 23 rfl (by decide +kernel) (kk_sl 22 rfl (by decide +kernel) (kk_sl 12 rfl (by decide +kernel) (kk_sr (js := [0, 1, 2, 3, 4, 5, 6, 7, 8, 9]) 2 rfl (by decide +kernel) (kk_s0 10 (by decide +kernel) rfl rfl)))))) rfl rfl rfl rfl rfl hl.1 (Nat.le_of_ble_eq_true rfl) dX4_digest_87 (fun H locs hP hD hS => ?_)
          refine lv_i2l (v := x66.toInt64) hx hb dX4_digest_90 rfl ?_
          obtain ⟨x67, hq67, hR⟩ := kk_bd_el hR
          refine kk_call_Sl (w' := (w_F g a x12.2 ++ w_H g (a 0 2) h V)) (As := [.long u61, .long x66.toInt64]) (rest := []) hC (sX4_mixed l g n   u61 x66.toInt64 x67 hq67) (va_cwS 2 hts gX4_digest_X4_mixed rfl rfl rfl (by decide +kernel) ⟨Nat.le_of_ble_eq_true rfl, Nat.le_of_ble_eq_true rfl⟩) hK hP hD hS hA [] rfl (by decide +kernel) rfl rfl rfl rfl hl.1 (Nat.le_of_ble_eq_true rfl) dX4_digest_91 (fun H locs hP hD hS => ?_)
          refine lv_lstore_n (lv' := [(1, .long x67), (4, .int u62), (3, .int u50), (0, .ref (a 0 0))]) hx hb dX4_digest_94 rfl hl (by decide) rfl (fun ls hl => ?_)
          refine lv_iinc (v := (u62 + (1 : Int32))) (lv' := [(4, .int (u62 + (1 : Int32))), (1, .long x67), (3, .int u50), (0, .ref (a 0 0))]) hx hb dX4_digest_95 hl (k := 1) rfl rfl (by decide) rfl (fun ls hl => ?_)
          refine lv_goto (tgt := 73) hx hb dX4_digest_98 (by decide) ?_
          obtain rfl := Option.some.inj hR
          exact ih5 _ rfl _ _ _ hP hD hS (lv_sub hl [0, 2, 1, 3] rfl)
    refine kk_loop (g := g) (A := A) (fun (st : Int64 × Int32) => (w_F g a x12.2 ++ w_H g (a 0 2) h V)) (fun (st : Int64 × Int32) => [(3, .int st.2), (1, .long st.1), (0, .ref (a 0 0))]) 31 (nL := 5) hq26 (fun st xb25 hR ih2 hX2 => ?_) hP hD hS (lv_sub hl [0, 1, 2] rfl)
    clear hP hD hS hl
    obtain ⟨u23, u24⟩ := st
    intro H locs ls hP hD hS hl
    replace hR : fX4_digest_b31 n x12 u23 u24 = some xb25 := hR
    replace hP : va_P g.1 vwCl (w_F g a x12.2 ++ w_H g (a 0 2) h V) H := hP
    replace hD : va_D A (w_F g a x12.2 ++ w_H g (a 0 2) h V) := hD
    replace hl : lv_has ls 5 [(3, .int u24), (1, .long u23), (0, .ref (a 0 0))] := hl
    unfold fX4_digest_b31 at hR
    refine lv_iload_n hx hb dX4_digest_31 rfl (lv_at hl 0 rfl) ?_
    refine lv_iconst (v := (4 : Int32)) hx hb dX4_digest_32 (by decide) ?_
    refine lv_icmp_ge (tgt := 57) hx hb dX4_digest_33 (by decide) (fun c27 => ?_) (fun c27 => ?_)
    · replace hR := (if_pos c27).symm.trans hR
      obtain rfl := Option.some.inj hR
      obtain rfl := hX2 _ rfl
      exact hj26 _ _ _ hP hD hS (lv_sub hl [1, 2] rfl)
    · replace hR := (if_neg c27).symm.trans hR
      refine lv_lload_n hx hb dX4_digest_36 rfl (lv_at hl 1 rfl) ?_
      refine lv_aload_n hx hb dX4_digest_37 rfl (lv_at hl 2 rfl) ?_
      refine va_get (ci := 4) (C := RX4) (T := TX4) (N := 7) hx hb hts hw4 hown hK hP 0 rfl rfl 0 (by decide) hl1 (fun _ h9 => h9) rfl dX4_digest_38 ?_
      refine va_get (ci := 2) (C := RX2) (T := TX2) (N := 11) hx hb hts hw2 hown hK hP 2 rfl rfl 8 (by decide) hl2 (fun _ h9 => h9) rfl dX4_digest_41 ?_
      refine lv_iload_n hx hb dX4_digest_44 rfl (lv_at hl 0 rfl) ?_
      obtain ⟨hi28, hR⟩ := kk_ck_el hR
      refine va_iald hx hb hK hP 9 0 rfl rfl hi28 dX4_digest_45 ?_
      refine lv_i2l (v := ((x12.2 1 8) u24.toNatClampNeg).toInt64) hx hb dX4_digest_46 rfl ?_
      obtain ⟨x29, hq29, hR⟩ := kk_bd_el hR
      refine kk_call_Sl (w' := (w_F g a x12.2 ++ w_H g (a 0 2) h V)) (As := [.long u23, .long ((x12.2 1 8) u24.toNatClampNeg).toInt64]) (rest := []) hC (sX4_mixed l g n   u23 ((x12.2 1 8) u24.toNatClampNeg).toInt64 x29 hq29) (va_cwS 2 hts gX4_digest_X4_mixed rfl rfl rfl (by decide +kernel) ⟨Nat.le_of_ble_eq_true rfl, Nat.le_of_ble_eq_true rfl⟩) hK hP hD hS hA [] rfl (by decide +kernel) rfl rfl rfl rfl hl.1 (Nat.le_of_ble_eq_true rfl) dX4_digest_47 (fun H locs hP hD hS => ?_)
      refine lv_lstore_n (lv' := [(1, .long x29), (3, .int u24), (0, .ref (a 0 0))]) hx hb dX4_digest_50 rfl hl (by decide) rfl (fun ls hl => ?_)
      refine lv_iinc (v := (u24 + (1 : Int32))) (lv' := [(3, .int (u24 + (1 : Int32))), (1, .long x29), (0, .ref (a 0 0))]) hx hb dX4_digest_51 hl (k := 1) rfl rfl (by decide) rfl (fun ls hl => ?_)
      refine lv_goto (tgt := 31) hx hb dX4_digest_54 (by decide) ?_
      obtain rfl := Option.some.inj hR
      exact ih2 _ rfl _ _ _ hP hD hS (lv_sub hl [0, 1, 2] rfl)
  refine kk_loop (g := g) (A := A) (fun (st : Int64 × Int32 × St2) => (w_F g a st.2.2 ++ w_H g (a 0 2) h V)) (fun (st : Int64 × Int32 × St2) => [(3, .int st.2.1), (1, .long st.1), (0, .ref (a 0 0))]) 6 (nL := 5) hq12 (fun st xb11 hR ih1 hX1 => ?_) hP hD hS (lv_sub hl [0, 1, 2] rfl)
  clear hP hD hS hl
  obtain ⟨u8, u9, G10⟩ := st
  intro H locs ls hP hD hS hl
  replace hR : fX4_digest_b6 n V u8 u9 G10 = some xb11 := hR
  replace hP : va_P g.1 vwCl (w_F g a G10 ++ w_H g (a 0 2) h V) H := hP
  replace hD : va_D A (w_F g a G10 ++ w_H g (a 0 2) h V) := hD
  replace hl : lv_has ls 5 [(3, .int u9), (1, .long u8), (0, .ref (a 0 0))] := hl
  unfold fX4_digest_b6 at hR
  refine lv_iload_n hx hb dX4_digest_6 rfl (lv_at hl 0 rfl) ?_
  refine lv_bipush (v := (9 : Int32)) hx hb dX4_digest_7 (by decide) ?_
  refine lv_icmp_ge (tgt := 29) hx hb dX4_digest_9 (by decide) (fun c13 => ?_) (fun c13 => ?_)
  · replace hR := (if_pos c13).symm.trans hR
    obtain rfl := Option.some.inj hR
    obtain rfl := hX1 _ rfl
    exact hj12 _ _ _ hP hD hS (lv_sub hl [1, 2] rfl)
  · replace hR := (if_neg c13).symm.trans hR
    refine lv_lload_n hx hb dX4_digest_12 rfl (lv_at hl 1 rfl) ?_
    refine lv_aload_n hx hb dX4_digest_13 rfl (lv_at hl 2 rfl) ?_
    refine lv_iload_n hx hb dX4_digest_14 rfl (lv_at hl 0 rfl) ?_
    obtain ⟨x14, hq14, hR⟩ := kk_bd_el hR
    refine kk_call_Vi (w' := (w_F g a x14.2 ++ w_H g (a 0 2) h V)) (As := [.int u9]) (rest := [.long u8]) 0 4 hC (sX4_number l g n a h G10 V u9 x14 hq14) (cwV 1 hts gX4_digest_X4_number rfl rfl rfl (by decide +kernel) ⟨Nat.le_of_ble_eq_true rfl, Nat.le_of_ble_eq_true rfl⟩) hK hP hD hS hA [0, 1, 2, 3, 4, 5, 6, 7, 8, 9, 10, 11, 12, 13, 14, 15, 16, 17, 18, 19, 20, 21, 22, 23, 24, 25, 26, 27, 28, 29, 30, 31, 32, 33, 34, 35, 36, 37, 38, 39, 40, 41, 42, 43, 44, 45, 46, 47, 48, 49, 50, 51, 52, 53, 54, 55, 56, 57, 58, 59, 60, 61, 62, 63, 64, 65, 66, 67, 68, 69, 70, 71, 72, 73, 74, 75, 76, 77, 78, 79, 80, 81, 82, 83, 84, 85] (kk_m2 (is1 := [0, 1, 2, 3, 4, 5, 6, 7, 8, 9, 10, 11, 12, 13, 14, 15, 16, 17, 18, 19, 20, 21, 22, 23]) rfl (kk_ml 24 rfl (by decide +kernel) (kk_m0 24 (by decide +kernel) rfl)) (kk_mr (js := [0, 1, 2, 3, 4, 5, 6, 7, 8, 9, 10, 11, 12, 13, 14, 15, 16, 17, 18, 19, 20, 21, 22, 23, 24, 25, 26, 27, 28, 29, 30, 31, 32, 33, 34, 35, 36, 37, 38, 39, 40, 41, 42, 43, 44, 45, 46, 47, 48, 49, 50, 51, 52, 53, 54, 55, 56, 57, 58, 59, 60, 61]) 24 rfl (by decide +kernel) (kk_m0 62 (by decide +kernel) rfl))) (by decide +kernel) rfl (kk_set2 (is1 := [0, 1, 2, 3, 4, 5, 6, 7, 8, 9, 10, 11, 12, 13, 14, 15, 16, 17, 18, 19, 20, 21, 22, 23]) rfl rfl (kk_sl 24 rfl (by decide +kernel) (kk_s0 24 (by decide +kernel) rfl rfl)) (kk_sr (js := [0, 1, 2, 3, 4, 5, 6, 7, 8, 9, 10, 11, 12, 13, 14, 15, 16, 17, 18, 19, 20, 21, 22, 23, 24, 25, 26, 27, 28, 29, 30, 31, 32, 33, 34, 35, 36, 37, 38, 39, 40, 41, 42, 43, 44, 45, 46, 47, 48, 49, 50, 51, 52, 53, 54, 55, 56, 57, 58, 59, 60, 61]) 24 rfl (by decide +kernel) (kk_s0 62 (by decide +kernel) rfl rfl))) rfl rfl rfl rfl rfl hl.1 (Nat.le_of_ble_eq_true rfl) dX4_digest_15 (fun H locs hP hD hS => ?_)
    refine lv_i2l (v := x14.1.toInt64) hx hb dX4_digest_18 rfl ?_
    obtain ⟨x15, hq15, hR⟩ := kk_bd_el hR
    refine kk_call_Sl (w' := (w_F g a x14.2 ++ w_H g (a 0 2) h V)) (As := [.long u8, .long x14.1.toInt64]) (rest := []) hC (sX4_mixed l g n   u8 x14.1.toInt64 x15 hq15) (va_cwS 2 hts gX4_digest_X4_mixed rfl rfl rfl (by decide +kernel) ⟨Nat.le_of_ble_eq_true rfl, Nat.le_of_ble_eq_true rfl⟩) hK hP hD hS hA [] rfl (by decide +kernel) rfl rfl rfl rfl hl.1 (Nat.le_of_ble_eq_true rfl) dX4_digest_19 (fun H locs hP hD hS => ?_)
    refine lv_lstore_n (lv' := [(1, .long x15), (3, .int u9), (0, .ref (a 0 0))]) hx hb dX4_digest_22 rfl hl (by decide) rfl (fun ls hl => ?_)
    refine lv_iinc (v := (u9 + (1 : Int32))) (lv' := [(3, .int (u9 + (1 : Int32))), (1, .long x15), (0, .ref (a 0 0))]) hx hb dX4_digest_23 hl (k := 1) rfl rfl (by decide) rfl (fun ls hl => ?_)
    refine lv_goto (tgt := 6) hx hb dX4_digest_26 (by decide) ?_
    obtain rfl := Option.some.inj hR
    exact ih1 _ rfl _ _ _ hP hD hS (lv_sub hl [0, 1, 2] rfl)
set_option maxHeartbeats 8000000 in
set_option maxRecDepth 100000 in
theorem sJxe99ae_isNaN_b9ae7 (l : Launch) (g : kG) (n : Nat)  (v0 : UInt64) (r : Int32) (hR : fJxe99ae_isNaN_b9ae7 n v0 = some r) : kSp l g yJxe99ae_isNaN_b9ae7 wsJxe99ae_isNaN_b9ae7 ({ frames := 0, cells := 0, slots := 0, locals := 0 }) [.double v0] ([] : va_W) (kQi g ([] : va_W) r) := by
  refine kSp.of (cc := cJxe99ae_isNaN_b9ae7) (maxL := 2) (ret := (some .boolean)) (by decide) rfl (Nat.le_of_ble_eq_true rfl) ?_
  intro p e s m args below meth c ls A hC hr hlocks hA hK hl hP hD hS
  replace hC : CallFix p m c cJxe99ae_isNaN_b9ae7 2 s args wsJxe99ae_isNaN_b9ae7 RJxe99ae := hC
  obtain ⟨hx, hb, hml, hown, hts⟩ := id hC
  replace hl : lv_has ls 2 [(0, .double v0)] := hl
  unfold fJxe99ae_isNaN_b9ae7 at hR
  refine lv_dload_n hx hb dJxe99ae_isNaN_b9ae7_0 rfl (lv_at hl 0 rfl) ?_
  refine lv_dload_n hx hb dJxe99ae_isNaN_b9ae7_1 rfl (lv_at hl 0 rfl) ?_
  refine lv_dcmp hx hb dJxe99ae_isNaN_b9ae7_2 ?_
  refine lv_if_eq (tgt := 10) hx hb dJxe99ae_isNaN_b9ae7_3 (by decide) (fun c1 => ?_) (fun c1 => ?_)
  · replace hR := (if_pos c1).symm.trans hR
    refine lv_iconst (v := (0 : Int32)) hx hb dJxe99ae_isNaN_b9ae7_10 (by decide) ?_
    obtain rfl := Option.some.inj hR
    exact kk_ret_z hC hr hlocks hK hP hD hS dJxe99ae_isNaN_b9ae7_11 (by decide) rfl
  · replace hR := (if_neg c1).symm.trans hR
    refine lv_iconst (v := (1 : Int32)) hx hb dJxe99ae_isNaN_b9ae7_6 (by decide) ?_
    refine lv_goto (tgt := 11) hx hb dJxe99ae_isNaN_b9ae7_7 (by decide) ?_
    obtain rfl := Option.some.inj hR
    exact kk_ret_z hC hr hlocks hK hP hD hS dJxe99ae_isNaN_b9ae7_11 (by decide) rfl
set_option maxHeartbeats 8000000 in
set_option maxRecDepth 100000 in
theorem sJxe99ae_doubleToLongBits_ccdee (l : Launch) (g : kG) (n : Nat)  (v0 : UInt64) (r : Int64) (hR : fJxe99ae_doubleToLongBits_ccdee n v0 = some r) : kSp l g yJxe99ae_doubleToLongBits_ccdee wsJxe99ae_doubleToLongBits_ccdee ({ frames := 1, cells := 0, slots := 0, locals := 23 }) [.double v0] ([] : va_W) (kQl g ([] : va_W) r) := by
  refine kSp.of (cc := cJxe99ae_doubleToLongBits_ccdee) (maxL := 2) (ret := (some .long)) (by decide) rfl (Nat.le_of_ble_eq_true rfl) ?_
  intro p e s m args below meth c ls A hC hr hlocks hA hK hl hP hD hS
  replace hC : CallFix p m c cJxe99ae_doubleToLongBits_ccdee 2 s args wsJxe99ae_doubleToLongBits_ccdee RJxe99ae := hC
  obtain ⟨hx, hb, hml, hown, hts⟩ := id hC
  replace hl : lv_has ls 2 [(0, .double v0)] := hl
  unfold fJxe99ae_doubleToLongBits_ccdee at hR
  have hl0 := hts (.constantLong RJxe99ae 137 9221120237041090560) (by decide +kernel)
  have hl1 := hts (.methodLink RJxe99ae 134 ⟨"java/lang/Double", "doubleToRawLongBits", "(D)J"⟩) (by decide +kernel)
  have hl2 := hts (.native ⟨"java/lang/Double", "doubleToRawLongBits", "(D)J"⟩) (by decide +kernel)
  have hl3 := hts (.static ⟨"java/lang/Double", "doubleToRawLongBits", "(D)J"⟩) (by decide +kernel)
  have hl4 := hts (.initialized "java/lang/Double") (by decide +kernel)
  refine lv_dload_n hx hb dJxe99ae_doubleToLongBits_ccdee_0 rfl (lv_at hl 0 rfl) ?_
  obtain ⟨x1, hq1, hR⟩ := kk_bd_el hR
  refine kk_call_Si (w' := ([] : va_W)) (As := [.double v0]) (rest := []) hC (sJxe99ae_isNaN_b9ae7 l g n   v0 x1 hq1) (va_cwS 1 hts gJxe99ae_doubleToLongBits_ccdee_Jxe99ae_isNaN_b9ae7 rfl rfl rfl (by decide +kernel) ⟨Nat.le_of_ble_eq_true rfl, Nat.le_of_ble_eq_true rfl⟩) hK hP hD hS hA [] rfl (by decide +kernel) rfl rfl rfl rfl hl.1 (Nat.le_of_ble_eq_true rfl) dJxe99ae_doubleToLongBits_ccdee_1 (fun H locs hP hD hS => ?_)
  refine lv_if_ne (tgt := 12) hx hb dJxe99ae_doubleToLongBits_ccdee_4 (by decide) (fun c2 => ?_) (fun c2 => ?_)
  · replace hR := (if_neg c2).symm.trans hR
    refine lv_ldc2 (v := (9221120237041090560 : Int64)) hx hb hown hl0 dJxe99ae_doubleToLongBits_ccdee_12 ?_
    obtain rfl := Option.some.inj hR
    exact kk_ret_l hC hr hlocks hK hP hD hS dJxe99ae_doubleToLongBits_ccdee_15 rfl
  · replace hR := (if_pos c2).symm.trans hR
    refine lv_dload_n hx hb dJxe99ae_doubleToLongBits_ccdee_7 rfl (lv_at hl 0 rfl) ?_
    refine vn_d2l hx hb (hml.trans hl.1.symm) hown hl1 hl2 hl3 hl4 (Nat.le_of_ble_eq_true rfl) (Nat.le_of_ble_eq_true rfl) dJxe99ae_doubleToLongBits_ccdee_8 ?_
    obtain rfl := Option.some.inj hR
    exact kk_ret_l hC hr hlocks hK hP hD hS dJxe99ae_doubleToLongBits_ccdee_11 rfl
set_option maxHeartbeats 8000000 in
set_option maxRecDepth 100000 in
theorem sX5_smooth (l : Launch) (g : kG) (n : Nat) (a : Nat → Nat) (M : St1) (r : UInt64) (hR : fX5_smooth n M = some r) : kSp l g yX5_smooth wsX5_smooth ({ frames := 5, cells := 0, slots := 0, locals := 112 }) [.ref (a 0)] (w_M g a M) (kQd g (w_M g a M) r) := by
  refine kSp.of (cc := cX5_smooth) (maxL := 1) (ret := (some .double)) (by decide) rfl (Nat.le_of_ble_eq_true rfl) ?_
  intro p e s m args below meth c ls A hC hr hlocks hA hK hl hP hD hS
  replace hC : CallFix p m c cX5_smooth 1 s args wsX5_smooth RX5 := hC
  obtain ⟨hx, hb, hml, hown, hts⟩ := id hC
  replace hl : lv_has ls 1 [(0, .ref (a 0))] := hl
  unfold fX5_smooth at hR
  have hw5 : ∀ w ∈ wsX50, w ∈ wsX5_smooth := by decide +kernel
  have hl0 := hts (.fieldLink RX5 7 "FloatOrderModel" "now" "[I") (by decide +kernel)
  refine lv_aload_n hx hb dX5_smooth_0 rfl (lv_at hl 0 rfl) ?_
  refine va_get (ci := 5) (C := RX5) (T := TX5) (N := 12) hx hb hts hw5 hown hK hP 0 rfl rfl 0 (by decide) hl0 (fun _ h9 => h9) rfl dX5_smooth_1 ?_
  refine lv_iconst (v := (4 : Int32)) hx hb dX5_smooth_4 (by decide) ?_
  refine va_iald hx hb hK hP 1 0 rfl rfl (kk_in 4 62 (by decide) (by decide) rfl) dX5_smooth_5 ?_
  refine lv_if_ne (tgt := 13) hx hb dX5_smooth_6 (by decide) (fun c1 => ?_) (fun c1 => ?_)
  · replace hR := (if_neg c1).symm.trans hR
    refine lv_aload_n hx hb dX5_smooth_13 rfl (lv_at hl 0 rfl) ?_
    refine va_get (ci := 5) (C := RX5) (T := TX5) (N := 12) hx hb hts hw5 hown hK hP 0 rfl rfl 0 (by decide) hl0 (fun _ h9 => h9) rfl dX5_smooth_14 ?_
    refine lv_iconst (v := (4 : Int32)) hx hb dX5_smooth_17 (by decide) ?_
    refine va_iald hx hb hK hP 1 0 rfl rfl (kk_in 4 62 (by decide) (by decide) rfl) dX5_smooth_18 ?_
    refine lv_aload_n hx hb dX5_smooth_19 rfl (lv_at hl 0 rfl) ?_
    refine lv_iconst (v := (5 : Int32)) hx hb dX5_smooth_20 (by decide) ?_
    obtain ⟨x2, hq2, hR⟩ := kk_bd_el hR
    refine kk_call_Vi (w' := (w_M g a M)) (As := [.int (5 : Int32)]) (rest := [.int ((M 0) (4 : Int32).toNatClampNeg)]) 0 5 hC (sX5_overFloats l g n a M (5 : Int32) x2 hq2) (cwV 1 hts gX5_smooth_X5_overFloats rfl rfl rfl (by decide +kernel) ⟨Nat.le_of_ble_eq_true rfl, Nat.le_of_ble_eq_true rfl⟩) hK hP hD hS hA [0, 1, 2, 3, 4, 5, 6] rfl (by decide +kernel) rfl rfl rfl rfl rfl rfl rfl hl.1 (Nat.le_of_ble_eq_true rfl) dX5_smooth_21 (fun H locs hP hD hS => ?_)
    refine lv_isub hx hb dX5_smooth_24 ?_
    refine lv_i2d hx hb dX5_smooth_25 ?_
    refine lv_aload_n hx hb dX5_smooth_26 rfl (lv_at hl 0 rfl) ?_
    refine va_get (ci := 5) (C := RX5) (T := TX5) (N := 12) hx hb hts hw5 hown hK hP 0 rfl rfl 0 (by decide) hl0 (fun _ h9 => h9) rfl dX5_smooth_27 ?_
    refine lv_iconst (v := (4 : Int32)) hx hb dX5_smooth_30 (by decide) ?_
    refine va_iald hx hb hK hP 1 0 rfl rfl (kk_in 4 62 (by decide) (by decide) rfl) dX5_smooth_31 ?_
    refine lv_i2d hx hb dX5_smooth_32 ?_
    obtain ⟨hn3, hR⟩ := kk_cn_el hR
    refine lv_ddiv hx hb dX5_smooth_33 hn3 ?_
    obtain rfl := Option.some.inj hR
    exact kk_ret_d hC hr hlocks hK hP hD hS dX5_smooth_34 rfl
  · replace hR := (if_pos c1).symm.trans hR
    refine lv_dconst1 hx hb dX5_smooth_9 ?_
    refine lv_goto (tgt := 34) hx hb dX5_smooth_10 (by decide) ?_
    obtain rfl := Option.some.inj hR
    exact kk_ret_d hC hr hlocks hK hP hD hS dX5_smooth_34 rfl
set_option maxHeartbeats 8000000 in
set_option maxRecDepth 100000 in
theorem sX5_smoothness (l : Launch) (g : kG) (n : Nat) (a : Nat → Nat) (M : St1) (r : UInt64 × St1) (hR : fX5_smoothness n M = some r) : kSp l g yX5_smoothness wsX5_smoothness ({ frames := 6, cells := 0, slots := 0, locals := 132 }) [.ref (a 0)] (w_M g a M) (kQd g (w_M g a r.2) r.1) := by
  refine kSp.of (cc := cX5_smoothness) (maxL := 1) (ret := (some .double)) (by decide) rfl (Nat.le_of_ble_eq_true rfl) ?_
  intro p e s m args below meth c ls A hC hr hlocks hA hK hl hP hD hS
  replace hC : CallFix p m c cX5_smoothness 1 s args wsX5_smoothness RX5 := hC
  obtain ⟨hx, hb, hml, hown, hts⟩ := id hC
  replace hl : lv_has ls 1 [(0, .ref (a 0))] := hl
  unfold fX5_smoothness at hR
  have hw5 : ∀ w ∈ wsX50, w ∈ wsX5_smoothness := by decide +kernel
  have hl0 := hts (.fieldLink RX5 28 "FloatOrderModel" "thrown" "I") (by decide +kernel)
  refine lv_aload_n hx hb dX5_smoothness_0 rfl (lv_at hl 0 rfl) ?_
  refine lv_iconst (v := (0 : Int32)) hx hb dX5_smoothness_1 (by decide) ?_
  obtain ⟨M1, eM1, hR⟩ := kk_nm_el hR
  refine kk_put (w' := (w_M g a M1)) (ci := 5) (C := RX5) (T := TX5) (N := 12) (ty := .int) (v := .int (0 : Int32)) hC hw5 tyX5 tyX5_ok nmX5 hK hP hD hS 0 rfl rfl 6 (by decide) hl0 rfl (by decide +kernel) rfl rfl (Nat.le_of_ble_eq_true rfl) (by rw [eM1]; rfl) dX5_smoothness_2 rfl (fun H locs hP hD hS => ?_)
  refine lv_aload_n hx hb dX5_smoothness_5 rfl (lv_at hl 0 rfl) ?_
  obtain ⟨x2, hq2, hR⟩ := kk_bd_el hR
  refine kk_call_Vd (w' := (w_M g a M1)) (As := []) (rest := []) 0 5 hC (sX5_smooth l g n a M1  x2 hq2) (cwV 0 hts gX5_smoothness_X5_smooth rfl rfl rfl (by decide +kernel) ⟨Nat.le_of_ble_eq_true rfl, Nat.le_of_ble_eq_true rfl⟩) hK hP hD hS hA [0, 1, 2, 3, 4, 5, 6] rfl (by decide +kernel) rfl rfl rfl rfl rfl rfl rfl hl.1 (Nat.le_of_ble_eq_true rfl) dX5_smoothness_6 (fun H locs hP hD hS => ?_)
  obtain rfl := Option.some.inj hR
  exact kk_ret_d hC hr hlocks hK hP hD hS dX5_smoothness_9 rfl
set_option maxHeartbeats 8000000 in
set_option maxRecDepth 100000 in
theorem sX5_digest (l : Launch) (g : kG) (n : Nat) (a : Nat → Nat) (M : St1) (r : Int64 × St1) (hR : fX5_digest n M = some r) : kSp l g yX5_digest wsX5_digest ({ frames := 7, cells := 0, slots := 0, locals := 165 }) [.ref (a 0)] (w_M g a M) (kQl g (w_M g a r.2) r.1) := by
  refine kSp.of (cc := cX5_digest) (maxL := 5) (ret := (some .long)) (by decide) rfl (Nat.le_of_ble_eq_true rfl) ?_
  intro p e s m args below meth c ls A hC hr hlocks hA hK hl hP hD hS
  replace hC : CallFix p m c cX5_digest 5 s args wsX5_digest RX5 := hC
  obtain ⟨hx, hb, hml, hown, hts⟩ := id hC
  replace hl : lv_has ls 5 [(0, .ref (a 0))] := hl
  unfold fX5_digest at hR
  have hw5 : ∀ w ∈ wsX50, w ∈ wsX5_digest := by decide +kernel
  have hl0 := hts (.fieldLink RX5 28 "FloatOrderModel" "thrown" "I") (by decide +kernel)
  have hl1 := hts (.constantLong RX5 184 2971) (by decide +kernel)
  have hl2 := hts (.constantLong RX5 186 31) (by decide +kernel)
  have hl3 := hts (.fieldLink RX5 7 "FloatOrderModel" "now" "[I") (by decide +kernel)
  have hl4 := hts (.fieldLink RX5 25 "FloatOrderModel" "minutes" "[I") (by decide +kernel)
  have hl5 := hts (.fieldLink RX5 110 "FloatOrderModel" "typed" "I") (by decide +kernel)
  have hl6 := hts (.fieldLink RX5 19 "FloatOrderModel" "text" "[I") (by decide +kernel)
  refine lv_aload_n hx hb dX5_digest_0 rfl (lv_at hl 0 rfl) ?_
  refine lv_iconst (v := (0 : Int32)) hx hb dX5_digest_1 (by decide) ?_
  obtain ⟨M1, eM1, hR⟩ := kk_nm_el hR
  refine kk_put (w' := (w_M g a M1)) (ci := 5) (C := RX5) (T := TX5) (N := 12) (ty := .int) (v := .int (0 : Int32)) hC hw5 tyX5 tyX5_ok nmX5 hK hP hD hS 0 rfl rfl 6 (by decide) hl0 rfl (by decide +kernel) rfl rfl (Nat.le_of_ble_eq_true rfl) (by rw [eM1]; rfl) dX5_digest_2 rfl (fun H locs hP hD hS => ?_)
  refine lv_ldc2 (v := (2971 : Int64)) hx hb hown hl1 dX5_digest_5 ?_
  refine lv_lstore_n (lv' := [(1, .long (2971 : Int64)), (0, .ref (a 0))]) hx hb dX5_digest_8 rfl hl (by decide) rfl (fun ls hl => ?_)
  refine lv_iconst (v := (0 : Int32)) hx hb dX5_digest_9 (by decide) ?_
  refine lv_istore_n (lv' := [(3, .int (0 : Int32)), (1, .long (2971 : Int64)), (0, .ref (a 0))]) hx hb dX5_digest_10 rfl hl (by decide) rfl (fun ls hl => ?_)
  obtain ⟨x11, hq11, hR⟩ := kk_bd_el hR
  refine kk_cut (g := g) (A := A) (w' := (w_M g a x11.2)) (nL := 5) (lv := [(1, .long x11.1), (0, .ref (a 0))]) (pcJ := 36) (st := []) (fun H locs ls hP hD hS hl => ?_) (fun hj11 => ?_)
  · refine lv_iconst (v := (0 : Int32)) hx hb dX5_digest_36 (by decide) ?_
    refine lv_istore_n (lv' := [(3, .int (0 : Int32)), (1, .long x11.1), (0, .ref (a 0))]) hx hb dX5_digest_37 rfl hl (by decide) rfl (fun ls hl => ?_)
    obtain ⟨x22, hq22, hR⟩ := kk_bd_el hR
    refine kk_cut (g := g) (A := A) (w' := (w_M g a x11.2)) (nL := 5) (lv := [(1, .long x22), (0, .ref (a 0))]) (pcJ := 63) (st := []) (fun H locs ls hP hD hS hl => ?_) (fun hj22 => ?_)
    · refine lv_iconst (v := (0 : Int32)) hx hb dX5_digest_63 (by decide) ?_
      refine lv_istore_n (lv' := [(3, .int (0 : Int32)), (1, .long x22), (0, .ref (a 0))]) hx hb dX5_digest_64 rfl hl (by decide) rfl (fun ls hl => ?_)
      obtain ⟨x43, hq43, hR⟩ := kk_bd_el hR
      refine kk_cut (g := g) (A := A) (w' := (w_M g a x11.2)) (nL := 5) (lv := [(1, .long x43), (0, .ref (a 0))]) (pcJ := 111) (st := []) (fun H locs ls hP hD hS hl => ?_) (fun hj43 => ?_)
      · refine lv_iconst (v := (0 : Int32)) hx hb dX5_digest_111 (by decide) ?_
        refine lv_istore_n (lv' := [(3, .int (0 : Int32)), (1, .long x43), (0, .ref (a 0))]) hx hb dX5_digest_112 rfl hl (by decide) rfl (fun ls hl => ?_)
        obtain ⟨x99, hq99, hR⟩ := kk_bd_el hR
        refine kk_cut (g := g) (A := A) (w' := (w_M g a x99.2)) (nL := 5) (lv := [(1, .long x99.1), (0, .ref (a 0))]) (pcJ := 254) (st := []) (fun H locs ls hP hD hS hl => ?_) (fun hj99 => ?_)
        · refine lv_ldc2 (v := (31 : Int64)) hx hb hown hl2 dX5_digest_254 ?_
          refine lv_ldc2 (v := (31 : Int64)) hx hb hown hl2 dX5_digest_257 ?_
          refine lv_lload_n hx hb dX5_digest_260 rfl (lv_at hl 0 rfl) ?_
          refine lv_lmul hx hb dX5_digest_261 ?_
          refine lv_aload_n hx hb dX5_digest_262 rfl (lv_at hl 1 rfl) ?_
          obtain ⟨x136, hq136, hR⟩ := kk_bd_el hR
          refine kk_call_Vi (w' := (w_M g a x136.2)) (As := []) (rest := [.long ((31 : Int64) * x99.1), .long (31 : Int64)]) 0 5 hC (sX5_folding l g n a x99.2  x136 hq136) (cwV 0 hts gX5_digest_X5_folding rfl rfl rfl (by decide +kernel) ⟨Nat.le_of_ble_eq_true rfl, Nat.le_of_ble_eq_true rfl⟩) hK hP hD hS hA [0, 1, 2, 3, 4, 5, 6] rfl (by decide +kernel) rfl rfl rfl rfl rfl rfl rfl hl.1 (Nat.le_of_ble_eq_true rfl) dX5_digest_263 (fun H locs hP hD hS => ?_)
          refine lv_i2l (v := x136.1.toInt64) hx hb dX5_digest_266 rfl ?_
          refine lv_ladd hx hb dX5_digest_267 ?_
          refine lv_lmul hx hb dX5_digest_268 ?_
          refine lv_aload_n hx hb dX5_digest_269 rfl (lv_at hl 1 rfl) ?_
          obtain ⟨x137, hq137, hR⟩ := kk_bd_el hR
          refine kk_call_Vi (w' := (w_M g a x137.2)) (As := []) (rest := [.long ((31 : Int64) * (((31 : Int64) * x99.1) + x136.1.toInt64))]) 0 5 hC (sX5_least l g n a x136.2  x137 hq137) (cwV 0 hts gX5_digest_X5_least rfl rfl rfl (by decide +kernel) ⟨Nat.le_of_ble_eq_true rfl, Nat.le_of_ble_eq_true rfl⟩) hK hP hD hS hA [0, 1, 2, 3, 4, 5, 6] rfl (by decide +kernel) rfl rfl rfl rfl rfl rfl rfl hl.1 (Nat.le_of_ble_eq_true rfl) dX5_digest_270 (fun H locs hP hD hS => ?_)
          refine lv_i2l (v := x137.1.toInt64) hx hb dX5_digest_273 rfl ?_
          refine lv_ladd hx hb dX5_digest_274 ?_
          refine lv_lstore_n (lv' := [(1, .long (((31 : Int64) * (((31 : Int64) * x99.1) + x136.1.toInt64)) + x137.1.toInt64)), (0, .ref (a 0))]) hx hb dX5_digest_275 rfl hl (by decide) rfl (fun ls hl => ?_)
          refine lv_ldc2 (v := (31 : Int64)) hx hb hown hl2 dX5_digest_276 ?_
          refine lv_ldc2 (v := (31 : Int64)) hx hb hown hl2 dX5_digest_279 ?_
          refine lv_lload_n hx hb dX5_digest_282 rfl (lv_at hl 0 rfl) ?_
          refine lv_lmul hx hb dX5_digest_283 ?_
          refine lv_aload_n hx hb dX5_digest_284 rfl (lv_at hl 1 rfl) ?_
          obtain ⟨x138, hq138, hR⟩ := kk_bd_el hR
          refine kk_call_Vd (w' := (w_M g a x137.2)) (As := []) (rest := [.long ((31 : Int64) * (((31 : Int64) * (((31 : Int64) * x99.1) + x136.1.toInt64)) + x137.1.toInt64)), .long (31 : Int64)]) 0 5 hC (sX5_smooth l g n a x137.2  x138 hq138) (cwV 0 hts gX5_digest_X5_smooth rfl rfl rfl (by decide +kernel) ⟨Nat.le_of_ble_eq_true rfl, Nat.le_of_ble_eq_true rfl⟩) hK hP hD hS hA [0, 1, 2, 3, 4, 5, 6] rfl (by decide +kernel) rfl rfl rfl rfl rfl rfl rfl hl.1 (Nat.le_of_ble_eq_true rfl) dX5_digest_285 (fun H locs hP hD hS => ?_)
          obtain ⟨x139, hq139, hR⟩ := kk_bd_el hR
          refine kk_call_Sl (w' := (w_M g a x137.2)) (As := [.double x138]) (rest := [.long ((31 : Int64) * (((31 : Int64) * (((31 : Int64) * x99.1) + x136.1.toInt64)) + x137.1.toInt64)), .long (31 : Int64)]) hC (sJxe99ae_doubleToLongBits_ccdee l g n   x138 x139 hq139) (va_cwS 1 hts gX5_digest_Jxe99ae_doubleToLongBits_ccdee rfl rfl rfl (by decide +kernel) ⟨Nat.le_of_ble_eq_true rfl, Nat.le_of_ble_eq_true rfl⟩) hK hP hD hS hA [] rfl (by decide +kernel) rfl rfl rfl rfl hl.1 (Nat.le_of_ble_eq_true rfl) dX5_digest_288 (fun H locs hP hD hS => ?_)
          refine lv_ladd hx hb dX5_digest_291 ?_
          refine lv_lmul hx hb dX5_digest_292 ?_
          refine lv_aload_n hx hb dX5_digest_293 rfl (lv_at hl 1 rfl) ?_
          refine va_get (ci := 5) (C := RX5) (T := TX5) (N := 12) hx hb hts hw5 hown hK hP 0 rfl rfl 5 (by decide) hl5 (fun _ h9 => h9) rfl dX5_digest_294 ?_
          refine lv_i2l (v := (x137.2 5 0).toInt64) hx hb dX5_digest_297 rfl ?_
          refine lv_ladd hx hb dX5_digest_298 ?_
          refine lv_lstore_n (lv' := [(1, .long (((31 : Int64) * (((31 : Int64) * (((31 : Int64) * (((31 : Int64) * x99.1) + x136.1.toInt64)) + x137.1.toInt64)) + x139)) + (x137.2 5 0).toInt64)), (0, .ref (a 0))]) hx hb dX5_digest_299 rfl hl (by decide) rfl (fun ls hl => ?_)
          refine lv_iconst (v := (0 : Int32)) hx hb dX5_digest_300 (by decide) ?_
          refine lv_istore_n (lv' := [(3, .int (0 : Int32)), (1, .long (((31 : Int64) * (((31 : Int64) * (((31 : Int64) * (((31 : Int64) * x99.1) + x136.1.toInt64)) + x137.1.toInt64)) + x139)) + (x137.2 5 0).toInt64)), (0, .ref (a 0))]) hx hb dX5_digest_301 rfl hl (by decide) rfl (fun ls hl => ?_)
          obtain ⟨x148, hq148, hR⟩ := kk_bd_el hR
          refine kk_cut (g := g) (A := A) (w' := (w_M g a x137.2)) (nL := 5) (lv := [(1, .long x148)]) (pcJ := 330) (st := []) (fun H locs ls hP hD hS hl => ?_) (fun hj148 => ?_)
          · refine lv_lload_n hx hb dX5_digest_330 rfl (lv_at hl 0 rfl) ?_
            obtain rfl := Option.some.inj hR
            exact kk_ret_l hC hr hlocks hK hP hD hS dX5_digest_331 rfl
          refine kk_loop (g := g) (A := A) (fun (st : Int64 × Int32) => (w_M g a x137.2)) (fun (st : Int64 × Int32) => [(3, .int st.2), (1, .long st.1), (0, .ref (a 0))]) 302 (nL := 5) hq148 (fun st xb147 hR ih13 hX13 => ?_) hP hD hS (lv_sub hl [0, 1, 2] rfl)
          clear hP hD hS hl
          obtain ⟨u145, u146⟩ := st
          intro H locs ls hP hD hS hl
          replace hR : fX5_digest_b302 n x137 u145 u146 = some xb147 := hR
          replace hP : va_P g.1 vwCl (w_M g a x137.2) H := hP
          replace hD : va_D A (w_M g a x137.2) := hD
          replace hl : lv_has ls 5 [(3, .int u146), (1, .long u145), (0, .ref (a 0))] := hl
          unfold fX5_digest_b302 at hR
          refine lv_iload_n hx hb dX5_digest_302 rfl (lv_at hl 0 rfl) ?_
          refine lv_aload_n hx hb dX5_digest_303 rfl (lv_at hl 2 rfl) ?_
          refine va_get (ci := 5) (C := RX5) (T := TX5) (N := 12) hx hb hts hw5 hown hK hP 0 rfl rfl 5 (by decide) hl5 (fun _ h9 => h9) rfl dX5_digest_304 ?_
          refine lv_icmp_ge (tgt := 330) hx hb dX5_digest_307 (by decide) (fun c149 => ?_) (fun c149 => ?_)
          · replace hR := (if_pos c149).symm.trans hR
            obtain rfl := Option.some.inj hR
            obtain rfl := hX13 _ rfl
            exact hj148 _ _ _ hP hD hS (lv_sub hl [1] rfl)
          · replace hR := (if_neg c149).symm.trans hR
            refine lv_ldc2 (v := (31 : Int64)) hx hb hown hl2 dX5_digest_310 ?_
            refine lv_lload_n hx hb dX5_digest_313 rfl (lv_at hl 1 rfl) ?_
            refine lv_lmul hx hb dX5_digest_314 ?_
            refine lv_aload_n hx hb dX5_digest_315 rfl (lv_at hl 2 rfl) ?_
            refine va_get (ci := 5) (C := RX5) (T := TX5) (N := 12) hx hb hts hw5 hown hK hP 0 rfl rfl 4 (by decide) hl6 (fun _ h9 => h9) rfl dX5_digest_316 ?_
            refine lv_iload_n hx hb dX5_digest_319 rfl (lv_at hl 0 rfl) ?_
            obtain ⟨hi150, hR⟩ := kk_ck_el hR
            refine va_iald hx hb hK hP 4 0 rfl rfl hi150 dX5_digest_320 ?_
            refine lv_i2l (v := ((x137.2 4) u146.toNatClampNeg).toInt64) hx hb dX5_digest_321 rfl ?_
            refine lv_ladd hx hb dX5_digest_322 ?_
            refine lv_lstore_n (lv' := [(1, .long (((31 : Int64) * u145) + ((x137.2 4) u146.toNatClampNeg).toInt64)), (3, .int u146), (0, .ref (a 0))]) hx hb dX5_digest_323 rfl hl (by decide) rfl (fun ls hl => ?_)
            refine lv_iinc (v := (u146 + (1 : Int32))) (lv' := [(3, .int (u146 + (1 : Int32))), (1, .long (((31 : Int64) * u145) + ((x137.2 4) u146.toNatClampNeg).toInt64)), (0, .ref (a 0))]) hx hb dX5_digest_324 hl (k := 1) rfl rfl (by decide) rfl (fun ls hl => ?_)
            refine lv_goto (tgt := 302) hx hb dX5_digest_327 (by decide) ?_
            obtain rfl := Option.some.inj hR
            exact ih13 _ rfl _ _ _ hP hD hS (lv_sub hl [0, 1, 2] rfl)
        refine kk_loop (g := g) (A := A) (fun (st : Int64 × Int32 × St1) => (w_M g a st.2.2)) (fun (st : Int64 × Int32 × St1) => [(3, .int st.2.1), (1, .long st.1), (0, .ref (a 0))]) 113 (nL := 5) hq99 (fun st xb98 hR ih9 hX9 => ?_) hP hD hS (lv_sub hl [0, 1, 2] rfl)
        clear hP hD hS hl
        obtain ⟨u95, u96, M97⟩ := st
        intro H locs ls hP hD hS hl
        replace hR : fX5_digest_b113 n u95 u96 M97 = some xb98 := hR
        replace hP : va_P g.1 vwCl (w_M g a M97) H := hP
        replace hD : va_D A (w_M g a M97) := hD
        replace hl : lv_has ls 5 [(3, .int u96), (1, .long u95), (0, .ref (a 0))] := hl
        unfold fX5_digest_b113 at hR
        refine lv_iload_n hx hb dX5_digest_113 rfl (lv_at hl 0 rfl) ?_
        refine lv_aload_n hx hb dX5_digest_114 rfl (lv_at hl 2 rfl) ?_
        refine va_get (ci := 5) (C := RX5) (T := TX5) (N := 12) hx hb hts hw5 hown hK hP 0 rfl rfl 0 (by decide) hl3 (fun _ h9 => h9) rfl dX5_digest_115 ?_
        refine lv_iconst (v := (4 : Int32)) hx hb dX5_digest_118 (by decide) ?_
        refine va_iald hx hb hK hP 1 0 rfl rfl (kk_in 4 62 (by decide) (by decide) rfl) dX5_digest_119 ?_
        refine lv_icmp_ge (tgt := 254) hx hb dX5_digest_120 (by decide) (fun c100 => ?_) (fun c100 => ?_)
        · replace hR := (if_pos c100).symm.trans hR
          obtain rfl := Option.some.inj hR
          obtain rfl := hX9 _ rfl
          exact hj99 _ _ _ hP hD hS (lv_sub hl [1, 2] rfl)
        · replace hR := (if_neg c100).symm.trans hR
          refine lv_iconst (v := (0 : Int32)) hx hb dX5_digest_123 (by decide) ?_
          refine lv_istore (lv' := [(4, .int (0 : Int32)), (3, .int u96), (1, .long u95), (0, .ref (a 0))]) hx hb dX5_digest_124 hl (by decide) rfl (fun ls hl => ?_)
          obtain ⟨x109, hq109, hR⟩ := kk_bd_el hR
          refine kk_cut (g := g) (A := A) (w' := (w_M g a M97)) (nL := 5) (lv := [(3, .int u96), (1, .long x109), (0, .ref (a 0))]) (pcJ := 154) (st := []) (fun H locs ls hP hD hS hl => ?_) (fun hj109 => ?_)
          · refine lv_iconst (v := (0 : Int32)) hx hb dX5_digest_154 (by decide) ?_
            refine lv_istore (lv' := [(4, .int (0 : Int32)), (3, .int u96), (1, .long x109), (0, .ref (a 0))]) hx hb dX5_digest_155 hl (by decide) rfl (fun ls hl => ?_)
            obtain ⟨x120, hq120, hR⟩ := kk_bd_el hR
            refine kk_cut (g := g) (A := A) (w' := (w_M g a M97)) (nL := 5) (lv := [(3, .int u96), (1, .long x120), (0, .ref (a 0))]) (pcJ := 187) (st := []) (fun H locs ls hP hD hS hl => ?_) (fun hj120 => ?_)
            · refine lv_aload_n hx hb dX5_digest_187 rfl (lv_at hl 2 rfl) ?_
              refine lv_aload_n hx hb dX5_digest_188 rfl (lv_at hl 2 rfl) ?_
              refine va_get (ci := 5) (C := RX5) (T := TX5) (N := 12) hx hb hts hw5 hown hK hP 0 rfl rfl 0 (by decide) hl3 (fun _ h9 => h9) rfl dX5_digest_189 ?_
              obtain ⟨x123, hq123, hR⟩ := kk_bd_el hR
              refine kk_call_Vi (w' := (w_M g a x123.2)) (As := [.ref (a 1)]) (rest := []) 0 5 hC (sX5_endsN l g n a M97  x123 hq123) (cwV 1 hts gX5_digest_X5_ends rfl rfl rfl (by decide +kernel) ⟨Nat.le_of_ble_eq_true rfl, Nat.le_of_ble_eq_true rfl⟩) hK hP hD hS hA [0, 1, 2, 3, 4, 5, 6] rfl (by decide +kernel) rfl rfl rfl rfl rfl rfl rfl hl.1 (Nat.le_of_ble_eq_true rfl) dX5_digest_192 (fun H locs hP hD hS => ?_)
              refine lv_pop hx hb dX5_digest_195 rfl ?_
              refine lv_iconst (v := (0 : Int32)) hx hb dX5_digest_196 (by decide) ?_
              refine lv_istore (lv' := [(4, .int (0 : Int32)), (3, .int u96), (1, .long x120), (0, .ref (a 0))]) hx hb dX5_digest_197 hl (by decide) rfl (fun ls hl => ?_)
              obtain ⟨x132, hq132, hR⟩ := kk_bd_el hR
              refine kk_cut (g := g) (A := A) (w' := (w_M g a x123.2)) (nL := 5) (lv := [(3, .int u96), (1, .long x132), (0, .ref (a 0))]) (pcJ := 235) (st := []) (fun H locs ls hP hD hS hl => ?_) (fun hj132 => ?_)
              · refine lv_ldc2 (v := (31 : Int64)) hx hb hown hl2 dX5_digest_235 ?_
                refine lv_lload_n hx hb dX5_digest_238 rfl (lv_at hl 1 rfl) ?_
                refine lv_lmul hx hb dX5_digest_239 ?_
                refine lv_aload_n hx hb dX5_digest_240 rfl (lv_at hl 2 rfl) ?_
                refine lv_iload_n hx hb dX5_digest_241 rfl (lv_at hl 0 rfl) ?_
                obtain ⟨x135, hq135, hR⟩ := kk_bd_el hR
                refine kk_call_Vi (w' := (w_M g a x135.2)) (As := [.int u96]) (rest := [.long ((31 : Int64) * x132)]) 0 5 hC (sX5_best l g n a x123.2 u96 x135 hq135) (cwV 1 hts gX5_digest_X5_best rfl rfl rfl (by decide +kernel) ⟨Nat.le_of_ble_eq_true rfl, Nat.le_of_ble_eq_true rfl⟩) hK hP hD hS hA [0, 1, 2, 3, 4, 5, 6] rfl (by decide +kernel) rfl rfl rfl rfl rfl rfl rfl hl.1 (Nat.le_of_ble_eq_true rfl) dX5_digest_242 (fun H locs hP hD hS => ?_)
                refine lv_i2l (v := x135.1.toInt64) hx hb dX5_digest_245 rfl ?_
                refine lv_ladd hx hb dX5_digest_246 ?_
                refine lv_lstore_n (lv' := [(1, .long (((31 : Int64) * x132) + x135.1.toInt64)), (3, .int u96), (0, .ref (a 0))]) hx hb dX5_digest_247 rfl hl (by decide) rfl (fun ls hl => ?_)
                refine lv_iinc (v := (u96 + (1 : Int32))) (lv' := [(3, .int (u96 + (1 : Int32))), (1, .long (((31 : Int64) * x132) + x135.1.toInt64)), (0, .ref (a 0))]) hx hb dX5_digest_248 hl (k := 1) rfl rfl (by decide) rfl (fun ls hl => ?_)
                refine lv_goto (tgt := 113) hx hb dX5_digest_251 (by decide) ?_
                obtain rfl := Option.some.inj hR
                exact ih9 _ rfl _ _ _ hP hD hS (lv_sub hl [0, 1, 2] rfl)
              refine kk_loop (g := g) (A := A) (fun (st : Int64 × Int32) => (w_M g a x123.2)) (fun (st : Int64 × Int32) => [(4, .int st.2), (3, .int u96), (1, .long st.1), (0, .ref (a 0))]) 199 (nL := 5) hq132 (fun st xb131 hR ih12 hX12 => ?_) hP hD hS (lv_sub hl [0, 1, 2, 3] rfl)
              clear hP hD hS hl
              obtain ⟨u129, u130⟩ := st
              intro H locs ls hP hD hS hl
              replace hR : fX5_digest_b199 n u96 x123 u129 u130 = some xb131 := hR
              replace hP : va_P g.1 vwCl (w_M g a x123.2) H := hP
              replace hD : va_D A (w_M g a x123.2) := hD
              replace hl : lv_has ls 5 [(4, .int u130), (3, .int u96), (1, .long u129), (0, .ref (a 0))] := hl
              unfold fX5_digest_b199 at hR
              refine lv_iload hx hb dX5_digest_199 (lv_at hl 0 rfl) ?_
              refine lv_aload_n hx hb dX5_digest_201 rfl (lv_at hl 3 rfl) ?_
              refine va_get (ci := 5) (C := RX5) (T := TX5) (N := 12) hx hb hts hw5 hown hK hP 0 rfl rfl 0 (by decide) hl3 (fun _ h9 => h9) rfl dX5_digest_202 ?_
              refine lv_iconst (v := (5 : Int32)) hx hb dX5_digest_205 (by decide) ?_
              refine va_iald hx hb hK hP 1 0 rfl rfl (kk_in 5 62 (by decide) (by decide) rfl) dX5_digest_206 ?_
              refine lv_icmp_gt (tgt := 235) hx hb dX5_digest_207 (by decide) (fun c133 => ?_) (fun c133 => ?_)
              · replace hR := (if_pos c133).symm.trans hR
                obtain rfl := Option.some.inj hR
                obtain rfl := hX12 _ rfl
                exact hj132 _ _ _ hP hD hS (lv_sub hl [1, 2, 3] rfl)
              · replace hR := (if_neg c133).symm.trans hR
                refine lv_ldc2 (v := (31 : Int64)) hx hb hown hl2 dX5_digest_210 ?_
                refine lv_lload_n hx hb dX5_digest_213 rfl (lv_at hl 2 rfl) ?_
                refine lv_lmul hx hb dX5_digest_214 ?_
                refine lv_aload_n hx hb dX5_digest_215 rfl (lv_at hl 3 rfl) ?_
                refine va_get (ci := 5) (C := RX5) (T := TX5) (N := 12) hx hb hts hw5 hown hK hP 0 rfl rfl 11 (by decide) hl4 (fun _ h9 => h9) rfl dX5_digest_216 ?_
                refine lv_iconst (v := (5 : Int32)) hx hb dX5_digest_219 (by decide) ?_
                refine lv_iload_n hx hb dX5_digest_220 rfl (lv_at hl 1 rfl) ?_
                refine lv_imul hx hb dX5_digest_221 ?_
                refine lv_iload hx hb dX5_digest_222 (lv_at hl 0 rfl) ?_
                refine lv_iadd hx hb dX5_digest_224 ?_
                obtain ⟨hi134, hR⟩ := kk_ck_el hR
                refine va_iald hx hb hK hP 6 0 rfl rfl hi134 dX5_digest_225 ?_
                refine lv_i2l (v := ((x123.2 11) (((5 : Int32) * u96) + u130).toNatClampNeg).toInt64) hx hb dX5_digest_226 rfl ?_
                refine lv_ladd hx hb dX5_digest_227 ?_
                refine lv_lstore_n (lv' := [(1, .long (((31 : Int64) * u129) + ((x123.2 11) (((5 : Int32) * u96) + u130).toNatClampNeg).toInt64)), (4, .int u130), (3, .int u96), (0, .ref (a 0))]) hx hb dX5_digest_228 rfl hl (by decide) rfl (fun ls hl => ?_)
                refine lv_iinc (v := (u130 + (1 : Int32))) (lv' := [(4, .int (u130 + (1 : Int32))), (1, .long (((31 : Int64) * u129) + ((x123.2 11) (((5 : Int32) * u96) + u130).toNatClampNeg).toInt64)), (3, .int u96), (0, .ref (a 0))]) hx hb dX5_digest_229 hl (k := 1) rfl rfl (by decide) rfl (fun ls hl => ?_)
                refine lv_goto (tgt := 199) hx hb dX5_digest_232 (by decide) ?_
                obtain rfl := Option.some.inj hR
                exact ih12 _ rfl _ _ _ hP hD hS (lv_sub hl [0, 2, 1, 3] rfl)
            refine kk_loop (g := g) (A := A) (fun (st : Int64 × Int32) => (w_M g a M97)) (fun (st : Int64 × Int32) => [(4, .int st.2), (3, .int u96), (1, .long st.1), (0, .ref (a 0))]) 157 (nL := 5) hq120 (fun st xb119 hR ih11 hX11 => ?_) hP hD hS (lv_sub hl [0, 1, 2, 3] rfl)
            clear hP hD hS hl
            obtain ⟨u117, u118⟩ := st
            intro H locs ls hP hD hS hl
            replace hR : fX5_digest_b157 n u96 M97 u117 u118 = some xb119 := hR
            replace hP : va_P g.1 vwCl (w_M g a M97) H := hP
            replace hD : va_D A (w_M g a M97) := hD
            replace hl : lv_has ls 5 [(4, .int u118), (3, .int u96), (1, .long u117), (0, .ref (a 0))] := hl
            unfold fX5_digest_b157 at hR
            refine lv_iload hx hb dX5_digest_157 (lv_at hl 0 rfl) ?_
            refine lv_iconst (v := (3 : Int32)) hx hb dX5_digest_159 (by decide) ?_
            refine lv_icmp_ge (tgt := 187) hx hb dX5_digest_160 (by decide) (fun c121 => ?_) (fun c121 => ?_)
            · replace hR := (if_pos c121).symm.trans hR
              obtain rfl := Option.some.inj hR
              obtain rfl := hX11 _ rfl
              exact hj120 _ _ _ hP hD hS (lv_sub hl [1, 2, 3] rfl)
            · replace hR := (if_neg c121).symm.trans hR
              refine lv_ldc2 (v := (31 : Int64)) hx hb hown hl2 dX5_digest_163 ?_
              refine lv_lload_n hx hb dX5_digest_166 rfl (lv_at hl 2 rfl) ?_
              refine lv_lmul hx hb dX5_digest_167 ?_
              refine lv_aload_n hx hb dX5_digest_168 rfl (lv_at hl 3 rfl) ?_
              refine va_get (ci := 5) (C := RX5) (T := TX5) (N := 12) hx hb hts hw5 hown hK hP 0 rfl rfl 0 (by decide) hl3 (fun _ h9 => h9) rfl dX5_digest_169 ?_
              refine lv_iload_n hx hb dX5_digest_172 rfl (lv_at hl 1 rfl) ?_
              refine lv_iload hx hb dX5_digest_173 (lv_at hl 0 rfl) ?_
              obtain ⟨x122, hq122, hR⟩ := kk_bd_el hR
              refine kk_call_Si (w' := (w_M g a M97)) (As := [.ref (a 1), .int u96, .int u118]) (rest := [.long ((31 : Int64) * u117)]) hC (sX5_troubled l g n (a 1) (M97 0) u96 u118 x122 hq122) (va_cwS 3 hts gX5_digest_X5_troubled rfl rfl rfl (by decide +kernel) ⟨Nat.le_of_ble_eq_true rfl, Nat.le_of_ble_eq_true rfl⟩) hK hP hD hS hA [1] rfl (by decide +kernel) rfl rfl rfl rfl hl.1 (Nat.le_of_ble_eq_true rfl) dX5_digest_175 (fun H locs hP hD hS => ?_)
              refine lv_i2l (v := x122.toInt64) hx hb dX5_digest_178 rfl ?_
              refine lv_ladd hx hb dX5_digest_179 ?_
              refine lv_lstore_n (lv' := [(1, .long (((31 : Int64) * u117) + x122.toInt64)), (4, .int u118), (3, .int u96), (0, .ref (a 0))]) hx hb dX5_digest_180 rfl hl (by decide) rfl (fun ls hl => ?_)
              refine lv_iinc (v := (u118 + (1 : Int32))) (lv' := [(4, .int (u118 + (1 : Int32))), (1, .long (((31 : Int64) * u117) + x122.toInt64)), (3, .int u96), (0, .ref (a 0))]) hx hb dX5_digest_181 hl (k := 1) rfl rfl (by decide) rfl (fun ls hl => ?_)
              refine lv_goto (tgt := 157) hx hb dX5_digest_184 (by decide) ?_
              obtain rfl := Option.some.inj hR
              exact ih11 _ rfl _ _ _ hP hD hS (lv_sub hl [0, 2, 1, 3] rfl)
          refine kk_loop (g := g) (A := A) (fun (st : Int64 × Int32) => (w_M g a M97)) (fun (st : Int64 × Int32) => [(4, .int st.2), (3, .int u96), (1, .long st.1), (0, .ref (a 0))]) 126 (nL := 5) hq109 (fun st xb108 hR ih10 hX10 => ?_) hP hD hS (lv_sub hl [0, 1, 2, 3] rfl)
          clear hP hD hS hl
          obtain ⟨u106, u107⟩ := st
          intro H locs ls hP hD hS hl
          replace hR : fX5_digest_b126 n u96 M97 u106 u107 = some xb108 := hR
          replace hP : va_P g.1 vwCl (w_M g a M97) H := hP
          replace hD : va_D A (w_M g a M97) := hD
          replace hl : lv_has ls 5 [(4, .int u107), (3, .int u96), (1, .long u106), (0, .ref (a 0))] := hl
          unfold fX5_digest_b126 at hR
          refine lv_iload hx hb dX5_digest_126 (lv_at hl 0 rfl) ?_
          refine lv_bipush (v := (7 : Int32)) hx hb dX5_digest_128 (by decide) ?_
          refine lv_icmp_ge (tgt := 154) hx hb dX5_digest_130 (by decide) (fun c110 => ?_) (fun c110 => ?_)
          · replace hR := (if_pos c110).symm.trans hR
            obtain rfl := Option.some.inj hR
            obtain rfl := hX10 _ rfl
            exact hj109 _ _ _ hP hD hS (lv_sub hl [1, 2, 3] rfl)
          · replace hR := (if_neg c110).symm.trans hR
            refine lv_ldc2 (v := (31 : Int64)) hx hb hown hl2 dX5_digest_133 ?_
            refine lv_lload_n hx hb dX5_digest_136 rfl (lv_at hl 2 rfl) ?_
            refine lv_lmul hx hb dX5_digest_137 ?_
            refine lv_aload_n hx hb dX5_digest_138 rfl (lv_at hl 3 rfl) ?_
            refine lv_iload_n hx hb dX5_digest_139 rfl (lv_at hl 1 rfl) ?_
            refine lv_iload hx hb dX5_digest_140 (lv_at hl 0 rfl) ?_
            obtain ⟨x111, hq111, hR⟩ := kk_bd_el hR
            refine kk_call_Vi (w' := (w_M g a M97)) (As := [.int u96, .int u107]) (rest := [.long ((31 : Int64) * u106)]) 0 5 hC (sX5_ofFloat l g n a M97 u96 u107 x111 hq111) (cwV 2 hts gX5_digest_X5_ofFloat rfl rfl rfl (by decide +kernel) ⟨Nat.le_of_ble_eq_true rfl, Nat.le_of_ble_eq_true rfl⟩) hK hP hD hS hA [0, 1, 2, 3, 4, 5, 6] rfl (by decide +kernel) rfl rfl rfl rfl rfl rfl rfl hl.1 (Nat.le_of_ble_eq_true rfl) dX5_digest_142 (fun H locs hP hD hS => ?_)
            refine lv_i2l (v := x111.toInt64) hx hb dX5_digest_145 rfl ?_
            refine lv_ladd hx hb dX5_digest_146 ?_
            refine lv_lstore_n (lv' := [(1, .long (((31 : Int64) * u106) + x111.toInt64)), (4, .int u107), (3, .int u96), (0, .ref (a 0))]) hx hb dX5_digest_147 rfl hl (by decide) rfl (fun ls hl => ?_)
            refine lv_iinc (v := (u107 + (1 : Int32))) (lv' := [(4, .int (u107 + (1 : Int32))), (1, .long (((31 : Int64) * u106) + x111.toInt64)), (3, .int u96), (0, .ref (a 0))]) hx hb dX5_digest_148 hl (k := 1) rfl rfl (by decide) rfl (fun ls hl => ?_)
            refine lv_goto (tgt := 126) hx hb dX5_digest_151 (by decide) ?_
            obtain rfl := Option.some.inj hR
            exact ih10 _ rfl _ _ _ hP hD hS (lv_sub hl [0, 2, 1, 3] rfl)
      refine kk_loop (g := g) (A := A) (fun (st : Int64 × Int32) => (w_M g a x11.2)) (fun (st : Int64 × Int32) => [(3, .int st.2), (1, .long st.1), (0, .ref (a 0))]) 65 (nL := 5) hq43 (fun st xb42 hR ih4 hX4 => ?_) hP hD hS (lv_sub hl [0, 1, 2] rfl)
      clear hP hD hS hl
      obtain ⟨u40, u41⟩ := st
      intro H locs ls hP hD hS hl
      replace hR : fX5_digest_b65 n x11 u40 u41 = some xb42 := hR
      replace hP : va_P g.1 vwCl (w_M g a x11.2) H := hP
      replace hD : va_D A (w_M g a x11.2) := hD
      replace hl : lv_has ls 5 [(3, .int u41), (1, .long u40), (0, .ref (a 0))] := hl
      unfold fX5_digest_b65 at hR
      refine lv_iload_n hx hb dX5_digest_65 rfl (lv_at hl 0 rfl) ?_
      refine lv_aload_n hx hb dX5_digest_66 rfl (lv_at hl 2 rfl) ?_
      refine va_get (ci := 5) (C := RX5) (T := TX5) (N := 12) hx hb hts hw5 hown hK hP 0 rfl rfl 0 (by decide) hl3 (fun _ h9 => h9) rfl dX5_digest_67 ?_
      refine lv_iconst (v := (5 : Int32)) hx hb dX5_digest_70 (by decide) ?_
      refine va_iald hx hb hK hP 1 0 rfl rfl (kk_in 5 62 (by decide) (by decide) rfl) dX5_digest_71 ?_
      refine lv_icmp_ge (tgt := 111) hx hb dX5_digest_72 (by decide) (fun c44 => ?_) (fun c44 => ?_)
      · replace hR := (if_pos c44).symm.trans hR
        obtain rfl := Option.some.inj hR
        obtain rfl := hX4 _ rfl
        exact hj43 _ _ _ hP hD hS (lv_sub hl [1, 2] rfl)
      · replace hR := (if_neg c44).symm.trans hR
        refine lv_iconst (v := (0 : Int32)) hx hb dX5_digest_75 (by decide) ?_
        refine lv_istore (lv' := [(4, .int (0 : Int32)), (3, .int u41), (1, .long u40), (0, .ref (a 0))]) hx hb dX5_digest_76 hl (by decide) rfl (fun ls hl => ?_)
        obtain ⟨x53, hq53, hR⟩ := kk_bd_el hR
        refine kk_cut (g := g) (A := A) (w' := (w_M g a x11.2)) (nL := 5) (lv := [(3, .int u41), (1, .long x53), (0, .ref (a 0))]) (pcJ := 105) (st := []) (fun H locs ls hP hD hS hl => ?_) (fun hj53 => ?_)
        · refine lv_iinc (v := (u41 + (1 : Int32))) (lv' := [(3, .int (u41 + (1 : Int32))), (1, .long x53), (0, .ref (a 0))]) hx hb dX5_digest_105 hl (k := 0) rfl rfl (by decide) rfl (fun ls hl => ?_)
          refine lv_goto (tgt := 65) hx hb dX5_digest_108 (by decide) ?_
          obtain rfl := Option.some.inj hR
          exact ih4 _ rfl _ _ _ hP hD hS (lv_sub hl [0, 1, 2] rfl)
        refine kk_loop (g := g) (A := A) (fun (st : Int64 × Int32) => (w_M g a x11.2)) (fun (st : Int64 × Int32) => [(4, .int st.2), (3, .int u41), (1, .long st.1), (0, .ref (a 0))]) 78 (nL := 5) hq53 (fun st xb52 hR ih5 hX5 => ?_) hP hD hS (lv_sub hl [0, 1, 2, 3] rfl)
        clear hP hD hS hl
        obtain ⟨u50, u51⟩ := st
        intro H locs ls hP hD hS hl
        replace hR : fX5_digest_b78 n x11 u41 u50 u51 = some xb52 := hR
        replace hP : va_P g.1 vwCl (w_M g a x11.2) H := hP
        replace hD : va_D A (w_M g a x11.2) := hD
        replace hl : lv_has ls 5 [(4, .int u51), (3, .int u41), (1, .long u50), (0, .ref (a 0))] := hl
        unfold fX5_digest_b78 at hR
        refine lv_iload hx hb dX5_digest_78 (lv_at hl 0 rfl) ?_
        refine lv_iconst (v := (3 : Int32)) hx hb dX5_digest_80 (by decide) ?_
        refine lv_icmp_ge (tgt := 105) hx hb dX5_digest_81 (by decide) (fun c54 => ?_) (fun c54 => ?_)
        · replace hR := (if_pos c54).symm.trans hR
          obtain rfl := Option.some.inj hR
          obtain rfl := hX5 _ rfl
          exact hj53 _ _ _ hP hD hS (lv_sub hl [1, 2, 3] rfl)
        · replace hR := (if_neg c54).symm.trans hR
          refine lv_ldc2 (v := (31 : Int64)) hx hb hown hl2 dX5_digest_84 ?_
          refine lv_lload_n hx hb dX5_digest_87 rfl (lv_at hl 2 rfl) ?_
          refine lv_lmul hx hb dX5_digest_88 ?_
          refine lv_aload_n hx hb dX5_digest_89 rfl (lv_at hl 3 rfl) ?_
          refine lv_iload_n hx hb dX5_digest_90 rfl (lv_at hl 1 rfl) ?_
          refine lv_iload hx hb dX5_digest_91 (lv_at hl 0 rfl) ?_
          obtain ⟨x55, hq55, hR⟩ := kk_bd_el hR
          refine kk_call_Vi (w' := (w_M g a x11.2)) (As := [.int u41, .int u51]) (rest := [.long ((31 : Int64) * u50)]) 0 5 hC (sX5_ofBridge l g n a x11.2 u41 u51 x55 hq55) (cwV 2 hts gX5_digest_X5_ofBridge rfl rfl rfl (by decide +kernel) ⟨Nat.le_of_ble_eq_true rfl, Nat.le_of_ble_eq_true rfl⟩) hK hP hD hS hA [0, 1, 2, 3, 4, 5, 6] rfl (by decide +kernel) rfl rfl rfl rfl rfl rfl rfl hl.1 (Nat.le_of_ble_eq_true rfl) dX5_digest_93 (fun H locs hP hD hS => ?_)
          refine lv_i2l (v := x55.toInt64) hx hb dX5_digest_96 rfl ?_
          refine lv_ladd hx hb dX5_digest_97 ?_
          refine lv_lstore_n (lv' := [(1, .long (((31 : Int64) * u50) + x55.toInt64)), (4, .int u51), (3, .int u41), (0, .ref (a 0))]) hx hb dX5_digest_98 rfl hl (by decide) rfl (fun ls hl => ?_)
          refine lv_iinc (v := (u51 + (1 : Int32))) (lv' := [(4, .int (u51 + (1 : Int32))), (1, .long (((31 : Int64) * u50) + x55.toInt64)), (3, .int u41), (0, .ref (a 0))]) hx hb dX5_digest_99 hl (k := 1) rfl rfl (by decide) rfl (fun ls hl => ?_)
          refine lv_goto (tgt := 78) hx hb dX5_digest_102 (by decide) ?_
          obtain rfl := Option.some.inj hR
          exact ih5 _ rfl _ _ _ hP hD hS (lv_sub hl [0, 2, 1, 3] rfl)
    refine kk_loop (g := g) (A := A) (fun (st : Int64 × Int32) => (w_M g a x11.2)) (fun (st : Int64 × Int32) => [(3, .int st.2), (1, .long st.1), (0, .ref (a 0))]) 38 (nL := 5) hq22 (fun st xb21 hR ih2 hX2 => ?_) hP hD hS (lv_sub hl [0, 1, 2] rfl)
    clear hP hD hS hl
    obtain ⟨u19, u20⟩ := st
    intro H locs ls hP hD hS hl
    replace hR : fX5_digest_b38 n x11 u19 u20 = some xb21 := hR
    replace hP : va_P g.1 vwCl (w_M g a x11.2) H := hP
    replace hD : va_D A (w_M g a x11.2) := hD
    replace hl : lv_has ls 5 [(3, .int u20), (1, .long u19), (0, .ref (a 0))] := hl
    unfold fX5_digest_b38 at hR
    refine lv_iload_n hx hb dX5_digest_38 rfl (lv_at hl 0 rfl) ?_
    refine lv_iconst (v := (4 : Int32)) hx hb dX5_digest_39 (by decide) ?_
    refine lv_icmp_ge (tgt := 63) hx hb dX5_digest_40 (by decide) (fun c23 => ?_) (fun c23 => ?_)
    · replace hR := (if_pos c23).symm.trans hR
      obtain rfl := Option.some.inj hR
      obtain rfl := hX2 _ rfl
      exact hj22 _ _ _ hP hD hS (lv_sub hl [1, 2] rfl)
    · replace hR := (if_neg c23).symm.trans hR
      refine lv_ldc2 (v := (31 : Int64)) hx hb hown hl2 dX5_digest_43 ?_
      refine lv_lload_n hx hb dX5_digest_46 rfl (lv_at hl 1 rfl) ?_
      refine lv_lmul hx hb dX5_digest_47 ?_
      refine lv_aload_n hx hb dX5_digest_48 rfl (lv_at hl 2 rfl) ?_
      refine va_get (ci := 5) (C := RX5) (T := TX5) (N := 12) hx hb hts hw5 hown hK hP 0 rfl rfl 0 (by decide) hl3 (fun _ h9 => h9) rfl dX5_digest_49 ?_
      refine lv_iload_n hx hb dX5_digest_52 rfl (lv_at hl 0 rfl) ?_
      obtain ⟨hi24, hR⟩ := kk_ck_el hR
      refine va_iald hx hb hK hP 1 0 rfl rfl hi24 dX5_digest_53 ?_
      refine lv_i2l (v := ((x11.2 0) u20.toNatClampNeg).toInt64) hx hb dX5_digest_54 rfl ?_
      refine lv_ladd hx hb dX5_digest_55 ?_
      refine lv_lstore_n (lv' := [(1, .long (((31 : Int64) * u19) + ((x11.2 0) u20.toNatClampNeg).toInt64)), (3, .int u20), (0, .ref (a 0))]) hx hb dX5_digest_56 rfl hl (by decide) rfl (fun ls hl => ?_)
      refine lv_iinc (v := (u20 + (1 : Int32))) (lv' := [(3, .int (u20 + (1 : Int32))), (1, .long (((31 : Int64) * u19) + ((x11.2 0) u20.toNatClampNeg).toInt64)), (0, .ref (a 0))]) hx hb dX5_digest_57 hl (k := 1) rfl rfl (by decide) rfl (fun ls hl => ?_)
      refine lv_goto (tgt := 38) hx hb dX5_digest_60 (by decide) ?_
      obtain rfl := Option.some.inj hR
      exact ih2 _ rfl _ _ _ hP hD hS (lv_sub hl [0, 1, 2] rfl)
  refine kk_loop (g := g) (A := A) (fun (st : Int64 × Int32 × St1) => (w_M g a st.2.2)) (fun (st : Int64 × Int32 × St1) => [(3, .int st.2.1), (1, .long st.1), (0, .ref (a 0))]) 11 (nL := 5) hq11 (fun st xb10 hR ih1 hX1 => ?_) hP hD hS (lv_sub hl [0, 1, 2] rfl)
  clear hP hD hS hl
  obtain ⟨u7, u8, M9⟩ := st
  intro H locs ls hP hD hS hl
  replace hR : fX5_digest_b11 n u7 u8 M9 = some xb10 := hR
  replace hP : va_P g.1 vwCl (w_M g a M9) H := hP
  replace hD : va_D A (w_M g a M9) := hD
  replace hl : lv_has ls 5 [(3, .int u8), (1, .long u7), (0, .ref (a 0))] := hl
  unfold fX5_digest_b11 at hR
  refine lv_iload_n hx hb dX5_digest_11 rfl (lv_at hl 0 rfl) ?_
  refine lv_bipush (v := (9 : Int32)) hx hb dX5_digest_12 (by decide) ?_
  refine lv_icmp_ge (tgt := 36) hx hb dX5_digest_14 (by decide) (fun c12 => ?_) (fun c12 => ?_)
  · replace hR := (if_pos c12).symm.trans hR
    obtain rfl := Option.some.inj hR
    obtain rfl := hX1 _ rfl
    exact hj11 _ _ _ hP hD hS (lv_sub hl [1, 2] rfl)
  · replace hR := (if_neg c12).symm.trans hR
    refine lv_ldc2 (v := (31 : Int64)) hx hb hown hl2 dX5_digest_17 ?_
    refine lv_lload_n hx hb dX5_digest_20 rfl (lv_at hl 1 rfl) ?_
    refine lv_lmul hx hb dX5_digest_21 ?_
    refine lv_aload_n hx hb dX5_digest_22 rfl (lv_at hl 2 rfl) ?_
    refine lv_iload_n hx hb dX5_digest_23 rfl (lv_at hl 0 rfl) ?_
    obtain ⟨x13, hq13, hR⟩ := kk_bd_el hR
    refine kk_call_Vi (w' := (w_M g a x13.2)) (As := [.int u8]) (rest := [.long ((31 : Int64) * u7)]) 0 5 hC (sX5_counted l g n a M9 u8 x13 hq13) (cwV 1 hts gX5_digest_X5_counted rfl rfl rfl (by decide +kernel) ⟨Nat.le_of_ble_eq_true rfl, Nat.le_of_ble_eq_true rfl⟩) hK hP hD hS hA [0, 1, 2, 3, 4, 5, 6] rfl (by decide +kernel) rfl rfl rfl rfl rfl rfl rfl hl.1 (Nat.le_of_ble_eq_true rfl) dX5_digest_24 (fun H locs hP hD hS => ?_)
    refine lv_i2l (v := x13.1.toInt64) hx hb dX5_digest_27 rfl ?_
    refine lv_ladd hx hb dX5_digest_28 ?_
    refine lv_lstore_n (lv' := [(1, .long (((31 : Int64) * u7) + x13.1.toInt64)), (3, .int u8), (0, .ref (a 0))]) hx hb dX5_digest_29 rfl hl (by decide) rfl (fun ls hl => ?_)
    refine lv_iinc (v := (u8 + (1 : Int32))) (lv' := [(3, .int (u8 + (1 : Int32))), (1, .long (((31 : Int64) * u7) + x13.1.toInt64)), (0, .ref (a 0))]) hx hb dX5_digest_30 hl (k := 1) rfl rfl (by decide) rfl (fun ls hl => ?_)
    refine lv_goto (tgt := 11) hx hb dX5_digest_33 (by decide) ?_
    obtain rfl := Option.some.inj hR
    exact ih1 _ rfl _ _ _ hP hD hS (lv_sub hl [0, 1, 2] rfl)