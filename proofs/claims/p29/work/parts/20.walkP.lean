set_option maxHeartbeats 8000000 in
set_option maxRecDepth 100000 in
theorem sX2_swap (l : Launch) (g : kG) (n : Nat) (a : Nat → Nat) (P : St1) (v1 : Int32) (v2 : Int32) (r : St1) (hR : fX2_swap n P v1 v2 = some r) : kSp l g yX2_swap wsX2_swap ({ frames := 0, cells := 0, slots := 0, locals := 0 }) [.ref (a 0), .int v1, .int v2] (w_P g a P) (kQv g (w_P g a r)) := by
  refine kSp.of (cc := cX2_swap) (maxL := 7) (ret := none) (by decide) rfl (Nat.le_of_ble_eq_true rfl) ?_
  intro p e s m args below meth c ls A hC hr hlocks hA hK hl hP hD hS
  replace hC : CallFix p m c cX2_swap 7 s args wsX2_swap RX2 := hC
  obtain ⟨hx, hb, hml, hown, hts⟩ := id hC
  replace hl : lv_has ls 7 [(0, .ref (a 0)), (1, .int v1), (2, .int v2)] := hl
  unfold fX2_swap at hR
  have hw2 : ∀ w ∈ wsX20, w ∈ wsX2_swap := by decide +kernel
  have hl0 := hts (.fieldLink RX2 15 "FloatOrder$Parade" "kinds" "[I") (by decide +kernel)
  have hl1 := hts (.fieldLink RX2 19 "FloatOrder$Parade" "heights" "[I") (by decide +kernel)
  have hl2 := hts (.fieldLink RX2 22 "FloatOrder$Parade" "masks" "[I") (by decide +kernel)
  have hl3 := hts (.fieldLink RX2 25 "FloatOrder$Parade" "folded" "[Z") (by decide +kernel)
  refine lv_aload_n hx hb dX2_swap_0 rfl (lv_at hl 0 rfl) ?_
  refine va_get (ci := 2) (C := RX2) (T := TX2) (N := 11) hx hb hts hw2 hown hK hP 0 rfl rfl 1 (by decide) hl0 (fun _ h9 => h9) rfl dX2_swap_1 ?_
  refine lv_iload_n hx hb dX2_swap_4 rfl (lv_at hl 1 rfl) ?_
  obtain ⟨hi1, hR⟩ := kk_ck_el hR
  refine va_iald hx hb hK hP 1 0 rfl rfl hi1 dX2_swap_5 ?_
  refine lv_istore_n (lv' := [(3, .int ((P 1) v1.toNatClampNeg)), (0, .ref (a 0)), (1, .int v1), (2, .int v2)]) hx hb dX2_swap_6 rfl hl (by decide) rfl (fun ls hl => ?_)
  refine lv_aload_n hx hb dX2_swap_7 rfl (lv_at hl 1 rfl) ?_
  refine va_get (ci := 2) (C := RX2) (T := TX2) (N := 11) hx hb hts hw2 hown hK hP 0 rfl rfl 1 (by decide) hl0 (fun _ h9 => h9) rfl dX2_swap_8 ?_
  refine lv_iload_n hx hb dX2_swap_11 rfl (lv_at hl 2 rfl) ?_
  refine lv_aload_n hx hb dX2_swap_12 rfl (lv_at hl 1 rfl) ?_
  refine va_get (ci := 2) (C := RX2) (T := TX2) (N := 11) hx hb hts hw2 hown hK hP 0 rfl rfl 1 (by decide) hl0 (fun _ h9 => h9) rfl dX2_swap_13 ?_
  refine lv_iload_n hx hb dX2_swap_16 rfl (lv_at hl 3 rfl) ?_
  obtain ⟨hi2, hR⟩ := kk_ck_el hR
  refine va_iald hx hb hK hP 1 0 rfl rfl hi2 dX2_swap_17 ?_
  obtain ⟨hi4, hR⟩ := kk_ck_el hR
  obtain ⟨P3, eP3, hR⟩ := kk_nm_el hR
  refine kk_iast (w' := (w_P g a P3)) hC hK hP hD hS 1 rfl hi4 (by rw [eP3]; rfl) dX2_swap_18 (fun H locs hP hD hS => ?_)
  refine lv_aload_n hx hb dX2_swap_19 rfl (lv_at hl 1 rfl) ?_
  refine va_get (ci := 2) (C := RX2) (T := TX2) (N := 11) hx hb hts hw2 hown hK hP 0 rfl rfl 1 (by decide) hl0 (fun _ h9 => h9) rfl dX2_swap_20 ?_
  refine lv_iload_n hx hb dX2_swap_23 rfl (lv_at hl 3 rfl) ?_
  refine lv_iload_n hx hb dX2_swap_24 rfl (lv_at hl 0 rfl) ?_
  obtain ⟨hi6, hR⟩ := kk_ck_el hR
  obtain ⟨P5, eP5, hR⟩ := kk_nm_el hR
  refine kk_iast (w' := (w_P g a P5)) hC hK hP hD hS 1 rfl hi6 (by rw [eP5]; rfl) dX2_swap_25 (fun H locs hP hD hS => ?_)
  refine lv_aload_n hx hb dX2_swap_26 rfl (lv_at hl 1 rfl) ?_
  refine va_get (ci := 2) (C := RX2) (T := TX2) (N := 11) hx hb hts hw2 hown hK hP 0 rfl rfl 2 (by decide) hl1 (fun _ h9 => h9) rfl dX2_swap_27 ?_
  refine lv_iload_n hx hb dX2_swap_30 rfl (lv_at hl 2 rfl) ?_
  obtain ⟨hi7, hR⟩ := kk_ck_el hR
  refine va_iald hx hb hK hP 2 0 rfl rfl hi7 dX2_swap_31 ?_
  refine lv_istore (lv' := [(4, .int ((P5 2) v1.toNatClampNeg)), (3, .int ((P 1) v1.toNatClampNeg)), (0, .ref (a 0)), (1, .int v1), (2, .int v2)]) hx hb dX2_swap_32 hl (by decide) rfl (fun ls hl => ?_)
  refine lv_aload_n hx hb dX2_swap_34 rfl (lv_at hl 2 rfl) ?_
  refine va_get (ci := 2) (C := RX2) (T := TX2) (N := 11) hx hb hts hw2 hown hK hP 0 rfl rfl 2 (by decide) hl1 (fun _ h9 => h9) rfl dX2_swap_35 ?_
  refine lv_iload_n hx hb dX2_swap_38 rfl (lv_at hl 3 rfl) ?_
  refine lv_aload_n hx hb dX2_swap_39 rfl (lv_at hl 2 rfl) ?_
  refine va_get (ci := 2) (C := RX2) (T := TX2) (N := 11) hx hb hts hw2 hown hK hP 0 rfl rfl 2 (by decide) hl1 (fun _ h9 => h9) rfl dX2_swap_40 ?_
  refine lv_iload_n hx hb dX2_swap_43 rfl (lv_at hl 4 rfl) ?_
  obtain ⟨hi8, hR⟩ := kk_ck_el hR
  refine va_iald hx hb hK hP 2 0 rfl rfl hi8 dX2_swap_44 ?_
  obtain ⟨hi10, hR⟩ := kk_ck_el hR
  obtain ⟨P9, eP9, hR⟩ := kk_nm_el hR
  refine kk_iast (w' := (w_P g a P9)) hC hK hP hD hS 2 rfl hi10 (by rw [eP9]; rfl) dX2_swap_45 (fun H locs hP hD hS => ?_)
  refine lv_aload_n hx hb dX2_swap_46 rfl (lv_at hl 2 rfl) ?_
  refine va_get (ci := 2) (C := RX2) (T := TX2) (N := 11) hx hb hts hw2 hown hK hP 0 rfl rfl 2 (by decide) hl1 (fun _ h9 => h9) rfl dX2_swap_47 ?_
  refine lv_iload_n hx hb dX2_swap_50 rfl (lv_at hl 4 rfl) ?_
  refine lv_iload hx hb dX2_swap_51 (lv_at hl 0 rfl) ?_
  obtain ⟨hi12, hR⟩ := kk_ck_el hR
  obtain ⟨P11, eP11, hR⟩ := kk_nm_el hR
  refine kk_iast (w' := (w_P g a P11)) hC hK hP hD hS 2 rfl hi12 (by rw [eP11]; rfl) dX2_swap_53 (fun H locs hP hD hS => ?_)
  refine lv_aload_n hx hb dX2_swap_54 rfl (lv_at hl 2 rfl) ?_
  refine va_get (ci := 2) (C := RX2) (T := TX2) (N := 11) hx hb hts hw2 hown hK hP 0 rfl rfl 3 (by decide) hl2 (fun _ h9 => h9) rfl dX2_swap_55 ?_
  refine lv_iload_n hx hb dX2_swap_58 rfl (lv_at hl 3 rfl) ?_
  obtain ⟨hi13, hR⟩ := kk_ck_el hR
  refine va_iald hx hb hK hP 3 0 rfl rfl hi13 dX2_swap_59 ?_
  refine lv_istore (lv' := [(5, .int ((P11 3) v1.toNatClampNeg)), (4, .int ((P5 2) v1.toNatClampNeg)), (3, .int ((P 1) v1.toNatClampNeg)), (0, .ref (a 0)), (1, .int v1), (2, .int v2)]) hx hb dX2_swap_60 hl (by decide) rfl (fun ls hl => ?_)
  refine lv_aload_n hx hb dX2_swap_62 rfl (lv_at hl 3 rfl) ?_
  refine va_get (ci := 2) (C := RX2) (T := TX2) (N := 11) hx hb hts hw2 hown hK hP 0 rfl rfl 3 (by decide) hl2 (fun _ h9 => h9) rfl dX2_swap_63 ?_
  refine lv_iload_n hx hb dX2_swap_66 rfl (lv_at hl 4 rfl) ?_
  refine lv_aload_n hx hb dX2_swap_67 rfl (lv_at hl 3 rfl) ?_
  refine va_get (ci := 2) (C := RX2) (T := TX2) (N := 11) hx hb hts hw2 hown hK hP 0 rfl rfl 3 (by decide) hl2 (fun _ h9 => h9) rfl dX2_swap_68 ?_
  refine lv_iload_n hx hb dX2_swap_71 rfl (lv_at hl 5 rfl) ?_
  obtain ⟨hi14, hR⟩ := kk_ck_el hR
  refine va_iald hx hb hK hP 3 0 rfl rfl hi14 dX2_swap_72 ?_
  obtain ⟨hi16, hR⟩ := kk_ck_el hR
  obtain ⟨P15, eP15, hR⟩ := kk_nm_el hR
  refine kk_iast (w' := (w_P g a P15)) hC hK hP hD hS 3 rfl hi16 (by rw [eP15]; rfl) dX2_swap_73 (fun H locs hP hD hS => ?_)
  refine lv_aload_n hx hb dX2_swap_74 rfl (lv_at hl 3 rfl) ?_
  refine va_get (ci := 2) (C := RX2) (T := TX2) (N := 11) hx hb hts hw2 hown hK hP 0 rfl rfl 3 (by decide) hl2 (fun _ h9 => h9) rfl dX2_swap_75 ?_
  refine lv_iload_n hx hb dX2_swap_78 rfl (lv_at hl 5 rfl) ?_
  refine lv_iload hx hb dX2_swap_79 (lv_at hl 0 rfl) ?_
  obtain ⟨hi18, hR⟩ := kk_ck_el hR
  obtain ⟨P17, eP17, hR⟩ := kk_nm_el hR
  refine kk_iast (w' := (w_P g a P17)) hC hK hP hD hS 3 rfl hi18 (by rw [eP17]; rfl) dX2_swap_81 (fun H locs hP hD hS => ?_)
  refine lv_aload_n hx hb dX2_swap_82 rfl (lv_at hl 3 rfl) ?_
  refine va_get (ci := 2) (C := RX2) (T := TX2) (N := 11) hx hb hts hw2 hown hK hP 0 rfl rfl 4 (by decide) hl3 (fun _ h9 => h9) rfl dX2_swap_83 ?_
  refine lv_iload_n hx hb dX2_swap_86 rfl (lv_at hl 4 rfl) ?_
  obtain ⟨hi19, hR⟩ := kk_ck_el hR
  refine va_zald hx hb hK hP 4 1 rfl rfl hi19 dX2_swap_87 ?_
  refine lv_istore (lv' := [(6, .int ((P17 4) v1.toNatClampNeg)), (5, .int ((P11 3) v1.toNatClampNeg)), (4, .int ((P5 2) v1.toNatClampNeg)), (3, .int ((P 1) v1.toNatClampNeg)), (0, .ref (a 0)), (1, .int v1), (2, .int v2)]) hx hb dX2_swap_88 hl (by decide) rfl (fun ls hl => ?_)
  refine lv_aload_n hx hb dX2_swap_90 rfl (lv_at hl 4 rfl) ?_
  refine va_get (ci := 2) (C := RX2) (T := TX2) (N := 11) hx hb hts hw2 hown hK hP 0 rfl rfl 4 (by decide) hl3 (fun _ h9 => h9) rfl dX2_swap_91 ?_
  refine lv_iload_n hx hb dX2_swap_94 rfl (lv_at hl 5 rfl) ?_
  refine lv_aload_n hx hb dX2_swap_95 rfl (lv_at hl 4 rfl) ?_
  refine va_get (ci := 2) (C := RX2) (T := TX2) (N := 11) hx hb hts hw2 hown hK hP 0 rfl rfl 4 (by decide) hl3 (fun _ h9 => h9) rfl dX2_swap_96 ?_
  refine lv_iload_n hx hb dX2_swap_99 rfl (lv_at hl 6 rfl) ?_
  obtain ⟨hi20, hR⟩ := kk_ck_el hR
  refine va_zald hx hb hK hP 4 1 rfl rfl hi20 dX2_swap_100 ?_
  obtain ⟨hi22, hR⟩ := kk_ck_el hR
  obtain ⟨hz26, hR⟩ := kk_cb_el hR
  obtain ⟨P21, eP21, hR⟩ := kk_nm_el hR
  refine kk_zast (w' := (w_P g a P21)) hC hK hP hD hS 4 rfl hi22 hz26 (by rw [eP21]; rfl) dX2_swap_101 (fun H locs hP hD hS => ?_)
  refine lv_aload_n hx hb dX2_swap_102 rfl (lv_at hl 4 rfl) ?_
  refine va_get (ci := 2) (C := RX2) (T := TX2) (N := 11) hx hb hts hw2 hown hK hP 0 rfl rfl 4 (by decide) hl3 (fun _ h9 => h9) rfl dX2_swap_103 ?_
  refine lv_iload_n hx hb dX2_swap_106 rfl (lv_at hl 6 rfl) ?_
  refine lv_iload hx hb dX2_swap_107 (lv_at hl 0 rfl) ?_
  obtain ⟨hi24, hR⟩ := kk_ck_el hR
  obtain ⟨hz25, hR⟩ := kk_cb_el hR
  obtain ⟨P23, eP23, hR⟩ := kk_nm_el hR
  refine kk_zast (w' := (w_P g a P23)) hC hK hP hD hS 4 rfl hi24 hz25 (by rw [eP23]; rfl) dX2_swap_109 (fun H locs hP hD hS => ?_)
  obtain rfl := Option.some.inj hR
  exact kk_ret_v hC hr hlocks hK hP hD hS dX2_swap_110
set_option maxHeartbeats 8000000 in
set_option maxRecDepth 100000 in
theorem sX2_shift (l : Launch) (g : kG) (n : Nat) (a : Nat → Nat) (P : St1) (v1 : Int32) (v2 : Int32) (r : St1) (hR : fX2_shift n P v1 v2 = some r) : kSp l g yX2_shift wsX2_shift ({ frames := 1, cells := 0, slots := 0, locals := 26 }) [.ref (a 0), .int v1, .int v2] (w_P g a P) (kQv g (w_P g a r)) := by
  refine kSp.of (cc := cX2_shift) (maxL := 4) (ret := none) (by decide) rfl (Nat.le_of_ble_eq_true rfl) ?_
  intro p e s m args below meth c ls A hC hr hlocks hA hK hl hP hD hS
  replace hC : CallFix p m c cX2_shift 4 s args wsX2_shift RX2 := hC
  obtain ⟨hx, hb, hml, hown, hts⟩ := id hC
  replace hl : lv_has ls 4 [(0, .ref (a 0)), (1, .int v1), (2, .int v2)] := hl
  unfold fX2_shift at hR
  refine lv_iload_n hx hb dX2_shift_0 rfl (lv_at hl 1 rfl) ?_
  refine lv_istore_n (lv' := [(3, .int v1), (0, .ref (a 0)), (1, .int v1), (2, .int v2)]) hx hb dX2_shift_1 rfl hl (by decide) rfl (fun ls hl => ?_)
  obtain ⟨x8, hq8, hR⟩ := kk_bd_el hR
  refine kk_cut (g := g) (A := A) (w' := (w_P g a x8)) (nL := 4) (lv := [(0, .ref (a 0)), (1, .int v1), (2, .int v2)]) (pcJ := 21) (st := []) (fun H locs ls hP hD hS hl => ?_) (fun hj8 => ?_)
  · refine lv_iload_n hx hb dX2_shift_21 rfl (lv_at hl 1 rfl) ?_
    refine lv_istore_n (lv' := [(3, .int v1), (0, .ref (a 0)), (1, .int v1), (2, .int v2)]) hx hb dX2_shift_22 rfl hl (by decide) rfl (fun ls hl => ?_)
    obtain ⟨x18, hq18, hR⟩ := kk_bd_el hR
    refine kk_cut (g := g) (A := A) (w' := (w_P g a x18)) (nL := 4) (lv := []) (pcJ := 42) (st := []) (fun H locs ls hP hD hS hl => ?_) (fun hj18 => ?_)
    · obtain rfl := Option.some.inj hR
      exact kk_ret_v hC hr hlocks hK hP hD hS dX2_shift_42
    refine kk_loop (g := g) (A := A) (fun (st : Int32 × St1) => (w_P g a st.2)) (fun (st : Int32 × St1) => [(3, .int st.1), (0, .ref (a 0)), (2, .int v2)]) 23 (nL := 4) hq18 (fun st xb17 hR ih2 hX2 => ?_) hP hD hS (lv_sub hl [0, 1, 3] rfl)
    clear hP hD hS hl
    obtain ⟨u15, P16⟩ := st
    intro H locs ls hP hD hS hl
    replace hR : fX2_shift_b23 n v2 u15 P16 = some xb17 := hR
    replace hP : va_P g.1 vwCl (w_P g a P16) H := hP
    replace hD : va_D A (w_P g a P16) := hD
    replace hl : lv_has ls 4 [(3, .int u15), (0, .ref (a 0)), (2, .int v2)] := hl
    unfold fX2_shift_b23 at hR
    refine lv_iload_n hx hb dX2_shift_23 rfl (lv_at hl 0 rfl) ?_
    refine lv_iload_n hx hb dX2_shift_24 rfl (lv_at hl 2 rfl) ?_
    refine lv_icmp_le (tgt := 42) hx hb dX2_shift_25 (by decide) (fun c19 => ?_) (fun c19 => ?_)
    · replace hR := (if_pos c19).symm.trans hR
      obtain rfl := Option.some.inj hR
      obtain rfl := hX2 _ rfl
      exact hj18 _ _ _ hP hD hS (lv_sub hl [] rfl)
    · replace hR := (if_neg c19).symm.trans hR
      refine lv_aload_n hx hb dX2_shift_28 rfl (lv_at hl 1 rfl) ?_
      refine lv_iload_n hx hb dX2_shift_29 rfl (lv_at hl 0 rfl) ?_
      refine lv_iload_n hx hb dX2_shift_30 rfl (lv_at hl 0 rfl) ?_
      refine lv_iconst (v := (1 : Int32)) hx hb dX2_shift_31 (by decide) ?_
      refine lv_isub hx hb dX2_shift_32 ?_
      obtain ⟨x20, hq20, hR⟩ := kk_bd_el hR
      refine kk_call_Vv (w' := (w_P g a x20)) (As := [.int u15, .int (u15 - (1 : Int32))]) (rest := []) 0 2 hC (sX2_swap l g n a P16 u15 (u15 - (1 : Int32)) x20 hq20) (cwV 2 hts gX2_shift_X2_swap rfl rfl rfl (by decide +kernel) ⟨Nat.le_of_ble_eq_true rfl, Nat.le_of_ble_eq_true rfl⟩) hK hP hD hS hA [0, 1, 2, 3, 4, 5, 6, 7, 8, 9] rfl (by decide +kernel) rfl rfl rfl rfl rfl rfl rfl hl.1 (Nat.le_of_ble_eq_true rfl) dX2_shift_33 (fun H locs hP hD hS => ?_)
      refine lv_iinc (v := (u15 + (-1 : Int32))) (lv' := [(3, .int (u15 + (-1 : Int32))), (0, .ref (a 0)), (2, .int v2)]) hx hb dX2_shift_36 hl (k := 0) rfl rfl (by decide) rfl (fun ls hl => ?_)
      refine lv_goto (tgt := 23) hx hb dX2_shift_39 (by decide) ?_
      obtain rfl := Option.some.inj hR
      exact ih2 _ rfl _ _ _ hP hD hS (lv_sub hl [0, 1, 2] rfl)
  refine kk_loop (g := g) (A := A) (fun (st : Int32 × St1) => (w_P g a st.2)) (fun (st : Int32 × St1) => [(3, .int st.1), (0, .ref (a 0)), (1, .int v1), (2, .int v2)]) 2 (nL := 4) hq8 (fun st xb7 hR ih1 hX1 => ?_) hP hD hS (lv_sub hl [0, 1, 2, 3] rfl)
  clear hP hD hS hl
  obtain ⟨u5, P6⟩ := st
  intro H locs ls hP hD hS hl
  replace hR : fX2_shift_b2 n v2 u5 P6 = some xb7 := hR
  replace hP : va_P g.1 vwCl (w_P g a P6) H := hP
  replace hD : va_D A (w_P g a P6) := hD
  replace hl : lv_has ls 4 [(3, .int u5), (0, .ref (a 0)), (1, .int v1), (2, .int v2)] := hl
  unfold fX2_shift_b2 at hR
  refine lv_iload_n hx hb dX2_shift_2 rfl (lv_at hl 0 rfl) ?_
  refine lv_iload_n hx hb dX2_shift_3 rfl (lv_at hl 3 rfl) ?_
  refine lv_icmp_ge (tgt := 21) hx hb dX2_shift_4 (by decide) (fun c9 => ?_) (fun c9 => ?_)
  · replace hR := (if_pos c9).symm.trans hR
    obtain rfl := Option.some.inj hR
    obtain rfl := hX1 _ rfl
    exact hj8 _ _ _ hP hD hS (lv_sub hl [1, 2, 3] rfl)
  · replace hR := (if_neg c9).symm.trans hR
    refine lv_aload_n hx hb dX2_shift_7 rfl (lv_at hl 1 rfl) ?_
    refine lv_iload_n hx hb dX2_shift_8 rfl (lv_at hl 0 rfl) ?_
    refine lv_iload_n hx hb dX2_shift_9 rfl (lv_at hl 0 rfl) ?_
    refine lv_iconst (v := (1 : Int32)) hx hb dX2_shift_10 (by decide) ?_
    refine lv_iadd hx hb dX2_shift_11 ?_
    obtain ⟨x10, hq10, hR⟩ := kk_bd_el hR
    refine kk_call_Vv (w' := (w_P g a x10)) (As := [.int u5, .int (u5 + (1 : Int32))]) (rest := []) 0 2 hC (sX2_swap l g n a P6 u5 (u5 + (1 : Int32)) x10 hq10) (cwV 2 hts gX2_shift_X2_swap rfl rfl rfl (by decide +kernel) ⟨Nat.le_of_ble_eq_true rfl, Nat.le_of_ble_eq_true rfl⟩) hK hP hD hS hA [0, 1, 2, 3, 4, 5, 6, 7, 8, 9] rfl (by decide +kernel) rfl rfl rfl rfl rfl rfl rfl hl.1 (Nat.le_of_ble_eq_true rfl) dX2_shift_12 (fun H locs hP hD hS => ?_)
    refine lv_iinc (v := (u5 + (1 : Int32))) (lv' := [(3, .int (u5 + (1 : Int32))), (0, .ref (a 0)), (1, .int v1), (2, .int v2)]) hx hb dX2_shift_15 hl (k := 0) rfl rfl (by decide) rfl (fun ls hl => ?_)
    refine lv_goto (tgt := 2) hx hb dX2_shift_18 (by decide) ?_
    obtain rfl := Option.some.inj hR
    exact ih1 _ rfl _ _ _ hP hD hS (lv_sub hl [0, 1, 2, 3] rfl)
set_option maxHeartbeats 8000000 in
set_option maxRecDepth 100000 in
theorem sX2_takeAway (l : Launch) (g : kG) (n : Nat) (a : Nat → Nat) (P : St1) (v1 : Int32) (r : St1) (hR : fX2_takeAway n P v1 = some r) : kSp l g yX2_takeAway wsX2_takeAway ({ frames := 2, cells := 0, slots := 0, locals := 49 }) [.ref (a 0), .int v1] (w_P g a P) (kQv g (w_P g a r)) := by
  refine kSp.of (cc := cX2_takeAway) (maxL := 2) (ret := none) (by decide) rfl (Nat.le_of_ble_eq_true rfl) ?_
  intro p e s m args below meth c ls A hC hr hlocks hA hK hl hP hD hS
  replace hC : CallFix p m c cX2_takeAway 2 s args wsX2_takeAway RX2 := hC
  obtain ⟨hx, hb, hml, hown, hts⟩ := id hC
  replace hl : lv_has ls 2 [(0, .ref (a 0)), (1, .int v1)] := hl
  unfold fX2_takeAway at hR
  have hw2 : ∀ w ∈ wsX20, w ∈ wsX2_takeAway := by decide +kernel
  have hl0 := hts (.fieldLink RX2 9 "FloatOrder$Parade" "floats" "I") (by decide +kernel)
  refine lv_aload_n hx hb dX2_takeAway_0 rfl (lv_at hl 0 rfl) ?_
  refine lv_iload_n hx hb dX2_takeAway_1 rfl (lv_at hl 1 rfl) ?_
  refine lv_aload_n hx hb dX2_takeAway_2 rfl (lv_at hl 0 rfl) ?_
  refine va_get (ci := 2) (C := RX2) (T := TX2) (N := 11) hx hb hts hw2 hown hK hP 0 rfl rfl 0 (by decide) hl0 (fun _ h9 => h9) rfl dX2_takeAway_3 ?_
  refine lv_iconst (v := (1 : Int32)) hx hb dX2_takeAway_6 (by decide) ?_
  refine lv_isub hx hb dX2_takeAway_7 ?_
  obtain ⟨x1, hq1, hR⟩ := kk_bd_el hR
  refine kk_call_Vv (w' := (w_P g a x1)) (As := [.int v1, .int ((P 0 0) - (1 : Int32))]) (rest := []) 0 2 hC (sX2_shift l g n a P v1 ((P 0 0) - (1 : Int32)) x1 hq1) (cwV 2 hts gX2_takeAway_X2_shift rfl rfl rfl (by decide +kernel) ⟨Nat.le_of_ble_eq_true rfl, Nat.le_of_ble_eq_true rfl⟩) hK hP hD hS hA [0, 1, 2, 3, 4, 5, 6, 7, 8, 9] rfl (by decide +kernel) rfl rfl rfl rfl rfl rfl rfl hl.1 (Nat.le_of_ble_eq_true rfl) dX2_takeAway_8 (fun H locs hP hD hS => ?_)
  refine lv_aload_n hx hb dX2_takeAway_11 rfl (lv_at hl 0 rfl) ?_
  refine lv_dup hx hb dX2_takeAway_12 rfl ?_
  refine va_get (ci := 2) (C := RX2) (T := TX2) (N := 11) hx hb hts hw2 hown hK hP 0 rfl rfl 0 (by decide) hl0 (fun _ h9 => h9) rfl dX2_takeAway_13 ?_
  refine lv_iconst (v := (1 : Int32)) hx hb dX2_takeAway_16 (by decide) ?_
  refine lv_isub hx hb dX2_takeAway_17 ?_
  obtain ⟨P2, eP2, hR⟩ := kk_nm_el hR
  refine kk_put (w' := (w_P g a P2)) (ci := 2) (C := RX2) (T := TX2) (N := 11) (ty := .int) (v := .int ((x1 0 0) - (1 : Int32))) hC hw2 tyX2 tyX2_ok nmX2 hK hP hD hS 0 rfl rfl 0 (by decide) hl0 rfl (by decide +kernel) rfl rfl (Nat.le_of_ble_eq_true rfl) (by rw [eP2]; rfl) dX2_takeAway_18 rfl (fun H locs hP hD hS => ?_)
  obtain rfl := Option.some.inj hR
  exact kk_ret_v hC hr hlocks hK hP hD hS dX2_takeAway_21
set_option maxHeartbeats 8000000 in
set_option maxRecDepth 100000 in
theorem sX2_addLast (l : Launch) (g : kG) (n : Nat) (a : Nat → Nat) (P : St1) (v1 : Int32) (v2 : Int32) (v3 : Int32) (r : St1) (hR : fX2_addLast n P v1 v2 v3 = some r) : kSp l g yX2_addLast wsX2_addLast ({ frames := 0, cells := 0, slots := 0, locals := 0 }) [.ref (a 0), .int v1, .int v2, .int v3] (w_P g a P) (kQv g (w_P g a r)) := by
  refine kSp.of (cc := cX2_addLast) (maxL := 4) (ret := none) (by decide) rfl (Nat.le_of_ble_eq_true rfl) ?_
  intro p e s m args below meth c ls A hC hr hlocks hA hK hl hP hD hS
  replace hC : CallFix p m c cX2_addLast 4 s args wsX2_addLast RX2 := hC
  obtain ⟨hx, hb, hml, hown, hts⟩ := id hC
  replace hl : lv_has ls 4 [(0, .ref (a 0)), (1, .int v1), (2, .int v2), (3, .int v3)] := hl
  unfold fX2_addLast at hR
  have hw2 : ∀ w ∈ wsX20, w ∈ wsX2_addLast := by decide +kernel
  have hl0 := hts (.fieldLink RX2 9 "FloatOrder$Parade" "floats" "I") (by decide +kernel)
  have hl1 := hts (.fieldLink RX2 15 "FloatOrder$Parade" "kinds" "[I") (by decide +kernel)
  have hl2 := hts (.fieldLink RX2 19 "FloatOrder$Parade" "heights" "[I") (by decide +kernel)
  have hl3 := hts (.fieldLink RX2 22 "FloatOrder$Parade" "masks" "[I") (by decide +kernel)
  have hl4 := hts (.fieldLink RX2 25 "FloatOrder$Parade" "folded" "[Z") (by decide +kernel)
  refine lv_aload_n hx hb dX2_addLast_0 rfl (lv_at hl 0 rfl) ?_
  refine va_get (ci := 2) (C := RX2) (T := TX2) (N := 11) hx hb hts hw2 hown hK hP 0 rfl rfl 0 (by decide) hl0 (fun _ h9 => h9) rfl dX2_addLast_1 ?_
  refine lv_bipush (v := (12 : Int32)) hx hb dX2_addLast_4 (by decide) ?_
  refine lv_icmp_ge (tgt := 59) hx hb dX2_addLast_6 (by decide) (fun c1 => ?_) (fun c1 => ?_)
  · replace hR := (if_pos c1).symm.trans hR
    obtain rfl := Option.some.inj hR
    exact kk_ret_v hC hr hlocks hK hP hD hS dX2_addLast_59
  · replace hR := (if_neg c1).symm.trans hR
    refine lv_aload_n hx hb dX2_addLast_9 rfl (lv_at hl 0 rfl) ?_
    refine va_get (ci := 2) (C := RX2) (T := TX2) (N := 11) hx hb hts hw2 hown hK hP 0 rfl rfl 1 (by decide) hl1 (fun _ h9 => h9) rfl dX2_addLast_10 ?_
    refine lv_aload_n hx hb dX2_addLast_13 rfl (lv_at hl 0 rfl) ?_
    refine va_get (ci := 2) (C := RX2) (T := TX2) (N := 11) hx hb hts hw2 hown hK hP 0 rfl rfl 0 (by decide) hl0 (fun _ h9 => h9) rfl dX2_addLast_14 ?_
    refine lv_iload_n hx hb dX2_addLast_17 rfl (lv_at hl 1 rfl) ?_
    obtain ⟨hi3, hR⟩ := kk_ck_el hR
    obtain ⟨P2, eP2, hR⟩ := kk_nm_el hR
    refine kk_iast (w' := (w_P g a P2)) hC hK hP hD hS 1 rfl hi3 (by rw [eP2]; rfl) dX2_addLast_18 (fun H locs hP hD hS => ?_)
    refine lv_aload_n hx hb dX2_addLast_19 rfl (lv_at hl 0 rfl) ?_
    refine va_get (ci := 2) (C := RX2) (T := TX2) (N := 11) hx hb hts hw2 hown hK hP 0 rfl rfl 2 (by decide) hl2 (fun _ h9 => h9) rfl dX2_addLast_20 ?_
    refine lv_aload_n hx hb dX2_addLast_23 rfl (lv_at hl 0 rfl) ?_
    refine va_get (ci := 2) (C := RX2) (T := TX2) (N := 11) hx hb hts hw2 hown hK hP 0 rfl rfl 0 (by decide) hl0 (fun _ h9 => h9) rfl dX2_addLast_24 ?_
    refine lv_iload_n hx hb dX2_addLast_27 rfl (lv_at hl 2 rfl) ?_
    obtain ⟨hi5, hR⟩ := kk_ck_el hR
    obtain ⟨P4, eP4, hR⟩ := kk_nm_el hR
    refine kk_iast (w' := (w_P g a P4)) hC hK hP hD hS 2 rfl hi5 (by rw [eP4]; rfl) dX2_addLast_28 (fun H locs hP hD hS => ?_)
    refine lv_aload_n hx hb dX2_addLast_29 rfl (lv_at hl 0 rfl) ?_
    refine va_get (ci := 2) (C := RX2) (T := TX2) (N := 11) hx hb hts hw2 hown hK hP 0 rfl rfl 3 (by decide) hl3 (fun _ h9 => h9) rfl dX2_addLast_30 ?_
    refine lv_aload_n hx hb dX2_addLast_33 rfl (lv_at hl 0 rfl) ?_
    refine va_get (ci := 2) (C := RX2) (T := TX2) (N := 11) hx hb hts hw2 hown hK hP 0 rfl rfl 0 (by decide) hl0 (fun _ h9 => h9) rfl dX2_addLast_34 ?_
    refine lv_iload_n hx hb dX2_addLast_37 rfl (lv_at hl 3 rfl) ?_
    obtain ⟨hi7, hR⟩ := kk_ck_el hR
    obtain ⟨P6, eP6, hR⟩ := kk_nm_el hR
    refine kk_iast (w' := (w_P g a P6)) hC hK hP hD hS 3 rfl hi7 (by rw [eP6]; rfl) dX2_addLast_38 (fun H locs hP hD hS => ?_)
    refine lv_aload_n hx hb dX2_addLast_39 rfl (lv_at hl 0 rfl) ?_
    refine va_get (ci := 2) (C := RX2) (T := TX2) (N := 11) hx hb hts hw2 hown hK hP 0 rfl rfl 4 (by decide) hl4 (fun _ h9 => h9) rfl dX2_addLast_40 ?_
    refine lv_aload_n hx hb dX2_addLast_43 rfl (lv_at hl 0 rfl) ?_
    refine va_get (ci := 2) (C := RX2) (T := TX2) (N := 11) hx hb hts hw2 hown hK hP 0 rfl rfl 0 (by decide) hl0 (fun _ h9 => h9) rfl dX2_addLast_44 ?_
    refine lv_iconst (v := (0 : Int32)) hx hb dX2_addLast_47 (by decide) ?_
    obtain ⟨hi9, hR⟩ := kk_ck_el hR
    obtain ⟨hz11, hR⟩ := kk_cb_el hR
    obtain ⟨P8, eP8, hR⟩ := kk_nm_el hR
    refine kk_zast (w' := (w_P g a P8)) hC hK hP hD hS 4 rfl hi9 hz11 (by rw [eP8]; rfl) dX2_addLast_48 (fun H locs hP hD hS => ?_)
    refine lv_aload_n hx hb dX2_addLast_49 rfl (lv_at hl 0 rfl) ?_
    refine lv_dup hx hb dX2_addLast_50 rfl ?_
    refine va_get (ci := 2) (C := RX2) (T := TX2) (N := 11) hx hb hts hw2 hown hK hP 0 rfl rfl 0 (by decide) hl0 (fun _ h9 => h9) rfl dX2_addLast_51 ?_
    refine lv_iconst (v := (1 : Int32)) hx hb dX2_addLast_54 (by decide) ?_
    refine lv_iadd hx hb dX2_addLast_55 ?_
    obtain ⟨P10, eP10, hR⟩ := kk_nm_el hR
    refine kk_put (w' := (w_P g a P10)) (ci := 2) (C := RX2) (T := TX2) (N := 11) (ty := .int) (v := .int ((P8 0 0) + (1 : Int32))) hC hw2 tyX2 tyX2_ok nmX2 hK hP hD hS 0 rfl rfl 0 (by decide) hl0 rfl (by decide +kernel) rfl rfl (Nat.le_of_ble_eq_true rfl) (by rw [eP10]; rfl) dX2_addLast_56 rfl (fun H locs hP hD hS => ?_)
    obtain rfl := Option.some.inj hR
    exact kk_ret_v hC hr hlocks hK hP hD hS dX2_addLast_59
set_option maxHeartbeats 8000000 in
set_option maxRecDepth 100000 in
theorem sX2_countedHeight (l : Launch) (g : kG) (n : Nat) (a : Nat → Nat) (P : St1) (v1 : Int32) (r : Int32) (hR : fX2_countedHeight n P v1 = some r) : kSp l g yX2_countedHeight wsX2_countedHeight ({ frames := 0, cells := 0, slots := 0, locals := 0 }) [.ref (a 0), .int v1] (w_P g a P) (kQi g (w_P g a P) r) := by
  refine kSp.of (cc := cX2_countedHeight) (maxL := 3) (ret := (some .int)) (by decide) rfl (Nat.le_of_ble_eq_true rfl) ?_
  intro p e s m args below meth c ls A hC hr hlocks hA hK hl hP hD hS
  replace hC : CallFix p m c cX2_countedHeight 3 s args wsX2_countedHeight RX2 := hC
  obtain ⟨hx, hb, hml, hown, hts⟩ := id hC
  replace hl : lv_has ls 3 [(0, .ref (a 0)), (1, .int v1)] := hl
  unfold fX2_countedHeight at hR
  have hw2 : ∀ w ∈ wsX20, w ∈ wsX2_countedHeight := by decide +kernel
  have hl0 := hts (.fieldLink RX2 25 "FloatOrder$Parade" "folded" "[Z") (by decide +kernel)
  have hl1 := hts (.fieldLink RX2 19 "FloatOrder$Parade" "heights" "[I") (by decide +kernel)
  refine lv_aload_n hx hb dX2_countedHeight_0 rfl (lv_at hl 0 rfl) ?_
  refine va_get (ci := 2) (C := RX2) (T := TX2) (N := 11) hx hb hts hw2 hown hK hP 0 rfl rfl 4 (by decide) hl0 (fun _ h9 => h9) rfl dX2_countedHeight_1 ?_
  refine lv_iload_n hx hb dX2_countedHeight_4 rfl (lv_at hl 1 rfl) ?_
  obtain ⟨hi1, hR⟩ := kk_ck_el hR
  refine va_zald hx hb hK hP 4 1 rfl rfl hi1 dX2_countedHeight_5 ?_
  obtain ⟨x5, hq5, hR⟩ := kk_bd_el hR
  refine kk_cut (g := g) (A := A) (w' := (w_P g a P)) (nL := 3) (lv := []) (pcJ := 27) (st := [.int x5]) (fun H locs ls hP hD hS hl => ?_) (fun hj5 => ?_)
  · refine lv_istore_n (lv' := [(2, .int x5)]) hx hb dX2_countedHeight_27 rfl hl (by decide) rfl (fun ls hl => ?_)
    refine lv_iload_n hx hb dX2_countedHeight_28 rfl (lv_at hl 0 rfl) ?_
    refine lv_bipush (v := (10 : Int32)) hx hb dX2_countedHeight_29 (by decide) ?_
    refine lv_icmp_ge (tgt := 39) hx hb dX2_countedHeight_31 (by decide) (fun c9 => ?_) (fun c9 => ?_)
    · replace hR := (if_pos c9).symm.trans hR
      refine lv_iload_n hx hb dX2_countedHeight_39 rfl (lv_at hl 0 rfl) ?_
      obtain rfl := Option.some.inj hR
      exact kk_ret_i hC hr hlocks hK hP hD hS dX2_countedHeight_40 rfl
    · replace hR := (if_neg c9).symm.trans hR
      refine lv_bipush (v := (10 : Int32)) hx hb dX2_countedHeight_34 (by decide) ?_
      refine lv_goto (tgt := 40) hx hb dX2_countedHeight_36 (by decide) ?_
      obtain rfl := Option.some.inj hR
      exact kk_ret_i hC hr hlocks hK hP hD hS dX2_countedHeight_40 rfl
  replace hR := hq5
  refine lv_if_eq (tgt := 21) hx hb dX2_countedHeight_6 (by decide) (fun c6 => ?_) (fun c6 => ?_)
  · replace hR := (if_pos c6).symm.trans hR
    refine lv_aload_n hx hb dX2_countedHeight_21 rfl (lv_at hl 0 rfl) ?_
    refine va_get (ci := 2) (C := RX2) (T := TX2) (N := 11) hx hb hts hw2 hown hK hP 0 rfl rfl 2 (by decide) hl1 (fun _ h9 => h9) rfl dX2_countedHeight_22 ?_
    refine lv_iload_n hx hb dX2_countedHeight_25 rfl (lv_at hl 1 rfl) ?_
    obtain ⟨hi7, hR⟩ := kk_ck_el hR
    refine va_iald hx hb hK hP 2 0 rfl rfl hi7 dX2_countedHeight_26 ?_
    obtain rfl := Option.some.inj hR
    exact hj5 _ _ _ hP hD hS (lv_sub hl [] rfl)
  · replace hR := (if_neg c6).symm.trans hR
    refine lv_aload_n hx hb dX2_countedHeight_9 rfl (lv_at hl 0 rfl) ?_
    refine va_get (ci := 2) (C := RX2) (T := TX2) (N := 11) hx hb hts hw2 hown hK hP 0 rfl rfl 2 (by decide) hl1 (fun _ h9 => h9) rfl dX2_countedHeight_10 ?_
    refine lv_iload_n hx hb dX2_countedHeight_13 rfl (lv_at hl 1 rfl) ?_
    obtain ⟨hi8, hR⟩ := kk_ck_el hR
    refine va_iald hx hb hK hP 2 0 rfl rfl hi8 dX2_countedHeight_14 ?_
    refine lv_bipush (v := (20 : Int32)) hx hb dX2_countedHeight_15 (by decide) ?_
    refine lv_isub hx hb dX2_countedHeight_17 ?_
    refine lv_goto (tgt := 27) hx hb dX2_countedHeight_18 (by decide) ?_
    obtain rfl := Option.some.inj hR
    exact hj5 _ _ _ hP hD hS (lv_sub hl [] rfl)
set_option maxHeartbeats 8000000 in
set_option maxRecDepth 100000 in
theorem sX2_shying (l : Launch) (g : kG) (n : Nat) (a : Nat → Nat) (P : St1) (v1 : Int32) (r : Int32) (hR : fX2_shying n P v1 = some r) : kSp l g yX2_shying wsX2_shying ({ frames := 0, cells := 0, slots := 0, locals := 0 }) [.ref (a 0), .int v1] (w_P g a P) (kQi g (w_P g a P) r) := by
  refine kSp.of (cc := cX2_shying) (maxL := 3) (ret := (some .int)) (by decide) rfl (Nat.le_of_ble_eq_true rfl) ?_
  intro p e s m args below meth c ls A hC hr hlocks hA hK hl hP hD hS
  replace hC : CallFix p m c cX2_shying 3 s args wsX2_shying RX2 := hC
  obtain ⟨hx, hb, hml, hown, hts⟩ := id hC
  replace hl : lv_has ls 3 [(0, .ref (a 0)), (1, .int v1)] := hl
  unfold fX2_shying at hR
  have hw2 : ∀ w ∈ wsX20, w ∈ wsX2_shying := by decide +kernel
  have hl0 := hts (.fieldLink RX2 22 "FloatOrder$Parade" "masks" "[I") (by decide +kernel)
  have hl1 := hts (.fieldLink RX2 15 "FloatOrder$Parade" "kinds" "[I") (by decide +kernel)
  refine lv_iconst (v := (0 : Int32)) hx hb dX2_shying_0 (by decide) ?_
  refine lv_istore_n (lv' := [(2, .int (0 : Int32)), (0, .ref (a 0)), (1, .int v1)]) hx hb dX2_shying_1 rfl hl (by decide) rfl (fun ls hl => ?_)
  refine lv_iload_n hx hb dX2_shying_2 rfl (lv_at hl 2 rfl) ?_
  refine lv_iconst (v := (1 : Int32)) hx hb dX2_shying_3 (by decide) ?_
  obtain ⟨x5, hq5, hR⟩ := kk_bd_el hR
  refine kk_cut (g := g) (A := A) (w' := (w_P g a P)) (nL := 3) (lv := [(2, .int x5), (0, .ref (a 0)), (1, .int v1)]) (pcJ := 31) (st := []) (fun H locs ls hP hD hS hl => ?_) (fun hj5 => ?_)
  · refine lv_iload_n hx hb dX2_shying_31 rfl (lv_at hl 2 rfl) ?_
    refine lv_iconst (v := (2 : Int32)) hx hb dX2_shying_32 (by decide) ?_
    refine lv_icmp_lt (tgt := 60) hx hb dX2_shying_33 (by decide) (fun c10 => ?_) (fun c10 => ?_)
    · replace hR := (if_pos c10).symm.trans hR
      refine lv_iload_n hx hb dX2_shying_60 rfl (lv_at hl 0 rfl) ?_
      obtain rfl := Option.some.inj hR
      exact kk_ret_i hC hr hlocks hK hP hD hS dX2_shying_61 rfl
    · replace hR := (if_neg c10).symm.trans hR
      refine lv_aload_n hx hb dX2_shying_36 rfl (lv_at hl 1 rfl) ?_
      refine va_get (ci := 2) (C := RX2) (T := TX2) (N := 11) hx hb hts hw2 hown hK hP 0 rfl rfl 3 (by decide) hl0 (fun _ h9 => h9) rfl dX2_shying_37 ?_
      refine lv_iload_n hx hb dX2_shying_40 rfl (lv_at hl 2 rfl) ?_
      obtain ⟨hi11, hR⟩ := kk_ck_el hR
      refine va_iald hx hb hK hP 3 0 rfl rfl hi11 dX2_shying_41 ?_
      refine lv_aload_n hx hb dX2_shying_42 rfl (lv_at hl 1 rfl) ?_
      refine va_get (ci := 2) (C := RX2) (T := TX2) (N := 11) hx hb hts hw2 hown hK hP 0 rfl rfl 1 (by decide) hl1 (fun _ h9 => h9) rfl dX2_shying_43 ?_
      refine lv_iload_n hx hb dX2_shying_46 rfl (lv_at hl 2 rfl) ?_
      refine lv_iconst (v := (2 : Int32)) hx hb dX2_shying_47 (by decide) ?_
      refine lv_isub hx hb dX2_shying_48 ?_
      obtain ⟨hi12, hR⟩ := kk_ck_el hR
      refine va_iald hx hb hK hP 1 0 rfl rfl hi12 dX2_shying_49 ?_
      refine lv_ishr hx hb dX2_shying_50 ?_
      refine lv_iconst (v := (1 : Int32)) hx hb dX2_shying_51 (by decide) ?_
      refine lv_iand hx hb dX2_shying_52 ?_
      refine lv_iconst (v := (1 : Int32)) hx hb dX2_shying_53 (by decide) ?_
      refine lv_icmp_ne (tgt := 60) hx hb dX2_shying_54 (by decide) (fun c13 => ?_) (fun c13 => ?_)
      · replace hR := (if_neg c13).symm.trans hR
        refine lv_iload_n hx hb dX2_shying_60 rfl (lv_at hl 0 rfl) ?_
        obtain rfl := Option.some.inj hR
        exact kk_ret_i hC hr hlocks hK hP hD hS dX2_shying_61 rfl
      · replace hR := (if_pos c13).symm.trans hR
        refine lv_iinc (v := (x5 + (1 : Int32))) (lv' := [(2, .int (x5 + (1 : Int32))), (0, .ref (a 0)), (1, .int v1)]) hx hb dX2_shying_57 hl (k := 0) rfl rfl (by decide) rfl (fun ls hl => ?_)
        refine lv_iload_n hx hb dX2_shying_60 rfl (lv_at hl 0 rfl) ?_
        obtain rfl := Option.some.inj hR
        exact kk_ret_i hC hr hlocks hK hP hD hS dX2_shying_61 rfl
  replace hR := hq5
  refine lv_icmp_lt (tgt := 31) hx hb dX2_shying_4 (by decide) (fun c6 => ?_) (fun c6 => ?_)
  · replace hR := (if_pos c6).symm.trans hR
    obtain rfl := Option.some.inj hR
    exact hj5 _ _ _ hP hD hS (lv_sub hl [0, 1, 2] rfl)
  · replace hR := (if_neg c6).symm.trans hR
    refine lv_aload_n hx hb dX2_shying_7 rfl (lv_at hl 1 rfl) ?_
    refine va_get (ci := 2) (C := RX2) (T := TX2) (N := 11) hx hb hts hw2 hown hK hP 0 rfl rfl 3 (by decide) hl0 (fun _ h9 => h9) rfl dX2_shying_8 ?_
    refine lv_iload_n hx hb dX2_shying_11 rfl (lv_at hl 2 rfl) ?_
    obtain ⟨hi7, hR⟩ := kk_ck_el hR
    refine va_iald hx hb hK hP 3 0 rfl rfl hi7 dX2_shying_12 ?_
    refine lv_aload_n hx hb dX2_shying_13 rfl (lv_at hl 1 rfl) ?_
    refine va_get (ci := 2) (C := RX2) (T := TX2) (N := 11) hx hb hts hw2 hown hK hP 0 rfl rfl 1 (by decide) hl1 (fun _ h9 => h9) rfl dX2_shying_14 ?_
    refine lv_iload_n hx hb dX2_shying_17 rfl (lv_at hl 2 rfl) ?_
    refine lv_iconst (v := (1 : Int32)) hx hb dX2_shying_18 (by decide) ?_
    refine lv_isub hx hb dX2_shying_19 ?_
    obtain ⟨hi8, hR⟩ := kk_ck_el hR
    refine va_iald hx hb hK hP 1 0 rfl rfl hi8 dX2_shying_20 ?_
    refine lv_ishr hx hb dX2_shying_21 ?_
    refine lv_iconst (v := (1 : Int32)) hx hb dX2_shying_22 (by decide) ?_
    refine lv_iand hx hb dX2_shying_23 ?_
    refine lv_iconst (v := (1 : Int32)) hx hb dX2_shying_24 (by decide) ?_
    refine lv_icmp_ne (tgt := 31) hx hb dX2_shying_25 (by decide) (fun c9 => ?_) (fun c9 => ?_)
    · replace hR := (if_neg c9).symm.trans hR
      obtain rfl := Option.some.inj hR
      exact hj5 _ _ _ hP hD hS (lv_sub hl [0, 1, 2] rfl)
    · replace hR := (if_pos c9).symm.trans hR
      refine lv_iinc (v := ((0 : Int32) + (3 : Int32))) (lv' := [(2, .int ((0 : Int32) + (3 : Int32))), (0, .ref (a 0)), (1, .int v1)]) hx hb dX2_shying_28 hl (k := 0) rfl rfl (by decide) rfl (fun ls hl => ?_)
      obtain rfl := Option.some.inj hR
      exact hj5 _ _ _ hP hD hS (lv_sub hl [0, 1, 2] rfl)
set_option maxHeartbeats 8000000 in
set_option maxRecDepth 100000 in
theorem sX2_hearing (l : Launch) (g : kG) (n : Nat) (a : Nat → Nat) (P : St1) (v1 : Int32) (r : Int32) (hR : fX2_hearing n P v1 = some r) : kSp l g yX2_hearing wsX2_hearing ({ frames := 0, cells := 0, slots := 0, locals := 0 }) [.ref (a 0), .int v1] (w_P g a P) (kQi g (w_P g a P) r) := by
  refine kSp.of (cc := cX2_hearing) (maxL := 4) (ret := (some .int)) (by decide) rfl (Nat.le_of_ble_eq_true rfl) ?_
  intro p e s m args below meth c ls A hC hr hlocks hA hK hl hP hD hS
  replace hC : CallFix p m c cX2_hearing 4 s args wsX2_hearing RX2 := hC
  obtain ⟨hx, hb, hml, hown, hts⟩ := id hC
  replace hl : lv_has ls 4 [(0, .ref (a 0)), (1, .int v1)] := hl
  unfold fX2_hearing at hR
  have hw2 : ∀ w ∈ wsX20, w ∈ wsX2_hearing := by decide +kernel
  have hl0 := hts (.fieldLink RX2 15 "FloatOrder$Parade" "kinds" "[I") (by decide +kernel)
  have hl1 := hts (.fieldLink RX2 38 "FloatOrder$Parade" "settings" "[I") (by decide +kernel)
  refine lv_iconst (v := (0 : Int32)) hx hb dX2_hearing_0 (by decide) ?_
  refine lv_istore_n (lv' := [(2, .int (0 : Int32)), (0, .ref (a 0)), (1, .int v1)]) hx hb dX2_hearing_1 rfl hl (by decide) rfl (fun ls hl => ?_)
  refine lv_aload_n hx hb dX2_hearing_2 rfl (lv_at hl 1 rfl) ?_
  refine va_get (ci := 2) (C := RX2) (T := TX2) (N := 11) hx hb hts hw2 hown hK hP 0 rfl rfl 1 (by decide) hl0 (fun _ h9 => h9) rfl dX2_hearing_3 ?_
  refine lv_iload_n hx hb dX2_hearing_6 rfl (lv_at hl 2 rfl) ?_
  obtain ⟨hi1, hR⟩ := kk_ck_el hR
  refine va_iald hx hb hK hP 1 0 rfl rfl hi1 dX2_hearing_7 ?_
  refine lv_iconst (v := (2 : Int32)) hx hb dX2_hearing_8 (by decide) ?_
  refine lv_icmp_ne (tgt := 50) hx hb dX2_hearing_9 (by decide) (fun c2 => ?_) (fun c2 => ?_)
  · replace hR := (if_neg c2).symm.trans hR
    refine lv_iload_n hx hb dX2_hearing_50 rfl (lv_at hl 0 rfl) ?_
    obtain rfl := Option.some.inj hR
    exact kk_ret_i hC hr hlocks hK hP hD hS dX2_hearing_51 rfl
  · replace hR := (if_pos c2).symm.trans hR
    refine lv_iconst (v := (1 : Int32)) hx hb dX2_hearing_12 (by decide) ?_
    refine lv_istore_n (lv' := [(3, .int (1 : Int32)), (2, .int (0 : Int32)), (0, .ref (a 0)), (1, .int v1)]) hx hb dX2_hearing_13 rfl hl (by decide) rfl (fun ls hl => ?_)
    obtain ⟨x13, hq13, hR⟩ := kk_bd_el hR
    refine kk_cut (g := g) (A := A) (w' := (w_P g a P)) (nL := 4) (lv := [(2, .int x13)]) (pcJ := 50) (st := []) (fun H locs ls hP hD hS hl => ?_) (fun hj13 => ?_)
    · refine lv_iload_n hx hb dX2_hearing_50 rfl (lv_at hl 0 rfl) ?_
      obtain rfl := Option.some.inj hR
      exact kk_ret_i hC hr hlocks hK hP hD hS dX2_hearing_51 rfl
    refine kk_loop (g := g) (A := A) (fun (st : Int32 × Int32) => (w_P g a P)) (fun (st : Int32 × Int32) => [(3, .int st.2), (2, .int st.1), (0, .ref (a 0)), (1, .int v1)]) 14 (nL := 4) hq13 (fun st xb12 hR ih1 hX1 => ?_) hP hD hS (lv_sub hl [0, 1, 2, 3] rfl)
    clear hP hD hS hl
    obtain ⟨u10, u11⟩ := st
    intro H locs ls hP hD hS hl
    replace hR : fX2_hearing_b14 n P v1 u10 u11 = some xb12 := hR
    replace hP : va_P g.1 vwCl (w_P g a P) H := hP
    replace hD : va_D A (w_P g a P) := hD
    replace hl : lv_has ls 4 [(3, .int u11), (2, .int u10), (0, .ref (a 0)), (1, .int v1)] := hl
    unfold fX2_hearing_b14 at hR
    refine lv_iload_n hx hb dX2_hearing_14 rfl (lv_at hl 0 rfl) ?_
    refine lv_aload_n hx hb dX2_hearing_15 rfl (lv_at hl 2 rfl) ?_
    refine va_get (ci := 2) (C := RX2) (T := TX2) (N := 11) hx hb hts hw2 hown hK hP 0 rfl rfl 8 (by decide) hl1 (fun _ h9 => h9) rfl dX2_hearing_16 ?_
    refine lv_iconst (v := (0 : Int32)) hx hb dX2_hearing_19 (by decide) ?_
    refine va_iald hx hb hK hP 7 0 rfl rfl (kk_in 0 4 (by decide) (by decide) rfl) dX2_hearing_20 ?_
    refine lv_icmp_ge (tgt := 50) hx hb dX2_hearing_21 (by decide) (fun c14 => ?_) (fun c14 => ?_)
    · replace hR := (if_pos c14).symm.trans hR
      obtain rfl := Option.some.inj hR
      obtain rfl := hX1 _ rfl
      exact hj13 _ _ _ hP hD hS (lv_sub hl [1] rfl)
    · replace hR := (if_neg c14).symm.trans hR
      refine lv_iload_n hx hb dX2_hearing_24 rfl (lv_at hl 0 rfl) ?_
      refine lv_iload_n hx hb dX2_hearing_25 rfl (lv_at hl 3 rfl) ?_
      refine lv_icmp_gt (tgt := 50) hx hb dX2_hearing_26 (by decide) (fun c15 => ?_) (fun c15 => ?_)
      · replace hR := (if_pos c15).symm.trans hR
        obtain rfl := Option.some.inj hR
        obtain rfl := hX1 _ rfl
        exact hj13 _ _ _ hP hD hS (lv_sub hl [1] rfl)
      · replace hR := (if_neg c15).symm.trans hR
        refine lv_aload_n hx hb dX2_hearing_29 rfl (lv_at hl 2 rfl) ?_
        refine va_get (ci := 2) (C := RX2) (T := TX2) (N := 11) hx hb hts hw2 hown hK hP 0 rfl rfl 1 (by decide) hl0 (fun _ h9 => h9) rfl dX2_hearing_30 ?_
        refine lv_iload_n hx hb dX2_hearing_33 rfl (lv_at hl 3 rfl) ?_
        refine lv_iload_n hx hb dX2_hearing_34 rfl (lv_at hl 0 rfl) ?_
        refine lv_isub hx hb dX2_hearing_35 ?_
        obtain ⟨hi16, hR⟩ := kk_ck_el hR
        refine va_iald hx hb hK hP 1 0 rfl rfl hi16 dX2_hearing_36 ?_
        refine lv_iconst (v := (2 : Int32)) hx hb dX2_hearing_37 (by decide) ?_
        refine lv_icmp_ne (tgt := 44) hx hb dX2_hearing_38 (by decide) (fun c17 => ?_) (fun c17 => ?_)
        · replace hR := (if_neg c17).symm.trans hR
          refine lv_iinc (v := (u11 + (1 : Int32))) (lv' := [(3, .int (u11 + (1 : Int32))), (2, .int u10), (0, .ref (a 0)), (1, .int v1)]) hx hb dX2_hearing_44 hl (k := 0) rfl rfl (by decide) rfl (fun ls hl => ?_)
          refine lv_goto (tgt := 14) hx hb dX2_hearing_47 (by decide) ?_
          obtain rfl := Option.some.inj hR
          exact ih1 _ rfl _ _ _ hP hD hS (lv_sub hl [0, 1, 2, 3] rfl)
        · replace hR := (if_pos c17).symm.trans hR
          refine lv_iinc (v := (u10 + (1 : Int32))) (lv' := [(2, .int (u10 + (1 : Int32))), (3, .int u11), (0, .ref (a 0)), (1, .int v1)]) hx hb dX2_hearing_41 hl (k := 1) rfl rfl (by decide) rfl (fun ls hl => ?_)
          refine lv_iinc (v := (u11 + (1 : Int32))) (lv' := [(3, .int (u11 + (1 : Int32))), (2, .int (u10 + (1 : Int32))), (0, .ref (a 0)), (1, .int v1)]) hx hb dX2_hearing_44 hl (k := 1) rfl rfl (by decide) rfl (fun ls hl => ?_)
          refine lv_goto (tgt := 14) hx hb dX2_hearing_47 (by decide) ?_
          obtain rfl := Option.some.inj hR
          exact ih1 _ rfl _ _ _ hP hD hS (lv_sub hl [0, 1, 2, 3] rfl)
set_option maxHeartbeats 8000000 in
set_option maxRecDepth 100000 in
theorem sX2_meeting (l : Launch) (g : kG) (n : Nat) (a : Nat → Nat) (P : St1) (v1 : Int32) (r : Int32) (hR : fX2_meeting n P v1 = some r) : kSp l g yX2_meeting wsX2_meeting ({ frames := 0, cells := 0, slots := 0, locals := 0 }) [.ref (a 0), .int v1] (w_P g a P) (kQi g (w_P g a P) r) := by
  refine kSp.of (cc := cX2_meeting) (maxL := 2) (ret := (some .int)) (by decide) rfl (Nat.le_of_ble_eq_true rfl) ?_
  intro p e s m args below meth c ls A hC hr hlocks hA hK hl hP hD hS
  replace hC : CallFix p m c cX2_meeting 2 s args wsX2_meeting RX2 := hC
  obtain ⟨hx, hb, hml, hown, hts⟩ := id hC
  replace hl : lv_has ls 2 [(0, .ref (a 0)), (1, .int v1)] := hl
  unfold fX2_meeting at hR
  have hw2 : ∀ w ∈ wsX20, w ∈ wsX2_meeting := by decide +kernel
  have hl0 := hts (.fieldLink RX2 15 "FloatOrder$Parade" "kinds" "[I") (by decide +kernel)
  refine lv_iload_n hx hb dX2_meeting_0 rfl (lv_at hl 1 rfl) ?_
  refine lv_iconst (v := (1 : Int32)) hx hb dX2_meeting_1 (by decide) ?_
  refine lv_icmp_lt (tgt := 31) hx hb dX2_meeting_2 (by decide) (fun c1 => ?_) (fun c1 => ?_)
  · replace hR := (if_pos c1).symm.trans hR
    refine lv_iconst (v := (0 : Int32)) hx hb dX2_meeting_31 (by decide) ?_
    obtain rfl := Option.some.inj hR
    exact kk_ret_i hC hr hlocks hK hP hD hS dX2_meeting_32 rfl
  · replace hR := (if_neg c1).symm.trans hR
    refine lv_aload_n hx hb dX2_meeting_5 rfl (lv_at hl 0 rfl) ?_
    refine va_get (ci := 2) (C := RX2) (T := TX2) (N := 11) hx hb hts hw2 hown hK hP 0 rfl rfl 1 (by decide) hl0 (fun _ h9 => h9) rfl dX2_meeting_6 ?_
    refine lv_iload_n hx hb dX2_meeting_9 rfl (lv_at hl 1 rfl) ?_
    obtain ⟨hi2, hR⟩ := kk_ck_el hR
    refine va_iald hx hb hK hP 1 0 rfl rfl hi2 dX2_meeting_10 ?_
    refine lv_iconst (v := (3 : Int32)) hx hb dX2_meeting_11 (by decide) ?_
    refine lv_icmp_ne (tgt := 31) hx hb dX2_meeting_12 (by decide) (fun c3 => ?_) (fun c3 => ?_)
    · replace hR := (if_neg c3).symm.trans hR
      refine lv_iconst (v := (0 : Int32)) hx hb dX2_meeting_31 (by decide) ?_
      obtain rfl := Option.some.inj hR
      exact kk_ret_i hC hr hlocks hK hP hD hS dX2_meeting_32 rfl
    · replace hR := (if_pos c3).symm.trans hR
      refine lv_aload_n hx hb dX2_meeting_15 rfl (lv_at hl 0 rfl) ?_
      refine va_get (ci := 2) (C := RX2) (T := TX2) (N := 11) hx hb hts hw2 hown hK hP 0 rfl rfl 1 (by decide) hl0 (fun _ h9 => h9) rfl dX2_meeting_16 ?_
      refine lv_iload_n hx hb dX2_meeting_19 rfl (lv_at hl 1 rfl) ?_
      refine lv_iconst (v := (1 : Int32)) hx hb dX2_meeting_20 (by decide) ?_
      refine lv_isub hx hb dX2_meeting_21 ?_
      obtain ⟨hi4, hR⟩ := kk_ck_el hR
      refine va_iald hx hb hK hP 1 0 rfl rfl hi4 dX2_meeting_22 ?_
      refine lv_iconst (v := (3 : Int32)) hx hb dX2_meeting_23 (by decide) ?_
      refine lv_icmp_ne (tgt := 31) hx hb dX2_meeting_24 (by decide) (fun c5 => ?_) (fun c5 => ?_)
      · replace hR := (if_neg c5).symm.trans hR
        refine lv_iconst (v := (0 : Int32)) hx hb dX2_meeting_31 (by decide) ?_
        obtain rfl := Option.some.inj hR
        exact kk_ret_i hC hr hlocks hK hP hD hS dX2_meeting_32 rfl
      · replace hR := (if_pos c5).symm.trans hR
        refine lv_iconst (v := (2 : Int32)) hx hb dX2_meeting_27 (by decide) ?_
        refine lv_goto (tgt := 32) hx hb dX2_meeting_28 (by decide) ?_
        obtain rfl := Option.some.inj hR
        exact kk_ret_i hC hr hlocks hK hP hD hS dX2_meeting_32 rfl
set_option maxHeartbeats 8000000 in
set_option maxRecDepth 100000 in
theorem sX2_troubleAt (l : Launch) (g : kG) (n : Nat) (a : Nat → Nat) (P : St1) (v1 : Int32) (r : Int32) (hR : fX2_troubleAt n P v1 = some r) : kSp l g yX2_troubleAt wsX2_troubleAt ({ frames := 1, cells := 0, slots := 0, locals := 23 }) [.ref (a 0), .int v1] (w_P g a P) (kQi g (w_P g a P) r) := by
  refine kSp.of (cc := cX2_troubleAt) (maxL := 2) (ret := (some .int)) (by decide) rfl (Nat.le_of_ble_eq_true rfl) ?_
  intro p e s m args below meth c ls A hC hr hlocks hA hK hl hP hD hS
  replace hC : CallFix p m c cX2_troubleAt 2 s args wsX2_troubleAt RX2 := hC
  obtain ⟨hx, hb, hml, hown, hts⟩ := id hC
  replace hl : lv_has ls 2 [(0, .ref (a 0)), (1, .int v1)] := hl
  unfold fX2_troubleAt at hR
  refine lv_aload_n hx hb dX2_troubleAt_0 rfl (lv_at hl 0 rfl) ?_
  refine lv_iload_n hx hb dX2_troubleAt_1 rfl (lv_at hl 1 rfl) ?_
  obtain ⟨x1, hq1, hR⟩ := kk_bd_el hR
  refine kk_call_Vi (w' := (w_P g a P)) (As := [.int v1]) (rest := []) 0 2 hC (sX2_shying l g n a P v1 x1 hq1) (cwV 1 hts gX2_troubleAt_X2_shying rfl rfl rfl (by decide +kernel) ⟨Nat.le_of_ble_eq_true rfl, Nat.le_of_ble_eq_true rfl⟩) hK hP hD hS hA [0, 1, 2, 3, 4, 5, 6, 7, 8, 9] rfl (by decide +kernel) rfl rfl rfl rfl rfl rfl rfl hl.1 (Nat.le_of_ble_eq_true rfl) dX2_troubleAt_2 (fun H locs hP hD hS => ?_)
  refine lv_aload_n hx hb dX2_troubleAt_5 rfl (lv_at hl 0 rfl) ?_
  refine lv_iload_n hx hb dX2_troubleAt_6 rfl (lv_at hl 1 rfl) ?_
  obtain ⟨x2, hq2, hR⟩ := kk_bd_el hR
  refine kk_call_Vi (w' := (w_P g a P)) (As := [.int v1]) (rest := [.int x1]) 0 2 hC (sX2_hearing l g n a P v1 x2 hq2) (cwV 1 hts gX2_troubleAt_X2_hearing rfl rfl rfl (by decide +kernel) ⟨Nat.le_of_ble_eq_true rfl, Nat.le_of_ble_eq_true rfl⟩) hK hP hD hS hA [0, 1, 2, 3, 4, 5, 6, 7, 8, 9] rfl (by decide +kernel) rfl rfl rfl rfl rfl rfl rfl hl.1 (Nat.le_of_ble_eq_true rfl) dX2_troubleAt_7 (fun H locs hP hD hS => ?_)
  refine lv_iadd hx hb dX2_troubleAt_10 ?_
  refine lv_aload_n hx hb dX2_troubleAt_11 rfl (lv_at hl 0 rfl) ?_
  refine lv_iload_n hx hb dX2_troubleAt_12 rfl (lv_at hl 1 rfl) ?_
  obtain ⟨x3, hq3, hR⟩ := kk_bd_el hR
  refine kk_call_Vi (w' := (w_P g a P)) (As := [.int v1]) (rest := [.int (x1 + x2)]) 0 2 hC (sX2_meeting l g n a P v1 x3 hq3) (cwV 1 hts gX2_troubleAt_X2_meeting rfl rfl rfl (by decide +kernel) ⟨Nat.le_of_ble_eq_true rfl, Nat.le_of_ble_eq_true rfl⟩) hK hP hD hS hA [0, 1, 2, 3, 4, 5, 6, 7, 8, 9] rfl (by decide +kernel) rfl rfl rfl rfl rfl rfl rfl hl.1 (Nat.le_of_ble_eq_true rfl) dX2_troubleAt_13 (fun H locs hP hD hS => ?_)
  refine lv_iadd hx hb dX2_troubleAt_16 ?_
  obtain rfl := Option.some.inj hR
  exact kk_ret_i hC hr hlocks hK hP hD hS dX2_troubleAt_17 rfl
set_option maxHeartbeats 8000000 in
set_option maxRecDepth 100000 in
theorem sX2_troubleBy (l : Launch) (g : kG) (n : Nat) (a : Nat → Nat) (P : St1) (v1 : Int32) (v2 : Int32) (r : Int32) (hR : fX2_troubleBy n P v1 v2 = some r) : kSp l g yX2_troubleBy wsX2_troubleBy ({ frames := 1, cells := 0, slots := 0, locals := 23 }) [.ref (a 0), .int v1, .int v2] (w_P g a P) (kQi g (w_P g a P) r) := by
  refine kSp.of (cc := cX2_troubleBy) (maxL := 3) (ret := (some .int)) (by decide) rfl (Nat.le_of_ble_eq_true rfl) ?_
  intro p e s m args below meth c ls A hC hr hlocks hA hK hl hP hD hS
  replace hC : CallFix p m c cX2_troubleBy 3 s args wsX2_troubleBy RX2 := hC
  obtain ⟨hx, hb, hml, hown, hts⟩ := id hC
  replace hl : lv_has ls 3 [(0, .ref (a 0)), (1, .int v1), (2, .int v2)] := hl
  unfold fX2_troubleBy at hR
  refine lv_iload_n hx hb dX2_troubleBy_0 rfl (lv_at hl 2 rfl) ?_
  by_cases c1 : v2 = (0 : Int32)
  · replace hR := (if_pos c1).symm.trans hR
    refine lv_lookup (off := 27) (tgt := 28) hx hb dX2_troubleBy_1 (by decide) (by rw [c1]; rfl) (by decide) ?_
    refine lv_aload_n hx hb dX2_troubleBy_28 rfl (lv_at hl 0 rfl) ?_
    refine lv_iload_n hx hb dX2_troubleBy_29 rfl (lv_at hl 1 rfl) ?_
    obtain ⟨x2, hq2, hR⟩ := kk_bd_el hR
    refine kk_call_Vi (w' := (w_P g a P)) (As := [.int v1]) (rest := []) 0 2 hC (sX2_shying l g n a P v1 x2 hq2) (cwV 1 hts gX2_troubleBy_X2_shying rfl rfl rfl (by decide +kernel) ⟨Nat.le_of_ble_eq_true rfl, Nat.le_of_ble_eq_true rfl⟩) hK hP hD hS hA [0, 1, 2, 3, 4, 5, 6, 7, 8, 9] rfl (by decide +kernel) rfl rfl rfl rfl rfl rfl rfl hl.1 (Nat.le_of_ble_eq_true rfl) dX2_troubleBy_30 (fun H locs hP hD hS => ?_)
    obtain rfl := Option.some.inj hR
    exact kk_ret_i hC hr hlocks hK hP hD hS dX2_troubleBy_33 rfl
  replace hR := (if_neg c1).symm.trans hR
  by_cases c3 : v2 = (1 : Int32)
  · replace hR := (if_pos c3).symm.trans hR
    refine lv_lookup (off := 33) (tgt := 34) hx hb dX2_troubleBy_1 (by decide) (by rw [c3]; rfl) (by decide) ?_
    refine lv_aload_n hx hb dX2_troubleBy_34 rfl (lv_at hl 0 rfl) ?_
    refine lv_iload_n hx hb dX2_troubleBy_35 rfl (lv_at hl 1 rfl) ?_
    obtain ⟨x4, hq4, hR⟩ := kk_bd_el hR
    refine kk_call_Vi (w' := (w_P g a P)) (As := [.int v1]) (rest := []) 0 2 hC (sX2_hearing l g n a P v1 x4 hq4) (cwV 1 hts gX2_troubleBy_X2_hearing rfl rfl rfl (by decide +kernel) ⟨Nat.le_of_ble_eq_true rfl, Nat.le_of_ble_eq_true rfl⟩) hK hP hD hS hA [0, 1, 2, 3, 4, 5, 6, 7, 8, 9] rfl (by decide +kernel) rfl rfl rfl rfl rfl rfl rfl hl.1 (Nat.le_of_ble_eq_true rfl) dX2_troubleBy_36 (fun H locs hP hD hS => ?_)
    obtain rfl := Option.some.inj hR
    exact kk_ret_i hC hr hlocks hK hP hD hS dX2_troubleBy_39 rfl
  replace hR := (if_neg c3).symm.trans hR
  refine lv_lookup (off := 39) (tgt := 40) hx hb dX2_troubleBy_1 (by decide) ((lv_osw c1 rfl).trans ((lv_osw c3 rfl).trans (rfl))) (by decide) ?_
  refine lv_aload_n hx hb dX2_troubleBy_40 rfl (lv_at hl 0 rfl) ?_
  refine lv_iload_n hx hb dX2_troubleBy_41 rfl (lv_at hl 1 rfl) ?_
  obtain ⟨x5, hq5, hR⟩ := kk_bd_el hR
  refine kk_call_Vi (w' := (w_P g a P)) (As := [.int v1]) (rest := []) 0 2 hC (sX2_meeting l g n a P v1 x5 hq5) (cwV 1 hts gX2_troubleBy_X2_meeting rfl rfl rfl (by decide +kernel) ⟨Nat.le_of_ble_eq_true rfl, Nat.le_of_ble_eq_true rfl⟩) hK hP hD hS hA [0, 1, 2, 3, 4, 5, 6, 7, 8, 9] rfl (by decide +kernel) rfl rfl rfl rfl rfl rfl rfl hl.1 (Nat.le_of_ble_eq_true rfl) dX2_troubleBy_42 (fun H locs hP hD hS => ?_)
  obtain rfl := Option.some.inj hR
  exact kk_ret_i hC hr hlocks hK hP hD hS dX2_troubleBy_45 rfl
set_option maxHeartbeats 8000000 in
set_option maxRecDepth 100000 in
theorem sX2_allTrouble (l : Launch) (g : kG) (n : Nat) (a : Nat → Nat) (P : St1) (r : Int32) (hR : fX2_allTrouble n P = some r) : kSp l g yX2_allTrouble wsX2_allTrouble ({ frames := 2, cells := 0, slots := 0, locals := 44 }) [.ref (a 0)] (w_P g a P) (kQi g (w_P g a P) r) := by
  refine kSp.of (cc := cX2_allTrouble) (maxL := 3) (ret := (some .int)) (by decide) rfl (Nat.le_of_ble_eq_true rfl) ?_
  intro p e s m args below meth c ls A hC hr hlocks hA hK hl hP hD hS
  replace hC : CallFix p m c cX2_allTrouble 3 s args wsX2_allTrouble RX2 := hC
  obtain ⟨hx, hb, hml, hown, hts⟩ := id hC
  replace hl : lv_has ls 3 [(0, .ref (a 0))] := hl
  unfold fX2_allTrouble at hR
  have hw2 : ∀ w ∈ wsX20, w ∈ wsX2_allTrouble := by decide +kernel
  have hl0 := hts (.fieldLink RX2 9 "FloatOrder$Parade" "floats" "I") (by decide +kernel)
  refine lv_iconst (v := (0 : Int32)) hx hb dX2_allTrouble_0 (by decide) ?_
  refine lv_istore_n (lv' := [(1, .int (0 : Int32)), (0, .ref (a 0))]) hx hb dX2_allTrouble_1 rfl hl (by decide) rfl (fun ls hl => ?_)
  refine lv_iconst (v := (0 : Int32)) hx hb dX2_allTrouble_2 (by decide) ?_
  refine lv_istore_n (lv' := [(2, .int (0 : Int32)), (1, .int (0 : Int32)), (0, .ref (a 0))]) hx hb dX2_allTrouble_3 rfl hl (by decide) rfl (fun ls hl => ?_)
  obtain ⟨x9, hq9, hR⟩ := kk_bd_el hR
  refine kk_cut (g := g) (A := A) (w' := (w_P g a P)) (nL := 3) (lv := [(1, .int x9)]) (pcJ := 26) (st := []) (fun H locs ls hP hD hS hl => ?_) (fun hj9 => ?_)
  · refine lv_iload_n hx hb dX2_allTrouble_26 rfl (lv_at hl 0 rfl) ?_
    obtain rfl := Option.some.inj hR
    exact kk_ret_i hC hr hlocks hK hP hD hS dX2_allTrouble_27 rfl
  refine kk_loop (g := g) (A := A) (fun (st : Int32 × Int32) => (w_P g a P)) (fun (st : Int32 × Int32) => [(2, .int st.2), (1, .int st.1), (0, .ref (a 0))]) 4 (nL := 3) hq9 (fun st xb8 hR ih1 hX1 => ?_) hP hD hS (lv_sub hl [0, 1, 2] rfl)
  clear hP hD hS hl
  obtain ⟨u6, u7⟩ := st
  intro H locs ls hP hD hS hl
  replace hR : fX2_allTrouble_b4 n P u6 u7 = some xb8 := hR
  replace hP : va_P g.1 vwCl (w_P g a P) H := hP
  replace hD : va_D A (w_P g a P) := hD
  replace hl : lv_has ls 3 [(2, .int u7), (1, .int u6), (0, .ref (a 0))] := hl
  unfold fX2_allTrouble_b4 at hR
  refine lv_iload_n hx hb dX2_allTrouble_4 rfl (lv_at hl 0 rfl) ?_
  refine lv_aload_n hx hb dX2_allTrouble_5 rfl (lv_at hl 2 rfl) ?_
  refine va_get (ci := 2) (C := RX2) (T := TX2) (N := 11) hx hb hts hw2 hown hK hP 0 rfl rfl 0 (by decide) hl0 (fun _ h9 => h9) rfl dX2_allTrouble_6 ?_
  refine lv_icmp_ge (tgt := 26) hx hb dX2_allTrouble_9 (by decide) (fun c10 => ?_) (fun c10 => ?_)
  · replace hR := (if_pos c10).symm.trans hR
    obtain rfl := Option.some.inj hR
    obtain rfl := hX1 _ rfl
    exact hj9 _ _ _ hP hD hS (lv_sub hl [1] rfl)
  · replace hR := (if_neg c10).symm.trans hR
    refine lv_iload_n hx hb dX2_allTrouble_12 rfl (lv_at hl 1 rfl) ?_
    refine lv_aload_n hx hb dX2_allTrouble_13 rfl (lv_at hl 2 rfl) ?_
    refine lv_iload_n hx hb dX2_allTrouble_14 rfl (lv_at hl 0 rfl) ?_
    obtain ⟨x11, hq11, hR⟩ := kk_bd_el hR
    refine kk_call_Vi (w' := (w_P g a P)) (As := [.int u7]) (rest := [.int u6]) 0 2 hC (sX2_troubleAt l g n a P u7 x11 hq11) (cwV 1 hts gX2_allTrouble_X2_troubleAt rfl rfl rfl (by decide +kernel) ⟨Nat.le_of_ble_eq_true rfl, Nat.le_of_ble_eq_true rfl⟩) hK hP hD hS hA [0, 1, 2, 3, 4, 5, 6, 7, 8, 9] rfl (by decide +kernel) rfl rfl rfl rfl rfl rfl rfl hl.1 (Nat.le_of_ble_eq_true rfl) dX2_allTrouble_15 (fun H locs hP hD hS => ?_)
    refine lv_iadd hx hb dX2_allTrouble_18 ?_
    refine lv_istore_n (lv' := [(1, .int (u6 + x11)), (2, .int u7), (0, .ref (a 0))]) hx hb dX2_allTrouble_19 rfl hl (by decide) rfl (fun ls hl => ?_)
    refine lv_iinc (v := (u7 + (1 : Int32))) (lv' := [(2, .int (u7 + (1 : Int32))), (1, .int (u6 + x11)), (0, .ref (a 0))]) hx hb dX2_allTrouble_20 hl (k := 1) rfl rfl (by decide) rfl (fun ls hl => ?_)
    refine lv_goto (tgt := 4) hx hb dX2_allTrouble_23 (by decide) ?_
    obtain rfl := Option.some.inj hR
    exact ih1 _ rfl _ _ _ hP hD hS (lv_sub hl [0, 1, 2] rfl)
set_option maxHeartbeats 8000000 in
set_option maxRecDepth 100000 in
theorem sX2_troubledFloats (l : Launch) (g : kG) (n : Nat) (a : Nat → Nat) (P : St1) (r : Int32) (hR : fX2_troubledFloats n P = some r) : kSp l g yX2_troubledFloats wsX2_troubledFloats ({ frames := 2, cells := 0, slots := 0, locals := 44 }) [.ref (a 0)] (w_P g a P) (kQi g (w_P g a P) r) := by
  refine kSp.of (cc := cX2_troubledFloats) (maxL := 3) (ret := (some .int)) (by decide) rfl (Nat.le_of_ble_eq_true rfl) ?_
  intro p e s m args below meth c ls A hC hr hlocks hA hK hl hP hD hS
  replace hC : CallFix p m c cX2_troubledFloats 3 s args wsX2_troubledFloats RX2 := hC
  obtain ⟨hx, hb, hml, hown, hts⟩ := id hC
  replace hl : lv_has ls 3 [(0, .ref (a 0))] := hl
  unfold fX2_troubledFloats at hR
  have hw2 : ∀ w ∈ wsX20, w ∈ wsX2_troubledFloats := by decide +kernel
  have hl0 := hts (.fieldLink RX2 9 "FloatOrder$Parade" "floats" "I") (by decide +kernel)
  refine lv_iconst (v := (0 : Int32)) hx hb dX2_troubledFloats_0 (by decide) ?_
  refine lv_istore_n (lv' := [(1, .int (0 : Int32)), (0, .ref (a 0))]) hx hb dX2_troubledFloats_1 rfl hl (by decide) rfl (fun ls hl => ?_)
  refine lv_iconst (v := (0 : Int32)) hx hb dX2_troubledFloats_2 (by decide) ?_
  refine lv_istore_n (lv' := [(2, .int (0 : Int32)), (1, .int (0 : Int32)), (0, .ref (a 0))]) hx hb dX2_troubledFloats_3 rfl hl (by decide) rfl (fun ls hl => ?_)
  obtain ⟨x10, hq10, hR⟩ := kk_bd_el hR
  refine kk_cut (g := g) (A := A) (w' := (w_P g a P)) (nL := 3) (lv := [(1, .int x10)]) (pcJ := 29) (st := []) (fun H locs ls hP hD hS hl => ?_) (fun hj10 => ?_)
  · refine lv_iload_n hx hb dX2_troubledFloats_29 rfl (lv_at hl 0 rfl) ?_
    obtain rfl := Option.some.inj hR
    exact kk_ret_i hC hr hlocks hK hP hD hS dX2_troubledFloats_30 rfl
  refine kk_loop (g := g) (A := A) (fun (st : Int32 × Int32) => (w_P g a P)) (fun (st : Int32 × Int32) => [(2, .int st.2), (1, .int st.1), (0, .ref (a 0))]) 4 (nL := 3) hq10 (fun st xb9 hR ih1 hX1 => ?_) hP hD hS (lv_sub hl [0, 1, 2] rfl)
  clear hP hD hS hl
  obtain ⟨u7, u8⟩ := st
  intro H locs ls hP hD hS hl
  replace hR : fX2_troubledFloats_b4 n P u7 u8 = some xb9 := hR
  replace hP : va_P g.1 vwCl (w_P g a P) H := hP
  replace hD : va_D A (w_P g a P) := hD
  replace hl : lv_has ls 3 [(2, .int u8), (1, .int u7), (0, .ref (a 0))] := hl
  unfold fX2_troubledFloats_b4 at hR
  refine lv_iload_n hx hb dX2_troubledFloats_4 rfl (lv_at hl 0 rfl) ?_
  refine lv_aload_n hx hb dX2_troubledFloats_5 rfl (lv_at hl 2 rfl) ?_
  refine va_get (ci := 2) (C := RX2) (T := TX2) (N := 11) hx hb hts hw2 hown hK hP 0 rfl rfl 0 (by decide) hl0 (fun _ h9 => h9) rfl dX2_troubledFloats_6 ?_
  refine lv_icmp_ge (tgt := 29) hx hb dX2_troubledFloats_9 (by decide) (fun c11 => ?_) (fun c11 => ?_)
  · replace hR := (if_pos c11).symm.trans hR
    obtain rfl := Option.some.inj hR
    obtain rfl := hX1 _ rfl
    exact hj10 _ _ _ hP hD hS (lv_sub hl [1] rfl)
  · replace hR := (if_neg c11).symm.trans hR
    refine lv_aload_n hx hb dX2_troubledFloats_12 rfl (lv_at hl 2 rfl) ?_
    refine lv_iload_n hx hb dX2_troubledFloats_13 rfl (lv_at hl 0 rfl) ?_
    obtain ⟨x12, hq12, hR⟩ := kk_bd_el hR
    refine kk_call_Vi (w' := (w_P g a P)) (As := [.int u8]) (rest := []) 0 2 hC (sX2_troubleAt l g n a P u8 x12 hq12) (cwV 1 hts gX2_troubledFloats_X2_troubleAt rfl rfl rfl (by decide +kernel) ⟨Nat.le_of_ble_eq_true rfl, Nat.le_of_ble_eq_true rfl⟩) hK hP hD hS hA [0, 1, 2, 3, 4, 5, 6, 7, 8, 9] rfl (by decide +kernel) rfl rfl rfl rfl rfl rfl rfl hl.1 (Nat.le_of_ble_eq_true rfl) dX2_troubledFloats_14 (fun H locs hP hD hS => ?_)
    refine lv_if_le (tgt := 23) hx hb dX2_troubledFloats_17 (by decide) (fun c13 => ?_) (fun c13 => ?_)
    · replace hR := (if_pos c13).symm.trans hR
      refine lv_iinc (v := (u8 + (1 : Int32))) (lv' := [(2, .int (u8 + (1 : Int32))), (1, .int u7), (0, .ref (a 0))]) hx hb dX2_troubledFloats_23 hl (k := 0) rfl rfl (by decide) rfl (fun ls hl => ?_)
      refine lv_goto (tgt := 4) hx hb dX2_troubledFloats_26 (by decide) ?_
      obtain rfl := Option.some.inj hR
      exact ih1 _ rfl _ _ _ hP hD hS (lv_sub hl [0, 1, 2] rfl)
    · replace hR := (if_neg c13).symm.trans hR
      refine lv_iinc (v := (u7 + (1 : Int32))) (lv' := [(1, .int (u7 + (1 : Int32))), (2, .int u8), (0, .ref (a 0))]) hx hb dX2_troubledFloats_20 hl (k := 1) rfl rfl (by decide) rfl (fun ls hl => ?_)
      refine lv_iinc (v := (u8 + (1 : Int32))) (lv' := [(2, .int (u8 + (1 : Int32))), (1, .int (u7 + (1 : Int32))), (0, .ref (a 0))]) hx hb dX2_troubledFloats_23 hl (k := 1) rfl rfl (by decide) rfl (fun ls hl => ?_)
      refine lv_goto (tgt := 4) hx hb dX2_troubledFloats_26 (by decide) ?_
      obtain rfl := Option.some.inj hR
      exact ih1 _ rfl _ _ _ hP hD hS (lv_sub hl [0, 1, 2] rfl)
set_option maxHeartbeats 8000000 in
set_option maxRecDepth 100000 in
theorem sX2_greatestHeight (l : Launch) (g : kG) (n : Nat) (a : Nat → Nat) (P : St1) (r : Int32) (hR : fX2_greatestHeight n P = some r) : kSp l g yX2_greatestHeight wsX2_greatestHeight ({ frames := 1, cells := 0, slots := 0, locals := 22 }) [.ref (a 0)] (w_P g a P) (kQi g (w_P g a P) r) := by
  refine kSp.of (cc := cX2_greatestHeight) (maxL := 3) (ret := (some .int)) (by decide) rfl (Nat.le_of_ble_eq_true rfl) ?_
  intro p e s m args below meth c ls A hC hr hlocks hA hK hl hP hD hS
  replace hC : CallFix p m c cX2_greatestHeight 3 s args wsX2_greatestHeight RX2 := hC
  obtain ⟨hx, hb, hml, hown, hts⟩ := id hC
  replace hl : lv_has ls 3 [(0, .ref (a 0))] := hl
  unfold fX2_greatestHeight at hR
  have hw2 : ∀ w ∈ wsX20, w ∈ wsX2_greatestHeight := by decide +kernel
  have hl0 := hts (.fieldLink RX2 9 "FloatOrder$Parade" "floats" "I") (by decide +kernel)
  have hl1 := hts (.methodLink RX2 64 Lib.Math.max.name) (by decide +kernel)
  have hl2 := hts (.static Lib.Math.max.name) (by decide +kernel)
  have hl3 := hts (.initialized "java/lang/Math") (by decide +kernel)
  have hl4 := hts (.code Lib.Math.max.name Lib.Math.max.code 2 (some .int)) (by decide +kernel)
  refine lv_iconst (v := (0 : Int32)) hx hb dX2_greatestHeight_0 (by decide) ?_
  refine lv_istore_n (lv' := [(1, .int (0 : Int32)), (0, .ref (a 0))]) hx hb dX2_greatestHeight_1 rfl hl (by decide) rfl (fun ls hl => ?_)
  refine lv_iconst (v := (0 : Int32)) hx hb dX2_greatestHeight_2 (by decide) ?_
  refine lv_istore_n (lv' := [(2, .int (0 : Int32)), (1, .int (0 : Int32)), (0, .ref (a 0))]) hx hb dX2_greatestHeight_3 rfl hl (by decide) rfl (fun ls hl => ?_)
  obtain ⟨x9, hq9, hR⟩ := kk_bd_el hR
  refine kk_cut (g := g) (A := A) (w' := (w_P g a P)) (nL := 3) (lv := [(1, .int x9)]) (pcJ := 28) (st := []) (fun H locs ls hP hD hS hl => ?_) (fun hj9 => ?_)
  · refine lv_iload_n hx hb dX2_greatestHeight_28 rfl (lv_at hl 0 rfl) ?_
    obtain rfl := Option.some.inj hR
    exact kk_ret_i hC hr hlocks hK hP hD hS dX2_greatestHeight_29 rfl
  refine kk_loop (g := g) (A := A) (fun (st : Int32 × Int32) => (w_P g a P)) (fun (st : Int32 × Int32) => [(2, .int st.2), (1, .int st.1), (0, .ref (a 0))]) 4 (nL := 3) hq9 (fun st xb8 hR ih1 hX1 => ?_) hP hD hS (lv_sub hl [0, 1, 2] rfl)
  clear hP hD hS hl
  obtain ⟨u6, u7⟩ := st
  intro H locs ls hP hD hS hl
  replace hR : fX2_greatestHeight_b4 n P u6 u7 = some xb8 := hR
  replace hP : va_P g.1 vwCl (w_P g a P) H := hP
  replace hD : va_D A (w_P g a P) := hD
  replace hl : lv_has ls 3 [(2, .int u7), (1, .int u6), (0, .ref (a 0))] := hl
  unfold fX2_greatestHeight_b4 at hR
  refine lv_iload_n hx hb dX2_greatestHeight_4 rfl (lv_at hl 0 rfl) ?_
  refine lv_aload_n hx hb dX2_greatestHeight_5 rfl (lv_at hl 2 rfl) ?_
  refine va_get (ci := 2) (C := RX2) (T := TX2) (N := 11) hx hb hts hw2 hown hK hP 0 rfl rfl 0 (by decide) hl0 (fun _ h9 => h9) rfl dX2_greatestHeight_6 ?_
  refine lv_icmp_ge (tgt := 28) hx hb dX2_greatestHeight_9 (by decide) (fun c10 => ?_) (fun c10 => ?_)
  · replace hR := (if_pos c10).symm.trans hR
    obtain rfl := Option.some.inj hR
    obtain rfl := hX1 _ rfl
    exact hj9 _ _ _ hP hD hS (lv_sub hl [1] rfl)
  · replace hR := (if_neg c10).symm.trans hR
    refine lv_iload_n hx hb dX2_greatestHeight_12 rfl (lv_at hl 1 rfl) ?_
    refine lv_aload_n hx hb dX2_greatestHeight_13 rfl (lv_at hl 2 rfl) ?_
    refine lv_iload_n hx hb dX2_greatestHeight_14 rfl (lv_at hl 0 rfl) ?_
    obtain ⟨x11, hq11, hR⟩ := kk_bd_el hR
    refine kk_call_Vi (w' := (w_P g a P)) (As := [.int u7]) (rest := [.int u6]) 0 2 hC (sX2_countedHeight l g n a P u7 x11 hq11) (cwV 1 hts gX2_greatestHeight_X2_countedHeight rfl rfl rfl (by decide +kernel) ⟨Nat.le_of_ble_eq_true rfl, Nat.le_of_ble_eq_true rfl⟩) hK hP hD hS hA [0, 1, 2, 3, 4, 5, 6, 7, 8, 9] rfl (by decide +kernel) rfl rfl rfl rfl rfl rfl rfl hl.1 (Nat.le_of_ble_eq_true rfl) dX2_greatestHeight_15 (fun H locs hP hD hS => ?_)
    refine va_mmax hx hb (hml.trans hl.1.symm) hown hl1 hl2 hl3 hl4 (Nat.le_of_ble_eq_true rfl) (Nat.le_of_ble_eq_true rfl) (Nat.zero_le _) (Nat.zero_le _) dX2_greatestHeight_18 ?_
    refine lv_istore_n (lv' := [(1, .int (if u6 < x11 then x11 else u6)), (2, .int u7), (0, .ref (a 0))]) hx hb dX2_greatestHeight_21 rfl hl (by decide) rfl (fun ls hl => ?_)
    refine lv_iinc (v := (u7 + (1 : Int32))) (lv' := [(2, .int (u7 + (1 : Int32))), (1, .int (if u6 < x11 then x11 else u6)), (0, .ref (a 0))]) hx hb dX2_greatestHeight_22 hl (k := 1) rfl rfl (by decide) rfl (fun ls hl => ?_)
    refine lv_goto (tgt := 4) hx hb dX2_greatestHeight_25 (by decide) ?_
    obtain rfl := Option.some.inj hR
    exact ih1 _ rfl _ _ _ hP hD hS (lv_sub hl [0, 1, 2] rfl)
set_option maxHeartbeats 8000000 in
set_option maxRecDepth 100000 in
theorem sX2_hasBridgeAt (l : Launch) (g : kG) (n : Nat) (a : Nat → Nat) (P : St1) (v1 : Int32) (r : Int32) (hR : fX2_hasBridgeAt n P v1 = some r) : kSp l g yX2_hasBridgeAt wsX2_hasBridgeAt ({ frames := 0, cells := 0, slots := 0, locals := 0 }) [.ref (a 0), .int v1] (w_P g a P) (kQi g (w_P g a P) r) := by
  refine kSp.of (cc := cX2_hasBridgeAt) (maxL := 3) (ret := (some .boolean)) (by decide) rfl (Nat.le_of_ble_eq_true rfl) ?_
  intro p e s m args below meth c ls A hC hr hlocks hA hK hl hP hD hS
  replace hC : CallFix p m c cX2_hasBridgeAt 3 s args wsX2_hasBridgeAt RX2 := hC
  obtain ⟨hx, hb, hml, hown, hts⟩ := id hC
  replace hl : lv_has ls 3 [(0, .ref (a 0)), (1, .int v1)] := hl
  unfold fX2_hasBridgeAt at hR
  have hw2 : ∀ w ∈ wsX20, w ∈ wsX2_hasBridgeAt := by decide +kernel
  have hl0 := hts (.fieldLink RX2 29 "FloatOrder$Parade" "bridges" "I") (by decide +kernel)
  have hl1 := hts (.fieldLink RX2 32 "FloatOrder$Parade" "distances" "[I") (by decide +kernel)
  refine lv_iconst (v := (0 : Int32)) hx hb dX2_hasBridgeAt_0 (by decide) ?_
  refine lv_istore_n (lv' := [(2, .int (0 : Int32)), (0, .ref (a 0)), (1, .int v1)]) hx hb dX2_hasBridgeAt_1 rfl hl (by decide) rfl (fun ls hl => ?_)
  have hq0 := hR
  refine kk_loop (g := g) (A := A) (fun (st : Int32) => (w_P g a P)) (fun (st : Int32) => [(2, .int st), (0, .ref (a 0)), (1, .int v1)]) 2 (nL := 3) hq0 (fun u6 xb7 hR ih1 hX1 => ?_) hP hD hS (lv_sub hl [0, 1, 2] rfl)
  clear hP hD hS hl
  intro H locs ls hP hD hS hl
  replace hR : fX2_hasBridgeAt_b2 n P v1 u6 = some xb7 := hR
  replace hP : va_P g.1 vwCl (w_P g a P) H := hP
  replace hD : va_D A (w_P g a P) := hD
  replace hl : lv_has ls 3 [(2, .int u6), (0, .ref (a 0)), (1, .int v1)] := hl
  unfold fX2_hasBridgeAt_b2 at hR
  refine lv_iload_n hx hb dX2_hasBridgeAt_2 rfl (lv_at hl 0 rfl) ?_
  refine lv_aload_n hx hb dX2_hasBridgeAt_3 rfl (lv_at hl 1 rfl) ?_
  refine va_get (ci := 2) (C := RX2) (T := TX2) (N := 11) hx hb hts hw2 hown hK hP 0 rfl rfl 5 (by decide) hl0 (fun _ h9 => h9) rfl dX2_hasBridgeAt_4 ?_
  refine lv_icmp_ge (tgt := 28) hx hb dX2_hasBridgeAt_7 (by decide) (fun c8 => ?_) (fun c8 => ?_)
  · replace hR := (if_pos c8).symm.trans hR
    refine lv_iconst (v := (0 : Int32)) hx hb dX2_hasBridgeAt_28 (by decide) ?_
    obtain rfl := Option.some.inj hR
    obtain rfl := hX1 _ rfl
    exact kk_ret_z hC hr hlocks hK hP hD hS dX2_hasBridgeAt_29 (by decide) rfl
  · replace hR := (if_neg c8).symm.trans hR
    refine lv_aload_n hx hb dX2_hasBridgeAt_10 rfl (lv_at hl 1 rfl) ?_
    refine va_get (ci := 2) (C := RX2) (T := TX2) (N := 11) hx hb hts hw2 hown hK hP 0 rfl rfl 6 (by decide) hl1 (fun _ h9 => h9) rfl dX2_hasBridgeAt_11 ?_
    refine lv_iload_n hx hb dX2_hasBridgeAt_14 rfl (lv_at hl 0 rfl) ?_
    obtain ⟨hi10, hR⟩ := kk_ck_el hR
    refine va_iald hx hb hK hP 5 0 rfl rfl hi10 dX2_hasBridgeAt_15 ?_
    refine lv_iload_n hx hb dX2_hasBridgeAt_16 rfl (lv_at hl 2 rfl) ?_
    refine lv_icmp_ne (tgt := 22) hx hb dX2_hasBridgeAt_17 (by decide) (fun c11 => ?_) (fun c11 => ?_)
    · replace hR := (if_neg c11).symm.trans hR
      refine lv_iinc (v := (u6 + (1 : Int32))) (lv' := [(2, .int (u6 + (1 : Int32))), (0, .ref (a 0)), (1, .int v1)]) hx hb dX2_hasBridgeAt_22 hl (k := 0) rfl rfl (by decide) rfl (fun ls hl => ?_)
      refine lv_goto (tgt := 2) hx hb dX2_hasBridgeAt_25 (by decide) ?_
      obtain rfl := Option.some.inj hR
      exact ih1 _ rfl _ _ _ hP hD hS (lv_sub hl [0, 1, 2] rfl)
    · replace hR := (if_pos c11).symm.trans hR
      refine lv_iconst (v := (1 : Int32)) hx hb dX2_hasBridgeAt_20 (by decide) ?_
      obtain rfl := Option.some.inj hR
      obtain rfl := hX1 _ rfl
      exact kk_ret_z hC hr hlocks hK hP hD hS dX2_hasBridgeAt_21 (by decide) rfl
set_option maxHeartbeats 8000000 in
set_option maxRecDepth 100000 in
theorem sX2_build (l : Launch) (g : kG) (n : Nat) (a : Nat → Nat) (P : St1) (v1 : Int32) (v2 : Int32) (r : Int32 × St1) (hR : fX2_build n P v1 v2 = some r) : kSp l g yX2_build wsX2_build ({ frames := 0, cells := 0, slots := 0, locals := 0 }) [.ref (a 0), .int v1, .int v2] (w_P g a P) (kQi g (w_P g a r.2) r.1) := by
  refine kSp.of (cc := cX2_build) (maxL := 4) (ret := (some .int)) (by decide) rfl (Nat.le_of_ble_eq_true rfl) ?_
  intro p e s m args below meth c ls A hC hr hlocks hA hK hl hP hD hS
  replace hC : CallFix p m c cX2_build 4 s args wsX2_build RX2 := hC
  obtain ⟨hx, hb, hml, hown, hts⟩ := id hC
  replace hl : lv_has ls 4 [(0, .ref (a 0)), (1, .int v1), (2, .int v2)] := hl
  unfold fX2_build at hR
  have hw2 : ∀ w ∈ wsX20, w ∈ wsX2_build := by decide +kernel
  have hl0 := hts (.fieldLink RX2 29 "FloatOrder$Parade" "bridges" "I") (by decide +kernel)
  have hl1 := hts (.fieldLink RX2 32 "FloatOrder$Parade" "distances" "[I") (by decide +kernel)
  have hl2 := hts (.fieldLink RX2 35 "FloatOrder$Parade" "clearances" "[I") (by decide +kernel)
  refine lv_aload_n hx hb dX2_build_0 rfl (lv_at hl 0 rfl) ?_
  refine va_get (ci := 2) (C := RX2) (T := TX2) (N := 11) hx hb hts hw2 hown hK hP 0 rfl rfl 5 (by decide) hl0 (fun _ h9 => h9) rfl dX2_build_1 ?_
  refine lv_iconst (v := (4 : Int32)) hx hb dX2_build_4 (by decide) ?_
  refine lv_icmp_lt (tgt := 10) hx hb dX2_build_5 (by decide) (fun c1 => ?_) (fun c1 => ?_)
  · replace hR := (if_pos c1).symm.trans hR
    refine lv_aload_n hx hb dX2_build_10 rfl (lv_at hl 0 rfl) ?_
    refine va_get (ci := 2) (C := RX2) (T := TX2) (N := 11) hx hb hts hw2 hown hK hP 0 rfl rfl 5 (by decide) hl0 (fun _ h9 => h9) rfl dX2_build_11 ?_
    refine lv_istore_n (lv' := [(3, .int (P 5 0)), (0, .ref (a 0)), (1, .int v1), (2, .int v2)]) hx hb dX2_build_14 rfl hl (by decide) rfl (fun ls hl => ?_)
    obtain ⟨x16, hq16, hR⟩ := kk_bd_el hR
    refine kk_cut (g := g) (A := A) (w' := (w_P g a x16.2)) (nL := 4) (lv := [(3, .int x16.1), (0, .ref (a 0)), (1, .int v1), (2, .int v2)]) (pcJ := 65) (st := []) (fun H locs ls hP hD hS hl => ?_) (fun hj16 => ?_)
    · refine lv_aload_n hx hb dX2_build_65 rfl (lv_at hl 1 rfl) ?_
      refine va_get (ci := 2) (C := RX2) (T := TX2) (N := 11) hx hb hts hw2 hown hK hP 0 rfl rfl 6 (by decide) hl1 (fun _ h9 => h9) rfl dX2_build_66 ?_
      refine lv_iload_n hx hb dX2_build_69 rfl (lv_at hl 0 rfl) ?_
      refine lv_iload_n hx hb dX2_build_70 rfl (lv_at hl 2 rfl) ?_
      obtain ⟨hi27, hR⟩ := kk_ck_el hR
      obtain ⟨P26, eP26, hR⟩ := kk_nm_el hR
      refine kk_iast (w' := (w_P g a P26)) hC hK hP hD hS 5 rfl hi27 (by rw [eP26]; rfl) dX2_build_71 (fun H locs hP hD hS => ?_)
      refine lv_aload_n hx hb dX2_build_72 rfl (lv_at hl 1 rfl) ?_
      refine va_get (ci := 2) (C := RX2) (T := TX2) (N := 11) hx hb hts hw2 hown hK hP 0 rfl rfl 7 (by decide) hl2 (fun _ h9 => h9) rfl dX2_build_73 ?_
      refine lv_iload_n hx hb dX2_build_76 rfl (lv_at hl 0 rfl) ?_
      refine lv_iload_n hx hb dX2_build_77 rfl (lv_at hl 3 rfl) ?_
      obtain ⟨hi29, hR⟩ := kk_ck_el hR
      obtain ⟨P28, eP28, hR⟩ := kk_nm_el hR
      refine kk_iast (w' := (w_P g a P28)) hC hK hP hD hS 6 rfl hi29 (by rw [eP28]; rfl) dX2_build_78 (fun H locs hP hD hS => ?_)
      refine lv_aload_n hx hb dX2_build_79 rfl (lv_at hl 1 rfl) ?_
      refine lv_dup hx hb dX2_build_80 rfl ?_
      refine va_get (ci := 2) (C := RX2) (T := TX2) (N := 11) hx hb hts hw2 hown hK hP 0 rfl rfl 5 (by decide) hl0 (fun _ h9 => h9) rfl dX2_build_81 ?_
      refine lv_iconst (v := (1 : Int32)) hx hb dX2_build_84 (by decide) ?_
      refine lv_iadd hx hb dX2_build_85 ?_
      obtain ⟨P30, eP30, hR⟩ := kk_nm_el hR
      refine kk_put (w' := (w_P g a P30)) (ci := 2) (C := RX2) (T := TX2) (N := 11) (ty := .int) (v := .int ((P28 5 0) + (1 : Int32))) hC hw2 tyX2 tyX2_ok nmX2 hK hP hD hS 0 rfl rfl 5 (by decide) hl0 rfl (by decide +kernel) rfl rfl (Nat.le_of_ble_eq_true rfl) (by rw [eP30]; rfl) dX2_build_86 rfl (fun H locs hP hD hS => ?_)
      refine lv_iload_n hx hb dX2_build_89 rfl (lv_at hl 0 rfl) ?_
      obtain rfl := Option.some.inj hR
      exact kk_ret_i hC hr hlocks hK hP hD hS dX2_build_90 rfl
    refine kk_loop (g := g) (A := A) (fun (st : Int32 × St1) => (w_P g a st.2)) (fun (st : Int32 × St1) => [(3, .int st.1), (0, .ref (a 0)), (1, .int v1), (2, .int v2)]) 15 (nL := 4) hq16 (fun st xb15 hR ih1 hX1 => ?_) hP hD hS (lv_sub hl [0, 1, 2, 3] rfl)
    clear hP hD hS hl
    obtain ⟨u13, P14⟩ := st
    intro H locs ls hP hD hS hl
    replace hR : fX2_build_b15 n v1 u13 P14 = some xb15 := hR
    replace hP : va_P g.1 vwCl (w_P g a P14) H := hP
    replace hD : va_D A (w_P g a P14) := hD
    replace hl : lv_has ls 4 [(3, .int u13), (0, .ref (a 0)), (1, .int v1), (2, .int v2)] := hl
    unfold fX2_build_b15 at hR
    refine lv_iload_n hx hb dX2_build_15 rfl (lv_at hl 0 rfl) ?_
    refine lv_if_le (tgt := 65) hx hb dX2_build_16 (by decide) (fun c17 => ?_) (fun c17 => ?_)
    · replace hR := (if_pos c17).symm.trans hR
      obtain rfl := Option.some.inj hR
      obtain rfl := hX1 _ rfl
      exact hj16 _ _ _ hP hD hS (lv_sub hl [0, 1, 2, 3] rfl)
    · replace hR := (if_neg c17).symm.trans hR
      refine lv_aload_n hx hb dX2_build_19 rfl (lv_at hl 1 rfl) ?_
      refine va_get (ci := 2) (C := RX2) (T := TX2) (N := 11) hx hb hts hw2 hown hK hP 0 rfl rfl 6 (by decide) hl1 (fun _ h9 => h9) rfl dX2_build_20 ?_
      refine lv_iload_n hx hb dX2_build_23 rfl (lv_at hl 0 rfl) ?_
      refine lv_iconst (v := (1 : Int32)) hx hb dX2_build_24 (by decide) ?_
      refine lv_isub hx hb dX2_build_25 ?_
      obtain ⟨hi18, hR⟩ := kk_ck_el hR
      refine va_iald hx hb hK hP 5 0 rfl rfl hi18 dX2_build_26 ?_
      refine lv_iload_n hx hb dX2_build_27 rfl (lv_at hl 2 rfl) ?_
      refine lv_icmp_le (tgt := 65) hx hb dX2_build_28 (by decide) (fun c19 => ?_) (fun c19 => ?_)
      · replace hR := (if_pos c19).symm.trans hR
        obtain rfl := Option.some.inj hR
        obtain rfl := hX1 _ rfl
        exact hj16 _ _ _ hP hD hS (lv_sub hl [0, 1, 2, 3] rfl)
      · replace hR := (if_neg c19).symm.trans hR
        refine lv_aload_n hx hb dX2_build_31 rfl (lv_at hl 1 rfl) ?_
        refine va_get (ci := 2) (C := RX2) (T := TX2) (N := 11) hx hb hts hw2 hown hK hP 0 rfl rfl 6 (by decide) hl1 (fun _ h9 => h9) rfl dX2_build_32 ?_
        refine lv_iload_n hx hb dX2_build_35 rfl (lv_at hl 0 rfl) ?_
        refine lv_aload_n hx hb dX2_build_36 rfl (lv_at hl 1 rfl) ?_
        refine va_get (ci := 2) (C := RX2) (T := TX2) (N := 11) hx hb hts hw2 hown hK hP 0 rfl rfl 6 (by decide) hl1 (fun _ h9 => h9) rfl dX2_build_37 ?_
        refine lv_iload_n hx hb dX2_build_40 rfl (lv_at hl 0 rfl) ?_
        refine lv_iconst (v := (1 : Int32)) hx hb dX2_build_41 (by decide) ?_
        refine lv_isub hx hb dX2_build_42 ?_
        obtain ⟨hi20, hR⟩ := kk_ck_el hR
        refine va_iald hx hb hK hP 5 0 rfl rfl hi20 dX2_build_43 ?_
        obtain ⟨hi22, hR⟩ := kk_ck_el hR
        obtain ⟨P21, eP21, hR⟩ := kk_nm_el hR
        refine kk_iast (w' := (w_P g a P21)) hC hK hP hD hS 5 rfl hi22 (by rw [eP21]; rfl) dX2_build_44 (fun H locs hP hD hS => ?_)
        refine lv_aload_n hx hb dX2_build_45 rfl (lv_at hl 1 rfl) ?_
        refine va_get (ci := 2) (C := RX2) (T := TX2) (N := 11) hx hb hts hw2 hown hK hP 0 rfl rfl 7 (by decide) hl2 (fun _ h9 => h9) rfl dX2_build_46 ?_
        refine lv_iload_n hx hb dX2_build_49 rfl (lv_at hl 0 rfl) ?_
        refine lv_aload_n hx hb dX2_build_50 rfl (lv_at hl 1 rfl) ?_
        refine va_get (ci := 2) (C := RX2) (T := TX2) (N := 11) hx hb hts hw2 hown hK hP 0 rfl rfl 7 (by decide) hl2 (fun _ h9 => h9) rfl dX2_build_51 ?_
        refine lv_iload_n hx hb dX2_build_54 rfl (lv_at hl 0 rfl) ?_
        refine lv_iconst (v := (1 : Int32)) hx hb dX2_build_55 (by decide) ?_
        refine lv_isub hx hb dX2_build_56 ?_
        obtain ⟨hi23, hR⟩ := kk_ck_el hR
        refine va_iald hx hb hK hP 6 0 rfl rfl hi23 dX2_build_57 ?_
        obtain ⟨hi25, hR⟩ := kk_ck_el hR
        obtain ⟨P24, eP24, hR⟩ := kk_nm_el hR
        refine kk_iast (w' := (w_P g a P24)) hC hK hP hD hS 6 rfl hi25 (by rw [eP24]; rfl) dX2_build_58 (fun H locs hP hD hS => ?_)
        refine lv_iinc (v := (u13 + (-1 : Int32))) (lv' := [(3, .int (u13 + (-1 : Int32))), (0, .ref (a 0)), (1, .int v1), (2, .int v2)]) hx hb dX2_build_59 hl (k := 0) rfl rfl (by decide) rfl (fun ls hl => ?_)
        refine lv_goto (tgt := 15) hx hb dX2_build_62 (by decide) ?_
        obtain rfl := Option.some.inj hR
        exact ih1 _ rfl _ _ _ hP hD hS (lv_sub hl [0, 1, 2, 3] rfl)
  · replace hR := (if_neg c1).symm.trans hR
    refine lv_iconst (v := (-1 : Int32)) hx hb dX2_build_8 (by decide) ?_
    obtain rfl := Option.some.inj hR
    exact kk_ret_i hC hr hlocks hK hP hD hS dX2_build_9 rfl
set_option maxHeartbeats 8000000 in
set_option maxRecDepth 100000 in
theorem sX2_pullDown (l : Launch) (g : kG) (n : Nat) (a : Nat → Nat) (P : St1) (v1 : Int32) (r : St1) (hR : fX2_pullDown n P v1 = some r) : kSp l g yX2_pullDown wsX2_pullDown ({ frames := 0, cells := 0, slots := 0, locals := 0 }) [.ref (a 0), .int v1] (w_P g a P) (kQv g (w_P g a r)) := by
  refine kSp.of (cc := cX2_pullDown) (maxL := 3) (ret := none) (by decide) rfl (Nat.le_of_ble_eq_true rfl) ?_
  intro p e s m args below meth c ls A hC hr hlocks hA hK hl hP hD hS
  replace hC : CallFix p m c cX2_pullDown 3 s args wsX2_pullDown RX2 := hC
  obtain ⟨hx, hb, hml, hown, hts⟩ := id hC
  replace hl : lv_has ls 3 [(0, .ref (a 0)), (1, .int v1)] := hl
  unfold fX2_pullDown at hR
  have hw2 : ∀ w ∈ wsX20, w ∈ wsX2_pullDown := by decide +kernel
  have hl0 := hts (.fieldLink RX2 29 "FloatOrder$Parade" "bridges" "I") (by decide +kernel)
  have hl1 := hts (.fieldLink RX2 32 "FloatOrder$Parade" "distances" "[I") (by decide +kernel)
  have hl2 := hts (.fieldLink RX2 35 "FloatOrder$Parade" "clearances" "[I") (by decide +kernel)
  refine lv_iload_n hx hb dX2_pullDown_0 rfl (lv_at hl 1 rfl) ?_
  refine lv_iconst (v := (1 : Int32)) hx hb dX2_pullDown_1 (by decide) ?_
  refine lv_iadd hx hb dX2_pullDown_2 ?_
  refine lv_istore_n (lv' := [(2, .int (v1 + (1 : Int32))), (0, .ref (a 0)), (1, .int v1)]) hx hb dX2_pullDown_3 rfl hl (by decide) rfl (fun ls hl => ?_)
  obtain ⟨x13, hq13, hR⟩ := kk_bd_el hR
  refine kk_cut (g := g) (A := A) (w' := (w_P g a x13)) (nL := 3) (lv := [(0, .ref (a 0))]) (pcJ := 46) (st := []) (fun H locs ls hP hD hS hl => ?_) (fun hj13 => ?_)
  · refine lv_aload_n hx hb dX2_pullDown_46 rfl (lv_at hl 0 rfl) ?_
    refine lv_dup hx hb dX2_pullDown_47 rfl ?_
    refine va_get (ci := 2) (C := RX2) (T := TX2) (N := 11) hx hb hts hw2 hown hK hP 0 rfl rfl 5 (by decide) hl0 (fun _ h9 => h9) rfl dX2_pullDown_48 ?_
    refine lv_iconst (v := (1 : Int32)) hx hb dX2_pullDown_51 (by decide) ?_
    refine lv_isub hx hb dX2_pullDown_52 ?_
    obtain ⟨P21, eP21, hR⟩ := kk_nm_el hR
    refine kk_put (w' := (w_P g a P21)) (ci := 2) (C := RX2) (T := TX2) (N := 11) (ty := .int) (v := .int ((x13 5 0) - (1 : Int32))) hC hw2 tyX2 tyX2_ok nmX2 hK hP hD hS 0 rfl rfl 5 (by decide) hl0 rfl (by decide +kernel) rfl rfl (Nat.le_of_ble_eq_true rfl) (by rw [eP21]; rfl) dX2_pullDown_53 rfl (fun H locs hP hD hS => ?_)
    obtain rfl := Option.some.inj hR
    exact kk_ret_v hC hr hlocks hK hP hD hS dX2_pullDown_56
  refine kk_loop (g := g) (A := A) (fun (st : Int32 × St1) => (w_P g a st.2)) (fun (st : Int32 × St1) => [(2, .int st.1), (0, .ref (a 0))]) 4 (nL := 3) hq13 (fun st xb12 hR ih1 hX1 => ?_) hP hD hS (lv_sub hl [0, 1] rfl)
  clear hP hD hS hl
  obtain ⟨u10, P11⟩ := st
  intro H locs ls hP hD hS hl
  replace hR : fX2_pullDown_b4 n u10 P11 = some xb12 := hR
  replace hP : va_P g.1 vwCl (w_P g a P11) H := hP
  replace hD : va_D A (w_P g a P11) := hD
  replace hl : lv_has ls 3 [(2, .int u10), (0, .ref (a 0))] := hl
  unfold fX2_pullDown_b4 at hR
  refine lv_iload_n hx hb dX2_pullDown_4 rfl (lv_at hl 0 rfl) ?_
  refine lv_aload_n hx hb dX2_pullDown_5 rfl (lv_at hl 1 rfl) ?_
  refine va_get (ci := 2) (C := RX2) (T := TX2) (N := 11) hx hb hts hw2 hown hK hP 0 rfl rfl 5 (by decide) hl0 (fun _ h9 => h9) rfl dX2_pullDown_6 ?_
  refine lv_icmp_ge (tgt := 46) hx hb dX2_pullDown_9 (by decide) (fun c14 => ?_) (fun c14 => ?_)
  · replace hR := (if_pos c14).symm.trans hR
    obtain rfl := Option.some.inj hR
    obtain rfl := hX1 _ rfl
    exact hj13 _ _ _ hP hD hS (lv_sub hl [1] rfl)
  · replace hR := (if_neg c14).symm.trans hR
    refine lv_aload_n hx hb dX2_pullDown_12 rfl (lv_at hl 1 rfl) ?_
    refine va_get (ci := 2) (C := RX2) (T := TX2) (N := 11) hx hb hts hw2 hown hK hP 0 rfl rfl 6 (by decide) hl1 (fun _ h9 => h9) rfl dX2_pullDown_13 ?_
    refine lv_iload_n hx hb dX2_pullDown_16 rfl (lv_at hl 0 rfl) ?_
    refine lv_iconst (v := (1 : Int32)) hx hb dX2_pullDown_17 (by decide) ?_
    refine lv_isub hx hb dX2_pullDown_18 ?_
    refine lv_aload_n hx hb dX2_pullDown_19 rfl (lv_at hl 1 rfl) ?_
    refine va_get (ci := 2) (C := RX2) (T := TX2) (N := 11) hx hb hts hw2 hown hK hP 0 rfl rfl 6 (by decide) hl1 (fun _ h9 => h9) rfl dX2_pullDown_20 ?_
    refine lv_iload_n hx hb dX2_pullDown_23 rfl (lv_at hl 0 rfl) ?_
    obtain ⟨hi15, hR⟩ := kk_ck_el hR
    refine va_iald hx hb hK hP 5 0 rfl rfl hi15 dX2_pullDown_24 ?_
    obtain ⟨hi17, hR⟩ := kk_ck_el hR
    obtain ⟨P16, eP16, hR⟩ := kk_nm_el hR
    refine kk_iast (w' := (w_P g a P16)) hC hK hP hD hS 5 rfl hi17 (by rw [eP16]; rfl) dX2_pullDown_25 (fun H locs hP hD hS => ?_)
    refine lv_aload_n hx hb dX2_pullDown_26 rfl (lv_at hl 1 rfl) ?_
    refine va_get (ci := 2) (C := RX2) (T := TX2) (N := 11) hx hb hts hw2 hown hK hP 0 rfl rfl 7 (by decide) hl2 (fun _ h9 => h9) rfl dX2_pullDown_27 ?_
    refine lv_iload_n hx hb dX2_pullDown_30 rfl (lv_at hl 0 rfl) ?_
    refine lv_iconst (v := (1 : Int32)) hx hb dX2_pullDown_31 (by decide) ?_
    refine lv_isub hx hb dX2_pullDown_32 ?_
    refine lv_aload_n hx hb dX2_pullDown_33 rfl (lv_at hl 1 rfl) ?_
    refine va_get (ci := 2) (C := RX2) (T := TX2) (N := 11) hx hb hts hw2 hown hK hP 0 rfl rfl 7 (by decide) hl2 (fun _ h9 => h9) rfl dX2_pullDown_34 ?_
    refine lv_iload_n hx hb dX2_pullDown_37 rfl (lv_at hl 0 rfl) ?_
    obtain ⟨hi18, hR⟩ := kk_ck_el hR
    refine va_iald hx hb hK hP 6 0 rfl rfl hi18 dX2_pullDown_38 ?_
    obtain ⟨hi20, hR⟩ := kk_ck_el hR
    obtain ⟨P19, eP19, hR⟩ := kk_nm_el hR
    refine kk_iast (w' := (w_P g a P19)) hC hK hP hD hS 6 rfl hi20 (by rw [eP19]; rfl) dX2_pullDown_39 (fun H locs hP hD hS => ?_)
    refine lv_iinc (v := (u10 + (1 : Int32))) (lv' := [(2, .int (u10 + (1 : Int32))), (0, .ref (a 0))]) hx hb dX2_pullDown_40 hl (k := 0) rfl rfl (by decide) rfl (fun ls hl => ?_)
    refine lv_goto (tgt := 4) hx hb dX2_pullDown_43 (by decide) ?_
    obtain rfl := Option.some.inj hR
    exact ih1 _ rfl _ _ _ hP hD hS (lv_sub hl [0, 1] rfl)
set_option maxHeartbeats 8000000 in
set_option maxRecDepth 100000 in
theorem sX2_isLowered (l : Launch) (g : kG) (n : Nat) (a : Nat → Nat) (P : St1) (v1 : Int32) (v2 : Int32) (r : Int32) (hR : fX2_isLowered n P v1 v2 = some r) : kSp l g yX2_isLowered wsX2_isLowered ({ frames := 1, cells := 0, slots := 0, locals := 22 }) [.ref (a 0), .int v1, .int v2] (w_P g a P) (kQi g (w_P g a P) r) := by
  refine kSp.of (cc := cX2_isLowered) (maxL := 3) (ret := (some .boolean)) (by decide) rfl (Nat.le_of_ble_eq_true rfl) ?_
  intro p e s m args below meth c ls A hC hr hlocks hA hK hl hP hD hS
  replace hC : CallFix p m c cX2_isLowered 3 s args wsX2_isLowered RX2 := hC
  obtain ⟨hx, hb, hml, hown, hts⟩ := id hC
  replace hl : lv_has ls 3 [(0, .ref (a 0)), (1, .int v1), (2, .int v2)] := hl
  unfold fX2_isLowered at hR
  have hw2 : ∀ w ∈ wsX20, w ∈ wsX2_isLowered := by decide +kernel
  have hl0 := hts (.fieldLink RX2 35 "FloatOrder$Parade" "clearances" "[I") (by decide +kernel)
  refine lv_aload_n hx hb dX2_isLowered_0 rfl (lv_at hl 0 rfl) ?_
  refine lv_iload_n hx hb dX2_isLowered_1 rfl (lv_at hl 1 rfl) ?_
  obtain ⟨x1, hq1, hR⟩ := kk_bd_el hR
  refine kk_call_Vi (w' := (w_P g a P)) (As := [.int v1]) (rest := []) 0 2 hC (sX2_countedHeight l g n a P v1 x1 hq1) (cwV 1 hts gX2_isLowered_X2_countedHeight rfl rfl rfl (by decide +kernel) ⟨Nat.le_of_ble_eq_true rfl, Nat.le_of_ble_eq_true rfl⟩) hK hP hD hS hA [0, 1, 2, 3, 4, 5, 6, 7, 8, 9] rfl (by decide +kernel) rfl rfl rfl rfl rfl rfl rfl hl.1 (Nat.le_of_ble_eq_true rfl) dX2_isLowered_2 (fun H locs hP hD hS => ?_)
  refine lv_aload_n hx hb dX2_isLowered_5 rfl (lv_at hl 0 rfl) ?_
  refine va_get (ci := 2) (C := RX2) (T := TX2) (N := 11) hx hb hts hw2 hown hK hP 0 rfl rfl 7 (by decide) hl0 (fun _ h9 => h9) rfl dX2_isLowered_6 ?_
  refine lv_iload_n hx hb dX2_isLowered_9 rfl (lv_at hl 2 rfl) ?_
  obtain ⟨hi2, hR⟩ := kk_ck_el hR
  refine va_iald hx hb hK hP 6 0 rfl rfl hi2 dX2_isLowered_10 ?_
  refine lv_icmp_le (tgt := 18) hx hb dX2_isLowered_11 (by decide) (fun c3 => ?_) (fun c3 => ?_)
  · replace hR := (if_pos c3).symm.trans hR
    refine lv_iconst (v := (0 : Int32)) hx hb dX2_isLowered_18 (by decide) ?_
    obtain rfl := Option.some.inj hR
    exact kk_ret_z hC hr hlocks hK hP hD hS dX2_isLowered_19 (by decide) rfl
  · replace hR := (if_neg c3).symm.trans hR
    refine lv_iconst (v := (1 : Int32)) hx hb dX2_isLowered_14 (by decide) ?_
    refine lv_goto (tgt := 19) hx hb dX2_isLowered_15 (by decide) ?_
    obtain rfl := Option.some.inj hR
    exact kk_ret_z hC hr hlocks hK hP hD hS dX2_isLowered_19 (by decide) rfl
set_option maxHeartbeats 8000000 in
set_option maxRecDepth 100000 in
theorem sX2_bridgesThatLower (l : Launch) (g : kG) (n : Nat) (a : Nat → Nat) (P : St1) (v1 : Int32) (r : Int32) (hR : fX2_bridgesThatLower n P v1 = some r) : kSp l g yX2_bridgesThatLower wsX2_bridgesThatLower ({ frames := 2, cells := 0, slots := 0, locals := 44 }) [.ref (a 0), .int v1] (w_P g a P) (kQi g (w_P g a P) r) := by
  refine kSp.of (cc := cX2_bridgesThatLower) (maxL := 4) (ret := (some .int)) (by decide) rfl (Nat.le_of_ble_eq_true rfl) ?_
  intro p e s m args below meth c ls A hC hr hlocks hA hK hl hP hD hS
  replace hC : CallFix p m c cX2_bridgesThatLower 4 s args wsX2_bridgesThatLower RX2 := hC
  obtain ⟨hx, hb, hml, hown, hts⟩ := id hC
  replace hl : lv_has ls 4 [(0, .ref (a 0)), (1, .int v1)] := hl
  unfold fX2_bridgesThatLower at hR
  have hw2 : ∀ w ∈ wsX20, w ∈ wsX2_bridgesThatLower := by decide +kernel
  have hl0 := hts (.fieldLink RX2 29 "FloatOrder$Parade" "bridges" "I") (by decide +kernel)
  refine lv_iconst (v := (0 : Int32)) hx hb dX2_bridgesThatLower_0 (by decide) ?_
  refine lv_istore_n (lv' := [(2, .int (0 : Int32)), (0, .ref (a 0)), (1, .int v1)]) hx hb dX2_bridgesThatLower_1 rfl hl (by decide) rfl (fun ls hl => ?_)
  refine lv_iconst (v := (0 : Int32)) hx hb dX2_bridgesThatLower_2 (by decide) ?_
  refine lv_istore_n (lv' := [(3, .int (0 : Int32)), (2, .int (0 : Int32)), (0, .ref (a 0)), (1, .int v1)]) hx hb dX2_bridgesThatLower_3 rfl hl (by decide) rfl (fun ls hl => ?_)
  obtain ⟨x10, hq10, hR⟩ := kk_bd_el hR
  refine kk_cut (g := g) (A := A) (w' := (w_P g a P)) (nL := 4) (lv := [(2, .int x10)]) (pcJ := 30) (st := []) (fun H locs ls hP hD hS hl => ?_) (fun hj10 => ?_)
  · refine lv_iload_n hx hb dX2_bridgesThatLower_30 rfl (lv_at hl 0 rfl) ?_
    obtain rfl := Option.some.inj hR
    exact kk_ret_i hC hr hlocks hK hP hD hS dX2_bridgesThatLower_31 rfl
  refine kk_loop (g := g) (A := A) (fun (st : Int32 × Int32) => (w_P g a P)) (fun (st : Int32 × Int32) => [(3, .int st.2), (2, .int st.1), (0, .ref (a 0)), (1, .int v1)]) 4 (nL := 4) hq10 (fun st xb9 hR ih1 hX1 => ?_) hP hD hS (lv_sub hl [0, 1, 2, 3] rfl)
  clear hP hD hS hl
  obtain ⟨u7, u8⟩ := st
  intro H locs ls hP hD hS hl
  replace hR : fX2_bridgesThatLower_b4 n P v1 u7 u8 = some xb9 := hR
  replace hP : va_P g.1 vwCl (w_P g a P) H := hP
  replace hD : va_D A (w_P g a P) := hD
  replace hl : lv_has ls 4 [(3, .int u8), (2, .int u7), (0, .ref (a 0)), (1, .int v1)] := hl
  unfold fX2_bridgesThatLower_b4 at hR
  refine lv_iload_n hx hb dX2_bridgesThatLower_4 rfl (lv_at hl 0 rfl) ?_
  refine lv_aload_n hx hb dX2_bridgesThatLower_5 rfl (lv_at hl 2 rfl) ?_
  refine va_get (ci := 2) (C := RX2) (T := TX2) (N := 11) hx hb hts hw2 hown hK hP 0 rfl rfl 5 (by decide) hl0 (fun _ h9 => h9) rfl dX2_bridgesThatLower_6 ?_
  refine lv_icmp_ge (tgt := 30) hx hb dX2_bridgesThatLower_9 (by decide) (fun c11 => ?_) (fun c11 => ?_)
  · replace hR := (if_pos c11).symm.trans hR
    obtain rfl := Option.some.inj hR
    obtain rfl := hX1 _ rfl
    exact hj10 _ _ _ hP hD hS (lv_sub hl [1] rfl)
  · replace hR := (if_neg c11).symm.trans hR
    refine lv_aload_n hx hb dX2_bridgesThatLower_12 rfl (lv_at hl 2 rfl) ?_
    refine lv_iload_n hx hb dX2_bridgesThatLower_13 rfl (lv_at hl 3 rfl) ?_
    refine lv_iload_n hx hb dX2_bridgesThatLower_14 rfl (lv_at hl 0 rfl) ?_
    obtain ⟨x12, hq12, hR⟩ := kk_bd_el hR
    refine kk_call_Vi (w' := (w_P g a P)) (As := [.int v1, .int u8]) (rest := []) 0 2 hC (sX2_isLowered l g n a P v1 u8 x12 hq12) (cwV 2 hts gX2_bridgesThatLower_X2_isLowered rfl rfl rfl (by decide +kernel) ⟨Nat.le_of_ble_eq_true rfl, Nat.le_of_ble_eq_true rfl⟩) hK hP hD hS hA [0, 1, 2, 3, 4, 5, 6, 7, 8, 9] rfl (by decide +kernel) rfl rfl rfl rfl rfl rfl rfl hl.1 (Nat.le_of_ble_eq_true rfl) dX2_bridgesThatLower_15 (fun H locs hP hD hS => ?_)
    refine lv_if_eq (tgt := 24) hx hb dX2_bridgesThatLower_18 (by decide) (fun c13 => ?_) (fun c13 => ?_)
    · replace hR := (if_pos c13).symm.trans hR
      refine lv_iinc (v := (u8 + (1 : Int32))) (lv' := [(3, .int (u8 + (1 : Int32))), (2, .int u7), (0, .ref (a 0)), (1, .int v1)]) hx hb dX2_bridgesThatLower_24 hl (k := 0) rfl rfl (by decide) rfl (fun ls hl => ?_)
      refine lv_goto (tgt := 4) hx hb dX2_bridgesThatLower_27 (by decide) ?_
      obtain rfl := Option.some.inj hR
      exact ih1 _ rfl _ _ _ hP hD hS (lv_sub hl [0, 1, 2, 3] rfl)
    · replace hR := (if_neg c13).symm.trans hR
      refine lv_iinc (v := (u7 + (1 : Int32))) (lv' := [(2, .int (u7 + (1 : Int32))), (3, .int u8), (0, .ref (a 0)), (1, .int v1)]) hx hb dX2_bridgesThatLower_21 hl (k := 1) rfl rfl (by decide) rfl (fun ls hl => ?_)
      refine lv_iinc (v := (u8 + (1 : Int32))) (lv' := [(3, .int (u8 + (1 : Int32))), (2, .int (u7 + (1 : Int32))), (0, .ref (a 0)), (1, .int v1)]) hx hb dX2_bridgesThatLower_24 hl (k := 1) rfl rfl (by decide) rfl (fun ls hl => ?_)
      refine lv_goto (tgt := 4) hx hb dX2_bridgesThatLower_27 (by decide) ?_
      obtain rfl := Option.some.inj hR
      exact ih1 _ rfl _ _ _ hP hD hS (lv_sub hl [0, 1, 2, 3] rfl)
set_option maxHeartbeats 8000000 in
set_option maxRecDepth 100000 in
theorem sX2_floatsLoweredAt (l : Launch) (g : kG) (n : Nat) (a : Nat → Nat) (P : St1) (v1 : Int32) (r : Int32) (hR : fX2_floatsLoweredAt n P v1 = some r) : kSp l g yX2_floatsLoweredAt wsX2_floatsLoweredAt ({ frames := 2, cells := 0, slots := 0, locals := 44 }) [.ref (a 0), .int v1] (w_P g a P) (kQi g (w_P g a P) r) := by
  refine kSp.of (cc := cX2_floatsLoweredAt) (maxL := 4) (ret := (some .int)) (by decide) rfl (Nat.le_of_ble_eq_true rfl) ?_
  intro p e s m args below meth c ls A hC hr hlocks hA hK hl hP hD hS
  replace hC : CallFix p m c cX2_floatsLoweredAt 4 s args wsX2_floatsLoweredAt RX2 := hC
  obtain ⟨hx, hb, hml, hown, hts⟩ := id hC
  replace hl : lv_has ls 4 [(0, .ref (a 0)), (1, .int v1)] := hl
  unfold fX2_floatsLoweredAt at hR
  have hw2 : ∀ w ∈ wsX20, w ∈ wsX2_floatsLoweredAt := by decide +kernel
  have hl0 := hts (.fieldLink RX2 9 "FloatOrder$Parade" "floats" "I") (by decide +kernel)
  refine lv_iconst (v := (0 : Int32)) hx hb dX2_floatsLoweredAt_0 (by decide) ?_
  refine lv_istore_n (lv' := [(2, .int (0 : Int32)), (0, .ref (a 0)), (1, .int v1)]) hx hb dX2_floatsLoweredAt_1 rfl hl (by decide) rfl (fun ls hl => ?_)
  refine lv_iconst (v := (0 : Int32)) hx hb dX2_floatsLoweredAt_2 (by decide) ?_
  refine lv_istore_n (lv' := [(3, .int (0 : Int32)), (2, .int (0 : Int32)), (0, .ref (a 0)), (1, .int v1)]) hx hb dX2_floatsLoweredAt_3 rfl hl (by decide) rfl (fun ls hl => ?_)
  obtain ⟨x10, hq10, hR⟩ := kk_bd_el hR
  refine kk_cut (g := g) (A := A) (w' := (w_P g a P)) (nL := 4) (lv := [(2, .int x10)]) (pcJ := 30) (st := []) (fun H locs ls hP hD hS hl => ?_) (fun hj10 => ?_)
  · refine lv_iload_n hx hb dX2_floatsLoweredAt_30 rfl (lv_at hl 0 rfl) ?_
    obtain rfl := Option.some.inj hR
    exact kk_ret_i hC hr hlocks hK hP hD hS dX2_floatsLoweredAt_31 rfl
  refine kk_loop (g := g) (A := A) (fun (st : Int32 × Int32) => (w_P g a P)) (fun (st : Int32 × Int32) => [(3, .int st.2), (2, .int st.1), (0, .ref (a 0)), (1, .int v1)]) 4 (nL := 4) hq10 (fun st xb9 hR ih1 hX1 => ?_) hP hD hS (lv_sub hl [0, 1, 2, 3] rfl)
  clear hP hD hS hl
  obtain ⟨u7, u8⟩ := st
  intro H locs ls hP hD hS hl
  replace hR : fX2_floatsLoweredAt_b4 n P v1 u7 u8 = some xb9 := hR
  replace hP : va_P g.1 vwCl (w_P g a P) H := hP
  replace hD : va_D A (w_P g a P) := hD
  replace hl : lv_has ls 4 [(3, .int u8), (2, .int u7), (0, .ref (a 0)), (1, .int v1)] := hl
  unfold fX2_floatsLoweredAt_b4 at hR
  refine lv_iload_n hx hb dX2_floatsLoweredAt_4 rfl (lv_at hl 0 rfl) ?_
  refine lv_aload_n hx hb dX2_floatsLoweredAt_5 rfl (lv_at hl 2 rfl) ?_
  refine va_get (ci := 2) (C := RX2) (T := TX2) (N := 11) hx hb hts hw2 hown hK hP 0 rfl rfl 0 (by decide) hl0 (fun _ h9 => h9) rfl dX2_floatsLoweredAt_6 ?_
  refine lv_icmp_ge (tgt := 30) hx hb dX2_floatsLoweredAt_9 (by decide) (fun c11 => ?_) (fun c11 => ?_)
  · replace hR := (if_pos c11).symm.trans hR
    obtain rfl := Option.some.inj hR
    obtain rfl := hX1 _ rfl
    exact hj10 _ _ _ hP hD hS (lv_sub hl [1] rfl)
  · replace hR := (if_neg c11).symm.trans hR
    refine lv_aload_n hx hb dX2_floatsLoweredAt_12 rfl (lv_at hl 2 rfl) ?_
    refine lv_iload_n hx hb dX2_floatsLoweredAt_13 rfl (lv_at hl 0 rfl) ?_
    refine lv_iload_n hx hb dX2_floatsLoweredAt_14 rfl (lv_at hl 3 rfl) ?_
    obtain ⟨x12, hq12, hR⟩ := kk_bd_el hR
    refine kk_call_Vi (w' := (w_P g a P)) (As := [.int u8, .int v1]) (rest := []) 0 2 hC (sX2_isLowered l g n a P u8 v1 x12 hq12) (cwV 2 hts gX2_floatsLoweredAt_X2_isLowered rfl rfl rfl (by decide +kernel) ⟨Nat.le_of_ble_eq_true rfl, Nat.le_of_ble_eq_true rfl⟩) hK hP hD hS hA [0, 1, 2, 3, 4, 5, 6, 7, 8, 9] rfl (by decide +kernel) rfl rfl rfl rfl rfl rfl rfl hl.1 (Nat.le_of_ble_eq_true rfl) dX2_floatsLoweredAt_15 (fun H locs hP hD hS => ?_)
    refine lv_if_eq (tgt := 24) hx hb dX2_floatsLoweredAt_18 (by decide) (fun c13 => ?_) (fun c13 => ?_)
    · replace hR := (if_pos c13).symm.trans hR
      refine lv_iinc (v := (u8 + (1 : Int32))) (lv' := [(3, .int (u8 + (1 : Int32))), (2, .int u7), (0, .ref (a 0)), (1, .int v1)]) hx hb dX2_floatsLoweredAt_24 hl (k := 0) rfl rfl (by decide) rfl (fun ls hl => ?_)
      refine lv_goto (tgt := 4) hx hb dX2_floatsLoweredAt_27 (by decide) ?_
      obtain rfl := Option.some.inj hR
      exact ih1 _ rfl _ _ _ hP hD hS (lv_sub hl [0, 1, 2, 3] rfl)
    · replace hR := (if_neg c13).symm.trans hR
      refine lv_iinc (v := (u7 + (1 : Int32))) (lv' := [(2, .int (u7 + (1 : Int32))), (3, .int u8), (0, .ref (a 0)), (1, .int v1)]) hx hb dX2_floatsLoweredAt_21 hl (k := 1) rfl rfl (by decide) rfl (fun ls hl => ?_)
      refine lv_iinc (v := (u8 + (1 : Int32))) (lv' := [(3, .int (u8 + (1 : Int32))), (2, .int (u7 + (1 : Int32))), (0, .ref (a 0)), (1, .int v1)]) hx hb dX2_floatsLoweredAt_24 hl (k := 1) rfl rfl (by decide) rfl (fun ls hl => ?_)
      refine lv_goto (tgt := 4) hx hb dX2_floatsLoweredAt_27 (by decide) ?_
      obtain rfl := Option.some.inj hR
      exact ih1 _ rfl _ _ _ hP hD hS (lv_sub hl [0, 1, 2, 3] rfl)
set_option maxHeartbeats 8000000 in
set_option maxRecDepth 100000 in
theorem sX2_loweredFloats (l : Launch) (g : kG) (n : Nat) (a : Nat → Nat) (P : St1) (r : Int32) (hR : fX2_loweredFloats n P = some r) : kSp l g yX2_loweredFloats wsX2_loweredFloats ({ frames := 3, cells := 0, slots := 0, locals := 67 }) [.ref (a 0)] (w_P g a P) (kQi g (w_P g a P) r) := by
  refine kSp.of (cc := cX2_loweredFloats) (maxL := 3) (ret := (some .int)) (by decide) rfl (Nat.le_of_ble_eq_true rfl) ?_
  intro p e s m args below meth c ls A hC hr hlocks hA hK hl hP hD hS
  replace hC : CallFix p m c cX2_loweredFloats 3 s args wsX2_loweredFloats RX2 := hC
  obtain ⟨hx, hb, hml, hown, hts⟩ := id hC
  replace hl : lv_has ls 3 [(0, .ref (a 0))] := hl
  unfold fX2_loweredFloats at hR
  have hw2 : ∀ w ∈ wsX20, w ∈ wsX2_loweredFloats := by decide +kernel
  have hl0 := hts (.fieldLink RX2 9 "FloatOrder$Parade" "floats" "I") (by decide +kernel)
  refine lv_iconst (v := (0 : Int32)) hx hb dX2_loweredFloats_0 (by decide) ?_
  refine lv_istore_n (lv' := [(1, .int (0 : Int32)), (0, .ref (a 0))]) hx hb dX2_loweredFloats_1 rfl hl (by decide) rfl (fun ls hl => ?_)
  refine lv_iconst (v := (0 : Int32)) hx hb dX2_loweredFloats_2 (by decide) ?_
  refine lv_istore_n (lv' := [(2, .int (0 : Int32)), (1, .int (0 : Int32)), (0, .ref (a 0))]) hx hb dX2_loweredFloats_3 rfl hl (by decide) rfl (fun ls hl => ?_)
  obtain ⟨x10, hq10, hR⟩ := kk_bd_el hR
  refine kk_cut (g := g) (A := A) (w' := (w_P g a P)) (nL := 3) (lv := [(1, .int x10)]) (pcJ := 29) (st := []) (fun H locs ls hP hD hS hl => ?_) (fun hj10 => ?_)
  · refine lv_iload_n hx hb dX2_loweredFloats_29 rfl (lv_at hl 0 rfl) ?_
    obtain rfl := Option.some.inj hR
    exact kk_ret_i hC hr hlocks hK hP hD hS dX2_loweredFloats_30 rfl
  refine kk_loop (g := g) (A := A) (fun (st : Int32 × Int32) => (w_P g a P)) (fun (st : Int32 × Int32) => [(2, .int st.2), (1, .int st.1), (0, .ref (a 0))]) 4 (nL := 3) hq10 (fun st xb9 hR ih1 hX1 => ?_) hP hD hS (lv_sub hl [0, 1, 2] rfl)
  clear hP hD hS hl
  obtain ⟨u7, u8⟩ := st
  intro H locs ls hP hD hS hl
  replace hR : fX2_loweredFloats_b4 n P u7 u8 = some xb9 := hR
  replace hP : va_P g.1 vwCl (w_P g a P) H := hP
  replace hD : va_D A (w_P g a P) := hD
  replace hl : lv_has ls 3 [(2, .int u8), (1, .int u7), (0, .ref (a 0))] := hl
  unfold fX2_loweredFloats_b4 at hR
  refine lv_iload_n hx hb dX2_loweredFloats_4 rfl (lv_at hl 0 rfl) ?_
  refine lv_aload_n hx hb dX2_loweredFloats_5 rfl (lv_at hl 2 rfl) ?_
  refine va_get (ci := 2) (C := RX2) (T := TX2) (N := 11) hx hb hts hw2 hown hK hP 0 rfl rfl 0 (by decide) hl0 (fun _ h9 => h9) rfl dX2_loweredFloats_6 ?_
  refine lv_icmp_ge (tgt := 29) hx hb dX2_loweredFloats_9 (by decide) (fun c11 => ?_) (fun c11 => ?_)
  · replace hR := (if_pos c11).symm.trans hR
    obtain rfl := Option.some.inj hR
    obtain rfl := hX1 _ rfl
    exact hj10 _ _ _ hP hD hS (lv_sub hl [1] rfl)
  · replace hR := (if_neg c11).symm.trans hR
    refine lv_aload_n hx hb dX2_loweredFloats_12 rfl (lv_at hl 2 rfl) ?_
    refine lv_iload_n hx hb dX2_loweredFloats_13 rfl (lv_at hl 0 rfl) ?_
    obtain ⟨x12, hq12, hR⟩ := kk_bd_el hR
    refine kk_call_Vi (w' := (w_P g a P)) (As := [.int u8]) (rest := []) 0 2 hC (sX2_bridgesThatLower l g n a P u8 x12 hq12) (cwV 1 hts gX2_loweredFloats_X2_bridgesThatLower rfl rfl rfl (by decide +kernel) ⟨Nat.le_of_ble_eq_true rfl, Nat.le_of_ble_eq_true rfl⟩) hK hP hD hS hA [0, 1, 2, 3, 4, 5, 6, 7, 8, 9] rfl (by decide +kernel) rfl rfl rfl rfl rfl rfl rfl hl.1 (Nat.le_of_ble_eq_true rfl) dX2_loweredFloats_14 (fun H locs hP hD hS => ?_)
    refine lv_if_le (tgt := 23) hx hb dX2_loweredFloats_17 (by decide) (fun c13 => ?_) (fun c13 => ?_)
    · replace hR := (if_pos c13).symm.trans hR
      refine lv_iinc (v := (u8 + (1 : Int32))) (lv' := [(2, .int (u8 + (1 : Int32))), (1, .int u7), (0, .ref (a 0))]) hx hb dX2_loweredFloats_23 hl (k := 0) rfl rfl (by decide) rfl (fun ls hl => ?_)
      refine lv_goto (tgt := 4) hx hb dX2_loweredFloats_26 (by decide) ?_
      obtain rfl := Option.some.inj hR
      exact ih1 _ rfl _ _ _ hP hD hS (lv_sub hl [0, 1, 2] rfl)
    · replace hR := (if_neg c13).symm.trans hR
      refine lv_iinc (v := (u7 + (1 : Int32))) (lv' := [(1, .int (u7 + (1 : Int32))), (2, .int u8), (0, .ref (a 0))]) hx hb dX2_loweredFloats_20 hl (k := 1) rfl rfl (by decide) rfl (fun ls hl => ?_)
      refine lv_iinc (v := (u8 + (1 : Int32))) (lv' := [(2, .int (u8 + (1 : Int32))), (1, .int (u7 + (1 : Int32))), (0, .ref (a 0))]) hx hb dX2_loweredFloats_23 hl (k := 1) rfl rfl (by decide) rfl (fun ls hl => ?_)
      refine lv_goto (tgt := 4) hx hb dX2_loweredFloats_26 (by decide) ?_
      obtain rfl := Option.some.inj hR
      exact ih1 _ rfl _ _ _ hP hD hS (lv_sub hl [0, 1, 2] rfl)
set_option maxHeartbeats 8000000 in
set_option maxRecDepth 100000 in
theorem sX2_bridgeProperty (l : Launch) (g : kG) (n : Nat) (a : Nat → Nat) (P : St1) (v1 : Int32) (v2 : Int32) (r : Int32) (hR : fX2_bridgeProperty n P v1 v2 = some r) : kSp l g yX2_bridgeProperty wsX2_bridgeProperty ({ frames := 3, cells := 0, slots := 0, locals := 67 }) [.ref (a 0), .int v1, .int v2] (w_P g a P) (kQi g (w_P g a P) r) := by
  refine kSp.of (cc := cX2_bridgeProperty) (maxL := 3) (ret := (some .int)) (by decide) rfl (Nat.le_of_ble_eq_true rfl) ?_
  intro p e s m args below meth c ls A hC hr hlocks hA hK hl hP hD hS
  replace hC : CallFix p m c cX2_bridgeProperty 3 s args wsX2_bridgeProperty RX2 := hC
  obtain ⟨hx, hb, hml, hown, hts⟩ := id hC
  replace hl : lv_has ls 3 [(0, .ref (a 0)), (1, .int v1), (2, .int v2)] := hl
  unfold fX2_bridgeProperty at hR
  have hw2 : ∀ w ∈ wsX20, w ∈ wsX2_bridgeProperty := by decide +kernel
  have hl0 := hts (.fieldLink RX2 32 "FloatOrder$Parade" "distances" "[I") (by decide +kernel)
  have hl1 := hts (.fieldLink RX2 35 "FloatOrder$Parade" "clearances" "[I") (by decide +kernel)
  refine lv_iload_n hx hb dX2_bridgeProperty_0 rfl (lv_at hl 2 rfl) ?_
  by_cases c1 : v2 = (0 : Int32)
  · replace hR := (if_pos c1).symm.trans hR
    refine lv_lookup (off := 27) (tgt := 28) hx hb dX2_bridgeProperty_1 (by decide) (by rw [c1]; rfl) (by decide) ?_
    refine lv_aload_n hx hb dX2_bridgeProperty_28 rfl (lv_at hl 0 rfl) ?_
    refine va_get (ci := 2) (C := RX2) (T := TX2) (N := 11) hx hb hts hw2 hown hK hP 0 rfl rfl 6 (by decide) hl0 (fun _ h9 => h9) rfl dX2_bridgeProperty_29 ?_
    refine lv_iload_n hx hb dX2_bridgeProperty_32 rfl (lv_at hl 1 rfl) ?_
    obtain ⟨hi2, hR⟩ := kk_ck_el hR
    refine va_iald hx hb hK hP 5 0 rfl rfl hi2 dX2_bridgeProperty_33 ?_
    obtain rfl := Option.some.inj hR
    exact kk_ret_i hC hr hlocks hK hP hD hS dX2_bridgeProperty_34 rfl
  replace hR := (if_neg c1).symm.trans hR
  by_cases c3 : v2 = (1 : Int32)
  · replace hR := (if_pos c3).symm.trans hR
    refine lv_lookup (off := 34) (tgt := 35) hx hb dX2_bridgeProperty_1 (by decide) (by rw [c3]; rfl) (by decide) ?_
    refine lv_aload_n hx hb dX2_bridgeProperty_35 rfl (lv_at hl 0 rfl) ?_
    refine va_get (ci := 2) (C := RX2) (T := TX2) (N := 11) hx hb hts hw2 hown hK hP 0 rfl rfl 7 (by decide) hl1 (fun _ h9 => h9) rfl dX2_bridgeProperty_36 ?_
    refine lv_iload_n hx hb dX2_bridgeProperty_39 rfl (lv_at hl 1 rfl) ?_
    obtain ⟨hi4, hR⟩ := kk_ck_el hR
    refine va_iald hx hb hK hP 6 0 rfl rfl hi4 dX2_bridgeProperty_40 ?_
    obtain rfl := Option.some.inj hR
    exact kk_ret_i hC hr hlocks hK hP hD hS dX2_bridgeProperty_41 rfl
  replace hR := (if_neg c3).symm.trans hR
  refine lv_lookup (off := 41) (tgt := 42) hx hb dX2_bridgeProperty_1 (by decide) ((lv_osw c1 rfl).trans ((lv_osw c3 rfl).trans (rfl))) (by decide) ?_
  refine lv_aload_n hx hb dX2_bridgeProperty_42 rfl (lv_at hl 0 rfl) ?_
  refine lv_iload_n hx hb dX2_bridgeProperty_43 rfl (lv_at hl 1 rfl) ?_
  obtain ⟨x5, hq5, hR⟩ := kk_bd_el hR
  refine kk_call_Vi (w' := (w_P g a P)) (As := [.int v1]) (rest := []) 0 2 hC (sX2_floatsLoweredAt l g n a P v1 x5 hq5) (cwV 1 hts gX2_bridgeProperty_X2_floatsLoweredAt rfl rfl rfl (by decide +kernel) ⟨Nat.le_of_ble_eq_true rfl, Nat.le_of_ble_eq_true rfl⟩) hK hP hD hS hA [0, 1, 2, 3, 4, 5, 6, 7, 8, 9] rfl (by decide +kernel) rfl rfl rfl rfl rfl rfl rfl hl.1 (Nat.le_of_ble_eq_true rfl) dX2_bridgeProperty_44 (fun H locs hP hD hS => ?_)
  obtain rfl := Option.some.inj hR
  exact kk_ret_i hC hr hlocks hK hP hD hS dX2_bridgeProperty_47 rfl
set_option maxHeartbeats 8000000 in
set_option maxRecDepth 100000 in
theorem sX2_floatProperty (l : Launch) (g : kG) (n : Nat) (a : Nat → Nat) (P : St1) (v1 : Int32) (v2 : Int32) (r : Int32) (hR : fX2_floatProperty n P v1 v2 = some r) : kSp l g yX2_floatProperty wsX2_floatProperty ({ frames := 3, cells := 0, slots := 0, locals := 67 }) [.ref (a 0), .int v1, .int v2] (w_P g a P) (kQi g (w_P g a P) r) := by
  refine kSp.of (cc := cX2_floatProperty) (maxL := 3) (ret := (some .int)) (by decide) rfl (Nat.le_of_ble_eq_true rfl) ?_
  intro p e s m args below meth c ls A hC hr hlocks hA hK hl hP hD hS
  replace hC : CallFix p m c cX2_floatProperty 3 s args wsX2_floatProperty RX2 := hC
  obtain ⟨hx, hb, hml, hown, hts⟩ := id hC
  replace hl : lv_has ls 3 [(0, .ref (a 0)), (1, .int v1), (2, .int v2)] := hl
  unfold fX2_floatProperty at hR
  have hw2 : ∀ w ∈ wsX20, w ∈ wsX2_floatProperty := by decide +kernel
  have hl0 := hts (.fieldLink RX2 15 "FloatOrder$Parade" "kinds" "[I") (by decide +kernel)
  have hl1 := hts (.fieldLink RX2 19 "FloatOrder$Parade" "heights" "[I") (by decide +kernel)
  have hl2 := hts (.fieldLink RX2 22 "FloatOrder$Parade" "masks" "[I") (by decide +kernel)
  have hl3 := hts (.fieldLink RX2 25 "FloatOrder$Parade" "folded" "[Z") (by decide +kernel)
  refine lv_iload_n hx hb dX2_floatProperty_0 rfl (lv_at hl 2 rfl) ?_
  by_cases c1 : v2 = (0 : Int32)
  · replace hR := (if_pos c1).symm.trans hR
    refine lv_tableIn (off := 39) (tgt := 40) hx hb dX2_floatProperty_1 (by rw [c1]; decide) (by rw [c1]; decide) (by rw [c1]; rfl) (by decide) ?_
    refine lv_aload_n hx hb dX2_floatProperty_40 rfl (lv_at hl 0 rfl) ?_
    refine va_get (ci := 2) (C := RX2) (T := TX2) (N := 11) hx hb hts hw2 hown hK hP 0 rfl rfl 1 (by decide) hl0 (fun _ h9 => h9) rfl dX2_floatProperty_41 ?_
    refine lv_iload_n hx hb dX2_floatProperty_44 rfl (lv_at hl 1 rfl) ?_
    obtain ⟨hi2, hR⟩ := kk_ck_el hR
    refine va_iald hx hb hK hP 1 0 rfl rfl hi2 dX2_floatProperty_45 ?_
    obtain rfl := Option.some.inj hR
    exact kk_ret_i hC hr hlocks hK hP hD hS dX2_floatProperty_46 rfl
  replace hR := (if_neg c1).symm.trans hR
  by_cases c3 : v2 = (1 : Int32)
  · replace hR := (if_pos c3).symm.trans hR
    refine lv_tableIn (off := 46) (tgt := 47) hx hb dX2_floatProperty_1 (by rw [c3]; decide) (by rw [c3]; decide) (by rw [c3]; rfl) (by decide) ?_
    refine lv_aload_n hx hb dX2_floatProperty_47 rfl (lv_at hl 0 rfl) ?_
    refine va_get (ci := 2) (C := RX2) (T := TX2) (N := 11) hx hb hts hw2 hown hK hP 0 rfl rfl 2 (by decide) hl1 (fun _ h9 => h9) rfl dX2_floatProperty_48 ?_
    refine lv_iload_n hx hb dX2_floatProperty_51 rfl (lv_at hl 1 rfl) ?_
    obtain ⟨hi4, hR⟩ := kk_ck_el hR
    refine va_iald hx hb hK hP 2 0 rfl rfl hi4 dX2_floatProperty_52 ?_
    obtain rfl := Option.some.inj hR
    exact kk_ret_i hC hr hlocks hK hP hD hS dX2_floatProperty_53 rfl
  replace hR := (if_neg c3).symm.trans hR
  by_cases c5 : v2 = (2 : Int32)
  · replace hR := (if_pos c5).symm.trans hR
    refine lv_tableIn (off := 53) (tgt := 54) hx hb dX2_floatProperty_1 (by rw [c5]; decide) (by rw [c5]; decide) (by rw [c5]; rfl) (by decide) ?_
    refine lv_aload_n hx hb dX2_floatProperty_54 rfl (lv_at hl 0 rfl) ?_
    refine va_get (ci := 2) (C := RX2) (T := TX2) (N := 11) hx hb hts hw2 hown hK hP 0 rfl rfl 3 (by decide) hl2 (fun _ h9 => h9) rfl dX2_floatProperty_55 ?_
    refine lv_iload_n hx hb dX2_floatProperty_58 rfl (lv_at hl 1 rfl) ?_
    obtain ⟨hi6, hR⟩ := kk_ck_el hR
    refine va_iald hx hb hK hP 3 0 rfl rfl hi6 dX2_floatProperty_59 ?_
    obtain rfl := Option.some.inj hR
    exact kk_ret_i hC hr hlocks hK hP hD hS dX2_floatProperty_60 rfl
  replace hR := (if_neg c5).symm.trans hR
  by_cases c7 : v2 = (3 : Int32)
  · replace hR := (if_pos c7).symm.trans hR
    refine lv_tableIn (off := 60) (tgt := 61) hx hb dX2_floatProperty_1 (by rw [c7]; decide) (by rw [c7]; decide) (by rw [c7]; rfl) (by decide) ?_
    refine lv_aload_n hx hb dX2_floatProperty_61 rfl (lv_at hl 0 rfl) ?_
    refine va_get (ci := 2) (C := RX2) (T := TX2) (N := 11) hx hb hts hw2 hown hK hP 0 rfl rfl 4 (by decide) hl3 (fun _ h9 => h9) rfl dX2_floatProperty_62 ?_
    refine lv_iload_n hx hb dX2_floatProperty_65 rfl (lv_at hl 1 rfl) ?_
    obtain ⟨hi8, hR⟩ := kk_ck_el hR
    refine va_zald hx hb hK hP 4 1 rfl rfl hi8 dX2_floatProperty_66 ?_
    refine lv_if_eq (tgt := 74) hx hb dX2_floatProperty_67 (by decide) (fun c9 => ?_) (fun c9 => ?_)
    · replace hR := (if_pos c9).symm.trans hR
      refine lv_iconst (v := (0 : Int32)) hx hb dX2_floatProperty_74 (by decide) ?_
      obtain rfl := Option.some.inj hR
      exact kk_ret_i hC hr hlocks hK hP hD hS dX2_floatProperty_75 rfl
    · replace hR := (if_neg c9).symm.trans hR
      refine lv_iconst (v := (1 : Int32)) hx hb dX2_floatProperty_70 (by decide) ?_
      refine lv_goto (tgt := 75) hx hb dX2_floatProperty_71 (by decide) ?_
      obtain rfl := Option.some.inj hR
      exact kk_ret_i hC hr hlocks hK hP hD hS dX2_floatProperty_75 rfl
  replace hR := (if_neg c7).symm.trans hR
  by_cases c10 : v2 = (4 : Int32)
  · replace hR := (if_pos c10).symm.trans hR
    refine lv_tableIn (off := 75) (tgt := 76) hx hb dX2_floatProperty_1 (by rw [c10]; decide) (by rw [c10]; decide) (by rw [c10]; rfl) (by decide) ?_
    refine lv_aload_n hx hb dX2_floatProperty_76 rfl (lv_at hl 0 rfl) ?_
    refine lv_iload_n hx hb dX2_floatProperty_77 rfl (lv_at hl 1 rfl) ?_
    obtain ⟨x11, hq11, hR⟩ := kk_bd_el hR
    refine kk_call_Vi (w' := (w_P g a P)) (As := [.int v1]) (rest := []) 0 2 hC (sX2_countedHeight l g n a P v1 x11 hq11) (cwV 1 hts gX2_floatProperty_X2_countedHeight rfl rfl rfl (by decide +kernel) ⟨Nat.le_of_ble_eq_true rfl, Nat.le_of_ble_eq_true rfl⟩) hK hP hD hS hA [0, 1, 2, 3, 4, 5, 6, 7, 8, 9] rfl (by decide +kernel) rfl rfl rfl rfl rfl rfl rfl hl.1 (Nat.le_of_ble_eq_true rfl) dX2_floatProperty_78 (fun H locs hP hD hS => ?_)
    obtain rfl := Option.some.inj hR
    exact kk_ret_i hC hr hlocks hK hP hD hS dX2_floatProperty_81 rfl
  replace hR := (if_neg c10).symm.trans hR
  by_cases c12 : v2 = (5 : Int32)
  · replace hR := (if_pos c12).symm.trans hR
    refine lv_tableIn (off := 81) (tgt := 82) hx hb dX2_floatProperty_1 (by rw [c12]; decide) (by rw [c12]; decide) (by rw [c12]; rfl) (by decide) ?_
    refine lv_aload_n hx hb dX2_floatProperty_82 rfl (lv_at hl 0 rfl) ?_
    refine lv_iload_n hx hb dX2_floatProperty_83 rfl (lv_at hl 1 rfl) ?_
    obtain ⟨x13, hq13, hR⟩ := kk_bd_el hR
    refine kk_call_Vi (w' := (w_P g a P)) (As := [.int v1]) (rest := []) 0 2 hC (sX2_bridgesThatLower l g n a P v1 x13 hq13) (cwV 1 hts gX2_floatProperty_X2_bridgesThatLower rfl rfl rfl (by decide +kernel) ⟨Nat.le_of_ble_eq_true rfl, Nat.le_of_ble_eq_true rfl⟩) hK hP hD hS hA [0, 1, 2, 3, 4, 5, 6, 7, 8, 9] rfl (by decide +kernel) rfl rfl rfl rfl rfl rfl rfl hl.1 (Nat.le_of_ble_eq_true rfl) dX2_floatProperty_84 (fun H locs hP hD hS => ?_)
    obtain rfl := Option.some.inj hR
    exact kk_ret_i hC hr hlocks hK hP hD hS dX2_floatProperty_87 rfl
  replace hR := (if_neg c12).symm.trans hR
  have m0 := lv_neT (k := (0 : Int32)) (a := 0) c1 rfl
  have m1 := lv_neT (k := (1 : Int32)) (a := 1) c3 rfl
  have m2 := lv_neT (k := (2 : Int32)) (a := 2) c5 rfl
  have m3 := lv_neT (k := (3 : Int32)) (a := 3) c7 rfl
  have m4 := lv_neT (k := (4 : Int32)) (a := 4) c10 rfl
  have m5 := lv_neT (k := (5 : Int32)) (a := 5) c12 rfl
  refine lv_tableOut (tgt := 88) hx hb dX2_floatProperty_1 (by omega) (by decide) ?_
  refine lv_aload_n hx hb dX2_floatProperty_88 rfl (lv_at hl 0 rfl) ?_
  refine lv_iload_n hx hb dX2_floatProperty_89 rfl (lv_at hl 1 rfl) ?_
  obtain ⟨x14, hq14, hR⟩ := kk_bd_el hR
  refine kk_call_Vi (w' := (w_P g a P)) (As := [.int v1]) (rest := []) 0 2 hC (sX2_troubleAt l g n a P v1 x14 hq14) (cwV 1 hts gX2_floatProperty_X2_troubleAt rfl rfl rfl (by decide +kernel) ⟨Nat.le_of_ble_eq_true rfl, Nat.le_of_ble_eq_true rfl⟩) hK hP hD hS hA [0, 1, 2, 3, 4, 5, 6, 7, 8, 9] rfl (by decide +kernel) rfl rfl rfl rfl rfl rfl rfl hl.1 (Nat.le_of_ble_eq_true rfl) dX2_floatProperty_90 (fun H locs hP hD hS => ?_)
  obtain rfl := Option.some.inj hR
  exact kk_ret_i hC hr hlocks hK hP hD hS dX2_floatProperty_93 rfl
set_option maxHeartbeats 8000000 in
set_option maxRecDepth 100000 in
theorem sX2_travel (l : Launch) (g : kG) (n : Nat) (a : Nat → Nat) (P : St1) (v1 : Int32) (r : St1) (hR : fX2_travel n P v1 = some r) : kSp l g yX2_travel wsX2_travel ({ frames := 1, cells := 0, slots := 0, locals := 22 }) [.ref (a 0), .int v1] (w_P g a P) (kQv g (w_P g a r)) := by
  refine kSp.of (cc := cX2_travel) (maxL := 8) (ret := none) (by decide) rfl (Nat.le_of_ble_eq_true rfl) ?_
  intro p e s m args below meth c ls A hC hr hlocks hA hK hl hP hD hS
  replace hC : CallFix p m c cX2_travel 8 s args wsX2_travel RX2 := hC
  obtain ⟨hx, hb, hml, hown, hts⟩ := id hC
  replace hl : lv_has ls 8 [(0, .ref (a 0)), (1, .int v1)] := hl
  unfold fX2_travel at hR
  have hw2 : ∀ w ∈ wsX20, w ∈ wsX2_travel := by decide +kernel
  have hl0 := hts (.fieldLink RX2 38 "FloatOrder$Parade" "settings" "[I") (by decide +kernel)
  have hl1 := hts (.fieldLink RX2 29 "FloatOrder$Parade" "bridges" "I") (by decide +kernel)
  have hl2 := hts (.fieldLink RX2 32 "FloatOrder$Parade" "distances" "[I") (by decide +kernel)
  have hl3 := hts (.fieldLink RX2 44 "FloatOrder$Parade" "left" "[I") (by decide +kernel)
  have hl4 := hts (.methodLink RX2 64 Lib.Math.max.name) (by decide +kernel)
  have hl5 := hts (.static Lib.Math.max.name) (by decide +kernel)
  have hl6 := hts (.initialized "java/lang/Math") (by decide +kernel)
  have hl7 := hts (.code Lib.Math.max.name Lib.Math.max.code 2 (some .int)) (by decide +kernel)
  have hl8 := hts (.fieldLink RX2 41 "FloatOrder$Parade" "came" "[I") (by decide +kernel)
  have hl9 := hts (.fieldLink RX2 35 "FloatOrder$Parade" "clearances" "[I") (by decide +kernel)
  refine lv_iconst (v := (0 : Int32)) hx hb dX2_travel_0 (by decide) ?_
  refine lv_istore_n (lv' := [(2, .int (0 : Int32)), (0, .ref (a 0)), (1, .int v1)]) hx hb dX2_travel_1 rfl hl (by decide) rfl (fun ls hl => ?_)
  obtain ⟨x62, hq62, hR⟩ := kk_bd_el hR
  refine kk_cut (g := g) (A := A) (w' := (w_P g a x62)) (nL := 8) (lv := []) (pcJ := 168) (st := []) (fun H locs ls hP hD hS hl => ?_) (fun hj62 => ?_)
  · obtain rfl := Option.some.inj hR
    exact kk_ret_v hC hr hlocks hK hP hD hS dX2_travel_168
  refine kk_loop (g := g) (A := A) (fun (st : Int32 × St1) => (w_P g a st.2)) (fun (st : Int32 × St1) => [(2, .int st.1), (0, .ref (a 0)), (1, .int v1)]) 2 (nL := 8) hq62 (fun st xb61 hR ih2 hX2 => ?_) hP hD hS (lv_sub hl [0, 1, 2] rfl)
  clear hP hD hS hl
  obtain ⟨u59, P60⟩ := st
  intro H locs ls hP hD hS hl
  replace hR : fX2_travel_b2 n v1 u59 P60 = some xb61 := hR
  replace hP : va_P g.1 vwCl (w_P g a P60) H := hP
  replace hD : va_D A (w_P g a P60) := hD
  replace hl : lv_has ls 8 [(2, .int u59), (0, .ref (a 0)), (1, .int v1)] := hl
  unfold fX2_travel_b2 at hR
  refine lv_iload_n hx hb dX2_travel_2 rfl (lv_at hl 0 rfl) ?_
  refine lv_iload_n hx hb dX2_travel_3 rfl (lv_at hl 2 rfl) ?_
  refine lv_icmp_gt (tgt := 168) hx hb dX2_travel_4 (by decide) (fun c63 => ?_) (fun c63 => ?_)
  · replace hR := (if_pos c63).symm.trans hR
    obtain rfl := Option.some.inj hR
    obtain rfl := hX2 _ rfl
    exact hj62 _ _ _ hP hD hS (lv_sub hl [] rfl)
  · replace hR := (if_neg c63).symm.trans hR
    refine lv_aload_n hx hb dX2_travel_7 rfl (lv_at hl 1 rfl) ?_
    refine lv_iload_n hx hb dX2_travel_8 rfl (lv_at hl 0 rfl) ?_
    obtain ⟨x64, hq64, hR⟩ := kk_bd_el hR
    refine kk_call_Vi (w' := (w_P g a P60)) (As := [.int u59]) (rest := []) 0 2 hC (sX2_countedHeight l g n a P60 u59 x64 hq64) (cwV 1 hts gX2_travel_X2_countedHeight rfl rfl rfl (by decide +kernel) ⟨Nat.le_of_ble_eq_true rfl, Nat.le_of_ble_eq_true rfl⟩) hK hP hD hS hA [0, 1, 2, 3, 4, 5, 6, 7, 8, 9] rfl (by decide +kernel) rfl rfl rfl rfl rfl rfl rfl hl.1 (Nat.le_of_ble_eq_true rfl) dX2_travel_9 (fun H locs hP hD hS => ?_)
    refine lv_istore_n (lv' := [(3, .int x64), (2, .int u59), (0, .ref (a 0)), (1, .int v1)]) hx hb dX2_travel_12 rfl hl (by decide) rfl (fun ls hl => ?_)
    refine lv_iload_n hx hb dX2_travel_13 rfl (lv_at hl 1 rfl) ?_
    refine lv_aload_n hx hb dX2_travel_14 rfl (lv_at hl 2 rfl) ?_
    refine va_get (ci := 2) (C := RX2) (T := TX2) (N := 11) hx hb hts hw2 hown hK hP 0 rfl rfl 8 (by decide) hl0 (fun _ h9 => h9) rfl dX2_travel_15 ?_
    refine lv_iconst (v := (1 : Int32)) hx hb dX2_travel_18 (by decide) ?_
    refine va_iald hx hb hK hP 7 0 rfl rfl (kk_in 1 4 (by decide) (by decide) rfl) dX2_travel_19 ?_
    refine lv_imul hx hb dX2_travel_20 ?_
    refine lv_istore (lv' := [(4, .int (u59 * ((P60 8) (1 : Int32).toNatClampNeg))), (3, .int x64), (2, .int u59), (0, .ref (a 0)), (1, .int v1)]) hx hb dX2_travel_21 hl (by decide) rfl (fun ls hl => ?_)
    refine lv_iconst (v := (0 : Int32)) hx hb dX2_travel_23 (by decide) ?_
    refine lv_istore (lv' := [(5, .int (0 : Int32)), (4, .int (u59 * ((P60 8) (1 : Int32).toNatClampNeg))), (3, .int x64), (2, .int u59), (0, .ref (a 0)), (1, .int v1)]) hx hb dX2_travel_24 hl (by decide) rfl (fun ls hl => ?_)
    refine lv_iconst (v := (0 : Int32)) hx hb dX2_travel_26 (by decide) ?_
    refine lv_istore (lv' := [(6, .int (0 : Int32)), (5, .int (0 : Int32)), (4, .int (u59 * ((P60 8) (1 : Int32).toNatClampNeg))), (3, .int x64), (2, .int u59), (0, .ref (a 0)), (1, .int v1)]) hx hb dX2_travel_27 hl (by decide) rfl (fun ls hl => ?_)
    obtain ⟨x96, hq96, hR⟩ := kk_bd_el hR
    refine kk_cut (g := g) (A := A) (w' := (w_P g a x96)) (nL := 8) (lv := [(2, .int u59), (0, .ref (a 0)), (1, .int v1)]) (pcJ := 162) (st := []) (fun H locs ls hP hD hS hl => ?_) (fun hj96 => ?_)
    · refine lv_iinc (v := (u59 + (1 : Int32))) (lv' := [(2, .int (u59 + (1 : Int32))), (0, .ref (a 0)), (1, .int v1)]) hx hb dX2_travel_162 hl (k := 0) rfl rfl (by decide) rfl (fun ls hl => ?_)
      refine lv_goto (tgt := 2) hx hb dX2_travel_165 (by decide) ?_
      obtain rfl := Option.some.inj hR
      exact ih2 _ rfl _ _ _ hP hD hS (lv_sub hl [0, 1, 2] rfl)
    refine kk_loop (g := g) (A := A) (fun (st : Int32 × Int32 × Int32 × St1) => (w_P g a st.2.2.2)) (fun (st : Int32 × Int32 × Int32 × St1) => [(6, .int st.2.2.1), (5, .int st.2.1), (4, .int st.1), (3, .int x64), (2, .int u59), (0, .ref (a 0)), (1, .int v1)]) 29 (nL := 8) hq96 (fun st xb95 hR ih3 hX3 => ?_) hP hD hS (lv_sub hl [0, 1, 2, 3, 4, 5, 6] rfl)
    clear hP hD hS hl
    obtain ⟨u91, u92, u93, P94⟩ := st
    intro H locs ls hP hD hS hl
    replace hR : fX2_travel_b29 n u59 x64 u91 u92 u93 P94 = some xb95 := hR
    replace hP : va_P g.1 vwCl (w_P g a P94) H := hP
    replace hD : va_D A (w_P g a P94) := hD
    replace hl : lv_has ls 8 [(6, .int u93), (5, .int u92), (4, .int u91), (3, .int x64), (2, .int u59), (0, .ref (a 0)), (1, .int v1)] := hl
    unfold fX2_travel_b29 at hR
    refine lv_iload hx hb dX2_travel_29 (lv_at hl 0 rfl) ?_
    refine lv_aload_n hx hb dX2_travel_31 rfl (lv_at hl 5 rfl) ?_
    refine va_get (ci := 2) (C := RX2) (T := TX2) (N := 11) hx hb hts hw2 hown hK hP 0 rfl rfl 5 (by decide) hl1 (fun _ h9 => h9) rfl dX2_travel_32 ?_
    refine lv_icmp_gt (tgt := 162) hx hb dX2_travel_35 (by decide) (fun c97 => ?_) (fun c97 => ?_)
    · replace hR := (if_pos c97).symm.trans hR
      obtain rfl := Option.some.inj hR
      obtain rfl := hX3 _ rfl
      exact hj96 _ _ _ hP hD hS (lv_sub hl [4, 5, 6] rfl)
    · replace hR := (if_neg c97).symm.trans hR
      refine lv_iload hx hb dX2_travel_38 (lv_at hl 0 rfl) ?_
      refine lv_aload_n hx hb dX2_travel_40 rfl (lv_at hl 5 rfl) ?_
      refine va_get (ci := 2) (C := RX2) (T := TX2) (N := 11) hx hb hts hw2 hown hK hP 0 rfl rfl 5 (by decide) hl1 (fun _ h9 => h9) rfl dX2_travel_41 ?_
      obtain ⟨x100, hq100, hR⟩ := kk_bd_el hR
      refine kk_cut (g := g) (A := A) (w' := (w_P g a P94)) (nL := 8) (lv := [(6, .int u93), (5, .int u92), (4, .int u91), (3, .int x64), (2, .int u59), (0, .ref (a 0)), (1, .int v1)]) (pcJ := 59) (st := [.int x100]) (fun H locs ls hP hD hS hl => ?_) (fun hj100 => ?_)
      · refine lv_istore (lv' := [(7, .int x100), (6, .int u93), (5, .int u92), (4, .int u91), (3, .int x64), (2, .int u59), (0, .ref (a 0)), (1, .int v1)]) hx hb dX2_travel_59 hl (by decide) rfl (fun ls hl => ?_)
        refine lv_iload hx hb dX2_travel_61 (lv_at hl 3 rfl) ?_
        refine lv_iload hx hb dX2_travel_63 (lv_at hl 0 rfl) ?_
        refine lv_iload hx hb dX2_travel_65 (lv_at hl 2 rfl) ?_
        refine lv_isub hx hb dX2_travel_67 ?_
        refine lv_aload_n hx hb dX2_travel_68 rfl (lv_at hl 6 rfl) ?_
        refine va_get (ci := 2) (C := RX2) (T := TX2) (N := 11) hx hb hts hw2 hown hK hP 0 rfl rfl 8 (by decide) hl0 (fun _ h9 => h9) rfl dX2_travel_69 ?_
        refine lv_iconst (v := (2 : Int32)) hx hb dX2_travel_72 (by decide) ?_
        refine va_iald hx hb hK hP 7 0 rfl rfl (kk_in 2 4 (by decide) (by decide) rfl) dX2_travel_73 ?_
        refine lv_imul hx hb dX2_travel_74 ?_
        refine lv_iadd hx hb dX2_travel_75 ?_
        refine lv_istore (lv' := [(4, .int (u91 + ((x100 - u92) * ((P94 8) (2 : Int32).toNatClampNeg)))), (7, .int x100), (6, .int u93), (5, .int u92), (3, .int x64), (2, .int u59), (0, .ref (a 0)), (1, .int v1)]) hx hb dX2_travel_76 hl (by decide) rfl (fun ls hl => ?_)
        refine lv_iload_n hx hb dX2_travel_78 rfl (lv_at hl 5 rfl) ?_
        obtain ⟨x105, hq105, hR⟩ := kk_bd_el hR
        refine kk_cut (g := g) (A := A) (w' := (w_P g a P94)) (nL := 8) (lv := [(4, .int x105), (7, .int x100), (6, .int u93), (3, .int x64), (2, .int u59), (0, .ref (a 0)), (1, .int v1)]) (pcJ := 103) (st := []) (fun H locs ls hP hD hS hl => ?_) (fun hj105 => ?_)
        · refine lv_aload_n hx hb dX2_travel_103 rfl (lv_at hl 5 rfl) ?_
          refine va_get (ci := 2) (C := RX2) (T := TX2) (N := 11) hx hb hts hw2 hown hK hP 0 rfl rfl 9 (by decide) hl8 (fun _ h9 => h9) rfl dX2_travel_104 ?_
          refine lv_iload hx hb dX2_travel_107 (lv_at hl 2 rfl) ?_
          refine lv_iload hx hb dX2_travel_109 (lv_at hl 0 rfl) ?_
          obtain ⟨hi109, hR⟩ := kk_ck_el hR
          obtain ⟨P108, eP108, hR⟩ := kk_nm_el hR
          refine kk_iast (w' := (w_P g a P108)) hC hK hP hD hS 8 rfl hi109 (by rw [eP108]; rfl) dX2_travel_111 (fun H locs hP hD hS => ?_)
          refine lv_iload hx hb dX2_travel_112 (lv_at hl 2 rfl) ?_
          refine lv_aload_n hx hb dX2_travel_114 rfl (lv_at hl 5 rfl) ?_
          refine va_get (ci := 2) (C := RX2) (T := TX2) (N := 11) hx hb hts hw2 hown hK hP 0 rfl rfl 5 (by decide) hl1 (fun _ h9 => h9) rfl dX2_travel_115 ?_
          obtain ⟨x113, hq113, hR⟩ := kk_bd_el hR
          refine kk_cut (g := g) (A := A) (w' := (w_P g a P108)) (nL := 8) (lv := [(4, .int x113), (7, .int x100), (6, .int u93), (3, .int x64), (2, .int u59), (0, .ref (a 0)), (1, .int v1)]) (pcJ := 143) (st := []) (fun H locs ls hP hD hS hl => ?_) (fun hj113 => ?_)
          · refine lv_aload_n hx hb dX2_travel_143 rfl (lv_at hl 5 rfl) ?_
            refine va_get (ci := 2) (C := RX2) (T := TX2) (N := 11) hx hb hts hw2 hown hK hP 0 rfl rfl 10 (by decide) hl3 (fun _ h9 => h9) rfl dX2_travel_144 ?_
            refine lv_iload hx hb dX2_travel_147 (lv_at hl 2 rfl) ?_
            refine lv_iload hx hb dX2_travel_149 (lv_at hl 0 rfl) ?_
            obtain ⟨hi118, hR⟩ := kk_ck_el hR
            obtain ⟨P117, eP117, hR⟩ := kk_nm_el hR
            refine kk_iast (w' := (w_P g a P117)) hC hK hP hD hS 9 rfl hi118 (by rw [eP117]; rfl) dX2_travel_151 (fun H locs hP hD hS => ?_)
            refine lv_iload hx hb dX2_travel_152 (lv_at hl 1 rfl) ?_
            refine lv_istore (lv' := [(5, .int x100), (4, .int x113), (7, .int x100), (6, .int u93), (3, .int x64), (2, .int u59), (0, .ref (a 0)), (1, .int v1)]) hx hb dX2_travel_154 hl (by decide) rfl (fun ls hl => ?_)
            refine lv_iinc (v := (u93 + (1 : Int32))) (lv' := [(6, .int (u93 + (1 : Int32))), (5, .int x100), (4, .int x113), (7, .int x100), (3, .int x64), (2, .int u59), (0, .ref (a 0)), (1, .int v1)]) hx hb dX2_travel_156 hl (k := 3) rfl rfl (by decide) rfl (fun ls hl => ?_)
            refine lv_goto (tgt := 29) hx hb dX2_travel_159 (by decide) ?_
            obtain rfl := Option.some.inj hR
            exact ih3 _ rfl _ _ _ hP hD hS (lv_sub hl [0, 1, 2, 4, 5, 6, 7] rfl)
          replace hR := hq113
          refine lv_icmp_ge (tgt := 143) hx hb dX2_travel_118 (by decide) (fun c114 => ?_) (fun c114 => ?_)
          · replace hR := (if_pos c114).symm.trans hR
            obtain rfl := Option.some.inj hR
            exact hj113 _ _ _ hP hD hS (lv_sub hl [0, 1, 2, 3, 4, 5, 6] rfl)
          · replace hR := (if_neg c114).symm.trans hR
            refine lv_iload_n hx hb dX2_travel_121 rfl (lv_at hl 3 rfl) ?_
            refine lv_aload_n hx hb dX2_travel_122 rfl (lv_at hl 5 rfl) ?_
            refine va_get (ci := 2) (C := RX2) (T := TX2) (N := 11) hx hb hts hw2 hown hK hP 0 rfl rfl 7 (by decide) hl9 (fun _ h9 => h9) rfl dX2_travel_123 ?_
            refine lv_iload hx hb dX2_travel_126 (lv_at hl 2 rfl) ?_
            obtain ⟨hi115, hR⟩ := kk_ck_el hR
            refine va_iald hx hb hK hP 6 0 rfl rfl hi115 dX2_travel_128 ?_
            refine lv_icmp_le (tgt := 143) hx hb dX2_travel_129 (by decide) (fun c116 => ?_) (fun c116 => ?_)
            · replace hR := (if_pos c116).symm.trans hR
              obtain rfl := Option.some.inj hR
              exact hj113 _ _ _ hP hD hS (lv_sub hl [0, 1, 2, 3, 4, 5, 6] rfl)
            · replace hR := (if_neg c116).symm.trans hR
              refine lv_iload hx hb dX2_travel_132 (lv_at hl 0 rfl) ?_
              refine lv_aload_n hx hb dX2_travel_134 rfl (lv_at hl 5 rfl) ?_
              refine va_get (ci := 2) (C := RX2) (T := TX2) (N := 11) hx hb hts hw2 hown hK hP 0 rfl rfl 8 (by decide) hl0 (fun _ h9 => h9) rfl dX2_travel_135 ?_
              refine lv_iconst (v := (3 : Int32)) hx hb dX2_travel_138 (by decide) ?_
              refine va_iald hx hb hK hP 7 0 rfl rfl (kk_in 3 4 (by decide) (by decide) rfl) dX2_travel_139 ?_
              refine lv_iadd hx hb dX2_travel_140 ?_
              refine lv_istore (lv' := [(4, .int (x105 + ((P108 8) (3 : Int32).toNatClampNeg))), (7, .int x100), (6, .int u93), (3, .int x64), (2, .int u59), (0, .ref (a 0)), (1, .int v1)]) hx hb dX2_travel_141 hl (by decide) rfl (fun ls hl => ?_)
              obtain rfl := Option.some.inj hR
              exact hj113 _ _ _ hP hD hS (lv_sub hl [0, 1, 2, 3, 4, 5, 6] rfl)
        replace hR := hq105
        refine lv_if_le (tgt := 103) hx hb dX2_travel_79 (by decide) (fun c106 => ?_) (fun c106 => ?_)
        · replace hR := (if_pos c106).symm.trans hR
          obtain rfl := Option.some.inj hR
          exact hj105 _ _ _ hP hD hS (lv_sub hl [0, 1, 2, 4, 5, 6, 7] rfl)
        · replace hR := (if_neg c106).symm.trans hR
          refine lv_iload hx hb dX2_travel_82 (lv_at hl 0 rfl) ?_
          refine lv_aload_n hx hb dX2_travel_84 rfl (lv_at hl 6 rfl) ?_
          refine va_get (ci := 2) (C := RX2) (T := TX2) (N := 11) hx hb hts hw2 hown hK hP 0 rfl rfl 10 (by decide) hl3 (fun _ h9 => h9) rfl dX2_travel_85 ?_
          refine lv_iload hx hb dX2_travel_88 (lv_at hl 2 rfl) ?_
          obtain ⟨hi107, hR⟩ := kk_ck_el hR
          refine va_iald hx hb hK hP 9 0 rfl rfl hi107 dX2_travel_90 ?_
          refine lv_aload_n hx hb dX2_travel_91 rfl (lv_at hl 6 rfl) ?_
          refine va_get (ci := 2) (C := RX2) (T := TX2) (N := 11) hx hb hts hw2 hown hK hP 0 rfl rfl 8 (by decide) hl0 (fun _ h9 => h9) rfl dX2_travel_92 ?_
          refine lv_iconst (v := (1 : Int32)) hx hb dX2_travel_95 (by decide) ?_
          refine va_iald hx hb hK hP 7 0 rfl rfl (kk_in 1 4 (by decide) (by decide) rfl) dX2_travel_96 ?_
          refine lv_iadd hx hb dX2_travel_97 ?_
          refine va_mmax hx hb (hml.trans hl.1.symm) hown hl4 hl5 hl6 hl7 (Nat.le_of_ble_eq_true rfl) (Nat.le_of_ble_eq_true rfl) (Nat.zero_le _) (Nat.zero_le _) dX2_travel_98 ?_
          refine lv_istore (lv' := [(4, .int (if (u91 + ((x100 - u92) * ((P94 8) (2 : Int32).toNatClampNeg))) < (((P94 10) u93.toNatClampNeg) + ((P94 8) (1 : Int32).toNatClampNeg)) then (((P94 10) u93.toNatClampNeg) + ((P94 8) (1 : Int32).toNatClampNeg)) else (u91 + ((x100 - u92) * ((P94 8) (2 : Int32).toNatClampNeg))))), (7, .int x100), (6, .int u93), (5, .int u92), (3, .int x64), (2, .int u59), (0, .ref (a 0)), (1, .int v1)]) hx hb dX2_travel_101 hl (by decide) rfl (fun ls hl => ?_)
          obtain rfl := Option.some.inj hR
          exact hj105 _ _ _ hP hD hS (lv_sub hl [0, 1, 2, 4, 5, 6, 7] rfl)
      replace hR := hq100
      refine lv_icmp_ge (tgt := 57) hx hb dX2_travel_44 (by decide) (fun c101 => ?_) (fun c101 => ?_)
      · replace hR := (if_pos c101).symm.trans hR
        refine lv_bipush (v := (60 : Int32)) hx hb dX2_travel_57 (by decide) ?_
        obtain rfl := Option.some.inj hR
        exact hj100 _ _ _ hP hD hS (lv_sub hl [0, 1, 2, 3, 4, 5, 6] rfl)
      · replace hR := (if_neg c101).symm.trans hR
        refine lv_aload_n hx hb dX2_travel_47 rfl (lv_at hl 5 rfl) ?_
        refine va_get (ci := 2) (C := RX2) (T := TX2) (N := 11) hx hb hts hw2 hown hK hP 0 rfl rfl 6 (by decide) hl2 (fun _ h9 => h9) rfl dX2_travel_48 ?_
        refine lv_iload hx hb dX2_travel_51 (lv_at hl 0 rfl) ?_
        obtain ⟨hi102, hR⟩ := kk_ck_el hR
        refine va_iald hx hb hK hP 5 0 rfl rfl hi102 dX2_travel_53 ?_
        refine lv_goto (tgt := 59) hx hb dX2_travel_54 (by decide) ?_
        obtain rfl := Option.some.inj hR
        exact hj100 _ _ _ hP hD hS (lv_sub hl [0, 1, 2, 3, 4, 5, 6] rfl)
set_option maxHeartbeats 8000000 in
set_option maxRecDepth 100000 in
theorem sX2_end (l : Launch) (g : kG) (n : Nat) (a : Nat → Nat) (P : St1) (r : Int32 × St1) (hR : fX2_end n P = some r) : kSp l g yX2_end wsX2_end ({ frames := 2, cells := 0, slots := 0, locals := 49 }) [.ref (a 0)] (w_P g a P) (kQi g (w_P g a r.2) r.1) := by
  refine kSp.of (cc := cX2_end) (maxL := 1) (ret := (some .int)) (by decide) rfl (Nat.le_of_ble_eq_true rfl) ?_
  intro p e s m args below meth c ls A hC hr hlocks hA hK hl hP hD hS
  replace hC : CallFix p m c cX2_end 1 s args wsX2_end RX2 := hC
  obtain ⟨hx, hb, hml, hown, hts⟩ := id hC
  replace hl : lv_has ls 1 [(0, .ref (a 0))] := hl
  unfold fX2_end at hR
  have hw2 : ∀ w ∈ wsX20, w ∈ wsX2_end := by decide +kernel
  have hl0 := hts (.fieldLink RX2 9 "FloatOrder$Parade" "floats" "I") (by decide +kernel)
  have hl1 := hts (.fieldLink RX2 41 "FloatOrder$Parade" "came" "[I") (by decide +kernel)
  have hl2 := hts (.fieldLink RX2 29 "FloatOrder$Parade" "bridges" "I") (by decide +kernel)
  refine lv_aload_n hx hb dX2_end_0 rfl (lv_at hl 0 rfl) ?_
  refine va_get (ci := 2) (C := RX2) (T := TX2) (N := 11) hx hb hts hw2 hown hK hP 0 rfl rfl 0 (by decide) hl0 (fun _ h9 => h9) rfl dX2_end_1 ?_
  refine lv_if_gt (tgt := 9) hx hb dX2_end_4 (by decide) (fun c1 => ?_) (fun c1 => ?_)
  · replace hR := (if_pos c1).symm.trans hR
    refine lv_aload_n hx hb dX2_end_9 rfl (lv_at hl 0 rfl) ?_
    refine lv_aload_n hx hb dX2_end_10 rfl (lv_at hl 0 rfl) ?_
    refine va_get (ci := 2) (C := RX2) (T := TX2) (N := 11) hx hb hts hw2 hown hK hP 0 rfl rfl 0 (by decide) hl0 (fun _ h9 => h9) rfl dX2_end_11 ?_
    refine lv_iconst (v := (1 : Int32)) hx hb dX2_end_14 (by decide) ?_
    refine lv_isub hx hb dX2_end_15 ?_
    obtain ⟨x2, hq2, hR⟩ := kk_bd_el hR
    refine kk_call_Vv (w' := (w_P g a x2)) (As := [.int ((P 0 0) - (1 : Int32))]) (rest := []) 0 2 hC (sX2_travel l g n a P ((P 0 0) - (1 : Int32)) x2 hq2) (cwV 1 hts gX2_end_X2_travel rfl rfl rfl (by decide +kernel) ⟨Nat.le_of_ble_eq_true rfl, Nat.le_of_ble_eq_true rfl⟩) hK hP hD hS hA [0, 1, 2, 3, 4, 5, 6, 7, 8, 9] rfl (by decide +kernel) rfl rfl rfl rfl rfl rfl rfl hl.1 (Nat.le_of_ble_eq_true rfl) dX2_end_16 (fun H locs hP hD hS => ?_)
    refine lv_aload_n hx hb dX2_end_19 rfl (lv_at hl 0 rfl) ?_
    refine va_get (ci := 2) (C := RX2) (T := TX2) (N := 11) hx hb hts hw2 hown hK hP 0 rfl rfl 9 (by decide) hl1 (fun _ h9 => h9) rfl dX2_end_20 ?_
    refine lv_aload_n hx hb dX2_end_23 rfl (lv_at hl 0 rfl) ?_
    refine va_get (ci := 2) (C := RX2) (T := TX2) (N := 11) hx hb hts hw2 hown hK hP 0 rfl rfl 5 (by decide) hl2 (fun _ h9 => h9) rfl dX2_end_24 ?_
    obtain ⟨hi3, hR⟩ := kk_ck_el hR
    refine va_iald hx hb hK hP 8 0 rfl rfl hi3 dX2_end_27 ?_
    obtain rfl := Option.some.inj hR
    exact kk_ret_i hC hr hlocks hK hP hD hS dX2_end_28 rfl
  · replace hR := (if_neg c1).symm.trans hR
    refine lv_iconst (v := (0 : Int32)) hx hb dX2_end_7 (by decide) ?_
    obtain rfl := Option.some.inj hR
    exact kk_ret_i hC hr hlocks hK hP hD hS dX2_end_8 rfl
set_option maxHeartbeats 8000000 in
set_option maxRecDepth 100000 in
theorem sX2_waiting (l : Launch) (g : kG) (n : Nat) (a : Nat → Nat) (P : St1) (r : Int32 × St1) (hR : fX2_waiting n P = some r) : kSp l g yX2_waiting wsX2_waiting ({ frames := 3, cells := 0, slots := 0, locals := 69 }) [.ref (a 0)] (w_P g a P) (kQi g (w_P g a r.2) r.1) := by
  refine kSp.of (cc := cX2_waiting) (maxL := 1) (ret := (some .int)) (by decide) rfl (Nat.le_of_ble_eq_true rfl) ?_
  intro p e s m args below meth c ls A hC hr hlocks hA hK hl hP hD hS
  replace hC : CallFix p m c cX2_waiting 1 s args wsX2_waiting RX2 := hC
  obtain ⟨hx, hb, hml, hown, hts⟩ := id hC
  replace hl : lv_has ls 1 [(0, .ref (a 0))] := hl
  unfold fX2_waiting at hR
  have hw2 : ∀ w ∈ wsX20, w ∈ wsX2_waiting := by decide +kernel
  have hl0 := hts (.fieldLink RX2 9 "FloatOrder$Parade" "floats" "I") (by decide +kernel)
  have hl1 := hts (.fieldLink RX2 38 "FloatOrder$Parade" "settings" "[I") (by decide +kernel)
  refine lv_aload_n hx hb dX2_waiting_0 rfl (lv_at hl 0 rfl) ?_
  refine va_get (ci := 2) (C := RX2) (T := TX2) (N := 11) hx hb hts hw2 hown hK hP 0 rfl rfl 0 (by decide) hl0 (fun _ h9 => h9) rfl dX2_waiting_1 ?_
  refine lv_if_gt (tgt := 9) hx hb dX2_waiting_4 (by decide) (fun c1 => ?_) (fun c1 => ?_)
  · replace hR := (if_pos c1).symm.trans hR
    refine lv_aload_n hx hb dX2_waiting_9 rfl (lv_at hl 0 rfl) ?_
    obtain ⟨x2, hq2, hR⟩ := kk_bd_el hR
    refine kk_call_Vi (w' := (w_P g a x2.2)) (As := []) (rest := []) 0 2 hC (sX2_end l g n a P  x2 hq2) (cwV 0 hts gX2_waiting_X2_end rfl rfl rfl (by decide +kernel) ⟨Nat.le_of_ble_eq_true rfl, Nat.le_of_ble_eq_true rfl⟩) hK hP hD hS hA [0, 1, 2, 3, 4, 5, 6, 7, 8, 9] rfl (by decide +kernel) rfl rfl rfl rfl rfl rfl rfl hl.1 (Nat.le_of_ble_eq_true rfl) dX2_waiting_10 (fun H locs hP hD hS => ?_)
    refine lv_aload_n hx hb dX2_waiting_13 rfl (lv_at hl 0 rfl) ?_
    refine va_get (ci := 2) (C := RX2) (T := TX2) (N := 11) hx hb hts hw2 hown hK hP 0 rfl rfl 0 (by decide) hl0 (fun _ h9 => h9) rfl dX2_waiting_14 ?_
    refine lv_iconst (v := (1 : Int32)) hx hb dX2_waiting_17 (by decide) ?_
    refine lv_isub hx hb dX2_waiting_18 ?_
    refine lv_aload_n hx hb dX2_waiting_19 rfl (lv_at hl 0 rfl) ?_
    refine va_get (ci := 2) (C := RX2) (T := TX2) (N := 11) hx hb hts hw2 hown hK hP 0 rfl rfl 8 (by decide) hl1 (fun _ h9 => h9) rfl dX2_waiting_20 ?_
    refine lv_iconst (v := (1 : Int32)) hx hb dX2_waiting_23 (by decide) ?_
    refine va_iald hx hb hK hP 7 0 rfl rfl (kk_in 1 4 (by decide) (by decide) rfl) dX2_waiting_24 ?_
    refine lv_imul hx hb dX2_waiting_25 ?_
    refine lv_isub hx hb dX2_waiting_26 ?_
    refine lv_bipush (v := (60 : Int32)) hx hb dX2_waiting_27 (by decide) ?_
    refine lv_aload_n hx hb dX2_waiting_29 rfl (lv_at hl 0 rfl) ?_
    refine va_get (ci := 2) (C := RX2) (T := TX2) (N := 11) hx hb hts hw2 hown hK hP 0 rfl rfl 8 (by decide) hl1 (fun _ h9 => h9) rfl dX2_waiting_30 ?_
    refine lv_iconst (v := (2 : Int32)) hx hb dX2_waiting_33 (by decide) ?_
    refine va_iald hx hb hK hP 7 0 rfl rfl (kk_in 2 4 (by decide) (by decide) rfl) dX2_waiting_34 ?_
    refine lv_imul hx hb dX2_waiting_35 ?_
    refine lv_isub hx hb dX2_waiting_36 ?_
    obtain rfl := Option.some.inj hR
    exact kk_ret_i hC hr hlocks hK hP hD hS dX2_waiting_37 rfl
  · replace hR := (if_neg c1).symm.trans hR
    refine lv_iconst (v := (0 : Int32)) hx hb dX2_waiting_7 (by decide) ?_
    obtain rfl := Option.some.inj hR
    exact kk_ret_i hC hr hlocks hK hP hD hS dX2_waiting_8 rfl