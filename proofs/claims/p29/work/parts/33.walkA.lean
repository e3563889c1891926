set_option maxHeartbeats 8000000 in
set_option maxRecDepth 100000 in
theorem sX2_copyFrom (l : Launch) (g : kG) (n : Nat) (a : Nat → Nat) (b : Nat → Nat) (P : St1) (Q : St1) (r : St1) (hR : fX2_copyFrom n P Q = some r) : kSp l g yX2_copyFrom wsX2_copyFrom ({ frames := 0, cells := 0, slots := 0, locals := 0 }) [.ref (a 0), .ref (b 0)] (w_P g a P ++ w_P g b Q) (kQv g (w_P g a r ++ w_P g b Q)) := by
  refine kSp.of (cc := cX2_copyFrom) (maxL := 3) (ret := none) (by decide) rfl (Nat.le_of_ble_eq_true rfl) ?_
  intro p e s m args below meth c ls A hC hr hlocks hA hK hl hP hD hS
  replace hC : CallFix p m c cX2_copyFrom 3 s args wsX2_copyFrom RX2 := hC
  obtain ⟨hx, hb, hml, hown, hts⟩ := id hC
  replace hl : lv_has ls 3 [(0, .ref (a 0)), (1, .ref (b 0))] := hl
  unfold fX2_copyFrom at hR
  have hw2 : ∀ w ∈ wsX20, w ∈ wsX2_copyFrom := by decide +kernel
  have hl0 := hts (.fieldLink RX2 9 "FloatOrder$Parade" "floats" "I") (by decide +kernel)
  have hl1 := hts (.fieldLink RX2 15 "FloatOrder$Parade" "kinds" "[I") (by decide +kernel)
  have hl2 := hts (.fieldLink RX2 19 "FloatOrder$Parade" "heights" "[I") (by decide +kernel)
  have hl3 := hts (.fieldLink RX2 22 "FloatOrder$Parade" "masks" "[I") (by decide +kernel)
  have hl4 := hts (.fieldLink RX2 25 "FloatOrder$Parade" "folded" "[Z") (by decide +kernel)
  have hl5 := hts (.fieldLink RX2 29 "FloatOrder$Parade" "bridges" "I") (by decide +kernel)
  have hl6 := hts (.fieldLink RX2 32 "FloatOrder$Parade" "distances" "[I") (by decide +kernel)
  have hl7 := hts (.fieldLink RX2 35 "FloatOrder$Parade" "clearances" "[I") (by decide +kernel)
  have hl8 := hts (.fieldLink RX2 38 "FloatOrder$Parade" "settings" "[I") (by decide +kernel)
  refine lv_aload_n hx hb dX2_copyFrom_0 rfl (lv_at hl 0 rfl) ?_
  refine lv_aload_n hx hb dX2_copyFrom_1 rfl (lv_at hl 1 rfl) ?_
  refine va_get (ci := 2) (C := RX2) (T := TX2) (N := 11) hx hb hts hw2 hown hK hP 10 rfl rfl 0 (by decide) hl0 (fun _ h9 => h9) rfl dX2_copyFrom_2 ?_
  obtain ⟨P1, eP1, hR⟩ := kk_nm_el hR
  refine kk_put (w' := (w_P g a P1 ++ w_P g b Q)) (ci := 2) (C := RX2) (T := TX2) (N := 11) (ty := .int) (v := .int (Q 0 0)) hC hw2 tyX2 tyX2_ok nmX2 hK hP hD hS 0 rfl rfl 0 (by decide) hl0 rfl (by decide +kernel) rfl rfl (Nat.le_of_ble_eq_true rfl) (by rw [eP1]; rfl) dX2_copyFrom_5 rfl (fun H locs hP hD hS => ?_)
  refine lv_iconst (v := (0 : Int32)) hx hb dX2_copyFrom_8 (by decide) ?_
  refine lv_istore_n (lv' := [(2, .int (0 : Int32)), (0, .ref (a 0)), (1, .ref (b 0))]) hx hb dX2_copyFrom_9 rfl hl (by decide) rfl (fun ls hl => ?_)
  obtain ⟨x22, hq22, hR⟩ := kk_bd_el hR
  refine kk_cut (g := g) (A := A) (w' := (w_P g a x22 ++ w_P g b Q)) (nL := 3) (lv := [(0, .ref (a 0)), (1, .ref (b 0))]) (pcJ := 72) (st := []) (fun H locs ls hP hD hS hl => ?_) (fun hj22 => ?_)
  · refine lv_aload_n hx hb dX2_copyFrom_72 rfl (lv_at hl 0 rfl) ?_
    refine lv_aload_n hx hb dX2_copyFrom_73 rfl (lv_at hl 1 rfl) ?_
    refine va_get (ci := 2) (C := RX2) (T := TX2) (N := 11) hx hb hts hw2 hown hK hP 10 rfl rfl 5 (by decide) hl5 (fun _ h9 => h9) rfl dX2_copyFrom_74 ?_
    obtain ⟨P37, eP37, hR⟩ := kk_nm_el hR
    refine kk_put (w' := (w_P g a P37 ++ w_P g b Q)) (ci := 2) (C := RX2) (T := TX2) (N := 11) (ty := .int) (v := .int (Q 5 0)) hC hw2 tyX2 tyX2_ok nmX2 hK hP hD hS 0 rfl rfl 5 (by decide) hl5 rfl (by decide +kernel) rfl rfl (Nat.le_of_ble_eq_true rfl) (by rw [eP37]; rfl) dX2_copyFrom_77 rfl (fun H locs hP hD hS => ?_)
    refine lv_iconst (v := (0 : Int32)) hx hb dX2_copyFrom_80 (by decide) ?_
    refine lv_istore_n (lv' := [(2, .int (0 : Int32)), (0, .ref (a 0)), (1, .ref (b 0))]) hx hb dX2_copyFrom_81 rfl hl (by decide) rfl (fun ls hl => ?_)
    obtain ⟨x51, hq51, hR⟩ := kk_bd_el hR
    refine kk_cut (g := g) (A := A) (w' := (w_P g a x51 ++ w_P g b Q)) (nL := 3) (lv := [(0, .ref (a 0)), (1, .ref (b 0))]) (pcJ := 120) (st := []) (fun H locs ls hP hD hS hl => ?_) (fun hj51 => ?_)
    · refine lv_iconst (v := (0 : Int32)) hx hb dX2_copyFrom_120 (by decide) ?_
      refine lv_istore_n (lv' := [(2, .int (0 : Int32)), (0, .ref (a 0)), (1, .ref (b 0))]) hx hb dX2_copyFrom_121 rfl hl (by decide) rfl (fun ls hl => ?_)
      obtain ⟨x69, hq69, hR⟩ := kk_bd_el hR
      refine kk_cut (g := g) (A := A) (w' := (w_P g a x69 ++ w_P g b Q)) (nL := 3) (lv := []) (pcJ := 145) (st := []) (fun H locs ls hP hD hS hl => ?_) (fun hj69 => ?_)
      · obtain rfl := Option.some.inj hR
        exact kk_ret_v hC hr hlocks hK hP hD hS dX2_copyFrom_145
      refine kk_loop (g := g) (A := A) (fun (st : Int32 × St1) => (w_P g a st.2 ++ w_P g b Q)) (fun (st : Int32 × St1) => [(2, .int st.1), (0, .ref (a 0)), (1, .ref (b 0))]) 122 (nL := 3) hq69 (fun st xb68 hR ih3 hX3 => ?_) hP hD hS (lv_sub hl [0, 1, 2] rfl)
      clear hP hD hS hl
      obtain ⟨u66, P67⟩ := st
      intro H locs ls hP hD hS hl
      replace hR : fX2_copyFrom_b122 n Q u66 P67 = some xb68 := hR
      replace hP : va_P g.1 vwCl (w_P g a P67 ++ w_P g b Q) H := hP
      replace hD : va_D A (w_P g a P67 ++ w_P g b Q) := hD
      replace hl : lv_has ls 3 [(2, .int u66), (0, .ref (a 0)), (1, .ref (b 0))] := hl
      unfold fX2_copyFrom_b122 at hR
      refine lv_iload_n hx hb dX2_copyFrom_122 rfl (lv_at hl 0 rfl) ?_
      refine lv_iconst (v := (4 : Int32)) hx hb dX2_copyFrom_123 (by decide) ?_
      refine lv_icmp_ge (tgt := 145) hx hb dX2_copyFrom_124 (by decide) (fun c70 => ?_) (fun c70 => ?_)
      · replace hR := (if_pos c70).symm.trans hR
        obtain rfl := Option.some.inj hR
        obtain rfl := hX3 _ rfl
        exact hj69 _ _ _ hP hD hS (lv_sub hl [] rfl)
      · replace hR := (if_neg c70).symm.trans hR
        refine lv_aload_n hx hb dX2_copyFrom_127 rfl (lv_at hl 1 rfl) ?_
        refine va_get (ci := 2) (C := RX2) (T := TX2) (N := 11) hx hb hts hw2 hown hK hP 0 rfl rfl 8 (by decide) hl8 (fun _ h9 => h9) rfl dX2_copyFrom_128 ?_
        refine lv_iload_n hx hb dX2_copyFrom_131 rfl (lv_at hl 0 rfl) ?_
        refine lv_aload_n hx hb dX2_copyFrom_132 rfl (lv_at hl 2 rfl) ?_
        refine va_get (ci := 2) (C := RX2) (T := TX2) (N := 11) hx hb hts hw2 hown hK hP 10 rfl rfl 8 (by decide) hl8 (fun _ h9 => h9) rfl dX2_copyFrom_133 ?_
        refine lv_iload_n hx hb dX2_copyFrom_136 rfl (lv_at hl 0 rfl) ?_
        obtain ⟨hi71, hR⟩ := kk_ck_el hR
        refine va_iald hx hb hK hP 17 0 rfl rfl hi71 dX2_copyFrom_137 ?_
        obtain ⟨hi73, hR⟩ := kk_ck_el hR
        obtain ⟨P72, eP72, hR⟩ := kk_nm_el hR
        refine kk_iast (w' := (w_P g a P72 ++ w_P g b Q)) hC hK hP hD hS 7 rfl hi73 (by rw [eP72]; rfl) dX2_copyFrom_138 (fun H locs hP hD hS => ?_)
        refine lv_iinc (v := (u66 + (1 : Int32))) (lv' := [(2, .int (u66 + (1 : Int32))), (0, .ref (a 0)), (1, .ref (b 0))]) hx hb dX2_copyFrom_139 hl (k := 0) rfl rfl (by decide) rfl (fun ls hl => ?_)
        refine lv_goto (tgt := 122) hx hb dX2_copyFrom_142 (by decide) ?_
        obtain rfl := Option.some.inj hR
        exact ih3 _ rfl _ _ _ hP hD hS (lv_sub hl [0, 1, 2] rfl)
    refine kk_loop (g := g) (A := A) (fun (st : Int32 × St1) => (w_P g a st.2 ++ w_P g b Q)) (fun (st : Int32 × St1) => [(2, .int st.1), (0, .ref (a 0)), (1, .ref (b 0))]) 82 (nL := 3) hq51 (fun st xb50 hR ih2 hX2 => ?_) hP hD hS (lv_sub hl [0, 1, 2] rfl)
    clear hP hD hS hl
    obtain ⟨u48, P49⟩ := st
    intro H locs ls hP hD hS hl
    replace hR : fX2_copyFrom_b82 n Q u48 P49 = some xb50 := hR
    replace hP : va_P g.1 vwCl (w_P g a P49 ++ w_P g b Q) H := hP
    replace hD : va_D A (w_P g a P49 ++ w_P g b Q) := hD
    replace hl : lv_has ls 3 [(2, .int u48), (0, .ref (a 0)), (1, .ref (b 0))] := hl
    unfold fX2_copyFrom_b82 at hR
    refine lv_iload_n hx hb dX2_copyFrom_82 rfl (lv_at hl 0 rfl) ?_
    refine lv_aload_n hx hb dX2_copyFrom_83 rfl (lv_at hl 1 rfl) ?_
    refine va_get (ci := 2) (C := RX2) (T := TX2) (N := 11) hx hb hts hw2 hown hK hP 0 rfl rfl 5 (by decide) hl5 (fun _ h9 => h9) rfl dX2_copyFrom_84 ?_
    refine lv_icmp_ge (tgt := 120) hx hb dX2_copyFrom_87 (by decide) (fun c52 => ?_) (fun c52 => ?_)
    · replace hR := (if_pos c52).symm.trans hR
      obtain rfl := Option.some.inj hR
      obtain rfl := hX2 _ rfl
      exact hj51 _ _ _ hP hD hS (lv_sub hl [1, 2] rfl)
    · replace hR := (if_neg c52).symm.trans hR
      refine lv_aload_n hx hb dX2_copyFrom_90 rfl (lv_at hl 1 rfl) ?_
      refine va_get (ci := 2) (C := RX2) (T := TX2) (N := 11) hx hb hts hw2 hown hK hP 0 rfl rfl 6 (by decide) hl6 (fun _ h9 => h9) rfl dX2_copyFrom_91 ?_
      refine lv_iload_n hx hb dX2_copyFrom_94 rfl (lv_at hl 0 rfl) ?_
      refine lv_aload_n hx hb dX2_copyFrom_95 rfl (lv_at hl 2 rfl) ?_
      refine va_get (ci := 2) (C := RX2) (T := TX2) (N := 11) hx hb hts hw2 hown hK hP 10 rfl rfl 6 (by decide) hl6 (fun _ h9 => h9) rfl dX2_copyFrom_96 ?_
      refine lv_iload_n hx hb dX2_copyFrom_99 rfl (lv_at hl 0 rfl) ?_
      obtain ⟨hi53, hR⟩ := kk_ck_el hR
      refine va_iald hx hb hK hP 15 0 rfl rfl hi53 dX2_copyFrom_100 ?_
      obtain ⟨hi55, hR⟩ := kk_ck_el hR
      obtain ⟨P54, eP54, hR⟩ := kk_nm_el hR
      refine kk_iast (w' := (w_P g a P54 ++ w_P g b Q)) hC hK hP hD hS 5 rfl hi55 (by rw [eP54]; rfl) dX2_copyFrom_101 (fun H locs hP hD hS => ?_)
      refine lv_aload_n hx hb dX2_copyFrom_102 rfl (lv_at hl 1 rfl) ?_
      refine va_get (ci := 2) (C := RX2) (T := TX2) (N := 11) hx hb hts hw2 hown hK hP 0 rfl rfl 7 (by decide) hl7 (fun _ h9 => h9) rfl dX2_copyFrom_103 ?_
      refine lv_iload_n hx hb dX2_copyFrom_106 rfl (lv_at hl 0 rfl) ?_
      refine lv_aload_n hx hb dX2_copyFrom_107 rfl (lv_at hl 2 rfl) ?_
      refine va_get (ci := 2) (C := RX2) (T := TX2) (N := 11) hx hb hts hw2 hown hK hP 10 rfl rfl 7 (by decide) hl7 (fun _ h9 => h9) rfl dX2_copyFrom_108 ?_
      refine lv_iload_n hx hb dX2_copyFrom_111 rfl (lv_at hl 0 rfl) ?_
      obtain ⟨hi56, hR⟩ := kk_ck_el hR
      refine va_iald hx hb hK hP 16 0 rfl rfl hi56 dX2_copyFrom_112 ?_
      obtain ⟨hi58, hR⟩ := kk_ck_el hR
      obtain ⟨P57, eP57, hR⟩ := kk_nm_el hR
      refine kk_iast (w' := (w_P g a P57 ++ w_P g b Q)) hC hK hP hD hS 6 rfl hi58 (by rw [eP57]; rfl) dX2_copyFrom_113 (fun H locs hP hD hS => ?_)
      refine lv_iinc (v := (u48 + (1 : Int32))) (lv' := [(2, .int (u48 + (1 : Int32))), (0, .ref (a 0)), (1, .ref (b 0))]) hx hb dX2_copyFrom_114 hl (k := 0) rfl rfl (by decide) rfl (fun ls hl => ?_)
      refine lv_goto (tgt := 82) hx hb dX2_copyFrom_117 (by decide) ?_
      obtain rfl := Option.some.inj hR
      exact ih2 _ rfl _ _ _ hP hD hS (lv_sub hl [0, 1, 2] rfl)
  refine kk_loop (g := g) (A := A) (fun (st : Int32 × St1) => (w_P g a st.2 ++ w_P g b Q)) (fun (st : Int32 × St1) => [(2, .int st.1), (0, .ref (a 0)), (1, .ref (b 0))]) 10 (nL := 3) hq22 (fun st xb21 hR ih1 hX1 => ?_) hP hD hS (lv_sub hl [0, 1, 2] rfl)
  clear hP hD hS hl
  obtain ⟨u19, P20⟩ := st
  intro H locs ls hP hD hS hl
  replace hR : fX2_copyFrom_b10 n Q u19 P20 = some xb21 := hR
  replace hP : va_P g.1 vwCl (w_P g a P20 ++ w_P g b Q) H := hP
  replace hD : va_D A (w_P g a P20 ++ w_P g b Q) := hD
  replace hl : lv_has ls 3 [(2, .int u19), (0, .ref (a 0)), (1, .ref (b 0))] := hl
  unfold fX2_copyFrom_b10 at hR
  refine lv_iload_n hx hb dX2_copyFrom_10 rfl (lv_at hl 0 rfl) ?_
  refine lv_aload_n hx hb dX2_copyFrom_11 rfl (lv_at hl 1 rfl) ?_
  refine va_get (ci := 2) (C := RX2) (T := TX2) (N := 11) hx hb hts hw2 hown hK hP 0 rfl rfl 0 (by decide) hl0 (fun _ h9 => h9) rfl dX2_copyFrom_12 ?_
  refine lv_icmp_ge (tgt := 72) hx hb dX2_copyFrom_15 (by decide) (fun c23 => ?_) (fun c23 => ?_)
  · replace hR := (if_pos c23).symm.trans hR
    obtain rfl := Option.some.inj hR
    obtain rfl := hX1 _ rfl
    exact hj22 _ _ _ hP hD hS (lv_sub hl [1, 2] rfl)
  · replace hR := (if_neg c23).symm.trans hR
    refine lv_aload_n hx hb dX2_copyFrom_18 rfl (lv_at hl 1 rfl) ?_
    refine va_get (ci := 2) (C := RX2) (T := TX2) (N := 11) hx hb hts hw2 hown hK hP 0 rfl rfl 1 (by decide) hl1 (fun _ h9 => h9) rfl dX2_copyFrom_19 ?_
    refine lv_iload_n hx hb dX2_copyFrom_22 rfl (lv_at hl 0 rfl) ?_
    refine lv_aload_n hx hb dX2_copyFrom_23 rfl (lv_at hl 2 rfl) ?_
    refine va_get (ci := 2) (C := RX2) (T := TX2) (N := 11) hx hb hts hw2 hown hK hP 10 rfl rfl 1 (by decide) hl1 (fun _ h9 => h9) rfl dX2_copyFrom_24 ?_
    refine lv_iload_n hx hb dX2_copyFrom_27 rfl (lv_at hl 0 rfl) ?_
    obtain ⟨hi24, hR⟩ := kk_ck_el hR
    refine va_iald hx hb hK hP 11 0 rfl rfl hi24 dX2_copyFrom_28 ?_
    obtain ⟨hi26, hR⟩ := kk_ck_el hR
    obtain ⟨P25, eP25, hR⟩ := kk_nm_el hR
    refine kk_iast (w' := (w_P g a P25 ++ w_P g b Q)) hC hK hP hD hS 1 rfl hi26 (by rw [eP25]; rfl) dX2_copyFrom_29 (fun H locs hP hD hS => ?_)
    refine lv_aload_n hx hb dX2_copyFrom_30 rfl (lv_at hl 1 rfl) ?_
    refine va_get (ci := 2) (C := RX2) (T := TX2) (N := 11) hx hb hts hw2 hown hK hP 0 rfl rfl 2 (by decide) hl2 (fun _ h9 => h9) rfl dX2_copyFrom_31 ?_
    refine lv_iload_n hx hb dX2_copyFrom_34 rfl (lv_at hl 0 rfl) ?_
    refine lv_aload_n hx hb dX2_copyFrom_35 rfl (lv_at hl 2 rfl) ?_
    refine va_get (ci := 2) (C := RX2) (T := TX2) (N := 11) hx hb hts hw2 hown hK hP 10 rfl rfl 2 (by decide) hl2 (fun _ h9 => h9) rfl dX2_copyFrom_36 ?_
    refine lv_iload_n hx hb dX2_copyFrom_39 rfl (lv_at hl 0 rfl) ?_
    obtain ⟨hi27, hR⟩ := kk_ck_el hR
    refine va_iald hx hb hK hP 12 0 rfl rfl hi27 dX2_copyFrom_40 ?_
    obtain ⟨hi29, hR⟩ := kk_ck_el hR
    obtain ⟨P28, eP28, hR⟩ := kk_nm_el hR
    refine kk_iast (w' := (w_P g a P28 ++ w_P g b Q)) hC hK hP hD hS 2 rfl hi29 (by rw [eP28]; rfl) dX2_copyFrom_41 (fun H locs hP hD hS => ?_)
    refine lv_aload_n hx hb dX2_copyFrom_42 rfl (lv_at hl 1 rfl) ?_
    refine va_get (ci := 2) (C := RX2) (T := TX2) (N := 11) hx hb hts hw2 hown hK hP 0 rfl rfl 3 (by decide) hl3 (fun _ h9 => h9) rfl dX2_copyFrom_43 ?_
    refine lv_iload_n hx hb dX2_copyFrom_46 rfl (lv_at hl 0 rfl) ?_
    refine lv_aload_n hx hb dX2_copyFrom_47 rfl (lv_at hl 2 rfl) ?_
    refine va_get (ci := 2) (C := RX2) (T := TX2) (N := 11) hx hb hts hw2 hown hK hP 10 rfl rfl 3 (by decide) hl3 (fun _ h9 => h9) rfl dX2_copyFrom_48 ?_
    refine lv_iload_n hx hb dX2_copyFrom_51 rfl (lv_at hl 0 rfl) ?_
    obtain ⟨hi30, hR⟩ := kk_ck_el hR
    refine va_iald hx hb hK hP 13 0 rfl rfl hi30 dX2_copyFrom_52 ?_
    obtain ⟨hi32, hR⟩ := kk_ck_el hR
    obtain ⟨P31, eP31, hR⟩ := kk_nm_el hR
    refine kk_iast (w' := (w_P g a P31 ++ w_P g b Q)) hC hK hP hD hS 3 rfl hi32 (by rw [eP31]; rfl) dX2_copyFrom_53 (fun H locs hP hD hS => ?_)
    refine lv_aload_n hx hb dX2_copyFrom_54 rfl (lv_at hl 1 rfl) ?_
    refine va_get (ci := 2) (C := RX2) (T := TX2) (N := 11) hx hb hts hw2 hown hK hP 0 rfl rfl 4 (by decide) hl4 (fun _ h9 => h9) rfl dX2_copyFrom_55 ?_
    refine lv_iload_n hx hb dX2_copyFrom_58 rfl (lv_at hl 0 rfl) ?_
    refine lv_aload_n hx hb dX2_copyFrom_59 rfl (lv_at hl 2 rfl) ?_
    refine va_get (ci := 2) (C := RX2) (T := TX2) (N := 11) hx hb hts hw2 hown hK hP 10 rfl rfl 4 (by decide) hl4 (fun _ h9 => h9) rfl dX2_copyFrom_60 ?_
    refine lv_iload_n hx hb dX2_copyFrom_63 rfl (lv_at hl 0 rfl) ?_
    obtain ⟨hi33, hR⟩ := kk_ck_el hR
    refine va_zald hx hb hK hP 14 1 rfl rfl hi33 dX2_copyFrom_64 ?_
    obtain ⟨hi35, hR⟩ := kk_ck_el hR
    obtain ⟨hz36, hR⟩ := kk_cb_el hR
    obtain ⟨P34, eP34, hR⟩ := kk_nm_el hR
    refine kk_zast (w' := (w_P g a P34 ++ w_P g b Q)) hC hK hP hD hS 4 rfl hi35 hz36 (by rw [eP34]; rfl) dX2_copyFrom_65 (fun H locs hP hD hS => ?_)
    refine lv_iinc (v := (u19 + (1 : Int32))) (lv' := [(2, .int (u19 + (1 : Int32))), (0, .ref (a 0)), (1, .ref (b 0))]) hx hb dX2_copyFrom_66 hl (k := 0) rfl rfl (by decide) rfl (fun ls hl => ?_)
    refine lv_goto (tgt := 10) hx hb dX2_copyFrom_69 (by decide) ?_
    obtain rfl := Option.some.inj hR
    exact ih1 _ rfl _ _ _ hP hD hS (lv_sub hl [0, 1, 2] rfl)
set_option maxHeartbeats 8000000 in
set_option maxRecDepth 100000 in
theorem sX0_startAt (l : Launch) (g : kG) (n : Nat) (b : Nat → Nat) (a : Nat → Nat) (B : St1) (P : St1) (r : St1 × St1) (hR : fX0_startAt n B P = some r) : kSp l g yX0_startAt wsX0_startAt ({ frames := 3, cells := 0, slots := 0, locals := 69 }) [.ref (b 0), .ref (a 0)] (w_B g b B ++ w_P g a P) (kQv g (w_B g b r.1 ++ w_P g a r.2)) := by
  refine kSp.of (cc := cX0_startAt) (maxL := 2) (ret := none) (by decide) rfl (Nat.le_of_ble_eq_true rfl) ?_
  intro p e s m args below meth c ls A hC hr hlocks hA hK hl hP hD hS
  replace hC : CallFix p m c cX0_startAt 2 s args wsX0_startAt RX0 := hC
  obtain ⟨hx, hb, hml, hown, hts⟩ := id hC
  replace hl : lv_has ls 2 [(0, .ref (b 0)), (1, .ref (a 0))] := hl
  unfold fX0_startAt at hR
  have hw0 : ∀ w ∈ wsX00, w ∈ wsX0_startAt := by decide +kernel
  have hl0 := hts (.fieldLink RX0 7 "FloatOrder$Best" "leastTrouble" "I") (by decide +kernel)
  have hl1 := hts (.fieldLink RX0 13 "FloatOrder$Best" "leastEnd" "I") (by decide +kernel)
  refine lv_aload_n hx hb dX0_startAt_0 rfl (lv_at hl 0 rfl) ?_
  refine lv_aload_n hx hb dX0_startAt_1 rfl (lv_at hl 1 rfl) ?_
  obtain ⟨x1, hq1, hR⟩ := kk_bd_el hR
  refine kk_call_Vi (w' := (w_B g b B ++ w_P g a P)) (As := []) (rest := [.ref (b 0)]) 1 2 hC (sX2_allTrouble l g n a P  x1 hq1) (cwV 0 hts gX0_startAt_X2_allTrouble rfl rfl rfl (by decide +kernel) ⟨Nat.le_of_ble_eq_true rfl, Nat.le_of_ble_eq_true rfl⟩) hK hP hD hS hA [1, 2, 3, 4, 5, 6, 7, 8, 9, 10] rfl (by decide +kernel) rfl rfl rfl rfl rfl rfl rfl hl.1 (Nat.le_of_ble_eq_true rfl) dX0_startAt_2 (fun H locs hP hD hS => ?_)
  obtain ⟨B2, eB2, hR⟩ := kk_nm_el hR
  refine kk_put (w' := (w_B g b B2 ++ w_P g a P)) (ci := 0) (C := RX0) (T := TX0) (N := 2) (ty := .int) (v := .int x1) hC hw0 tyX0 tyX0_ok nmX0 hK hP hD hS 0 rfl rfl 0 (by decide) hl0 rfl (by decide +kernel) rfl rfl (Nat.le_of_ble_eq_true rfl) (by rw [eB2]; rfl) dX0_startAt_5 rfl (fun H locs hP hD hS => ?_)
  refine lv_aload_n hx hb dX0_startAt_8 rfl (lv_at hl 0 rfl) ?_
  refine lv_aload_n hx hb dX0_startAt_9 rfl (lv_at hl 1 rfl) ?_
  obtain ⟨x3, hq3, hR⟩ := kk_bd_el hR
  refine kk_call_Vi (w' := (w_B g b B2 ++ w_P g a x3.2)) (As := []) (rest := [.ref (b 0)]) 1 2 hC (sX2_end l g n a P  x3 hq3) (cwV 0 hts gX0_startAt_X2_end rfl rfl rfl (by decide +kernel) ⟨Nat.le_of_ble_eq_true rfl, Nat.le_of_ble_eq_true rfl⟩) hK hP hD hS hA [1, 2, 3, 4, 5, 6, 7, 8, 9, 10] rfl (by decide +kernel) rfl rfl rfl rfl rfl rfl rfl hl.1 (Nat.le_of_ble_eq_true rfl) dX0_startAt_10 (fun H locs hP hD hS => ?_)
  obtain ⟨B4, eB4, hR⟩ := kk_nm_el hR
  refine kk_put (w' := (w_B g b B4 ++ w_P g a x3.2)) (ci := 0) (C := RX0) (T := TX0) (N := 2) (ty := .int) (v := .int x3.1) hC hw0 tyX0 tyX0_ok nmX0 hK hP hD hS 0 rfl rfl 1 (by decide) hl1 rfl (by decide +kernel) rfl rfl (Nat.le_of_ble_eq_true rfl) (by rw [eB4]; rfl) dX0_startAt_13 rfl (fun H locs hP hD hS => ?_)
  obtain rfl := Option.some.inj hR
  exact kk_ret_v hC hr hlocks hK hP hD hS dX0_startAt_16
set_option maxHeartbeats 8000000 in
set_option maxRecDepth 100000 in
theorem sX0_isBeatenBy (l : Launch) (g : kG) (n : Nat) (b : Nat → Nat) (a : Nat → Nat) (B : St1) (P : St1) (r : Int32 × St1 × St1) (hR : fX0_isBeatenBy n B P = some r) : kSp l g yX0_isBeatenBy wsX0_isBeatenBy ({ frames := 3, cells := 0, slots := 0, locals := 69 }) [.ref (b 0), .ref (a 0)] (w_B g b B ++ w_P g a P) (kQi g (w_B g b r.2.1 ++ w_P g a r.2.2) r.1) := by
  refine kSp.of (cc := cX0_isBeatenBy) (maxL := 4) (ret := (some .boolean)) (by decide) rfl (Nat.le_of_ble_eq_true rfl) ?_
  intro p e s m args below meth c ls A hC hr hlocks hA hK hl hP hD hS
  replace hC : CallFix p m c cX0_isBeatenBy 4 s args wsX0_isBeatenBy RX0 := hC
  obtain ⟨hx, hb, hml, hown, hts⟩ := id hC
  replace hl : lv_has ls 4 [(0, .ref (b 0)), (1, .ref (a 0))] := hl
  unfold fX0_isBeatenBy at hR
  have hw0 : ∀ w ∈ wsX00, w ∈ wsX0_isBeatenBy := by decide +kernel
  have hl0 := hts (.fieldLink RX0 7 "FloatOrder$Best" "leastTrouble" "I") (by decide +kernel)
  have hl1 := hts (.fieldLink RX0 13 "FloatOrder$Best" "leastEnd" "I") (by decide +kernel)
  refine lv_aload_n hx hb dX0_isBeatenBy_0 rfl (lv_at hl 1 rfl) ?_
  obtain ⟨x1, hq1, hR⟩ := kk_bd_el hR
  refine kk_call_Vi (w' := (w_B g b B ++ w_P g a P)) (As := []) (rest := []) 1 2 hC (sX2_allTrouble l g n a P  x1 hq1) (cwV 0 hts gX0_isBeatenBy_X2_allTrouble rfl rfl rfl (by decide +kernel) ⟨Nat.le_of_ble_eq_true rfl, Nat.le_of_ble_eq_true rfl⟩) hK hP hD hS hA [1, 2, 3, 4, 5, 6, 7, 8, 9, 10] rfl (by decide +kernel) rfl rfl rfl rfl rfl rfl rfl hl.1 (Nat.le_of_ble_eq_true rfl) dX0_isBeatenBy_1 (fun H locs hP hD hS => ?_)
  refine lv_istore_n (lv' := [(2, .int x1), (0, .ref (b 0)), (1, .ref (a 0))]) hx hb dX0_isBeatenBy_4 rfl hl (by decide) rfl (fun ls hl => ?_)
  refine lv_iload_n hx hb dX0_isBeatenBy_5 rfl (lv_at hl 0 rfl) ?_
  refine lv_aload_n hx hb dX0_isBeatenBy_6 rfl (lv_at hl 1 rfl) ?_
  refine va_get (ci := 0) (C := RX0) (T := TX0) (N := 2) hx hb hts hw0 hown hK hP 0 rfl rfl 0 (by decide) hl0 (fun _ h9 => h9) rfl dX0_isBeatenBy_7 ?_
  refine lv_icmp_le (tgt := 15) hx hb dX0_isBeatenBy_10 (by decide) (fun c2 => ?_) (fun c2 => ?_)
  · replace hR := (if_pos c2).symm.trans hR
    refine lv_aload_n hx hb dX0_isBeatenBy_15 rfl (lv_at hl 2 rfl) ?_
    obtain ⟨x3, hq3, hR⟩ := kk_bd_el hR
    refine kk_call_Vi (w' := (w_B g b B ++ w_P g a x3.2)) (As := []) (rest := []) 1 2 hC (sX2_end l g n a P  x3 hq3) (cwV 0 hts gX0_isBeatenBy_X2_end rfl rfl rfl (by decide +kernel) ⟨Nat.le_of_ble_eq_true rfl, Nat.le_of_ble_eq_true rfl⟩) hK hP hD hS hA [1, 2, 3, 4, 5, 6, 7, 8, 9, 10] rfl (by decide +kernel) rfl rfl rfl rfl rfl rfl rfl hl.1 (Nat.le_of_ble_eq_true rfl) dX0_isBeatenBy_16 (fun H locs hP hD hS => ?_)
    refine lv_istore_n (lv' := [(3, .int x3.1), (2, .int x1), (0, .ref (b 0)), (1, .ref (a 0))]) hx hb dX0_isBeatenBy_19 rfl hl (by decide) rfl (fun ls hl => ?_)
    refine lv_iload_n hx hb dX0_isBeatenBy_20 rfl (lv_at hl 1 rfl) ?_
    refine lv_aload_n hx hb dX0_isBeatenBy_21 rfl (lv_at hl 2 rfl) ?_
    refine va_get (ci := 0) (C := RX0) (T := TX0) (N := 2) hx hb hts hw0 hown hK hP 0 rfl rfl 0 (by decide) hl0 (fun _ h9 => h9) rfl dX0_isBeatenBy_22 ?_
    refine lv_icmp_ne (tgt := 38) hx hb dX0_isBeatenBy_25 (by decide) (fun c4 => ?_) (fun c4 => ?_)
    · replace hR := (if_neg c4).symm.trans hR
      refine lv_aload_n hx hb dX0_isBeatenBy_38 rfl (lv_at hl 2 rfl) ?_
      refine lv_iload_n hx hb dX0_isBeatenBy_39 rfl (lv_at hl 1 rfl) ?_
      obtain ⟨B5, eB5, hR⟩ := kk_nm_el hR
      refine kk_put (w' := (w_B g b B5 ++ w_P g a x3.2)) (ci := 0) (C := RX0) (T := TX0) (N := 2) (ty := .int) (v := .int x1) hC hw0 tyX0 tyX0_ok nmX0 hK hP hD hS 0 rfl rfl 0 (by decide) hl0 rfl (by decide +kernel) rfl rfl (Nat.le_of_ble_eq_true rfl) (by rw [eB5]; rfl) dX0_isBeatenBy_40 rfl (fun H locs hP hD hS => ?_)
      refine lv_aload_n hx hb dX0_isBeatenBy_43 rfl (lv_at hl 2 rfl) ?_
      refine lv_iload_n hx hb dX0_isBeatenBy_44 rfl (lv_at hl 0 rfl) ?_
      obtain ⟨B6, eB6, hR⟩ := kk_nm_el hR
      refine kk_put (w' := (w_B g b B6 ++ w_P g a x3.2)) (ci := 0) (C := RX0) (T := TX0) (N := 2) (ty := .int) (v := .int x3.1) hC hw0 tyX0 tyX0_ok nmX0 hK hP hD hS 0 rfl rfl 1 (by decide) hl1 rfl (by decide +kernel) rfl rfl (Nat.le_of_ble_eq_true rfl) (by rw [eB6]; rfl) dX0_isBeatenBy_45 rfl (fun H locs hP hD hS => ?_)
      refine lv_iconst (v := (1 : Int32)) hx hb dX0_isBeatenBy_48 (by decide) ?_
      obtain rfl := Option.some.inj hR
      exact kk_ret_z hC hr hlocks hK hP hD hS dX0_isBeatenBy_49 (by decide) rfl
    · replace hR := (if_pos c4).symm.trans hR
      refine lv_iload_n hx hb dX0_isBeatenBy_28 rfl (lv_at hl 0 rfl) ?_
      refine lv_aload_n hx hb dX0_isBeatenBy_29 rfl (lv_at hl 2 rfl) ?_
      refine va_get (ci := 0) (C := RX0) (T := TX0) (N := 2) hx hb hts hw0 hown hK hP 0 rfl rfl 1 (by decide) hl1 (fun _ h9 => h9) rfl dX0_isBeatenBy_30 ?_
      refine lv_icmp_lt (tgt := 38) hx hb dX0_isBeatenBy_33 (by decide) (fun c8 => ?_) (fun c8 => ?_)
      · replace hR := (if_pos c8).symm.trans hR
        refine lv_aload_n hx hb dX0_isBeatenBy_38 rfl (lv_at hl 2 rfl) ?_
        refine lv_iload_n hx hb dX0_isBeatenBy_39 rfl (lv_at hl 1 rfl) ?_
        obtain ⟨B9, eB9, hR⟩ := kk_nm_el hR
        refine kk_put (w' := (w_B g b B9 ++ w_P g a x3.2)) (ci := 0) (C := RX0) (T := TX0) (N := 2) (ty := .int) (v := .int x1) hC hw0 tyX0 tyX0_ok nmX0 hK hP hD hS 0 rfl rfl 0 (by decide) hl0 rfl (by decide +kernel) rfl rfl (Nat.le_of_ble_eq_true rfl) (by rw [eB9]; rfl) dX0_isBeatenBy_40 rfl (fun H locs hP hD hS => ?_)
        refine lv_aload_n hx hb dX0_isBeatenBy_43 rfl (lv_at hl 2 rfl) ?_
        refine lv_iload_n hx hb dX0_isBeatenBy_44 rfl (lv_at hl 0 rfl) ?_
        obtain ⟨B10, eB10, hR⟩ := kk_nm_el hR
        refine kk_put (w' := (w_B g b B10 ++ w_P g a x3.2)) (ci := 0) (C := RX0) (T := TX0) (N := 2) (ty := .int) (v := .int x3.1) hC hw0 tyX0 tyX0_ok nmX0 hK hP hD hS 0 rfl rfl 1 (by decide) hl1 rfl (by decide +kernel) rfl rfl (Nat.le_of_ble_eq_true rfl) (by rw [eB10]; rfl) dX0_isBeatenBy_45 rfl (fun H locs hP hD hS => ?_)
        refine lv_iconst (v := (1 : Int32)) hx hb dX0_isBeatenBy_48 (by decide) ?_
        obtain rfl := Option.some.inj hR
        exact kk_ret_z hC hr hlocks hK hP hD hS dX0_isBeatenBy_49 (by decide) rfl
      · replace hR := (if_neg c8).symm.trans hR
        refine lv_iconst (v := (0 : Int32)) hx hb dX0_isBeatenBy_36 (by decide) ?_
        obtain rfl := Option.some.inj hR
        exact kk_ret_z hC hr hlocks hK hP hD hS dX0_isBeatenBy_37 (by decide) rfl
  · replace hR := (if_neg c2).symm.trans hR
    refine lv_iconst (v := (0 : Int32)) hx hb dX0_isBeatenBy_13 (by decide) ?_
    obtain rfl := Option.some.inj hR
    exact kk_ret_z hC hr hlocks hK hP hD hS dX0_isBeatenBy_14 (by decide) rfl
set_option maxHeartbeats 8000000 in
set_option maxRecDepth 100000 in
theorem sX1_dropOldest (l : Launch) (g : kG) (n : Nat) (x : Nat) (h : Nat → Nat → Nat) (V : St2) (r : St2) (hR : fX1_dropOldest n V = some r) : kSp l g yX1_dropOldest wsX1_dropOldest ({ frames := 0, cells := 0, slots := 0, locals := 0 }) [.ref x] (w_H g x h V) (kQv g (w_H g x h r)) := by
  refine kSp.of (cc := cX1_dropOldest) (maxL := 3) (ret := none) (by decide) rfl (Nat.le_of_ble_eq_true rfl) ?_
  intro p e s m args below meth c ls A hC hr hlocks hA hK hl hP hD hS
  replace hC : CallFix p m c cX1_dropOldest 3 s args wsX1_dropOldest RX1 := hC
  obtain ⟨hx, hb, hml, hown, hts⟩ := id hC
  replace hl : lv_has ls 3 [(0, .ref x)] := hl
  unfold fX1_dropOldest at hR
  have hw1 : ∀ w ∈ wsX10, w ∈ wsX1_dropOldest := by decide +kernel
  have hl0 := hts (.fieldLink RX1 11 "FloatOrder$History" "saved" "[LFloatOrder$Parade;") (by decide +kernel)
  have hl1 := hts (.fieldLink RX1 17 "FloatOrder$History" "size" "I") (by decide +kernel)
  refine lv_aload_n hx hb dX1_dropOldest_0 rfl (lv_at hl 0 rfl) ?_
  refine va_get (ci := 1) (C := RX1) (T := TX1) (N := 2) hx hb hts hw1 hown hK hP 0 rfl rfl 0 (by decide) hl0 (fun _ h9 => h9) rfl dX1_dropOldest_1 ?_
  refine lv_iconst (v := (0 : Int32)) hx hb dX1_dropOldest_4 (by decide) ?_
  obtain ⟨j1, ej1, hR⟩ := kk_nm_el hR
  obtain ⟨hj1, hR⟩ := kk_cj_el hR
  refine kk_aald (b := h (1 + j1) 0) hC hK hP 1 rfl (kk_in 0 6 (by decide) (by decide) rfl) (by subst ej1; rfl) dX1_dropOldest_5 ?_
  refine lv_astore_n (lv' := [(1, .ref (h (1 + j1) 0)), (0, .ref x)]) hx hb dX1_dropOldest_6 rfl hl (by decide) rfl (fun ls hl => ?_)
  refine lv_iconst (v := (1 : Int32)) hx hb dX1_dropOldest_7 (by decide) ?_
  refine lv_istore_n (lv' := [(2, .int (1 : Int32)), (1, .ref (h (1 + j1) 0)), (0, .ref x)]) hx hb dX1_dropOldest_8 rfl hl (by decide) rfl (fun ls hl => ?_)
  obtain ⟨x12, hq12, hR⟩ := kk_bd_el hR
  refine kk_cut (g := g) (A := A) (w' := (w_H g x h x12)) (nL := 3) (lv := [(1, .ref (h (1 + j1) 0)), (0, .ref x)]) (pcJ := 35) (st := []) (fun H locs ls hP hD hS hl => ?_) (fun hj12 => ?_)
  · refine lv_aload_n hx hb dX1_dropOldest_35 rfl (lv_at hl 1 rfl) ?_
    refine va_get (ci := 1) (C := RX1) (T := TX1) (N := 2) hx hb hts hw1 hown hK hP 0 rfl rfl 0 (by decide) hl0 (fun _ h9 => h9) rfl dX1_dropOldest_36 ?_
    refine lv_iconst (v := (5 : Int32)) hx hb dX1_dropOldest_39 (by decide) ?_
    refine lv_aload_n hx hb dX1_dropOldest_40 rfl (lv_at hl 0 rfl) ?_
    obtain ⟨V18, eV18, hR⟩ := kk_nm_el hR
    refine kk_aast hC hK hP hD hS hj1 ej1 (kk_in 5 6 (by decide) (by decide) rfl) eV18 dX1_dropOldest_41 (fun H locs hP hD hS => ?_)
    refine lv_aload_n hx hb dX1_dropOldest_42 rfl (lv_at hl 1 rfl) ?_
    refine lv_dup hx hb dX1_dropOldest_43 rfl ?_
    refine va_get (ci := 1) (C := RX1) (T := TX1) (N := 2) hx hb hts hw1 hown hK hP 0 rfl rfl 1 (by decide) hl1 (fun _ h9 => h9) rfl dX1_dropOldest_44 ?_
    refine lv_iconst (v := (1 : Int32)) hx hb dX1_dropOldest_47 (by decide) ?_
    refine lv_isub hx hb dX1_dropOldest_48 ?_
    obtain ⟨V19, eV19, hR⟩ := kk_nm_el hR
    refine kk_put (w' := (w_H g x h V19)) (ci := 1) (C := RX1) (T := TX1) (N := 2) (ty := .int) (v := .int ((V18 0 0 0) - (1 : Int32))) hC hw1 tyX1 tyX1_ok nmX1 hK hP hD hS 0 rfl rfl 1 (by decide) hl1 rfl (by decide +kernel) rfl rfl (Nat.le_of_ble_eq_true rfl) (by rw [eV19]; rfl) dX1_dropOldest_49 rfl (fun H locs hP hD hS => ?_)
    obtain rfl := Option.some.inj hR
    exact kk_ret_v hC hr hlocks hK hP hD hS dX1_dropOldest_52
  refine kk_loop (g := g) (A := A) (fun (st : Int32 × St2) => (w_H g x h st.2)) (fun (st : Int32 × St2) => [(2, .int st.1), (1, .ref (h (1 + j1) 0)), (0, .ref x)]) 9 (nL := 3) hq12 (fun st xb11 hR ih1 hX1 => ?_) hP hD hS (lv_sub hl [0, 1, 2] rfl)
  clear hP hD hS hl
  obtain ⟨u9, V10⟩ := st
  intro H locs ls hP hD hS hl
  replace hR : fX1_dropOldest_b9 n u9 V10 = some xb11 := hR
  replace hP : va_P g.1 vwCl (w_H g x h V10) H := hP
  replace hD : va_D A (w_H g x h V10) := hD
  replace hl : lv_has ls 3 [(2, .int u9), (1, .ref (h (1 + j1) 0)), (0, .ref x)] := hl
  unfold fX1_dropOldest_b9 at hR
  refine lv_iload_n hx hb dX1_dropOldest_9 rfl (lv_at hl 0 rfl) ?_
  refine lv_bipush (v := (6 : Int32)) hx hb dX1_dropOldest_10 (by decide) ?_
  refine lv_icmp_ge (tgt := 35) hx hb dX1_dropOldest_12 (by decide) (fun c13 => ?_) (fun c13 => ?_)
  · replace hR := (if_pos c13).symm.trans hR
    obtain rfl := Option.some.inj hR
    obtain rfl := hX1 _ rfl
    exact hj12 _ _ _ hP hD hS (lv_sub hl [1, 2] rfl)
  · replace hR := (if_neg c13).symm.trans hR
    refine lv_aload_n hx hb dX1_dropOldest_15 rfl (lv_at hl 2 rfl) ?_
    refine va_get (ci := 1) (C := RX1) (T := TX1) (N := 2) hx hb hts hw1 hown hK hP 0 rfl rfl 0 (by decide) hl0 (fun _ h9 => h9) rfl dX1_dropOldest_16 ?_
    refine lv_iload_n hx hb dX1_dropOldest_19 rfl (lv_at hl 0 rfl) ?_
    refine lv_iconst (v := (1 : Int32)) hx hb dX1_dropOldest_20 (by decide) ?_
    refine lv_isub hx hb dX1_dropOldest_21 ?_
    refine lv_aload_n hx hb dX1_dropOldest_22 rfl (lv_at hl 2 rfl) ?_
    refine va_get (ci := 1) (C := RX1) (T := TX1) (N := 2) hx hb hts hw1 hown hK hP 0 rfl rfl 0 (by decide) hl0 (fun _ h9 => h9) rfl dX1_dropOldest_23 ?_
    refine lv_iload_n hx hb dX1_dropOldest_26 rfl (lv_at hl 0 rfl) ?_
    obtain ⟨hi15, hR⟩ := kk_ck_el hR
    obtain ⟨j14, ej14, hR⟩ := kk_nm_el hR
    obtain ⟨hj14, hR⟩ := kk_cj_el hR
    refine kk_aald (b := h (1 + j14) 0) hC hK hP 1 rfl hi15 (by subst ej14; rfl) dX1_dropOldest_27 ?_
    obtain ⟨hi17, hR⟩ := kk_ck_el hR
    obtain ⟨V16, eV16, hR⟩ := kk_nm_el hR
    refine kk_aast hC hK hP hD hS hj14 ej14 hi17 eV16 dX1_dropOldest_28 (fun H locs hP hD hS => ?_)
    refine lv_iinc (v := (u9 + (1 : Int32))) (lv' := [(2, .int (u9 + (1 : Int32))), (1, .ref (h (1 + j1) 0)), (0, .ref x)]) hx hb dX1_dropOldest_29 hl (k := 0) rfl rfl (by decide) rfl (fun ls hl => ?_)
    refine lv_goto (tgt := 9) hx hb dX1_dropOldest_32 (by decide) ?_
    obtain rfl := Option.some.inj hR
    exact ih1 _ rfl _ _ _ hP hD hS (lv_sub hl [0, 1, 2] rfl)
set_option maxHeartbeats 8000000 in
set_option maxRecDepth 100000 in
theorem sX1_save (l : Launch) (g : kG) (n : Nat) (x : Nat) (h : Nat → Nat → Nat) (a : Nat → Nat) (V : St2) (P : St1) (r : St2) (hR : fX1_save n V P = some r) : kSp l g yX1_save wsX1_save ({ frames := 1, cells := 0, slots := 0, locals := 22 }) [.ref x, .ref (a 0)] (w_H g x h V ++ w_P g a P) (kQv g (w_H g x h r ++ w_P g a P)) := by
  refine kSp.of (cc := cX1_save) (maxL := 2) (ret := none) (by decide) rfl (Nat.le_of_ble_eq_true rfl) ?_
  intro p e s m args below meth c ls A hC hr hlocks hA hK hl hP hD hS
  replace hC : CallFix p m c cX1_save 2 s args wsX1_save RX1 := hC
  obtain ⟨hx, hb, hml, hown, hts⟩ := id hC
  replace hl : lv_has ls 2 [(0, .ref x), (1, .ref (a 0))] := hl
  unfold fX1_save at hR
  have hw1 : ∀ w ∈ wsX10, w ∈ wsX1_save := by decide +kernel
  have hl0 := hts (.fieldLink RX1 17 "FloatOrder$History" "size" "I") (by decide +kernel)
  have hl1 := hts (.fieldLink RX1 11 "FloatOrder$History" "saved" "[LFloatOrder$Parade;") (by decide +kernel)
  refine lv_aload_n hx hb dX1_save_0 rfl (lv_at hl 0 rfl) ?_
  refine va_get (ci := 1) (C := RX1) (T := TX1) (N := 2) hx hb hts hw1 hown hK hP 0 rfl rfl 1 (by decide) hl0 (fun _ h9 => h9) rfl dX1_save_1 ?_
  refine lv_bipush (v := (6 : Int32)) hx hb dX1_save_4 (by decide) ?_
  obtain ⟨x3, hq3, hR⟩ := kk_bd_el hR
  refine kk_cut (g := g) (A := A) (w' := (w_H g x h x3 ++ w_P g a P)) (nL := 2) (lv := [(0, .ref x), (1, .ref (a 0))]) (pcJ := 13) (st := []) (fun H locs ls hP hD hS hl => ?_) (fun hj3 => ?_)
  · refine lv_aload_n hx hb dX1_save_13 rfl (lv_at hl 0 rfl) ?_
    refine va_get (ci := 1) (C := RX1) (T := TX1) (N := 2) hx hb hts hw1 hown hK hP 0 rfl rfl 0 (by decide) hl1 (fun _ h9 => h9) rfl dX1_save_14 ?_
    refine lv_aload_n hx hb dX1_save_17 rfl (lv_at hl 0 rfl) ?_
    refine va_get (ci := 1) (C := RX1) (T := TX1) (N := 2) hx hb hts hw1 hown hK hP 0 rfl rfl 1 (by decide) hl0 (fun _ h9 => h9) rfl dX1_save_18 ?_
    obtain ⟨hi7, hR⟩ := kk_ck_el hR
    obtain ⟨j6, ej6, hR⟩ := kk_nm_el hR
    obtain ⟨hj6, hR⟩ := kk_cj_el hR
    refine kk_aald (b := h (1 + j6) 0) hC hK hP 1 rfl hi7 (by subst ej6; rfl) dX1_save_21 ?_
    refine lv_aload_n hx hb dX1_save_22 rfl (lv_at hl 1 rfl) ?_
    obtain ⟨x8, hq8, hR⟩ := kk_bd_el hR
    obtain ⟨V9, eV9, hR⟩ := kk_nm_el hR
    refine kk_call_Vv (w' := (w_H g x h V9 ++ w_P g a P)) (As := [.ref (a 0)]) (rest := []) (2 + 10 * j6) 2 hC (sX2_copyFrom l g n (h (1 + j6)) a (x3 (1 + j6)) P  x8 hq8) (cwV 1 hts gX1_save_X2_copyFrom rfl rfl rfl (by decide +kernel) ⟨Nat.le_of_ble_eq_true rfl, Nat.le_of_ble_eq_true rfl⟩) hK hP hD hS hA (k_pl 2 j6 ++ [62, 63, 64, 65, 66, 67, 68, 69, 70, 71]) (kk_dC1 hj6) (kk_dn1 hj6) rfl (kk_dw1 hj6 eV9) rfl (kk_hq2 hj6) rfl rfl rfl hl.1 (Nat.le_of_ble_eq_true rfl) dX1_save_23 (fun H locs hP hD hS => ?_)
    refine lv_aload_n hx hb dX1_save_26 rfl (lv_at hl 0 rfl) ?_
    refine lv_dup hx hb dX1_save_27 rfl ?_
    refine va_get (ci := 1) (C := RX1) (T := TX1) (N := 2) hx hb hts hw1 hown hK hP 0 rfl rfl 1 (by decide) hl0 (fun _ h9 => h9) rfl dX1_save_28 ?_
    refine lv_iconst (v := (1 : Int32)) hx hb dX1_save_31 (by decide) ?_
    refine lv_iadd hx hb dX1_save_32 ?_
    obtain ⟨V10, eV10, hR⟩ := kk_nm_el hR
    refine kk_put (w' := (w_H g x h V10 ++ w_P g a P)) (ci := 1) (C := RX1) (T := TX1) (N := 2) (ty := .int) (v := .int ((V9 0 0 0) + (1 : Int32))) hC hw1 tyX1 tyX1_ok nmX1 hK hP hD hS 0 rfl rfl 1 (by decide) hl0 rfl (by decide +kernel) rfl rfl (Nat.le_of_ble_eq_true rfl) (by rw [eV10]; rfl) dX1_save_33 rfl (fun H locs hP hD hS => ?_)
    obtain rfl := Option.some.inj hR
    exact kk_ret_v hC hr hlocks hK hP hD hS dX1_save_36
  replace hR := hq3
  refine lv_icmp_lt (tgt := 13) hx hb dX1_save_6 (by decide) (fun c4 => ?_) (fun c4 => ?_)
  · replace hR := (if_pos c4).symm.trans hR
    obtain rfl := Option.some.inj hR
    exact hj3 _ _ _ hP hD hS (lv_sub hl [0, 1] rfl)
  · replace hR := (if_neg c4).symm.trans hR
    refine lv_aload_n hx hb dX1_save_9 rfl (lv_at hl 0 rfl) ?_
    obtain ⟨x5, hq5, hR⟩ := kk_bd_el hR
    refine kk_call_Vv (w' := (w_H g x h x5 ++ w_P g a P)) (As := []) (rest := []) 0 1 hC (sX1_dropOldest l g n x h V  x5 hq5) (cwV 0 hts gX1_save_X1_dropOldest rfl rfl rfl (by decide +kernel) ⟨Nat.le_of_ble_eq_true rfl, Nat.le_of_ble_eq_true rfl⟩) hK hP hD hS hA [0, 1, 2, 3, 4, 5, 6, 7, 8, 9, 10, 11, 12, 13, 14, 15, 16, 17, 18, 19, 20, 21, 22, 23, 24, 25, 26, 27, 28, 29, 30, 31, 32, 33, 34, 35, 36, 37, 38, 39, 40, 41, 42, 43, 44, 45, 46, 47, 48, 49, 50, 51, 52, 53, 54, 55, 56, 57, 58, 59, 60, 61] (kk_ml 62 rfl (by decide +kernel) (kk_m0 62 (by decide +kernel) rfl)) (by decide +kernel) rfl (kk_sl 62 rfl (by decide +kernel) (kk_s0 62 (by decide +kernel) rfl rfl)) rfl rfl rfl rfl rfl hl.1 (Nat.le_of_ble_eq_true rfl) dX1_save_10 (fun H locs hP hD hS => ?_)
    obtain rfl := Option.some.inj hR
    exact hj3 _ _ _ hP hD hS (lv_sub hl [0, 1] rfl)
set_option maxHeartbeats 8000000 in
set_option maxRecDepth 100000 in
theorem sX1_restoreLatest (l : Launch) (g : kG) (n : Nat) (x : Nat) (h : Nat → Nat → Nat) (a : Nat → Nat) (V : St2) (P : St1) (r : St2 × St1) (hR : fX1_restoreLatest n V P = some r) : kSp l g yX1_restoreLatest wsX1_restoreLatest ({ frames := 1, cells := 0, slots := 0, locals := 22 }) [.ref x, .ref (a 0)] (w_H g x h V ++ w_P g a P) (kQv g (w_H g x h r.1 ++ w_P g a r.2)) := by
  refine kSp.of (cc := cX1_restoreLatest) (maxL := 2) (ret := none) (by decide) rfl (Nat.le_of_ble_eq_true rfl) ?_
  intro p e s m args below meth c ls A hC hr hlocks hA hK hl hP hD hS
  replace hC : CallFix p m c cX1_restoreLatest 2 s args wsX1_restoreLatest RX1 := hC
  obtain ⟨hx, hb, hml, hown, hts⟩ := id hC
  replace hl : lv_has ls 2 [(0, .ref x), (1, .ref (a 0))] := hl
  unfold fX1_restoreLatest at hR
  have hw1 : ∀ w ∈ wsX10, w ∈ wsX1_restoreLatest := by decide +kernel
  have hl0 := hts (.fieldLink RX1 17 "FloatOrder$History" "size" "I") (by decide +kernel)
  have hl1 := hts (.fieldLink RX1 11 "FloatOrder$History" "saved" "[LFloatOrder$Parade;") (by decide +kernel)
  refine lv_aload_n hx hb dX1_restoreLatest_0 rfl (lv_at hl 0 rfl) ?_
  refine va_get (ci := 1) (C := RX1) (T := TX1) (N := 2) hx hb hts hw1 hown hK hP 0 rfl rfl 1 (by decide) hl0 (fun _ h9 => h9) rfl dX1_restoreLatest_1 ?_
  refine lv_if_le (tgt := 30) hx hb dX1_restoreLatest_4 (by decide) (fun c1 => ?_) (fun c1 => ?_)
  · replace hR := (if_pos c1).symm.trans hR
    obtain rfl := Option.some.inj hR
    exact kk_ret_v hC hr hlocks hK hP hD hS dX1_restoreLatest_30
  · replace hR := (if_neg c1).symm.trans hR
    refine lv_aload_n hx hb dX1_restoreLatest_7 rfl (lv_at hl 0 rfl) ?_
    refine lv_dup hx hb dX1_restoreLatest_8 rfl ?_
    refine va_get (ci := 1) (C := RX1) (T := TX1) (N := 2) hx hb hts hw1 hown hK hP 0 rfl rfl 1 (by decide) hl0 (fun _ h9 => h9) rfl dX1_restoreLatest_9 ?_
    refine lv_iconst (v := (1 : Int32)) hx hb dX1_restoreLatest_12 (by decide) ?_
    refine lv_isub hx hb dX1_restoreLatest_13 ?_
    obtain ⟨V2, eV2, hR⟩ := kk_nm_el hR
    refine kk_put (w' := (w_H g x h V2 ++ w_P g a P)) (ci := 1) (C := RX1) (T := TX1) (N := 2) (ty := .int) (v := .int ((V 0 0 0) - (1 : Int32))) hC hw1 tyX1 tyX1_ok nmX1 hK hP hD hS 0 rfl rfl 1 (by decide) hl0 rfl (by decide +kernel) rfl rfl (Nat.le_of_ble_eq_true rfl) (by rw [eV2]; rfl) dX1_restoreLatest_14 rfl (fun H locs hP hD hS => ?_)
    refine lv_aload_n hx hb dX1_restoreLatest_17 rfl (lv_at hl 1 rfl) ?_
    refine lv_aload_n hx hb dX1_restoreLatest_18 rfl (lv_at hl 0 rfl) ?_
    refine va_get (ci := 1) (C := RX1) (T := TX1) (N := 2) hx hb hts hw1 hown hK hP 0 rfl rfl 0 (by decide) hl1 (fun _ h9 => h9) rfl dX1_restoreLatest_19 ?_
    refine lv_aload_n hx hb dX1_restoreLatest_22 rfl (lv_at hl 0 rfl) ?_
    refine va_get (ci := 1) (C := RX1) (T := TX1) (N := 2) hx hb hts hw1 hown hK hP 0 rfl rfl 1 (by decide) hl0 (fun _ h9 => h9) rfl dX1_restoreLatest_23 ?_
    obtain ⟨hi4, hR⟩ := kk_ck_el hR
    obtain ⟨j3, ej3, hR⟩ := kk_nm_el hR
    obtain ⟨hj3, hR⟩ := kk_cj_el hR
    refine kk_aald (b := h (1 + j3) 0) hC hK hP 1 rfl hi4 (by subst ej3; rfl) dX1_restoreLatest_26 ?_
    obtain ⟨x5, hq5, hR⟩ := kk_bd_el hR
    refine kk_call_Vv (w' := (w_H g x h V2 ++ w_P g a x5)) (As := [.ref (h (1 + j3) 0)]) (rest := []) 62 2 hC (sX2_copyFrom l g n a (h (1 + j3)) P (V2 (1 + j3))  x5 hq5) (cwV 1 hts gX1_restoreLatest_X2_copyFrom rfl rfl rfl (by decide +kernel) ⟨Nat.le_of_ble_eq_true rfl, Nat.le_of_ble_eq_true rfl⟩) hK hP hD hS hA ([62, 63, 64, 65, 66, 67, 68, 69, 70, 71] ++ k_pl 2 j3) (kk_dC2 hj3) (kk_dn2 hj3) rfl (kk_dw2 hj3) rfl rfl rfl rfl rfl hl.1 (Nat.le_of_ble_eq_true rfl) dX1_restoreLatest_27 (fun H locs hP hD hS => ?_)
    obtain rfl := Option.some.inj hR
    exact kk_ret_v hC hr hlocks hK hP hD hS dX1_restoreLatest_30