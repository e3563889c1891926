set_option maxHeartbeats 8000000 in
set_option maxRecDepth 100000 in
theorem sX2_copyFrom (l : Launch) (g : kG) (n : Nat) (a : Nat → Nat) (b : Nat → Nat) (P : St1) (Q : St1) (r : St1) (hR : fX2_copyFrom n P Q = some r) : kSp l g yX2_copyFrom wsX2_copyFrom ({ frames := 0, cells := 0, slots := 0, locals := 0 }) [.ref (a 0), .ref (b 0)] (w_P g a P ++ w_P g b Q) (kQv g (w_P g a r ++ w_P g b Q)) := by
  refine kSp.of (cc := cX2_copyFrom) (maxL := 3) (ret := none) (by decide) rfl (Nat.le_of_ble_eq_true rfl) ?_
  intro p e s m args below meth c ls A hC hr hlocks hA hK hl hP hD hS
  replace hC : CallFix p m c cX2_copyFrom 3 s args wsX2_copyFrom RX2 := hC
  obtain ⟨hx, hb, hml, hown, hts⟩ := id hC
  replace hl : lv_has ls 3 [(0, .ref (a 0)), (1, .ref (b 0))] := hl
  unfold fX2_copyFrom at hR
  have hw2 : ∀ w ∈ wsX20, w ∈ wsX2_copyFrom := by decide +kernel
  have hl0 := hts (.fieldLink RX2 9 "FloatOrder$Parade" "floats" "I") (by decide +kernel)
  have hl1 := hts (.fieldLink RX2 15 "FloatOrder$Parade" "kinds" "[I") (by decide +kernel)
  have hl2 := hts (.fieldLink RX2 19 "FloatOrder$Parade" "heights" "[I") (by decide +kernel)
  have hl3 := hts (.fieldLink RX2 22 "FloatOrder$Parade" "masks" "[I") (by decide +kernel)
  have hl4 := hts (.fieldLink RX2 25 "FloatOrder$Parade" "folded" "[Z") (by decide +kernel)
  have hl5 := hts (.fieldLink RX2 29 "FloatOrder$Parade" "bridges" "I") (by decide +kernel)
  have hl6 := hts (.fieldLink RX2 32 "FloatOrder$Parade" "distances" "[I") (by decide +kernel)
  have hl7 := hts (.fieldLink RX2 35 "FloatOrder$Parade" "clearances" "[I") (by decide +kernel)
  have hl8 := hts (.fieldLink RX2 38 "FloatOrder$Parade" "settings" "[I") (by decide +kernel)
  refine lv_aload_n hx hb dX2_copyFrom_0 rfl (lv_at hl 0 rfl) ?_
  refine lv_aload_n hx hb dX2_copyFrom_1 rfl (lv_at hl 1 rfl) ?_
  refine va_get (ci := 2) (C := RX2) (T := TX2) (N := 11) hx hb hts hw2 hown hK hP 10 rfl rfl 0 (by decide) hl0 (fun _ h9 => h9) rfl dX2_copyFrom_2 ?_
  obtain ⟨P1, eP1, hR⟩ := kk_nm_el hR
  refine kk_put (w' := (w_P g a P1 ++ w_P g b Q)) (ci := 2) (C := RX2) (T := TX2) (N := 11) (ty := .int) (v := .int (Q 0 0)) hC hw2 tyX2 tyX2_ok nmX2 hK hP hD hS 0 rfl rfl 0 (by decide) hl0 rfl (by decide +kernel) rfl rfl (Nat.le_of_ble_eq_true rfl) (by rw [eP1]; rfl) dX2_copyFrom_5 rfl (fun H locs hP hD hS => ?_)
  refine lv_iconst (v := (0 : Int32)) hx hb dX2_copyFrom_8 (by decide) ?_
  refine lv_istore_n (lv' := [(2, .int (0 : Int32)), (0, .ref (a 0)), (1, .ref (b 0))]) hx hb dX2_copyFrom_9 rfl hl (by decide) rfl (fun ls hl => ?_)
  obtain ⟨x22, hq22, hR⟩ := kk_bd_el hR
  refine kk_cut (g := g) (A := A) (w' := (w_P g a x22 ++ w_P g b Q)) (nL := 3) (lv := [(0, .ref (a 0)), (1, .ref (b 0))]) (pcJ := 72) (st := []) (fun H locs ls hP hD hS hl => ?_) (fun hj22 => ?_)
  · refine lv_aload_n hx hb dX2_copyFrom_72 rfl (lv_at hl 0 rfl) ?_
    refine lv_aload_n hx hb dX2_copyFrom_73 rfl (lv_at hl 1 rfl) ?_
    refine va_get (ci := 2) (C := RX2) (T := TX2) (N := 11) hx hb hts hw2 hown hK hP 10 rfl rfl 5 (by decide) hl5 (fun _ h9 => h9) rfl dX2_copyFrom_74 ?_
    obtain ⟨P37, eP37, hR⟩ := kk_nm_el hR
    refine kk_put (w' := (w_P g a P37 ++ w_P g b Q)) (ci := 2) (C := RX2) (T := TX2) (N := 11) (ty := .int) (v := .int (Q 5 0)) hC hw2 tyX2 tyX2_ok nmX2 hK hP hD hS 0 rfl rfl 5 (by decide) hl5 rfl (by decide +kernel) rfl rfl (Nat.le_of_ble_eq_true rfl) (by rw [eP37]; rfl) dX2_copyFrom_77 rfl (fun H locs hP hD hS => ?_)
    refine lv_iconst (v := (0 : Int32)) hx hb dX2_copyFrom_80 (by decide) ?_
    refine lv_istore_n (lv' := [(2, .int (0 : Int32)), (0, .ref (a 0)), (1, .ref (b 0))]) hx hb dX2_copyFrom_81 rfl hl (by decide) rfl (fun ls hl => ?_)
    obtain ⟨x51, hq51, hR⟩ := kk_bd_el hR
    refine kk_cut (g := g) (A := A) (w' := (w_P g a x51 ++ w_P g b Q)) (nL := 3) (lv := [(0, .ref (a 0)), (1, .ref (b 0))]) (pcJ := 120) (st := []) (fun H locs ls hP hD hS hl => ?_) (fun hj51 => ?_)
    · refine lv_iconst (v := (0 : Int32)) hx hb dX2_copyFrom_120 (by decide) ?_
      refine lv_istore_n (lv' := [(2, .int (0 : Int32)), (0, .ref (a 0)), (1, .ref (b 0))]) hx hb dX2_copyFrom_121 rfl hl (by decide) rfl (fun ls hl => ?_)
      obtain ⟨x69, hq69, hR⟩ := kk_bd_el hR
      refine kk_cut (g := g) (A := A) (w' := (w_P g a x69 ++ w_P g b Q)) (nL := 3) (lv := []) (pcJ := 145) (st := []) (fun H locs ls hP hD hS hl => ?_) (fun hj69 => ?_)
      · obtain rfl := Option.some.inj hR
        exact kk_ret_v hC hr hlocks hK hP hD hS dX2_copyFrom_145
      refine kk_loop (g := g) (A := A) (fun (st : Int32 × St1) => (w_P g a st.2 ++ w_P g b Q)) (fun (st : Int32 × St1) => [(2, .int st.1), (0, .ref (a 0)), (1, .ref (b 0))]) 122 (nL := 3) hq69 (fun st xb68 hR ih3 hX3 => ?_) hP hD hS (lv_sub hl [0, 1, 2] rfl)
      clear hP hD hS hl
      obtain ⟨u66, P67⟩ := st
      intro H locs ls hP hD hS hl
      replace hR : fX2_copyFrom_b122 n Q u66 P67 = some xb68 := hR
      replace hP : va_P g.1 vwCl (w_P g a P67 ++ w_P g b Q) H := hP
      replace hD : va_D A (w_P g a P67 ++ w_P g b Q) := hD
      replace hl : lv_has ls 3 [(2, .int u66), (0, .ref (a 0)), (1, .ref (b 0))] := hl
      unfold fX2_copyFrom_b122 at hR
      refine lv_iload_n hx hb dX2_copyFrom_122 rfl (lv_at hl 0 rfl) ?_
      refine lv_iconst (v := (4 : Int32)) hx hb dX2_copyFrom_123 (by decide) ?_
      refine lv_icmp_ge (tgt := 145) hx hb dX2_copyFrom_124 (by decide) (fun c70 => ?_) (fun c70 => ?_)
      · replace hR := (if_pos c70).symm.trans hR
        obtain rfl := Option.some.inj hR
        obtain rfl := hX3 _ rfl
        exact hj69 _ _ _ hP hD hS (lv_sub hl [] rfl)
      · replace hR := (if_neg c70).symm.trans hR
        refine lv_aload_n hx hb dX2_copyFrom_127 rfl (lv_at hl 1 rfl) ?_
        refine va_get (ci := 2) (C := RX2) (T := TX2) (N := 11) hx hb hts hw2 hown hK hP 0 rfl rfl 8 (by decide) hl8 (fun _ h9 => h9) rfl dX2_copyFrom_128 ?_
        refine lv_iload_n hx hb dX2_copyFrom_131 rfl (lv_at hl 0 rfl) ?_
        refine lv_aload_n hx hb dX2_copyFrom_132 rfl (lv_at hl 2 rfl) ?_
        refine va_get (ci := 2) (C := RX2) (T := TX2) (N := 11) hx hb hts hw2 hown hK hP 10 rfl rfl 8 (by decide) hl8 (fun _ h9 => h9) rfl dX2_copyFrom_133 ?_
        refine lv_iload_n hx hb dX2_copyFrom_136 rfl (lv_at hl 0 rfl) ?_
        obtain ⟨hi71, hR⟩ := kk_ck_el hR
        refine va_iald hx hb hK hP 17 0 rfl rfl hi71 dX2_copyFrom_137 ?_
        obtain ⟨hi73, hR⟩ := kk_ck_el hR
        obtain ⟨P72, eP72, hR⟩ := kk_nm_el hR
        refine kk_iast (w' := (w_P g a P72 ++ w_P g b Q)) hC hK hP hD hS 7 rfl hi73 (by rw [eP72]; rfl) dX2_copyFrom_138 (fun H locs hP hD hS => ?_)
        refine lv_iinc (v := (u66 + (1 : Int32))) (lv' := [(2, .int (u66 + (1 : Int32))), (0, .ref (a 0)), (1, .ref (b 0))]) hx hb dX2_copyFrom_139 hl (k := 0) rfl rfl (by decide) rfl (fun ls hl => ?_)
        refine lv_goto (tgt := 122) hx hb dX2_copyFrom_142 (by decide) ?_
        obtain rfl := Option.some.inj hR
        exact ih3 _ rfl _ _ _ hP hD hS (lv_sub hl [0, 1, 2] rfl)
    refine kk_loop (g := g) (A := A) (fun (st : Int32 × St1) => (w_P g a st.2 ++ w_P g b Q)) (fun (st : Int32 × St1) => [(2, .int st.1), (0, .ref (a 0)), (1, .ref (b 0))]) 82 (nL := 3) hq51 (fun st xb50 hR ih2 hX2 => ?_) hP hD hS (lv_sub hl [0, 1, 2] rfl)
    clear hP hD hS hl
    obtain ⟨u48, P49⟩ := st
    intro H locs ls hP hD hS hl
    replace hR : fX2_copyFrom_b82 n Q u48 P49 = some xb50 := hR
    replace hP : va_P g.1 vwCl (w_P g a P49 ++ w_P g b Q) H := hP
    replace hD : va_D A (w_P g a P49 ++ w_P g b Q) := hD
    replace hl : lv_has ls 3 [(2, .int u48), (0, .ref (a 0)), (1, .ref (b 0))] := hl
    unfold fX2_copyFrom_b82 at hR
    refine lv_iload_n hx hb dX2_copyFrom_82 rfl (lv_at hl 0 rfl) ?_
    refine lv_aload_n hx hb dX2_copyFrom_83 rfl (lv_at hl 1 rfl) ?_
    refine va_get (ci := 2) (C := RX2) (T := TX2) (N := 11) hx hb hts hw2 hown hK hP 0 rfl rfl 5 (by decide) hl5 (fun _ h9 => h9) rfl dX2_copyFrom_84 ?_
    refine lv_icmp_ge (tgt := 120) hx hb dX2_copyFrom_87 (by decide) (fun c52 => ?_) (fun c52 => ?_)
    · replace hR := (if_pos c52).symm.trans hR
      obtain rfl := Option.some.inj hR
      obtain rfl := hX2 _ rfl
      exact hj51 _ _ _ hP hD hS (lv_sub hl [1, 2] rfl)
    · replace hR := (if_neg c52).symm.trans hR
      refine lv_aload_n hx hb dX2_copyFrom_90 rfl (lv_at hl 1 rfl) ?_
      refine va_get (ci := 2) (C := RX2) (T := TX2) (N := 11) hx hb hts hw2 hown hK hP 0 rfl rfl 6 (by decide) hl6 (fun _ h9 => h9) rfl dX2_copyFrom_91 ?_
      refine lv_iload_n hx hb dX2_copyFrom_94 rfl (lv_at hl 0 rfl) ?_
      refine lv_aload_n hx hb dX2_copyFrom_95 rfl (lv_at hl 2 rfl) ?_
      refine va_get (ci := 2) (C := RX2) (T := TX2) (N := 11) hx hb hts hw2 hown hK hP 10 rfl rfl 6 (by decide) hl6 (fun _ h9 => h9) rfl dX2_copyFrom_96 ?_
      refine lv_iload_n hx hb dX2_copyFrom_99 rfl (lv_at hl 0 rfl) ?_
      obtain ⟨hi53, hR⟩ := kk_ck_el hR
      refine va_iald hx hb hK hP 15 0 rfl rfl hi53 dX2_copyFrom_100 ?_
      obtain ⟨hi55, hR⟩ := kk_ck_el hR
      obtain ⟨P54, eP54, hR⟩ := kk_nm_el hR
      refine kk_iast (w' := (w_P g a P54 ++ w_P g b Q)) hC hK hP hD hS 5 rfl hi55 (by rw [eP54]; rfl) dX2_copyFrom_101 (fun H locs hP hD hS => ?_)
      refine lv_aload_n hx hb dX2_copyFrom_102 rfl (lv_at hl 1 rfl) ?_
      refine va_get (ci := 2) (C := RX2) (T := TX2) (N := 11) hx hb hts hw2 hown hK hP 0 rfl rfl 7 (by decide) hl7 (fun _ h9 => h9) rfl dX2_copyFrom_103 ?_
      refine lv_iload_n hx hb dX2_copyFrom_106 rfl (lv_at hl 0 rfl) ?_
      refine lv_aload_n hx hb dX2_copyFrom_107 rfl (lv_at hl 2 rfl) ?_
      refine va_get (ci := 2) (C := RX2) (T := TX2) (N := 11) hx hb hts hw2 hown hK hP 10 rfl rfl 7 (by decide) hl7 (fun _ h9 => h9) rfl dX2_copyFrom_108 ?_
      refine lv_iload_n hx hb dX2_copyFrom_111 rfl (lv_at hl 0 rfl) ?_
      obtain ⟨hi56, hR⟩ := kk_ck_el hR
      refine va_iald hx hb hK hP 16 0 rfl rfl hi56 dX2_copyFrom_112 ?_
      obtain ⟨hi58, hR⟩ := kk_ck_el hR
      obtain ⟨P57, eP57, hR⟩ := kk_nm_el hR
      refine kk_iast (w' := (w_P g a P57 ++ w_P g b Q)) hC hK hP hD hS 6 rfl hi58 (by rw [eP57]; rfl) dX2_copyFrom_113 (fun H locs hP hD hS => ?_)
      refine lv_iinc (v := (u48 + (1 : Int32))) (lv' := [(2, .int (u48 + (1 : Int32))), (0, .ref (a 0)), (1, .ref (b 0))]) hx hb dX2_copyFrom_114 hl (k := 0) rfl rfl (by decide) rfl (fun ls hl => ?_)
      refine lv_goto (tgt := 82) hx hb dX2_copyFrom_117 (by decide) ?_
      obtain rfl := Option.some.inj hR
      exact ih2 _ rfl _ _ _ hP hD hS (lv_sub hl [0, 1, 2] rfl)
  refine kk_loop (g := g) (A := A) (fun (st : Int32 × St1) => (w_P g a st.2 ++ w_P g b Q)) (fun (st : Int32 × St1) => [(2, .int st.1), (0, .ref (a 0)), (1, .ref (b 0))]) 10 (nL := 3) hq22 (fun st xb21 hR ih1 hX1 => ?_) hP hD hS (lv_sub hl [0, 1, 2] rfl)
  clear hP hD hS hl
  obtain ⟨u19, P20⟩ := st
  intro H locs ls hP hD hS hl
  replace hR : fX2_copyFrom_b10 n Q u19 P20 = some xb21 := hR
  replace hP : va_P g.1 vwCl (w_P g a P20 ++ w_P g b Q) H := hP
  replace hD : va_D A (w_P g a P20 ++ w_P g b Q) := hD
  replace hl : lv_has ls 3 [(2, .int u19), (0, .ref (a 0)), (1, .ref (b 0))] := hl
  unfold fX2_copyFrom_b10 at hR
  refine lv_iload_n hx hb dX2_copyFrom_10 rfl (lv_at hl 0 rfl) ?_
  refine lv_aload_n hx hb dX2_copyFrom_11 rfl (lv_at hl 1 rfl) ?_
  refine va_get (ci := 2) (C := RX2) (T := TX2) (N := 11) hx hb hts hw2 hown hK hP 0 rfl rfl 0 (by decide) hl0 (fun _ h9 => h9) rfl dX2_copyFrom_12 ?_
  refine lv_icmp_ge (tgt := 72) hx hb dX2_copyFrom_15 (by decide) (fun c23 => ?_) (fun c23 => ?_)
  · replace hR := (if_pos c23).symm.trans hR
    obtain rfl := Option.some.inj hR
    obtain rfl := hX1 _ rfl
    exact hj22 _ _ _ hP hD hS (lv_sub hl [1, 2] rfl)
  · replace hR := (if_neg c23).symm.trans hR
    refine lv_aload_n hx hb dX2_copyFrom_18 rfl (lv_at hl 1 rfl) ?_
    refine va_get (ci := 2) (C := RX2) (T := TX2) (N := 11) hx hb hts hw2 hown hK hP 0 rfl rfl 1 (by decide) hl1 (fun _ h9 => h9) rfl dX2_copyFrom_19 ?_
    refine lv_iload_n hx hb dX2_copyFrom_22 rfl (lv_at hl 0 rfl) ?_
    refine lv_aload_n hx hb dX2_copyFrom_23 rfl (lv_at hl 2 rfl) ?_
    refine va_get (ci := 2) (C := RX2) (T := TX2) (N := 11) hx hb hts hw2 hown hK hP 10 rfl rfl 1 (by decide) hl1 (fun _ h9 => h9) rfl dX2_copyFrom_24 ?_
    refine lv_iload_n hx hb dX2_copyFrom_27 rfl (lv_at hl 0 rfl) ?_
    obtain ⟨hi24, hR⟩ := kk_ck_el hR
    refine va_iald hx hb hK hP 11 0 rfl rfl hi24 dX2_copyFrom_28 ?_
    obtain ⟨hi26, hR⟩ := kk_ck_el hR
    obtain ⟨P25, eP25, hR⟩ := kk_nm_el hR
    refine kk_iast (w' := (w_P g a P25 ++ w_P g b Q)) hC hK hP hD hS 1 rfl hi26 (by rw [eP25]; rfl) dX2_copyFrom_29 (fun H locs hP hD hS => ?_)
    refine lv_aload_n hx hb dX2_copyFrom_30 rfl (lv_at hl 1 rfl) ?_
    refine va_get (ci := 2) (C := RX2) (T := TX2) (N := 11) hx hb hts hw2 hown hK hP 0 rfl rfl 2 (by decide) hl2 (fun _ h9 => h9) rfl dX2_copyFrom_31 ?_
    refine lv_iload_n hx hb dX2_copyFrom_34 rfl (lv_at hl 0 rfl) ?_
    refine lv_aload_n hx hb dX2_copyFrom_35 rfl (lv_at hl 2 rfl) ?_
    refine va_get (ci := 2) (C := RX2) (T := TX2) (N := 11) hx hb hts hw2 hown hK hP 10 rfl rfl 2 (by decide) hl2 (fun _ h9 => h9) rfl dX2_copyFrom_36 ?_
    refine lv_iload_n hx hb dX2_copyFrom_39 rfl (lv_at hl 0 rfl) ?_
    obtain ⟨hi27, hR⟩ := kk_ck_el hR
    refine va_iald hx hb hK hP 12 0 rfl rfl hi27 dX2_copyFrom_40 ?_
    obtain ⟨hi29, hR⟩ := kk_ck_el hR
    obtain ⟨P28, eP28, hR⟩ := kk_nm_el hR
    refine kk_iast (w' := (w_P g a P28 ++ w_P g b Q)) hC hK hP hD hS 2 rfl hi29 (by rw [eP28]; rfl) dX2_copyFrom_41 (fun H locs hP hD hS => ?_)
    refine lv_aload_n hx hb dX2_copyFrom_42 rfl (lv_at hl 1 rfl) ?_
    refine va_get (ci := 2) (C := RX2) (T := TX2) (N := 11) hx hb hts hw2 hown hK hP 0 rfl rfl 3 (by decide) hl3 (fun _ h9 => h9) rfl dX2_copyFrom_43 ?_
    refine lv_iload_n hx hb dX2_copyFrom_46 rfl (lv_at hl 0 rfl) ?_
    refine lv_aload_n hx hb dX2_copyFrom_47 rfl (lv_at hl 2 rfl) ?_
    refine va_get (ci := 2) (C := RX2) (T := TX2) (N := 11) hx hb hts hw2 hown hK hP 10 rfl rfl 3 (by decide) hl3 (fun _ h9 => h9) rfl dX2_copyFrom_48 ?_
    refine lv_iload_n hx hb dX2_copyFrom_51 rfl (lv_at hl 0 rfl) ?_
    obtain ⟨hi30, hR⟩ := kk_ck_el hR
    refine va_iald hx hb hK hP 13 0 rfl rfl hi30 dX2_copyFrom_52 ?_
    obtain ⟨hi32, hR⟩ := kk_ck_el hR
    obtain ⟨P31, eP31, hR⟩ := kk_nm_el hR
    refine kk_iast (w' := (w_P g a P31 ++ w_P g b Q)) hC hK hP hD hS 3 rfl hi32 (by rw [eP31]; rfl) dX2_copyFrom_53 (fun H locs hP hD hS => ?_)
    refine lv_aload_n hx hb dX2_copyFrom_54 rfl (lv_at hl 1 rfl) ?_
    refine va_get (ci := 2) (C := RX2) (T := TX2) (N := 11) hx hb hts hw2 hown hK hP 0 rfl rfl 4 (by decide) hl4 (fun _ h9 => h9) rfl dX2_copyFrom_55 ?_
    refine lv_iload_n hx hb dX2_copyFrom_58 rfl (lv_at hl 0 rfl) ?_
    refine lv_aload_n hx hb dX2_copyFrom_59 rfl (lv_at hl 2 rfl) ?_
    refine va_get (ci := 2) (C := RX2) (T := TX2) (N := 11) hx hb hts hw2 hown hK hP 10 rfl rfl 4 (by decide) hl4 (fun _ h9 => h9) rfl dX2_copyFrom_60 ?_
    refine lv_iload_n hx hb dX2_copyFrom_63 rfl (lv_at hl 0 rfl) ?_
    obtain ⟨hi33, hR⟩ := kk_ck_el hR
    refine va_zald hx hb hK hP 14 1 rfl rfl hi33 dX2_copyFrom_64 ?_
    obtain ⟨hi35, hR⟩ := kk_ck_el hR
    obtain ⟨hz36, hR⟩ := kk_cb_el hR
    obtain ⟨P34, eP34, hR⟩ := kk_nm_el hR
    refine kk_zast (w' := (w_P g a P34 ++ w_P g b Q)) hC hK hP hD hS 4 rfl hi35 hz36 (by rw [eP34]; rfl) dX2_copyFrom_65 (fun H locs hP hD hS => ?_)
    refine lv_iinc (v := (u19 + (1 : Int32))) (lv' := [(2, .int (u19 + (1 : Int32))), (0, .ref (a 0)), (1, .ref (b 0))]) hx hb dX2_copyFrom_66 hl (k := 0) rfl rfl (by decide) rfl (fun ls hl => ?_)
    refine lv_goto (tgt := 10) hx hb dX2_copyFrom_69 (by decide) ?_
    obtain rfl := Option.some.inj hR
    exact ih1 _ rfl _ _ _ hP hD hS (lv_sub hl [0, 1, 2] rfl)
set_option maxHeartbeats 8000000 in
set_option maxRecDepth 100000 in
theorem sX0_startAt (l : Launch) (g : kG) (n : Nat) (b : Nat → Nat) (a : Nat → Nat) (B : St1) (P : St1) (r : St1 × St1) (hR : fX0_startAt n B P = some r) : kSp l g yX0_startAt wsX0_startAt ({ frames := 3, cells := 0, slots := 0, locals := 69 }) [.ref (b 0), .ref (a 0)] (w_B g b B ++ w_P g a P) (kQv g (w_B g b r.1 ++ w_P g a r.2)) := by
  refine kSp.of (cc := cX0_startAt) (maxL := 2) (ret := none) (by decide) rfl (Nat.le_of_ble_eq_true rfl) ?_
  intro p e s m args below meth c ls A hC hr hlocks hA hK hl hP hD hS
  replace hC : CallFix p m c cX0_startAt 2 s args wsX0_startAt RX0 := hC
  obtain ⟨hx, hb, hml, hown, hts⟩ := id hC
  replace hl : lv_has ls 2 [(0, .ref (b 0)), (1, .ref (a 0))] := hl
  unfold fX0_startAt at hR
  have hw0 : ∀ w ∈ wsX00, w ∈ wsX0_startAt := by decide +kernel
  have hl0 := hts (.fieldLink RX0 7 "FloatOrder$Best" "leastTrouble" "I") (by decide +kernel)
  have hl1 := hts (.fieldLink RX0 13 "FloatOrder$Best" "leastEnd" "I") (by decide +kernel)
  refine lv_aload_n hx hb dX0_startAt_0 rfl (lv_at hl 0 rfl) ?_
  refine lv_aload_n hx hb dX0_startAt_1 rfl (lv_at hl 1 rfl) ?_
  obtain ⟨x1, hq1, hR⟩ := kk_bd_el hR
  refine kk_call_Vi (w' := (w_B g b B ++ w_P g a P)) (As := []) (rest := [.ref (b 0)]) 1 2 hC (sX2_allTrouble l g n a P  x1 hq1) (cwV 0 hts gX0_startAt_X2_allTrouble rfl rfl rfl (by decide +kernel) ⟨Nat.le_of_ble_eq_true rfl, Nat.le_of_ble_eq_true rfl⟩) hK hP hD hS hA [1, 2, 3, 4, 5, 6, 7, 8, 9, 10] rfl (by decide +kernel) rfl rfl rfl rfl rfl rfl rfl hl.1 (Nat.le_of_ble_eq_true rfl) dX0_startAt_2 (fun H locs hP hD hS => ?_)
  obtain ⟨B2, eB2, hR⟩ := kk_nm_el hR
  refine kk_put (w' := (w_B g b B2 ++ w_P g a P)) (ci := 0) (C := RX0) (T := TX0) (N := 2) (ty := .int) (v := .int x1) hC hw0 tyX0 tyX0_ok nmX0 hK hP hD hS 0 rfl rfl 0 (by decide) hl0 rfl (by decide +kernel) rfl rfl (Nat.le_of_ble_eq_true rfl) (by rw [eB2]; rfl) dX0_startAt_5 rfl (fun H locs hP hD hS => ?_)
  refine lv_aload_n hx hb dX0_startAt_8 rfl (lv_at hl 0 rfl) ?_
  refine lv_aload_n hx hb dX0_startAt_9 rfl (lv_at hl 1 rfl) ?_
  obtain ⟨x3, hq3, hR⟩ := kk_bd_el hR
  refine kk_call_Vi (w' := (w_B g b B2 ++ w_P g a x3.2)) (As := []) (rest := [.ref (b 0)]) 1 2 hC (sX2_end l g n a P  x3 hq3) (cwV 0 hts gX0_startAt_X2_end rfl rfl rfl (by decide +kernel) ⟨Nat.le_of_ble_eq_true rfl, Nat.le_of_ble_eq_true rfl⟩) hK hP hD hS hA [1, 2, 3, 4, 5, 6, 7, 8, 9, 10] rfl (by decide +kernel) rfl rfl rfl rfl rfl rfl rfl hl.1 (Nat.le_of_ble_eq_true rfl) dX0_startAt_10 (fun H locs hP hD hS => ?_)
  obtain ⟨B4, eB4, hR⟩ := kk_nm_el hR
  refine kk_put (w' := (w_B g b B4 ++ w_P g a x3.2)) (ci := 0) (C := RX0) (T := TX0) (N := 2) (ty := .int) (v := .int x3.1) hC hw0 tyX0 tyX0_ok nmX0 hK hP hD hS 0 rfl rfl 1 (by decide) hl1 rfl (by decide +kernel) rfl rfl (Nat.le_of_ble_eq_true rfl) (by rw [eB4]; rfl) dX0_startAt_13 rfl (fun H locs hP hD hS => ?_)
  obtain rfl := Option.some.inj hR
  exact kk_ret_v hC hr hlocks hK hP hD hS dX0_startAt_16
set_option maxHeartbeats 8000000 in
set_option maxRecDepth 100000 in
theorem sX0_isBeatenBy (l : Launch) (g : kG) (n : Nat) (b : Nat → Nat) (a : Nat → Nat) (B : St1) (P : St1) (r : Int32 × St1 × St1) (hR : fX0_isBeatenBy n B P = some r) : kSp l g yX0_isBeatenBy wsX0_isBeatenBy ({ frames := 3, cells := 0, slots := 0, locals := 69 }) [.ref (b 0), .ref (a 0)] (w_B g b B ++ w_P g a P) (kQi g (w_B g b r.2.1 ++ w_P g a r.2.2) r.1) := by
  refine kSp.of (cc := cX0_isBeatenBy) (maxL := 4) (ret := (some .boolean)) (by decide) rfl (Nat.le_of_ble_eq_true rfl) ?_
  intro p e s m args below meth c ls A hC hr hlocks hA hK hl hP hD hS
  replace hC : CallFix p m c cX0_isBeatenBy 4 s args wsX0_isBeatenBy RX0 := hC
  obtain ⟨hx, hb, hml, hown, hts⟩ := id hC
  replace hl : lv_has ls 4 [(0, .ref (b 0)), (1, .ref (a 0))] := hl
  unfold fX0_isBeatenBy at hR
  have hw0 : ∀ w ∈ wsX00, w ∈ wsX0_isBeatenBy := by decide +kernel
  have hl0 := hts (.fieldLink RX0 7 "FloatOrder$Best" "leastTrouble" "I") (by decide +kernel)
  have hl1 := hts (.fieldLink RX0 13 "FloatOrder$Best" "leastEnd" "I") (by decide +kernel)
  refine lv_aload_n hx hb dX0_isBeatenBy_0 rfl (lv_at hl 1 rfl) ?_
  obtain ⟨x1, hq1, hR⟩ := kk_bd_el hR
  refine kk_call_Vi (w' := (w_B g b B ++ w_P g a P)) (As := []) (rest := []) 1 2 hC (sX2_allTrouble l g n a P  x1 hq1) (cwV 0 hts gX0_isBeatenBy_X2_allTrouble rfl rfl rfl (by decide +kernel) ⟨Nat.le_of_ble_eq_true rfl, Nat.le_of_ble_eq_true rfl⟩) hK hP hD hS hA [1, 2, 3, 4, 5, 6, 7, 8, 9, 10] rfl (by decide +kernel) rfl rfl rfl rfl rfl rfl rfl hl.1 (Nat.le_of_ble_eq_true rfl) dX0_isBeatenBy_1 (fun H locs hP hD hS => ?_)
  refine lv_istore_n (lv' := [(2, .int x1), (0, .ref (b 0)), (1, .ref (a 0))]) hx hb dX0_isBeatenBy_4 rfl hl (by decide) rfl (fun ls hl => ?_)
  refine lv_iload_n hx hb dX0_isBeatenBy_5 rfl (lv_at hl 0 rfl) ?_
  refine lv_aload_n hx hb dX0_isBeatenBy_6 rfl (lv_at hl 1 rfl) ?_
  refine va_get (ci := 0) (C := RX0) (T := TX0) (N := 2) hx hb hts hw0 hown hK hP 0 rfl rfl 0 (by decide) hl0 (fun _ h9 => h9) rfl dX0_isBeatenBy_7 ?_
  refine lv_icmp_le (tgt := 15) hx hb dX0_isBeatenBy_10 (by decide) (fun c2 => ?_) (fun c2 => ?_)
  · replace hR := (if_pos c2).symm.trans hR
    refine lv_aload_n hx hb dX0_isBeatenBy_15 rfl (lv_at hl 2 rfl) ?_
    obtain ⟨x3, hq3, hR⟩ := kk_bd_el hR
    refine kk_call_Vi (w' := (w_B g b B ++ w_P g a x3.2)) (As := []) (rest := []) 1 2 hC (sX2_end l g n a P  x3 hq3) (cwV 0 hts gX0_isBeatenBy_X2_end rfl rfl rfl (by decide +kernel) ⟨Nat.le_of_ble_eq_true rfl, Nat.le_of_ble_eq_true rfl⟩) hK hP hD hS hA [1, 2, 3, 4, 5, 6, 7, 8, 9, 10] rfl (by decide +kernel) rfl rfl rfl rfl rfl rfl rfl hl.1 (Nat.le_of_ble_eq_true rfl) dX0_isBeatenBy_16 (fun H locs hP hD hS => ?_)
    refine lv_istore_n (lv' := [(3, .int x3.1), (2, .int x1), (0, .ref (b 0)), (1, .ref (a 0))]) hx hb dX0_isBeatenBy_19 rfl hl (by decide) rfl (fun ls hl => ?_)
    refine lv_iload_n hx hb dX0_isBeatenBy_20 rfl (lv_at hl 1 rfl) ?_
    refine lv_aload_n hx hb dX0_isBeatenBy_21 rfl (lv_at hl 2 rfl) ?_
    refine va_get (ci := 0) (C := RX0) (T := TX0) (N := 2) hx hb hts hw0 hown hK hP 0 rfl rfl 0 (by decide) hl0 (fun _ h9 => h9) rfl dX0_isBeatenBy_22 ?_
    refine lv_icmp_ne (tgt := 38) hx hb dX0_isBeatenBy_25 (by decide) (fun c4 => ?_) (fun c4 => ?_)
    · replace hR := (if_neg c4).symm.trans hR
      refine lv_aload_n hx hb dX0_isBeatenBy_38 rfl (lv_at hl 2 rfl) ?_
      refine lv_iload_n hx hb dX0_isBeatenBy_39 rfl (lv_at hl 1 rfl) ?_
      obtain ⟨B5, eB5, hR⟩ := kk_nm_el hR
      refine kk_put (w' := (w_B g b B5 ++ w_P g a x3.2)) (ci := 0) (C := RX0) (T := TX0) (N := 2) (ty := .int) (v := .int x1) hC hw0 tyX0 tyX0_ok nmX0 hK hP hD hS 0 rfl rfl 0 (by decide) hl0 rfl (by decide +kernel) rfl rfl (Nat.le_of_ble_eq_true rfl) (by rw [eB5]; rfl) dX0_isBeatenBy_40 rfl (fun H locs hP hD hS => ?_)
      refine lv_aload_n hx hb dX0_isBeatenBy_43 rfl (lv_at hl 2 rfl) ?_
      refine lv_iload_n hx hb dX0_isBeatenBy_44 rfl (lv_at hl 0 rfl) ?_
      obtain ⟨B6, eB6, hR⟩ := kk_nm_el hR
      refine kk_put (w' := (w_B g b B6 ++ w_P g a x3.2)) (ci := 0) (C := RX0) (T := TX0) (N := 2) (ty := .int) (v := .int x3.1) hC hw0 tyX0 tyX0_ok nmX0 hK hP hD hS 0 rfl rfl 1 (by decide) hl1 rfl (by decide +kernel) rfl rfl (Nat.le_of_ble_eq_true rfl) (by rw [eB6]; rfl) dX0_isBeatenBy_45 rfl (fun H locs hP hD hS => ?_)
      refine lv_iconst (v := (1 : Int32)) hx hb dX0_isBeatenBy_48 (by decide) ?_
      obtain rfl := Option.some.inj hR
      exact kk_ret_z hC hr hlocks hK hP hD hS dX0_isBeatenBy_49 (by decide) rfl
    · replace hR := (if_pos c4).symm.trans hR
      refine lv_iload_n hx hb dX0_isBeatenBy_28 rfl (lv_at hl 0 rfl) ?_
      refine lv_aload_n hx hb dX0_isBeatenBy_29 rfl (lv_at hl 2 rfl) ?_
      refine va_get (ci := 0) (C := RX0) (T := TX0) (N := 2) hx hb hts hw0 hown hK hP 0 rfl rfl 1 (by decide) hl1 (fun _ h9 => h9) rfl dX0_isBeatenBy_30 ?_
      refine lv_icmp_lt (tgt := 38) hx hb dX0_isBeatenBy_33 (by decide) (fun c8 => ?_) (fun c8 => ?_)
      · replace hR := (if_pos c8).symm.trans hR
        refine lv_aload_n hx hb dX0_isBeatenBy_38 rfl (lv_at hl 2 rfl) ?_
        refine lv_iload_n hx hb dX0_isBeatenBy_39 rfl (lv_at hl 1 rfl) ?_
        obtain ⟨B9, eB9, hR⟩ := kk_nm_el hR
        refine kk_put (w' := (w_B g b B9 ++ w_P g a x3.2)) (ci := 0) (C := RX0) (T := TX0) (N := 2) (ty := .int) (v := .int x1) hC hw0 tyX0 tyX0_ok nmX0 hK hP hD hS 0 rfl rfl 0 (by decide) hl0 rfl (by decide +kernel) rfl rfl (Nat.le_of_ble_eq_true rfl) (by rw [eB9]; rfl) dX0_isBeatenBy_40 rfl (fun H locs hP hD hS => ?_)
        refine lv_aload_n hx hb dX0_isBeatenBy_43 rfl (lv_at hl 2 rfl) ?_
        refine lv_iload_n hx hb dX0_isBeatenBy_44 rfl (lv_at hl 0 rfl) ?_
        obtain ⟨B10, eB10, hR⟩ := kk_nm_el hR
        refine kk_put (w' := (w_B g b B10 ++ w_P g a x3.2)) (ci := 0) (C := RX0) (T := TX0) (N := 2) (ty := .int) (v := .int x3.1) hC hw0 tyX0 tyX0_ok nmX0 hK hP hD hS 0 rfl rfl 1 (by decide) hl1 rfl (by decide +kernel) rfl rfl (Nat.le_of_ble_eq_true rfl) (by rw [eB10]; rfl) dX0_isBeatenBy_45 rfl (fun H locs hP hD hS => ?_)
        refine lv_iconst (v := (1 : Int32)) hx hb dX0_isBeatenBy_48 (by decide) ?_
        obtain rfl := Option.some.inj hR
        exact kk_ret_z hC hr hlocks hK hP hD hS dX0_isBeatenBy_49 (by decide) rfl
      · replace hR := (if_neg c8).symm.trans hR
        refine lv_iconst (v := (0 : Int32)) hx hb dX0_isBeatenBy_36 (by decide) ?_
        obtain rfl := Option.some.inj hR
        exact kk_ret_z hC hr hlocks hK hP hD hS dX0_isBeatenBy_37 (by decide) rfl
  · replace hR := (if_neg c2).symm.trans hR
    refine lv_iconst (v := (0 : Int32)) hx hb dX0_isBeatenBy_13 (by decide) ?_
    obtain rfl := Option.some.inj hR
    exact kk_ret_z hC hr hlocks hK hP hD hS dX0_isBeatenBy_14 (by decide) rfl
set_option maxHeartbeats 8000000 in
set_option maxRecDepth 100000 in
theorem sX3_kindOf (l : Launch) (g : kG) (n : Nat)  (v0 : Int32) (r : Int32) (hR : fX3_kindOf n v0 = some r) : kSp l g yX3_kindOf wsX3_kindOf ({ frames := 0, cells := 0, slots := 0, locals := 0 }) [.int v0] ([] : va_W) (kQi g ([] : va_W) r) := by
  refine kSp.of (cc := cX3_kindOf) (maxL := 1) (ret := (some .int)) (by decide) rfl (Nat.le_of_ble_eq_true rfl) ?_
  intro p e s m args below meth c ls A hC hr hlocks hA hK hl hP hD hS
  replace hC : CallFix p m c cX3_kindOf 1 s args wsX3_kindOf RX3 := hC
  obtain ⟨hx, hb, hml, hown, hts⟩ := id hC
  replace hl : lv_has ls 1 [(0, .int v0)] := hl
  unfold fX3_kindOf at hR
  refine lv_iload_n hx hb dX3_kindOf_0 rfl (lv_at hl 0 rfl) ?_
  by_cases c1 : v0 = (98 : Int32)
  · replace hR := (if_pos c1).symm.trans hR
    refine lv_tableIn (off := 47) (tgt := 48) hx hb dX3_kindOf_1 (by rw [c1]; decide) (by rw [c1]; decide) (by rw [c1]; rfl) (by decide) ?_
    refine lv_iconst (v := (2 : Int32)) hx hb dX3_kindOf_48 (by decide) ?_
    obtain rfl := Option.some.inj hR
    exact kk_ret_i hC hr hlocks hK hP hD hS dX3_kindOf_49 rfl
  replace hR := (if_neg c1).symm.trans hR
  by_cases c2 : v0 = (99 : Int32)
  · replace hR := (if_pos c2).symm.trans hR
    refine lv_tableIn (off := 43) (tgt := 44) hx hb dX3_kindOf_1 (by rw [c2]; decide) (by rw [c2]; decide) (by rw [c2]; rfl) (by decide) ?_
    refine lv_iconst (v := (0 : Int32)) hx hb dX3_kindOf_44 (by decide) ?_
    obtain rfl := Option.some.inj hR
    exact kk_ret_i hC hr hlocks hK hP hD hS dX3_kindOf_45 rfl
  replace hR := (if_neg c2).symm.trans hR
  by_cases c3 : v0 = (103 : Int32)
  · replace hR := (if_pos c3).symm.trans hR
    refine lv_tableIn (off := 49) (tgt := 50) hx hb dX3_kindOf_1 (by rw [c3]; decide) (by rw [c3]; decide) (by rw [c3]; rfl) (by decide) ?_
    refine lv_iconst (v := (3 : Int32)) hx hb dX3_kindOf_50 (by decide) ?_
    obtain rfl := Option.some.inj hR
    exact kk_ret_i hC hr hlocks hK hP hD hS dX3_kindOf_51 rfl
  replace hR := (if_neg c3).symm.trans hR
  by_cases c4 : v0 = (104 : Int32)
  · replace hR := (if_pos c4).symm.trans hR
    refine lv_tableIn (off := 45) (tgt := 46) hx hb dX3_kindOf_1 (by rw [c4]; decide) (by rw [c4]; decide) (by rw [c4]; rfl) (by decide) ?_
    refine lv_iconst (v := (1 : Int32)) hx hb dX3_kindOf_46 (by decide) ?_
    obtain rfl := Option.some.inj hR
    exact kk_ret_i hC hr hlocks hK hP hD hS dX3_kindOf_47 rfl
  replace hR := (if_neg c4).symm.trans hR
  have m98 := lv_neT (k := (98 : Int32)) (a := 98) c1 rfl
  have m99 := lv_neT (k := (99 : Int32)) (a := 99) c2 rfl
  have m103 := lv_neT (k := (103 : Int32)) (a := 103) c3 rfl
  have m104 := lv_neT (k := (104 : Int32)) (a := 104) c4 rfl
  refine kk_cut0 (pcJ := 52) (st := []) (ls := ls) ?_ (fun hj0 => ?_)
  · refine lv_iconst (v := (-1 : Int32)) hx hb dX3_kindOf_52 (by decide) ?_
    obtain rfl := Option.some.inj hR
    exact kk_ret_i hC hr hlocks hK hP hD hS dX3_kindOf_53 rfl
  by_cases hsw : v0.toInt < 98 ∨ 104 < v0.toInt
  · exact lv_tableOut (tgt := 52) hx hb dX3_kindOf_1 hsw (by decide) hj0
  have hsv : v0.toInt = 100 ∨ v0.toInt = 101 ∨ v0.toInt = 102 := by omega
  rcases hsv with hsv | hsv | hsv <;> exact lv_tableIn (off := 51) (tgt := 52) hx hb dX3_kindOf_1 (by omega) (by omega) (by rw [hsv]; rfl) (by decide) hj0
set_option maxHeartbeats 8000000 in
set_option maxRecDepth 100000 in
theorem sX3_start (l : Launch) (g : kG) (n : Nat) (a : Nat → Nat) (R : St1) (r : St1) (hR : fX3_start n R = some r) : kSp l g yX3_start wsX3_start ({ frames := 0, cells := 0, slots := 0, locals := 0 }) [.ref (a 0)] (w_R g a R) (kQv g (w_R g a r)) := by
  refine kSp.of (cc := cX3_start) (maxL := 1) (ret := none) (by decide) rfl (Nat.le_of_ble_eq_true rfl) ?_
  intro p e s m args below meth c ls A hC hr hlocks hA hK hl hP hD hS
  replace hC : CallFix p m c cX3_start 1 s args wsX3_start RX3 := hC
  obtain ⟨hx, hb, hml, hown, hts⟩ := id hC
  replace hl : lv_has ls 1 [(0, .ref (a 0))] := hl
  unfold fX3_start at hR
  have hw3 : ∀ w ∈ wsX30, w ∈ wsX3_start := by decide +kernel
  have hl0 := hts (.fieldLink RX3 21 "FloatOrder$PartReader" "stage" "I") (by decide +kernel)
  refine lv_aload_n hx hb dX3_start_0 rfl (lv_at hl 0 rfl) ?_
  refine lv_iconst (v := (0 : Int32)) hx hb dX3_start_1 (by decide) ?_
  obtain ⟨R1, eR1, hR⟩ := kk_nm_el hR
  refine kk_put (w' := (w_R g a R1)) (ci := 3) (C := RX3) (T := TX3) (N := 4) (ty := .int) (v := .int (0 : Int32)) hC hw3 tyX3 tyX3_ok nmX3 hK hP hD hS 0 rfl rfl 3 (by decide) hl0 rfl (by decide +kernel) rfl rfl (Nat.le_of_ble_eq_true rfl) (by rw [eR1]; rfl) dX3_start_2 rfl (fun H locs hP hD hS => ?_)
  obtain rfl := Option.some.inj hR
  exact kk_ret_v hC hr hlocks hK hP hD hS dX3_start_5
set_option maxHeartbeats 8000000 in
set_option maxRecDepth 100000 in
theorem sX3_isAfterPart (l : Launch) (g : kG) (n : Nat) (a : Nat → Nat) (R : St1) (r : Int32) (hR : fX3_isAfterPart n R = some r) : kSp l g yX3_isAfterPart wsX3_isAfterPart ({ frames := 0, cells := 0, slots := 0, locals := 0 }) [.ref (a 0)] (w_R g a R) (kQi g (w_R g a R) r) := by
  refine kSp.of (cc := cX3_isAfterPart) (maxL := 1) (ret := (some .boolean)) (by decide) rfl (Nat.le_of_ble_eq_true rfl) ?_
  intro p e s m args below meth c ls A hC hr hlocks hA hK hl hP hD hS
  replace hC : CallFix p m c cX3_isAfterPart 1 s args wsX3_isAfterPart RX3 := hC
  obtain ⟨hx, hb, hml, hown, hts⟩ := id hC
  replace hl : lv_has ls 1 [(0, .ref (a 0))] := hl
  unfold fX3_isAfterPart at hR
  have hw3 : ∀ w ∈ wsX30, w ∈ wsX3_isAfterPart := by decide +kernel
  have hl0 := hts (.fieldLink RX3 21 "FloatOrder$PartReader" "stage" "I") (by decide +kernel)
  refine lv_aload_n hx hb dX3_isAfterPart_0 rfl (lv_at hl 0 rfl) ?_
  refine va_get (ci := 3) (C := RX3) (T := TX3) (N := 4) hx hb hts hw3 hown hK hP 0 rfl rfl 3 (by decide) hl0 (fun _ h9 => h9) rfl dX3_isAfterPart_1 ?_
  refine lv_iconst (v := (3 : Int32)) hx hb dX3_isAfterPart_4 (by decide) ?_
  refine lv_icmp_eq (tgt := 16) hx hb dX3_isAfterPart_5 (by decide) (fun c1 => ?_) (fun c1 => ?_)
  · replace hR := (if_pos c1).symm.trans hR
    refine lv_iconst (v := (1 : Int32)) hx hb dX3_isAfterPart_16 (by decide) ?_
    refine lv_goto (tgt := 21) hx hb dX3_isAfterPart_17 (by decide) ?_
    obtain rfl := Option.some.inj hR
    exact kk_ret_z hC hr hlocks hK hP hD hS dX3_isAfterPart_21 (by decide) rfl
  · replace hR := (if_neg c1).symm.trans hR
    refine lv_aload_n hx hb dX3_isAfterPart_8 rfl (lv_at hl 0 rfl) ?_
    refine va_get (ci := 3) (C := RX3) (T := TX3) (N := 4) hx hb hts hw3 hown hK hP 0 rfl rfl 3 (by decide) hl0 (fun _ h9 => h9) rfl dX3_isAfterPart_9 ?_
    refine lv_iconst (v := (5 : Int32)) hx hb dX3_isAfterPart_12 (by decide) ?_
    refine lv_icmp_ne (tgt := 20) hx hb dX3_isAfterPart_13 (by decide) (fun c3 => ?_) (fun c3 => ?_)
    · replace hR := (if_neg c3).symm.trans hR
      refine lv_iconst (v := (0 : Int32)) hx hb dX3_isAfterPart_20 (by decide) ?_
      obtain rfl := Option.some.inj hR
      exact kk_ret_z hC hr hlocks hK hP hD hS dX3_isAfterPart_21 (by decide) rfl
    · replace hR := (if_pos c3).symm.trans hR
      refine lv_iconst (v := (1 : Int32)) hx hb dX3_isAfterPart_16 (by decide) ?_
      refine lv_goto (tgt := 21) hx hb dX3_isAfterPart_17 (by decide) ?_
      obtain rfl := Option.some.inj hR
      exact kk_ret_z hC hr hlocks hK hP hD hS dX3_isAfterPart_21 (by decide) rfl
set_option maxHeartbeats 8000000 in
set_option maxRecDepth 100000 in
theorem sX3_acceptsKind (l : Launch) (g : kG) (n : Nat) (a : Nat → Nat) (R : St1) (v1 : Int32) (r : Int32 × St1) (hR : fX3_acceptsKind n R v1 = some r) : kSp l g yX3_acceptsKind wsX3_acceptsKind ({ frames := 1, cells := 0, slots := 0, locals := 20 }) [.ref (a 0), .int v1] (w_R g a R) (kQi g (w_R g a r.2) r.1) := by
  refine kSp.of (cc := cX3_acceptsKind) (maxL := 3) (ret := (some .boolean)) (by decide) rfl (Nat.le_of_ble_eq_true rfl) ?_
  intro p e s m args below meth c ls A hC hr hlocks hA hK hl hP hD hS
  replace hC : CallFix p m c cX3_acceptsKind 3 s args wsX3_acceptsKind RX3 := hC
  obtain ⟨hx, hb, hml, hown, hts⟩ := id hC
  replace hl : lv_has ls 3 [(0, .ref (a 0)), (1, .int v1)] := hl
  unfold fX3_acceptsKind at hR
  have hw3 : ∀ w ∈ wsX30, w ∈ wsX3_acceptsKind := by decide +kernel
  have hl0 := hts (.fieldLink RX3 9 "FloatOrder$PartReader" "kind" "I") (by decide +kernel)
  have hl1 := hts (.fieldLink RX3 15 "FloatOrder$PartReader" "height" "I") (by decide +kernel)
  have hl2 := hts (.fieldLink RX3 18 "FloatOrder$PartReader" "mask" "I") (by decide +kernel)
  have hl3 := hts (.fieldLink RX3 21 "FloatOrder$PartReader" "stage" "I") (by decide +kernel)
  refine lv_iload_n hx hb dX3_acceptsKind_0 rfl (lv_at hl 1 rfl) ?_
  obtain ⟨x1, hq1, hR⟩ := kk_bd_el hR
  refine kk_call_Si (w' := (w_R g a R)) (As := [.int v1]) (rest := []) hC (sX3_kindOf l g n   v1 x1 hq1) (va_cwS 1 hts gX3_acceptsKind_X3_kindOf rfl rfl rfl (by decide +kernel) ⟨Nat.le_of_ble_eq_true rfl, Nat.le_of_ble_eq_true rfl⟩) hK hP hD hS hA [] rfl (by decide +kernel) rfl rfl rfl rfl hl.1 (Nat.le_of_ble_eq_true rfl) dX3_acceptsKind_1 (fun H locs hP hD hS => ?_)
  refine lv_istore_n (lv' := [(2, .int x1), (0, .ref (a 0)), (1, .int v1)]) hx hb dX3_acceptsKind_4 rfl hl (by decide) rfl (fun ls hl => ?_)
  refine lv_iload_n hx hb dX3_acceptsKind_5 rfl (lv_at hl 0 rfl) ?_
  refine lv_iconst (v := (-1 : Int32)) hx hb dX3_acceptsKind_6 (by decide) ?_
  refine lv_icmp_ne (tgt := 12) hx hb dX3_acceptsKind_7 (by decide) (fun c2 => ?_) (fun c2 => ?_)
  · replace hR := (if_neg c2).symm.trans hR
    refine lv_aload_n hx hb dX3_acceptsKind_12 rfl (lv_at hl 1 rfl) ?_
    refine lv_iload_n hx hb dX3_acceptsKind_13 rfl (lv_at hl 0 rfl) ?_
    obtain ⟨R3, eR3, hR⟩ := kk_nm_el hR
    refine kk_put (w' := (w_R g a R3)) (ci := 3) (C := RX3) (T := TX3) (N := 4) (ty := .int) (v := .int x1) hC hw3 tyX3 tyX3_ok nmX3 hK hP hD hS 0 rfl rfl 0 (by decide) hl0 rfl (by decide +kernel) rfl rfl (Nat.le_of_ble_eq_true rfl) (by rw [eR3]; rfl) dX3_acceptsKind_14 rfl (fun H locs hP hD hS => ?_)
    refine lv_aload_n hx hb dX3_acceptsKind_17 rfl (lv_at hl 1 rfl) ?_
    refine lv_iconst (v := (0 : Int32)) hx hb dX3_acceptsKind_18 (by decide) ?_
    obtain ⟨R4, eR4, hR⟩ := kk_nm_el hR
    refine kk_put (w' := (w_R g a R4)) (ci := 3) (C := RX3) (T := TX3) (N := 4) (ty := .int) (v := .int (0 : Int32)) hC hw3 tyX3 tyX3_ok nmX3 hK hP hD hS 0 rfl rfl 1 (by decide) hl1 rfl (by decide +kernel) rfl rfl (Nat.le_of_ble_eq_true rfl) (by rw [eR4]; rfl) dX3_acceptsKind_19 rfl (fun H locs hP hD hS => ?_)
    refine lv_aload_n hx hb dX3_acceptsKind_22 rfl (lv_at hl 1 rfl) ?_
    refine lv_iconst (v := (0 : Int32)) hx hb dX3_acceptsKind_23 (by decide) ?_
    obtain ⟨R5, eR5, hR⟩ := kk_nm_el hR
    refine kk_put (w' := (w_R g a R5)) (ci := 3) (C := RX3) (T := TX3) (N := 4) (ty := .int) (v := .int (0 : Int32)) hC hw3 tyX3 tyX3_ok nmX3 hK hP hD hS 0 rfl rfl 2 (by decide) hl2 rfl (by decide +kernel) rfl rfl (Nat.le_of_ble_eq_true rfl) (by rw [eR5]; rfl) dX3_acceptsKind_24 rfl (fun H locs hP hD hS => ?_)
    refine lv_aload_n hx hb dX3_acceptsKind_27 rfl (lv_at hl 1 rfl) ?_
    refine lv_iconst (v := (1 : Int32)) hx hb dX3_acceptsKind_28 (by decide) ?_
    obtain ⟨R6, eR6, hR⟩ := kk_nm_el hR
    refine kk_put (w' := (w_R g a R6)) (ci := 3) (C := RX3) (T := TX3) (N := 4) (ty := .int) (v := .int (1 : Int32)) hC hw3 tyX3 tyX3_ok nmX3 hK hP hD hS 0 rfl rfl 3 (by decide) hl3 rfl (by decide +kernel) rfl rfl (Nat.le_of_ble_eq_true rfl) (by rw [eR6]; rfl) dX3_acceptsKind_29 rfl (fun H locs hP hD hS => ?_)
    refine lv_iconst (v := (1 : Int32)) hx hb dX3_acceptsKind_32 (by decide) ?_
    obtain rfl := Option.some.inj hR
    exact kk_ret_z hC hr hlocks hK hP hD hS dX3_acceptsKind_33 (by decide) rfl
  · replace hR := (if_pos c2).symm.trans hR
    refine lv_iconst (v := (0 : Int32)) hx hb dX3_acceptsKind_10 (by decide) ?_
    obtain rfl := Option.some.inj hR
    exact kk_ret_z hC hr hlocks hK hP hD hS dX3_acceptsKind_11 (by decide) rfl
set_option maxHeartbeats 8000000 in
set_option maxRecDepth 100000 in
theorem sX3_acceptsDigit (l : Launch) (g : kG) (n : Nat) (a : Nat → Nat) (R : St1) (v1 : Int32) (v2 : Int32) (v3 : Int32) (r : Int32 × St1) (hR : fX3_acceptsDigit n R v1 v2 v3 = some r) : kSp l g yX3_acceptsDigit wsX3_acceptsDigit ({ frames := 0, cells := 0, slots := 0, locals := 0 }) [.ref (a 0), .int v1, .int v2, .int v3] (w_R g a R) (kQi g (w_R g a r.2) r.1) := by
  refine kSp.of (cc := cX3_acceptsDigit) (maxL := 5) (ret := (some .boolean)) (by decide) rfl (Nat.le_of_ble_eq_true rfl) ?_
  intro p e s m args below meth c ls A hC hr hlocks hA hK hl hP hD hS
  replace hC : CallFix p m c cX3_acceptsDigit 5 s args wsX3_acceptsDigit RX3 := hC
  obtain ⟨hx, hb, hml, hown, hts⟩ := id hC
  replace hl : lv_has ls 5 [(0, .ref (a 0)), (1, .int v1), (2, .int v2), (3, .int v3)] := hl
  unfold fX3_acceptsDigit at hR
  have hw3 : ∀ w ∈ wsX30, w ∈ wsX3_acceptsDigit := by decide +kernel
  have hl0 := hts (.fieldLink RX3 15 "FloatOrder$PartReader" "height" "I") (by decide +kernel)
  have hl1 := hts (.fieldLink RX3 21 "FloatOrder$PartReader" "stage" "I") (by decide +kernel)
  refine lv_iload_n hx hb dX3_acceptsDigit_0 rfl (lv_at hl 1 rfl) ?_
  refine lv_bipush (v := (48 : Int32)) hx hb dX3_acceptsDigit_1 (by decide) ?_
  refine lv_isub hx hb dX3_acceptsDigit_3 ?_
  refine lv_istore (lv' := [(4, .int (v1 - (48 : Int32))), (0, .ref (a 0)), (1, .int v1), (2, .int v2), (3, .int v3)]) hx hb dX3_acceptsDigit_4 hl (by decide) rfl (fun ls hl => ?_)
  refine lv_iload hx hb dX3_acceptsDigit_6 (lv_at hl 0 rfl) ?_
  refine lv_iload_n hx hb dX3_acceptsDigit_8 rfl (lv_at hl 3 rfl) ?_
  refine lv_icmp_lt (tgt := 19) hx hb dX3_acceptsDigit_9 (by decide) (fun c1 => ?_) (fun c1 => ?_)
  · replace hR := (if_pos c1).symm.trans hR
    refine lv_iconst (v := (0 : Int32)) hx hb dX3_acceptsDigit_19 (by decide) ?_
    obtain rfl := Option.some.inj hR
    exact kk_ret_z hC hr hlocks hK hP hD hS dX3_acceptsDigit_20 (by decide) rfl
  · replace hR := (if_neg c1).symm.trans hR
    refine lv_iload hx hb dX3_acceptsDigit_12 (lv_at hl 0 rfl) ?_
    refine lv_bipush (v := (9 : Int32)) hx hb dX3_acceptsDigit_14 (by decide) ?_
    refine lv_icmp_le (tgt := 21) hx hb dX3_acceptsDigit_16 (by decide) (fun c3 => ?_) (fun c3 => ?_)
    · replace hR := (if_pos c3).symm.trans hR
      refine lv_aload_n hx hb dX3_acceptsDigit_21 rfl (lv_at hl 1 rfl) ?_
      refine lv_aload_n hx hb dX3_acceptsDigit_22 rfl (lv_at hl 1 rfl) ?_
      refine va_get (ci := 3) (C := RX3) (T := TX3) (N := 4) hx hb hts hw3 hown hK hP 0 rfl rfl 1 (by decide) hl0 (fun _ h9 => h9) rfl dX3_acceptsDigit_23 ?_
      refine lv_bipush (v := (10 : Int32)) hx hb dX3_acceptsDigit_26 (by decide) ?_
      refine lv_imul hx hb dX3_acceptsDigit_28 ?_
      refine lv_iload hx hb dX3_acceptsDigit_29 (lv_at hl 0 rfl) ?_
      refine lv_iadd hx hb dX3_acceptsDigit_31 ?_
      obtain ⟨R4, eR4, hR⟩ := kk_nm_el hR
      refine kk_put (w' := (w_R g a R4)) (ci := 3) (C := RX3) (T := TX3) (N := 4) (ty := .int) (v := .int (((R 1 0) * (10 : Int32)) + (v1 - (48 : Int32)))) hC hw3 tyX3 tyX3_ok nmX3 hK hP hD hS 0 rfl rfl 1 (by decide) hl0 rfl (by decide +kernel) rfl rfl (Nat.le_of_ble_eq_true rfl) (by rw [eR4]; rfl) dX3_acceptsDigit_32 rfl (fun H locs hP hD hS => ?_)
      refine lv_aload_n hx hb dX3_acceptsDigit_35 rfl (lv_at hl 1 rfl) ?_
      refine lv_iload_n hx hb dX3_acceptsDigit_36 rfl (lv_at hl 4 rfl) ?_
      obtain ⟨R5, eR5, hR⟩ := kk_nm_el hR
      refine kk_put (w' := (w_R g a R5)) (ci := 3) (C := RX3) (T := TX3) (N := 4) (ty := .int) (v := .int v3) hC hw3 tyX3 tyX3_ok nmX3 hK hP hD hS 0 rfl rfl 3 (by decide) hl1 rfl (by decide +kernel) rfl rfl (Nat.le_of_ble_eq_true rfl) (by rw [eR5]; rfl) dX3_acceptsDigit_37 rfl (fun H locs hP hD hS => ?_)
      refine lv_iconst (v := (1 : Int32)) hx hb dX3_acceptsDigit_40 (by decide) ?_
      obtain rfl := Option.some.inj hR
      exact kk_ret_z hC hr hlocks hK hP hD hS dX3_acceptsDigit_41 (by decide) rfl
    · replace hR := (if_neg c3).symm.trans hR
      refine lv_iconst (v := (0 : Int32)) hx hb dX3_acceptsDigit_19 (by decide) ?_
      obtain rfl := Option.some.inj hR
      exact kk_ret_z hC hr hlocks hK hP hD hS dX3_acceptsDigit_20 (by decide) rfl
set_option maxHeartbeats 8000000 in
set_option maxRecDepth 100000 in
theorem sX3_acceptsNextPart (l : Launch) (g : kG) (n : Nat) (a : Nat → Nat) (R : St1) (v1 : Int32) (r : Int32 × St1) (hR : fX3_acceptsNextPart n R v1 = some r) : kSp l g yX3_acceptsNextPart wsX3_acceptsNextPart ({ frames := 0, cells := 0, slots := 0, locals := 0 }) [.ref (a 0), .int v1] (w_R g a R) (kQi g (w_R g a r.2) r.1) := by
  refine kSp.of (cc := cX3_acceptsNextPart) (maxL := 2) (ret := (some .boolean)) (by decide) rfl (Nat.le_of_ble_eq_true rfl) ?_
  intro p e s m args below meth c ls A hC hr hlocks hA hK hl hP hD hS
  replace hC : CallFix p m c cX3_acceptsNextPart 2 s args wsX3_acceptsNextPart RX3 := hC
  obtain ⟨hx, hb, hml, hown, hts⟩ := id hC
  replace hl : lv_has ls 2 [(0, .ref (a 0)), (1, .int v1)] := hl
  unfold fX3_acceptsNextPart at hR
  have hw3 : ∀ w ∈ wsX30, w ∈ wsX3_acceptsNextPart := by decide +kernel
  have hl0 := hts (.fieldLink RX3 21 "FloatOrder$PartReader" "stage" "I") (by decide +kernel)
  refine lv_iload_n hx hb dX3_acceptsNextPart_0 rfl (lv_at hl 1 rfl) ?_
  refine lv_bipush (v := (59 : Int32)) hx hb dX3_acceptsNextPart_1 (by decide) ?_
  refine lv_icmp_eq (tgt := 8) hx hb dX3_acceptsNextPart_3 (by decide) (fun c1 => ?_) (fun c1 => ?_)
  · replace hR := (if_pos c1).symm.trans hR
    refine lv_aload_n hx hb dX3_acceptsNextPart_8 rfl (lv_at hl 0 rfl) ?_
    refine lv_iconst (v := (0 : Int32)) hx hb dX3_acceptsNextPart_9 (by decide) ?_
    obtain ⟨R2, eR2, hR⟩ := kk_nm_el hR
    refine kk_put (w' := (w_R g a R2)) (ci := 3) (C := RX3) (T := TX3) (N := 4) (ty := .int) (v := .int (0 : Int32)) hC hw3 tyX3 tyX3_ok nmX3 hK hP hD hS 0 rfl rfl 3 (by decide) hl0 rfl (by decide +kernel) rfl rfl (Nat.le_of_ble_eq_true rfl) (by rw [eR2]; rfl) dX3_acceptsNextPart_10 rfl (fun H locs hP hD hS => ?_)
    refine lv_iconst (v := (1 : Int32)) hx hb dX3_acceptsNextPart_13 (by decide) ?_
    obtain rfl := Option.some.inj hR
    exact kk_ret_z hC hr hlocks hK hP hD hS dX3_acceptsNextPart_14 (by decide) rfl
  · replace hR := (if_neg c1).symm.trans hR
    refine lv_iconst (v := (0 : Int32)) hx hb dX3_acceptsNextPart_6 (by decide) ?_
    obtain rfl := Option.some.inj hR
    exact kk_ret_z hC hr hlocks hK hP hD hS dX3_acceptsNextPart_7 (by decide) rfl
set_option maxHeartbeats 8000000 in
set_option maxRecDepth 100000 in
theorem sX3_acceptsShied (l : Launch) (g : kG) (n : Nat) (a : Nat → Nat) (R : St1) (v1 : Int32) (r : Int32 × St1) (hR : fX3_acceptsShied n R v1 = some r) : kSp l g yX3_acceptsShied wsX3_acceptsShied ({ frames := 1, cells := 0, slots := 0, locals := 20 }) [.ref (a 0), .int v1] (w_R g a R) (kQi g (w_R g a r.2) r.1) := by
  refine kSp.of (cc := cX3_acceptsShied) (maxL := 3) (ret := (some .boolean)) (by decide) rfl (Nat.le_of_ble_eq_true rfl) ?_
  intro p e s m args below meth c ls A hC hr hlocks hA hK hl hP hD hS
  replace hC : CallFix p m c cX3_acceptsShied 3 s args wsX3_acceptsShied RX3 := hC
  obtain ⟨hx, hb, hml, hown, hts⟩ := id hC
  replace hl : lv_has ls 3 [(0, .ref (a 0)), (1, .int v1)] := hl
  unfold fX3_acceptsShied at hR
  have hw3 : ∀ w ∈ wsX30, w ∈ wsX3_acceptsShied := by decide +kernel
  have hl0 := hts (.fieldLink RX3 18 "FloatOrder$PartReader" "mask" "I") (by decide +kernel)
  have hl1 := hts (.fieldLink RX3 21 "FloatOrder$PartReader" "stage" "I") (by decide +kernel)
  refine lv_iload_n hx hb dX3_acceptsShied_0 rfl (lv_at hl 1 rfl) ?_
  obtain ⟨x1, hq1, hR⟩ := kk_bd_el hR
  refine kk_call_Si (w' := (w_R g a R)) (As := [.int v1]) (rest := []) hC (sX3_kindOf l g n   v1 x1 hq1) (va_cwS 1 hts gX3_acceptsShied_X3_kindOf rfl rfl rfl (by decide +kernel) ⟨Nat.le_of_ble_eq_true rfl, Nat.le_of_ble_eq_true rfl⟩) hK hP hD hS hA [] rfl (by decide +kernel) rfl rfl rfl rfl hl.1 (Nat.le_of_ble_eq_true rfl) dX3_acceptsShied_1 (fun H locs hP hD hS => ?_)
  refine lv_istore_n (lv' := [(2, .int x1), (0, .ref (a 0)), (1, .int v1)]) hx hb dX3_acceptsShied_4 rfl hl (by decide) rfl (fun ls hl => ?_)
  refine lv_iload_n hx hb dX3_acceptsShied_5 rfl (lv_at hl 0 rfl) ?_
  refine lv_iconst (v := (-1 : Int32)) hx hb dX3_acceptsShied_6 (by decide) ?_
  refine lv_icmp_eq (tgt := 19) hx hb dX3_acceptsShied_7 (by decide) (fun c2 => ?_) (fun c2 => ?_)
  · replace hR := (if_pos c2).symm.trans hR
    refine lv_iconst (v := (0 : Int32)) hx hb dX3_acceptsShied_19 (by decide) ?_
    obtain rfl := Option.some.inj hR
    exact kk_ret_z hC hr hlocks hK hP hD hS dX3_acceptsShied_20 (by decide) rfl
  · replace hR := (if_neg c2).symm.trans hR
    refine lv_aload_n hx hb dX3_acceptsShied_10 rfl (lv_at hl 1 rfl) ?_
    refine va_get (ci := 3) (C := RX3) (T := TX3) (N := 4) hx hb hts hw3 hown hK hP 0 rfl rfl 2 (by decide) hl0 (fun _ h9 => h9) rfl dX3_acceptsShied_11 ?_
    refine lv_iload_n hx hb dX3_acceptsShied_14 rfl (lv_at hl 0 rfl) ?_
    refine lv_ishr hx hb dX3_acceptsShied_15 ?_
    refine lv_if_eq (tgt := 21) hx hb dX3_acceptsShied_16 (by decide) (fun c4 => ?_) (fun c4 => ?_)
    · replace hR := (if_pos c4).symm.trans hR
      refine lv_aload_n hx hb dX3_acceptsShied_21 rfl (lv_at hl 1 rfl) ?_
      refine lv_dup hx hb dX3_acceptsShied_22 rfl ?_
      refine va_get (ci := 3) (C := RX3) (T := TX3) (N := 4) hx hb hts hw3 hown hK hP 0 rfl rfl 2 (by decide) hl0 (fun _ h9 => h9) rfl dX3_acceptsShied_23 ?_
      refine lv_iconst (v := (1 : Int32)) hx hb dX3_acceptsShied_26 (by decide) ?_
      refine lv_iload_n hx hb dX3_acceptsShied_27 rfl (lv_at hl 0 rfl) ?_
      refine lv_ishl hx hb dX3_acceptsShied_28 ?_
      refine lv_ior hx hb dX3_acceptsShied_29 ?_
      obtain ⟨R5, eR5, hR⟩ := kk_nm_el hR
      refine kk_put (w' := (w_R g a R5)) (ci := 3) (C := RX3) (T := TX3) (N := 4) (ty := .int) (v := .int ((R 2 0) ||| ((1 : Int32) <<< (x1 &&& 31)))) hC hw3 tyX3 tyX3_ok nmX3 hK hP hD hS 0 rfl rfl 2 (by decide) hl0 rfl (by decide +kernel) rfl rfl (Nat.le_of_ble_eq_true rfl) (by rw [eR5]; rfl) dX3_acceptsShied_30 rfl (fun H locs hP hD hS => ?_)
      refine lv_aload_n hx hb dX3_acceptsShied_33 rfl (lv_at hl 1 rfl) ?_
      refine lv_iconst (v := (5 : Int32)) hx hb dX3_acceptsShied_34 (by decide) ?_
      obtain ⟨R6, eR6, hR⟩ := kk_nm_el hR
      refine kk_put (w' := (w_R g a R6)) (ci := 3) (C := RX3) (T := TX3) (N := 4) (ty := .int) (v := .int (5 : Int32)) hC hw3 tyX3 tyX3_ok nmX3 hK hP hD hS 0 rfl rfl 3 (by decide) hl1 rfl (by decide +kernel) rfl rfl (Nat.le_of_ble_eq_true rfl) (by rw [eR6]; rfl) dX3_acceptsShied_35 rfl (fun H locs hP hD hS => ?_)
      refine lv_iconst (v := (1 : Int32)) hx hb dX3_acceptsShied_38 (by decide) ?_
      obtain rfl := Option.some.inj hR
      exact kk_ret_z hC hr hlocks hK hP hD hS dX3_acceptsShied_39 (by decide) rfl
    · replace hR := (if_neg c4).symm.trans hR
      refine lv_iconst (v := (0 : Int32)) hx hb dX3_acceptsShied_19 (by decide) ?_
      obtain rfl := Option.some.inj hR
      exact kk_ret_z hC hr hlocks hK hP hD hS dX3_acceptsShied_20 (by decide) rfl
set_option maxHeartbeats 8000000 in
set_option maxRecDepth 100000 in
theorem sX3_accepts (l : Launch) (g : kG) (n : Nat) (a : Nat → Nat) (R : St1) (v1 : Int32) (r : Int32 × St1) (hR : fX3_accepts n R v1 = some r) : kSp l g yX3_accepts wsX3_accepts ({ frames := 2, cells := 0, slots := 0, locals := 42 }) [.ref (a 0), .int v1] (w_R g a R) (kQi g (w_R g a r.2) r.1) := by
  refine kSp.of (cc := cX3_accepts) (maxL := 2) (ret := (some .boolean)) (by decide) rfl (Nat.le_of_ble_eq_true rfl) ?_
  intro p e s m args below meth c ls A hC hr hlocks hA hK hl hP hD hS
  replace hC : CallFix p m c cX3_accepts 2 s args wsX3_accepts RX3 := hC
  obtain ⟨hx, hb, hml, hown, hts⟩ := id hC
  replace hl : lv_has ls 2 [(0, .ref (a 0)), (1, .int v1)] := hl
  unfold fX3_accepts at hR
  have hw3 : ∀ w ∈ wsX30, w ∈ wsX3_accepts := by decide +kernel
  have hl0 := hts (.fieldLink RX3 21 "FloatOrder$PartReader" "stage" "I") (by decide +kernel)
  have hl1 := hts (.fieldLink RX3 9 "FloatOrder$PartReader" "kind" "I") (by decide +kernel)
  refine lv_aload_n hx hb dX3_accepts_0 rfl (lv_at hl 0 rfl) ?_
  refine va_get (ci := 3) (C := RX3) (T := TX3) (N := 4) hx hb hts hw3 hown hK hP 0 rfl rfl 3 (by decide) hl0 (fun _ h9 => h9) rfl dX3_accepts_1 ?_
  by_cases c1 : (R 3 0) = (0 : Int32)
  · replace hR := (if_pos c1).symm.trans hR
    refine lv_tableIn (off := 36) (tgt := 40) hx hb dX3_accepts_4 (by rw [c1]; decide) (by rw [c1]; decide) (by rw [c1]; rfl) (by decide) ?_
    refine lv_aload_n hx hb dX3_accepts_40 rfl (lv_at hl 0 rfl) ?_
    refine lv_iload_n hx hb dX3_accepts_41 rfl (lv_at hl 1 rfl) ?_
    obtain ⟨x2, hq2, hR⟩ := kk_bd_el hR
    refine kk_call_Vi (w' := (w_R g a x2.2)) (As := [.int v1]) (rest := []) 0 3 hC (sX3_acceptsKind l g n a R v1 x2 hq2) (cwV 1 hts gX3_accepts_X3_acceptsKind rfl rfl rfl (by decide +kernel) ⟨Nat.le_of_ble_eq_true rfl, Nat.le_of_ble_eq_true rfl⟩) hK hP hD hS hA [0] rfl (by decide +kernel) rfl rfl rfl rfl rfl rfl rfl hl.1 (Nat.le_of_ble_eq_true rfl) dX3_accepts_42 (fun H locs hP hD hS => ?_)
    obtain ⟨hz3, hR⟩ := kk_cb_el hR
    obtain rfl := Option.some.inj hR
    exact kk_ret_z hC hr hlocks hK hP hD hS dX3_accepts_45 hz3 rfl
  replace hR := (if_neg c1).symm.trans hR
  by_cases c4 : (R 3 0) = (1 : Int32)
  · replace hR := (if_pos c4).symm.trans hR
    refine lv_tableIn (off := 42) (tgt := 46) hx hb dX3_accepts_4 (by rw [c4]; decide) (by rw [c4]; decide) (by rw [c4]; rfl) (by decide) ?_
    refine lv_aload_n hx hb dX3_accepts_46 rfl (lv_at hl 0 rfl) ?_
    refine lv_iload_n hx hb dX3_accepts_47 rfl (lv_at hl 1 rfl) ?_
    refine lv_iconst (v := (1 : Int32)) hx hb dX3_accepts_48 (by decide) ?_
    refine lv_iconst (v := (2 : Int32)) hx hb dX3_accepts_49 (by decide) ?_
    obtain ⟨x5, hq5, hR⟩ := kk_bd_el hR
    refine kk_call_Vi (w' := (w_R g a x5.2)) (As := [.int v1, .int (1 : Int32), .int (2 : Int32)]) (rest := []) 0 3 hC (sX3_acceptsDigit l g n a R v1 (1 : Int32) (2 : Int32) x5 hq5) (cwV 3 hts gX3_accepts_X3_acceptsDigit rfl rfl rfl (by decide +kernel) ⟨Nat.le_of_ble_eq_true rfl, Nat.le_of_ble_eq_true rfl⟩) hK hP hD hS hA [0] rfl (by decide +kernel) rfl rfl rfl rfl rfl rfl rfl hl.1 (Nat.le_of_ble_eq_true rfl) dX3_accepts_50 (fun H locs hP hD hS => ?_)
    obtain ⟨hz6, hR⟩ := kk_cb_el hR
    obtain rfl := Option.some.inj hR
    exact kk_ret_z hC hr hlocks hK hP hD hS dX3_accepts_53 hz6 rfl
  replace hR := (if_neg c4).symm.trans hR
  by_cases c7 : (R 3 0) = (2 : Int32)
  · replace hR := (if_pos c7).symm.trans hR
    refine lv_tableIn (off := 50) (tgt := 54) hx hb dX3_accepts_4 (by rw [c7]; decide) (by rw [c7]; decide) (by rw [c7]; rfl) (by decide) ?_
    refine lv_aload_n hx hb dX3_accepts_54 rfl (lv_at hl 0 rfl) ?_
    refine lv_iload_n hx hb dX3_accepts_55 rfl (lv_at hl 1 rfl) ?_
    refine lv_iconst (v := (0 : Int32)) hx hb dX3_accepts_56 (by decide) ?_
    refine lv_iconst (v := (3 : Int32)) hx hb dX3_accepts_57 (by decide) ?_
    obtain ⟨x8, hq8, hR⟩ := kk_bd_el hR
    refine kk_call_Vi (w' := (w_R g a x8.2)) (As := [.int v1, .int (0 : Int32), .int (3 : Int32)]) (rest := []) 0 3 hC (sX3_acceptsDigit l g n a R v1 (0 : Int32) (3 : Int32) x8 hq8) (cwV 3 hts gX3_accepts_X3_acceptsDigit rfl rfl rfl (by decide +kernel) ⟨Nat.le_of_ble_eq_true rfl, Nat.le_of_ble_eq_true rfl⟩) hK hP hD hS hA [0] rfl (by decide +kernel) rfl rfl rfl rfl rfl rfl rfl hl.1 (Nat.le_of_ble_eq_true rfl) dX3_accepts_58 (fun H locs hP hD hS => ?_)
    obtain ⟨hz9, hR⟩ := kk_cb_el hR
    obtain rfl := Option.some.inj hR
    exact kk_ret_z hC hr hlocks hK hP hD hS dX3_accepts_61 hz9 rfl
  replace hR := (if_neg c7).symm.trans hR
  by_cases c10 : (R 3 0) = (3 : Int32)
  · replace hR := (if_pos c10).symm.trans hR
    refine lv_tableIn (off := 58) (tgt := 62) hx hb dX3_accepts_4 (by rw [c10]; decide) (by rw [c10]; decide) (by rw [c10]; rfl) (by decide) ?_
    refine lv_iload_n hx hb dX3_accepts_62 rfl (lv_at hl 1 rfl) ?_
    refine lv_bipush (v := (33 : Int32)) hx hb dX3_accepts_63 (by decide) ?_
    refine lv_icmp_ne (tgt := 83) hx hb dX3_accepts_65 (by decide) (fun c11 => ?_) (fun c11 => ?_)
    · replace hR := (if_neg c11).symm.trans hR
      refine lv_aload_n hx hb dX3_accepts_83 rfl (lv_at hl 0 rfl) ?_
      refine lv_iload_n hx hb dX3_accepts_84 rfl (lv_at hl 1 rfl) ?_
      obtain ⟨x12, hq12, hR⟩ := kk_bd_el hR
      refine kk_call_Vi (w' := (w_R g a x12.2)) (As := [.int v1]) (rest := []) 0 3 hC (sX3_acceptsNextPart l g n a R v1 x12 hq12) (cwV 1 hts gX3_accepts_X3_acceptsNextPart rfl rfl rfl (by decide +kernel) ⟨Nat.le_of_ble_eq_true rfl, Nat.le_of_ble_eq_true rfl⟩) hK hP hD hS hA [0] rfl (by decide +kernel) rfl rfl rfl rfl rfl rfl rfl hl.1 (Nat.le_of_ble_eq_true rfl) dX3_accepts_85 (fun H locs hP hD hS => ?_)
      obtain ⟨hz13, hR⟩ := kk_cb_el hR
      obtain rfl := Option.some.inj hR
      exact kk_ret_z hC hr hlocks hK hP hD hS dX3_accepts_88 hz13 rfl
    · replace hR := (if_pos c11).symm.trans hR
      refine lv_aload_n hx hb dX3_accepts_68 rfl (lv_at hl 0 rfl) ?_
      refine va_get (ci := 3) (C := RX3) (T := TX3) (N := 4) hx hb hts hw3 hown hK hP 0 rfl rfl 0 (by decide) hl1 (fun _ h9 => h9) rfl dX3_accepts_69 ?_
      refine lv_iconst (v := (1 : Int32)) hx hb dX3_accepts_72 (by decide) ?_
      refine lv_icmp_ne (tgt := 83) hx hb dX3_accepts_73 (by decide) (fun c14 => ?_) (fun c14 => ?_)
      · replace hR := (if_neg c14).symm.trans hR
        refine lv_aload_n hx hb dX3_accepts_83 rfl (lv_at hl 0 rfl) ?_
        refine lv_iload_n hx hb dX3_accepts_84 rfl (lv_at hl 1 rfl) ?_
        obtain ⟨x15, hq15, hR⟩ := kk_bd_el hR
        refine kk_call_Vi (w' := (w_R g a x15.2)) (As := [.int v1]) (rest := []) 0 3 hC (sX3_acceptsNextPart l g n a R v1 x15 hq15) (cwV 1 hts gX3_accepts_X3_acceptsNextPart rfl rfl rfl (by decide +kernel) ⟨Nat.le_of_ble_eq_true rfl, Nat.le_of_ble_eq_true rfl⟩) hK hP hD hS hA [0] rfl (by decide +kernel) rfl rfl rfl rfl rfl rfl rfl hl.1 (Nat.le_of_ble_eq_true rfl) dX3_accepts_85 (fun H locs hP hD hS => ?_)
        obtain ⟨hz16, hR⟩ := kk_cb_el hR
        obtain rfl := Option.some.inj hR
        exact kk_ret_z hC hr hlocks hK hP hD hS dX3_accepts_88 hz16 rfl
      · replace hR := (if_pos c14).symm.trans hR
        refine lv_aload_n hx hb dX3_accepts_76 rfl (lv_at hl 0 rfl) ?_
        refine lv_iconst (v := (4 : Int32)) hx hb dX3_accepts_77 (by decide) ?_
        obtain ⟨R17, eR17, hR⟩ := kk_nm_el hR
        refine kk_put (w' := (w_R g a R17)) (ci := 3) (C := RX3) (T := TX3) (N := 4) (ty := .int) (v := .int (4 : Int32)) hC hw3 tyX3 tyX3_ok nmX3 hK hP hD hS 0 rfl rfl 3 (by decide) hl0 rfl (by decide +kernel) rfl rfl (Nat.le_of_ble_eq_true rfl) (by rw [eR17]; rfl) dX3_accepts_78 rfl (fun H locs hP hD hS => ?_)
        refine lv_iconst (v := (1 : Int32)) hx hb dX3_accepts_81 (by decide) ?_
        obtain rfl := Option.some.inj hR
        exact kk_ret_z hC hr hlocks hK hP hD hS dX3_accepts_82 (by decide) rfl
  replace hR := (if_neg c10).symm.trans hR
  by_cases c19 : (R 3 0) = (4 : Int32)
  · replace hR := (if_pos c19).symm.trans hR
    refine lv_tableIn (off := 85) (tgt := 89) hx hb dX3_accepts_4 (by rw [c19]; decide) (by rw [c19]; decide) (by rw [c19]; rfl) (by decide) ?_
    refine lv_aload_n hx hb dX3_accepts_89 rfl (lv_at hl 0 rfl) ?_
    refine lv_iload_n hx hb dX3_accepts_90 rfl (lv_at hl 1 rfl) ?_
    obtain ⟨x20, hq20, hR⟩ := kk_bd_el hR
    refine kk_call_Vi (w' := (w_R g a x20.2)) (As := [.int v1]) (rest := []) 0 3 hC (sX3_acceptsShied l g n a R v1 x20 hq20) (cwV 1 hts gX3_accepts_X3_acceptsShied rfl rfl rfl (by decide +kernel) ⟨Nat.le_of_ble_eq_true rfl, Nat.le_of_ble_eq_true rfl⟩) hK hP hD hS hA [0] rfl (by decide +kernel) rfl rfl rfl rfl rfl rfl rfl hl.1 (Nat.le_of_ble_eq_true rfl) dX3_accepts_91 (fun H locs hP hD hS => ?_)
    obtain ⟨hz21, hR⟩ := kk_cb_el hR
    obtain rfl := Option.some.inj hR
    exact kk_ret_z hC hr hlocks hK hP hD hS dX3_accepts_94 hz21 rfl
  replace hR := (if_neg c19).symm.trans hR
  have m0 := lv_neT (k := (0 : Int32)) (a := 0) c1 rfl
  have m1 := lv_neT (k := (1 : Int32)) (a := 1) c4 rfl
  have m2 := lv_neT (k := (2 : Int32)) (a := 2) c7 rfl
  have m3 := lv_neT (k := (3 : Int32)) (a := 3) c10 rfl
  have m4 := lv_neT (k := (4 : Int32)) (a := 4) c19 rfl
  refine lv_tableOut (tgt := 95) hx hb dX3_accepts_4 (by omega) (by decide) ?_
  refine lv_aload_n hx hb dX3_accepts_95 rfl (lv_at hl 0 rfl) ?_
  refine lv_iload_n hx hb dX3_accepts_96 rfl (lv_at hl 1 rfl) ?_
  obtain ⟨x22, hq22, hR⟩ := kk_bd_el hR
  refine kk_call_Vi (w' := (w_R g a x22.2)) (As := [.int v1]) (rest := []) 0 3 hC (sX3_acceptsNextPart l g n a R v1 x22 hq22) (cwV 1 hts gX3_accepts_X3_acceptsNextPart rfl rfl rfl (by decide +kernel) ⟨Nat.le_of_ble_eq_true rfl, Nat.le_of_ble_eq_true rfl⟩) hK hP hD hS hA [0] rfl (by decide +kernel) rfl rfl rfl rfl rfl rfl rfl hl.1 (Nat.le_of_ble_eq_true rfl) dX3_accepts_97 (fun H locs hP hD hS => ?_)
  refine lv_if_ne (tgt := 111) hx hb dX3_accepts_100 (by decide) (fun c23 => ?_) (fun c23 => ?_)
  · replace hR := (if_neg c23).symm.trans hR
    refine lv_iconst (v := (1 : Int32)) hx hb dX3_accepts_111 (by decide) ?_
    refine lv_goto (tgt := 116) hx hb dX3_accepts_112 (by decide) ?_
    obtain rfl := Option.some.inj hR
    exact kk_ret_z hC hr hlocks hK hP hD hS dX3_accepts_116 (by decide) rfl
  · replace hR := (if_pos c23).symm.trans hR
    refine lv_aload_n hx hb dX3_accepts_103 rfl (lv_at hl 0 rfl) ?_
    refine lv_iload_n hx hb dX3_accepts_104 rfl (lv_at hl 1 rfl) ?_
    obtain ⟨x25, hq25, hR⟩ := kk_bd_el hR
    refine kk_call_Vi (w' := (w_R g a x25.2)) (As := [.int v1]) (rest := []) 0 3 hC (sX3_acceptsShied l g n a x22.2 v1 x25 hq25) (cwV 1 hts gX3_accepts_X3_acceptsShied rfl rfl rfl (by decide +kernel) ⟨Nat.le_of_ble_eq_true rfl, Nat.le_of_ble_eq_true rfl⟩) hK hP hD hS hA [0] rfl (by decide +kernel) rfl rfl rfl rfl rfl rfl rfl hl.1 (Nat.le_of_ble_eq_true rfl) dX3_accepts_105 (fun H locs hP hD hS => ?_)
    refine lv_if_eq (tgt := 115) hx hb dX3_accepts_108 (by decide) (fun c26 => ?_) (fun c26 => ?_)
    · replace hR := (if_pos c26).symm.trans hR
      refine lv_iconst (v := (0 : Int32)) hx hb dX3_accepts_115 (by decide) ?_
      obtain rfl := Option.some.inj hR
      exact kk_ret_z hC hr hlocks hK hP hD hS dX3_accepts_116 (by decide) rfl
    · replace hR := (if_neg c26).symm.trans hR
      refine lv_iconst (v := (1 : Int32)) hx hb dX3_accepts_111 (by decide) ?_
      refine lv_goto (tgt := 116) hx hb dX3_accepts_112 (by decide) ?_
      obtain rfl := Option.some.inj hR
      exact kk_ret_z hC hr hlocks hK hP hD hS dX3_accepts_116 (by decide) rfl
set_option maxHeartbeats 8000000 in
set_option maxRecDepth 100000 in
theorem sX1_dropOldest (l : Launch) (g : kG) (n : Nat) (x : Nat) (h : Nat → Nat → Nat) (V : St2) (r : St2) (hR : fX1_dropOldest n V = some r) : kSp l g yX1_dropOldest wsX1_dropOldest ({ frames := 0, cells := 0, slots := 0, locals := 0 }) [.ref x] (w_H g x h V) (kQv g (w_H g x h r)) := by
  refine kSp.of (cc := cX1_dropOldest) (maxL := 3) (ret := none) (by decide) rfl (Nat.le_of_ble_eq_true rfl) ?_
  intro p e s m args below meth c ls A hC hr hlocks hA hK hl hP hD hS
  replace hC : CallFix p m c cX1_dropOldest 3 s args wsX1_dropOldest RX1 := hC
  obtain ⟨hx, hb, hml, hown, hts⟩ := id hC
  replace hl : lv_has ls 3 [(0, .ref x)] := hl
  unfold fX1_dropOldest at hR
  have hw1 : ∀ w ∈ wsX10, w ∈ wsX1_dropOldest := by decide +kernel
  have hl0 := hts (.fieldLink RX1 11 "FloatOrder$History" "saved" "[LFloatOrder$Parade;") (by decide +kernel)
  have hl1 := hts (.fieldLink RX1 17 "FloatOrder$History" "size" "I") (by decide +kernel)
  refine lv_aload_n hx hb dX1_dropOldest_0 rfl (lv_at hl 0 rfl) ?_
  refine va_get (ci := 1) (C := RX1) (T := TX1) (N := 2) hx hb hts hw1 hown hK hP 0 rfl rfl 0 (by decide) hl0 (fun _ h9 => h9) rfl dX1_dropOldest_1 ?_
  refine lv_iconst (v := (0 : Int32)) hx hb dX1_dropOldest_4 (by decide) ?_
  obtain ⟨j1, ej1, hR⟩ := kk_nm_el hR
  obtain ⟨hj1, hR⟩ := kk_cj_el hR
  refine kk_aald (b := h (1 + j1) 0) hC hK hP 1 rfl (kk_in 0 6 (by decide) (by decide) rfl) (by subst ej1; rfl) dX1_dropOldest_5 ?_
  refine lv_astore_n (lv' := [(1, .ref (h (1 + j1) 0)), (0, .ref x)]) hx hb dX1_dropOldest_6 rfl hl (by decide) rfl (fun ls hl => ?_)
  refine lv_iconst (v := (1 : Int32)) hx hb dX1_dropOldest_7 (by decide) ?_
  refine lv_istore_n (lv' := [(2, .int (1 : Int32)), (1, .ref (h (1 + j1) 0)), (0, .ref x)]) hx hb dX1_dropOldest_8 rfl hl (by decide) rfl (fun ls hl => ?_)
  obtain ⟨x12, hq12, hR⟩ := kk_bd_el hR
  refine kk_cut (g := g) (A := A) (w' := (w_H g x h x12)) (nL := 3) (lv := [(1, .ref (h (1 + j1) 0)), (0, .ref x)]) (pcJ := 35) (st := []) (fun H locs ls hP hD hS hl => ?_) (fun hj12 => ?_)
  · refine lv_aload_n hx hb dX1_dropOldest_35 rfl (lv_at hl 1 rfl) ?_
    refine va_get (ci := 1) (C := RX1) (T := TX1) (N := 2) hx hb hts hw1 hown hK hP 0 rfl rfl 0 (by decide) hl0 (fun _ h9 => h9) rfl dX1_dropOldest_36 ?_
    refine lv_iconst (v := (5 : Int32)) hx hb dX1_dropOldest_39 (by decide) ?_
    refine lv_aload_n hx hb dX1_dropOldest_40 rfl (lv_at hl 0 rfl) ?_
    obtain ⟨V18, eV18, hR⟩ := kk_nm_el hR
    refine kk_aast hC hK hP hD hS hj1 ej1 (kk_in 5 6 (by decide) (by decide) rfl) eV18 dX1_dropOldest_41 (fun H locs hP hD hS => ?_)
    refine lv_aload_n hx hb dX1_dropOldest_42 rfl (lv_at hl 1 rfl) ?_
    refine lv_dup hx hb dX1_dropOldest_43 rfl ?_
    refine va_get (ci := 1) (C := RX1) (T := TX1) (N := 2) hx hb hts hw1 hown hK hP 0 rfl rfl 1 (by decide) hl1 (fun _ h9 => h9) rfl dX1_dropOldest_44 ?_
    refine lv_iconst (v := (1 : Int32)) hx hb dX1_dropOldest_47 (by decide) ?_
    refine lv_isub hx hb dX1_dropOldest_48 ?_
    obtain ⟨V19, eV19, hR⟩ := kk_nm_el hR
    refine kk_put (w' := (w_H g x h V19)) (ci := 1) (C := RX1) (T := TX1) (N := 2) (ty := .int) (v := .int ((V18 0 0 0) - (1 : Int32))) hC hw1 tyX1 tyX1_ok nmX1 hK hP hD hS 0 rfl rfl 1 (by decide) hl1 rfl (by decide +kernel) rfl rfl (Nat.le_of_ble_eq_true rfl) (by rw [eV19]; rfl) dX1_dropOldest_49 rfl (fun H locs hP hD hS => ?_)
    obtain rfl := Option.some.inj hR
    exact kk_ret_v hC hr hlocks hK hP hD hS dX1_dropOldest_52
  refine kk_loop (g := g) (A := A) (fun (st : Int32 × St2) => (w_H g x h st.2)) (fun (st : Int32 × St2) => [(2, .int st.1), (1, .ref (h (1 + j1) 0)), (0, .ref x)]) 9 (nL := 3) hq12 (fun st xb11 hR ih1 hX1 => ?_) hP hD hS (lv_sub hl [0, 1, 2] rfl)
  clear hP hD hS hl
  obtain ⟨u9, V10⟩ := st
  intro H locs ls hP hD hS hl
  replace hR : fX1_dropOldest_b9 n u9 V10 = some xb11 := hR
  replace hP : va_P g.1 vwCl (w_H g x h V10) H := hP
  replace hD : va_D A (w_H g x h V10) := hD
  replace hl : lv_has ls 3 [(2, .int u9), (1, .ref (h (1 + j1) 0)), (0, .ref x)] := hl
  unfold fX1_dropOldest_b9 at hR
  refine lv_iload_n hx hb dX1_dropOldest_9 rfl (lv_at hl 0 rfl) ?_
  refine lv_bipush (v := (6 : Int32)) hx hb dX1_dropOldest_10 (by decide) ?_
  refine lv_icmp_ge (tgt := 35) hx hb dX1_dropOldest_12 (by decide) (fun c13 => ?_) (fun c13 => ?_)
  · replace hR := (if_pos c13).symm.trans hR
    obtain rfl := Option.some.inj hR
    obtain rfl := hX1 _ rfl
    exact hj12 _ _ _ hP hD hS (lv_sub hl [1, 2] rfl)
  · replace hR := (if_neg c13).symm.trans hR
    refine lv_aload_n hx hb dX1_dropOldest_15 rfl (lv_at hl 2 rfl) ?_
    refine va_get (ci := 1) (C := RX1) (T := TX1) (N := 2) hx hb hts hw1 hown hK hP 0 rfl rfl 0 (by decide) hl0 (fun _ h9 => h9) rfl dX1_dropOldest_16 ?_
    refine lv_iload_n hx hb dX1_dropOldest_19 rfl (lv_at hl 0 rfl) ?_
    refine lv_iconst (v := (1 : Int32)) hx hb dX1_dropOldest_20 (by decide) ?_
    refine lv_isub hx hb dX1_dropOldest_21 ?_
    refine lv_aload_n hx hb dX1_dropOldest_22 rfl (lv_at hl 2 rfl) ?_
    refine va_get (ci := 1) (C := RX1) (T := TX1) (N := 2) hx hb hts hw1 hown hK hP 0 rfl rfl 0 (by decide) hl0 (fun _ h9 => h9) rfl dX1_dropOldest_23 ?_
    refine lv_iload_n hx hb dX1_dropOldest_26 rfl (lv_at hl 0 rfl) ?_
    obtain ⟨hi15, hR⟩ := kk_ck_el hR
    obtain ⟨j14, ej14, hR⟩ := kk_nm_el hR
    obtain ⟨hj14, hR⟩ := kk_cj_el hR
    refine kk_aald (b := h (1 + j14) 0) hC hK hP 1 rfl hi15 (by subst ej14; rfl) dX1_dropOldest_27 ?_
    obtain ⟨hi17, hR⟩ := kk_ck_el hR
    obtain ⟨V16, eV16, hR⟩ := kk_nm_el hR
    refine kk_aast hC hK hP hD hS hj14 ej14 hi17 eV16 dX1_dropOldest_28 (fun H locs hP hD hS => ?_)
    refine lv_iinc (v := (u9 + (1 : Int32))) (lv' := [(2, .int (u9 + (1 : Int32))), (1, .ref (h (1 + j1) 0)), (0, .ref x)]) hx hb dX1_dropOldest_29 hl (k := 0) rfl rfl (by decide) rfl (fun ls hl => ?_)
    refine lv_goto (tgt := 9) hx hb dX1_dropOldest_32 (by decide) ?_
    obtain rfl := Option.some.inj hR
    exact ih1 _ rfl _ _ _ hP hD hS (lv_sub hl [0, 1, 2] rfl)
set_option maxHeartbeats 8000000 in
set_option maxRecDepth 100000 in
theorem sX1_save (l : Launch) (g : kG) (n : Nat) (x : Nat) (h : Nat → Nat → Nat) (a : Nat → Nat) (V : St2) (P : St1) (r : St2) (hR : fX1_save n V P = some r) : kSp l g yX1_save wsX1_save ({ frames := 1, cells := 0, slots := 0, locals := 22 }) [.ref x, .ref (a 0)] (w_H g x h V ++ w_P g a P) (kQv g (w_H g x h r ++ w_P g a P)) := by
  refine kSp.of (cc := cX1_save) (maxL := 2) (ret := none) (by decide) rfl (Nat.le_of_ble_eq_true rfl) ?_
  intro p e s m args below meth c ls A hC hr hlocks hA hK hl hP hD hS
  replace hC : CallFix p m c cX1_save 2 s args wsX1_save RX1 := hC
  obtain ⟨hx, hb, hml, hown, hts⟩ := id hC
  replace hl : lv_has ls 2 [(0, .ref x), (1, .ref (a 0))] := hl
  unfold fX1_save at hR
  have hw1 : ∀ w ∈ wsX10, w ∈ wsX1_save := by decide +kernel
  have hl0 := hts (.fieldLink RX1 17 "FloatOrder$History" "size" "I") (by decide +kernel)
  have hl1 := hts (.fieldLink RX1 11 "FloatOrder$History" "saved" "[LFloatOrder$Parade;") (by decide +kernel)
  refine lv_aload_n hx hb dX1_save_0 rfl (lv_at hl 0 rfl) ?_
  refine va_get (ci := 1) (C := RX1) (T := TX1) (N := 2) hx hb hts hw1 hown hK hP 0 rfl rfl 1 (by decide) hl0 (fun _ h9 => h9) rfl dX1_save_1 ?_
  refine lv_bipush (v := (6 : Int32)) hx hb dX1_save_4 (by decide) ?_
  obtain ⟨x3, hq3, hR⟩ := kk_bd_el hR
  refine kk_cut (g := g) (A := A) (w' := (w_H g x h x3 ++ w_P g a P)) (nL := 2) (lv := [(0, .ref x), (1, .ref (a 0))]) (pcJ := 13) (st := []) (fun H locs ls hP hD hS hl => ?_) (fun hj3 => ?_)
  · refine lv_aload_n hx hb dX1_save_13 rfl (lv_at hl 0 rfl) ?_
    refine va_get (ci := 1) (C := RX1) (T := TX1) (N := 2) hx hb hts hw1 hown hK hP 0 rfl rfl 0 (by decide) hl1 (fun _ h9 => h9) rfl dX1_save_14 ?_
    refine lv_aload_n hx hb dX1_save_17 rfl (lv_at hl 0 rfl) ?_
    refine va_get (ci := 1) (C := RX1) (T := TX1) (N := 2) hx hb hts hw1 hown hK hP 0 rfl rfl 1 (by decide) hl0 (fun _ h9 => h9) rfl dX1_save_18 ?_
    obtain ⟨hi7, hR⟩ := kk_ck_el hR
    obtain ⟨j6, ej6, hR⟩ := kk_nm_el hR
    obtain ⟨hj6, hR⟩ := kk_cj_el hR
    refine kk_aald (b := h (1 + j6) 0) hC hK hP 1 rfl hi7 (by subst ej6; rfl) dX1_save_21 ?_
    refine lv_aload_n hx hb dX1_save_22 rfl (lv_at hl 1 rfl) ?_
    obtain ⟨x8, hq8, hR⟩ := kk_bd_el hR
    obtain ⟨V9, eV9, hR⟩ := kk_nm_el hR
    refine kk_call_Vv (w' := (w_H g x h V9 ++ w_P g a P)) (As := [.ref (a 0)]) (rest := []) (2 + 10 * j6) 2 hC (sX2_copyFrom l g n (h (1 + j6)) a (x3 (1 + j6)) P  x8 hq8) (cwV 1 hts gX1_save_X2_copyFrom rfl rfl rfl (by decide +kernel) ⟨Nat.le_of_ble_eq_true rfl, Nat.le_of_ble_eq_true rfl⟩) hK hP hD hS hA (k_pl 2 j6 ++ [62, 63, 64, 65, 66, 67, 68, 69, 70, 71]) (kk_dC1 hj6) (kk_dn1 hj6) rfl (kk_dw1 hj6 eV9) rfl (kk_hq2 hj6) rfl rfl rfl hl.1 (Nat.le_of_ble_eq_true rfl) dX1_save_23 (fun H locs hP hD hS => ?_)
    refine lv_aload_n hx hb dX1_save_26 rfl (lv_at hl 0 rfl) ?_
    refine lv_dup hx hb dX1_save_27 rfl ?_
    refine va_get (ci := 1) (C := RX1) (T := TX1) (N := 2) hx hb hts hw1 hown hK hP 0 rfl rfl 1 (by decide) hl0 (fun _ h9 => h9) rfl dX1_save_28 ?_
    refine lv_iconst (v := (1 : Int32)) hx hb dX1_save_31 (by decide) ?_
    refine lv_iadd hx hb dX1_save_32 ?_
    obtain ⟨V10, eV10, hR⟩ := kk_nm_el hR
    refine kk_put (w' := (w_H g x h V10 ++ w_P g a P)) (ci := 1) (C := RX1) (T := TX1) (N := 2) (ty := .int) (v := .int ((V9 0 0 0) + (1 : Int32))) hC hw1 tyX1 tyX1_ok nmX1 hK hP hD hS 0 rfl rfl 1 (by decide) hl0 rfl (by decide +kernel) rfl rfl (Nat.le_of_ble_eq_true rfl) (by rw [eV10]; rfl) dX1_save_33 rfl (fun H locs hP hD hS => ?_)
    obtain rfl := Option.some.inj hR
    exact kk_ret_v hC hr hlocks hK hP hD hS dX1_save_36
  replace hR := hq3
  refine lv_icmp_lt (tgt := 13) hx hb dX1_save_6 (by decide) (fun c4 => ?_) (fun c4 => ?_)
  · replace hR := (if_pos c4).symm.trans hR
    obtain rfl := Option.some.inj hR
    exact hj3 _ _ _ hP hD hS (lv_sub hl [0, 1] rfl)
  · replace hR := (if_neg c4).symm.trans hR
    refine lv_aload_n hx hb dX1_save_9 rfl (lv_at hl 0 rfl) ?_
    obtain ⟨x5, hq5, hR⟩ := kk_bd_el hR
    refine kk_call_Vv (w' := (w_H g x h x5 ++ w_P g a P)) (As := []) (rest := []) 0 1 hC (sX1_dropOldest l g n x h V  x5 hq5) (cwV 0 hts gX1_save_X1_dropOldest rfl rfl rfl (by decide +kernel) ⟨Nat.le_of_ble_eq_true rfl, Nat.le_of_ble_eq_true rfl⟩) hK hP hD hS hA [0, 1, 2, 3, 4, 5, 6, 7, 8, 9, 10, 11, 12, 13, 14, 15, 16, 17, 18, 19, 20, 21, 22, 23, 24, 25, 26, 27, 28, 29, 30, 31, 32, 33, 34, 35, 36, 37, 38, 39, 40, 41, 42, 43, 44, 45, 46, 47, 48, 49, 50, 51, 52, 53, 54, 55, 56, 57, 58, 59, 60, 61] (kk_ml 62 rfl (by decide +kernel) (kk_m0 62 (by decide +kernel) rfl)) (by decide +kernel) rfl (kk_sl 62 rfl (by decide +kernel) (kk_s0 62 (by decide +kernel) rfl rfl)) rfl rfl rfl rfl rfl hl.1 (Nat.le_of_ble_eq_true rfl) dX1_save_10 (fun H locs hP hD hS => ?_)
    obtain rfl := Option.some.inj hR
    exact hj3 _ _ _ hP hD hS (lv_sub hl [0, 1] rfl)
set_option maxHeartbeats 8000000 in
set_option maxRecDepth 100000 in
theorem sX1_restoreLatest (l : Launch) (g : kG) (n : Nat) (x : Nat) (h : Nat → Nat → Nat) (a : Nat → Nat) (V : St2) (P : St1) (r : St2 × St1) (hR : fX1_restoreLatest n V P = some r) : kSp l g yX1_restoreLatest wsX1_restoreLatest ({ frames := 1, cells := 0, slots := 0, locals := 22 }) [.ref x, .ref (a 0)] (w_H g x h V ++ w_P g a P) (kQv g (w_H g x h r.1 ++ w_P g a r.2)) := by
  refine kSp.of (cc := cX1_restoreLatest) (maxL := 2) (ret := none) (by decide) rfl (Nat.le_of_ble_eq_true rfl) ?_
  intro p e s m args below meth c ls A hC hr hlocks hA hK hl hP hD hS
  replace hC : CallFix p m c cX1_restoreLatest 2 s args wsX1_restoreLatest RX1 := hC
  obtain ⟨hx, hb, hml, hown, hts⟩ := id hC
  replace hl : lv_has ls 2 [(0, .ref x), (1, .ref (a 0))] := hl
  unfold fX1_restoreLatest at hR
  have hw1 : ∀ w ∈ wsX10, w ∈ wsX1_restoreLatest := by decide +kernel
  have hl0 := hts (.fieldLink RX1 17 "FloatOrder$History" "size" "I") (by decide +kernel)
  have hl1 := hts (.fieldLink RX1 11 "FloatOrder$History" "saved" "[LFloatOrder$Parade;") (by decide +kernel)
  refine lv_aload_n hx hb dX1_restoreLatest_0 rfl (lv_at hl 0 rfl) ?_
  refine va_get (ci := 1) (C := RX1) (T := TX1) (N := 2) hx hb hts hw1 hown hK hP 0 rfl rfl 1 (by decide) hl0 (fun _ h9 => h9) rfl dX1_restoreLatest_1 ?_
  refine lv_if_le (tgt := 30) hx hb dX1_restoreLatest_4 (by decide) (fun c1 => ?_) (fun c1 => ?_)
  · replace hR := (if_pos c1).symm.trans hR
    obtain rfl := Option.some.inj hR
    exact kk_ret_v hC hr hlocks hK hP hD hS dX1_restoreLatest_30
  · replace hR := (if_neg c1).symm.trans hR
    refine lv_aload_n hx hb dX1_restoreLatest_7 rfl (lv_at hl 0 rfl) ?_
    refine lv_dup hx hb dX1_restoreLatest_8 rfl ?_
    refine va_get (ci := 1) (C := RX1) (T := TX1) (N := 2) hx hb hts hw1 hown hK hP 0 rfl rfl 1 (by decide) hl0 (fun _ h9 => h9) rfl dX1_restoreLatest_9 ?_
    refine lv_iconst (v := (1 : Int32)) hx hb dX1_restoreLatest_12 (by decide) ?_
    refine lv_isub hx hb dX1_restoreLatest_13 ?_
    obtain ⟨V2, eV2, hR⟩ := kk_nm_el hR
    refine kk_put (w' := (w_H g x h V2 ++ w_P g a P)) (ci := 1) (C := RX1) (T := TX1) (N := 2) (ty := .int) (v := .int ((V 0 0 0) - (1 : Int32))) hC hw1 tyX1 tyX1_ok nmX1 hK hP hD hS 0 rfl rfl 1 (by decide) hl0 rfl (by decide +kernel) rfl rfl (Nat.le_of_ble_eq_true rfl) (by rw [eV2]; rfl) dX1_restoreLatest_14 rfl (fun H locs hP hD hS => ?_)
    refine lv_aload_n hx hb dX1_restoreLatest_17 rfl (lv_at hl 1 rfl) ?_
    refine lv_aload_n hx hb dX1_restoreLatest_18 rfl (lv_at hl 0 rfl) ?_
    refine va_get (ci := 1) (C := RX1) (T := TX1) (N := 2) hx hb hts hw1 hown hK hP 0 rfl rfl 0 (by decide) hl1 (fun _ h9 => h9) rfl dX1_restoreLatest_19 ?_
    refine lv_aload_n hx hb dX1_restoreLatest_22 rfl (lv_at hl 0 rfl) ?_
    refine va_get (ci := 1) (C := RX1) (T := TX1) (N := 2) hx hb hts hw1 hown hK hP 0 rfl rfl 1 (by decide) hl0 (fun _ h9 => h9) rfl dX1_restoreLatest_23 ?_
    obtain ⟨hi4, hR⟩ := kk_ck_el hR
    obtain ⟨j3, ej3, hR⟩ := kk_nm_el hR
    obtain ⟨hj3, hR⟩ := kk_cj_el hR
    refine kk_aald (b := h (1 + j3) 0) hC hK hP 1 rfl hi4 (by subst ej3; rfl) dX1_restoreLatest_26 ?_
    obtain ⟨x5, hq5, hR⟩ := kk_bd_el hR
    refine kk_call_Vv (w' := (w_H g x h V2 ++ w_P g a x5)) (As := [.ref (h (1 + j3) 0)]) (rest := []) 62 2 hC (sX2_copyFrom l g n a (h (1 + j3)) P (V2 (1 + j3))  x5 hq5) (cwV 1 hts gX1_restoreLatest_X2_copyFrom rfl rfl rfl (by decide +kernel) ⟨Nat.le_of_ble_eq_true rfl, Nat.le_of_ble_eq_true rfl⟩) hK hP hD hS hA ([62, 63, 64, 65, 66, 67, 68, 69, 70, 71] ++ k_pl 2 j3) (kk_dC2 hj3) (kk_dn2 hj3) rfl (kk_dw2 hj3) rfl rfl rfl rfl rfl hl.1 (Nat.le_of_ble_eq_true rfl) dX1_restoreLatest_27 (fun H locs hP hD hS => ?_)
    obtain rfl := Option.some.inj hR
    exact kk_ret_v hC hr hlocks hK hP hD hS dX1_restoreLatest_30