/-! p29: low and cell -/
set_option maxHeartbeats 8000000 in
set_option maxRecDepth 100000 in
theorem sL_low (l : Launch) (g : kG) (v : Int32) (m9 : Nat) (h0 : 0 < m9) (h2 : m9 < 2147483648) : kSp l g yL_low wsL_low ({ frames := 1, cells := 0, slots := 0, locals := 12 }) [.int v, .int (nI m9)] [] (kQe g (fun _ : Unit => []) (fun r _ => r = nI (kLow v m9))) := by
  refine kSp.of (cc := cL_low) (maxL := 2) (ret := some .int) (by decide) rfl (Nat.le_of_ble_eq_true rfl) ?_
  intro p e s m args below meth c ls A hC hr hlocks hA hK hl hP hD hS
  replace hC : CallFix p m c cL_low 2 s args wsL_low RL := hC
  obtain ⟨hx, hb, hml, hown, hts⟩ := id hC
  replace hl : lv_has ls 2 [(0, .int v), (1, .int (nI m9))] := hl
  have hz : ¬ nI m9 = 0 := fun e => by
    rw [kl_0, kl_eq h2 (by omega)] at e
    omega
  refine lv_iload_n hx hb dL_low_0 rfl (lv_at hl 0 rfl) ?_
  refine lv_ldc (v := (2147483647 : Int32)) hx hb hown (hts (.constant RL 7 (2147483647)) (by decide +kernel)) dL_low_1 ?_
  refine lv_iand hx hb dL_low_3 ?_
  refine lv_iload_n hx hb dL_low_4 rfl (lv_at hl 1 rfl) ?_
  refine lv_irem hx hb dL_low_5 hz ?_
  exact ki_ret (wf := fun _ : Unit => []) (post := fun r _ => r = nI (kLow v m9)) () hC hr hlocks hK hP hD hS dL_low_6 (kLow_eq v h0 h2)
set_option maxHeartbeats 8000000 in
set_option maxRecDepth 100000 in
theorem sL_cell (l : Launch) (g : kG) (b L : Nat) (xs : Nat → Int32) (q : Nat) (hq : q ≤ 1000) (hL : L ≤ 260) : kSs l g yL_cell wsL_cell ({ frames := 1, cells := 0, slots := 0, locals := 12 }) [.ref b, .int (nI q)] [] b L xs (kQe g (fun _ : Unit => []) (fun r _ => r = kCell xs L q)) := by
  refine kSs.of (cc := cL_cell) (maxL := 2) (ret := some .int) (by decide) rfl (Nat.le_of_ble_eq_true rfl) ?_
  intro p e s m args below meth c ls A hC hr hlocks hA hK hX hbl hbA hl hP hD hS
  replace hC : CallFix p m c cL_cell 2 s args wsL_cell RL := hC
  obtain ⟨hx, hb, hml, hown, hts⟩ := id hC
  replace hl : lv_has ls 2 [(0, .ref b), (1, .int (nI q))] := hl
  refine lv_iload_n hx hb dL_cell_0 rfl (lv_at hl 1 rfl) ?_
  refine lv_aload_n hx hb dL_cell_1 rfl (lv_at hl 0 rfl) ?_
  refine va_slen hx hb hX hbl hbA hS dL_cell_2 ?_
  refine lv_icmp_ge (tgt := 12) hx hb dL_cell_3 (by decide) (fun c9 => ?_) (fun c9 => ?_)
  · have c9 : nI L ≤ nI q := c9
    rw [kl_le (by omega) (by omega)] at c9
    refine lv_ldc (v := (40503 : Int32)) hx hb hown (hts (.constant RL 8 (40503)) (by decide +kernel)) dL_cell_12 ?_
    refine lv_iload_n hx hb dL_cell_14 rfl (lv_at hl 1 rfl) ?_
    refine lv_imul hx hb dL_cell_15 ?_
    refine lv_sipush (v := (977 : Int32)) hx hb dL_cell_16 (by decide) ?_
    refine lv_iadd hx hb dL_cell_19 ?_
    exact ki_ret (wf := fun _ : Unit => []) (post := fun r _ => r = kCell xs L q) () hC hr hlocks hK hP hD hS dL_cell_20 (by unfold kCell; rw [if_neg (by omega)])
  · have c9 : ¬ nI L ≤ nI q := c9
    rw [kl_le (by omega) (by omega)] at c9
    refine lv_aload_n hx hb dL_cell_6 rfl (lv_at hl 0 rfl) ?_
    refine lv_iload_n hx hb dL_cell_7 rfl (lv_at hl 1 rfl) ?_
    refine va_sld hx hb hX hbl hbA hS (vp_in_nI (by omega) (by omega)) dL_cell_8 ?_
    refine lv_goto (tgt := 20) hx hb dL_cell_9 (by decide) ?_
    exact ki_ret (wf := fun _ : Unit => []) (post := fun r _ => r = kCell xs L q) () hC hr hlocks hK hP hD hS dL_cell_20 (by unfold kCell; rw [if_pos (by omega), nI_clamp (by omega)])
set_option maxHeartbeats 8000000 in
set_option maxRecDepth 100000 in
theorem sL_put (l : Launch) (hst : l.stackTraces = false) (g : kG) (n : Nat) (a h : Nat → Nat → Nat) (G V : St2) (v1 : Int32) (v2 : Int32) (v3 : Int32) (v4 : Int32) (r : Int32 × St2 × St2) (hR : fX4_put n G V v1 v2 v3 v4 = some (.inr r)) : kWr l g yL_put wsL_put ({ frames := 7, cells := 1, slots := 6, locals := 114 }) [.ref (a 0 0), .int v1, .int v2, .int v3, .int v4] (w_F g a G ++ w_H g (a 0 2) h V) (kQe g (fun _ : Unit => (w_F g a r.2.1 ++ w_H g (a 0 2) h r.2.2)) (fun r9 _ => r9 = r.1)) := by
  refine kWr.of (cc := cL_put) (maxL := 6) (hh := [(0, 9, 10, 15)]) (by decide) rfl (Nat.le_of_ble_eq_true rfl) ?_
  intro p e s m args below meth c ls A hC hr hlocks htab hA hK hG hl hP hD hS
  replace hC : CallFix p m c cL_put 6 s args wsL_put RL := hC
  obtain ⟨hx, hb, hml, hown, hts⟩ := id hC
  replace hl : lv_has ls 6 [(0, .ref (a 0 0)), (1, .int v1), (2, .int v2), (3, .int v3), (4, .int v4)] := hl
  refine lv_aload_n hx hb dL_put_0 rfl (lv_at hl 0 rfl) ?_
  refine lv_iload_n hx hb dL_put_1 rfl (lv_at hl 1 rfl) ?_
  refine lv_iload_n hx hb dL_put_2 rfl (lv_at hl 2 rfl) ?_
  refine lv_iload_n hx hb dL_put_3 rfl (lv_at hl 3 rfl) ?_
  refine lv_iload hx hb dL_put_4 (lv_at hl 4 rfl) ?_
  refine kk_call_Vi (w' := (w_F g a r.2.1 ++ w_H g (a 0 2) h r.2.2)) (As := [.int v1, .int v2, .int v3, .int v4]) (rest := []) 0 4 hC (sX4_put l g n a h G V v1 v2 v3 v4 r hR) (cwV 4 hts gL_put_X4_put rfl rfl rfl (by decide +kernel) ⟨Nat.le_of_ble_eq_true rfl, Nat.le_of_ble_eq_true rfl⟩) hK hP hD hS hA (List.range 86) (kk_m0 86 rfl rfl) (by decide +kernel) rfl (kk_s0 86 rfl rfl rfl) rfl rfl rfl rfl rfl hl.1 (Nat.le_of_ble_eq_true rfl) dL_put_6 (fun H locs hP hD hS => ?_)
  exact ka_ret (wf := fun _ : Unit => (w_F g a r.2.1 ++ w_H g (a 0 2) h r.2.2)) (post := fun r9 _ => r9 = r.1) () hC hr hlocks hK hP hD hS (by decide) (by decide) dL_put_9 rfl
set_option maxHeartbeats 8000000 in
set_option maxRecDepth 100000 in
theorem sL_put_t (l : Launch) (hst : l.stackTraces = false) (g : kG) (n : Nat) (a h : Nat → Nat → Nat) (G V : St2) (v1 : Int32) (v2 : Int32) (v3 : Int32) (v4 : Int32) (hR : fX4_put n G V v1 v2 v3 v4 = some (.inl 3)) : kWr l g yL_put wsL_put ({ frames := 7, cells := 1, slots := 6, locals := 114 }) [.ref (a 0 0), .int v1, .int v2, .int v3, .int v4] (w_F g a G ++ w_H g (a 0 2) h V) (kQe g (fun _ : Unit => (w_F g a G ++ w_H g (a 0 2) h V)) (fun r9 _ => r9 = -3)) := by
  refine kWr.of (cc := cL_put) (maxL := 6) (hh := [(0, 9, 10, 15)]) (by decide) rfl (Nat.le_of_ble_eq_true rfl) ?_
  intro p e s m args below meth c ls A hC hr hlocks htab hA hK hG hl hP hD hS
  replace hC : CallFix p m c cL_put 6 s args wsL_put RL := hC
  obtain ⟨hx, hb, hml, hown, hts⟩ := id hC
  replace hl : lv_has ls 6 [(0, .ref (a 0 0)), (1, .int v1), (2, .int v2), (3, .int v3), (4, .int v4)] := hl
  refine lv_aload_n hx hb dL_put_0 rfl (lv_at hl 0 rfl) ?_
  refine lv_iload_n hx hb dL_put_1 rfl (lv_at hl 1 rfl) ?_
  refine lv_iload_n hx hb dL_put_2 rfl (lv_at hl 2 rfl) ?_
  refine lv_iload_n hx hb dL_put_3 rfl (lv_at hl 3 rfl) ?_
  refine lv_iload hx hb dL_put_4 (lv_at hl 4 rfl) ?_
  refine kw_callC (w' := (w_F g a G ++ w_H g (a 0 2) h V)) (As := [.int v1, .int v2, .int v3, .int v4]) (rest := []) 0 4 hC (sX4_put_th l hst g n a h G V v1 v2 v3 v4 3 hR) (cwV 4 hts gL_put_X4_put rfl rfl rfl (by decide +kernel) ⟨Nat.le_of_ble_eq_true rfl, Nat.le_of_ble_eq_true rfl⟩) hK hG hP hD hS hA (List.range 86) (kk_m0 86 rfl rfl) (by decide +kernel) rfl (kk_s0 86 rfl rfl rfl) rfl rfl rfl rfl rfl hl.1 (Nat.le_of_ble_eq_true rfl) dL_put_6 ⟨Nat.le_of_ble_eq_true rfl, Nat.le_of_ble_eq_true rfl⟩ (fun H locs q9 ce hce hcv hcl hP hD hS => ?_)
  refine vx_catch hown [] ⟨0, 9, 10, 15⟩ [] (by rw [htab]; rfl) (fun _ h9 => absurd h9 List.not_mem_nil) (by decide) (by decide) (hts (.classLink RL 15 "java/lang/IllegalStateException") (by decide +kernel)) (va_Nw.use rfl (hG.2.2.2.1 3)) hce hcv hcl ?_
  refine lv_astore (i := 5) (lv' := (5, .ref q9) :: [(0, .ref (a 0 0)), (1, .int v1), (2, .int v2), (3, .int v3), (4, .int v4)]) hx hb dL_put_10 hl (by decide) rfl (fun ls hl => ?_)
  refine lv_bipush (v := (-3 : Int32)) hx hb dL_put_12 (by decide) ?_
  exact ka_ret (wf := fun _ : Unit => (w_F g a G ++ w_H g (a 0 2) h V)) (post := fun r9 _ => r9 = -3) () hC hr hlocks hK hP hD hS (by decide) (by decide) dL_put_14 rfl
set_option maxHeartbeats 8000000 in
set_option maxRecDepth 100000 in
theorem sL_bridge (l : Launch) (hst : l.stackTraces = false) (g : kG) (n : Nat) (a h : Nat → Nat → Nat) (G V : St2) (v1 : Int32) (v2 : Int32) (r : Int32 × St2 × St2) (hR : fX4_bridge n G V v1 v2 = some (.inr r)) : kWr l g yL_bridge wsL_bridge ({ frames := 7, cells := 1, slots := 6, locals := 112 }) [.ref (a 0 0), .int v1, .int v2] (w_F g a G ++ w_H g (a 0 2) h V) (kQe g (fun _ : Unit => (w_F g a r.2.1 ++ w_H g (a 0 2) h r.2.2)) (fun r9 _ => r9 = r.1)) := by
  refine kWr.of (cc := cL_bridge) (maxL := 4) (hh := [(0, 6, 7, 15)]) (by decide) rfl (Nat.le_of_ble_eq_true rfl) ?_
  intro p e s m args below meth c ls A hC hr hlocks htab hA hK hG hl hP hD hS
  replace hC : CallFix p m c cL_bridge 4 s args wsL_bridge RL := hC
  obtain ⟨hx, hb, hml, hown, hts⟩ := id hC
  replace hl : lv_has ls 4 [(0, .ref (a 0 0)), (1, .int v1), (2, .int v2)] := hl
  refine lv_aload_n hx hb dL_bridge_0 rfl (lv_at hl 0 rfl) ?_
  refine lv_iload_n hx hb dL_bridge_1 rfl (lv_at hl 1 rfl) ?_
  refine lv_iload_n hx hb dL_bridge_2 rfl (lv_at hl 2 rfl) ?_
  refine kk_call_Vi (w' := (w_F g a r.2.1 ++ w_H g (a 0 2) h r.2.2)) (As := [.int v1, .int v2]) (rest := []) 0 4 hC (sX4_bridge l g n a h G V v1 v2 r hR) (cwV 2 hts gL_bridge_X4_bridge rfl rfl rfl (by decide +kernel) ⟨Nat.le_of_ble_eq_true rfl, Nat.le_of_ble_eq_true rfl⟩) hK hP hD hS hA (List.range 86) (kk_m0 86 rfl rfl) (by decide +kernel) rfl (kk_s0 86 rfl rfl rfl) rfl rfl rfl rfl rfl hl.1 (Nat.le_of_ble_eq_true rfl) dL_bridge_3 (fun H locs hP hD hS => ?_)
  exact ka_ret (wf := fun _ : Unit => (w_F g a r.2.1 ++ w_H g (a 0 2) h r.2.2)) (post := fun r9 _ => r9 = r.1) () hC hr hlocks hK hP hD hS (by decide) (by decide) dL_bridge_6 rfl
set_option maxHeartbeats 8000000 in
set_option maxRecDepth 100000 in
theorem sL_bridge_t (l : Launch) (hst : l.stackTraces = false) (g : kG) (n : Nat) (a h : Nat → Nat → Nat) (G V : St2) (v1 : Int32) (v2 : Int32) (hR : fX4_bridge n G V v1 v2 = some (.inl 3)) : kWr l g yL_bridge wsL_bridge ({ frames := 7, cells := 1, slots := 6, locals := 112 }) [.ref (a 0 0), .int v1, .int v2] (w_F g a G ++ w_H g (a 0 2) h V) (kQe g (fun _ : Unit => (w_F g a G ++ w_H g (a 0 2) h V)) (fun r9 _ => r9 = -3)) := by
  refine kWr.of (cc := cL_bridge) (maxL := 4) (hh := [(0, 6, 7, 15)]) (by decide) rfl (Nat.le_of_ble_eq_true rfl) ?_
  intro p e s m args below meth c ls A hC hr hlocks htab hA hK hG hl hP hD hS
  replace hC : CallFix p m c cL_bridge 4 s args wsL_bridge RL := hC
  obtain ⟨hx, hb, hml, hown, hts⟩ := id hC
  replace hl : lv_has ls 4 [(0, .ref (a 0 0)), (1, .int v1), (2, .int v2)] := hl
  refine lv_aload_n hx hb dL_bridge_0 rfl (lv_at hl 0 rfl) ?_
  refine lv_iload_n hx hb dL_bridge_1 rfl (lv_at hl 1 rfl) ?_
  refine lv_iload_n hx hb dL_bridge_2 rfl (lv_at hl 2 rfl) ?_
  refine kw_callC (w' := (w_F g a G ++ w_H g (a 0 2) h V)) (As := [.int v1, .int v2]) (rest := []) 0 4 hC (sX4_bridge_th l hst g n a h G V v1 v2 3 hR) (cwV 2 hts gL_bridge_X4_bridge rfl rfl rfl (by decide +kernel) ⟨Nat.le_of_ble_eq_true rfl, Nat.le_of_ble_eq_true rfl⟩) hK hG hP hD hS hA (List.range 86) (kk_m0 86 rfl rfl) (by decide +kernel) rfl (kk_s0 86 rfl rfl rfl) rfl rfl rfl rfl rfl hl.1 (Nat.le_of_ble_eq_true rfl) dL_bridge_3 ⟨Nat.le_of_ble_eq_true rfl, Nat.le_of_ble_eq_true rfl⟩ (fun H locs q9 ce hce hcv hcl hP hD hS => ?_)
  refine vx_catch hown [] ⟨0, 6, 7, 15⟩ [] (by rw [htab]; rfl) (fun _ h9 => absurd h9 List.not_mem_nil) (by decide) (by decide) (hts (.classLink RL 15 "java/lang/IllegalStateException") (by decide +kernel)) (va_Nw.use rfl (hG.2.2.2.1 3)) hce hcv hcl ?_
  refine lv_astore_n (i := 3) (lv' := (3, .ref q9) :: [(0, .ref (a 0 0)), (1, .int v1), (2, .int v2)]) hx hb dL_bridge_7 rfl hl (by decide) rfl (fun ls hl => ?_)
  refine lv_bipush (v := (-3 : Int32)) hx hb dL_bridge_8 (by decide) ?_
  exact ka_ret (wf := fun _ : Unit => (w_F g a G ++ w_H g (a 0 2) h V)) (post := fun r9 _ => r9 = -3) () hC hr hlocks hK hP hD hS (by decide) (by decide) dL_bridge_10 rfl
set_option maxHeartbeats 8000000 in
set_option maxRecDepth 100000 in
theorem sL_undo (l : Launch) (hst : l.stackTraces = false) (g : kG) (n : Nat) (a h : Nat → Nat → Nat) (G V : St2) (r : Int32 × St2 × St2) (hR : fX4_undo n G V = some (.inr r)) : kWr l g yL_undo wsL_undo ({ frames := 7, cells := 1, slots := 6, locals := 110 }) [.ref (a 0 0)] (w_F g a G ++ w_H g (a 0 2) h V) (kQe g (fun _ : Unit => (w_F g a r.2.1 ++ w_H g (a 0 2) h r.2.2)) (fun r9 _ => r9 = r.1)) := by
  refine kWr.of (cc := cL_undo) (maxL := 2) (hh := [(0, 4, 5, 15)]) (by decide) rfl (Nat.le_of_ble_eq_true rfl) ?_
  intro p e s m args below meth c ls A hC hr hlocks htab hA hK hG hl hP hD hS
  replace hC : CallFix p m c cL_undo 2 s args wsL_undo RL := hC
  obtain ⟨hx, hb, hml, hown, hts⟩ := id hC
  replace hl : lv_has ls 2 [(0, .ref (a 0 0))] := hl
  refine lv_aload_n hx hb dL_undo_0 rfl (lv_at hl 0 rfl) ?_
  refine kk_call_Vi (w' := (w_F g a r.2.1 ++ w_H g (a 0 2) h r.2.2)) (As := []) (rest := []) 0 4 hC (sX4_undo l g n a h G V r hR) (cwV 0 hts gL_undo_X4_undo rfl rfl rfl (by decide +kernel) ⟨Nat.le_of_ble_eq_true rfl, Nat.le_of_ble_eq_true rfl⟩) hK hP hD hS hA (List.range 86) (kk_m0 86 rfl rfl) (by decide +kernel) rfl (kk_s0 86 rfl rfl rfl) rfl rfl rfl rfl rfl hl.1 (Nat.le_of_ble_eq_true rfl) dL_undo_1 (fun H locs hP hD hS => ?_)
  exact ka_ret (wf := fun _ : Unit => (w_F g a r.2.1 ++ w_H g (a 0 2) h r.2.2)) (post := fun r9 _ => r9 = r.1) () hC hr hlocks hK hP hD hS (by decide) (by decide) dL_undo_4 rfl
set_option maxHeartbeats 8000000 in
set_option maxRecDepth 100000 in
theorem sL_undo_t (l : Launch) (hst : l.stackTraces = false) (g : kG) (n : Nat) (a h : Nat → Nat → Nat) (G V : St2) (hR : fX4_undo n G V = some (.inl 3)) : kWr l g yL_undo wsL_undo ({ frames := 7, cells := 1, slots := 6, locals := 110 }) [.ref (a 0 0)] (w_F g a G ++ w_H g (a 0 2) h V) (kQe g (fun _ : Unit => (w_F g a G ++ w_H g (a 0 2) h V)) (fun r9 _ => r9 = -3)) := by
  refine kWr.of (cc := cL_undo) (maxL := 2) (hh := [(0, 4, 5, 15)]) (by decide) rfl (Nat.le_of_ble_eq_true rfl) ?_
  intro p e s m args below meth c ls A hC hr hlocks htab hA hK hG hl hP hD hS
  replace hC : CallFix p m c cL_undo 2 s args wsL_undo RL := hC
  obtain ⟨hx, hb, hml, hown, hts⟩ := id hC
  replace hl : lv_has ls 2 [(0, .ref (a 0 0))] := hl
  refine lv_aload_n hx hb dL_undo_0 rfl (lv_at hl 0 rfl) ?_
  refine kw_callC (w' := (w_F g a G ++ w_H g (a 0 2) h V)) (As := []) (rest := []) 0 4 hC (sX4_undo_th l hst g n a h G V 3 hR) (cwV 0 hts gL_undo_X4_undo rfl rfl rfl (by decide +kernel) ⟨Nat.le_of_ble_eq_true rfl, Nat.le_of_ble_eq_true rfl⟩) hK hG hP hD hS hA (List.range 86) (kk_m0 86 rfl rfl) (by decide +kernel) rfl (kk_s0 86 rfl rfl rfl) rfl rfl rfl rfl rfl hl.1 (Nat.le_of_ble_eq_true rfl) dL_undo_1 ⟨Nat.le_of_ble_eq_true rfl, Nat.le_of_ble_eq_true rfl⟩ (fun H locs q9 ce hce hcv hcl hP hD hS => ?_)
  refine vx_catch hown [] ⟨0, 4, 5, 15⟩ [] (by rw [htab]; rfl) (fun _ h9 => absurd h9 List.not_mem_nil) (by decide) (by decide) (hts (.classLink RL 15 "java/lang/IllegalStateException") (by decide +kernel)) (va_Nw.use rfl (hG.2.2.2.1 3)) hce hcv hcl ?_
  refine lv_astore_n (i := 1) (lv' := (1, .ref q9) :: [(0, .ref (a 0 0))]) hx hb dL_undo_5 rfl hl (by decide) rfl (fun ls hl => ?_)
  refine lv_bipush (v := (-3 : Int32)) hx hb dL_undo_6 (by decide) ?_
  exact ka_ret (wf := fun _ : Unit => (w_F g a G ++ w_H g (a 0 2) h V)) (post := fun r9 _ => r9 = -3) () hC hr hlocks hK hP hD hS (by decide) (by decide) dL_undo_8 rfl
