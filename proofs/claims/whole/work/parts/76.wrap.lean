/-! the law's wrappers -/
theorem kn_lasts {α : Type} {L : List α} {x y : α} {n : Nat} (h : L.length = n) : (L ++ [x]).set n y = L ++ [y] := by
  have := kn_last (T := []) (x := x) (y := y) h
  simpa using this
set_option maxHeartbeats 8000000 in
set_option maxRecDepth 100000 in
theorem sL_put (l : Launch) (hst : l.stackTraces = false) (g : kG) (cL : ClassId) (n : Nat) (a : Nat → Nat → Nat) (h : Nat → Nat → Nat) (G : St2) (V : St2) (o : Nat) (f : Nat → Int64) (v1 : Int32) (v2 : Int32) (v3 : Int32) (v4 : Int32) (r : Int32 × St2 × St2) (hR : fX4_put n G V v1 v2 v3 v4 = some (.inr r)) : kWr l g cL yL_put wsL_put ({ frames := 7, cells := 1, slots := 6, locals := 114 }) [.ref (a 0 0), .int v1, .int v2, .int v3, .int v4, .ref o] (w_F g a G ++ w_H g (a 0 2) h V ++ [(o, .inl (cL, 1, .inr (.inl f)))]) (w_F g a r.2.1 ++ w_H g (a 0 2) h r.2.2 ++ [(o, .inl (cL, 1, .inr (.inl (vp_updL f (0 : Int32).toNatClampNeg r.1.toInt64))))]) 0 := by
  refine kWr.of (cc := cL_put) (maxL := 7) (hh := [(0, 14, 17, 13), (0, 14, 21, 15), (0, 14, 25, 17)]) (by decide) rfl (Nat.le_of_ble_eq_true rfl) ?_
  intro p e s m args below meth c ls A hC hr hlocks htab hA hK4 hG hNx hl hP hD hS
  replace hC : CallFix p m c cL_put 7 s args wsL_put RL := hC
  obtain ⟨hx, hb, hml, hown, hts⟩ := id hC
  have hK := kT4_sub hK4
  replace hl : lv_has ls 7 [(0, .ref (a 0 0)), (1, .int v1), (2, .int v2), (3, .int v3), (4, .int v4), (5, .ref o)] := hl
  refine lv_aload hx hb dL_put_0 (lv_at hl 5 rfl) ?_
  refine lv_iconst (v := (0 : Int32)) hx hb dL_put_2 (by decide) ?_
  refine lv_aload_n hx hb dL_put_3 rfl (lv_at hl 0 rfl) ?_
  refine lv_iload_n hx hb dL_put_4 rfl (lv_at hl 1 rfl) ?_
  refine lv_iload_n hx hb dL_put_5 rfl (lv_at hl 2 rfl) ?_
  refine lv_iload_n hx hb dL_put_6 rfl (lv_at hl 3 rfl) ?_
  refine lv_iload hx hb dL_put_7 (lv_at hl 4 rfl) ?_
  refine kk_call_Vi (w' := w_F g a r.2.1 ++ w_H g (a 0 2) h r.2.2 ++ [(o, .inl (cL, 1, .inr (.inl f)))]) (As := [.int v1, .int v2, .int v3, .int v4]) (rest := [.int (0 : Int32), .ref o]) 0 4 hC (sX4_put l g n a h G V v1 v2 v3 v4 r hR) (cwV 4 hts gL_put_X4_put rfl rfl rfl (by decide +kernel) ⟨Nat.le_of_ble_eq_true rfl, Nat.le_of_ble_eq_true rfl⟩) hK hP hD hS hA (List.range 86) (kk_ml 86 rfl (by decide +kernel) (kk_m0 86 rfl rfl)) (by decide +kernel) rfl (kk_sl 86 rfl (by decide +kernel) (kk_s0 86 rfl rfl rfl)) rfl rfl rfl rfl rfl hl.1 (Nat.le_of_ble_eq_true rfl) dL_put_9 (fun H locs hP hD hS => ?_)
  refine lv_i2l (v := r.1.toInt64) hx hb dL_put_12 rfl ?_
  refine va_last hx hb hK4 hP hD hS 86 3 (kn_lastg rfl) rfl (kk_in 0 1 (by decide) (by decide) rfl) dL_put_13 (fun H locs hP hD hS => ?_)
  rw [kn_lasts (L := w_F g a r.2.1 ++ w_H g (a 0 2) h r.2.2) (n := 86) rfl] at hP hD
  refine lv_goto (tgt := 29) hx hb dL_put_14 (by decide) ?_
  refine lv_iconst (v := (0 : Int32)) hx hb dL_put_29 (by decide) ?_
  exact kw_ret hC hr hlocks hK4 hP hD hS (by decide) (by decide) dL_put_30 rfl
set_option maxHeartbeats 8000000 in
set_option maxRecDepth 100000 in
theorem sL_put_t1 (l : Launch) (hst : l.stackTraces = false) (g : kG) (cL : ClassId) (n : Nat) (a : Nat → Nat → Nat) (h : Nat → Nat → Nat) (G : St2) (V : St2) (o : Nat) (f : Nat → Int64) (v1 : Int32) (v2 : Int32) (v3 : Int32) (v4 : Int32) (hR : fX4_put n G V v1 v2 v3 v4 = some (.inl 1)) : kWr l g cL yL_put wsL_put ({ frames := 7, cells := 1, slots := 6, locals := 114 }) [.ref (a 0 0), .int v1, .int v2, .int v3, .int v4, .ref o] (w_F g a G ++ w_H g (a 0 2) h V ++ [(o, .inl (cL, 1, .inr (.inl f)))]) (w_F g a G ++ w_H g (a 0 2) h V ++ [(o, .inl (cL, 1, .inr (.inl f)))]) 1 := by
  refine kWr.of (cc := cL_put) (maxL := 7) (hh := [(0, 14, 17, 13), (0, 14, 21, 15), (0, 14, 25, 17)]) (by decide) rfl (Nat.le_of_ble_eq_true rfl) ?_
  intro p e s m args below meth c ls A hC hr hlocks htab hA hK4 hG hNx hl hP hD hS
  replace hC : CallFix p m c cL_put 7 s args wsL_put RL := hC
  obtain ⟨hx, hb, hml, hown, hts⟩ := id hC
  have hK := kT4_sub hK4
  replace hl : lv_has ls 7 [(0, .ref (a 0 0)), (1, .int v1), (2, .int v2), (3, .int v3), (4, .int v4), (5, .ref o)] := hl
  refine lv_aload hx hb dL_put_0 (lv_at hl 5 rfl) ?_
  refine lv_iconst (v := (0 : Int32)) hx hb dL_put_2 (by decide) ?_
  refine lv_aload_n hx hb dL_put_3 rfl (lv_at hl 0 rfl) ?_
  refine lv_iload_n hx hb dL_put_4 rfl (lv_at hl 1 rfl) ?_
  refine lv_iload_n hx hb dL_put_5 rfl (lv_at hl 2 rfl) ?_
  refine lv_iload_n hx hb dL_put_6 rfl (lv_at hl 3 rfl) ?_
  refine lv_iload hx hb dL_put_7 (lv_at hl 4 rfl) ?_
  refine kw_callC (w' := w_F g a G ++ w_H g (a 0 2) h V ++ [(o, .inl (cL, 1, .inr (.inl f)))]) (As := [.int v1, .int v2, .int v3, .int v4]) (rest := [.int (0 : Int32), .ref o]) 0 4 hC (sX4_put_th l hst g n a h G V v1 v2 v3 v4 1 hR) (cwV 4 hts gL_put_X4_put rfl rfl rfl (by decide +kernel) ⟨Nat.le_of_ble_eq_true rfl, Nat.le_of_ble_eq_true rfl⟩) hK hG hP hD hS hA (List.range 86) (kk_ml 86 rfl (by decide +kernel) (kk_m0 86 rfl rfl)) (by decide +kernel) rfl (kk_sl 86 rfl (by decide +kernel) (kk_s0 86 rfl rfl rfl)) rfl rfl rfl rfl rfl hl.1 (Nat.le_of_ble_eq_true rfl) dL_put_9 ⟨Nat.le_of_ble_eq_true rfl, Nat.le_of_ble_eq_true rfl⟩ (fun H locs q9 ce hce hcv hcl hP hD hS => ?_)
  refine vx_catch hown [] ⟨0, 14, 17, 13⟩ [⟨0, 14, 21, 15⟩, ⟨0, 14, 25, 17⟩] (by rw [htab]; rfl) (fun _ h9 => absurd h9 List.not_mem_nil) (by decide) (by decide) (hts (.classLink RL 13 "java/lang/IndexOutOfBoundsException") (by decide +kernel)) (va_Nw.use rfl (hG.2.2.2.1 1)) hce hcv hcl ?_
  refine lv_astore (i := 6) (lv' := (6, .ref q9) :: [(0, .ref (a 0 0)), (1, .int v1), (2, .int v2), (3, .int v3), (4, .int v4), (5, .ref o)]) hx hb dL_put_17 hl (by decide) rfl (fun ls hl => ?_)
  refine lv_iconst (v := (1 : Int32)) hx hb dL_put_19 (by decide) ?_
  exact kw_ret hC hr hlocks hK4 hP hD hS (by decide) (by decide) dL_put_20 rfl
set_option maxHeartbeats 8000000 in
set_option maxRecDepth 100000 in
theorem sL_put_t2 (l : Launch) (hst : l.stackTraces = false) (g : kG) (cL : ClassId) (n : Nat) (a : Nat → Nat → Nat) (h : Nat → Nat → Nat) (G : St2) (V : St2) (o : Nat) (f : Nat → Int64) (v1 : Int32) (v2 : Int32) (v3 : Int32) (v4 : Int32) (hR : fX4_put n G V v1 v2 v3 v4 = some (.inl 2)) : kWr l g cL yL_put wsL_put ({ frames := 7, cells := 1, slots := 6, locals := 114 }) [.ref (a 0 0), .int v1, .int v2, .int v3, .int v4, .ref o] (w_F g a G ++ w_H g (a 0 2) h V ++ [(o, .inl (cL, 1, .inr (.inl f)))]) (w_F g a G ++ w_H g (a 0 2) h V ++ [(o, .inl (cL, 1, .inr (.inl f)))]) 2 := by
  refine kWr.of (cc := cL_put) (maxL := 7) (hh := [(0, 14, 17, 13), (0, 14, 21, 15), (0, 14, 25, 17)]) (by decide) rfl (Nat.le_of_ble_eq_true rfl) ?_
  intro p e s m args below meth c ls A hC hr hlocks htab hA hK4 hG hNx hl hP hD hS
  replace hC : CallFix p m c cL_put 7 s args wsL_put RL := hC
  obtain ⟨hx, hb, hml, hown, hts⟩ := id hC
  have hK := kT4_sub hK4
  replace hl : lv_has ls 7 [(0, .ref (a 0 0)), (1, .int v1), (2, .int v2), (3, .int v3), (4, .int v4), (5, .ref o)] := hl
  refine lv_aload hx hb dL_put_0 (lv_at hl 5 rfl) ?_
  refine lv_iconst (v := (0 : Int32)) hx hb dL_put_2 (by decide) ?_
  refine lv_aload_n hx hb dL_put_3 rfl (lv_at hl 0 rfl) ?_
  refine lv_iload_n hx hb dL_put_4 rfl (lv_at hl 1 rfl) ?_
  refine lv_iload_n hx hb dL_put_5 rfl (lv_at hl 2 rfl) ?_
  refine lv_iload_n hx hb dL_put_6 rfl (lv_at hl 3 rfl) ?_
  refine lv_iload hx hb dL_put_7 (lv_at hl 4 rfl) ?_
  refine kw_callC (w' := w_F g a G ++ w_H g (a 0 2) h V ++ [(o, .inl (cL, 1, .inr (.inl f)))]) (As := [.int v1, .int v2, .int v3, .int v4]) (rest := [.int (0 : Int32), .ref o]) 0 4 hC (sX4_put_th l hst g n a h G V v1 v2 v3 v4 2 hR) (cwV 4 hts gL_put_X4_put rfl rfl rfl (by decide +kernel) ⟨Nat.le_of_ble_eq_true rfl, Nat.le_of_ble_eq_true rfl⟩) hK hG hP hD hS hA (List.range 86) (kk_ml 86 rfl (by decide +kernel) (kk_m0 86 rfl rfl)) (by decide +kernel) rfl (kk_sl 86 rfl (by decide +kernel) (kk_s0 86 rfl rfl rfl)) rfl rfl rfl rfl rfl hl.1 (Nat.le_of_ble_eq_true rfl) dL_put_9 ⟨Nat.le_of_ble_eq_true rfl, Nat.le_of_ble_eq_true rfl⟩ (fun H locs q9 ce hce hcv hcl hP hD hS => ?_)
  refine vx_catch hown [⟨0, 14, 17, 13⟩] ⟨0, 14, 21, 15⟩ [⟨0, 14, 25, 17⟩] (by rw [htab]; rfl) (List.forall_mem_cons.mpr ⟨.inr ⟨by decide, _, hts (.classLink RL 13 "java/lang/IndexOutOfBoundsException") (by decide +kernel), hNx.1⟩, fun _ h9 => absurd h9 List.not_mem_nil⟩) (by decide) (by decide) (hts (.classLink RL 15 "java/lang/IllegalArgumentException") (by decide +kernel)) (va_Nw.use rfl (hG.2.2.2.1 2)) hce hcv hcl ?_
  refine lv_astore (i := 6) (lv' := (6, .ref q9) :: [(0, .ref (a 0 0)), (1, .int v1), (2, .int v2), (3, .int v3), (4, .int v4), (5, .ref o)]) hx hb dL_put_21 hl (by decide) rfl (fun ls hl => ?_)
  refine lv_iconst (v := (2 : Int32)) hx hb dL_put_23 (by decide) ?_
  exact kw_ret hC hr hlocks hK4 hP hD hS (by decide) (by decide) dL_put_24 rfl
set_option maxHeartbeats 8000000 in
set_option maxRecDepth 100000 in
theorem sL_put_t3 (l : Launch) (hst : l.stackTraces = false) (g : kG) (cL : ClassId) (n : Nat) (a : Nat → Nat → Nat) (h : Nat → Nat → Nat) (G : St2) (V : St2) (o : Nat) (f : Nat → Int64) (v1 : Int32) (v2 : Int32) (v3 : Int32) (v4 : Int32) (hR : fX4_put n G V v1 v2 v3 v4 = some (.inl 3)) : kWr l g cL yL_put wsL_put ({ frames := 7, cells := 1, slots := 6, locals := 114 }) [.ref (a 0 0), .int v1, .int v2, .int v3, .int v4, .ref o] (w_F g a G ++ w_H g (a 0 2) h V ++ [(o, .inl (cL, 1, .inr (.inl f)))]) (w_F g a G ++ w_H g (a 0 2) h V ++ [(o, .inl (cL, 1, .inr (.inl f)))]) 3 := by
  refine kWr.of (cc := cL_put) (maxL := 7) (hh := [(0, 14, 17, 13), (0, 14, 21, 15), (0, 14, 25, 17)]) (by decide) rfl (Nat.le_of_ble_eq_true rfl) ?_
  intro p e s m args below meth c ls A hC hr hlocks htab hA hK4 hG hNx hl hP hD hS
  replace hC : CallFix p m c cL_put 7 s args wsL_put RL := hC
  obtain ⟨hx, hb, hml, hown, hts⟩ := id hC
  have hK := kT4_sub hK4
  replace hl : lv_has ls 7 [(0, .ref (a 0 0)), (1, .int v1), (2, .int v2), (3, .int v3), (4, .int v4), (5, .ref o)] := hl
  refine lv_aload hx hb dL_put_0 (lv_at hl 5 rfl) ?_
  refine lv_iconst (v := (0 : Int32)) hx hb dL_put_2 (by decide) ?_
  refine lv_aload_n hx hb dL_put_3 rfl (lv_at hl 0 rfl) ?_
  refine lv_iload_n hx hb dL_put_4 rfl (lv_at hl 1 rfl) ?_
  refine lv_iload_n hx hb dL_put_5 rfl (lv_at hl 2 rfl) ?_
  refine lv_iload_n hx hb dL_put_6 rfl (lv_at hl 3 rfl) ?_
  refine lv_iload hx hb dL_put_7 (lv_at hl 4 rfl) ?_
  refine kw_callC (w' := w_F g a G ++ w_H g (a 0 2) h V ++ [(o, .inl (cL, 1, .inr (.inl f)))]) (As := [.int v1, .int v2, .int v3, .int v4]) (rest := [.int (0 : Int32), .ref o]) 0 4 hC (sX4_put_th l hst g n a h G V v1 v2 v3 v4 3 hR) (cwV 4 hts gL_put_X4_put rfl rfl rfl (by decide +kernel) ⟨Nat.le_of_ble_eq_true rfl, Nat.le_of_ble_eq_true rfl⟩) hK hG hP hD hS hA (List.range 86) (kk_ml 86 rfl (by decide +kernel) (kk_m0 86 rfl rfl)) (by decide +kernel) rfl (kk_sl 86 rfl (by decide +kernel) (kk_s0 86 rfl rfl rfl)) rfl rfl rfl rfl rfl hl.1 (Nat.le_of_ble_eq_true rfl) dL_put_9 ⟨Nat.le_of_ble_eq_true rfl, Nat.le_of_ble_eq_true rfl⟩ (fun H locs q9 ce hce hcv hcl hP hD hS => ?_)
  refine vx_catch hown [⟨0, 14, 17, 13⟩, ⟨0, 14, 21, 15⟩] ⟨0, 14, 25, 17⟩ [] (by rw [htab]; rfl) (List.forall_mem_cons.mpr ⟨.inr ⟨by decide, _, hts (.classLink RL 13 "java/lang/IndexOutOfBoundsException") (by decide +kernel), hNx.2.1⟩, List.forall_mem_cons.mpr ⟨.inr ⟨by decide, _, hts (.classLink RL 15 "java/lang/IllegalArgumentException") (by decide +kernel), hNx.2.2⟩, fun _ h9 => absurd h9 List.not_mem_nil⟩⟩) (by decide) (by decide) (hts (.classLink RL 17 "java/lang/IllegalStateException") (by decide +kernel)) (va_Nw.use rfl (hG.2.2.2.1 3)) hce hcv hcl ?_
  refine lv_astore (i := 6) (lv' := (6, .ref q9) :: [(0, .ref (a 0 0)), (1, .int v1), (2, .int v2), (3, .int v3), (4, .int v4), (5, .ref o)]) hx hb dL_put_25 hl (by decide) rfl (fun ls hl => ?_)
  refine lv_iconst (v := (3 : Int32)) hx hb dL_put_27 (by decide) ?_
  exact kw_ret hC hr hlocks hK4 hP hD hS (by decide) (by decide) dL_put_28 rfl
set_option maxHeartbeats 8000000 in
set_option maxRecDepth 100000 in
theorem sL_remove (l : Launch) (hst : l.stackTraces = false) (g : kG) (cL : ClassId) (n : Nat) (a : Nat → Nat → Nat) (h : Nat → Nat → Nat) (G : St2) (V : St2) (o : Nat) (f : Nat → Int64) (v1 : Int32) (r : Int32 × St2 × St2) (hR : fX4_remove n G V v1 = some (.inr r)) : kWr l g cL yL_remove wsL_remove ({ frames := 8, cells := 1, slots := 6, locals := 132 }) [.ref (a 0 0), .int v1, .ref o] (w_F g a G ++ w_H g (a 0 2) h V ++ [(o, .inl (cL, 1, .inr (.inl f)))]) (w_F g a r.2.1 ++ w_H g (a 0 2) h r.2.2 ++ [(o, .inl (cL, 1, .inr (.inl (vp_updL f (0 : Int32).toNatClampNeg r.1.toInt64))))]) 0 := by
  refine kWr.of (cc := cL_remove) (maxL := 4) (hh := [(0, 9, 12, 13)]) (by decide) rfl (Nat.le_of_ble_eq_true rfl) ?_
  intro p e s m args below meth c ls A hC hr hlocks htab hA hK4 hG hNx hl hP hD hS
  replace hC : CallFix p m c cL_remove 4 s args wsL_remove RL := hC
  obtain ⟨hx, hb, hml, hown, hts⟩ := id hC
  have hK := kT4_sub hK4
  replace hl : lv_has ls 4 [(0, .ref (a 0 0)), (1, .int v1), (2, .ref o)] := hl
  refine lv_aload_n hx hb dL_remove_0 rfl (lv_at hl 2 rfl) ?_
  refine lv_iconst (v := (0 : Int32)) hx hb dL_remove_1 (by decide) ?_
  refine lv_aload_n hx hb dL_remove_2 rfl (lv_at hl 0 rfl) ?_
  refine lv_iload_n hx hb dL_remove_3 rfl (lv_at hl 1 rfl) ?_
  refine kk_call_Vi (w' := w_F g a r.2.1 ++ w_H g (a 0 2) h r.2.2 ++ [(o, .inl (cL, 1, .inr (.inl f)))]) (As := [.int v1]) (rest := [.int (0 : Int32), .ref o]) 0 4 hC (sX4_remove l g n a h G V v1 r hR) (cwV 1 hts gL_remove_X4_remove rfl rfl rfl (by decide +kernel) ⟨Nat.le_of_ble_eq_true rfl, Nat.le_of_ble_eq_true rfl⟩) hK hP hD hS hA (List.range 86) (kk_ml 86 rfl (by decide +kernel) (kk_m0 86 rfl rfl)) (by decide +kernel) rfl (kk_sl 86 rfl (by decide +kernel) (kk_s0 86 rfl rfl rfl)) rfl rfl rfl rfl rfl hl.1 (Nat.le_of_ble_eq_true rfl) dL_remove_4 (fun H locs hP hD hS => ?_)
  refine lv_i2l (v := r.1.toInt64) hx hb dL_remove_7 rfl ?_
  refine va_last hx hb hK4 hP hD hS 86 3 (kn_lastg rfl) rfl (kk_in 0 1 (by decide) (by decide) rfl) dL_remove_8 (fun H locs hP hD hS => ?_)
  rw [kn_lasts (L := w_F g a r.2.1 ++ w_H g (a 0 2) h r.2.2) (n := 86) rfl] at hP hD
  refine lv_goto (tgt := 15) hx hb dL_remove_9 (by decide) ?_
  refine lv_iconst (v := (0 : Int32)) hx hb dL_remove_15 (by decide) ?_
  exact kw_ret hC hr hlocks hK4 hP hD hS (by decide) (by decide) dL_remove_16 rfl
set_option maxHeartbeats 8000000 in
set_option maxRecDepth 100000 in
theorem sL_remove_t1 (l : Launch) (hst : l.stackTraces = false) (g : kG) (cL : ClassId) (n : Nat) (a : Nat → Nat → Nat) (h : Nat → Nat → Nat) (G : St2) (V : St2) (o : Nat) (f : Nat → Int64) (v1 : Int32) (hR : fX4_remove n G V v1 = some (.inl 1)) : kWr l g cL yL_remove wsL_remove ({ frames := 8, cells := 1, slots := 6, locals := 132 }) [.ref (a 0 0), .int v1, .ref o] (w_F g a G ++ w_H g (a 0 2) h V ++ [(o, .inl (cL, 1, .inr (.inl f)))]) (w_F g a G ++ w_H g (a 0 2) h V ++ [(o, .inl (cL, 1, .inr (.inl f)))]) 1 := by
  refine kWr.of (cc := cL_remove) (maxL := 4) (hh := [(0, 9, 12, 13)]) (by decide) rfl (Nat.le_of_ble_eq_true rfl) ?_
  intro p e s m args below meth c ls A hC hr hlocks htab hA hK4 hG hNx hl hP hD hS
  replace hC : CallFix p m c cL_remove 4 s args wsL_remove RL := hC
  obtain ⟨hx, hb, hml, hown, hts⟩ := id hC
  have hK := kT4_sub hK4
  replace hl : lv_has ls 4 [(0, .ref (a 0 0)), (1, .int v1), (2, .ref o)] := hl
  refine lv_aload_n hx hb dL_remove_0 rfl (lv_at hl 2 rfl) ?_
  refine lv_iconst (v := (0 : Int32)) hx hb dL_remove_1 (by decide) ?_
  refine lv_aload_n hx hb dL_remove_2 rfl (lv_at hl 0 rfl) ?_
  refine lv_iload_n hx hb dL_remove_3 rfl (lv_at hl 1 rfl) ?_
  refine kw_callC (w' := w_F g a G ++ w_H g (a 0 2) h V ++ [(o, .inl (cL, 1, .inr (.inl f)))]) (As := [.int v1]) (rest := [.int (0 : Int32), .ref o]) 0 4 hC (sX4_remove_th l hst g n a h G V v1 1 hR) (cwV 1 hts gL_remove_X4_remove rfl rfl rfl (by decide +kernel) ⟨Nat.le_of_ble_eq_true rfl, Nat.le_of_ble_eq_true rfl⟩) hK hG hP hD hS hA (List.range 86) (kk_ml 86 rfl (by decide +kernel) (kk_m0 86 rfl rfl)) (by decide +kernel) rfl (kk_sl 86 rfl (by decide +kernel) (kk_s0 86 rfl rfl rfl)) rfl rfl rfl rfl rfl hl.1 (Nat.le_of_ble_eq_true rfl) dL_remove_4 ⟨Nat.le_of_ble_eq_true rfl, Nat.le_of_ble_eq_true rfl⟩ (fun H locs q9 ce hce hcv hcl hP hD hS => ?_)
  refine vx_catch hown [] ⟨0, 9, 12, 13⟩ [] (by rw [htab]; rfl) (fun _ h9 => absurd h9 List.not_mem_nil) (by decide) (by decide) (hts (.classLink RL 13 "java/lang/IndexOutOfBoundsException") (by decide +kernel)) (va_Nw.use rfl (hG.2.2.2.1 1)) hce hcv hcl ?_
  refine lv_astore_n (i := 3) (lv' := (3, .ref q9) :: [(0, .ref (a 0 0)), (1, .int v1), (2, .ref o)]) hx hb dL_remove_12 rfl hl (by decide) rfl (fun ls hl => ?_)
  refine lv_iconst (v := (1 : Int32)) hx hb dL_remove_13 (by decide) ?_
  exact kw_ret hC hr hlocks hK4 hP hD hS (by decide) (by decide) dL_remove_14 rfl
set_option maxHeartbeats 8000000 in
set_option maxRecDepth 100000 in
theorem sL_move (l : Launch) (hst : l.stackTraces = false) (g : kG) (cL : ClassId) (n : Nat) (a : Nat → Nat → Nat) (h : Nat → Nat → Nat) (G : St2) (V : St2) (o : Nat) (f : Nat → Int64) (v1 : Int32) (v2 : Int32) (r : Int32 × St2 × St2) (hR : fX4_move n G V v1 v2 = some (.inr r)) : kWr l g cL yL_move wsL_move ({ frames := 8, cells := 1, slots := 6, locals := 133 }) [.ref (a 0 0), .int v1, .int v2, .ref o] (w_F g a G ++ w_H g (a 0 2) h V ++ [(o, .inl (cL, 1, .inr (.inl f)))]) (w_F g a r.2.1 ++ w_H g (a 0 2) h r.2.2 ++ [(o, .inl (cL, 1, .inr (.inl (vp_updL f (0 : Int32).toNatClampNeg r.1.toInt64))))]) 0 := by
  refine kWr.of (cc := cL_move) (maxL := 5) (hh := [(0, 10, 13, 13)]) (by decide) rfl (Nat.le_of_ble_eq_true rfl) ?_
  intro p e s m args below meth c ls A hC hr hlocks htab hA hK4 hG hNx hl hP hD hS
  replace hC : CallFix p m c cL_move 5 s args wsL_move RL := hC
  obtain ⟨hx, hb, hml, hown, hts⟩ := id hC
  have hK := kT4_sub hK4
  replace hl : lv_has ls 5 [(0, .ref (a 0 0)), (1, .int v1), (2, .int v2), (3, .ref o)] := hl
  refine lv_aload_n hx hb dL_move_0 rfl (lv_at hl 3 rfl) ?_
  refine lv_iconst (v := (0 : Int32)) hx hb dL_move_1 (by decide) ?_
  refine lv_aload_n hx hb dL_move_2 rfl (lv_at hl 0 rfl) ?_
  refine lv_iload_n hx hb dL_move_3 rfl (lv_at hl 1 rfl) ?_
  refine lv_iload_n hx hb dL_move_4 rfl (lv_at hl 2 rfl) ?_
  refine kk_call_Vi (w' := w_F g a r.2.1 ++ w_H g (a 0 2) h r.2.2 ++ [(o, .inl (cL, 1, .inr (.inl f)))]) (As := [.int v1, .int v2]) (rest := [.int (0 : Int32), .ref o]) 0 4 hC (sX4_move l g n a h G V v1 v2 r hR) (cwV 2 hts gL_move_X4_move rfl rfl rfl (by decide +kernel) ⟨Nat.le_of_ble_eq_true rfl, Nat.le_of_ble_eq_true rfl⟩) hK hP hD hS hA (List.range 86) (kk_ml 86 rfl (by decide +kernel) (kk_m0 86 rfl rfl)) (by decide +kernel) rfl (kk_sl 86 rfl (by decide +kernel) (kk_s0 86 rfl rfl rfl)) rfl rfl rfl rfl rfl hl.1 (Nat.le_of_ble_eq_true rfl) dL_move_5 (fun H locs hP hD hS => ?_)
  refine lv_i2l (v := r.1.toInt64) hx hb dL_move_8 rfl ?_
  refine va_last hx hb hK4 hP hD hS 86 3 (kn_lastg rfl) rfl (kk_in 0 1 (by decide) (by decide) rfl) dL_move_9 (fun H locs hP hD hS => ?_)
  rw [kn_lasts (L := w_F g a r.2.1 ++ w_H g (a 0 2) h r.2.2) (n := 86) rfl] at hP hD
  refine lv_goto (tgt := 17) hx hb dL_move_10 (by decide) ?_
  refine lv_iconst (v := (0 : Int32)) hx hb dL_move_17 (by decide) ?_
  exact kw_ret hC hr hlocks hK4 hP hD hS (by decide) (by decide) dL_move_18 rfl
set_option maxHeartbeats 8000000 in
set_option maxRecDepth 100000 in
theorem sL_move_t1 (l : Launch) (hst : l.stackTraces = false) (g : kG) (cL : ClassId) (n : Nat) (a : Nat → Nat → Nat) (h : Nat → Nat → Nat) (G : St2) (V : St2) (o : Nat) (f : Nat → Int64) (v1 : Int32) (v2 : Int32) (hR : fX4_move n G V v1 v2 = some (.inl 1)) : kWr l g cL yL_move wsL_move ({ frames := 8, cells := 1, slots := 6, locals := 133 }) [.ref (a 0 0), .int v1, .int v2, .ref o] (w_F g a G ++ w_H g (a 0 2) h V ++ [(o, .inl (cL, 1, .inr (.inl f)))]) (w_F g a G ++ w_H g (a 0 2) h V ++ [(o, .inl (cL, 1, .inr (.inl f)))]) 1 := by
  refine kWr.of (cc := cL_move) (maxL := 5) (hh := [(0, 10, 13, 13)]) (by decide) rfl (Nat.le_of_ble_eq_true rfl) ?_
  intro p e s m args below meth c ls A hC hr hlocks htab hA hK4 hG hNx hl hP hD hS
  replace hC : CallFix p m c cL_move 5 s args wsL_move RL := hC
  obtain ⟨hx, hb, hml, hown, hts⟩ := id hC
  have hK := kT4_sub hK4
  replace hl : lv_has ls 5 [(0, .ref (a 0 0)), (1, .int v1), (2, .int v2), (3, .ref o)] := hl
  refine lv_aload_n hx hb dL_move_0 rfl (lv_at hl 3 rfl) ?_
  refine lv_iconst (v := (0 : Int32)) hx hb dL_move_1 (by decide) ?_
  refine lv_aload_n hx hb dL_move_2 rfl (lv_at hl 0 rfl) ?_
  refine lv_iload_n hx hb dL_move_3 rfl (lv_at hl 1 rfl) ?_
  refine lv_iload_n hx hb dL_move_4 rfl (lv_at hl 2 rfl) ?_
  refine kw_callC (w' := w_F g a G ++ w_H g (a 0 2) h V ++ [(o, .inl (cL, 1, .inr (.inl f)))]) (As := [.int v1, .int v2]) (rest := [.int (0 : Int32), .ref o]) 0 4 hC (sX4_move_th l hst g n a h G V v1 v2 1 hR) (cwV 2 hts gL_move_X4_move rfl rfl rfl (by decide +kernel) ⟨Nat.le_of_ble_eq_true rfl, Nat.le_of_ble_eq_true rfl⟩) hK hG hP hD hS hA (List.range 86) (kk_ml 86 rfl (by decide +kernel) (kk_m0 86 rfl rfl)) (by decide +kernel) rfl (kk_sl 86 rfl (by decide +kernel) (kk_s0 86 rfl rfl rfl)) rfl rfl rfl rfl rfl hl.1 (Nat.le_of_ble_eq_true rfl) dL_move_5 ⟨Nat.le_of_ble_eq_true rfl, Nat.le_of_ble_eq_true rfl⟩ (fun H locs q9 ce hce hcv hcl hP hD hS => ?_)
  refine vx_catch hown [] ⟨0, 10, 13, 13⟩ [] (by rw [htab]; rfl) (fun _ h9 => absurd h9 List.not_mem_nil) (by decide) (by decide) (hts (.classLink RL 13 "java/lang/IndexOutOfBoundsException") (by decide +kernel)) (va_Nw.use rfl (hG.2.2.2.1 1)) hce hcv hcl ?_
  refine lv_astore (i := 4) (lv' := (4, .ref q9) :: [(0, .ref (a 0 0)), (1, .int v1), (2, .int v2), (3, .ref o)]) hx hb dL_move_13 hl (by decide) rfl (fun ls hl => ?_)
  refine lv_iconst (v := (1 : Int32)) hx hb dL_move_15 (by decide) ?_
  exact kw_ret hC hr hlocks hK4 hP hD hS (by decide) (by decide) dL_move_16 rfl
set_option maxHeartbeats 8000000 in
set_option maxRecDepth 100000 in
theorem sL_exchange (l : Launch) (hst : l.stackTraces = false) (g : kG) (cL : ClassId) (n : Nat) (a : Nat → Nat → Nat) (h : Nat → Nat → Nat) (G : St2) (V : St2) (o : Nat) (f : Nat → Int64) (v1 : Int32) (v2 : Int32) (r : Int32 × St2 × St2) (hR : fX4_exchange n G V v1 v2 = some (.inr r)) : kWr l g cL yL_exchange wsL_exchange ({ frames := 8, cells := 1, slots := 6, locals := 133 }) [.ref (a 0 0), .int v1, .int v2, .ref o] (w_F g a G ++ w_H g (a 0 2) h V ++ [(o, .inl (cL, 1, .inr (.inl f)))]) (w_F g a r.2.1 ++ w_H g (a 0 2) h r.2.2 ++ [(o, .inl (cL, 1, .inr (.inl (vp_updL f (0 : Int32).toNatClampNeg r.1.toInt64))))]) 0 := by
  refine kWr.of (cc := cL_exchange) (maxL := 5) (hh := [(0, 10, 13, 13)]) (by decide) rfl (Nat.le_of_ble_eq_true rfl) ?_
  intro p e s m args below meth c ls A hC hr hlocks htab hA hK4 hG hNx hl hP hD hS
  replace hC : CallFix p m c cL_exchange 5 s args wsL_exchange RL := hC
  obtain ⟨hx, hb, hml, hown, hts⟩ := id hC
  have hK := kT4_sub hK4
  replace hl : lv_has ls 5 [(0, .ref (a 0 0)), (1, .int v1), (2, .int v2), (3, .ref o)] := hl
  refine lv_aload_n hx hb dL_exchange_0 rfl (lv_at hl 3 rfl) ?_
  refine lv_iconst (v := (0 : Int32)) hx hb dL_exchange_1 (by decide) ?_
  refine lv_aload_n hx hb dL_exchange_2 rfl (lv_at hl 0 rfl) ?_
  refine lv_iload_n hx hb dL_exchange_3 rfl (lv_at hl 1 rfl) ?_
  refine lv_iload_n hx hb dL_exchange_4 rfl (lv_at hl 2 rfl) ?_
  refine kk_call_Vi (w' := w_F g a r.2.1 ++ w_H g (a 0 2) h r.2.2 ++ [(o, .inl (cL, 1, .inr (.inl f)))]) (As := [.int v1, .int v2]) (rest := [.int (0 : Int32), .ref o]) 0 4 hC (sX4_exchange l g n a h G V v1 v2 r hR) (cwV 2 hts gL_exchange_X4_exchange rfl rfl rfl (by decide +kernel) ⟨Nat.le_of_ble_eq_true rfl, Nat.le_of_ble_eq_true rfl⟩) hK hP hD hS hA (List.range 86) (kk_ml 86 rfl (by decide +kernel) (kk_m0 86 rfl rfl)) (by decide +kernel) rfl (kk_sl 86 rfl (by decide +kernel) (kk_s0 86 rfl rfl rfl)) rfl rfl rfl rfl rfl hl.1 (Nat.le_of_ble_eq_true rfl) dL_exchange_5 (fun H locs hP hD hS => ?_)
  refine lv_i2l (v := r.1.toInt64) hx hb dL_exchange_8 rfl ?_
  refine va_last hx hb hK4 hP hD hS 86 3 (kn_lastg rfl) rfl (kk_in 0 1 (by decide) (by decide) rfl) dL_exchange_9 (fun H locs hP hD hS => ?_)
  rw [kn_lasts (L := w_F g a r.2.1 ++ w_H g (a 0 2) h r.2.2) (n := 86) rfl] at hP hD
  refine lv_goto (tgt := 17) hx hb dL_exchange_10 (by decide) ?_
  refine lv_iconst (v := (0 : Int32)) hx hb dL_exchange_17 (by decide) ?_
  exact kw_ret hC hr hlocks hK4 hP hD hS (by decide) (by decide) dL_exchange_18 rfl
set_option maxHeartbeats 8000000 in
set_option maxRecDepth 100000 in
theorem sL_exchange_t1 (l : Launch) (hst : l.stackTraces = false) (g : kG) (cL : ClassId) (n : Nat) (a : Nat → Nat → Nat) (h : Nat → Nat → Nat) (G : St2) (V : St2) (o : Nat) (f : Nat → Int64) (v1 : Int32) (v2 : Int32) (hR : fX4_exchange n G V v1 v2 = some (.inl 1)) : kWr l g cL yL_exchange wsL_exchange ({ frames := 8, cells := 1, slots := 6, locals := 133 }) [.ref (a 0 0), .int v1, .int v2, .ref o] (w_F g a G ++ w_H g (a 0 2) h V ++ [(o, .inl (cL, 1, .inr (.inl f)))]) (w_F g a G ++ w_H g (a 0 2) h V ++ [(o, .inl (cL, 1, .inr (.inl f)))]) 1 := by
  refine kWr.of (cc := cL_exchange) (maxL := 5) (hh := [(0, 10, 13, 13)]) (by decide) rfl (Nat.le_of_ble_eq_true rfl) ?_
  intro p e s m args below meth c ls A hC hr hlocks htab hA hK4 hG hNx hl hP hD hS
  replace hC : CallFix p m c cL_exchange 5 s args wsL_exchange RL := hC
  obtain ⟨hx, hb, hml, hown, hts⟩ := id hC
  have hK := kT4_sub hK4
  replace hl : lv_has ls 5 [(0, .ref (a 0 0)), (1, .int v1), (2, .int v2), (3, .ref o)] := hl
  refine lv_aload_n hx hb dL_exchange_0 rfl (lv_at hl 3 rfl) ?_
  refine lv_iconst (v := (0 : Int32)) hx hb dL_exchange_1 (by decide) ?_
  refine lv_aload_n hx hb dL_exchange_2 rfl (lv_at hl 0 rfl) ?_
  refine lv_iload_n hx hb dL_exchange_3 rfl (lv_at hl 1 rfl) ?_
  refine lv_iload_n hx hb dL_exchange_4 rfl (lv_at hl 2 rfl) ?_
  refine kw_callC (w' := w_F g a G ++ w_H g (a 0 2) h V ++ [(o, .inl (cL, 1, .inr (.inl f)))]) (As := [.int v1, .int v2]) (rest := [.int (0 : Int32), .ref o]) 0 4 hC (sX4_exchange_th l hst g n a h G V v1 v2 1 hR) (cwV 2 hts gL_exchange_X4_exchange rfl rfl rfl (by decide +kernel) ⟨Nat.le_of_ble_eq_true rfl, Nat.le_of_ble_eq_true rfl⟩) hK hG hP hD hS hA (List.range 86) (kk_ml 86 rfl (by decide +kernel) (kk_m0 86 rfl rfl)) (by decide +kernel) rfl (kk_sl 86 rfl (by decide +kernel) (kk_s0 86 rfl rfl rfl)) rfl rfl rfl rfl rfl hl.1 (Nat.le_of_ble_eq_true rfl) dL_exchange_5 ⟨Nat.le_of_ble_eq_true rfl, Nat.le_of_ble_eq_true rfl⟩ (fun H locs q9 ce hce hcv hcl hP hD hS => ?_)
  refine vx_catch hown [] ⟨0, 10, 13, 13⟩ [] (by rw [htab]; rfl) (fun _ h9 => absurd h9 List.not_mem_nil) (by decide) (by decide) (hts (.classLink RL 13 "java/lang/IndexOutOfBoundsException") (by decide +kernel)) (va_Nw.use rfl (hG.2.2.2.1 1)) hce hcv hcl ?_
  refine lv_astore (i := 4) (lv' := (4, .ref q9) :: [(0, .ref (a 0 0)), (1, .int v1), (2, .int v2), (3, .ref o)]) hx hb dL_exchange_13 hl (by decide) rfl (fun ls hl => ?_)
  refine lv_iconst (v := (1 : Int32)) hx hb dL_exchange_15 (by decide) ?_
  exact kw_ret hC hr hlocks hK4 hP hD hS (by decide) (by decide) dL_exchange_16 rfl
set_option maxHeartbeats 8000000 in
set_option maxRecDepth 100000 in
theorem sL_fold (l : Launch) (hst : l.stackTraces = false) (g : kG) (cL : ClassId) (n : Nat) (a : Nat → Nat → Nat) (h : Nat → Nat → Nat) (G : St2) (V : St2) (o : Nat) (f : Nat → Int64) (v1 : Int32) (v2 : Int32) (r : Int32 × St2 × St2) (hR : fX4_fold n G V v1 v2 = some (.inr r)) : kWr l g cL yL_fold wsL_fold ({ frames := 8, cells := 1, slots := 6, locals := 133 }) [.ref (a 0 0), .int v1, .int v2, .ref o] (w_F g a G ++ w_H g (a 0 2) h V ++ [(o, .inl (cL, 1, .inr (.inl f)))]) (w_F g a r.2.1 ++ w_H g (a 0 2) h r.2.2 ++ [(o, .inl (cL, 1, .inr (.inl (vp_updL f (0 : Int32).toNatClampNeg r.1.toInt64))))]) 0 := by
  refine kWr.of (cc := cL_fold) (maxL := 5) (hh := [(0, 10, 13, 13)]) (by decide) rfl (Nat.le_of_ble_eq_true rfl) ?_
  intro p e s m args below meth c ls A hC hr hlocks htab hA hK4 hG hNx hl hP hD hS
  replace hC : CallFix p m c cL_fold 5 s args wsL_fold RL := hC
  obtain ⟨hx, hb, hml, hown, hts⟩ := id hC
  have hK := kT4_sub hK4
  replace hl : lv_has ls 5 [(0, .ref (a 0 0)), (1, .int v1), (2, .int v2), (3, .ref o)] := hl
  refine lv_aload_n hx hb dL_fold_0 rfl (lv_at hl 3 rfl) ?_
  refine lv_iconst (v := (0 : Int32)) hx hb dL_fold_1 (by decide) ?_
  refine lv_aload_n hx hb dL_fold_2 rfl (lv_at hl 0 rfl) ?_
  refine lv_iload_n hx hb dL_fold_3 rfl (lv_at hl 1 rfl) ?_
  refine lv_iload_n hx hb dL_fold_4 rfl (lv_at hl 2 rfl) ?_
  refine kk_call_Vi (w' := w_F g a r.2.1 ++ w_H g (a 0 2) h r.2.2 ++ [(o, .inl (cL, 1, .inr (.inl f)))]) (As := [.int v1, .int v2]) (rest := [.int (0 : Int32), .ref o]) 0 4 hC (sX4_fold l g n a h G V v1 v2 r hR) (cwV 2 hts gL_fold_X4_fold rfl rfl rfl (by decide +kernel) ⟨Nat.le_of_ble_eq_true rfl, Nat.le_of_ble_eq_true rfl⟩) hK hP hD hS hA (List.range 86) (kk_ml 86 rfl (by decide +kernel) (kk_m0 86 rfl rfl)) (by decide +kernel) rfl (kk_sl 86 rfl (by decide +kernel) (kk_s0 86 rfl rfl rfl)) rfl rfl rfl rfl rfl hl.1 (Nat.le_of_ble_eq_true rfl) dL_fold_5 (fun H locs hP hD hS => ?_)
  refine lv_i2l (v := r.1.toInt64) hx hb dL_fold_8 rfl ?_
  refine va_last hx hb hK4 hP hD hS 86 3 (kn_lastg rfl) rfl (kk_in 0 1 (by decide) (by decide) rfl) dL_fold_9 (fun H locs hP hD hS => ?_)
  rw [kn_lasts (L := w_F g a r.2.1 ++ w_H g (a 0 2) h r.2.2) (n := 86) rfl] at hP hD
  refine lv_goto (tgt := 17) hx hb dL_fold_10 (by decide) ?_
  refine lv_iconst (v := (0 : Int32)) hx hb dL_fold_17 (by decide) ?_
  exact kw_ret hC hr hlocks hK4 hP hD hS (by decide) (by decide) dL_fold_18 rfl
set_option maxHeartbeats 8000000 in
set_option maxRecDepth 100000 in
theorem sL_fold_t1 (l : Launch) (hst : l.stackTraces = false) (g : kG) (cL : ClassId) (n : Nat) (a : Nat → Nat → Nat) (h : Nat → Nat → Nat) (G : St2) (V : St2) (o : Nat) (f : Nat → Int64) (v1 : Int32) (v2 : Int32) (hR : fX4_fold n G V v1 v2 = some (.inl 1)) : kWr l g cL yL_fold wsL_fold ({ frames := 8, cells := 1, slots := 6, locals := 133 }) [.ref (a 0 0), .int v1, .int v2, .ref o] (w_F g a G ++ w_H g (a 0 2) h V ++ [(o, .inl (cL, 1, .inr (.inl f)))]) (w_F g a G ++ w_H g (a 0 2) h V ++ [(o, .inl (cL, 1, .inr (.inl f)))]) 1 := by
  refine kWr.of (cc := cL_fold) (maxL := 5) (hh := [(0, 10, 13, 13)]) (by decide) rfl (Nat.le_of_ble_eq_true rfl) ?_
  intro p e s m args below meth c ls A hC hr hlocks htab hA hK4 hG hNx hl hP hD hS
  replace hC : CallFix p m c cL_fold 5 s args wsL_fold RL := hC
  obtain ⟨hx, hb, hml, hown, hts⟩ := id hC
  have hK := kT4_sub hK4
  replace hl : lv_has ls 5 [(0, .ref (a 0 0)), (1, .int v1), (2, .int v2), (3, .ref o)] := hl
  refine lv_aload_n hx hb dL_fold_0 rfl (lv_at hl 3 rfl) ?_
  refine lv_iconst (v := (0 : Int32)) hx hb dL_fold_1 (by decide) ?_
  refine lv_aload_n hx hb dL_fold_2 rfl (lv_at hl 0 rfl) ?_
  refine lv_iload_n hx hb dL_fold_3 rfl (lv_at hl 1 rfl) ?_
  refine lv_iload_n hx hb dL_fold_4 rfl (lv_at hl 2 rfl) ?_
  refine kw_callC (w' := w_F g a G ++ w_H g (a 0 2) h V ++ [(o, .inl (cL, 1, .inr (.inl f)))]) (As := [.int v1, .int v2]) (rest := [.int (0 : Int32), .ref o]) 0 4 hC (sX4_fold_th l hst g n a h G V v1 v2 1 hR) (cwV 2 hts gL_fold_X4_fold rfl rfl rfl (by decide +kernel) ⟨Nat.le_of_ble_eq_true rfl, Nat.le_of_ble_eq_true rfl⟩) hK hG hP hD hS hA (List.range 86) (kk_ml 86 rfl (by decide +kernel) (kk_m0 86 rfl rfl)) (by decide +kernel) rfl (kk_sl 86 rfl (by decide +kernel) (kk_s0 86 rfl rfl rfl)) rfl rfl rfl rfl rfl hl.1 (Nat.le_of_ble_eq_true rfl) dL_fold_5 ⟨Nat.le_of_ble_eq_true rfl, Nat.le_of_ble_eq_true rfl⟩ (fun H locs q9 ce hce hcv hcl hP hD hS => ?_)
  refine vx_catch hown [] ⟨0, 10, 13, 13⟩ [] (by rw [htab]; rfl) (fun _ h9 => absurd h9 List.not_mem_nil) (by decide) (by decide) (hts (.classLink RL 13 "java/lang/IndexOutOfBoundsException") (by decide +kernel)) (va_Nw.use rfl (hG.2.2.2.1 1)) hce hcv hcl ?_
  refine lv_astore (i := 4) (lv' := (4, .ref q9) :: [(0, .ref (a 0 0)), (1, .int v1), (2, .int v2), (3, .ref o)]) hx hb dL_fold_13 hl (by decide) rfl (fun ls hl => ?_)
  refine lv_iconst (v := (1 : Int32)) hx hb dL_fold_15 (by decide) ?_
  exact kw_ret hC hr hlocks hK4 hP hD hS (by decide) (by decide) dL_fold_16 rfl
set_option maxHeartbeats 8000000 in
set_option maxRecDepth 100000 in
theorem sL_bridge (l : Launch) (hst : l.stackTraces = false) (g : kG) (cL : ClassId) (n : Nat) (a : Nat → Nat → Nat) (h : Nat → Nat → Nat) (G : St2) (V : St2) (o : Nat) (f : Nat → Int64) (v1 : Int32) (v2 : Int32) (r : Int32 × St2 × St2) (hR : fX4_bridge n G V v1 v2 = some (.inr r)) : kWr l g cL yL_bridge wsL_bridge ({ frames := 7, cells := 1, slots := 6, locals := 112 }) [.ref (a 0 0), .int v1, .int v2, .ref o] (w_F g a G ++ w_H g (a 0 2) h V ++ [(o, .inl (cL, 1, .inr (.inl f)))]) (w_F g a r.2.1 ++ w_H g (a 0 2) h r.2.2 ++ [(o, .inl (cL, 1, .inr (.inl (vp_updL f (0 : Int32).toNatClampNeg r.1.toInt64))))]) 0 := by
  refine kWr.of (cc := cL_bridge) (maxL := 5) (hh := [(0, 10, 13, 15), (0, 10, 17, 17)]) (by decide) rfl (Nat.le_of_ble_eq_true rfl) ?_
  intro p e s m args below meth c ls A hC hr hlocks htab hA hK4 hG hNx hl hP hD hS
  replace hC : CallFix p m c cL_bridge 5 s args wsL_bridge RL := hC
  obtain ⟨hx, hb, hml, hown, hts⟩ := id hC
  have hK := kT4_sub hK4
  replace hl : lv_has ls 5 [(0, .ref (a 0 0)), (1, .int v1), (2, .int v2), (3, .ref o)] := hl
  refine lv_aload_n hx hb dL_bridge_0 rfl (lv_at hl 3 rfl) ?_
  refine lv_iconst (v := (0 : Int32)) hx hb dL_bridge_1 (by decide) ?_
  refine lv_aload_n hx hb dL_bridge_2 rfl (lv_at hl 0 rfl) ?_
  refine lv_iload_n hx hb dL_bridge_3 rfl (lv_at hl 1 rfl) ?_
  refine lv_iload_n hx hb dL_bridge_4 rfl (lv_at hl 2 rfl) ?_
  refine kk_call_Vi (w' := w_F g a r.2.1 ++ w_H g (a 0 2) h r.2.2 ++ [(o, .inl (cL, 1, .inr (.inl f)))]) (As := [.int v1, .int v2]) (rest := [.int (0 : Int32), .ref o]) 0 4 hC (sX4_bridge l g n a h G V v1 v2 r hR) (cwV 2 hts gL_bridge_X4_bridge rfl rfl rfl (by decide +kernel) ⟨Nat.le_of_ble_eq_true rfl, Nat.le_of_ble_eq_true rfl⟩) hK hP hD hS hA (List.range 86) (kk_ml 86 rfl (by decide +kernel) (kk_m0 86 rfl rfl)) (by decide +kernel) rfl (kk_sl 86 rfl (by decide +kernel) (kk_s0 86 rfl rfl rfl)) rfl rfl rfl rfl rfl hl.1 (Nat.le_of_ble_eq_true rfl) dL_bridge_5 (fun H locs hP hD hS => ?_)
  refine lv_i2l (v := r.1.toInt64) hx hb dL_bridge_8 rfl ?_
  refine va_last hx hb hK4 hP hD hS 86 3 (kn_lastg rfl) rfl (kk_in 0 1 (by decide) (by decide) rfl) dL_bridge_9 (fun H locs hP hD hS => ?_)
  rw [kn_lasts (L := w_F g a r.2.1 ++ w_H g (a 0 2) h r.2.2) (n := 86) rfl] at hP hD
  refine lv_goto (tgt := 21) hx hb dL_bridge_10 (by decide) ?_
  refine lv_iconst (v := (0 : Int32)) hx hb dL_bridge_21 (by decide) ?_
  exact kw_ret hC hr hlocks hK4 hP hD hS (by decide) (by decide) dL_bridge_22 rfl
set_option maxHeartbeats 8000000 in
set_option maxRecDepth 100000 in
theorem sL_bridge_t2 (l : Launch) (hst : l.stackTraces = false) (g : kG) (cL : ClassId) (n : Nat) (a : Nat → Nat → Nat) (h : Nat → Nat → Nat) (G : St2) (V : St2) (o : Nat) (f : Nat → Int64) (v1 : Int32) (v2 : Int32) (hR : fX4_bridge n G V v1 v2 = some (.inl 2)) : kWr l g cL yL_bridge wsL_bridge ({ frames := 7, cells := 1, slots := 6, locals := 112 }) [.ref (a 0 0), .int v1, .int v2, .ref o] (w_F g a G ++ w_H g (a 0 2) h V ++ [(o, .inl (cL, 1, .inr (.inl f)))]) (w_F g a G ++ w_H g (a 0 2) h V ++ [(o, .inl (cL, 1, .inr (.inl f)))]) 1 := by
  refine kWr.of (cc := cL_bridge) (maxL := 5) (hh := [(0, 10, 13, 15), (0, 10, 17, 17)]) (by decide) rfl (Nat.le_of_ble_eq_true rfl) ?_
  intro p e s m args below meth c ls A hC hr hlocks htab hA hK4 hG hNx hl hP hD hS
  replace hC : CallFix p m c cL_bridge 5 s args wsL_bridge RL := hC
  obtain ⟨hx, hb, hml, hown, hts⟩ := id hC
  have hK := kT4_sub hK4
  replace hl : lv_has ls 5 [(0, .ref (a 0 0)), (1, .int v1), (2, .int v2), (3, .ref o)] := hl
  refine lv_aload_n hx hb dL_bridge_0 rfl (lv_at hl 3 rfl) ?_
  refine lv_iconst (v := (0 : Int32)) hx hb dL_bridge_1 (by decide) ?_
  refine lv_aload_n hx hb dL_bridge_2 rfl (lv_at hl 0 rfl) ?_
  refine lv_iload_n hx hb dL_bridge_3 rfl (lv_at hl 1 rfl) ?_
  refine lv_iload_n hx hb dL_bridge_4 rfl (lv_at hl 2 rfl) ?_
  refine kw_callC (w' := w_F g a G ++ w_H g (a 0 2) h V ++ [(o, .inl (cL, 1, .inr (.inl f)))]) (As := [.int v1, .int v2]) (rest := [.int (0 : Int32), .ref o]) 0 4 hC (sX4_bridge_th l hst g n a h G V v1 v2 2 hR) (cwV 2 hts gL_bridge_X4_bridge rfl rfl rfl (by decide +kernel) ⟨Nat.le_of_ble_eq_true rfl, Nat.le_of_ble_eq_true rfl⟩) hK hG hP hD hS hA (List.range 86) (kk_ml 86 rfl (by decide +kernel) (kk_m0 86 rfl rfl)) (by decide +kernel) rfl (kk_sl 86 rfl (by decide +kernel) (kk_s0 86 rfl rfl rfl)) rfl rfl rfl rfl rfl hl.1 (Nat.le_of_ble_eq_true rfl) dL_bridge_5 ⟨Nat.le_of_ble_eq_true rfl, Nat.le_of_ble_eq_true rfl⟩ (fun H locs q9 ce hce hcv hcl hP hD hS => ?_)
  refine vx_catch hown [] ⟨0, 10, 13, 15⟩ [⟨0, 10, 17, 17⟩] (by rw [htab]; rfl) (fun _ h9 => absurd h9 List.not_mem_nil) (by decide) (by decide) (hts (.classLink RL 15 "java/lang/IllegalArgumentException") (by decide +kernel)) (va_Nw.use rfl (hG.2.2.2.1 2)) hce hcv hcl ?_
  refine lv_astore (i := 4) (lv' := (4, .ref q9) :: [(0, .ref (a 0 0)), (1, .int v1), (2, .int v2), (3, .ref o)]) hx hb dL_bridge_13 hl (by decide) rfl (fun ls hl => ?_)
  refine lv_iconst (v := (1 : Int32)) hx hb dL_bridge_15 (by decide) ?_
  exact kw_ret hC hr hlocks hK4 hP hD hS (by decide) (by decide) dL_bridge_16 rfl
set_option maxHeartbeats 8000000 in
set_option maxRecDepth 100000 in
theorem sL_bridge_t3 (l : Launch) (hst : l.stackTraces = false) (g : kG) (cL : ClassId) (n : Nat) (a : Nat → Nat → Nat) (h : Nat → Nat → Nat) (G : St2) (V : St2) (o : Nat) (f : Nat → Int64) (v1 : Int32) (v2 : Int32) (hR : fX4_bridge n G V v1 v2 = some (.inl 3)) : kWr l g cL yL_bridge wsL_bridge ({ frames := 7, cells := 1, slots := 6, locals := 112 }) [.ref (a 0 0), .int v1, .int v2, .ref o] (w_F g a G ++ w_H g (a 0 2) h V ++ [(o, .inl (cL, 1, .inr (.inl f)))]) (w_F g a G ++ w_H g (a 0 2) h V ++ [(o, .inl (cL, 1, .inr (.inl f)))]) 2 := by
  refine kWr.of (cc := cL_bridge) (maxL := 5) (hh := [(0, 10, 13, 15), (0, 10, 17, 17)]) (by decide) rfl (Nat.le_of_ble_eq_true rfl) ?_
  intro p e s m args below meth c ls A hC hr hlocks htab hA hK4 hG hNx hl hP hD hS
  replace hC : CallFix p m c cL_bridge 5 s args wsL_bridge RL := hC
  obtain ⟨hx, hb, hml, hown, hts⟩ := id hC
  have hK := kT4_sub hK4
  replace hl : lv_has ls 5 [(0, .ref (a 0 0)), (1, .int v1), (2, .int v2), (3, .ref o)] := hl
  refine lv_aload_n hx hb dL_bridge_0 rfl (lv_at hl 3 rfl) ?_
  refine lv_iconst (v := (0 : Int32)) hx hb dL_bridge_1 (by decide) ?_
  refine lv_aload_n hx hb dL_bridge_2 rfl (lv_at hl 0 rfl) ?_
  refine lv_iload_n hx hb dL_bridge_3 rfl (lv_at hl 1 rfl) ?_
  refine lv_iload_n hx hb dL_bridge_4 rfl (lv_at hl 2 rfl) ?_
  refine kw_callC (w' := w_F g a G ++ w_H g (a 0 2) h V ++ [(o, .inl (cL, 1, .inr (.inl f)))]) (As := [.int v1, .int v2]) (rest := [.int (0 : Int32), .ref o]) 0 4 hC (sX4_bridge_th l hst g n a h G V v1 v2 3 hR) (cwV 2 hts gL_bridge_X4_bridge rfl rfl rfl (by decide +kernel) ⟨Nat.le_of_ble_eq_true rfl, Nat.le_of_ble_eq_true rfl⟩) hK hG hP hD hS hA (List.range 86) (kk_ml 86 rfl (by decide +kernel) (kk_m0 86 rfl rfl)) (by decide +kernel) rfl (kk_sl 86 rfl (by decide +kernel) (kk_s0 86 rfl rfl rfl)) rfl rfl rfl rfl rfl hl.1 (Nat.le_of_ble_eq_true rfl) dL_bridge_5 ⟨Nat.le_of_ble_eq_true rfl, Nat.le_of_ble_eq_true rfl⟩ (fun H locs q9 ce hce hcv hcl hP hD hS => ?_)
  refine vx_catch hown [⟨0, 10, 13, 15⟩] ⟨0, 10, 17, 17⟩ [] (by rw [htab]; rfl) (List.forall_mem_cons.mpr ⟨.inr ⟨by decide, _, hts (.classLink RL 15 "java/lang/IllegalArgumentException") (by decide +kernel), hNx.2.2⟩, fun _ h9 => absurd h9 List.not_mem_nil⟩) (by decide) (by decide) (hts (.classLink RL 17 "java/lang/IllegalStateException") (by decide +kernel)) (va_Nw.use rfl (hG.2.2.2.1 3)) hce hcv hcl ?_
  refine lv_astore (i := 4) (lv' := (4, .ref q9) :: [(0, .ref (a 0 0)), (1, .int v1), (2, .int v2), (3, .ref o)]) hx hb dL_bridge_17 hl (by decide) rfl (fun ls hl => ?_)
  refine lv_iconst (v := (2 : Int32)) hx hb dL_bridge_19 (by decide) ?_
  exact kw_ret hC hr hlocks hK4 hP hD hS (by decide) (by decide) dL_bridge_20 rfl
set_option maxHeartbeats 8000000 in
set_option maxRecDepth 100000 in
theorem sL_unbridge (l : Launch) (hst : l.stackTraces = false) (g : kG) (cL : ClassId) (n : Nat) (a : Nat → Nat → Nat) (h : Nat → Nat → Nat) (G : St2) (V : St2) (o : Nat) (f : Nat → Int64) (v1 : Int32) (r : Int32 × St2 × St2) (hR : fX4_unbridge n G V v1 = some (.inr r)) : kWr l g cL yL_unbridge wsL_unbridge ({ frames := 8, cells := 1, slots := 6, locals := 133 }) [.ref (a 0 0), .int v1, .ref o] (w_F g a G ++ w_H g (a 0 2) h V ++ [(o, .inl (cL, 1, .inr (.inl f)))]) (w_F g a r.2.1 ++ w_H g (a 0 2) h r.2.2 ++ [(o, .inl (cL, 1, .inr (.inl (vp_updL f (0 : Int32).toNatClampNeg r.1.toInt64))))]) 0 := by
  refine kWr.of (cc := cL_unbridge) (maxL := 4) (hh := [(0, 9, 12, 13)]) (by decide) rfl (Nat.le_of_ble_eq_true rfl) ?_
  intro p e s m args below meth c ls A hC hr hlocks htab hA hK4 hG hNx hl hP hD hS
  replace hC : CallFix p m c cL_unbridge 4 s args wsL_unbridge RL := hC
  obtain ⟨hx, hb, hml, hown, hts⟩ := id hC
  have hK := kT4_sub hK4
  replace hl : lv_has ls 4 [(0, .ref (a 0 0)), (1, .int v1), (2, .ref o)] := hl
  refine lv_aload_n hx hb dL_unbridge_0 rfl (lv_at hl 2 rfl) ?_
  refine lv_iconst (v := (0 : Int32)) hx hb dL_unbridge_1 (by decide) ?_
  refine lv_aload_n hx hb dL_unbridge_2 rfl (lv_at hl 0 rfl) ?_
  refine lv_iload_n hx hb dL_unbridge_3 rfl (lv_at hl 1 rfl) ?_
  refine kk_call_Vi (w' := w_F g a r.2.1 ++ w_H g (a 0 2) h r.2.2 ++ [(o, .inl (cL, 1, .inr (.inl f)))]) (As := [.int v1]) (rest := [.int (0 : Int32), .ref o]) 0 4 hC (sX4_unbridge l g n a h G V v1 r hR) (cwV 1 hts gL_unbridge_X4_unbridge rfl rfl rfl (by decide +kernel) ⟨Nat.le_of_ble_eq_true rfl, Nat.le_of_ble_eq_true rfl⟩) hK hP hD hS hA (List.range 86) (kk_ml 86 rfl (by decide +kernel) (kk_m0 86 rfl rfl)) (by decide +kernel) rfl (kk_sl 86 rfl (by decide +kernel) (kk_s0 86 rfl rfl rfl)) rfl rfl rfl rfl rfl hl.1 (Nat.le_of_ble_eq_true rfl) dL_unbridge_4 (fun H locs hP hD hS => ?_)
  refine lv_i2l (v := r.1.toInt64) hx hb dL_unbridge_7 rfl ?_
  refine va_last hx hb hK4 hP hD hS 86 3 (kn_lastg rfl) rfl (kk_in 0 1 (by decide) (by decide) rfl) dL_unbridge_8 (fun H locs hP hD hS => ?_)
  rw [kn_lasts (L := w_F g a r.2.1 ++ w_H g (a 0 2) h r.2.2) (n := 86) rfl] at hP hD
  refine lv_goto (tgt := 15) hx hb dL_unbridge_9 (by decide) ?_
  refine lv_iconst (v := (0 : Int32)) hx hb dL_unbridge_15 (by decide) ?_
  exact kw_ret hC hr hlocks hK4 hP hD hS (by decide) (by decide) dL_unbridge_16 rfl
set_option maxHeartbeats 8000000 in
set_option maxRecDepth 100000 in
theorem sL_unbridge_t1 (l : Launch) (hst : l.stackTraces = false) (g : kG) (cL : ClassId) (n : Nat) (a : Nat → Nat → Nat) (h : Nat → Nat → Nat) (G : St2) (V : St2) (o : Nat) (f : Nat → Int64) (v1 : Int32) (hR : fX4_unbridge n G V v1 = some (.inl 1)) : kWr l g cL yL_unbridge wsL_unbridge ({ frames := 8, cells := 1, slots := 6, locals := 133 }) [.ref (a 0 0), .int v1, .ref o] (w_F g a G ++ w_H g (a 0 2) h V ++ [(o, .inl (cL, 1, .inr (.inl f)))]) (w_F g a G ++ w_H g (a 0 2) h V ++ [(o, .inl (cL, 1, .inr (.inl f)))]) 1 := by
  refine kWr.of (cc := cL_unbridge) (maxL := 4) (hh := [(0, 9, 12, 13)]) (by decide) rfl (Nat.le_of_ble_eq_true rfl) ?_
  intro p e s m args below meth c ls A hC hr hlocks htab hA hK4 hG hNx hl hP hD hS
  replace hC : CallFix p m c cL_unbridge 4 s args wsL_unbridge RL := hC
  obtain ⟨hx, hb, hml, hown, hts⟩ := id hC
  have hK := kT4_sub hK4
  replace hl : lv_has ls 4 [(0, .ref (a 0 0)), (1, .int v1), (2, .ref o)] := hl
  refine lv_aload_n hx hb dL_unbridge_0 rfl (lv_at hl 2 rfl) ?_
  refine lv_iconst (v := (0 : Int32)) hx hb dL_unbridge_1 (by decide) ?_
  refine lv_aload_n hx hb dL_unbridge_2 rfl (lv_at hl 0 rfl) ?_
  refine lv_iload_n hx hb dL_unbridge_3 rfl (lv_at hl 1 rfl) ?_
  refine kw_callC (w' := w_F g a G ++ w_H g (a 0 2) h V ++ [(o, .inl (cL, 1, .inr (.inl f)))]) (As := [.int v1]) (rest := [.int (0 : Int32), .ref o]) 0 4 hC (sX4_unbridge_th l hst g n a h G V v1 1 hR) (cwV 1 hts gL_unbridge_X4_unbridge rfl rfl rfl (by decide +kernel) ⟨Nat.le_of_ble_eq_true rfl, Nat.le_of_ble_eq_true rfl⟩) hK hG hP hD hS hA (List.range 86) (kk_ml 86 rfl (by decide +kernel) (kk_m0 86 rfl rfl)) (by decide +kernel) rfl (kk_sl 86 rfl (by decide +kernel) (kk_s0 86 rfl rfl rfl)) rfl rfl rfl rfl rfl hl.1 (Nat.le_of_ble_eq_true rfl) dL_unbridge_4 ⟨Nat.le_of_ble_eq_true rfl, Nat.le_of_ble_eq_true rfl⟩ (fun H locs q9 ce hce hcv hcl hP hD hS => ?_)
  refine vx_catch hown [] ⟨0, 9, 12, 13⟩ [] (by rw [htab]; rfl) (fun _ h9 => absurd h9 List.not_mem_nil) (by decide) (by decide) (hts (.classLink RL 13 "java/lang/IndexOutOfBoundsException") (by decide +kernel)) (va_Nw.use rfl (hG.2.2.2.1 1)) hce hcv hcl ?_
  refine lv_astore_n (i := 3) (lv' := (3, .ref q9) :: [(0, .ref (a 0 0)), (1, .int v1), (2, .ref o)]) hx hb dL_unbridge_12 rfl hl (by decide) rfl (fun ls hl => ?_)
  refine lv_iconst (v := (1 : Int32)) hx hb dL_unbridge_13 (by decide) ?_
  exact kw_ret hC hr hlocks hK4 hP hD hS (by decide) (by decide) dL_unbridge_14 rfl
set_option maxHeartbeats 8000000 in
set_option maxRecDepth 100000 in
theorem sL_set (l : Launch) (hst : l.stackTraces = false) (g : kG) (cL : ClassId) (n : Nat) (a : Nat → Nat → Nat) (h : Nat → Nat → Nat) (G : St2) (V : St2) (o : Nat) (f : Nat → Int64) (v1 : Int32) (v2 : Int32) (r : Int32 × St2 × St2) (hR : fX4_set n G V v1 v2 = some (.inr r)) : kWr l g cL yL_set wsL_set ({ frames := 8, cells := 1, slots := 6, locals := 133 }) [.ref (a 0 0), .int v1, .int v2, .ref o] (w_F g a G ++ w_H g (a 0 2) h V ++ [(o, .inl (cL, 1, .inr (.inl f)))]) (w_F g a r.2.1 ++ w_H g (a 0 2) h r.2.2 ++ [(o, .inl (cL, 1, .inr (.inl (vp_updL f (0 : Int32).toNatClampNeg r.1.toInt64))))]) 0 := by
  refine kWr.of (cc := cL_set) (maxL := 5) (hh := [(0, 10, 13, 13), (0, 10, 17, 15)]) (by decide) rfl (Nat.le_of_ble_eq_true rfl) ?_
  intro p e s m args below meth c ls A hC hr hlocks htab hA hK4 hG hNx hl hP hD hS
  replace hC : CallFix p m c cL_set 5 s args wsL_set RL := hC
  obtain ⟨hx, hb, hml, hown, hts⟩ := id hC
  have hK := kT4_sub hK4
  replace hl : lv_has ls 5 [(0, .ref (a 0 0)), (1, .int v1), (2, .int v2), (3, .ref o)] := hl
  refine lv_aload_n hx hb dL_set_0 rfl (lv_at hl 3 rfl) ?_
  refine lv_iconst (v := (0 : Int32)) hx hb dL_set_1 (by decide) ?_
  refine lv_aload_n hx hb dL_set_2 rfl (lv_at hl 0 rfl) ?_
  refine lv_iload_n hx hb dL_set_3 rfl (lv_at hl 1 rfl) ?_
  refine lv_iload_n hx hb dL_set_4 rfl (lv_at hl 2 rfl) ?_
  refine kk_call_Vg (w' := w_F g a r.2.1 ++ w_H g (a 0 2) h r.2.2 ++ [(o, .inl (cL, 1, .inr (.inl f)))]) (As := [.int v1, .int v2]) (rest := [.int (0 : Int32), .ref o]) 0 4 hC (sX4_set l g n a h G V v1 v2 r hR) (cwV 2 hts gL_set_X4_set rfl rfl rfl (by decide +kernel) ⟨Nat.le_of_ble_eq_true rfl, Nat.le_of_ble_eq_true rfl⟩) hK hG hP hD hS hA (List.range 86) (kk_ml 86 rfl (by decide +kernel) (kk_m0 86 rfl rfl)) (by decide +kernel) rfl (kk_sl 86 rfl (by decide +kernel) (kk_s0 86 rfl rfl rfl)) rfl rfl rfl rfl rfl hl.1 (Nat.le_of_ble_eq_true rfl) dL_set_5 (fun H locs hP hD hS => ?_)
  refine lv_i2l (v := r.1.toInt64) hx hb dL_set_8 rfl ?_
  refine va_last hx hb hK4 hP hD hS 86 3 (kn_lastg rfl) rfl (kk_in 0 1 (by decide) (by decide) rfl) dL_set_9 (fun H locs hP hD hS => ?_)
  rw [kn_lasts (L := w_F g a r.2.1 ++ w_H g (a 0 2) h r.2.2) (n := 86) rfl] at hP hD
  refine lv_goto (tgt := 21) hx hb dL_set_10 (by decide) ?_
  refine lv_iconst (v := (0 : Int32)) hx hb dL_set_21 (by decide) ?_
  exact kw_ret hC hr hlocks hK4 hP hD hS (by decide) (by decide) dL_set_22 rfl
set_option maxHeartbeats 8000000 in
set_option maxRecDepth 100000 in
theorem sL_set_t1 (l : Launch) (hst : l.stackTraces = false) (g : kG) (cL : ClassId) (n : Nat) (a : Nat → Nat → Nat) (h : Nat → Nat → Nat) (G : St2) (V : St2) (o : Nat) (f : Nat → Int64) (v1 : Int32) (v2 : Int32) (hR : fX4_set n G V v1 v2 = some (.inl 1)) : kWr l g cL yL_set wsL_set ({ frames := 8, cells := 1, slots := 6, locals := 133 }) [.ref (a 0 0), .int v1, .int v2, .ref o] (w_F g a G ++ w_H g (a 0 2) h V ++ [(o, .inl (cL, 1, .inr (.inl f)))]) (w_F g a G ++ w_H g (a 0 2) h V ++ [(o, .inl (cL, 1, .inr (.inl f)))]) 1 := by
  refine kWr.of (cc := cL_set) (maxL := 5) (hh := [(0, 10, 13, 13), (0, 10, 17, 15)]) (by decide) rfl (Nat.le_of_ble_eq_true rfl) ?_
  intro p e s m args below meth c ls A hC hr hlocks htab hA hK4 hG hNx hl hP hD hS
  replace hC : CallFix p m c cL_set 5 s args wsL_set RL := hC
  obtain ⟨hx, hb, hml, hown, hts⟩ := id hC
  have hK := kT4_sub hK4
  replace hl : lv_has ls 5 [(0, .ref (a 0 0)), (1, .int v1), (2, .int v2), (3, .ref o)] := hl
  refine lv_aload_n hx hb dL_set_0 rfl (lv_at hl 3 rfl) ?_
  refine lv_iconst (v := (0 : Int32)) hx hb dL_set_1 (by decide) ?_
  refine lv_aload_n hx hb dL_set_2 rfl (lv_at hl 0 rfl) ?_
  refine lv_iload_n hx hb dL_set_3 rfl (lv_at hl 1 rfl) ?_
  refine lv_iload_n hx hb dL_set_4 rfl (lv_at hl 2 rfl) ?_
  refine kw_callC (w' := w_F g a G ++ w_H g (a 0 2) h V ++ [(o, .inl (cL, 1, .inr (.inl f)))]) (As := [.int v1, .int v2]) (rest := [.int (0 : Int32), .ref o]) 0 4 hC (sX4_set_th l hst g n a h G V v1 v2 1 hR) (cwV 2 hts gL_set_X4_set rfl rfl rfl (by decide +kernel) ⟨Nat.le_of_ble_eq_true rfl, Nat.le_of_ble_eq_true rfl⟩) hK hG hP hD hS hA (List.range 86) (kk_ml 86 rfl (by decide +kernel) (kk_m0 86 rfl rfl)) (by decide +kernel) rfl (kk_sl 86 rfl (by decide +kernel) (kk_s0 86 rfl rfl rfl)) rfl rfl rfl rfl rfl hl.1 (Nat.le_of_ble_eq_true rfl) dL_set_5 ⟨Nat.le_of_ble_eq_true rfl, Nat.le_of_ble_eq_true rfl⟩ (fun H locs q9 ce hce hcv hcl hP hD hS => ?_)
  refine vx_catch hown [] ⟨0, 10, 13, 13⟩ [⟨0, 10, 17, 15⟩] (by rw [htab]; rfl) (fun _ h9 => absurd h9 List.not_mem_nil) (by decide) (by decide) (hts (.classLink RL 13 "java/lang/IndexOutOfBoundsException") (by decide +kernel)) (va_Nw.use rfl (hG.2.2.2.1 1)) hce hcv hcl ?_
  refine lv_astore (i := 4) (lv' := (4, .ref q9) :: [(0, .ref (a 0 0)), (1, .int v1), (2, .int v2), (3, .ref o)]) hx hb dL_set_13 hl (by decide) rfl (fun ls hl => ?_)
  refine lv_iconst (v := (1 : Int32)) hx hb dL_set_15 (by decide) ?_
  exact kw_ret hC hr hlocks hK4 hP hD hS (by decide) (by decide) dL_set_16 rfl
set_option maxHeartbeats 8000000 in
set_option maxRecDepth 100000 in
theorem sL_set_t2 (l : Launch) (hst : l.stackTraces = false) (g : kG) (cL : ClassId) (n : Nat) (a : Nat → Nat → Nat) (h : Nat → Nat → Nat) (G : St2) (V : St2) (o : Nat) (f : Nat → Int64) (v1 : Int32) (v2 : Int32) (hR : fX4_set n G V v1 v2 = some (.inl 2)) : kWr l g cL yL_set wsL_set ({ frames := 8, cells := 1, slots := 6, locals := 133 }) [.ref (a 0 0), .int v1, .int v2, .ref o] (w_F g a G ++ w_H g (a 0 2) h V ++ [(o, .inl (cL, 1, .inr (.inl f)))]) (w_F g a G ++ w_H g (a 0 2) h V ++ [(o, .inl (cL, 1, .inr (.inl f)))]) 2 := by
  refine kWr.of (cc := cL_set) (maxL := 5) (hh := [(0, 10, 13, 13), (0, 10, 17, 15)]) (by decide) rfl (Nat.le_of_ble_eq_true rfl) ?_
  intro p e s m args below meth c ls A hC hr hlocks htab hA hK4 hG hNx hl hP hD hS
  replace hC : CallFix p m c cL_set 5 s args wsL_set RL := hC
  obtain ⟨hx, hb, hml, hown, hts⟩ := id hC
  have hK := kT4_sub hK4
  replace hl : lv_has ls 5 [(0, .ref (a 0 0)), (1, .int v1), (2, .int v2), (3, .ref o)] := hl
  refine lv_aload_n hx hb dL_set_0 rfl (lv_at hl 3 rfl) ?_
  refine lv_iconst (v := (0 : Int32)) hx hb dL_set_1 (by decide) ?_
  refine lv_aload_n hx hb dL_set_2 rfl (lv_at hl 0 rfl) ?_
  refine lv_iload_n hx hb dL_set_3 rfl (lv_at hl 1 rfl) ?_
  refine lv_iload_n hx hb dL_set_4 rfl (lv_at hl 2 rfl) ?_
  refine kw_callC (w' := w_F g a G ++ w_H g (a 0 2) h V ++ [(o, .inl (cL, 1, .inr (.inl f)))]) (As := [.int v1, .int v2]) (rest := [.int (0 : Int32), .ref o]) 0 4 hC (sX4_set_th l hst g n a h G V v1 v2 2 hR) (cwV 2 hts gL_set_X4_set rfl rfl rfl (by decide +kernel) ⟨Nat.le_of_ble_eq_true rfl, Nat.le_of_ble_eq_true rfl⟩) hK hG hP hD hS hA (List.range 86) (kk_ml 86 rfl (by decide +kernel) (kk_m0 86 rfl rfl)) (by decide +kernel) rfl (kk_sl 86 rfl (by decide +kernel) (kk_s0 86 rfl rfl rfl)) rfl rfl rfl rfl rfl hl.1 (Nat.le_of_ble_eq_true rfl) dL_set_5 ⟨Nat.le_of_ble_eq_true rfl, Nat.le_of_ble_eq_true rfl⟩ (fun H locs q9 ce hce hcv hcl hP hD hS => ?_)
  refine vx_catch hown [⟨0, 10, 13, 13⟩] ⟨0, 10, 17, 15⟩ [] (by rw [htab]; rfl) (List.forall_mem_cons.mpr ⟨.inr ⟨by decide, _, hts (.classLink RL 13 "java/lang/IndexOutOfBoundsException") (by decide +kernel), hNx.1⟩, fun _ h9 => absurd h9 List.not_mem_nil⟩) (by decide) (by decide) (hts (.classLink RL 15 "java/lang/IllegalArgumentException") (by decide +kernel)) (va_Nw.use rfl (hG.2.2.2.1 2)) hce hcv hcl ?_
  refine lv_astore (i := 4) (lv' := (4, .ref q9) :: [(0, .ref (a 0 0)), (1, .int v1), (2, .int v2), (3, .ref o)]) hx hb dL_set_17 hl (by decide) rfl (fun ls hl => ?_)
  refine lv_iconst (v := (2 : Int32)) hx hb dL_set_19 (by decide) ?_
  exact kw_ret hC hr hlocks hK4 hP hD hS (by decide) (by decide) dL_set_20 rfl
set_option maxHeartbeats 8000000 in
set_option maxRecDepth 100000 in
theorem sL_append (l : Launch) (hst : l.stackTraces = false) (g : kG) (cL : ClassId) (n : Nat) (a : Nat → Nat → Nat) (G : St2) (o : Nat) (f : Nat → Int64) (v1 : Int32) (r : Int32 × St2) (hR : fX4_append n G v1 = some (.inr r)) : kWr l g cL yL_append wsL_append ({ frames := 7, cells := 1, slots := 6, locals := 111 }) [.ref (a 0 0), .int v1, .ref o] (w_F g a G ++ [(o, .inl (cL, 1, .inr (.inl f)))]) (w_F g a r.2 ++ [(o, .inl (cL, 1, .inr (.inl (vp_updL f (0 : Int32).toNatClampNeg r.1.toInt64))))]) 0 := by
  refine kWr.of (cc := cL_append) (maxL := 4) (hh := [(0, 9, 12, 15), (0, 9, 15, 17)]) (by decide) rfl (Nat.le_of_ble_eq_true rfl) ?_
  intro p e s m args below meth c ls A hC hr hlocks htab hA hK4 hG hNx hl hP hD hS
  replace hC : CallFix p m c cL_append 4 s args wsL_append RL := hC
  obtain ⟨hx, hb, hml, hown, hts⟩ := id hC
  have hK := kT4_sub hK4
  replace hl : lv_has ls 4 [(0, .ref (a 0 0)), (1, .int v1), (2, .ref o)] := hl
  refine lv_aload_n hx hb dL_append_0 rfl (lv_at hl 2 rfl) ?_
  refine lv_iconst (v := (0 : Int32)) hx hb dL_append_1 (by decide) ?_
  refine lv_aload_n hx hb dL_append_2 rfl (lv_at hl 0 rfl) ?_
  refine lv_iload_n hx hb dL_append_3 rfl (lv_at hl 1 rfl) ?_
  refine kk_call_Vi (w' := w_F g a r.2 ++ [(o, .inl (cL, 1, .inr (.inl f)))]) (As := [.int v1]) (rest := [.int (0 : Int32), .ref o]) 0 4 hC (sX4_append l g n a G v1 r hR) (cwV 1 hts gL_append_X4_append rfl rfl rfl (by decide +kernel) ⟨Nat.le_of_ble_eq_true rfl, Nat.le_of_ble_eq_true rfl⟩) hK hP hD hS hA (List.range 24) (kk_ml 24 rfl (by decide +kernel) (kk_m0 24 rfl rfl)) (by decide +kernel) rfl (kk_sl 24 rfl (by decide +kernel) (kk_s0 24 rfl rfl rfl)) rfl rfl rfl rfl rfl hl.1 (Nat.le_of_ble_eq_true rfl) dL_append_4 (fun H locs hP hD hS => ?_)
  refine lv_i2l (v := r.1.toInt64) hx hb dL_append_7 rfl ?_
  refine va_last hx hb hK4 hP hD hS 24 3 (kn_lastg rfl) rfl (kk_in 0 1 (by decide) (by decide) rfl) dL_append_8 (fun H locs hP hD hS => ?_)
  rw [kn_lasts (L := w_F g a r.2) (n := 24) rfl] at hP hD
  refine lv_goto (tgt := 18) hx hb dL_append_9 (by decide) ?_
  refine lv_iconst (v := (0 : Int32)) hx hb dL_append_18 (by decide) ?_
  exact kw_ret hC hr hlocks hK4 hP hD hS (by decide) (by decide) dL_append_19 rfl
set_option maxHeartbeats 8000000 in
set_option maxRecDepth 100000 in
theorem sL_append_t2 (l : Launch) (hst : l.stackTraces = false) (g : kG) (cL : ClassId) (n : Nat) (a : Nat → Nat → Nat) (G : St2) (o : Nat) (f : Nat → Int64) (v1 : Int32) (hR : fX4_append n G v1 = some (.inl 2)) : kWr l g cL yL_append wsL_append ({ frames := 7, cells := 1, slots := 6, locals := 111 }) [.ref (a 0 0), .int v1, .ref o] (w_F g a G ++ [(o, .inl (cL, 1, .inr (.inl f)))]) (w_F g a G ++ [(o, .inl (cL, 1, .inr (.inl f)))]) 1 := by
  refine kWr.of (cc := cL_append) (maxL := 4) (hh := [(0, 9, 12, 15), (0, 9, 15, 17)]) (by decide) rfl (Nat.le_of_ble_eq_true rfl) ?_
  intro p e s m args below meth c ls A hC hr hlocks htab hA hK4 hG hNx hl hP hD hS
  replace hC : CallFix p m c cL_append 4 s args wsL_append RL := hC
  obtain ⟨hx, hb, hml, hown, hts⟩ := id hC
  have hK := kT4_sub hK4
  replace hl : lv_has ls 4 [(0, .ref (a 0 0)), (1, .int v1), (2, .ref o)] := hl
  refine lv_aload_n hx hb dL_append_0 rfl (lv_at hl 2 rfl) ?_
  refine lv_iconst (v := (0 : Int32)) hx hb dL_append_1 (by decide) ?_
  refine lv_aload_n hx hb dL_append_2 rfl (lv_at hl 0 rfl) ?_
  refine lv_iload_n hx hb dL_append_3 rfl (lv_at hl 1 rfl) ?_
  refine kw_callC (w' := w_F g a G ++ [(o, .inl (cL, 1, .inr (.inl f)))]) (As := [.int v1]) (rest := [.int (0 : Int32), .ref o]) 0 4 hC (sX4_append_th l hst g n a G v1 2 hR) (cwV 1 hts gL_append_X4_append rfl rfl rfl (by decide +kernel) ⟨Nat.le_of_ble_eq_true rfl, Nat.le_of_ble_eq_true rfl⟩) hK hG hP hD hS hA (List.range 24) (kk_ml 24 rfl (by decide +kernel) (kk_m0 24 rfl rfl)) (by decide +kernel) rfl (kk_sl 24 rfl (by decide +kernel) (kk_s0 24 rfl rfl rfl)) rfl rfl rfl rfl rfl hl.1 (Nat.le_of_ble_eq_true rfl) dL_append_4 ⟨Nat.le_of_ble_eq_true rfl, Nat.le_of_ble_eq_true rfl⟩ (fun H locs q9 ce hce hcv hcl hP hD hS => ?_)
  refine vx_catch hown [] ⟨0, 9, 12, 15⟩ [⟨0, 9, 15, 17⟩] (by rw [htab]; rfl) (fun _ h9 => absurd h9 List.not_mem_nil) (by decide) (by decide) (hts (.classLink RL 15 "java/lang/IllegalArgumentException") (by decide +kernel)) (va_Nw.use rfl (hG.2.2.2.1 2)) hce hcv hcl ?_
  refine lv_astore_n (i := 3) (lv' := (3, .ref q9) :: [(0, .ref (a 0 0)), (1, .int v1), (2, .ref o)]) hx hb dL_append_12 rfl hl (by decide) rfl (fun ls hl => ?_)
  refine lv_iconst (v := (1 : Int32)) hx hb dL_append_13 (by decide) ?_
  exact kw_ret hC hr hlocks hK4 hP hD hS (by decide) (by decide) dL_append_14 rfl
set_option maxHeartbeats 8000000 in
set_option maxRecDepth 100000 in
theorem sL_append_t3 (l : Launch) (hst : l.stackTraces = false) (g : kG) (cL : ClassId) (n : Nat) (a : Nat → Nat → Nat) (G : St2) (o : Nat) (f : Nat → Int64) (v1 : Int32) (hR : fX4_append n G v1 = some (.inl 3)) : kWr l g cL yL_append wsL_append ({ frames := 7, cells := 1, slots := 6, locals := 111 }) [.ref (a 0 0), .int v1, .ref o] (w_F g a G ++ [(o, .inl (cL, 1, .inr (.inl f)))]) (w_F g a G ++ [(o, .inl (cL, 1, .inr (.inl f)))]) 2 := by
  refine kWr.of (cc := cL_append) (maxL := 4) (hh := [(0, 9, 12, 15), (0, 9, 15, 17)]) (by decide) rfl (Nat.le_of_ble_eq_true rfl) ?_
  intro p e s m args below meth c ls A hC hr hlocks htab hA hK4 hG hNx hl hP hD hS
  replace hC : CallFix p m c cL_append 4 s args wsL_append RL := hC
  obtain ⟨hx, hb, hml, hown, hts⟩ := id hC
  have hK := kT4_sub hK4
  replace hl : lv_has ls 4 [(0, .ref (a 0 0)), (1, .int v1), (2, .ref o)] := hl
  refine lv_aload_n hx hb dL_append_0 rfl (lv_at hl 2 rfl) ?_
  refine lv_iconst (v := (0 : Int32)) hx hb dL_append_1 (by decide) ?_
  refine lv_aload_n hx hb dL_append_2 rfl (lv_at hl 0 rfl) ?_
  refine lv_iload_n hx hb dL_append_3 rfl (lv_at hl 1 rfl) ?_
  refine kw_callC (w' := w_F g a G ++ [(o, .inl (cL, 1, .inr (.inl f)))]) (As := [.int v1]) (rest := [.int (0 : Int32), .ref o]) 0 4 hC (sX4_append_th l hst g n a G v1 3 hR) (cwV 1 hts gL_append_X4_append rfl rfl rfl (by decide +kernel) ⟨Nat.le_of_ble_eq_true rfl, Nat.le_of_ble_eq_true rfl⟩) hK hG hP hD hS hA (List.range 24) (kk_ml 24 rfl (by decide +kernel) (kk_m0 24 rfl rfl)) (by decide +kernel) rfl (kk_sl 24 rfl (by decide +kernel) (kk_s0 24 rfl rfl rfl)) rfl rfl rfl rfl rfl hl.1 (Nat.le_of_ble_eq_true rfl) dL_append_4 ⟨Nat.le_of_ble_eq_true rfl, Nat.le_of_ble_eq_true rfl⟩ (fun H locs q9 ce hce hcv hcl hP hD hS => ?_)
  refine vx_catch hown [⟨0, 9, 12, 15⟩] ⟨0, 9, 15, 17⟩ [] (by rw [htab]; rfl) (List.forall_mem_cons.mpr ⟨.inr ⟨by decide, _, hts (.classLink RL 15 "java/lang/IllegalArgumentException") (by decide +kernel), hNx.2.2⟩, fun _ h9 => absurd h9 List.not_mem_nil⟩) (by decide) (by decide) (hts (.classLink RL 17 "java/lang/IllegalStateException") (by decide +kernel)) (va_Nw.use rfl (hG.2.2.2.1 3)) hce hcv hcl ?_
  refine lv_astore_n (i := 3) (lv' := (3, .ref q9) :: [(0, .ref (a 0 0)), (1, .int v1), (2, .ref o)]) hx hb dL_append_15 rfl hl (by decide) rfl (fun ls hl => ?_)
  refine lv_iconst (v := (2 : Int32)) hx hb dL_append_16 (by decide) ?_
  exact kw_ret hC hr hlocks hK4 hP hD hS (by decide) (by decide) dL_append_17 rfl
set_option maxHeartbeats 8000000 in
set_option maxRecDepth 100000 in
theorem sL_putAll (l : Launch) (hst : l.stackTraces = false) (g : kG) (cL : ClassId) (n : Nat) (a : Nat → Nat → Nat) (h : Nat → Nat → Nat) (G : St2) (V : St2) (o : Nat) (f : Nat → Int64) (r : Int32 × St2 × St2) (hR : fX4_putAll n G V = some (.inr r)) : kWr l g cL yL_putAll wsL_putAll ({ frames := 7, cells := 1, slots := 6, locals := 110 }) [.ref (a 0 0), .ref o] (w_F g a G ++ w_H g (a 0 2) h V ++ [(o, .inl (cL, 1, .inr (.inl f)))]) (w_F g a r.2.1 ++ w_H g (a 0 2) h r.2.2 ++ [(o, .inl (cL, 1, .inr (.inl (vp_updL f (0 : Int32).toNatClampNeg r.1.toInt64))))]) 0 := by
  refine kWr.of (cc := cL_putAll) (maxL := 3) (hh := [(0, 8, 11, 15), (0, 8, 14, 17)]) (by decide) rfl (Nat.le_of_ble_eq_true rfl) ?_
  intro p e s m args below meth c ls A hC hr hlocks htab hA hK4 hG hNx hl hP hD hS
  replace hC : CallFix p m c cL_putAll 3 s args wsL_putAll RL := hC
  obtain ⟨hx, hb, hml, hown, hts⟩ := id hC
  have hK := kT4_sub hK4
  replace hl : lv_has ls 3 [(0, .ref (a 0 0)), (1, .ref o)] := hl
  refine lv_aload_n hx hb dL_putAll_0 rfl (lv_at hl 1 rfl) ?_
  refine lv_iconst (v := (0 : Int32)) hx hb dL_putAll_1 (by decide) ?_
  refine lv_aload_n hx hb dL_putAll_2 rfl (lv_at hl 0 rfl) ?_
  refine kk_call_Vi (w' := w_F g a r.2.1 ++ w_H g (a 0 2) h r.2.2 ++ [(o, .inl (cL, 1, .inr (.inl f)))]) (As := []) (rest := [.int (0 : Int32), .ref o]) 0 4 hC (sX4_putAll l g n a h G V r hR) (cwV 0 hts gL_putAll_X4_putAll rfl rfl rfl (by decide +kernel) ⟨Nat.le_of_ble_eq_true rfl, Nat.le_of_ble_eq_true rfl⟩) hK hP hD hS hA (List.range 86) (kk_ml 86 rfl (by decide +kernel) (kk_m0 86 rfl rfl)) (by decide +kernel) rfl (kk_sl 86 rfl (by decide +kernel) (kk_s0 86 rfl rfl rfl)) rfl rfl rfl rfl rfl hl.1 (Nat.le_of_ble_eq_true rfl) dL_putAll_3 (fun H locs hP hD hS => ?_)
  refine lv_i2l (v := r.1.toInt64) hx hb dL_putAll_6 rfl ?_
  refine va_last hx hb hK4 hP hD hS 86 3 (kn_lastg rfl) rfl (kk_in 0 1 (by decide) (by decide) rfl) dL_putAll_7 (fun H locs hP hD hS => ?_)
  rw [kn_lasts (L := w_F g a r.2.1 ++ w_H g (a 0 2) h r.2.2) (n := 86) rfl] at hP hD
  refine lv_goto (tgt := 17) hx hb dL_putAll_8 (by decide) ?_
  refine lv_iconst (v := (0 : Int32)) hx hb dL_putAll_17 (by decide) ?_
  exact kw_ret hC hr hlocks hK4 hP hD hS (by decide) (by decide) dL_putAll_18 rfl
set_option maxHeartbeats 8000000 in
set_option maxRecDepth 100000 in
theorem sL_putAll_t2 (l : Launch) (hst : l.stackTraces = false) (g : kG) (cL : ClassId) (n : Nat) (a : Nat → Nat → Nat) (h : Nat → Nat → Nat) (G : St2) (V : St2) (o : Nat) (f : Nat → Int64) (G2 : St2) (hR : fX4_putAll n G V = some (.inl (2, G2))) : kWr l g cL yL_putAll wsL_putAll ({ frames := 7, cells := 1, slots := 6, locals := 110 }) [.ref (a 0 0), .ref o] (w_F g a G ++ w_H g (a 0 2) h V ++ [(o, .inl (cL, 1, .inr (.inl f)))]) (w_F g a G2 ++ w_H g (a 0 2) h V ++ [(o, .inl (cL, 1, .inr (.inl f)))]) 1 := by
  refine kWr.of (cc := cL_putAll) (maxL := 3) (hh := [(0, 8, 11, 15), (0, 8, 14, 17)]) (by decide) rfl (Nat.le_of_ble_eq_true rfl) ?_
  intro p e s m args below meth c ls A hC hr hlocks htab hA hK4 hG hNx hl hP hD hS
  replace hC : CallFix p m c cL_putAll 3 s args wsL_putAll RL := hC
  obtain ⟨hx, hb, hml, hown, hts⟩ := id hC
  have hK := kT4_sub hK4
  replace hl : lv_has ls 3 [(0, .ref (a 0 0)), (1, .ref o)] := hl
  refine lv_aload_n hx hb dL_putAll_0 rfl (lv_at hl 1 rfl) ?_
  refine lv_iconst (v := (0 : Int32)) hx hb dL_putAll_1 (by decide) ?_
  refine lv_aload_n hx hb dL_putAll_2 rfl (lv_at hl 0 rfl) ?_
  refine kw_callC (w' := w_F g a G2 ++ w_H g (a 0 2) h V ++ [(o, .inl (cL, 1, .inr (.inl f)))]) (As := []) (rest := [.int (0 : Int32), .ref o]) 0 4 hC (sX4_putAll_th l hst g n a h G V (2, G2) hR) (cwV 0 hts gL_putAll_X4_putAll rfl rfl rfl (by decide +kernel) ⟨Nat.le_of_ble_eq_true rfl, Nat.le_of_ble_eq_true rfl⟩) hK hG hP hD hS hA (List.range 86) (kk_ml 86 rfl (by decide +kernel) (kk_m0 86 rfl rfl)) (by decide +kernel) rfl (kk_sl 86 rfl (by decide +kernel) (kk_s0 86 rfl rfl rfl)) rfl rfl rfl rfl rfl hl.1 (Nat.le_of_ble_eq_true rfl) dL_putAll_3 ⟨Nat.le_of_ble_eq_true rfl, Nat.le_of_ble_eq_true rfl⟩ (fun H locs q9 ce hce hcv hcl hP hD hS => ?_)
  refine vx_catch hown [] ⟨0, 8, 11, 15⟩ [⟨0, 8, 14, 17⟩] (by rw [htab]; rfl) (fun _ h9 => absurd h9 List.not_mem_nil) (by decide) (by decide) (hts (.classLink RL 15 "java/lang/IllegalArgumentException") (by decide +kernel)) (va_Nw.use rfl (hG.2.2.2.1 2)) hce hcv hcl ?_
  refine lv_astore_n (i := 2) (lv' := (2, .ref q9) :: [(0, .ref (a 0 0)), (1, .ref o)]) hx hb dL_putAll_11 rfl hl (by decide) rfl (fun ls hl => ?_)
  refine lv_iconst (v := (1 : Int32)) hx hb dL_putAll_12 (by decide) ?_
  exact kw_ret hC hr hlocks hK4 hP hD hS (by decide) (by decide) dL_putAll_13 rfl
set_option maxHeartbeats 8000000 in
set_option maxRecDepth 100000 in
theorem sL_putAll_t3 (l : Launch) (hst : l.stackTraces = false) (g : kG) (cL : ClassId) (n : Nat) (a : Nat → Nat → Nat) (h : Nat → Nat → Nat) (G : St2) (V : St2) (o : Nat) (f : Nat → Int64) (G2 : St2) (hR : fX4_putAll n G V = some (.inl (3, G2))) : kWr l g cL yL_putAll wsL_putAll ({ frames := 7, cells := 1, slots := 6, locals := 110 }) [.ref (a 0 0), .ref o] (w_F g a G ++ w_H g (a 0 2) h V ++ [(o, .inl (cL, 1, .inr (.inl f)))]) (w_F g a G2 ++ w_H g (a 0 2) h V ++ [(o, .inl (cL, 1, .inr (.inl f)))]) 2 := by
  refine kWr.of (cc := cL_putAll) (maxL := 3) (hh := [(0, 8, 11, 15), (0, 8, 14, 17)]) (by decide) rfl (Nat.le_of_ble_eq_true rfl) ?_
  intro p e s m args below meth c ls A hC hr hlocks htab hA hK4 hG hNx hl hP hD hS
  replace hC : CallFix p m c cL_putAll 3 s args wsL_putAll RL := hC
  obtain ⟨hx, hb, hml, hown, hts⟩ := id hC
  have hK := kT4_sub hK4
  replace hl : lv_has ls 3 [(0, .ref (a 0 0)), (1, .ref o)] := hl
  refine lv_aload_n hx hb dL_putAll_0 rfl (lv_at hl 1 rfl) ?_
  refine lv_iconst (v := (0 : Int32)) hx hb dL_putAll_1 (by decide) ?_
  refine lv_aload_n hx hb dL_putAll_2 rfl (lv_at hl 0 rfl) ?_
  refine kw_callC (w' := w_F g a G2 ++ w_H g (a 0 2) h V ++ [(o, .inl (cL, 1, .inr (.inl f)))]) (As := []) (rest := [.int (0 : Int32), .ref o]) 0 4 hC (sX4_putAll_th l hst g n a h G V (3, G2) hR) (cwV 0 hts gL_putAll_X4_putAll rfl rfl rfl (by decide +kernel) ⟨Nat.le_of_ble_eq_true rfl, Nat.le_of_ble_eq_true rfl⟩) hK hG hP hD hS hA (List.range 86) (kk_ml 86 rfl (by decide +kernel) (kk_m0 86 rfl rfl)) (by decide +kernel) rfl (kk_sl 86 rfl (by decide +kernel) (kk_s0 86 rfl rfl rfl)) rfl rfl rfl rfl rfl hl.1 (Nat.le_of_ble_eq_true rfl) dL_putAll_3 ⟨Nat.le_of_ble_eq_true rfl, Nat.le_of_ble_eq_true rfl⟩ (fun H locs q9 ce hce hcv hcl hP hD hS => ?_)
  refine vx_catch hown [⟨0, 8, 11, 15⟩] ⟨0, 8, 14, 17⟩ [] (by rw [htab]; rfl) (List.forall_mem_cons.mpr ⟨.inr ⟨by decide, _, hts (.classLink RL 15 "java/lang/IllegalArgumentException") (by decide +kernel), hNx.2.2⟩, fun _ h9 => absurd h9 List.not_mem_nil⟩) (by decide) (by decide) (hts (.classLink RL 17 "java/lang/IllegalStateException") (by decide +kernel)) (va_Nw.use rfl (hG.2.2.2.1 3)) hce hcv hcl ?_
  refine lv_astore_n (i := 2) (lv' := (2, .ref q9) :: [(0, .ref (a 0 0)), (1, .ref o)]) hx hb dL_putAll_14 rfl hl (by decide) rfl (fun ls hl => ?_)
  refine lv_iconst (v := (2 : Int32)) hx hb dL_putAll_15 (by decide) ?_
  exact kw_ret hC hr hlocks hK4 hP hD hS (by decide) (by decide) dL_putAll_16 rfl
set_option maxHeartbeats 8000000 in
set_option maxRecDepth 100000 in
theorem sL_undo (l : Launch) (hst : l.stackTraces = false) (g : kG) (cL : ClassId) (n : Nat) (a : Nat → Nat → Nat) (h : Nat → Nat → Nat) (G : St2) (V : St2) (o : Nat) (f : Nat → Int64) (r : Int32 × St2 × St2) (hR : fX4_undo n G V = some (.inr r)) : kWr l g cL yL_undo wsL_undo ({ frames := 7, cells := 1, slots := 6, locals := 110 }) [.ref (a 0 0), .ref o] (w_F g a G ++ w_H g (a 0 2) h V ++ [(o, .inl (cL, 1, .inr (.inl f)))]) (w_F g a r.2.1 ++ w_H g (a 0 2) h r.2.2 ++ [(o, .inl (cL, 1, .inr (.inl (vp_updL f (0 : Int32).toNatClampNeg r.1.toInt64))))]) 0 := by
  refine kWr.of (cc := cL_undo) (maxL := 3) (hh := [(0, 8, 11, 17)]) (by decide) rfl (Nat.le_of_ble_eq_true rfl) ?_
  intro p e s m args below meth c ls A hC hr hlocks htab hA hK4 hG hNx hl hP hD hS
  replace hC : CallFix p m c cL_undo 3 s args wsL_undo RL := hC
  obtain ⟨hx, hb, hml, hown, hts⟩ := id hC
  have hK := kT4_sub hK4
  replace hl : lv_has ls 3 [(0, .ref (a 0 0)), (1, .ref o)] := hl
  refine lv_aload_n hx hb dL_undo_0 rfl (lv_at hl 1 rfl) ?_
  refine lv_iconst (v := (0 : Int32)) hx hb dL_undo_1 (by decide) ?_
  refine lv_aload_n hx hb dL_undo_2 rfl (lv_at hl 0 rfl) ?_
  refine kk_call_Vi (w' := w_F g a r.2.1 ++ w_H g (a 0 2) h r.2.2 ++ [(o, .inl (cL, 1, .inr (.inl f)))]) (As := []) (rest := [.int (0 : Int32), .ref o]) 0 4 hC (sX4_undo l g n a h G V r hR) (cwV 0 hts gL_undo_X4_undo rfl rfl rfl (by decide +kernel) ⟨Nat.le_of_ble_eq_true rfl, Nat.le_of_ble_eq_true rfl⟩) hK hP hD hS hA (List.range 86) (kk_ml 86 rfl (by decide +kernel) (kk_m0 86 rfl rfl)) (by decide +kernel) rfl (kk_sl 86 rfl (by decide +kernel) (kk_s0 86 rfl rfl rfl)) rfl rfl rfl rfl rfl hl.1 (Nat.le_of_ble_eq_true rfl) dL_undo_3 (fun H locs hP hD hS => ?_)
  refine lv_i2l (v := r.1.toInt64) hx hb dL_undo_6 rfl ?_
  refine va_last hx hb hK4 hP hD hS 86 3 (kn_lastg rfl) rfl (kk_in 0 1 (by decide) (by decide) rfl) dL_undo_7 (fun H locs hP hD hS => ?_)
  rw [kn_lasts (L := w_F g a r.2.1 ++ w_H g (a 0 2) h r.2.2) (n := 86) rfl] at hP hD
  refine lv_goto (tgt := 14) hx hb dL_undo_8 (by decide) ?_
  refine lv_iconst (v := (0 : Int32)) hx hb dL_undo_14 (by decide) ?_
  exact kw_ret hC hr hlocks hK4 hP hD hS (by decide) (by decide) dL_undo_15 rfl
set_option maxHeartbeats 8000000 in
set_option maxRecDepth 100000 in
theorem sL_undo_t3 (l : Launch) (hst : l.stackTraces = false) (g : kG) (cL : ClassId) (n : Nat) (a : Nat → Nat → Nat) (h : Nat → Nat → Nat) (G : St2) (V : St2) (o : Nat) (f : Nat → Int64) (hR : fX4_undo n G V = some (.inl 3)) : kWr l g cL yL_undo wsL_undo ({ frames := 7, cells := 1, slots := 6, locals := 110 }) [.ref (a 0 0), .ref o] (w_F g a G ++ w_H g (a 0 2) h V ++ [(o, .inl (cL, 1, .inr (.inl f)))]) (w_F g a G ++ w_H g (a 0 2) h V ++ [(o, .inl (cL, 1, .inr (.inl f)))]) 1 := by
  refine kWr.of (cc := cL_undo) (maxL := 3) (hh := [(0, 8, 11, 17)]) (by decide) rfl (Nat.le_of_ble_eq_true rfl) ?_
  intro p e s m args below meth c ls A hC hr hlocks htab hA hK4 hG hNx hl hP hD hS
  replace hC : CallFix p m c cL_undo 3 s args wsL_undo RL := hC
  obtain ⟨hx, hb, hml, hown, hts⟩ := id hC
  have hK := kT4_sub hK4
  replace hl : lv_has ls 3 [(0, .ref (a 0 0)), (1, .ref o)] := hl
  refine lv_aload_n hx hb dL_undo_0 rfl (lv_at hl 1 rfl) ?_
  refine lv_iconst (v := (0 : Int32)) hx hb dL_undo_1 (by decide) ?_
  refine lv_aload_n hx hb dL_undo_2 rfl (lv_at hl 0 rfl) ?_
  refine kw_callC (w' := w_F g a G ++ w_H g (a 0 2) h V ++ [(o, .inl (cL, 1, .inr (.inl f)))]) (As := []) (rest := [.int (0 : Int32), .ref o]) 0 4 hC (sX4_undo_th l hst g n a h G V 3 hR) (cwV 0 hts gL_undo_X4_undo rfl rfl rfl (by decide +kernel) ⟨Nat.le_of_ble_eq_true rfl, Nat.le_of_ble_eq_true rfl⟩) hK hG hP hD hS hA (List.range 86) (kk_ml 86 rfl (by decide +kernel) (kk_m0 86 rfl rfl)) (by decide +kernel) rfl (kk_sl 86 rfl (by decide +kernel) (kk_s0 86 rfl rfl rfl)) rfl rfl rfl rfl rfl hl.1 (Nat.le_of_ble_eq_true rfl) dL_undo_3 ⟨Nat.le_of_ble_eq_true rfl, Nat.le_of_ble_eq_true rfl⟩ (fun H locs q9 ce hce hcv hcl hP hD hS => ?_)
  refine vx_catch hown [] ⟨0, 8, 11, 17⟩ [] (by rw [htab]; rfl) (fun _ h9 => absurd h9 List.not_mem_nil) (by decide) (by decide) (hts (.classLink RL 17 "java/lang/IllegalStateException") (by decide +kernel)) (va_Nw.use rfl (hG.2.2.2.1 3)) hce hcv hcl ?_
  refine lv_astore_n (i := 2) (lv' := (2, .ref q9) :: [(0, .ref (a 0 0)), (1, .ref o)]) hx hb dL_undo_11 rfl hl (by decide) rfl (fun ls hl => ?_)
  refine lv_iconst (v := (1 : Int32)) hx hb dL_undo_12 (by decide) ?_
  exact kw_ret hC hr hlocks hK4 hP hD hS (by decide) (by decide) dL_undo_13 rfl
set_option maxHeartbeats 8000000 in
set_option maxRecDepth 100000 in
theorem sL_floatAt (l : Launch) (hst : l.stackTraces = false) (g : kG) (cL : ClassId) (n : Nat) (a : Nat → Nat → Nat) (G : St2) (o : Nat) (f : Nat → Int64) (v1 : Int32) (v2 : Int32) (r : Int32) (hR : fX4_floatAt n G v1 v2 = some (.inr r)) : kWr l g cL yL_floatAt wsL_floatAt ({ frames := 8, cells := 1, slots := 6, locals := 133 }) [.ref (a 0 0), .int v1, .int v2, .ref o] (w_F g a G ++ [(o, .inl (cL, 1, .inr (.inl f)))]) (w_F g a G ++ [(o, .inl (cL, 1, .inr (.inl (vp_updL f (0 : Int32).toNatClampNeg r.toInt64))))]) 0 := by
  refine kWr.of (cc := cL_floatAt) (maxL := 5) (hh := [(0, 10, 13, 13), (0, 10, 17, 15)]) (by decide) rfl (Nat.le_of_ble_eq_true rfl) ?_
  intro p e s m args below meth c ls A hC hr hlocks htab hA hK4 hG hNx hl hP hD hS
  replace hC : CallFix p m c cL_floatAt 5 s args wsL_floatAt RL := hC
  obtain ⟨hx, hb, hml, hown, hts⟩ := id hC
  have hK := kT4_sub hK4
  replace hl : lv_has ls 5 [(0, .ref (a 0 0)), (1, .int v1), (2, .int v2), (3, .ref o)] := hl
  refine lv_aload_n hx hb dL_floatAt_0 rfl (lv_at hl 3 rfl) ?_
  refine lv_iconst (v := (0 : Int32)) hx hb dL_floatAt_1 (by decide) ?_
  refine lv_aload_n hx hb dL_floatAt_2 rfl (lv_at hl 0 rfl) ?_
  refine lv_iload_n hx hb dL_floatAt_3 rfl (lv_at hl 1 rfl) ?_
  refine lv_iload_n hx hb dL_floatAt_4 rfl (lv_at hl 2 rfl) ?_
  refine kk_call_Vi (w' := w_F g a G ++ [(o, .inl (cL, 1, .inr (.inl f)))]) (As := [.int v1, .int v2]) (rest := [.int (0 : Int32), .ref o]) 0 4 hC (sX4_floatAt l g n a G v1 v2 r hR) (cwV 2 hts gL_floatAt_X4_floatAt rfl rfl rfl (by decide +kernel) ⟨Nat.le_of_ble_eq_true rfl, Nat.le_of_ble_eq_true rfl⟩) hK hP hD hS hA (List.range 24) (kk_ml 24 rfl (by decide +kernel) (kk_m0 24 rfl rfl)) (by decide +kernel) rfl (kk_sl 24 rfl (by decide +kernel) (kk_s0 24 rfl rfl rfl)) rfl rfl rfl rfl rfl hl.1 (Nat.le_of_ble_eq_true rfl) dL_floatAt_5 (fun H locs hP hD hS => ?_)
  refine lv_i2l (v := r.toInt64) hx hb dL_floatAt_8 rfl ?_
  refine va_last hx hb hK4 hP hD hS 24 3 (kn_lastg rfl) rfl (kk_in 0 1 (by decide) (by decide) rfl) dL_floatAt_9 (fun H locs hP hD hS => ?_)
  rw [kn_lasts (L := w_F g a G) (n := 24) rfl] at hP hD
  refine lv_goto (tgt := 21) hx hb dL_floatAt_10 (by decide) ?_
  refine lv_iconst (v := (0 : Int32)) hx hb dL_floatAt_21 (by decide) ?_
  exact kw_ret hC hr hlocks hK4 hP hD hS (by decide) (by decide) dL_floatAt_22 rfl
set_option maxHeartbeats 8000000 in
set_option maxRecDepth 100000 in
theorem sL_floatAt_t1 (l : Launch) (hst : l.stackTraces = false) (g : kG) (cL : ClassId) (n : Nat) (a : Nat → Nat → Nat) (G : St2) (o : Nat) (f : Nat → Int64) (v1 : Int32) (v2 : Int32) (hR : fX4_floatAt n G v1 v2 = some (.inl 1)) : kWr l g cL yL_floatAt wsL_floatAt ({ frames := 8, cells := 1, slots := 6, locals := 133 }) [.ref (a 0 0), .int v1, .int v2, .ref o] (w_F g a G ++ [(o, .inl (cL, 1, .inr (.inl f)))]) (w_F g a G ++ [(o, .inl (cL, 1, .inr (.inl f)))]) 1 := by
  refine kWr.of (cc := cL_floatAt) (maxL := 5) (hh := [(0, 10, 13, 13), (0, 10, 17, 15)]) (by decide) rfl (Nat.le_of_ble_eq_true rfl) ?_
  intro p e s m args below meth c ls A hC hr hlocks htab hA hK4 hG hNx hl hP hD hS
  replace hC : CallFix p m c cL_floatAt 5 s args wsL_floatAt RL := hC
  obtain ⟨hx, hb, hml, hown, hts⟩ := id hC
  have hK := kT4_sub hK4
  replace hl : lv_has ls 5 [(0, .ref (a 0 0)), (1, .int v1), (2, .int v2), (3, .ref o)] := hl
  refine lv_aload_n hx hb dL_floatAt_0 rfl (lv_at hl 3 rfl) ?_
  refine lv_iconst (v := (0 : Int32)) hx hb dL_floatAt_1 (by decide) ?_
  refine lv_aload_n hx hb dL_floatAt_2 rfl (lv_at hl 0 rfl) ?_
  refine lv_iload_n hx hb dL_floatAt_3 rfl (lv_at hl 1 rfl) ?_
  refine lv_iload_n hx hb dL_floatAt_4 rfl (lv_at hl 2 rfl) ?_
  refine kw_callC (w' := w_F g a G ++ [(o, .inl (cL, 1, .inr (.inl f)))]) (As := [.int v1, .int v2]) (rest := [.int (0 : Int32), .ref o]) 0 4 hC (sX4_floatAt_th l hst g n a G v1 v2 1 hR) (cwV 2 hts gL_floatAt_X4_floatAt rfl rfl rfl (by decide +kernel) ⟨Nat.le_of_ble_eq_true rfl, Nat.le_of_ble_eq_true rfl⟩) hK hG hP hD hS hA (List.range 24) (kk_ml 24 rfl (by decide +kernel) (kk_m0 24 rfl rfl)) (by decide +kernel) rfl (kk_sl 24 rfl (by decide +kernel) (kk_s0 24 rfl rfl rfl)) rfl rfl rfl rfl rfl hl.1 (Nat.le_of_ble_eq_true rfl) dL_floatAt_5 ⟨Nat.le_of_ble_eq_true rfl, Nat.le_of_ble_eq_true rfl⟩ (fun H locs q9 ce hce hcv hcl hP hD hS => ?_)
  refine vx_catch hown [] ⟨0, 10, 13, 13⟩ [⟨0, 10, 17, 15⟩] (by rw [htab]; rfl) (fun _ h9 => absurd h9 List.not_mem_nil) (by decide) (by decide) (hts (.classLink RL 13 "java/lang/IndexOutOfBoundsException") (by decide +kernel)) (va_Nw.use rfl (hG.2.2.2.1 1)) hce hcv hcl ?_
  refine lv_astore (i := 4) (lv' := (4, .ref q9) :: [(0, .ref (a 0 0)), (1, .int v1), (2, .int v2), (3, .ref o)]) hx hb dL_floatAt_13 hl (by decide) rfl (fun ls hl => ?_)
  refine lv_iconst (v := (1 : Int32)) hx hb dL_floatAt_15 (by decide) ?_
  exact kw_ret hC hr hlocks hK4 hP hD hS (by decide) (by decide) dL_floatAt_16 rfl
set_option maxHeartbeats 8000000 in
set_option maxRecDepth 100000 in
theorem sL_floatAt_t2 (l : Launch) (hst : l.stackTraces = false) (g : kG) (cL : ClassId) (n : Nat) (a : Nat → Nat → Nat) (G : St2) (o : Nat) (f : Nat → Int64) (v1 : Int32) (v2 : Int32) (hR : fX4_floatAt n G v1 v2 = some (.inl 2)) : kWr l g cL yL_floatAt wsL_floatAt ({ frames := 8, cells := 1, slots := 6, locals := 133 }) [.ref (a 0 0), .int v1, .int v2, .ref o] (w_F g a G ++ [(o, .inl (cL, 1, .inr (.inl f)))]) (w_F g a G ++ [(o, .inl (cL, 1, .inr (.inl f)))]) 2 := by
  refine kWr.of (cc := cL_floatAt) (maxL := 5) (hh := [(0, 10, 13, 13), (0, 10, 17, 15)]) (by decide) rfl (Nat.le_of_ble_eq_true rfl) ?_
  intro p e s m args below meth c ls A hC hr hlocks htab hA hK4 hG hNx hl hP hD hS
  replace hC : CallFix p m c cL_floatAt 5 s args wsL_floatAt RL := hC
  obtain ⟨hx, hb, hml, hown, hts⟩ := id hC
  have hK := kT4_sub hK4
  replace hl : lv_has ls 5 [(0, .ref (a 0 0)), (1, .int v1), (2, .int v2), (3, .ref o)] := hl
  refine lv_aload_n hx hb dL_floatAt_0 rfl (lv_at hl 3 rfl) ?_
  refine lv_iconst (v := (0 : Int32)) hx hb dL_floatAt_1 (by decide) ?_
  refine lv_aload_n hx hb dL_floatAt_2 rfl (lv_at hl 0 rfl) ?_
  refine lv_iload_n hx hb dL_floatAt_3 rfl (lv_at hl 1 rfl) ?_
  refine lv_iload_n hx hb dL_floatAt_4 rfl (lv_at hl 2 rfl) ?_
  refine kw_callC (w' := w_F g a G ++ [(o, .inl (cL, 1, .inr (.inl f)))]) (As := [.int v1, .int v2]) (rest := [.int (0 : Int32), .ref o]) 0 4 hC (sX4_floatAt_th l hst g n a G v1 v2 2 hR) (cwV 2 hts gL_floatAt_X4_floatAt rfl rfl rfl (by decide +kernel) ⟨Nat.le_of_ble_eq_true rfl, Nat.le_of_ble_eq_true rfl⟩) hK hG hP hD hS hA (List.range 24) (kk_ml 24 rfl (by decide +kernel) (kk_m0 24 rfl rfl)) (by decide +kernel) rfl (kk_sl 24 rfl (by decide +kernel) (kk_s0 24 rfl rfl rfl)) rfl rfl rfl rfl rfl hl.1 (Nat.le_of_ble_eq_true rfl) dL_floatAt_5 ⟨Nat.le_of_ble_eq_true rfl, Nat.le_of_ble_eq_true rfl⟩ (fun H locs q9 ce hce hcv hcl hP hD hS => ?_)
  refine vx_catch hown [⟨0, 10, 13, 13⟩] ⟨0, 10, 17, 15⟩ [] (by rw [htab]; rfl) (List.forall_mem_cons.mpr ⟨.inr ⟨by decide, _, hts (.classLink RL 13 "java/lang/IndexOutOfBoundsException") (by decide +kernel), hNx.1⟩, fun _ h9 => absurd h9 List.not_mem_nil⟩) (by decide) (by decide) (hts (.classLink RL 15 "java/lang/IllegalArgumentException") (by decide +kernel)) (va_Nw.use rfl (hG.2.2.2.1 2)) hce hcv hcl ?_
  refine lv_astore (i := 4) (lv' := (4, .ref q9) :: [(0, .ref (a 0 0)), (1, .int v1), (2, .int v2), (3, .ref o)]) hx hb dL_floatAt_17 hl (by decide) rfl (fun ls hl => ?_)
  refine lv_iconst (v := (2 : Int32)) hx hb dL_floatAt_19 (by decide) ?_
  exact kw_ret hC hr hlocks hK4 hP hD hS (by decide) (by decide) dL_floatAt_20 rfl
set_option maxHeartbeats 8000000 in
set_option maxRecDepth 100000 in
theorem sL_trouble (l : Launch) (hst : l.stackTraces = false) (g : kG) (cL : ClassId) (n : Nat) (a : Nat → Nat → Nat) (G : St2) (o : Nat) (f : Nat → Int64) (v1 : Int32) (v2 : Int32) (r : Int32) (hR : fX4_trouble n G v1 v2 = some (.inr r)) : kWr l g cL yL_trouble wsL_trouble ({ frames := 8, cells := 1, slots := 6, locals := 133 }) [.ref (a 0 0), .int v1, .int v2, .ref o] (w_F g a G ++ [(o, .inl (cL, 1, .inr (.inl f)))]) (w_F g a G ++ [(o, .inl (cL, 1, .inr (.inl (vp_updL f (0 : Int32).toNatClampNeg r.toInt64))))]) 0 := by
  refine kWr.of (cc := cL_trouble) (maxL := 5) (hh := [(0, 10, 13, 13), (0, 10, 17, 15)]) (by decide) rfl (Nat.le_of_ble_eq_true rfl) ?_
  intro p e s m args below meth c ls A hC hr hlocks htab hA hK4 hG hNx hl hP hD hS
  replace hC : CallFix p m c cL_trouble 5 s args wsL_trouble RL := hC
  obtain ⟨hx, hb, hml, hown, hts⟩ := id hC
  have hK := kT4_sub hK4
  replace hl : lv_has ls 5 [(0, .ref (a 0 0)), (1, .int v1), (2, .int v2), (3, .ref o)] := hl
  refine lv_aload_n hx hb dL_trouble_0 rfl (lv_at hl 3 rfl) ?_
  refine lv_iconst (v := (0 : Int32)) hx hb dL_trouble_1 (by decide) ?_
  refine lv_aload_n hx hb dL_trouble_2 rfl (lv_at hl 0 rfl) ?_
  refine lv_iload_n hx hb dL_trouble_3 rfl (lv_at hl 1 rfl) ?_
  refine lv_iload_n hx hb dL_trouble_4 rfl (lv_at hl 2 rfl) ?_
  refine kk_call_Vi (w' := w_F g a G ++ [(o, .inl (cL, 1, .inr (.inl f)))]) (As := [.int v1, .int v2]) (rest := [.int (0 : Int32), .ref o]) 0 4 hC (sX4_trouble l g n a G v1 v2 r hR) (cwV 2 hts gL_trouble_X4_trouble rfl rfl rfl (by decide +kernel) ⟨Nat.le_of_ble_eq_true rfl, Nat.le_of_ble_eq_true rfl⟩) hK hP hD hS hA (List.range 24) (kk_ml 24 rfl (by decide +kernel) (kk_m0 24 rfl rfl)) (by decide +kernel) rfl (kk_sl 24 rfl (by decide +kernel) (kk_s0 24 rfl rfl rfl)) rfl rfl rfl rfl rfl hl.1 (Nat.le_of_ble_eq_true rfl) dL_trouble_5 (fun H locs hP hD hS => ?_)
  refine lv_i2l (v := r.toInt64) hx hb dL_trouble_8 rfl ?_
  refine va_last hx hb hK4 hP hD hS 24 3 (kn_lastg rfl) rfl (kk_in 0 1 (by decide) (by decide) rfl) dL_trouble_9 (fun H locs hP hD hS => ?_)
  rw [kn_lasts (L := w_F g a G) (n := 24) rfl] at hP hD
  refine lv_goto (tgt := 21) hx hb dL_trouble_10 (by decide) ?_
  refine lv_iconst (v := (0 : Int32)) hx hb dL_trouble_21 (by decide) ?_
  exact kw_ret hC hr hlocks hK4 hP hD hS (by decide) (by decide) dL_trouble_22 rfl
set_option maxHeartbeats 8000000 in
set_option maxRecDepth 100000 in
theorem sL_trouble_t1 (l : Launch) (hst : l.stackTraces = false) (g : kG) (cL : ClassId) (n : Nat) (a : Nat → Nat → Nat) (G : St2) (o : Nat) (f : Nat → Int64) (v1 : Int32) (v2 : Int32) (hR : fX4_trouble n G v1 v2 = some (.inl 1)) : kWr l g cL yL_trouble wsL_trouble ({ frames := 8, cells := 1, slots := 6, locals := 133 }) [.ref (a 0 0), .int v1, .int v2, .ref o] (w_F g a G ++ [(o, .inl (cL, 1, .inr (.inl f)))]) (w_F g a G ++ [(o, .inl (cL, 1, .inr (.inl f)))]) 1 := by
  refine kWr.of (cc := cL_trouble) (maxL := 5) (hh := [(0, 10, 13, 13), (0, 10, 17, 15)]) (by decide) rfl (Nat.le_of_ble_eq_true rfl) ?_
  intro p e s m args below meth c ls A hC hr hlocks htab hA hK4 hG hNx hl hP hD hS
  replace hC : CallFix p m c cL_trouble 5 s args wsL_trouble RL := hC
  obtain ⟨hx, hb, hml, hown, hts⟩ := id hC
  have hK := kT4_sub hK4
  replace hl : lv_has ls 5 [(0, .ref (a 0 0)), (1, .int v1), (2, .int v2), (3, .ref o)] := hl
  refine lv_aload_n hx hb dL_trouble_0 rfl (lv_at hl 3 rfl) ?_
  refine lv_iconst (v := (0 : Int32)) hx hb dL_trouble_1 (by decide) ?_
  refine lv_aload_n hx hb dL_trouble_2 rfl (lv_at hl 0 rfl) ?_
  refine lv_iload_n hx hb dL_trouble_3 rfl (lv_at hl 1 rfl) ?_
  refine lv_iload_n hx hb dL_trouble_4 rfl (lv_at hl 2 rfl) ?_
  refine kw_callC (w' := w_F g a G ++ [(o, .inl (cL, 1, .inr (.inl f)))]) (As := [.int v1, .int v2]) (rest := [.int (0 : Int32), .ref o]) 0 4 hC (sX4_trouble_th l hst g n a G v1 v2 1 hR) (cwV 2 hts gL_trouble_X4_trouble rfl rfl rfl (by decide +kernel) ⟨Nat.le_of_ble_eq_true rfl, Nat.le_of_ble_eq_true rfl⟩) hK hG hP hD hS hA (List.range 24) (kk_ml 24 rfl (by decide +kernel) (kk_m0 24 rfl rfl)) (by decide +kernel) rfl (kk_sl 24 rfl (by decide +kernel) (kk_s0 24 rfl rfl rfl)) rfl rfl rfl rfl rfl hl.1 (Nat.le_of_ble_eq_true rfl) dL_trouble_5 ⟨Nat.le_of_ble_eq_true rfl, Nat.le_of_ble_eq_true rfl⟩ (fun H locs q9 ce hce hcv hcl hP hD hS => ?_)
  refine vx_catch hown [] ⟨0, 10, 13, 13⟩ [⟨0, 10, 17, 15⟩] (by rw [htab]; rfl) (fun _ h9 => absurd h9 List.not_mem_nil) (by decide) (by decide) (hts (.classLink RL 13 "java/lang/IndexOutOfBoundsException") (by decide +kernel)) (va_Nw.use rfl (hG.2.2.2.1 1)) hce hcv hcl ?_
  refine lv_astore (i := 4) (lv' := (4, .ref q9) :: [(0, .ref (a 0 0)), (1, .int v1), (2, .int v2), (3, .ref o)]) hx hb dL_trouble_13 hl (by decide) rfl (fun ls hl => ?_)
  refine lv_iconst (v := (1 : Int32)) hx hb dL_trouble_15 (by decide) ?_
  exact kw_ret hC hr hlocks hK4 hP hD hS (by decide) (by decide) dL_trouble_16 rfl
set_option maxHeartbeats 8000000 in
set_option maxRecDepth 100000 in
theorem sL_trouble_t2 (l : Launch) (hst : l.stackTraces = false) (g : kG) (cL : ClassId) (n : Nat) (a : Nat → Nat → Nat) (G : St2) (o : Nat) (f : Nat → Int64) (v1 : Int32) (v2 : Int32) (hR : fX4_trouble n G v1 v2 = some (.inl 2)) : kWr l g cL yL_trouble wsL_trouble ({ frames := 8, cells := 1, slots := 6, locals := 133 }) [.ref (a 0 0), .int v1, .int v2, .ref o] (w_F g a G ++ [(o, .inl (cL, 1, .inr (.inl f)))]) (w_F g a G ++ [(o, .inl (cL, 1, .inr (.inl f)))]) 2 := by
  refine kWr.of (cc := cL_trouble) (maxL := 5) (hh := [(0, 10, 13, 13), (0, 10, 17, 15)]) (by decide) rfl (Nat.le_of_ble_eq_true rfl) ?_
  intro p e s m args below meth c ls A hC hr hlocks htab hA hK4 hG hNx hl hP hD hS
  replace hC : CallFix p m c cL_trouble 5 s args wsL_trouble RL := hC
  obtain ⟨hx, hb, hml, hown, hts⟩ := id hC
  have hK := kT4_sub hK4
  replace hl : lv_has ls 5 [(0, .ref (a 0 0)), (1, .int v1), (2, .int v2), (3, .ref o)] := hl
  refine lv_aload_n hx hb dL_trouble_0 rfl (lv_at hl 3 rfl) ?_
  refine lv_iconst (v := (0 : Int32)) hx hb dL_trouble_1 (by decide) ?_
  refine lv_aload_n hx hb dL_trouble_2 rfl (lv_at hl 0 rfl) ?_
  refine lv_iload_n hx hb dL_trouble_3 rfl (lv_at hl 1 rfl) ?_
  refine lv_iload_n hx hb dL_trouble_4 rfl (lv_at hl 2 rfl) ?_
  refine kw_callC (w' := w_F g a G ++ [(o, .inl (cL, 1, .inr (.inl f)))]) (As := [.int v1, .int v2]) (rest := [.int (0 : Int32), .ref o]) 0 4 hC (sX4_trouble_th l hst g n a G v1 v2 2 hR) (cwV 2 hts gL_trouble_X4_trouble rfl rfl rfl (by decide +kernel) ⟨Nat.le_of_ble_eq_true rfl, Nat.le_of_ble_eq_true rfl⟩) hK hG hP hD hS hA (List.range 24) (kk_ml 24 rfl (by decide +kernel) (kk_m0 24 rfl rfl)) (by decide +kernel) rfl (kk_sl 24 rfl (by decide +kernel) (kk_s0 24 rfl rfl rfl)) rfl rfl rfl rfl rfl hl.1 (Nat.le_of_ble_eq_true rfl) dL_trouble_5 ⟨Nat.le_of_ble_eq_true rfl, Nat.le_of_ble_eq_true rfl⟩ (fun H locs q9 ce hce hcv hcl hP hD hS => ?_)
  refine vx_catch hown [⟨0, 10, 13, 13⟩] ⟨0, 10, 17, 15⟩ [] (by rw [htab]; rfl) (List.forall_mem_cons.mpr ⟨.inr ⟨by decide, _, hts (.classLink RL 13 "java/lang/IndexOutOfBoundsException") (by decide +kernel), hNx.1⟩, fun _ h9 => absurd h9 List.not_mem_nil⟩) (by decide) (by decide) (hts (.classLink RL 15 "java/lang/IllegalArgumentException") (by decide +kernel)) (va_Nw.use rfl (hG.2.2.2.1 2)) hce hcv hcl ?_
  refine lv_astore (i := 4) (lv' := (4, .ref q9) :: [(0, .ref (a 0 0)), (1, .int v1), (2, .int v2), (3, .ref o)]) hx hb dL_trouble_17 hl (by decide) rfl (fun ls hl => ?_)
  refine lv_iconst (v := (2 : Int32)) hx hb dL_trouble_19 (by decide) ?_
  exact kw_ret hC hr hlocks hK4 hP hD hS (by decide) (by decide) dL_trouble_20 rfl
set_option maxHeartbeats 8000000 in
set_option maxRecDepth 100000 in
theorem sL_comes (l : Launch) (hst : l.stackTraces = false) (g : kG) (cL : ClassId) (n : Nat) (a : Nat → Nat → Nat) (G : St2) (o : Nat) (f : Nat → Int64) (v1 : Int32) (v2 : Int32) (r : Int32 × St2) (hR : fX4_comes n G v1 v2 = some (.inr r)) : kWr l g cL yL_comes wsL_comes ({ frames := 8, cells := 1, slots := 6, locals := 133 }) [.ref (a 0 0), .int v1, .int v2, .ref o] (w_F g a G ++ [(o, .inl (cL, 1, .inr (.inl f)))]) (w_F g a r.2 ++ [(o, .inl (cL, 1, .inr (.inl (vp_updL f (0 : Int32).toNatClampNeg r.1.toInt64))))]) 0 := by
  refine kWr.of (cc := cL_comes) (maxL := 5) (hh := [(0, 10, 13, 13)]) (by decide) rfl (Nat.le_of_ble_eq_true rfl) ?_
  intro p e s m args below meth c ls A hC hr hlocks htab hA hK4 hG hNx hl hP hD hS
  replace hC : CallFix p m c cL_comes 5 s args wsL_comes RL := hC
  obtain ⟨hx, hb, hml, hown, hts⟩ := id hC
  have hK := kT4_sub hK4
  replace hl : lv_has ls 5 [(0, .ref (a 0 0)), (1, .int v1), (2, .int v2), (3, .ref o)] := hl
  refine lv_aload_n hx hb dL_comes_0 rfl (lv_at hl 3 rfl) ?_
  refine lv_iconst (v := (0 : Int32)) hx hb dL_comes_1 (by decide) ?_
  refine lv_aload_n hx hb dL_comes_2 rfl (lv_at hl 0 rfl) ?_
  refine lv_iload_n hx hb dL_comes_3 rfl (lv_at hl 1 rfl) ?_
  refine lv_iload_n hx hb dL_comes_4 rfl (lv_at hl 2 rfl) ?_
  refine kk_call_Vi (w' := w_F g a r.2 ++ [(o, .inl (cL, 1, .inr (.inl f)))]) (As := [.int v1, .int v2]) (rest := [.int (0 : Int32), .ref o]) 0 4 hC (sX4_comes l g n a G v1 v2 r hR) (cwV 2 hts gL_comes_X4_comes rfl rfl rfl (by decide +kernel) ⟨Nat.le_of_ble_eq_true rfl, Nat.le_of_ble_eq_true rfl⟩) hK hP hD hS hA (List.range 24) (kk_ml 24 rfl (by decide +kernel) (kk_m0 24 rfl rfl)) (by decide +kernel) rfl (kk_sl 24 rfl (by decide +kernel) (kk_s0 24 rfl rfl rfl)) rfl rfl rfl rfl rfl hl.1 (Nat.le_of_ble_eq_true rfl) dL_comes_5 (fun H locs hP hD hS => ?_)
  refine lv_i2l (v := r.1.toInt64) hx hb dL_comes_8 rfl ?_
  refine va_last hx hb hK4 hP hD hS 24 3 (kn_lastg rfl) rfl (kk_in 0 1 (by decide) (by decide) rfl) dL_comes_9 (fun H locs hP hD hS => ?_)
  rw [kn_lasts (L := w_F g a r.2) (n := 24) rfl] at hP hD
  refine lv_goto (tgt := 17) hx hb dL_comes_10 (by decide) ?_
  refine lv_iconst (v := (0 : Int32)) hx hb dL_comes_17 (by decide) ?_
  exact kw_ret hC hr hlocks hK4 hP hD hS (by decide) (by decide) dL_comes_18 rfl
set_option maxHeartbeats 8000000 in
set_option maxRecDepth 100000 in
theorem sL_comes_t1 (l : Launch) (hst : l.stackTraces = false) (g : kG) (cL : ClassId) (n : Nat) (a : Nat → Nat → Nat) (G : St2) (o : Nat) (f : Nat → Int64) (v1 : Int32) (v2 : Int32) (hR : fX4_comes n G v1 v2 = some (.inl 1)) : kWr l g cL yL_comes wsL_comes ({ frames := 8, cells := 1, slots := 6, locals := 133 }) [.ref (a 0 0), .int v1, .int v2, .ref o] (w_F g a G ++ [(o, .inl (cL, 1, .inr (.inl f)))]) (w_F g a G ++ [(o, .inl (cL, 1, .inr (.inl f)))]) 1 := by
  refine kWr.of (cc := cL_comes) (maxL := 5) (hh := [(0, 10, 13, 13)]) (by decide) rfl (Nat.le_of_ble_eq_true rfl) ?_
  intro p e s m args below meth c ls A hC hr hlocks htab hA hK4 hG hNx hl hP hD hS
  replace hC : CallFix p m c cL_comes 5 s args wsL_comes RL := hC
  obtain ⟨hx, hb, hml, hown, hts⟩ := id hC
  have hK := kT4_sub hK4
  replace hl : lv_has ls 5 [(0, .ref (a 0 0)), (1, .int v1), (2, .int v2), (3, .ref o)] := hl
  refine lv_aload_n hx hb dL_comes_0 rfl (lv_at hl 3 rfl) ?_
  refine lv_iconst (v := (0 : Int32)) hx hb dL_comes_1 (by decide) ?_
  refine lv_aload_n hx hb dL_comes_2 rfl (lv_at hl 0 rfl) ?_
  refine lv_iload_n hx hb dL_comes_3 rfl (lv_at hl 1 rfl) ?_
  refine lv_iload_n hx hb dL_comes_4 rfl (lv_at hl 2 rfl) ?_
  refine kw_callC (w' := w_F g a G ++ [(o, .inl (cL, 1, .inr (.inl f)))]) (As := [.int v1, .int v2]) (rest := [.int (0 : Int32), .ref o]) 0 4 hC (sX4_comes_th l hst g n a G v1 v2 1 hR) (cwV 2 hts gL_comes_X4_comes rfl rfl rfl (by decide +kernel) ⟨Nat.le_of_ble_eq_true rfl, Nat.le_of_ble_eq_true rfl⟩) hK hG hP hD hS hA (List.range 24) (kk_ml 24 rfl (by decide +kernel) (kk_m0 24 rfl rfl)) (by decide +kernel) rfl (kk_sl 24 rfl (by decide +kernel) (kk_s0 24 rfl rfl rfl)) rfl rfl rfl rfl rfl hl.1 (Nat.le_of_ble_eq_true rfl) dL_comes_5 ⟨Nat.le_of_ble_eq_true rfl, Nat.le_of_ble_eq_true rfl⟩ (fun H locs q9 ce hce hcv hcl hP hD hS => ?_)
  refine vx_catch hown [] ⟨0, 10, 13, 13⟩ [] (by rw [htab]; rfl) (fun _ h9 => absurd h9 List.not_mem_nil) (by decide) (by decide) (hts (.classLink RL 13 "java/lang/IndexOutOfBoundsException") (by decide +kernel)) (va_Nw.use rfl (hG.2.2.2.1 1)) hce hcv hcl ?_
  refine lv_astore (i := 4) (lv' := (4, .ref q9) :: [(0, .ref (a 0 0)), (1, .int v1), (2, .int v2), (3, .ref o)]) hx hb dL_comes_13 hl (by decide) rfl (fun ls hl => ?_)
  refine lv_iconst (v := (1 : Int32)) hx hb dL_comes_15 (by decide) ?_
  exact kw_ret hC hr hlocks hK4 hP hD hS (by decide) (by decide) dL_comes_16 rfl
set_option maxHeartbeats 8000000 in
set_option maxRecDepth 100000 in
theorem sL_bridgeOf (l : Launch) (hst : l.stackTraces = false) (g : kG) (cL : ClassId) (n : Nat) (a : Nat → Nat → Nat) (G : St2) (o : Nat) (f : Nat → Int64) (v1 : Int32) (v2 : Int32) (r : Int32) (hR : fX4_bridgeOf n G v1 v2 = some (.inr r)) : kWr l g cL yL_bridgeOf wsL_bridgeOf ({ frames := 8, cells := 1, slots := 6, locals := 133 }) [.ref (a 0 0), .int v1, .int v2, .ref o] (w_F g a G ++ [(o, .inl (cL, 1, .inr (.inl f)))]) (w_F g a G ++ [(o, .inl (cL, 1, .inr (.inl (vp_updL f (0 : Int32).toNatClampNeg r.toInt64))))]) 0 := by
  refine kWr.of (cc := cL_bridgeOf) (maxL := 5) (hh := [(0, 10, 13, 13), (0, 10, 17, 15)]) (by decide) rfl (Nat.le_of_ble_eq_true rfl) ?_
  intro p e s m args below meth c ls A hC hr hlocks htab hA hK4 hG hNx hl hP hD hS
  replace hC : CallFix p m c cL_bridgeOf 5 s args wsL_bridgeOf RL := hC
  obtain ⟨hx, hb, hml, hown, hts⟩ := id hC
  have hK := kT4_sub hK4
  replace hl : lv_has ls 5 [(0, .ref (a 0 0)), (1, .int v1), (2, .int v2), (3, .ref o)] := hl
  refine lv_aload_n hx hb dL_bridgeOf_0 rfl (lv_at hl 3 rfl) ?_
  refine lv_iconst (v := (0 : Int32)) hx hb dL_bridgeOf_1 (by decide) ?_
  refine lv_aload_n hx hb dL_bridgeOf_2 rfl (lv_at hl 0 rfl) ?_
  refine lv_iload_n hx hb dL_bridgeOf_3 rfl (lv_at hl 1 rfl) ?_
  refine lv_iload_n hx hb dL_bridgeOf_4 rfl (lv_at hl 2 rfl) ?_
  refine kk_call_Vi (w' := w_F g a G ++ [(o, .inl (cL, 1, .inr (.inl f)))]) (As := [.int v1, .int v2]) (rest := [.int (0 : Int32), .ref o]) 0 4 hC (sX4_bridgeOf l g n a G v1 v2 r hR) (cwV 2 hts gL_bridgeOf_X4_bridgeOf rfl rfl rfl (by decide +kernel) ⟨Nat.le_of_ble_eq_true rfl, Nat.le_of_ble_eq_true rfl⟩) hK hP hD hS hA (List.range 24) (kk_ml 24 rfl (by decide +kernel) (kk_m0 24 rfl rfl)) (by decide +kernel) rfl (kk_sl 24 rfl (by decide +kernel) (kk_s0 24 rfl rfl rfl)) rfl rfl rfl rfl rfl hl.1 (Nat.le_of_ble_eq_true rfl) dL_bridgeOf_5 (fun H locs hP hD hS => ?_)
  refine lv_i2l (v := r.toInt64) hx hb dL_bridgeOf_8 rfl ?_
  refine va_last hx hb hK4 hP hD hS 24 3 (kn_lastg rfl) rfl (kk_in 0 1 (by decide) (by decide) rfl) dL_bridgeOf_9 (fun H locs hP hD hS => ?_)
  rw [kn_lasts (L := w_F g a G) (n := 24) rfl] at hP hD
  refine lv_goto (tgt := 21) hx hb dL_bridgeOf_10 (by decide) ?_
  refine lv_iconst (v := (0 : Int32)) hx hb dL_bridgeOf_21 (by decide) ?_
  exact kw_ret hC hr hlocks hK4 hP hD hS (by decide) (by decide) dL_bridgeOf_22 rfl
set_option maxHeartbeats 8000000 in
set_option maxRecDepth 100000 in
theorem sL_bridgeOf_t1 (l : Launch) (hst : l.stackTraces = false) (g : kG) (cL : ClassId) (n : Nat) (a : Nat → Nat → Nat) (G : St2) (o : Nat) (f : Nat → Int64) (v1 : Int32) (v2 : Int32) (hR : fX4_bridgeOf n G v1 v2 = some (.inl 1)) : kWr l g cL yL_bridgeOf wsL_bridgeOf ({ frames := 8, cells := 1, slots := 6, locals := 133 }) [.ref (a 0 0), .int v1, .int v2, .ref o] (w_F g a G ++ [(o, .inl (cL, 1, .inr (.inl f)))]) (w_F g a G ++ [(o, .inl (cL, 1, .inr (.inl f)))]) 1 := by
  refine kWr.of (cc := cL_bridgeOf) (maxL := 5) (hh := [(0, 10, 13, 13), (0, 10, 17, 15)]) (by decide) rfl (Nat.le_of_ble_eq_true rfl) ?_
  intro p e s m args below meth c ls A hC hr hlocks htab hA hK4 hG hNx hl hP hD hS
  replace hC : CallFix p m c cL_bridgeOf 5 s args wsL_bridgeOf RL := hC
  obtain ⟨hx, hb, hml, hown, hts⟩ := id hC
  have hK := kT4_sub hK4
  replace hl : lv_has ls 5 [(0, .ref (a 0 0)), (1, .int v1), (2, .int v2), (3, .ref o)] := hl
  refine lv_aload_n hx hb dL_bridgeOf_0 rfl (lv_at hl 3 rfl) ?_
  refine lv_iconst (v := (0 : Int32)) hx hb dL_bridgeOf_1 (by decide) ?_
  refine lv_aload_n hx hb dL_bridgeOf_2 rfl (lv_at hl 0 rfl) ?_
  refine lv_iload_n hx hb dL_bridgeOf_3 rfl (lv_at hl 1 rfl) ?_
  refine lv_iload_n hx hb dL_bridgeOf_4 rfl (lv_at hl 2 rfl) ?_
  refine kw_callC (w' := w_F g a G ++ [(o, .inl (cL, 1, .inr (.inl f)))]) (As := [.int v1, .int v2]) (rest := [.int (0 : Int32), .ref o]) 0 4 hC (sX4_bridgeOf_th l hst g n a G v1 v2 1 hR) (cwV 2 hts gL_bridgeOf_X4_bridgeOf rfl rfl rfl (by decide +kernel) ⟨Nat.le_of_ble_eq_true rfl, Nat.le_of_ble_eq_true rfl⟩) hK hG hP hD hS hA (List.range 24) (kk_ml 24 rfl (by decide +kernel) (kk_m0 24 rfl rfl)) (by decide +kernel) rfl (kk_sl 24 rfl (by decide +kernel) (kk_s0 24 rfl rfl rfl)) rfl rfl rfl rfl rfl hl.1 (Nat.le_of_ble_eq_true rfl) dL_bridgeOf_5 ⟨Nat.le_of_ble_eq_true rfl, Nat.le_of_ble_eq_true rfl⟩ (fun H locs q9 ce hce hcv hcl hP hD hS => ?_)
  refine vx_catch hown [] ⟨0, 10, 13, 13⟩ [⟨0, 10, 17, 15⟩] (by rw [htab]; rfl) (fun _ h9 => absurd h9 List.not_mem_nil) (by decide) (by decide) (hts (.classLink RL 13 "java/lang/IndexOutOfBoundsException") (by decide +kernel)) (va_Nw.use rfl (hG.2.2.2.1 1)) hce hcv hcl ?_
  refine lv_astore (i := 4) (lv' := (4, .ref q9) :: [(0, .ref (a 0 0)), (1, .int v1), (2, .int v2), (3, .ref o)]) hx hb dL_bridgeOf_13 hl (by decide) rfl (fun ls hl => ?_)
  refine lv_iconst (v := (1 : Int32)) hx hb dL_bridgeOf_15 (by decide) ?_
  exact kw_ret hC hr hlocks hK4 hP hD hS (by decide) (by decide) dL_bridgeOf_16 rfl
set_option maxHeartbeats 8000000 in
set_option maxRecDepth 100000 in
theorem sL_bridgeOf_t2 (l : Launch) (hst : l.stackTraces = false) (g : kG) (cL : ClassId) (n : Nat) (a : Nat → Nat → Nat) (G : St2) (o : Nat) (f : Nat → Int64) (v1 : Int32) (v2 : Int32) (hR : fX4_bridgeOf n G v1 v2 = some (.inl 2)) : kWr l g cL yL_bridgeOf wsL_bridgeOf ({ frames := 8, cells := 1, slots := 6, locals := 133 }) [.ref (a 0 0), .int v1, .int v2, .ref o] (w_F g a G ++ [(o, .inl (cL, 1, .inr (.inl f)))]) (w_F g a G ++ [(o, .inl (cL, 1, .inr (.inl f)))]) 2 := by
  refine kWr.of (cc := cL_bridgeOf) (maxL := 5) (hh := [(0, 10, 13, 13), (0, 10, 17, 15)]) (by decide) rfl (Nat.le_of_ble_eq_true rfl) ?_
  intro p e s m args below meth c ls A hC hr hlocks htab hA hK4 hG hNx hl hP hD hS
  replace hC : CallFix p m c cL_bridgeOf 5 s args wsL_bridgeOf RL := hC
  obtain ⟨hx, hb, hml, hown, hts⟩ := id hC
  have hK := kT4_sub hK4
  replace hl : lv_has ls 5 [(0, .ref (a 0 0)), (1, .int v1), (2, .int v2), (3, .ref o)] := hl
  refine lv_aload_n hx hb dL_bridgeOf_0 rfl (lv_at hl 3 rfl) ?_
  refine lv_iconst (v := (0 : Int32)) hx hb dL_bridgeOf_1 (by decide) ?_
  refine lv_aload_n hx hb dL_bridgeOf_2 rfl (lv_at hl 0 rfl) ?_
  refine lv_iload_n hx hb dL_bridgeOf_3 rfl (lv_at hl 1 rfl) ?_
  refine lv_iload_n hx hb dL_bridgeOf_4 rfl (lv_at hl 2 rfl) ?_
  refine kw_callC (w' := w_F g a G ++ [(o, .inl (cL, 1, .inr (.inl f)))]) (As := [.int v1, .int v2]) (rest := [.int (0 : Int32), .ref o]) 0 4 hC (sX4_bridgeOf_th l hst g n a G v1 v2 2 hR) (cwV 2 hts gL_bridgeOf_X4_bridgeOf rfl rfl rfl (by decide +kernel) ⟨Nat.le_of_ble_eq_true rfl, Nat.le_of_ble_eq_true rfl⟩) hK hG hP hD hS hA (List.range 24) (kk_ml 24 rfl (by decide +kernel) (kk_m0 24 rfl rfl)) (by decide +kernel) rfl (kk_sl 24 rfl (by decide +kernel) (kk_s0 24 rfl rfl rfl)) rfl rfl rfl rfl rfl hl.1 (Nat.le_of_ble_eq_true rfl) dL_bridgeOf_5 ⟨Nat.le_of_ble_eq_true rfl, Nat.le_of_ble_eq_true rfl⟩ (fun H locs q9 ce hce hcv hcl hP hD hS => ?_)
  refine vx_catch hown [⟨0, 10, 13, 13⟩] ⟨0, 10, 17, 15⟩ [] (by rw [htab]; rfl) (List.forall_mem_cons.mpr ⟨.inr ⟨by decide, _, hts (.classLink RL 13 "java/lang/IndexOutOfBoundsException") (by decide +kernel), hNx.1⟩, fun _ h9 => absurd h9 List.not_mem_nil⟩) (by decide) (by decide) (hts (.classLink RL 15 "java/lang/IllegalArgumentException") (by decide +kernel)) (va_Nw.use rfl (hG.2.2.2.1 2)) hce hcv hcl ?_
  refine lv_astore (i := 4) (lv' := (4, .ref q9) :: [(0, .ref (a 0 0)), (1, .int v1), (2, .int v2), (3, .ref o)]) hx hb dL_bridgeOf_17 hl (by decide) rfl (fun ls hl => ?_)
  refine lv_iconst (v := (2 : Int32)) hx hb dL_bridgeOf_19 (by decide) ?_
  exact kw_ret hC hr hlocks hK4 hP hD hS (by decide) (by decide) dL_bridgeOf_20 rfl
set_option maxHeartbeats 8000000 in
set_option maxRecDepth 100000 in
theorem sL_count (l : Launch) (hst : l.stackTraces = false) (g : kG) (cL : ClassId) (n : Nat) (a : Nat → Nat → Nat) (h : Nat → Nat → Nat) (G : St2) (V : St2) (o : Nat) (f : Nat → Int64) (v1 : Int32) (r : Int32 × St2) (hR : fX4_count n G V v1 = some (.inr r)) : kWr l g cL yL_count wsL_count ({ frames := 7, cells := 1, slots := 6, locals := 131 }) [.ref (a 0 0), .int v1, .ref o] (w_F g a G ++ w_H g (a 0 2) h V ++ [(o, .inl (cL, 1, .inr (.inl f)))]) (w_F g a r.2 ++ w_H g (a 0 2) h V ++ [(o, .inl (cL, 1, .inr (.inl (vp_updL f (0 : Int32).toNatClampNeg r.1.toInt64))))]) 0 := by
  refine kWr.of (cc := cL_count) (maxL := 4) (hh := [(0, 9, 12, 15)]) (by decide) rfl (Nat.le_of_ble_eq_true rfl) ?_
  intro p e s m args below meth c ls A hC hr hlocks htab hA hK4 hG hNx hl hP hD hS
  replace hC : CallFix p m c cL_count 4 s args wsL_count RL := hC
  obtain ⟨hx, hb, hml, hown, hts⟩ := id hC
  have hK := kT4_sub hK4
  replace hl : lv_has ls 4 [(0, .ref (a 0 0)), (1, .int v1), (2, .ref o)] := hl
  refine lv_aload_n hx hb dL_count_0 rfl (lv_at hl 2 rfl) ?_
  refine lv_iconst (v := (0 : Int32)) hx hb dL_count_1 (by decide) ?_
  refine lv_aload_n hx hb dL_count_2 rfl (lv_at hl 0 rfl) ?_
  refine lv_iload_n hx hb dL_count_3 rfl (lv_at hl 1 rfl) ?_
  refine kk_call_Vi (w' := w_F g a r.2 ++ w_H g (a 0 2) h V ++ [(o, .inl (cL, 1, .inr (.inl f)))]) (As := [.int v1]) (rest := [.int (0 : Int32), .ref o]) 0 4 hC (sX4_count l g n a h G V v1 r hR) (cwV 1 hts gL_count_X4_count rfl rfl rfl (by decide +kernel) ⟨Nat.le_of_ble_eq_true rfl, Nat.le_of_ble_eq_true rfl⟩) hK hP hD hS hA (List.range 86) (kk_ml 86 rfl (by decide +kernel) (kk_m0 86 rfl rfl)) (by decide +kernel) rfl (kk_sl 86 rfl (by decide +kernel) (kk_s0 86 rfl rfl rfl)) rfl rfl rfl rfl rfl hl.1 (Nat.le_of_ble_eq_true rfl) dL_count_4 (fun H locs hP hD hS => ?_)
  refine lv_i2l (v := r.1.toInt64) hx hb dL_count_7 rfl ?_
  refine va_last hx hb hK4 hP hD hS 86 3 (kn_lastg rfl) rfl (kk_in 0 1 (by decide) (by decide) rfl) dL_count_8 (fun H locs hP hD hS => ?_)
  rw [kn_lasts (L := w_F g a r.2 ++ w_H g (a 0 2) h V) (n := 86) rfl] at hP hD
  refine lv_goto (tgt := 15) hx hb dL_count_9 (by decide) ?_
  refine lv_iconst (v := (0 : Int32)) hx hb dL_count_15 (by decide) ?_
  exact kw_ret hC hr hlocks hK4 hP hD hS (by decide) (by decide) dL_count_16 rfl
set_option maxHeartbeats 8000000 in
set_option maxRecDepth 100000 in
theorem sL_count_t2 (l : Launch) (hst : l.stackTraces = false) (g : kG) (cL : ClassId) (n : Nat) (a : Nat → Nat → Nat) (h : Nat → Nat → Nat) (G : St2) (V : St2) (o : Nat) (f : Nat → Int64) (v1 : Int32) (hR : fX4_count n G V v1 = some (.inl 2)) : kWr l g cL yL_count wsL_count ({ frames := 7, cells := 1, slots := 6, locals := 131 }) [.ref (a 0 0), .int v1, .ref o] (w_F g a G ++ w_H g (a 0 2) h V ++ [(o, .inl (cL, 1, .inr (.inl f)))]) (w_F g a G ++ w_H g (a 0 2) h V ++ [(o, .inl (cL, 1, .inr (.inl f)))]) 1 := by
  refine kWr.of (cc := cL_count) (maxL := 4) (hh := [(0, 9, 12, 15)]) (by decide) rfl (Nat.le_of_ble_eq_true rfl) ?_
  intro p e s m args below meth c ls A hC hr hlocks htab hA hK4 hG hNx hl hP hD hS
  replace hC : CallFix p m c cL_count 4 s args wsL_count RL := hC
  obtain ⟨hx, hb, hml, hown, hts⟩ := id hC
  have hK := kT4_sub hK4
  replace hl : lv_has ls 4 [(0, .ref (a 0 0)), (1, .int v1), (2, .ref o)] := hl
  refine lv_aload_n hx hb dL_count_0 rfl (lv_at hl 2 rfl) ?_
  refine lv_iconst (v := (0 : Int32)) hx hb dL_count_1 (by decide) ?_
  refine lv_aload_n hx hb dL_count_2 rfl (lv_at hl 0 rfl) ?_
  refine lv_iload_n hx hb dL_count_3 rfl (lv_at hl 1 rfl) ?_
  refine kw_callC (w' := w_F g a G ++ w_H g (a 0 2) h V ++ [(o, .inl (cL, 1, .inr (.inl f)))]) (As := [.int v1]) (rest := [.int (0 : Int32), .ref o]) 0 4 hC (sX4_count_th l hst g n a h G V v1 2 hR) (cwV 1 hts gL_count_X4_count rfl rfl rfl (by decide +kernel) ⟨Nat.le_of_ble_eq_true rfl, Nat.le_of_ble_eq_true rfl⟩) hK hG hP hD hS hA (List.range 86) (kk_ml 86 rfl (by decide +kernel) (kk_m0 86 rfl rfl)) (by decide +kernel) rfl (kk_sl 86 rfl (by decide +kernel) (kk_s0 86 rfl rfl rfl)) rfl rfl rfl rfl rfl hl.1 (Nat.le_of_ble_eq_true rfl) dL_count_4 ⟨Nat.le_of_ble_eq_true rfl, Nat.le_of_ble_eq_true rfl⟩ (fun H locs q9 ce hce hcv hcl hP hD hS => ?_)
  refine vx_catch hown [] ⟨0, 9, 12, 15⟩ [] (by rw [htab]; rfl) (fun _ h9 => absurd h9 List.not_mem_nil) (by decide) (by decide) (hts (.classLink RL 15 "java/lang/IllegalArgumentException") (by decide +kernel)) (va_Nw.use rfl (hG.2.2.2.1 2)) hce hcv hcl ?_
  refine lv_astore_n (i := 3) (lv' := (3, .ref q9) :: [(0, .ref (a 0 0)), (1, .int v1), (2, .ref o)]) hx hb dL_count_12 rfl hl (by decide) rfl (fun ls hl => ?_)
  refine lv_iconst (v := (1 : Int32)) hx hb dL_count_13 (by decide) ?_
  exact kw_ret hC hr hlocks hK4 hP hD hS (by decide) (by decide) dL_count_14 rfl
set_option maxHeartbeats 8000000 in
set_option maxRecDepth 100000 in
theorem sL_setting (l : Launch) (hst : l.stackTraces = false) (g : kG) (cL : ClassId) (n : Nat) (a : Nat → Nat → Nat) (G : St2) (o : Nat) (f : Nat → Int64) (v1 : Int32) (r : Int32) (hR : fX4_setting n G v1 = some (.inr r)) : kWr l g cL yL_setting wsL_setting ({ frames := 8, cells := 1, slots := 6, locals := 131 }) [.ref (a 0 0), .int v1, .ref o] (w_F g a G ++ [(o, .inl (cL, 1, .inr (.inl f)))]) (w_F g a G ++ [(o, .inl (cL, 1, .inr (.inl (vp_updL f (0 : Int32).toNatClampNeg r.toInt64))))]) 0 := by
  refine kWr.of (cc := cL_setting) (maxL := 4) (hh := [(0, 9, 12, 13)]) (by decide) rfl (Nat.le_of_ble_eq_true rfl) ?_
  intro p e s m args below meth c ls A hC hr hlocks htab hA hK4 hG hNx hl hP hD hS
  replace hC : CallFix p m c cL_setting 4 s args wsL_setting RL := hC
  obtain ⟨hx, hb, hml, hown, hts⟩ := id hC
  have hK := kT4_sub hK4
  replace hl : lv_has ls 4 [(0, .ref (a 0 0)), (1, .int v1), (2, .ref o)] := hl
  refine lv_aload_n hx hb dL_setting_0 rfl (lv_at hl 2 rfl) ?_
  refine lv_iconst (v := (0 : Int32)) hx hb dL_setting_1 (by decide) ?_
  refine lv_aload_n hx hb dL_setting_2 rfl (lv_at hl 0 rfl) ?_
  refine lv_iload_n hx hb dL_setting_3 rfl (lv_at hl 1 rfl) ?_
  refine kk_call_Vi (w' := w_F g a G ++ [(o, .inl (cL, 1, .inr (.inl f)))]) (As := [.int v1]) (rest := [.int (0 : Int32), .ref o]) 0 4 hC (sX4_setting l g n a G v1 r hR) (cwV 1 hts gL_setting_X4_setting rfl rfl rfl (by decide +kernel) ⟨Nat.le_of_ble_eq_true rfl, Nat.le_of_ble_eq_true rfl⟩) hK hP hD hS hA (List.range 24) (kk_ml 24 rfl (by decide +kernel) (kk_m0 24 rfl rfl)) (by decide +kernel) rfl (kk_sl 24 rfl (by decide +kernel) (kk_s0 24 rfl rfl rfl)) rfl rfl rfl rfl rfl hl.1 (Nat.le_of_ble_eq_true rfl) dL_setting_4 (fun H locs hP hD hS => ?_)
  refine lv_i2l (v := r.toInt64) hx hb dL_setting_7 rfl ?_
  refine va_last hx hb hK4 hP hD hS 24 3 (kn_lastg rfl) rfl (kk_in 0 1 (by decide) (by decide) rfl) dL_setting_8 (fun H locs hP hD hS => ?_)
  rw [kn_lasts (L := w_F g a G) (n := 24) rfl] at hP hD
  refine lv_goto (tgt := 15) hx hb dL_setting_9 (by decide) ?_
  refine lv_iconst (v := (0 : Int32)) hx hb dL_setting_15 (by decide) ?_
  exact kw_ret hC hr hlocks hK4 hP hD hS (by decide) (by decide) dL_setting_16 rfl
set_option maxHeartbeats 8000000 in
set_option maxRecDepth 100000 in
theorem sL_setting_t1 (l : Launch) (hst : l.stackTraces = false) (g : kG) (cL : ClassId) (n : Nat) (a : Nat → Nat → Nat) (G : St2) (o : Nat) (f : Nat → Int64) (v1 : Int32) (hR : fX4_setting n G v1 = some (.inl 1)) : kWr l g cL yL_setting wsL_setting ({ frames := 8, cells := 1, slots := 6, locals := 131 }) [.ref (a 0 0), .int v1, .ref o] (w_F g a G ++ [(o, .inl (cL, 1, .inr (.inl f)))]) (w_F g a G ++ [(o, .inl (cL, 1, .inr (.inl f)))]) 1 := by
  refine kWr.of (cc := cL_setting) (maxL := 4) (hh := [(0, 9, 12, 13)]) (by decide) rfl (Nat.le_of_ble_eq_true rfl) ?_
  intro p e s m args below meth c ls A hC hr hlocks htab hA hK4 hG hNx hl hP hD hS
  replace hC : CallFix p m c cL_setting 4 s args wsL_setting RL := hC
  obtain ⟨hx, hb, hml, hown, hts⟩ := id hC
  have hK := kT4_sub hK4
  replace hl : lv_has ls 4 [(0, .ref (a 0 0)), (1, .int v1), (2, .ref o)] := hl
  refine lv_aload_n hx hb dL_setting_0 rfl (lv_at hl 2 rfl) ?_
  refine lv_iconst (v := (0 : Int32)) hx hb dL_setting_1 (by decide) ?_
  refine lv_aload_n hx hb dL_setting_2 rfl (lv_at hl 0 rfl) ?_
  refine lv_iload_n hx hb dL_setting_3 rfl (lv_at hl 1 rfl) ?_
  refine kw_callC (w' := w_F g a G ++ [(o, .inl (cL, 1, .inr (.inl f)))]) (As := [.int v1]) (rest := [.int (0 : Int32), .ref o]) 0 4 hC (sX4_setting_th l hst g n a G v1 1 hR) (cwV 1 hts gL_setting_X4_setting rfl rfl rfl (by decide +kernel) ⟨Nat.le_of_ble_eq_true rfl, Nat.le_of_ble_eq_true rfl⟩) hK hG hP hD hS hA (List.range 24) (kk_ml 24 rfl (by decide +kernel) (kk_m0 24 rfl rfl)) (by decide +kernel) rfl (kk_sl 24 rfl (by decide +kernel) (kk_s0 24 rfl rfl rfl)) rfl rfl rfl rfl rfl hl.1 (Nat.le_of_ble_eq_true rfl) dL_setting_4 ⟨Nat.le_of_ble_eq_true rfl, Nat.le_of_ble_eq_true rfl⟩ (fun H locs q9 ce hce hcv hcl hP hD hS => ?_)
  refine vx_catch hown [] ⟨0, 9, 12, 13⟩ [] (by rw [htab]; rfl) (fun _ h9 => absurd h9 List.not_mem_nil) (by decide) (by decide) (hts (.classLink RL 13 "java/lang/IndexOutOfBoundsException") (by decide +kernel)) (va_Nw.use rfl (hG.2.2.2.1 1)) hce hcv hcl ?_
  refine lv_astore_n (i := 3) (lv' := (3, .ref q9) :: [(0, .ref (a 0 0)), (1, .int v1), (2, .ref o)]) hx hb dL_setting_12 rfl hl (by decide) rfl (fun ls hl => ?_)
  refine lv_iconst (v := (1 : Int32)) hx hb dL_setting_13 (by decide) ?_
  exact kw_ret hC hr hlocks hK4 hP hD hS (by decide) (by decide) dL_setting_14 rfl
set_option maxHeartbeats 8000000 in
set_option maxRecDepth 100000 in
theorem sL_ifMoved (l : Launch) (hst : l.stackTraces = false) (g : kG) (cL : ClassId) (n : Nat) (a : Nat → Nat → Nat) (G : St2) (o : Nat) (f : Nat → Int64) (v1 : Int32) (v2 : Int32) (v3 : Int32) (r : Int32 × St2) (hR : fX4_ifMoved n G v1 v2 v3 = some (.inr r)) : kWr l g cL yL_ifMoved wsL_ifMoved ({ frames := 8, cells := 1, slots := 6, locals := 134 }) [.ref (a 0 0), .int v1, .int v2, .int v3, .ref o] (w_F g a G ++ [(o, .inl (cL, 1, .inr (.inl f)))]) (w_F g a r.2 ++ [(o, .inl (cL, 1, .inr (.inl (vp_updL f (0 : Int32).toNatClampNeg r.1.toInt64))))]) 0 := by
  refine kWr.of (cc := cL_ifMoved) (maxL := 6) (hh := [(0, 12, 15, 13), (0, 12, 19, 15)]) (by decide) rfl (Nat.le_of_ble_eq_true rfl) ?_
  intro p e s m args below meth c ls A hC hr hlocks htab hA hK4 hG hNx hl hP hD hS
  replace hC : CallFix p m c cL_ifMoved 6 s args wsL_ifMoved RL := hC
  obtain ⟨hx, hb, hml, hown, hts⟩ := id hC
  have hK := kT4_sub hK4
  replace hl : lv_has ls 6 [(0, .ref (a 0 0)), (1, .int v1), (2, .int v2), (3, .int v3), (4, .ref o)] := hl
  refine lv_aload hx hb dL_ifMoved_0 (lv_at hl 4 rfl) ?_
  refine lv_iconst (v := (0 : Int32)) hx hb dL_ifMoved_2 (by decide) ?_
  refine lv_aload_n hx hb dL_ifMoved_3 rfl (lv_at hl 0 rfl) ?_
  refine lv_iload_n hx hb dL_ifMoved_4 rfl (lv_at hl 1 rfl) ?_
  refine lv_iload_n hx hb dL_ifMoved_5 rfl (lv_at hl 2 rfl) ?_
  refine lv_iload_n hx hb dL_ifMoved_6 rfl (lv_at hl 3 rfl) ?_
  refine kk_call_Vi (w' := w_F g a r.2 ++ [(o, .inl (cL, 1, .inr (.inl f)))]) (As := [.int v1, .int v2, .int v3]) (rest := [.int (0 : Int32), .ref o]) 0 4 hC (sX4_ifMoved l g n a G v1 v2 v3 r hR) (cwV 3 hts gL_ifMoved_X4_ifMoved rfl rfl rfl (by decide +kernel) ⟨Nat.le_of_ble_eq_true rfl, Nat.le_of_ble_eq_true rfl⟩) hK hP hD hS hA (List.range 24) (kk_ml 24 rfl (by decide +kernel) (kk_m0 24 rfl rfl)) (by decide +kernel) rfl (kk_sl 24 rfl (by decide +kernel) (kk_s0 24 rfl rfl rfl)) rfl rfl rfl rfl rfl hl.1 (Nat.le_of_ble_eq_true rfl) dL_ifMoved_7 (fun H locs hP hD hS => ?_)
  refine lv_i2l (v := r.1.toInt64) hx hb dL_ifMoved_10 rfl ?_
  refine va_last hx hb hK4 hP hD hS 24 3 (kn_lastg rfl) rfl (kk_in 0 1 (by decide) (by decide) rfl) dL_ifMoved_11 (fun H locs hP hD hS => ?_)
  rw [kn_lasts (L := w_F g a r.2) (n := 24) rfl] at hP hD
  refine lv_goto (tgt := 23) hx hb dL_ifMoved_12 (by decide) ?_
  refine lv_iconst (v := (0 : Int32)) hx hb dL_ifMoved_23 (by decide) ?_
  exact kw_ret hC hr hlocks hK4 hP hD hS (by decide) (by decide) dL_ifMoved_24 rfl
set_option maxHeartbeats 8000000 in
set_option maxRecDepth 100000 in
theorem sL_ifMoved_t1 (l : Launch) (hst : l.stackTraces = false) (g : kG) (cL : ClassId) (n : Nat) (a : Nat → Nat → Nat) (G : St2) (o : Nat) (f : Nat → Int64) (v1 : Int32) (v2 : Int32) (v3 : Int32) (hR : fX4_ifMoved n G v1 v2 v3 = some (.inl 1)) : kWr l g cL yL_ifMoved wsL_ifMoved ({ frames := 8, cells := 1, slots := 6, locals := 134 }) [.ref (a 0 0), .int v1, .int v2, .int v3, .ref o] (w_F g a G ++ [(o, .inl (cL, 1, .inr (.inl f)))]) (w_F g a G ++ [(o, .inl (cL, 1, .inr (.inl f)))]) 1 := by
  refine kWr.of (cc := cL_ifMoved) (maxL := 6) (hh := [(0, 12, 15, 13), (0, 12, 19, 15)]) (by decide) rfl (Nat.le_of_ble_eq_true rfl) ?_
  intro p e s m args below meth c ls A hC hr hlocks htab hA hK4 hG hNx hl hP hD hS
  replace hC : CallFix p m c cL_ifMoved 6 s args wsL_ifMoved RL := hC
  obtain ⟨hx, hb, hml, hown, hts⟩ := id hC
  have hK := kT4_sub hK4
  replace hl : lv_has ls 6 [(0, .ref (a 0 0)), (1, .int v1), (2, .int v2), (3, .int v3), (4, .ref o)] := hl
  refine lv_aload hx hb dL_ifMoved_0 (lv_at hl 4 rfl) ?_
  refine lv_iconst (v := (0 : Int32)) hx hb dL_ifMoved_2 (by decide) ?_
  refine lv_aload_n hx hb dL_ifMoved_3 rfl (lv_at hl 0 rfl) ?_
  refine lv_iload_n hx hb dL_ifMoved_4 rfl (lv_at hl 1 rfl) ?_
  refine lv_iload_n hx hb dL_ifMoved_5 rfl (lv_at hl 2 rfl) ?_
  refine lv_iload_n hx hb dL_ifMoved_6 rfl (lv_at hl 3 rfl) ?_
  refine kw_callC (w' := w_F g a G ++ [(o, .inl (cL, 1, .inr (.inl f)))]) (As := [.int v1, .int v2, .int v3]) (rest := [.int (0 : Int32), .ref o]) 0 4 hC (sX4_ifMoved_th l hst g n a G v1 v2 v3 1 hR) (cwV 3 hts gL_ifMoved_X4_ifMoved rfl rfl rfl (by decide +kernel) ⟨Nat.le_of_ble_eq_true rfl, Nat.le_of_ble_eq_true rfl⟩) hK hG hP hD hS hA (List.range 24) (kk_ml 24 rfl (by decide +kernel) (kk_m0 24 rfl rfl)) (by decide +kernel) rfl (kk_sl 24 rfl (by decide +kernel) (kk_s0 24 rfl rfl rfl)) rfl rfl rfl rfl rfl hl.1 (Nat.le_of_ble_eq_true rfl) dL_ifMoved_7 ⟨Nat.le_of_ble_eq_true rfl, Nat.le_of_ble_eq_true rfl⟩ (fun H locs q9 ce hce hcv hcl hP hD hS => ?_)
  refine vx_catch hown [] ⟨0, 12, 15, 13⟩ [⟨0, 12, 19, 15⟩] (by rw [htab]; rfl) (fun _ h9 => absurd h9 List.not_mem_nil) (by decide) (by decide) (hts (.classLink RL 13 "java/lang/IndexOutOfBoundsException") (by decide +kernel)) (va_Nw.use rfl (hG.2.2.2.1 1)) hce hcv hcl ?_
  refine lv_astore (i := 5) (lv' := (5, .ref q9) :: [(0, .ref (a 0 0)), (1, .int v1), (2, .int v2), (3, .int v3), (4, .ref o)]) hx hb dL_ifMoved_15 hl (by decide) rfl (fun ls hl => ?_)
  refine lv_iconst (v := (1 : Int32)) hx hb dL_ifMoved_17 (by decide) ?_
  exact kw_ret hC hr hlocks hK4 hP hD hS (by decide) (by decide) dL_ifMoved_18 rfl
set_option maxHeartbeats 8000000 in
set_option maxRecDepth 100000 in
theorem sL_ifMoved_t2 (l : Launch) (hst : l.stackTraces = false) (g : kG) (cL : ClassId) (n : Nat) (a : Nat → Nat → Nat) (G : St2) (o : Nat) (f : Nat → Int64) (v1 : Int32) (v2 : Int32) (v3 : Int32) (hR : fX4_ifMoved n G v1 v2 v3 = some (.inl 2)) : kWr l g cL yL_ifMoved wsL_ifMoved ({ frames := 8, cells := 1, slots := 6, locals := 134 }) [.ref (a 0 0), .int v1, .int v2, .int v3, .ref o] (w_F g a G ++ [(o, .inl (cL, 1, .inr (.inl f)))]) (w_F g a G ++ [(o, .inl (cL, 1, .inr (.inl f)))]) 2 := by
  refine kWr.of (cc := cL_ifMoved) (maxL := 6) (hh := [(0, 12, 15, 13), (0, 12, 19, 15)]) (by decide) rfl (Nat.le_of_ble_eq_true rfl) ?_
  intro p e s m args below meth c ls A hC hr hlocks htab hA hK4 hG hNx hl hP hD hS
  replace hC : CallFix p m c cL_ifMoved 6 s args wsL_ifMoved RL := hC
  obtain ⟨hx, hb, hml, hown, hts⟩ := id hC
  have hK := kT4_sub hK4
  replace hl : lv_has ls 6 [(0, .ref (a 0 0)), (1, .int v1), (2, .int v2), (3, .int v3), (4, .ref o)] := hl
  refine lv_aload hx hb dL_ifMoved_0 (lv_at hl 4 rfl) ?_
  refine lv_iconst (v := (0 : Int32)) hx hb dL_ifMoved_2 (by decide) ?_
  refine lv_aload_n hx hb dL_ifMoved_3 rfl (lv_at hl 0 rfl) ?_
  refine lv_iload_n hx hb dL_ifMoved_4 rfl (lv_at hl 1 rfl) ?_
  refine lv_iload_n hx hb dL_ifMoved_5 rfl (lv_at hl 2 rfl) ?_
  refine lv_iload_n hx hb dL_ifMoved_6 rfl (lv_at hl 3 rfl) ?_
  refine kw_callC (w' := w_F g a G ++ [(o, .inl (cL, 1, .inr (.inl f)))]) (As := [.int v1, .int v2, .int v3]) (rest := [.int (0 : Int32), .ref o]) 0 4 hC (sX4_ifMoved_th l hst g n a G v1 v2 v3 2 hR) (cwV 3 hts gL_ifMoved_X4_ifMoved rfl rfl rfl (by decide +kernel) ⟨Nat.le_of_ble_eq_true rfl, Nat.le_of_ble_eq_true rfl⟩) hK hG hP hD hS hA (List.range 24) (kk_ml 24 rfl (by decide +kernel) (kk_m0 24 rfl rfl)) (by decide +kernel) rfl (kk_sl 24 rfl (by decide +kernel) (kk_s0 24 rfl rfl rfl)) rfl rfl rfl rfl rfl hl.1 (Nat.le_of_ble_eq_true rfl) dL_ifMoved_7 ⟨Nat.le_of_ble_eq_true rfl, Nat.le_of_ble_eq_true rfl⟩ (fun H locs q9 ce hce hcv hcl hP hD hS => ?_)
  refine vx_catch hown [⟨0, 12, 15, 13⟩] ⟨0, 12, 19, 15⟩ [] (by rw [htab]; rfl) (List.forall_mem_cons.mpr ⟨.inr ⟨by decide, _, hts (.classLink RL 13 "java/lang/IndexOutOfBoundsException") (by decide +kernel), hNx.1⟩, fun _ h9 => absurd h9 List.not_mem_nil⟩) (by decide) (by decide) (hts (.classLink RL 15 "java/lang/IllegalArgumentException") (by decide +kernel)) (va_Nw.use rfl (hG.2.2.2.1 2)) hce hcv hcl ?_
  refine lv_astore (i := 5) (lv' := (5, .ref q9) :: [(0, .ref (a 0 0)), (1, .int v1), (2, .int v2), (3, .int v3), (4, .ref o)]) hx hb dL_ifMoved_19 hl (by decide) rfl (fun ls hl => ?_)
  refine lv_iconst (v := (2 : Int32)) hx hb dL_ifMoved_21 (by decide) ?_
  exact kw_ret hC hr hlocks hK4 hP hD hS (by decide) (by decide) dL_ifMoved_22 rfl
set_option maxHeartbeats 8000000 in
set_option maxRecDepth 100000 in
theorem sL_bestPlace (l : Launch) (hst : l.stackTraces = false) (g : kG) (cL : ClassId) (n : Nat) (a : Nat → Nat → Nat) (G : St2) (o : Nat) (f : Nat → Int64) (v1 : Int32) (r : Int32 × St2) (hR : fX4_bestPlace n G v1 = some (.inr r)) : kWr l g cL yL_bestPlace wsL_bestPlace ({ frames := 8, cells := 1, slots := 6, locals := 136 }) [.ref (a 0 0), .int v1, .ref o] (w_F g a G ++ [(o, .inl (cL, 1, .inr (.inl f)))]) (w_F g a r.2 ++ [(o, .inl (cL, 1, .inr (.inl (vp_updL f (0 : Int32).toNatClampNeg r.1.toInt64))))]) 0 := by
  refine kWr.of (cc := cL_bestPlace) (maxL := 4) (hh := [(0, 9, 12, 13)]) (by decide) rfl (Nat.le_of_ble_eq_true rfl) ?_
  intro p e s m args below meth c ls A hC hr hlocks htab hA hK4 hG hNx hl hP hD hS
  replace hC : CallFix p m c cL_bestPlace 4 s args wsL_bestPlace RL := hC
  obtain ⟨hx, hb, hml, hown, hts⟩ := id hC
  have hK := kT4_sub hK4
  replace hl : lv_has ls 4 [(0, .ref (a 0 0)), (1, .int v1), (2, .ref o)] := hl
  refine lv_aload_n hx hb dL_bestPlace_0 rfl (lv_at hl 2 rfl) ?_
  refine lv_iconst (v := (0 : Int32)) hx hb dL_bestPlace_1 (by decide) ?_
  refine lv_aload_n hx hb dL_bestPlace_2 rfl (lv_at hl 0 rfl) ?_
  refine lv_iload_n hx hb dL_bestPlace_3 rfl (lv_at hl 1 rfl) ?_
  refine kk_call_Vi (w' := w_F g a r.2 ++ [(o, .inl (cL, 1, .inr (.inl f)))]) (As := [.int v1]) (rest := [.int (0 : Int32), .ref o]) 0 4 hC (sX4_bestPlace l g n a G v1 r hR) (cwV 1 hts gL_bestPlace_X4_bestPlace rfl rfl rfl (by decide +kernel) ⟨Nat.le_of_ble_eq_true rfl, Nat.le_of_ble_eq_true rfl⟩) hK hP hD hS hA (List.range 24) (kk_ml 24 rfl (by decide +kernel) (kk_m0 24 rfl rfl)) (by decide +kernel) rfl (kk_sl 24 rfl (by decide +kernel) (kk_s0 24 rfl rfl rfl)) rfl rfl rfl rfl rfl hl.1 (Nat.le_of_ble_eq_true rfl) dL_bestPlace_4 (fun H locs hP hD hS => ?_)
  refine lv_i2l (v := r.1.toInt64) hx hb dL_bestPlace_7 rfl ?_
  refine va_last hx hb hK4 hP hD hS 24 3 (kn_lastg rfl) rfl (kk_in 0 1 (by decide) (by decide) rfl) dL_bestPlace_8 (fun H locs hP hD hS => ?_)
  rw [kn_lasts (L := w_F g a r.2) (n := 24) rfl] at hP hD
  refine lv_goto (tgt := 15) hx hb dL_bestPlace_9 (by decide) ?_
  refine lv_iconst (v := (0 : Int32)) hx hb dL_bestPlace_15 (by decide) ?_
  exact kw_ret hC hr hlocks hK4 hP hD hS (by decide) (by decide) dL_bestPlace_16 rfl
set_option maxHeartbeats 8000000 in
set_option maxRecDepth 100000 in
theorem sL_bestPlace_t1 (l : Launch) (hst : l.stackTraces = false) (g : kG) (cL : ClassId) (n : Nat) (a : Nat → Nat → Nat) (G : St2) (o : Nat) (f : Nat → Int64) (v1 : Int32) (hR : fX4_bestPlace n G v1 = some (.inl 1)) : kWr l g cL yL_bestPlace wsL_bestPlace ({ frames := 8, cells := 1, slots := 6, locals := 136 }) [.ref (a 0 0), .int v1, .ref o] (w_F g a G ++ [(o, .inl (cL, 1, .inr (.inl f)))]) (w_F g a G ++ [(o, .inl (cL, 1, .inr (.inl f)))]) 1 := by
  refine kWr.of (cc := cL_bestPlace) (maxL := 4) (hh := [(0, 9, 12, 13)]) (by decide) rfl (Nat.le_of_ble_eq_true rfl) ?_
  intro p e s m args below meth c ls A hC hr hlocks htab hA hK4 hG hNx hl hP hD hS
  replace hC : CallFix p m c cL_bestPlace 4 s args wsL_bestPlace RL := hC
  obtain ⟨hx, hb, hml, hown, hts⟩ := id hC
  have hK := kT4_sub hK4
  replace hl : lv_has ls 4 [(0, .ref (a 0 0)), (1, .int v1), (2, .ref o)] := hl
  refine lv_aload_n hx hb dL_bestPlace_0 rfl (lv_at hl 2 rfl) ?_
  refine lv_iconst (v := (0 : Int32)) hx hb dL_bestPlace_1 (by decide) ?_
  refine lv_aload_n hx hb dL_bestPlace_2 rfl (lv_at hl 0 rfl) ?_
  refine lv_iload_n hx hb dL_bestPlace_3 rfl (lv_at hl 1 rfl) ?_
  refine kw_callC (w' := w_F g a G ++ [(o, .inl (cL, 1, .inr (.inl f)))]) (As := [.int v1]) (rest := [.int (0 : Int32), .ref o]) 0 4 hC (sX4_bestPlace_th l hst g n a G v1 1 hR) (cwV 1 hts gL_bestPlace_X4_bestPlace rfl rfl rfl (by decide +kernel) ⟨Nat.le_of_ble_eq_true rfl, Nat.le_of_ble_eq_true rfl⟩) hK hG hP hD hS hA (List.range 24) (kk_ml 24 rfl (by decide +kernel) (kk_m0 24 rfl rfl)) (by decide +kernel) rfl (kk_sl 24 rfl (by decide +kernel) (kk_s0 24 rfl rfl rfl)) rfl rfl rfl rfl rfl hl.1 (Nat.le_of_ble_eq_true rfl) dL_bestPlace_4 ⟨Nat.le_of_ble_eq_true rfl, Nat.le_of_ble_eq_true rfl⟩ (fun H locs q9 ce hce hcv hcl hP hD hS => ?_)
  refine vx_catch hown [] ⟨0, 9, 12, 13⟩ [] (by rw [htab]; rfl) (fun _ h9 => absurd h9 List.not_mem_nil) (by decide) (by decide) (hts (.classLink RL 13 "java/lang/IndexOutOfBoundsException") (by decide +kernel)) (va_Nw.use rfl (hG.2.2.2.1 1)) hce hcv hcl ?_
  refine lv_astore_n (i := 3) (lv' := (3, .ref q9) :: [(0, .ref (a 0 0)), (1, .int v1), (2, .ref o)]) hx hb dL_bestPlace_12 rfl hl (by decide) rfl (fun ls hl => ?_)
  refine lv_iconst (v := (1 : Int32)) hx hb dL_bestPlace_13 (by decide) ?_
  exact kw_ret hC hr hlocks hK4 hP hD hS (by decide) (by decide) dL_bestPlace_14 rfl
