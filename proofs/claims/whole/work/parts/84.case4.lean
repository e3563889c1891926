/-! the law, case by case -/
section KBody
variable {p : Program} {l : Launch} {e : Env} {s : State} {m : MethodId} {args : Array Value} {below : List Frame} {meth : Method} {c : Code} {Q : State → Prop} {g : kG} {cL : ClassId} {A : Nat → Prop} {b L : Nat} {xs : Nat → Int32} {a h : Nat → Nat → Nat} {mb : Nat → Nat} {o k n : Nat}
set_option maxHeartbeats 8000000 in
set_option maxRecDepth 100000 in
theorem kB_count_T (E : kL_E p l s m args c g cL A b L xs) (hk : 5 * k + 5 ≤ L) {c1 s1 : Nat} (hf : c1 ≤ 617796 ∧ s1 ≤ 7242715) (J : kL_J p l e s m args below meth c Q g cL A b a h mb o k 1500 c1 s1) {G V : St2} {M M1 : St1} {f : Nat → Int64} {r v5 : Int32} (hM : fX5_count n M (kL_x xs k 1) = some (r, M1)) (h6 : M1 6 0 = v5) (h0 : v5 = 0 → f (0 : Int32).toNatClampNeg = r.toInt64) (hRR : RR G V M1) {H : Heap} {locs : List Loc} {ls : Array Slot} (hP : va_P g.1 vwCl (kL_w g cL a h mb o G V M f) H) (hD : va_D A (kL_w g cL a h mb o G V M f)) (hS : va_S A s.heap H locs) (hl : lv_has ls 9 (kL_l b a mb o k)) : W p l e room_1 s m args below meth c H locs c1 s1 Q (F0 m 1182 ls [.int v5]) := by
  obtain ⟨hC, hst, hK4, hG, hNx, hA, hX, hbl, hbA, hL⟩ := id E
  obtain ⟨hx, hb, hml, hown, hts⟩ := id hC
  have hK := kT4_sub hK4
  obtain ⟨h_0, h_1, h_2, h_3, h_4⟩ := kL_in hk hL
  obtain ⟨fs, hfs⟩ := (kL_86 (g := g) (cL := cL) (a := a) (h := h) (b := mb) (o := o) (G := G) (V := V) (M := M) (f := f))
  obtain ⟨fs2, hfs2⟩ := (kL_86 (g := g) (cL := cL) (a := a) (h := h) (b := mb) (o := o) (G := G) (V := V) (M := M1) (f := f))
  refine lv_istore (i := 5) (lv' := (5, .int v5) :: kL_l b a mb o k) hx hb dL_law_1182 hl (by decide) rfl (fun ls hl => ?_)
  refine lv_aload_n hx hb dL_law_1184 rfl (lv_at hl 3 rfl) ?_
  refine lv_aload_n hx hb dL_law_1185 rfl (lv_at hl 1 rfl) ?_
  refine lv_iload hx hb dL_law_1186 (lv_at hl 5 rfl) ?_
  refine lv_iconst (v := (1 : Int32)) hx hb dL_law_1188 (by decide) ?_
  refine lv_iadd hx hb dL_law_1189 ?_
  refine va_sld hx hb hX hbl hbA hS h_1 dL_law_1190 ?_
  refine kr_Vi (w' := kL_w g cL a h mb o G V M1 f) (As := [.int (kL_x xs k 1)]) (rest := []) 86 5 hC (sX5_count l g n mb M (kL_x xs k 1) (r, M1) hM) (cwV 1 hts gL_law_X5_count rfl rfl rfl (by decide +kernel) ⟨Nat.le_of_ble_eq_true rfl, Nat.le_of_ble_eq_true rfl⟩) hK hP hD hS hA kL_iM kL_mM kL_nM rfl kL_sM rfl hfs rfl rfl rfl hl.1 (Nat.le_of_ble_eq_true rfl) dL_law_1191 hf (fun H locs hP hD hS => ?_)
  refine lv_istore (i := 6) (lv' := (6, .int r) :: (5, .int v5) :: kL_l b a mb o k) hx hb dL_law_1194 hl (by decide) rfl (fun ls hl => ?_)
  refine lv_aload_n hx hb dL_law_1196 rfl (lv_at hl 4 rfl) ?_
  refine kr_Vi (w' := kL_w g cL a h mb o G V M1 f) (As := []) (rest := []) 86 5 hC (sX5_thrown l g n mb M1 (M1 6 0) rfl) (cwV 0 hts gL_law_X5_thrown rfl rfl rfl (by decide +kernel) ⟨Nat.le_of_ble_eq_true rfl, Nat.le_of_ble_eq_true rfl⟩) hK hP hD hS hA kL_iM kL_mM kL_nM rfl kL_sM rfl hfs2 rfl rfl rfl hl.1 (Nat.le_of_ble_eq_true rfl) dL_law_1197 hf (fun H locs hP hD hS => ?_)
  refine lv_iload hx hb dL_law_1200 (lv_at hl 1 rfl) ?_
  refine lv_icmp_eq (tgt := 1207) hx hb dL_law_1202 (by decide) (fun _ => ?_) (fun c9 => absurd h6 c9)
  refine lv_iload hx hb dL_law_1207 (lv_at hl 1 rfl) ?_
  have J2 : W p l e room_1 s m args below meth c H locs c1 s1 Q (F0 m 1224 ls []) := lv_goto (tgt := 1500) hx hb dL_law_1224 (by decide) (J G V M1 f H locs ls hP hD hS hRR (lv_sub hl [2, 3, 4, 5, 6] rfl))
  refine lv_if_ne (tgt := 1224) hx hb dL_law_1209 (by decide) (fun _ => J2) (fun c9 => ?_)
  refine lv_aload_n hx hb dL_law_1212 rfl (lv_at hl 5 rfl) ?_
  refine lv_iconst (v := (0 : Int32)) hx hb dL_law_1213 (by decide) ?_
  refine va_lald hx hb hK4 hP 93 3 kL_93 rfl (kk_in 0 1 (by decide) (by decide) rfl) dL_law_1214 ?_
  refine lv_iload hx hb dL_law_1215 (lv_at hl 0 rfl) ?_
  refine lv_i2l (v := r.toInt64) hx hb dL_law_1217 rfl ?_
  refine W.lcmp hx hb dL_law_1218 ?_
  exact lv_if_eq (tgt := 1224) hx hb dL_law_1219 (by decide) (fun _ => J2) (fun c9 => absurd (kL_cm (h0 (by assumption))) c9)
set_option maxHeartbeats 8000000 in
set_option maxRecDepth 100000 in
theorem kB_count (E : kL_E p l s m args c g cL A b L xs) (hk : 5 * k + 5 ≤ L) (hn : 300000 ≤ n) {c0 s0 : Nat} (hf : c0 + 1 ≤ 617796 ∧ s0 + 6 ≤ 7242715) (J : kL_J p l e s m args below meth c Q g cL A b a h mb o k 1500 (c0 + 1) (s0 + 6)) {G V : St2} {M : St1} {f : Nat → Int64} (hRR : RR G V M) {H : Heap} {locs : List Loc} {ls : Array Slot} (hP : va_P g.1 vwCl (kL_w g cL a h mb o G V M f) H) (hD : va_D A (kL_w g cL a h mb o G V M f)) (hS : va_S A s.heap H locs) (hl : lv_has ls 9 (kL_l b a mb o k)) : W p l e room_1 s m args below meth c H locs c0 s0 Q (F0 m 1171 ls []) := by
  obtain ⟨hC, hst, hK4, hG, hNx, hA, hX, hbl, hbA, hL⟩ := id E
  obtain ⟨hx, hb, hml, hown, hts⟩ := id hC
  have hK := kT4_sub hK4
  obtain ⟨h_0, h_1, h_2, h_3, h_4⟩ := kL_in hk hL
  refine lv_aload_n hx hb dL_law_1171 rfl (lv_at hl 1 rfl) ?_
  refine lv_aload_n hx hb dL_law_1172 rfl (lv_at hl 0 rfl) ?_
  refine lv_iload hx hb dL_law_1173 (lv_at hl 4 rfl) ?_
  refine lv_iconst (v := (1 : Int32)) hx hb dL_law_1175 (by decide) ?_
  refine lv_iadd hx hb dL_law_1176 ?_
  refine va_sld hx hb hX hbl hbA hS h_1 dL_law_1177 ?_
  refine lv_aload_n hx hb dL_law_1178 rfl (lv_at hl 3 rfl) ?_
  rcases st_count (n := n) (by omega) hRR (kL_x xs k 1) with ⟨t, r, M1, e1, hk9, e2, e3, hR2⟩ | ⟨r, G1, M1, e1, e2, e3, hR2⟩
  · simp only [List.mem_cons, List.not_mem_nil, or_false] at hk9
    subst hk9
    · refine kr_wrap (w' := kL_w g cL a h mb o G V M f) (As := [.ref (a 0 0), .int (kL_x xs k 1), .ref o]) (rest := []) hC (sL_count_t2 l hst g cL n a h G V o f (kL_x xs k 1) e1) (vx_cwSW 3 hts gL_law_L_count rfl rfl rfl (by decide +kernel) ⟨Nat.le_of_ble_eq_true rfl, Nat.le_of_ble_eq_true rfl⟩) hK4 hG hNx hP hD hS hA kL_iF kL_mF kL_nF rfl kL_sF rfl rfl hl.1 (Nat.le_of_ble_eq_true rfl) dL_law_1179 hf (fun H locs hP hD hS => ?_)
      exact kB_count_T E hk hf J e2 (e3.trans rfl) (fun h9 => absurd h9 (by decide)) hR2 hP hD hS hl
  · refine kr_wrap (w' := kL_w g cL a h mb o G1 V M (vp_updL f (0 : Int32).toNatClampNeg r.toInt64)) (As := [.ref (a 0 0), .int (kL_x xs k 1), .ref o]) (rest := []) hC (sL_count l hst g cL n a h G V o f (kL_x xs k 1) (r, G1) e1) (vx_cwSW 3 hts gL_law_L_count rfl rfl rfl (by decide +kernel) ⟨Nat.le_of_ble_eq_true rfl, Nat.le_of_ble_eq_true rfl⟩) hK4 hG hNx hP hD hS hA kL_iF kL_mF kL_nF rfl kL_sF rfl rfl hl.1 (Nat.le_of_ble_eq_true rfl) dL_law_1179 hf (fun H locs hP hD hS => ?_)
    exact kB_count_T E hk hf J e2 (e3.trans rfl) (fun _ => kL_u0) hR2 hP hD hS hl
set_option maxHeartbeats 8000000 in
set_option maxRecDepth 100000 in
theorem kB_setting_T (E : kL_E p l s m args c g cL A b L xs) (hk : 5 * k + 5 ≤ L) {c1 s1 : Nat} (hf : c1 ≤ 617796 ∧ s1 ≤ 7242715) (J : kL_J p l e s m args below meth c Q g cL A b a h mb o k 1500 c1 s1) {G V : St2} {M M1 : St1} {f : Nat → Int64} {r v5 : Int32} (hM : fX5_setting n M (kL_x xs k 1) = some (r, M1)) (h6 : M1 6 0 = v5) (h0 : v5 = 0 → f (0 : Int32).toNatClampNeg = r.toInt64) (hRR : RR G V M1) {H : Heap} {locs : List Loc} {ls : Array Slot} (hP : va_P g.1 vwCl (kL_w g cL a h mb o G V M f) H) (hD : va_D A (kL_w g cL a h mb o G V M f)) (hS : va_S A s.heap H locs) (hl : lv_has ls 9 (kL_l b a mb o k)) : W p l e room_1 s m args below meth c H locs c1 s1 Q (F0 m 1238 ls [.int v5]) := by
  obtain ⟨hC, hst, hK4, hG, hNx, hA, hX, hbl, hbA, hL⟩ := id E
  obtain ⟨hx, hb, hml, hown, hts⟩ := id hC
  have hK := kT4_sub hK4
  obtain ⟨h_0, h_1, h_2, h_3, h_4⟩ := kL_in hk hL
  obtain ⟨fs, hfs⟩ := (kL_86 (g := g) (cL := cL) (a := a) (h := h) (b := mb) (o := o) (G := G) (V := V) (M := M) (f := f))
  obtain ⟨fs2, hfs2⟩ := (kL_86 (g := g) (cL := cL) (a := a) (h := h) (b := mb) (o := o) (G := G) (V := V) (M := M1) (f := f))
  refine lv_istore (i := 5) (lv' := (5, .int v5) :: kL_l b a mb o k) hx hb dL_law_1238 hl (by decide) rfl (fun ls hl => ?_)
  refine lv_aload_n hx hb dL_law_1240 rfl (lv_at hl 3 rfl) ?_
  refine lv_aload_n hx hb dL_law_1241 rfl (lv_at hl 1 rfl) ?_
  refine lv_iload hx hb dL_law_1242 (lv_at hl 5 rfl) ?_
  refine lv_iconst (v := (1 : Int32)) hx hb dL_law_1244 (by decide) ?_
  refine lv_iadd hx hb dL_law_1245 ?_
  refine va_sld hx hb hX hbl hbA hS h_1 dL_law_1246 ?_
  refine kr_Vi (w' := kL_w g cL a h mb o G V M1 f) (As := [.int (kL_x xs k 1)]) (rest := []) 86 5 hC (sX5_setting l g n mb M (kL_x xs k 1) (r, M1) hM) (cwV 1 hts gL_law_X5_setting rfl rfl rfl (by decide +kernel) ⟨Nat.le_of_ble_eq_true rfl, Nat.le_of_ble_eq_true rfl⟩) hK hP hD hS hA kL_iM kL_mM kL_nM rfl kL_sM rfl hfs rfl rfl rfl hl.1 (Nat.le_of_ble_eq_true rfl) dL_law_1247 hf (fun H locs hP hD hS => ?_)
  refine lv_istore (i := 6) (lv' := (6, .int r) :: (5, .int v5) :: kL_l b a mb o k) hx hb dL_law_1250 hl (by decide) rfl (fun ls hl => ?_)
  refine lv_aload_n hx hb dL_law_1252 rfl (lv_at hl 4 rfl) ?_
  refine kr_Vi (w' := kL_w g cL a h mb o G V M1 f) (As := []) (rest := []) 86 5 hC (sX5_thrown l g n mb M1 (M1 6 0) rfl) (cwV 0 hts gL_law_X5_thrown rfl rfl rfl (by decide +kernel) ⟨Nat.le_of_ble_eq_true rfl, Nat.le_of_ble_eq_true rfl⟩) hK hP hD hS hA kL_iM kL_mM kL_nM rfl kL_sM rfl hfs2 rfl rfl rfl hl.1 (Nat.le_of_ble_eq_true rfl) dL_law_1253 hf (fun H locs hP hD hS => ?_)
  refine lv_iload hx hb dL_law_1256 (lv_at hl 1 rfl) ?_
  refine lv_icmp_eq (tgt := 1263) hx hb dL_law_1258 (by decide) (fun _ => ?_) (fun c9 => absurd h6 c9)
  refine lv_iload hx hb dL_law_1263 (lv_at hl 1 rfl) ?_
  have J2 : W p l e room_1 s m args below meth c H locs c1 s1 Q (F0 m 1280 ls []) := lv_goto (tgt := 1500) hx hb dL_law_1280 (by decide) (J G V M1 f H locs ls hP hD hS hRR (lv_sub hl [2, 3, 4, 5, 6] rfl))
  refine lv_if_ne (tgt := 1280) hx hb dL_law_1265 (by decide) (fun _ => J2) (fun c9 => ?_)
  refine lv_aload_n hx hb dL_law_1268 rfl (lv_at hl 5 rfl) ?_
  refine lv_iconst (v := (0 : Int32)) hx hb dL_law_1269 (by decide) ?_
  refine va_lald hx hb hK4 hP 93 3 kL_93 rfl (kk_in 0 1 (by decide) (by decide) rfl) dL_law_1270 ?_
  refine lv_iload hx hb dL_law_1271 (lv_at hl 0 rfl) ?_
  refine lv_i2l (v := r.toInt64) hx hb dL_law_1273 rfl ?_
  refine W.lcmp hx hb dL_law_1274 ?_
  exact lv_if_eq (tgt := 1280) hx hb dL_law_1275 (by decide) (fun _ => J2) (fun c9 => absurd (kL_cm (h0 (by assumption))) c9)
set_option maxHeartbeats 8000000 in
set_option maxRecDepth 100000 in
theorem kB_setting (E : kL_E p l s m args c g cL A b L xs) (hk : 5 * k + 5 ≤ L) (hn : 300000 ≤ n) {c0 s0 : Nat} (hf : c0 + 1 ≤ 617796 ∧ s0 + 6 ≤ 7242715) (J : kL_J p l e s m args below meth c Q g cL A b a h mb o k 1500 (c0 + 1) (s0 + 6)) {G V : St2} {M : St1} {f : Nat → Int64} (hRR : RR G V M) {H : Heap} {locs : List Loc} {ls : Array Slot} (hP : va_P g.1 vwCl (kL_w g cL a h mb o G V M f) H) (hD : va_D A (kL_w g cL a h mb o G V M f)) (hS : va_S A s.heap H locs) (hl : lv_has ls 9 (kL_l b a mb o k)) : W p l e room_1 s m args below meth c H locs c0 s0 Q (F0 m 1227 ls []) := by
  obtain ⟨hC, hst, hK4, hG, hNx, hA, hX, hbl, hbA, hL⟩ := id E
  obtain ⟨hx, hb, hml, hown, hts⟩ := id hC
  have hK := kT4_sub hK4
  obtain ⟨h_0, h_1, h_2, h_3, h_4⟩ := kL_in hk hL
  refine lv_aload_n hx hb dL_law_1227 rfl (lv_at hl 1 rfl) ?_
  refine lv_aload_n hx hb dL_law_1228 rfl (lv_at hl 0 rfl) ?_
  refine lv_iload hx hb dL_law_1229 (lv_at hl 4 rfl) ?_
  refine lv_iconst (v := (1 : Int32)) hx hb dL_law_1231 (by decide) ?_
  refine lv_iadd hx hb dL_law_1232 ?_
  refine va_sld hx hb hX hbl hbA hS h_1 dL_law_1233 ?_
  refine lv_aload_n hx hb dL_law_1234 rfl (lv_at hl 3 rfl) ?_
  rcases st_setting (n := n) (by omega) hRR (kL_x xs k 1) with ⟨t, r, M1, e1, hk9, e2, e3, hR2⟩ | ⟨r, M1, e1, e2, e3, hR2⟩
  · simp only [List.mem_cons, List.not_mem_nil, or_false] at hk9
    subst hk9
    · refine kr_wrap (w' := kL_w g cL a h mb o G V M f) (As := [.ref (a 0 0), .int (kL_x xs k 1), .ref o]) (rest := []) hC (sL_setting_t1 l hst g cL n a G o f (kL_x xs k 1) e1) (vx_cwSW 3 hts gL_law_L_setting rfl rfl rfl (by decide +kernel) ⟨Nat.le_of_ble_eq_true rfl, Nat.le_of_ble_eq_true rfl⟩) hK4 hG hNx hP hD hS hA kL_iG kL_mG kL_nG rfl kL_sG rfl rfl hl.1 (Nat.le_of_ble_eq_true rfl) dL_law_1235 hf (fun H locs hP hD hS => ?_)
      exact kB_setting_T E hk hf J e2 (e3.trans rfl) (fun h9 => absurd h9 (by decide)) hR2 hP hD hS hl
  · refine kr_wrap (w' := kL_w g cL a h mb o G V M (vp_updL f (0 : Int32).toNatClampNeg r.toInt64)) (As := [.ref (a 0 0), .int (kL_x xs k 1), .ref o]) (rest := []) hC (sL_setting l hst g cL n a G o f (kL_x xs k 1) r e1) (vx_cwSW 3 hts gL_law_L_setting rfl rfl rfl (by decide +kernel) ⟨Nat.le_of_ble_eq_true rfl, Nat.le_of_ble_eq_true rfl⟩) hK4 hG hNx hP hD hS hA kL_iG kL_mG kL_nG rfl kL_sG rfl rfl hl.1 (Nat.le_of_ble_eq_true rfl) dL_law_1235 hf (fun H locs hP hD hS => ?_)
    exact kB_setting_T E hk hf J e2 (e3.trans rfl) (fun _ => kL_u0) hR2 hP hD hS hl
set_option maxHeartbeats 8000000 in
set_option maxRecDepth 100000 in
theorem kB_ifMoved_T (E : kL_E p l s m args c g cL A b L xs) (hk : 5 * k + 5 ≤ L) {c1 s1 : Nat} (hf : c1 ≤ 617796 ∧ s1 ≤ 7242715) (J : kL_J p l e s m args below meth c Q g cL A b a h mb o k 1500 c1 s1) {G V : St2} {M M1 : St1} {f : Nat → Int64} {r v5 : Int32} (hM : fX5_ifMoved n M (kL_x xs k 1) (kL_x xs k 2) (kL_x xs k 3) = some (r, M1)) (h6 : M1 6 0 = v5) (h0 : v5 = 0 → f (0 : Int32).toNatClampNeg = r.toInt64) (hRR : RR G V M1) {H : Heap} {locs : List Loc} {ls : Array Slot} (hP : va_P g.1 vwCl (kL_w g cL a h mb o G V M f) H) (hD : va_D A (kL_w g cL a h mb o G V M f)) (hS : va_S A s.heap H locs) (hl : lv_has ls 9 (kL_l b a mb o k)) : W p l e room_1 s m args below meth c H locs c1 s1 Q (F0 m 1306 ls [.int v5]) := by
  obtain ⟨hC, hst, hK4, hG, hNx, hA, hX, hbl, hbA, hL⟩ := id E
  obtain ⟨hx, hb, hml, hown, hts⟩ := id hC
  have hK := kT4_sub hK4
  obtain ⟨h_0, h_1, h_2, h_3, h_4⟩ := kL_in hk hL
  obtain ⟨fs, hfs⟩ := (kL_86 (g := g) (cL := cL) (a := a) (h := h) (b := mb) (o := o) (G := G) (V := V) (M := M) (f := f))
  obtain ⟨fs2, hfs2⟩ := (kL_86 (g := g) (cL := cL) (a := a) (h := h) (b := mb) (o := o) (G := G) (V := V) (M := M1) (f := f))
  refine lv_istore (i := 5) (lv' := (5, .int v5) :: kL_l b a mb o k) hx hb dL_law_1306 hl (by decide) rfl (fun ls hl => ?_)
  refine lv_aload_n hx hb dL_law_1308 rfl (lv_at hl 3 rfl) ?_
  refine lv_aload_n hx hb dL_law_1309 rfl (lv_at hl 1 rfl) ?_
  refine lv_iload hx hb dL_law_1310 (lv_at hl 5 rfl) ?_
  refine lv_iconst (v := (1 : Int32)) hx hb dL_law_1312 (by decide) ?_
  refine lv_iadd hx hb dL_law_1313 ?_
  refine va_sld hx hb hX hbl hbA hS h_1 dL_law_1314 ?_
  refine lv_aload_n hx hb dL_law_1315 rfl (lv_at hl 1 rfl) ?_
  refine lv_iload hx hb dL_law_1316 (lv_at hl 5 rfl) ?_
  refine lv_iconst (v := (2 : Int32)) hx hb dL_law_1318 (by decide) ?_
  refine lv_iadd hx hb dL_law_1319 ?_
  refine va_sld hx hb hX hbl hbA hS h_2 dL_law_1320 ?_
  refine lv_aload_n hx hb dL_law_1321 rfl (lv_at hl 1 rfl) ?_
  refine lv_iload hx hb dL_law_1322 (lv_at hl 5 rfl) ?_
  refine lv_iconst (v := (3 : Int32)) hx hb dL_law_1324 (by decide) ?_
  refine lv_iadd hx hb dL_law_1325 ?_
  refine va_sld hx hb hX hbl hbA hS h_3 dL_law_1326 ?_
  refine kr_Vi (w' := kL_w g cL a h mb o G V M1 f) (As := [.int (kL_x xs k 1), .int (kL_x xs k 2), .int (kL_x xs k 3)]) (rest := []) 86 5 hC (sX5_ifMoved l g n mb M (kL_x xs k 1) (kL_x xs k 2) (kL_x xs k 3) (r, M1) hM) (cwV 3 hts gL_law_X5_ifMoved rfl rfl rfl (by decide +kernel) ⟨Nat.le_of_ble_eq_true rfl, Nat.le_of_ble_eq_true rfl⟩) hK hP hD hS hA kL_iM kL_mM kL_nM rfl kL_sM rfl hfs rfl rfl rfl hl.1 (Nat.le_of_ble_eq_true rfl) dL_law_1327 hf (fun H locs hP hD hS => ?_)
  refine lv_istore (i := 6) (lv' := (6, .int r) :: (5, .int v5) :: kL_l b a mb o k) hx hb dL_law_1330 hl (by decide) rfl (fun ls hl => ?_)
  refine lv_aload_n hx hb dL_law_1332 rfl (lv_at hl 4 rfl) ?_
  refine kr_Vi (w' := kL_w g cL a h mb o G V M1 f) (As := []) (rest := []) 86 5 hC (sX5_thrown l g n mb M1 (M1 6 0) rfl) (cwV 0 hts gL_law_X5_thrown rfl rfl rfl (by decide +kernel) ⟨Nat.le_of_ble_eq_true rfl, Nat.le_of_ble_eq_true rfl⟩) hK hP hD hS hA kL_iM kL_mM kL_nM rfl kL_sM rfl hfs2 rfl rfl rfl hl.1 (Nat.le_of_ble_eq_true rfl) dL_law_1333 hf (fun H locs hP hD hS => ?_)
  refine lv_iload hx hb dL_law_1336 (lv_at hl 1 rfl) ?_
  refine lv_icmp_eq (tgt := 1343) hx hb dL_law_1338 (by decide) (fun _ => ?_) (fun c9 => absurd h6 c9)
  refine lv_iload hx hb dL_law_1343 (lv_at hl 1 rfl) ?_
  have J2 : W p l e room_1 s m args below meth c H locs c1 s1 Q (F0 m 1360 ls []) := lv_goto (tgt := 1500) hx hb dL_law_1360 (by decide) (J G V M1 f H locs ls hP hD hS hRR (lv_sub hl [2, 3, 4, 5, 6] rfl))
  refine lv_if_ne (tgt := 1360) hx hb dL_law_1345 (by decide) (fun _ => J2) (fun c9 => ?_)
  refine lv_aload_n hx hb dL_law_1348 rfl (lv_at hl 5 rfl) ?_
  refine lv_iconst (v := (0 : Int32)) hx hb dL_law_1349 (by decide) ?_
  refine va_lald hx hb hK4 hP 93 3 kL_93 rfl (kk_in 0 1 (by decide) (by decide) rfl) dL_law_1350 ?_
  refine lv_iload hx hb dL_law_1351 (lv_at hl 0 rfl) ?_
  refine lv_i2l (v := r.toInt64) hx hb dL_law_1353 rfl ?_
  refine W.lcmp hx hb dL_law_1354 ?_
  exact lv_if_eq (tgt := 1360) hx hb dL_law_1355 (by decide) (fun _ => J2) (fun c9 => absurd (kL_cm (h0 (by assumption))) c9)
set_option maxHeartbeats 8000000 in
set_option maxRecDepth 100000 in
theorem kB_ifMoved (E : kL_E p l s m args c g cL A b L xs) (hk : 5 * k + 5 ≤ L) (hn : 300000 ≤ n) {c0 s0 : Nat} (hf : c0 + 1 ≤ 617796 ∧ s0 + 6 ≤ 7242715) (J : kL_J p l e s m args below meth c Q g cL A b a h mb o k 1500 (c0 + 1) (s0 + 6)) {G V : St2} {M : St1} {f : Nat → Int64} (hRR : RR G V M) {H : Heap} {locs : List Loc} {ls : Array Slot} (hP : va_P g.1 vwCl (kL_w g cL a h mb o G V M f) H) (hD : va_D A (kL_w g cL a h mb o G V M f)) (hS : va_S A s.heap H locs) (hl : lv_has ls 9 (kL_l b a mb o k)) : W p l e room_1 s m args below meth c H locs c0 s0 Q (F0 m 1283 ls []) := by
  obtain ⟨hC, hst, hK4, hG, hNx, hA, hX, hbl, hbA, hL⟩ := id E
  obtain ⟨hx, hb, hml, hown, hts⟩ := id hC
  have hK := kT4_sub hK4
  obtain ⟨h_0, h_1, h_2, h_3, h_4⟩ := kL_in hk hL
  refine lv_aload_n hx hb dL_law_1283 rfl (lv_at hl 1 rfl) ?_
  refine lv_aload_n hx hb dL_law_1284 rfl (lv_at hl 0 rfl) ?_
  refine lv_iload hx hb dL_law_1285 (lv_at hl 4 rfl) ?_
  refine lv_iconst (v := (1 : Int32)) hx hb dL_law_1287 (by decide) ?_
  refine lv_iadd hx hb dL_law_1288 ?_
  refine va_sld hx hb hX hbl hbA hS h_1 dL_law_1289 ?_
  refine lv_aload_n hx hb dL_law_1290 rfl (lv_at hl 0 rfl) ?_
  refine lv_iload hx hb dL_law_1291 (lv_at hl 4 rfl) ?_
  refine lv_iconst (v := (2 : Int32)) hx hb dL_law_1293 (by decide) ?_
  refine lv_iadd hx hb dL_law_1294 ?_
  refine va_sld hx hb hX hbl hbA hS h_2 dL_law_1295 ?_
  refine lv_aload_n hx hb dL_law_1296 rfl (lv_at hl 0 rfl) ?_
  refine lv_iload hx hb dL_law_1297 (lv_at hl 4 rfl) ?_
  refine lv_iconst (v := (3 : Int32)) hx hb dL_law_1299 (by decide) ?_
  refine lv_iadd hx hb dL_law_1300 ?_
  refine va_sld hx hb hX hbl hbA hS h_3 dL_law_1301 ?_
  refine lv_aload_n hx hb dL_law_1302 rfl (lv_at hl 3 rfl) ?_
  rcases st_ifMoved (n := n) (by omega) hRR (kL_x xs k 1) (kL_x xs k 2) (kL_x xs k 3) with ⟨t, r, M1, e1, hk9, e2, e3, hR2⟩ | ⟨r, G1, M1, e1, e2, e3, hR2⟩
  · simp only [List.mem_cons, List.not_mem_nil, or_false] at hk9
    rcases hk9 with rfl | rfl
    · refine kr_wrap (w' := kL_w g cL a h mb o G V M f) (As := [.ref (a 0 0), .int (kL_x xs k 1), .int (kL_x xs k 2), .int (kL_x xs k 3), .ref o]) (rest := []) hC (sL_ifMoved_t1 l hst g cL n a G o f (kL_x xs k 1) (kL_x xs k 2) (kL_x xs k 3) e1) (vx_cwSW 5 hts gL_law_L_ifMoved rfl rfl rfl (by decide +kernel) ⟨Nat.le_of_ble_eq_true rfl, Nat.le_of_ble_eq_true rfl⟩) hK4 hG hNx hP hD hS hA kL_iG kL_mG kL_nG rfl kL_sG rfl rfl hl.1 (Nat.le_of_ble_eq_true rfl) dL_law_1303 hf (fun H locs hP hD hS => ?_)
      exact kB_ifMoved_T E hk hf J e2 (e3.trans rfl) (fun h9 => absurd h9 (by decide)) hR2 hP hD hS hl
    · refine kr_wrap (w' := kL_w g cL a h mb o G V M f) (As := [.ref (a 0 0), .int (kL_x xs k 1), .int (kL_x xs k 2), .int (kL_x xs k 3), .ref o]) (rest := []) hC (sL_ifMoved_t2 l hst g cL n a G o f (kL_x xs k 1) (kL_x xs k 2) (kL_x xs k 3) e1) (vx_cwSW 5 hts gL_law_L_ifMoved rfl rfl rfl (by decide +kernel) ⟨Nat.le_of_ble_eq_true rfl, Nat.le_of_ble_eq_true rfl⟩) hK4 hG hNx hP hD hS hA kL_iG kL_mG kL_nG rfl kL_sG rfl rfl hl.1 (Nat.le_of_ble_eq_true rfl) dL_law_1303 hf (fun H locs hP hD hS => ?_)
      exact kB_ifMoved_T E hk hf J e2 (e3.trans rfl) (fun h9 => absurd h9 (by decide)) hR2 hP hD hS hl
  · refine kr_wrap (w' := kL_w g cL a h mb o G1 V M (vp_updL f (0 : Int32).toNatClampNeg r.toInt64)) (As := [.ref (a 0 0), .int (kL_x xs k 1), .int (kL_x xs k 2), .int (kL_x xs k 3), .ref o]) (rest := []) hC (sL_ifMoved l hst g cL n a G o f (kL_x xs k 1) (kL_x xs k 2) (kL_x xs k 3) (r, G1) e1) (vx_cwSW 5 hts gL_law_L_ifMoved rfl rfl rfl (by decide +kernel) ⟨Nat.le_of_ble_eq_true rfl, Nat.le_of_ble_eq_true rfl⟩) hK4 hG hNx hP hD hS hA kL_iG kL_mG kL_nG rfl kL_sG rfl rfl hl.1 (Nat.le_of_ble_eq_true rfl) dL_law_1303 hf (fun H locs hP hD hS => ?_)
    exact kB_ifMoved_T E hk hf J e2 (e3.trans rfl) (fun _ => kL_u0) hR2 hP hD hS hl
set_option maxHeartbeats 8000000 in
set_option maxRecDepth 100000 in
theorem kB_bestPlace_T (E : kL_E p l s m args c g cL A b L xs) (hk : 5 * k + 5 ≤ L) {c1 s1 : Nat} (hf : c1 ≤ 617796 ∧ s1 ≤ 7242715) (J : kL_J p l e s m args below meth c Q g cL A b a h mb o k 1500 c1 s1) {G V : St2} {M M1 : St1} {f : Nat → Int64} {r v5 : Int32} (hM : fX5_bestPlace n M (kL_x xs k 1) = some (r, M1)) (h6 : M1 6 0 = v5) (h0 : v5 = 0 → f (0 : Int32).toNatClampNeg = r.toInt64) (hRR : RR G V M1) {H : Heap} {locs : List Loc} {ls : Array Slot} (hP : va_P g.1 vwCl (kL_w g cL a h mb o G V M f) H) (hD : va_D A (kL_w g cL a h mb o G V M f)) (hS : va_S A s.heap H locs) (hl : lv_has ls 9 (kL_l b a mb o k)) : W p l e room_1 s m args below meth c H locs c1 s1 Q (F0 m 1374 ls [.int v5]) := by
  obtain ⟨hC, hst, hK4, hG, hNx, hA, hX, hbl, hbA, hL⟩ := id E
  obtain ⟨hx, hb, hml, hown, hts⟩ := id hC
  have hK := kT4_sub hK4
  obtain ⟨h_0, h_1, h_2, h_3, h_4⟩ := kL_in hk hL
  obtain ⟨fs, hfs⟩ := (kL_86 (g := g) (cL := cL) (a := a) (h := h) (b := mb) (o := o) (G := G) (V := V) (M := M) (f := f))
  obtain ⟨fs2, hfs2⟩ := (kL_86 (g := g) (cL := cL) (a := a) (h := h) (b := mb) (o := o) (G := G) (V := V) (M := M1) (f := f))
  refine lv_istore (i := 5) (lv' := (5, .int v5) :: kL_l b a mb o k) hx hb dL_law_1374 hl (by decide) rfl (fun ls hl => ?_)
  refine lv_aload_n hx hb dL_law_1376 rfl (lv_at hl 3 rfl) ?_
  refine lv_aload_n hx hb dL_law_1377 rfl (lv_at hl 1 rfl) ?_
  refine lv_iload hx hb dL_law_1378 (lv_at hl 5 rfl) ?_
  refine lv_iconst (v := (1 : Int32)) hx hb dL_law_1380 (by decide) ?_
  refine lv_iadd hx hb dL_law_1381 ?_
  refine va_sld hx hb hX hbl hbA hS h_1 dL_law_1382 ?_
  refine kr_Vi (w' := kL_w g cL a h mb o G V M1 f) (As := [.int (kL_x xs k 1)]) (rest := []) 86 5 hC (sX5_bestPlace l g n mb M (kL_x xs k 1) (r, M1) hM) (cwV 1 hts gL_law_X5_bestPlace rfl rfl rfl (by decide +kernel) ⟨Nat.le_of_ble_eq_true rfl, Nat.le_of_ble_eq_true rfl⟩) hK hP hD hS hA kL_iM kL_mM kL_nM rfl kL_sM rfl hfs rfl rfl rfl hl.1 (Nat.le_of_ble_eq_true rfl) dL_law_1383 hf (fun H locs hP hD hS => ?_)
  refine lv_istore (i := 6) (lv' := (6, .int r) :: (5, .int v5) :: kL_l b a mb o k) hx hb dL_law_1386 hl (by decide) rfl (fun ls hl => ?_)
  refine lv_aload_n hx hb dL_law_1388 rfl (lv_at hl 4 rfl) ?_
  refine kr_Vi (w' := kL_w g cL a h mb o G V M1 f) (As := []) (rest := []) 86 5 hC (sX5_thrown l g n mb M1 (M1 6 0) rfl) (cwV 0 hts gL_law_X5_thrown rfl rfl rfl (by decide +kernel) ⟨Nat.le_of_ble_eq_true rfl, Nat.le_of_ble_eq_true rfl⟩) hK hP hD hS hA kL_iM kL_mM kL_nM rfl kL_sM rfl hfs2 rfl rfl rfl hl.1 (Nat.le_of_ble_eq_true rfl) dL_law_1389 hf (fun H locs hP hD hS => ?_)
  refine lv_iload hx hb dL_law_1392 (lv_at hl 1 rfl) ?_
  refine lv_icmp_eq (tgt := 1399) hx hb dL_law_1394 (by decide) (fun _ => ?_) (fun c9 => absurd h6 c9)
  refine lv_iload hx hb dL_law_1399 (lv_at hl 1 rfl) ?_
  have J2 : W p l e room_1 s m args below meth c H locs c1 s1 Q (F0 m 1416 ls []) := lv_goto (tgt := 1500) hx hb dL_law_1416 (by decide) (J G V M1 f H locs ls hP hD hS hRR (lv_sub hl [2, 3, 4, 5, 6] rfl))
  refine lv_if_ne (tgt := 1416) hx hb dL_law_1401 (by decide) (fun _ => J2) (fun c9 => ?_)
  refine lv_aload_n hx hb dL_law_1404 rfl (lv_at hl 5 rfl) ?_
  refine lv_iconst (v := (0 : Int32)) hx hb dL_law_1405 (by decide) ?_
  refine va_lald hx hb hK4 hP 93 3 kL_93 rfl (kk_in 0 1 (by decide) (by decide) rfl) dL_law_1406 ?_
  refine lv_iload hx hb dL_law_1407 (lv_at hl 0 rfl) ?_
  refine lv_i2l (v := r.toInt64) hx hb dL_law_1409 rfl ?_
  refine W.lcmp hx hb dL_law_1410 ?_
  exact lv_if_eq (tgt := 1416) hx hb dL_law_1411 (by decide) (fun _ => J2) (fun c9 => absurd (kL_cm (h0 (by assumption))) c9)
set_option maxHeartbeats 8000000 in
set_option maxRecDepth 100000 in
theorem kB_bestPlace (E : kL_E p l s m args c g cL A b L xs) (hk : 5 * k + 5 ≤ L) (hn : 300000 ≤ n) {c0 s0 : Nat} (hf : c0 + 1 ≤ 617796 ∧ s0 + 6 ≤ 7242715) (J : kL_J p l e s m args below meth c Q g cL A b a h mb o k 1500 (c0 + 1) (s0 + 6)) {G V : St2} {M : St1} {f : Nat → Int64} (hRR : RR G V M) {H : Heap} {locs : List Loc} {ls : Array Slot} (hP : va_P g.1 vwCl (kL_w g cL a h mb o G V M f) H) (hD : va_D A (kL_w g cL a h mb o G V M f)) (hS : va_S A s.heap H locs) (hl : lv_has ls 9 (kL_l b a mb o k)) : W p l e room_1 s m args below meth c H locs c0 s0 Q (F0 m 1363 ls []) := by
  obtain ⟨hC, hst, hK4, hG, hNx, hA, hX, hbl, hbA, hL⟩ := id E
  obtain ⟨hx, hb, hml, hown, hts⟩ := id hC
  have hK := kT4_sub hK4
  obtain ⟨h_0, h_1, h_2, h_3, h_4⟩ := kL_in hk hL
  refine lv_aload_n hx hb dL_law_1363 rfl (lv_at hl 1 rfl) ?_
  refine lv_aload_n hx hb dL_law_1364 rfl (lv_at hl 0 rfl) ?_
  refine lv_iload hx hb dL_law_1365 (lv_at hl 4 rfl) ?_
  refine lv_iconst (v := (1 : Int32)) hx hb dL_law_1367 (by decide) ?_
  refine lv_iadd hx hb dL_law_1368 ?_
  refine va_sld hx hb hX hbl hbA hS h_1 dL_law_1369 ?_
  refine lv_aload_n hx hb dL_law_1370 rfl (lv_at hl 3 rfl) ?_
  rcases st_bestPlace (n := n) (by omega) hRR (kL_x xs k 1) with ⟨t, r, M1, e1, hk9, e2, e3, hR2⟩ | ⟨r, G1, M1, e1, e2, e3, hR2⟩
  · simp only [List.mem_cons, List.not_mem_nil, or_false] at hk9
    subst hk9
    · refine kr_wrap (w' := kL_w g cL a h mb o G V M f) (As := [.ref (a 0 0), .int (kL_x xs k 1), .ref o]) (rest := []) hC (sL_bestPlace_t1 l hst g cL n a G o f (kL_x xs k 1) e1) (vx_cwSW 3 hts gL_law_L_bestPlace rfl rfl rfl (by decide +kernel) ⟨Nat.le_of_ble_eq_true rfl, Nat.le_of_ble_eq_true rfl⟩) hK4 hG hNx hP hD hS hA kL_iG kL_mG kL_nG rfl kL_sG rfl rfl hl.1 (Nat.le_of_ble_eq_true rfl) dL_law_1371 hf (fun H locs hP hD hS => ?_)
      exact kB_bestPlace_T E hk hf J e2 (e3.trans rfl) (fun h9 => absurd h9 (by decide)) hR2 hP hD hS hl
  · refine kr_wrap (w' := kL_w g cL a h mb o G1 V M (vp_updL f (0 : Int32).toNatClampNeg r.toInt64)) (As := [.ref (a 0 0), .int (kL_x xs k 1), .ref o]) (rest := []) hC (sL_bestPlace l hst g cL n a G o f (kL_x xs k 1) (r, G1) e1) (vx_cwSW 3 hts gL_law_L_bestPlace rfl rfl rfl (by decide +kernel) ⟨Nat.le_of_ble_eq_true rfl, Nat.le_of_ble_eq_true rfl⟩) hK4 hG hNx hP hD hS hA kL_iG kL_mG kL_nG rfl kL_sG rfl rfl hl.1 (Nat.le_of_ble_eq_true rfl) dL_law_1371 hf (fun H locs hP hD hS => ?_)
    exact kB_bestPlace_T E hk hf J e2 (e3.trans rfl) (fun _ => kL_u0) hR2 hP hD hS hl
set_option maxHeartbeats 8000000 in
set_option maxRecDepth 100000 in
theorem kB_bestFold (E : kL_E p l s m args c g cL A b L xs) (hk : 5 * k + 5 ≤ L) (hn : 300000 ≤ n) {c0 s0 : Nat} (hf : c0 + 1 ≤ 617796 ∧ s0 + 6 ≤ 7242715) (J : kL_J p l e s m args below meth c Q g cL A b a h mb o k 1500 (c0 + 1) (s0 + 6)) {G V : St2} {M : St1} {f : Nat → Int64} (hRR : RR G V M) {H : Heap} {locs : List Loc} {ls : Array Slot} (hP : va_P g.1 vwCl (kL_w g cL a h mb o G V M f) H) (hD : va_D A (kL_w g cL a h mb o G V M f)) (hS : va_S A s.heap H locs) (hl : lv_has ls 9 (kL_l b a mb o k)) : W p l e room_1 s m args below meth c H locs c0 s0 Q (F0 m 1419 ls []) := by
  obtain ⟨hC, hst, hK4, hG, hNx, hA, hX, hbl, hbA, hL⟩ := id E
  obtain ⟨hx, hb, hml, hown, hts⟩ := id hC
  have hK := kT4_sub hK4
  obtain ⟨h_0, h_1, h_2, h_3, h_4⟩ := kL_in hk hL
  obtain ⟨r, G1, M1, e1, e2, -, hR2⟩ := st_bestFold (n := n) (by omega) hRR
  obtain ⟨fs, hfs⟩ := kL_0 (g := g) (cL := cL) (a := a) (h := h) (b := mb) (o := o) (G := G) (V := V) (M := M) (f := f)
  obtain ⟨fs2, hfs2⟩ := (kL_86 (g := g) (cL := cL) (a := a) (h := h) (b := mb) (o := o) (G := G1) (V := V) (M := M) (f := f))
  refine kw_widen (k := c0 + 1) (j := s0 + 6) (Nat.le_add_right _ _) (Nat.le_add_right _ _) ?_
  refine lv_aload_n hx hb dL_law_1419 rfl (lv_at hl 1 rfl) ?_
  refine kr_Vi (w' := kL_w g cL a h mb o G1 V M f) (As := []) (rest := []) 0 4 hC (sX4_bestFold l g n a G (r, G1) e1) (cwV 0 hts gL_law_X4_bestFold rfl rfl rfl (by decide +kernel) ⟨Nat.le_of_ble_eq_true rfl, Nat.le_of_ble_eq_true rfl⟩) hK hP hD hS hA kL_iB kL_mB kL_nB rfl kL_sB rfl hfs rfl rfl rfl hl.1 (Nat.le_of_ble_eq_true rfl) dL_law_1420 hf (fun H locs hP hD hS => ?_)
  refine lv_aload_n hx hb dL_law_1423 rfl (lv_at hl 2 rfl) ?_
  refine kr_Vi (w' := kL_w g cL a h mb o G1 V M1 f) (As := []) (rest := [.int r]) 86 5 hC (sX5_bestFold l g n mb M (r, M1) e2) (cwV 0 hts gL_law_X5_bestFold rfl rfl rfl (by decide +kernel) ⟨Nat.le_of_ble_eq_true rfl, Nat.le_of_ble_eq_true rfl⟩) hK hP hD hS hA kL_iM kL_mM kL_nM rfl kL_sM rfl hfs2 rfl rfl rfl hl.1 (Nat.le_of_ble_eq_true rfl) dL_law_1424 hf (fun H locs hP hD hS => ?_)
  exact lv_icmp_eq (tgt := 1500) hx hb dL_law_1427 (by decide) (fun _ => J G1 V M1 f H locs ls hP hD hS hR2 hl) (fun c9 => absurd rfl c9)
set_option maxHeartbeats 8000000 in
set_option maxRecDepth 100000 in
theorem kB_leastTrouble (E : kL_E p l s m args c g cL A b L xs) (hk : 5 * k + 5 ≤ L) (hn : 300000 ≤ n) {c0 s0 : Nat} (hf : c0 + 1 ≤ 617796 ∧ s0 + 6 ≤ 7242715) (J : kL_J p l e s m args below meth c Q g cL A b a h mb o k 1500 (c0 + 1) (s0 + 6)) {G V : St2} {M : St1} {f : Nat → Int64} (hRR : RR G V M) {H : Heap} {locs : List Loc} {ls : Array Slot} (hP : va_P g.1 vwCl (kL_w g cL a h mb o G V M f) H) (hD : va_D A (kL_w g cL a h mb o G V M f)) (hS : va_S A s.heap H locs) (hl : lv_has ls 9 (kL_l b a mb o k)) : W p l e room_1 s m args below meth c H locs c0 s0 Q (F0 m 1432 ls []) := by
  obtain ⟨hC, hst, hK4, hG, hNx, hA, hX, hbl, hbA, hL⟩ := id E
  obtain ⟨hx, hb, hml, hown, hts⟩ := id hC
  have hK := kT4_sub hK4
  obtain ⟨h_0, h_1, h_2, h_3, h_4⟩ := kL_in hk hL
  obtain ⟨r, G1, M1, e1, e2, -, hR2⟩ := st_leastTrouble (n := n) (by omega) hRR
  obtain ⟨fs, hfs⟩ := kL_0 (g := g) (cL := cL) (a := a) (h := h) (b := mb) (o := o) (G := G) (V := V) (M := M) (f := f)
  obtain ⟨fs2, hfs2⟩ := (kL_86 (g := g) (cL := cL) (a := a) (h := h) (b := mb) (o := o) (G := G1) (V := V) (M := M) (f := f))
  refine kw_widen (k := c0 + 1) (j := s0 + 6) (Nat.le_add_right _ _) (Nat.le_add_right _ _) ?_
  refine lv_aload_n hx hb dL_law_1432 rfl (lv_at hl 1 rfl) ?_
  refine kr_Vi (w' := kL_w g cL a h mb o G1 V M f) (As := []) (rest := []) 0 4 hC (sX4_leastTrouble l g n a G (r, G1) e1) (cwV 0 hts gL_law_X4_leastTrouble rfl rfl rfl (by decide +kernel) ⟨Nat.le_of_ble_eq_true rfl, Nat.le_of_ble_eq_true rfl⟩) hK hP hD hS hA kL_iB kL_mB kL_nB rfl kL_sB rfl hfs rfl rfl rfl hl.1 (Nat.le_of_ble_eq_true rfl) dL_law_1433 hf (fun H locs hP hD hS => ?_)
  refine lv_aload_n hx hb dL_law_1436 rfl (lv_at hl 2 rfl) ?_
  refine kr_Vi (w' := kL_w g cL a h mb o G1 V M1 f) (As := []) (rest := [.int r]) 86 5 hC (sX5_leastTrouble l g n mb M (r, M1) e2) (cwV 0 hts gL_law_X5_leastTrouble rfl rfl rfl (by decide +kernel) ⟨Nat.le_of_ble_eq_true rfl, Nat.le_of_ble_eq_true rfl⟩) hK hP hD hS hA kL_iM kL_mM kL_nM rfl kL_sM rfl hfs2 rfl rfl rfl hl.1 (Nat.le_of_ble_eq_true rfl) dL_law_1437 hf (fun H locs hP hD hS => ?_)
  exact lv_icmp_eq (tgt := 1500) hx hb dL_law_1440 (by decide) (fun _ => J G1 V M1 f H locs ls hP hD hS hR2 hl) (fun c9 => absurd rfl c9)
set_option maxHeartbeats 8000000 in
set_option maxRecDepth 100000 in
theorem kB_smoothness (E : kL_E p l s m args c g cL A b L xs) (hk : 5 * k + 5 ≤ L) (hn : 300000 ≤ n) {c0 s0 : Nat} (hf : c0 + 1 ≤ 617796 ∧ s0 + 6 ≤ 7242715) (J : kL_J p l e s m args below meth c Q g cL A b a h mb o k 1500 (c0 + 1) (s0 + 6)) {G V : St2} {M : St1} {f : Nat → Int64} (hRR : RR G V M) {H : Heap} {locs : List Loc} {ls : Array Slot} (hP : va_P g.1 vwCl (kL_w g cL a h mb o G V M f) H) (hD : va_D A (kL_w g cL a h mb o G V M f)) (hS : va_S A s.heap H locs) (hl : lv_has ls 9 (kL_l b a mb o k)) : W p l e room_1 s m args below meth c H locs c0 s0 Q (F0 m 1445 ls []) := by
  obtain ⟨hC, hst, hK4, hG, hNx, hA, hX, hbl, hbA, hL⟩ := id E
  obtain ⟨hx, hb, hml, hown, hts⟩ := id hC
  have hK := kT4_sub hK4
  obtain ⟨h_0, h_1, h_2, h_3, h_4⟩ := kL_in hk hL
  obtain ⟨r, M1, e1, e2, -, hR2⟩ := st_smoothness (n := n) (by omega) hRR
  obtain ⟨fs, hfs⟩ := kL_0 (g := g) (cL := cL) (a := a) (h := h) (b := mb) (o := o) (G := G) (V := V) (M := M) (f := f)
  obtain ⟨fs2, hfs2⟩ := (kL_86 (g := g) (cL := cL) (a := a) (h := h) (b := mb) (o := o) (G := G) (V := V) (M := M) (f := f))
  refine kw_widen (k := c0 + 1) (j := s0 + 6) (Nat.le_add_right _ _) (Nat.le_add_right _ _) ?_
  refine lv_aload_n hx hb dL_law_1445 rfl (lv_at hl 1 rfl) ?_
  refine kr_Vd (w' := kL_w g cL a h mb o G V M f) (As := []) (rest := []) 0 4 hC (sX4_smoothness l g n a G r e1) (cwV 0 hts gL_law_X4_smoothness rfl rfl rfl (by decide +kernel) ⟨Nat.le_of_ble_eq_true rfl, Nat.le_of_ble_eq_true rfl⟩) hK hP hD hS hA kL_iB kL_mB kL_nB rfl kL_sB rfl hfs rfl rfl rfl hl.1 (Nat.le_of_ble_eq_true rfl) dL_law_1446 hf (fun H locs hP hD hS => ?_)
  refine lv_dstore (i := 5) (lv' := (5, .double r) :: kL_l b a mb o k) hx hb dL_law_1449 hl (by decide) rfl (fun ls hl => ?_)
  refine lv_aload_n hx hb dL_law_1451 rfl (lv_at hl 3 rfl) ?_
  refine kr_Vd (w' := kL_w g cL a h mb o G V M1 f) (As := []) (rest := []) 86 5 hC (sX5_smoothness l g n mb M (r, M1) e2) (cwV 0 hts gL_law_X5_smoothness rfl rfl rfl (by decide +kernel) ⟨Nat.le_of_ble_eq_true rfl, Nat.le_of_ble_eq_true rfl⟩) hK hP hD hS hA kL_iM kL_mM kL_nM rfl kL_sM rfl hfs2 rfl rfl rfl hl.1 (Nat.le_of_ble_eq_true rfl) dL_law_1452 hf (fun H locs hP hD hS => ?_)
  refine lv_dstore (i := 7) (lv' := (7, .double r) :: (5, .double r) :: kL_l b a mb o k) hx hb dL_law_1455 hl (by decide) rfl (fun ls hl => ?_)
  have J2 : W p l e room_1 s m args below meth c H locs (c0 + 1) (s0 + 6) Q (F0 m 1483 ls []) := lv_goto (tgt := 1500) hx hb dL_law_1483 (by decide) (J G V M1 f H locs ls hP hD hS hR2 (lv_sub hl [2, 3, 4, 5, 6] rfl))
  refine lv_dload hx hb dL_law_1457 (lv_at hl 1 rfl) ?_
  refine lv_dload hx hb dL_law_1459 (lv_at hl 0 rfl) ?_
  refine lv_dcmp hx hb dL_law_1461 ?_
  refine lv_if_eq (tgt := 1483) hx hb dL_law_1462 (by decide) (fun _ => J2) (fun c9 => ?_)
  refine lv_dload hx hb dL_law_1465 (lv_at hl 1 rfl) ?_
  refine lv_dload hx hb dL_law_1467 (lv_at hl 1 rfl) ?_
  refine lv_dcmp hx hb dL_law_1469 ?_
  refine lv_if_eq (tgt := 1481) hx hb dL_law_1470 (by decide) (fun c8 => absurd c8 c9) (fun _ => ?_)
  refine lv_dload hx hb dL_law_1473 (lv_at hl 0 rfl) ?_
  refine lv_dload hx hb dL_law_1475 (lv_at hl 0 rfl) ?_
  refine lv_dcmp hx hb dL_law_1477 ?_
  exact lv_if_ne (tgt := 1483) hx hb dL_law_1478 (by decide) (fun _ => J2) (fun c8 => absurd c8 c9)
set_option maxHeartbeats 8000000 in
set_option maxRecDepth 100000 in
theorem kB_digest (E : kL_E p l s m args c g cL A b L xs) (hk : 5 * k + 5 ≤ L) (hn : 300000 ≤ n) {c0 s0 : Nat} (hf : c0 + 1 ≤ 617796 ∧ s0 + 6 ≤ 7242715) (J : kL_J p l e s m args below meth c Q g cL A b a h mb o k 1500 (c0 + 1) (s0 + 6)) {G V : St2} {M : St1} {f : Nat → Int64} (hRR : RR G V M) {H : Heap} {locs : List Loc} {ls : Array Slot} (hP : va_P g.1 vwCl (kL_w g cL a h mb o G V M f) H) (hD : va_D A (kL_w g cL a h mb o G V M f)) (hS : va_S A s.heap H locs) (hl : lv_has ls 9 (kL_l b a mb o k)) : W p l e room_1 s m args below meth c H locs c0 s0 Q (F0 m 1486 ls []) := by
  obtain ⟨hC, hst, hK4, hG, hNx, hA, hX, hbl, hbA, hL⟩ := id E
  obtain ⟨hx, hb, hml, hown, hts⟩ := id hC
  have hK := kT4_sub hK4
  obtain ⟨h_0, h_1, h_2, h_3, h_4⟩ := kL_in hk hL
  obtain ⟨r, G1, M1, e1, e2, -, hR2⟩ := st_digest (n := n) (by omega) hRR
  obtain ⟨fs, hfs⟩ := kL_0 (g := g) (cL := cL) (a := a) (h := h) (b := mb) (o := o) (G := G) (V := V) (M := M) (f := f)
  obtain ⟨fs2, hfs2⟩ := (kL_86 (g := g) (cL := cL) (a := a) (h := h) (b := mb) (o := o) (G := G1) (V := V) (M := M) (f := f))
  refine kw_widen (k := c0 + 1) (j := s0 + 6) (Nat.le_add_right _ _) (Nat.le_add_right _ _) ?_
  refine lv_aload_n hx hb dL_law_1486 rfl (lv_at hl 1 rfl) ?_
  refine kr_Vl (w' := kL_w g cL a h mb o G1 V M f) (As := []) (rest := []) 0 4 hC (sX4_digest l g n a h G V (r, G1) e1) (cwV 0 hts gL_law_X4_digest rfl rfl rfl (by decide +kernel) ⟨Nat.le_of_ble_eq_true rfl, Nat.le_of_ble_eq_true rfl⟩) hK hP hD hS hA kL_iA kL_mA kL_nA rfl kL_sA rfl hfs rfl rfl rfl hl.1 (Nat.le_of_ble_eq_true rfl) dL_law_1487 hf (fun H locs hP hD hS => ?_)
  refine lv_aload_n hx hb dL_law_1490 rfl (lv_at hl 2 rfl) ?_
  refine kr_Vl (w' := kL_w g cL a h mb o G1 V M1 f) (As := []) (rest := [.long r]) 86 5 hC (sX5_digest l g n mb M (r, M1) e2) (cwV 0 hts gL_law_X5_digest rfl rfl rfl (by decide +kernel) ⟨Nat.le_of_ble_eq_true rfl, Nat.le_of_ble_eq_true rfl⟩) hK hP hD hS hA kL_iM kL_mM kL_nM rfl kL_sM rfl hfs2 rfl rfl rfl hl.1 (Nat.le_of_ble_eq_true rfl) dL_law_1491 hf (fun H locs hP hD hS => ?_)
  refine W.lcmp hx hb dL_law_1494 ?_
  exact lv_if_eq (tgt := 1500) hx hb dL_law_1495 (by decide) (fun _ => J G1 V M1 f H locs ls hP hD hS hR2 hl) (fun c9 => absurd (kL_cmp r) c9)
end KBody
