/-! the law, case by case -/
section KBody
variable {p : Program} {l : Launch} {e : Env} {s : State} {m : MethodId} {args : Array Value} {below : List Frame} {meth : Method} {c : Code} {Q : State → Prop} {g : kG} {cL : ClassId} {A : Nat → Prop} {b L : Nat} {xs : Nat → Int32} {a h : Nat → Nat → Nat} {mb : Nat → Nat} {o k n : Nat}
set_option maxHeartbeats 8000000 in
set_option maxRecDepth 100000 in
theorem kB_put_T (E : kL_E p l s m args c g cL A b L xs) (hk : 5 * k + 5 ≤ L) {c1 s1 : Nat} (hf : c1 ≤ 617796 ∧ s1 ≤ 7242715) (J : kL_J p l e s m args below meth c Q g cL A b a h mb o k 1500 c1 s1) {G V : St2} {M M1 : St1} {f : Nat → Int64} {r v5 : Int32} (hM : fX5_put n M (kL_x xs k 1) (kL_x xs k 2) (kL_x xs k 3) (kL_x xs k 4) = some (r, M1)) (h6 : M1 6 0 = v5) (h0 : v5 = 0 → f (0 : Int32).toNatClampNeg = r.toInt64) (hRR : RR G V M1) {H : Heap} {locs : List Loc} {ls : Array Slot} (hP : va_P g.1 vwCl (kL_w g cL a h mb o G V M f) H) (hD : va_D A (kL_w g cL a h mb o G V M f)) (hS : va_S A s.heap H locs) (hl : lv_has ls 9 (kL_l b a mb o k)) : W p l e room_1 s m args below meth c H locs c1 s1 Q (F0 m 185 ls [.int v5]) := by
  obtain ⟨hC, hst, hK4, hG, hNx, hA, hX, hbl, hbA, hL⟩ := id E
  obtain ⟨hx, hb, hml, hown, hts⟩ := id hC
  have hK := kT4_sub hK4
  obtain ⟨h_0, h_1, h_2, h_3, h_4⟩ := kL_in hk hL
  obtain ⟨fs, hfs⟩ := (kL_86 (g := g) (cL := cL) (a := a) (h := h) (b := mb) (o := o) (G := G) (V := V) (M := M) (f := f))
  obtain ⟨fs2, hfs2⟩ := (kL_86 (g := g) (cL := cL) (a := a) (h := h) (b := mb) (o := o) (G := G) (V := V) (M := M1) (f := f))
  refine lv_istore (i := 5) (lv' := (5, .int v5) :: kL_l b a mb o k) hx hb dL_law_185 hl (by decide) rfl (fun ls hl => ?_)
  refine lv_aload_n hx hb dL_law_187 rfl (lv_at hl 3 rfl) ?_
  refine lv_aload_n hx hb dL_law_188 rfl (lv_at hl 1 rfl) ?_
  refine lv_iload hx hb dL_law_189 (lv_at hl 5 rfl) ?_
  refine lv_iconst (v := (1 : Int32)) hx hb dL_law_191 (by decide) ?_
  refine lv_iadd hx hb dL_law_192 ?_
  refine va_sld hx hb hX hbl hbA hS h_1 dL_law_193 ?_
  refine lv_aload_n hx hb dL_law_194 rfl (lv_at hl 1 rfl) ?_
  refine lv_iload hx hb dL_law_195 (lv_at hl 5 rfl) ?_
  refine lv_iconst (v := (2 : Int32)) hx hb dL_law_197 (by decide) ?_
  refine lv_iadd hx hb dL_law_198 ?_
  refine va_sld hx hb hX hbl hbA hS h_2 dL_law_199 ?_
  refine lv_aload_n hx hb dL_law_200 rfl (lv_at hl 1 rfl) ?_
  refine lv_iload hx hb dL_law_201 (lv_at hl 5 rfl) ?_
  refine lv_iconst (v := (3 : Int32)) hx hb dL_law_203 (by decide) ?_
  refine lv_iadd hx hb dL_law_204 ?_
  refine va_sld hx hb hX hbl hbA hS h_3 dL_law_205 ?_
  refine lv_aload_n hx hb dL_law_206 rfl (lv_at hl 1 rfl) ?_
  refine lv_iload hx hb dL_law_207 (lv_at hl 5 rfl) ?_
  refine lv_iconst (v := (4 : Int32)) hx hb dL_law_209 (by decide) ?_
  refine lv_iadd hx hb dL_law_210 ?_
  refine va_sld hx hb hX hbl hbA hS h_4 dL_law_211 ?_
  refine kr_Vi (w' := kL_w g cL a h mb o G V M1 f) (As := [.int (kL_x xs k 1), .int (kL_x xs k 2), .int (kL_x xs k 3), .int (kL_x xs k 4)]) (rest := []) 86 5 hC (sX5_put l g n mb M (kL_x xs k 1) (kL_x xs k 2) (kL_x xs k 3) (kL_x xs k 4) (r, M1) hM) (cwV 4 hts gL_law_X5_put rfl rfl rfl (by decide +kernel) ⟨Nat.le_of_ble_eq_true rfl, Nat.le_of_ble_eq_true rfl⟩) hK hP hD hS hA kL_iM kL_mM kL_nM rfl kL_sM rfl hfs rfl rfl rfl hl.1 (Nat.le_of_ble_eq_true rfl) dL_law_212 hf (fun H locs hP hD hS => ?_)
  refine lv_istore (i := 6) (lv' := (6, .int r) :: (5, .int v5) :: kL_l b a mb o k) hx hb dL_law_215 hl (by decide) rfl (fun ls hl => ?_)
  refine lv_aload_n hx hb dL_law_217 rfl (lv_at hl 4 rfl) ?_
  refine kr_Vi (w' := kL_w g cL a h mb o G V M1 f) (As := []) (rest := []) 86 5 hC (sX5_thrown l g n mb M1 (M1 6 0) rfl) (cwV 0 hts gL_law_X5_thrown rfl rfl rfl (by decide +kernel) ⟨Nat.le_of_ble_eq_true rfl, Nat.le_of_ble_eq_true rfl⟩) hK hP hD hS hA kL_iM kL_mM kL_nM rfl kL_sM rfl hfs2 rfl rfl rfl hl.1 (Nat.le_of_ble_eq_true rfl) dL_law_218 hf (fun H locs hP hD hS => ?_)
  refine lv_iload hx hb dL_law_221 (lv_at hl 1 rfl) ?_
  refine lv_icmp_eq (tgt := 228) hx hb dL_law_223 (by decide) (fun _ => ?_) (fun c9 => absurd h6 c9)
  refine lv_iload hx hb dL_law_228 (lv_at hl 1 rfl) ?_
  have J2 : W p l e room_1 s m args below meth c H locs c1 s1 Q (F0 m 245 ls []) := lv_goto (tgt := 1500) hx hb dL_law_245 (by decide) (J G V M1 f H locs ls hP hD hS hRR (lv_sub hl [2, 3, 4, 5, 6] rfl))
  refine lv_if_ne (tgt := 245) hx hb dL_law_230 (by decide) (fun _ => J2) (fun c9 => ?_)
  refine lv_aload_n hx hb dL_law_233 rfl (lv_at hl 5 rfl) ?_
  refine lv_iconst (v := (0 : Int32)) hx hb dL_law_234 (by decide) ?_
  refine va_lald hx hb hK4 hP 93 3 kL_93 rfl (kk_in 0 1 (by decide) (by decide) rfl) dL_law_235 ?_
  refine lv_iload hx hb dL_law_236 (lv_at hl 0 rfl) ?_
  refine lv_i2l (v := r.toInt64) hx hb dL_law_238 rfl ?_
  refine W.lcmp hx hb dL_law_239 ?_
  exact lv_if_eq (tgt := 245) hx hb dL_law_240 (by decide) (fun _ => J2) (fun c9 => absurd (kL_cm (h0 (by assumption))) c9)
set_option maxHeartbeats 8000000 in
set_option maxRecDepth 100000 in
theorem kB_put (E : kL_E p l s m args c g cL A b L xs) (hk : 5 * k + 5 ≤ L) (hn : 300000 ≤ n) {c0 s0 : Nat} (hf : c0 + 1 ≤ 617796 ∧ s0 + 6 ≤ 7242715) (J : kL_J p l e s m args below meth c Q g cL A b a h mb o k 1500 (c0 + 1) (s0 + 6)) {G V : St2} {M : St1} {f : Nat → Int64} (hRR : RR G V M) {H : Heap} {locs : List Loc} {ls : Array Slot} (hP : va_P g.1 vwCl (kL_w g cL a h mb o G V M f) H) (hD : va_D A (kL_w g cL a h mb o G V M f)) (hS : va_S A s.heap H locs) (hl : lv_has ls 9 (kL_l b a mb o k)) : W p l e room_1 s m args below meth c H locs c0 s0 Q (F0 m 156 ls []) := by
  obtain ⟨hC, hst, hK4, hG, hNx, hA, hX, hbl, hbA, hL⟩ := id E
  obtain ⟨hx, hb, hml, hown, hts⟩ := id hC
  have hK := kT4_sub hK4
  obtain ⟨h_0, h_1, h_2, h_3, h_4⟩ := kL_in hk hL
  refine lv_aload_n hx hb dL_law_156 rfl (lv_at hl 1 rfl) ?_
  refine lv_aload_n hx hb dL_law_157 rfl (lv_at hl 0 rfl) ?_
  refine lv_iload hx hb dL_law_158 (lv_at hl 4 rfl) ?_
  refine lv_iconst (v := (1 : Int32)) hx hb dL_law_160 (by decide) ?_
  refine lv_iadd hx hb dL_law_161 ?_
  refine va_sld hx hb hX hbl hbA hS h_1 dL_law_162 ?_
  refine lv_aload_n hx hb dL_law_163 rfl (lv_at hl 0 rfl) ?_
  refine lv_iload hx hb dL_law_164 (lv_at hl 4 rfl) ?_
  refine lv_iconst (v := (2 : Int32)) hx hb dL_law_166 (by decide) ?_
  refine lv_iadd hx hb dL_law_167 ?_
  refine va_sld hx hb hX hbl hbA hS h_2 dL_law_168 ?_
  refine lv_aload_n hx hb dL_law_169 rfl (lv_at hl 0 rfl) ?_
  refine lv_iload hx hb dL_law_170 (lv_at hl 4 rfl) ?_
  refine lv_iconst (v := (3 : Int32)) hx hb dL_law_172 (by decide) ?_
  refine lv_iadd hx hb dL_law_173 ?_
  refine va_sld hx hb hX hbl hbA hS h_3 dL_law_174 ?_
  refine lv_aload_n hx hb dL_law_175 rfl (lv_at hl 0 rfl) ?_
  refine lv_iload hx hb dL_law_176 (lv_at hl 4 rfl) ?_
  refine lv_iconst (v := (4 : Int32)) hx hb dL_law_178 (by decide) ?_
  refine lv_iadd hx hb dL_law_179 ?_
  refine va_sld hx hb hX hbl hbA hS h_4 dL_law_180 ?_
  refine lv_aload_n hx hb dL_law_181 rfl (lv_at hl 3 rfl) ?_
  rcases st_put (n := n) (by omega) hRR (kL_x xs k 1) (kL_x xs k 2) (kL_x xs k 3) (kL_x xs k 4) with ⟨t, r, M1, e1, hk9, e2, e3, hR2⟩ | ⟨r, G1, V1, M1, e1, e2, e3, hR2⟩
  · simp only [List.mem_cons, List.not_mem_nil, or_false] at hk9
    rcases hk9 with rfl | rfl | rfl
    · refine kr_wrap (w' := kL_w g cL a h mb o G V M f) (As := [.ref (a 0 0), .int (kL_x xs k 1), .int (kL_x xs k 2), .int (kL_x xs k 3), .int (kL_x xs k 4), .ref o]) (rest := []) hC (sL_put_t1 l hst g cL n a h G V o f (kL_x xs k 1) (kL_x xs k 2) (kL_x xs k 3) (kL_x xs k 4) e1) (vx_cwSW 6 hts gL_law_L_put rfl rfl rfl (by decide +kernel) ⟨Nat.le_of_ble_eq_true rfl, Nat.le_of_ble_eq_true rfl⟩) hK4 hG hNx hP hD hS hA kL_iF kL_mF kL_nF rfl kL_sF rfl rfl hl.1 (Nat.le_of_ble_eq_true rfl) dL_law_182 hf (fun H locs hP hD hS => ?_)
      exact kB_put_T E hk hf J e2 (e3.trans rfl) (fun h9 => absurd h9 (by decide)) hR2 hP hD hS hl
    · refine kr_wrap (w' := kL_w g cL a h mb o G V M f) (As := [.ref (a 0 0), .int (kL_x xs k 1), .int (kL_x xs k 2), .int (kL_x xs k 3), .int (kL_x xs k 4), .ref o]) (rest := []) hC (sL_put_t2 l hst g cL n a h G V o f (kL_x xs k 1) (kL_x xs k 2) (kL_x xs k 3) (kL_x xs k 4) e1) (vx_cwSW 6 hts gL_law_L_put rfl rfl rfl (by decide +kernel) ⟨Nat.le_of_ble_eq_true rfl, Nat.le_of_ble_eq_true rfl⟩) hK4 hG hNx hP hD hS hA kL_iF kL_mF kL_nF rfl kL_sF rfl rfl hl.1 (Nat.le_of_ble_eq_true rfl) dL_law_182 hf (fun H locs hP hD hS => ?_)
      exact kB_put_T E hk hf J e2 (e3.trans rfl) (fun h9 => absurd h9 (by decide)) hR2 hP hD hS hl
    · refine kr_wrap (w' := kL_w g cL a h mb o G V M f) (As := [.ref (a 0 0), .int (kL_x xs k 1), .int (kL_x xs k 2), .int (kL_x xs k 3), .int (kL_x xs k 4), .ref o]) (rest := []) hC (sL_put_t3 l hst g cL n a h G V o f (kL_x xs k 1) (kL_x xs k 2) (kL_x xs k 3) (kL_x xs k 4) e1) (vx_cwSW 6 hts gL_law_L_put rfl rfl rfl (by decide +kernel) ⟨Nat.le_of_ble_eq_true rfl, Nat.le_of_ble_eq_true rfl⟩) hK4 hG hNx hP hD hS hA kL_iF kL_mF kL_nF rfl kL_sF rfl rfl hl.1 (Nat.le_of_ble_eq_true rfl) dL_law_182 hf (fun H locs hP hD hS => ?_)
      exact kB_put_T E hk hf J e2 (e3.trans rfl) (fun h9 => absurd h9 (by decide)) hR2 hP hD hS hl
  · refine kr_wrap (w' := kL_w g cL a h mb o G1 V1 M (vp_updL f (0 : Int32).toNatClampNeg r.toInt64)) (As := [.ref (a 0 0), .int (kL_x xs k 1), .int (kL_x xs k 2), .int (kL_x xs k 3), .int (kL_x xs k 4), .ref o]) (rest := []) hC (sL_put l hst g cL n a h G V o f (kL_x xs k 1) (kL_x xs k 2) (kL_x xs k 3) (kL_x xs k 4) (r, G1, V1) e1) (vx_cwSW 6 hts gL_law_L_put rfl rfl rfl (by decide +kernel) ⟨Nat.le_of_ble_eq_true rfl, Nat.le_of_ble_eq_true rfl⟩) hK4 hG hNx hP hD hS hA kL_iF kL_mF kL_nF rfl kL_sF rfl rfl hl.1 (Nat.le_of_ble_eq_true rfl) dL_law_182 hf (fun H locs hP hD hS => ?_)
    exact kB_put_T E hk hf J e2 (e3.trans rfl) (fun _ => kL_u0) hR2 hP hD hS hl
set_option maxHeartbeats 8000000 in
set_option maxRecDepth 100000 in
theorem kB_remove_T (E : kL_E p l s m args c g cL A b L xs) (hk : 5 * k + 5 ≤ L) {c1 s1 : Nat} (hf : c1 ≤ 617796 ∧ s1 ≤ 7242715) (J : kL_J p l e s m args below meth c Q g cL A b a h mb o k 1500 c1 s1) {G V : St2} {M M1 : St1} {f : Nat → Int64} {r v5 : Int32} (hM : fX5_remove n M (kL_x xs k 1) = some (r, M1)) (h6 : M1 6 0 = v5) (h0 : v5 = 0 → f (0 : Int32).toNatClampNeg = r.toInt64) (hRR : RR G V M1) {H : Heap} {locs : List Loc} {ls : Array Slot} (hP : va_P g.1 vwCl (kL_w g cL a h mb o G V M f) H) (hD : va_D A (kL_w g cL a h mb o G V M f)) (hS : va_S A s.heap H locs) (hl : lv_has ls 9 (kL_l b a mb o k)) : W p l e room_1 s m args below meth c H locs c1 s1 Q (F0 m 259 ls [.int v5]) := by
  obtain ⟨hC, hst, hK4, hG, hNx, hA, hX, hbl, hbA, hL⟩ := id E
  obtain ⟨hx, hb, hml, hown, hts⟩ := id hC
  have hK := kT4_sub hK4
  obtain ⟨h_0, h_1, h_2, h_3, h_4⟩ := kL_in hk hL
  obtain ⟨fs, hfs⟩ := (kL_86 (g := g) (cL := cL) (a := a) (h := h) (b := mb) (o := o) (G := G) (V := V) (M := M) (f := f))
  obtain ⟨fs2, hfs2⟩ := (kL_86 (g := g) (cL := cL) (a := a) (h := h) (b := mb) (o := o) (G := G) (V := V) (M := M1) (f := f))
  refine lv_istore (i := 5) (lv' := (5, .int v5) :: kL_l b a mb o k) hx hb dL_law_259 hl (by decide) rfl (fun ls hl => ?_)
  refine lv_aload_n hx hb dL_law_261 rfl (lv_at hl 3 rfl) ?_
  refine lv_aload_n hx hb dL_law_262 rfl (lv_at hl 1 rfl) ?_
  refine lv_iload hx hb dL_law_263 (lv_at hl 5 rfl) ?_
  refine lv_iconst (v := (1 : Int32)) hx hb dL_law_265 (by decide) ?_
  refine lv_iadd hx hb dL_law_266 ?_
  refine va_sld hx hb hX hbl hbA hS h_1 dL_law_267 ?_
  refine kr_Vi (w' := kL_w g cL a h mb o G V M1 f) (As := [.int (kL_x xs k 1)]) (rest := []) 86 5 hC (sX5_remove l g n mb M (kL_x xs k 1) (r, M1) hM) (cwV 1 hts gL_law_X5_remove rfl rfl rfl (by decide +kernel) ⟨Nat.le_of_ble_eq_true rfl, Nat.le_of_ble_eq_true rfl⟩) hK hP hD hS hA kL_iM kL_mM kL_nM rfl kL_sM rfl hfs rfl rfl rfl hl.1 (Nat.le_of_ble_eq_true rfl) dL_law_268 hf (fun H locs hP hD hS => ?_)
  refine lv_istore (i := 6) (lv' := (6, .int r) :: (5, .int v5) :: kL_l b a mb o k) hx hb dL_law_271 hl (by decide) rfl (fun ls hl => ?_)
  refine lv_aload_n hx hb dL_law_273 rfl (lv_at hl 4 rfl) ?_
  refine kr_Vi (w' := kL_w g cL a h mb o G V M1 f) (As := []) (rest := []) 86 5 hC (sX5_thrown l g n mb M1 (M1 6 0) rfl) (cwV 0 hts gL_law_X5_thrown rfl rfl rfl (by decide +kernel) ⟨Nat.le_of_ble_eq_true rfl, Nat.le_of_ble_eq_true rfl⟩) hK hP hD hS hA kL_iM kL_mM kL_nM rfl kL_sM rfl hfs2 rfl rfl rfl hl.1 (Nat.le_of_ble_eq_true rfl) dL_law_274 hf (fun H locs hP hD hS => ?_)
  refine lv_iload hx hb dL_law_277 (lv_at hl 1 rfl) ?_
  refine lv_icmp_eq (tgt := 284) hx hb dL_law_279 (by decide) (fun _ => ?_) (fun c9 => absurd h6 c9)
  refine lv_iload hx hb dL_law_284 (lv_at hl 1 rfl) ?_
  have J2 : W p l e room_1 s m args below meth c H locs c1 s1 Q (F0 m 301 ls []) := lv_goto (tgt := 1500) hx hb dL_law_301 (by decide) (J G V M1 f H locs ls hP hD hS hRR (lv_sub hl [2, 3, 4, 5, 6] rfl))
  refine lv_if_ne (tgt := 301) hx hb dL_law_286 (by decide) (fun _ => J2) (fun c9 => ?_)
  refine lv_aload_n hx hb dL_law_289 rfl (lv_at hl 5 rfl) ?_
  refine lv_iconst (v := (0 : Int32)) hx hb dL_law_290 (by decide) ?_
  refine va_lald hx hb hK4 hP 93 3 kL_93 rfl (kk_in 0 1 (by decide) (by decide) rfl) dL_law_291 ?_
  refine lv_iload hx hb dL_law_292 (lv_at hl 0 rfl) ?_
  refine lv_i2l (v := r.toInt64) hx hb dL_law_294 rfl ?_
  refine W.lcmp hx hb dL_law_295 ?_
  exact lv_if_eq (tgt := 301) hx hb dL_law_296 (by decide) (fun _ => J2) (fun c9 => absurd (kL_cm (h0 (by assumption))) c9)
set_option maxHeartbeats 8000000 in
set_option maxRecDepth 100000 in
theorem kB_remove (E : kL_E p l s m args c g cL A b L xs) (hk : 5 * k + 5 ≤ L) (hn : 300000 ≤ n) {c0 s0 : Nat} (hf : c0 + 1 ≤ 617796 ∧ s0 + 6 ≤ 7242715) (J : kL_J p l e s m args below meth c Q g cL A b a h mb o k 1500 (c0 + 1) (s0 + 6)) {G V : St2} {M : St1} {f : Nat → Int64} (hRR : RR G V M) {H : Heap} {locs : List Loc} {ls : Array Slot} (hP : va_P g.1 vwCl (kL_w g cL a h mb o G V M f) H) (hD : va_D A (kL_w g cL a h mb o G V M f)) (hS : va_S A s.heap H locs) (hl : lv_has ls 9 (kL_l b a mb o k)) : W p l e room_1 s m args below meth c H locs c0 s0 Q (F0 m 248 ls []) := by
  obtain ⟨hC, hst, hK4, hG, hNx, hA, hX, hbl, hbA, hL⟩ := id E
  obtain ⟨hx, hb, hml, hown, hts⟩ := id hC
  have hK := kT4_sub hK4
  obtain ⟨h_0, h_1, h_2, h_3, h_4⟩ := kL_in hk hL
  refine lv_aload_n hx hb dL_law_248 rfl (lv_at hl 1 rfl) ?_
  refine lv_aload_n hx hb dL_law_249 rfl (lv_at hl 0 rfl) ?_
  refine lv_iload hx hb dL_law_250 (lv_at hl 4 rfl) ?_
  refine lv_iconst (v := (1 : Int32)) hx hb dL_law_252 (by decide) ?_
  refine lv_iadd hx hb dL_law_253 ?_
  refine va_sld hx hb hX hbl hbA hS h_1 dL_law_254 ?_
  refine lv_aload_n hx hb dL_law_255 rfl (lv_at hl 3 rfl) ?_
  rcases st_remove (n := n) (by omega) hRR (kL_x xs k 1) with ⟨t, r, M1, e1, hk9, e2, e3, hR2⟩ | ⟨r, G1, V1, M1, e1, e2, e3, hR2⟩
  · simp only [List.mem_cons, List.not_mem_nil, or_false] at hk9
    subst hk9
    · refine kr_wrap (w' := kL_w g cL a h mb o G V M f) (As := [.ref (a 0 0), .int (kL_x xs k 1), .ref o]) (rest := []) hC (sL_remove_t1 l hst g cL n a h G V o f (kL_x xs k 1) e1) (vx_cwSW 3 hts gL_law_L_remove rfl rfl rfl (by decide +kernel) ⟨Nat.le_of_ble_eq_true rfl, Nat.le_of_ble_eq_true rfl⟩) hK4 hG hNx hP hD hS hA kL_iF kL_mF kL_nF rfl kL_sF rfl rfl hl.1 (Nat.le_of_ble_eq_true rfl) dL_law_256 hf (fun H locs hP hD hS => ?_)
      exact kB_remove_T E hk hf J e2 (e3.trans rfl) (fun h9 => absurd h9 (by decide)) hR2 hP hD hS hl
  · refine kr_wrap (w' := kL_w g cL a h mb o G1 V1 M (vp_updL f (0 : Int32).toNatClampNeg r.toInt64)) (As := [.ref (a 0 0), .int (kL_x xs k 1), .ref o]) (rest := []) hC (sL_remove l hst g cL n a h G V o f (kL_x xs k 1) (r, G1, V1) e1) (vx_cwSW 3 hts gL_law_L_remove rfl rfl rfl (by decide +kernel) ⟨Nat.le_of_ble_eq_true rfl, Nat.le_of_ble_eq_true rfl⟩) hK4 hG hNx hP hD hS hA kL_iF kL_mF kL_nF rfl kL_sF rfl rfl hl.1 (Nat.le_of_ble_eq_true rfl) dL_law_256 hf (fun H locs hP hD hS => ?_)
    exact kB_remove_T E hk hf J e2 (e3.trans rfl) (fun _ => kL_u0) hR2 hP hD hS hl
set_option maxHeartbeats 8000000 in
set_option maxRecDepth 100000 in
theorem kB_move_T (E : kL_E p l s m args c g cL A b L xs) (hk : 5 * k + 5 ≤ L) {c1 s1 : Nat} (hf : c1 ≤ 617796 ∧ s1 ≤ 7242715) (J : kL_J p l e s m args below meth c Q g cL A b a h mb o k 1500 c1 s1) {G V : St2} {M M1 : St1} {f : Nat → Int64} {r v5 : Int32} (hM : fX5_move n M (kL_x xs k 1) (kL_x xs k 2) = some (r, M1)) (h6 : M1 6 0 = v5) (h0 : v5 = 0 → f (0 : Int32).toNatClampNeg = r.toInt64) (hRR : RR G V M1) {H : Heap} {locs : List Loc} {ls : Array Slot} (hP : va_P g.1 vwCl (kL_w g cL a h mb o G V M f) H) (hD : va_D A (kL_w g cL a h mb o G V M f)) (hS : va_S A s.heap H locs) (hl : lv_has ls 9 (kL_l b a mb o k)) : W p l e room_1 s m args below meth c H locs c1 s1 Q (F0 m 321 ls [.int v5]) := by
  obtain ⟨hC, hst, hK4, hG, hNx, hA, hX, hbl, hbA, hL⟩ := id E
  obtain ⟨hx, hb, hml, hown, hts⟩ := id hC
  have hK := kT4_sub hK4
  obtain ⟨h_0, h_1, h_2, h_3, h_4⟩ := kL_in hk hL
  obtain ⟨fs, hfs⟩ := (kL_86 (g := g) (cL := cL) (a := a) (h := h) (b := mb) (o := o) (G := G) (V := V) (M := M) (f := f))
  obtain ⟨fs2, hfs2⟩ := (kL_86 (g := g) (cL := cL) (a := a) (h := h) (b := mb) (o := o) (G := G) (V := V) (M := M1) (f := f))
  refine lv_istore (i := 5) (lv' := (5, .int v5) :: kL_l b a mb o k) hx hb dL_law_321 hl (by decide) rfl (fun ls hl => ?_)
  refine lv_aload_n hx hb dL_law_323 rfl (lv_at hl 3 rfl) ?_
  refine lv_aload_n hx hb dL_law_324 rfl (lv_at hl 1 rfl) ?_
  refine lv_iload hx hb dL_law_325 (lv_at hl 5 rfl) ?_
  refine lv_iconst (v := (1 : Int32)) hx hb dL_law_327 (by decide) ?_
  refine lv_iadd hx hb dL_law_328 ?_
  refine va_sld hx hb hX hbl hbA hS h_1 dL_law_329 ?_
  refine lv_aload_n hx hb dL_law_330 rfl (lv_at hl 1 rfl) ?_
  refine lv_iload hx hb dL_law_331 (lv_at hl 5 rfl) ?_
  refine lv_iconst (v := (2 : Int32)) hx hb dL_law_333 (by decide) ?_
  refine lv_iadd hx hb dL_law_334 ?_
  refine va_sld hx hb hX hbl hbA hS h_2 dL_law_335 ?_
  refine kr_Vi (w' := kL_w g cL a h mb o G V M1 f) (As := [.int (kL_x xs k 1), .int (kL_x xs k 2)]) (rest := []) 86 5 hC (sX5_move l g n mb M (kL_x xs k 1) (kL_x xs k 2) (r, M1) hM) (cwV 2 hts gL_law_X5_move rfl rfl rfl (by decide +kernel) ⟨Nat.le_of_ble_eq_true rfl, Nat.le_of_ble_eq_true rfl⟩) hK hP hD hS hA kL_iM kL_mM kL_nM rfl kL_sM rfl hfs rfl rfl rfl hl.1 (Nat.le_of_ble_eq_true rfl) dL_law_336 hf (fun H locs hP hD hS => ?_)
  refine lv_istore (i := 6) (lv' := (6, .int r) :: (5, .int v5) :: kL_l b a mb o k) hx hb dL_law_339 hl (by decide) rfl (fun ls hl => ?_)
  refine lv_aload_n hx hb dL_law_341 rfl (lv_at hl 4 rfl) ?_
  refine kr_Vi (w' := kL_w g cL a h mb o G V M1 f) (As := []) (rest := []) 86 5 hC (sX5_thrown l g n mb M1 (M1 6 0) rfl) (cwV 0 hts gL_law_X5_thrown rfl rfl rfl (by decide +kernel) ⟨Nat.le_of_ble_eq_true rfl, Nat.le_of_ble_eq_true rfl⟩) hK hP hD hS hA kL_iM kL_mM kL_nM rfl kL_sM rfl hfs2 rfl rfl rfl hl.1 (Nat.le_of_ble_eq_true rfl) dL_law_342 hf (fun H locs hP hD hS => ?_)
  refine lv_iload hx hb dL_law_345 (lv_at hl 1 rfl) ?_
  refine lv_icmp_eq (tgt := 352) hx hb dL_law_347 (by decide) (fun _ => ?_) (fun c9 => absurd h6 c9)
  refine lv_iload hx hb dL_law_352 (lv_at hl 1 rfl) ?_
  have J2 : W p l e room_1 s m args below meth c H locs c1 s1 Q (F0 m 369 ls []) := lv_goto (tgt := 1500) hx hb dL_law_369 (by decide) (J G V M1 f H locs ls hP hD hS hRR (lv_sub hl [2, 3, 4, 5, 6] rfl))
  refine lv_if_ne (tgt := 369) hx hb dL_law_354 (by decide) (fun _ => J2) (fun c9 => ?_)
  refine lv_aload_n hx hb dL_law_357 rfl (lv_at hl 5 rfl) ?_
  refine lv_iconst (v := (0 : Int32)) hx hb dL_law_358 (by decide) ?_
  refine va_lald hx hb hK4 hP 93 3 kL_93 rfl (kk_in 0 1 (by decide) (by decide) rfl) dL_law_359 ?_
  refine lv_iload hx hb dL_law_360 (lv_at hl 0 rfl) ?_
  refine lv_i2l (v := r.toInt64) hx hb dL_law_362 rfl ?_
  refine W.lcmp hx hb dL_law_363 ?_
  exact lv_if_eq (tgt := 369) hx hb dL_law_364 (by decide) (fun _ => J2) (fun c9 => absurd (kL_cm (h0 (by assumption))) c9)
set_option maxHeartbeats 8000000 in
set_option maxRecDepth 100000 in
theorem kB_move (E : kL_E p l s m args c g cL A b L xs) (hk : 5 * k + 5 ≤ L) (hn : 300000 ≤ n) {c0 s0 : Nat} (hf : c0 + 1 ≤ 617796 ∧ s0 + 6 ≤ 7242715) (J : kL_J p l e s m args below meth c Q g cL A b a h mb o k 1500 (c0 + 1) (s0 + 6)) {G V : St2} {M : St1} {f : Nat → Int64} (hRR : RR G V M) {H : Heap} {locs : List Loc} {ls : Array Slot} (hP : va_P g.1 vwCl (kL_w g cL a h mb o G V M f) H) (hD : va_D A (kL_w g cL a h mb o G V M f)) (hS : va_S A s.heap H locs) (hl : lv_has ls 9 (kL_l b a mb o k)) : W p l e room_1 s m args below meth c H locs c0 s0 Q (F0 m 304 ls []) := by
  obtain ⟨hC, hst, hK4, hG, hNx, hA, hX, hbl, hbA, hL⟩ := id E
  obtain ⟨hx, hb, hml, hown, hts⟩ := id hC
  have hK := kT4_sub hK4
  obtain ⟨h_0, h_1, h_2, h_3, h_4⟩ := kL_in hk hL
  refine lv_aload_n hx hb dL_law_304 rfl (lv_at hl 1 rfl) ?_
  refine lv_aload_n hx hb dL_law_305 rfl (lv_at hl 0 rfl) ?_
  refine lv_iload hx hb dL_law_306 (lv_at hl 4 rfl) ?_
  refine lv_iconst (v := (1 : Int32)) hx hb dL_law_308 (by decide) ?_
  refine lv_iadd hx hb dL_law_309 ?_
  refine va_sld hx hb hX hbl hbA hS h_1 dL_law_310 ?_
  refine lv_aload_n hx hb dL_law_311 rfl (lv_at hl 0 rfl) ?_
  refine lv_iload hx hb dL_law_312 (lv_at hl 4 rfl) ?_
  refine lv_iconst (v := (2 : Int32)) hx hb dL_law_314 (by decide) ?_
  refine lv_iadd hx hb dL_law_315 ?_
  refine va_sld hx hb hX hbl hbA hS h_2 dL_law_316 ?_
  refine lv_aload_n hx hb dL_law_317 rfl (lv_at hl 3 rfl) ?_
  rcases st_move (n := n) (by omega) hRR (kL_x xs k 1) (kL_x xs k 2) with ⟨t, r, M1, e1, hk9, e2, e3, hR2⟩ | ⟨r, G1, V1, M1, e1, e2, e3, hR2⟩
  · simp only [List.mem_cons, List.not_mem_nil, or_false] at hk9
    subst hk9
    · refine kr_wrap (w' := kL_w g cL a h mb o G V M f) (As := [.ref (a 0 0), .int (kL_x xs k 1), .int (kL_x xs k 2), .ref o]) (rest := []) hC (sL_move_t1 l hst g cL n a h G V o f (kL_x xs k 1) (kL_x xs k 2) e1) (vx_cwSW 4 hts gL_law_L_move rfl rfl rfl (by decide +kernel) ⟨Nat.le_of_ble_eq_true rfl, Nat.le_of_ble_eq_true rfl⟩) hK4 hG hNx hP hD hS hA kL_iF kL_mF kL_nF rfl kL_sF rfl rfl hl.1 (Nat.le_of_ble_eq_true rfl) dL_law_318 hf (fun H locs hP hD hS => ?_)
      exact kB_move_T E hk hf J e2 (e3.trans rfl) (fun h9 => absurd h9 (by decide)) hR2 hP hD hS hl
  · refine kr_wrap (w' := kL_w g cL a h mb o G1 V1 M (vp_updL f (0 : Int32).toNatClampNeg r.toInt64)) (As := [.ref (a 0 0), .int (kL_x xs k 1), .int (kL_x xs k 2), .ref o]) (rest := []) hC (sL_move l hst g cL n a h G V o f (kL_x xs k 1) (kL_x xs k 2) (r, G1, V1) e1) (vx_cwSW 4 hts gL_law_L_move rfl rfl rfl (by decide +kernel) ⟨Nat.le_of_ble_eq_true rfl, Nat.le_of_ble_eq_true rfl⟩) hK4 hG hNx hP hD hS hA kL_iF kL_mF kL_nF rfl kL_sF rfl rfl hl.1 (Nat.le_of_ble_eq_true rfl) dL_law_318 hf (fun H locs hP hD hS => ?_)
    exact kB_move_T E hk hf J e2 (e3.trans rfl) (fun _ => kL_u0) hR2 hP hD hS hl
set_option maxHeartbeats 8000000 in
set_option maxRecDepth 100000 in
theorem kB_exchange_T (E : kL_E p l s m args c g cL A b L xs) (hk : 5 * k + 5 ≤ L) {c1 s1 : Nat} (hf : c1 ≤ 617796 ∧ s1 ≤ 7242715) (J : kL_J p l e s m args below meth c Q g cL A b a h mb o k 1500 c1 s1) {G V : St2} {M M1 : St1} {f : Nat → Int64} {r v5 : Int32} (hM : fX5_exchange n M (kL_x xs k 1) (kL_x xs k 2) = some (r, M1)) (h6 : M1 6 0 = v5) (h0 : v5 = 0 → f (0 : Int32).toNatClampNeg = r.toInt64) (hRR : RR G V M1) {H : Heap} {locs : List Loc} {ls : Array Slot} (hP : va_P g.1 vwCl (kL_w g cL a h mb o G V M f) H) (hD : va_D A (kL_w g cL a h mb o G V M f)) (hS : va_S A s.heap H locs) (hl : lv_has ls 9 (kL_l b a mb o k)) : W p l e room_1 s m args below meth c H locs c1 s1 Q (F0 m 389 ls [.int v5]) := by
  obtain ⟨hC, hst, hK4, hG, hNx, hA, hX, hbl, hbA, hL⟩ := id E
  obtain ⟨hx, hb, hml, hown, hts⟩ := id hC
  have hK := kT4_sub hK4
  obtain ⟨h_0, h_1, h_2, h_3, h_4⟩ := kL_in hk hL
  obtain ⟨fs, hfs⟩ := (kL_86 (g := g) (cL := cL) (a := a) (h := h) (b := mb) (o := o) (G := G) (V := V) (M := M) (f := f))
  obtain ⟨fs2, hfs2⟩ := (kL_86 (g := g) (cL := cL) (a := a) (h := h) (b := mb) (o := o) (G := G) (V := V) (M := M1) (f := f))
  refine lv_istore (i := 5) (lv' := (5, .int v5) :: kL_l b a mb o k) hx hb dL_law_389 hl (by decide) rfl (fun ls hl => ?_)
  refine lv_aload_n hx hb dL_law_391 rfl (lv_at hl 3 rfl) ?_
  refine lv_aload_n hx hb dL_law_392 rfl (lv_at hl 1 rfl) ?_
  refine lv_iload hx hb dL_law_393 (lv_at hl 5 rfl) ?_
  refine lv_iconst (v := (1 : Int32)) hx hb dL_law_395 (by decide) ?_
  refine lv_iadd hx hb dL_law_396 ?_
  refine va_sld hx hb hX hbl hbA hS h_1 dL_law_397 ?_
  refine lv_aload_n hx hb dL_law_398 rfl (lv_at hl 1 rfl) ?_
  refine lv_iload hx hb dL_law_399 (lv_at hl 5 rfl) ?_
  refine lv_iconst (v := (2 : Int32)) hx hb dL_law_401 (by decide) ?_
  refine lv_iadd hx hb dL_law_402 ?_
  refine va_sld hx hb hX hbl hbA hS h_2 dL_law_403 ?_
  refine kr_Vi (w' := kL_w g cL a h mb o G V M1 f) (As := [.int (kL_x xs k 1), .int (kL_x xs k 2)]) (rest := []) 86 5 hC (sX5_exchange l g n mb M (kL_x xs k 1) (kL_x xs k 2) (r, M1) hM) (cwV 2 hts gL_law_X5_exchange rfl rfl rfl (by decide +kernel) ⟨Nat.le_of_ble_eq_true rfl, Nat.le_of_ble_eq_true rfl⟩) hK hP hD hS hA kL_iM kL_mM kL_nM rfl kL_sM rfl hfs rfl rfl rfl hl.1 (Nat.le_of_ble_eq_true rfl) dL_law_404 hf (fun H locs hP hD hS => ?_)
  refine lv_istore (i := 6) (lv' := (6, .int r) :: (5, .int v5) :: kL_l b a mb o k) hx hb dL_law_407 hl (by decide) rfl (fun ls hl => ?_)
  refine lv_aload_n hx hb dL_law_409 rfl (lv_at hl 4 rfl) ?_
  refine kr_Vi (w' := kL_w g cL a h mb o G V M1 f) (As := []) (rest := []) 86 5 hC (sX5_thrown l g n mb M1 (M1 6 0) rfl) (cwV 0 hts gL_law_X5_thrown rfl rfl rfl (by decide +kernel) ⟨Nat.le_of_ble_eq_true rfl, Nat.le_of_ble_eq_true rfl⟩) hK hP hD hS hA kL_iM kL_mM kL_nM rfl kL_sM rfl hfs2 rfl rfl rfl hl.1 (Nat.le_of_ble_eq_true rfl) dL_law_410 hf (fun H locs hP hD hS => ?_)
  refine lv_iload hx hb dL_law_413 (lv_at hl 1 rfl) ?_
  refine lv_icmp_eq (tgt := 420) hx hb dL_law_415 (by decide) (fun _ => ?_) (fun c9 => absurd h6 c9)
  refine lv_iload hx hb dL_law_420 (lv_at hl 1 rfl) ?_
  have J2 : W p l e room_1 s m args below meth c H locs c1 s1 Q (F0 m 437 ls []) := lv_goto (tgt := 1500) hx hb dL_law_437 (by decide) (J G V M1 f H locs ls hP hD hS hRR (lv_sub hl [2, 3, 4, 5, 6] rfl))
  refine lv_if_ne (tgt := 437) hx hb dL_law_422 (by decide) (fun _ => J2) (fun c9 => ?_)
  refine lv_aload_n hx hb dL_law_425 rfl (lv_at hl 5 rfl) ?_
  refine lv_iconst (v := (0 : Int32)) hx hb dL_law_426 (by decide) ?_
  refine va_lald hx hb hK4 hP 93 3 kL_93 rfl (kk_in 0 1 (by decide) (by decide) rfl) dL_law_427 ?_
  refine lv_iload hx hb dL_law_428 (lv_at hl 0 rfl) ?_
  refine lv_i2l (v := r.toInt64) hx hb dL_law_430 rfl ?_
  refine W.lcmp hx hb dL_law_431 ?_
  exact lv_if_eq (tgt := 437) hx hb dL_law_432 (by decide) (fun _ => J2) (fun c9 => absurd (kL_cm (h0 (by assumption))) c9)
set_option maxHeartbeats 8000000 in
set_option maxRecDepth 100000 in
theorem kB_exchange (E : kL_E p l s m args c g cL A b L xs) (hk : 5 * k + 5 ≤ L) (hn : 300000 ≤ n) {c0 s0 : Nat} (hf : c0 + 1 ≤ 617796 ∧ s0 + 6 ≤ 7242715) (J : kL_J p l e s m args below meth c Q g cL A b a h mb o k 1500 (c0 + 1) (s0 + 6)) {G V : St2} {M : St1} {f : Nat → Int64} (hRR : RR G V M) {H : Heap} {locs : List Loc} {ls : Array Slot} (hP : va_P g.1 vwCl (kL_w g cL a h mb o G V M f) H) (hD : va_D A (kL_w g cL a h mb o G V M f)) (hS : va_S A s.heap H locs) (hl : lv_has ls 9 (kL_l b a mb o k)) : W p l e room_1 s m args below meth c H locs c0 s0 Q (F0 m 372 ls []) := by
  obtain ⟨hC, hst, hK4, hG, hNx, hA, hX, hbl, hbA, hL⟩ := id E
  obtain ⟨hx, hb, hml, hown, hts⟩ := id hC
  have hK := kT4_sub hK4
  obtain ⟨h_0, h_1, h_2, h_3, h_4⟩ := kL_in hk hL
  refine lv_aload_n hx hb dL_law_372 rfl (lv_at hl 1 rfl) ?_
  refine lv_aload_n hx hb dL_law_373 rfl (lv_at hl 0 rfl) ?_
  refine lv_iload hx hb dL_law_374 (lv_at hl 4 rfl) ?_
  refine lv_iconst (v := (1 : Int32)) hx hb dL_law_376 (by decide) ?_
  refine lv_iadd hx hb dL_law_377 ?_
  refine va_sld hx hb hX hbl hbA hS h_1 dL_law_378 ?_
  refine lv_aload_n hx hb dL_law_379 rfl (lv_at hl 0 rfl) ?_
  refine lv_iload hx hb dL_law_380 (lv_at hl 4 rfl) ?_
  refine lv_iconst (v := (2 : Int32)) hx hb dL_law_382 (by decide) ?_
  refine lv_iadd hx hb dL_law_383 ?_
  refine va_sld hx hb hX hbl hbA hS h_2 dL_law_384 ?_
  refine lv_aload_n hx hb dL_law_385 rfl (lv_at hl 3 rfl) ?_
  rcases st_exchange (n := n) (by omega) hRR (kL_x xs k 1) (kL_x xs k 2) with ⟨t, r, M1, e1, hk9, e2, e3, hR2⟩ | ⟨r, G1, V1, M1, e1, e2, e3, hR2⟩
  · simp only [List.mem_cons, List.not_mem_nil, or_false] at hk9
    subst hk9
    · refine kr_wrap (w' := kL_w g cL a h mb o G V M f) (As := [.ref (a 0 0), .int (kL_x xs k 1), .int (kL_x xs k 2), .ref o]) (rest := []) hC (sL_exchange_t1 l hst g cL n a h G V o f (kL_x xs k 1) (kL_x xs k 2) e1) (vx_cwSW 4 hts gL_law_L_exchange rfl rfl rfl (by decide +kernel) ⟨Nat.le_of_ble_eq_true rfl, Nat.le_of_ble_eq_true rfl⟩) hK4 hG hNx hP hD hS hA kL_iF kL_mF kL_nF rfl kL_sF rfl rfl hl.1 (Nat.le_of_ble_eq_true rfl) dL_law_386 hf (fun H locs hP hD hS => ?_)
      exact kB_exchange_T E hk hf J e2 (e3.trans rfl) (fun h9 => absurd h9 (by decide)) hR2 hP hD hS hl
  · refine kr_wrap (w' := kL_w g cL a h mb o G1 V1 M (vp_updL f (0 : Int32).toNatClampNeg r.toInt64)) (As := [.ref (a 0 0), .int (kL_x xs k 1), .int (kL_x xs k 2), .ref o]) (rest := []) hC (sL_exchange l hst g cL n a h G V o f (kL_x xs k 1) (kL_x xs k 2) (r, G1, V1) e1) (vx_cwSW 4 hts gL_law_L_exchange rfl rfl rfl (by decide +kernel) ⟨Nat.le_of_ble_eq_true rfl, Nat.le_of_ble_eq_true rfl⟩) hK4 hG hNx hP hD hS hA kL_iF kL_mF kL_nF rfl kL_sF rfl rfl hl.1 (Nat.le_of_ble_eq_true rfl) dL_law_386 hf (fun H locs hP hD hS => ?_)
    exact kB_exchange_T E hk hf J e2 (e3.trans rfl) (fun _ => kL_u0) hR2 hP hD hS hl
set_option maxHeartbeats 8000000 in
set_option maxRecDepth 100000 in
theorem kB_fold0_T (E : kL_E p l s m args c g cL A b L xs) (hk : 5 * k + 5 ≤ L) (hz : kL_x xs k 2 = 0) {c1 s1 : Nat} (hf : c1 ≤ 617796 ∧ s1 ≤ 7242715) (J : kL_J p l e s m args below meth c Q g cL A b a h mb o k 1500 c1 s1) {G V : St2} {M M1 : St1} {f : Nat → Int64} {r v5 : Int32} (hM : fX5_fold n M (kL_x xs k 1) (nI 0) = some (r, M1)) (h6 : M1 6 0 = v5) (h0 : v5 = 0 → f (0 : Int32).toNatClampNeg = r.toInt64) (hRR : RR G V M1) {H : Heap} {locs : List Loc} {ls : Array Slot} (hP : va_P g.1 vwCl (kL_w g cL a h mb o G V M f) H) (hD : va_D A (kL_w g cL a h mb o G V M f)) (hS : va_S A s.heap H locs) (hl : lv_has ls 9 (kL_l b a mb o k)) : W p l e room_1 s m args below meth c H locs c1 s1 Q (F0 m 465 ls [.int v5]) := by
  obtain ⟨hC, hst, hK4, hG, hNx, hA, hX, hbl, hbA, hL⟩ := id E
  obtain ⟨hx, hb, hml, hown, hts⟩ := id hC
  have hK := kT4_sub hK4
  obtain ⟨h_0, h_1, h_2, h_3, h_4⟩ := kL_in hk hL
  obtain ⟨fs, hfs⟩ := (kL_86 (g := g) (cL := cL) (a := a) (h := h) (b := mb) (o := o) (G := G) (V := V) (M := M) (f := f))
  obtain ⟨fs2, hfs2⟩ := (kL_86 (g := g) (cL := cL) (a := a) (h := h) (b := mb) (o := o) (G := G) (V := V) (M := M1) (f := f))
  refine lv_istore (i := 5) (lv' := (5, .int v5) :: kL_l b a mb o k) hx hb dL_law_465 hl (by decide) rfl (fun ls hl => ?_)
  refine lv_aload_n hx hb dL_law_467 rfl (lv_at hl 3 rfl) ?_
  refine lv_aload_n hx hb dL_law_468 rfl (lv_at hl 1 rfl) ?_
  refine lv_iload hx hb dL_law_469 (lv_at hl 5 rfl) ?_
  refine lv_iconst (v := (1 : Int32)) hx hb dL_law_471 (by decide) ?_
  refine lv_iadd hx hb dL_law_472 ?_
  refine va_sld hx hb hX hbl hbA hS h_1 dL_law_473 ?_
  refine lv_aload_n hx hb dL_law_474 rfl (lv_at hl 1 rfl) ?_
  refine lv_iload hx hb dL_law_475 (lv_at hl 5 rfl) ?_
  refine lv_iconst (v := (2 : Int32)) hx hb dL_law_477 (by decide) ?_
  refine lv_iadd hx hb dL_law_478 ?_
  refine va_sld hx hb hX hbl hbA hS h_2 dL_law_479 ?_
  refine lv_if_eq (tgt := 487) hx hb dL_law_480 (by decide) (fun _ => ?_) (fun c9 => absurd hz c9)
  refine lv_iconst (v := nI 0) hx hb dL_law_487 (by decide) ?_
  refine kr_Vi (w' := kL_w g cL a h mb o G V M1 f) (As := [.int (kL_x xs k 1), .int (nI 0)]) (rest := []) 86 5 hC (sX5_fold l g n mb M (kL_x xs k 1) (nI 0) (r, M1) hM) (cwV 2 hts gL_law_X5_fold rfl rfl rfl (by decide +kernel) ⟨Nat.le_of_ble_eq_true rfl, Nat.le_of_ble_eq_true rfl⟩) hK hP hD hS hA kL_iM kL_mM kL_nM rfl kL_sM rfl hfs rfl rfl rfl hl.1 (Nat.le_of_ble_eq_true rfl) dL_law_488 hf (fun H locs hP hD hS => ?_)
  refine lv_istore (i := 6) (lv' := (6, .int r) :: (5, .int v5) :: kL_l b a mb o k) hx hb dL_law_491 hl (by decide) rfl (fun ls hl => ?_)
  refine lv_aload_n hx hb dL_law_493 rfl (lv_at hl 4 rfl) ?_
  refine kr_Vi (w' := kL_w g cL a h mb o G V M1 f) (As := []) (rest := []) 86 5 hC (sX5_thrown l g n mb M1 (M1 6 0) rfl) (cwV 0 hts gL_law_X5_thrown rfl rfl rfl (by decide +kernel) ⟨Nat.le_of_ble_eq_true rfl, Nat.le_of_ble_eq_true rfl⟩) hK hP hD hS hA kL_iM kL_mM kL_nM rfl kL_sM rfl hfs2 rfl rfl rfl hl.1 (Nat.le_of_ble_eq_true rfl) dL_law_494 hf (fun H locs hP hD hS => ?_)
  refine lv_iload hx hb dL_law_497 (lv_at hl 1 rfl) ?_
  refine lv_icmp_eq (tgt := 504) hx hb dL_law_499 (by decide) (fun _ => ?_) (fun c9 => absurd h6 c9)
  refine lv_iload hx hb dL_law_504 (lv_at hl 1 rfl) ?_
  have J2 : W p l e room_1 s m args below meth c H locs c1 s1 Q (F0 m 521 ls []) := lv_goto (tgt := 1500) hx hb dL_law_521 (by decide) (J G V M1 f H locs ls hP hD hS hRR (lv_sub hl [2, 3, 4, 5, 6] rfl))
  refine lv_if_ne (tgt := 521) hx hb dL_law_506 (by decide) (fun _ => J2) (fun c9 => ?_)
  refine lv_aload_n hx hb dL_law_509 rfl (lv_at hl 5 rfl) ?_
  refine lv_iconst (v := (0 : Int32)) hx hb dL_law_510 (by decide) ?_
  refine va_lald hx hb hK4 hP 93 3 kL_93 rfl (kk_in 0 1 (by decide) (by decide) rfl) dL_law_511 ?_
  refine lv_iload hx hb dL_law_512 (lv_at hl 0 rfl) ?_
  refine lv_i2l (v := r.toInt64) hx hb dL_law_514 rfl ?_
  refine W.lcmp hx hb dL_law_515 ?_
  exact lv_if_eq (tgt := 521) hx hb dL_law_516 (by decide) (fun _ => J2) (fun c9 => absurd (kL_cm (h0 (by assumption))) c9)
set_option maxHeartbeats 8000000 in
set_option maxRecDepth 100000 in
theorem kB_fold0 (E : kL_E p l s m args c g cL A b L xs) (hk : 5 * k + 5 ≤ L) (hz : kL_x xs k 2 = 0) (hn : 300000 ≤ n) {c0 s0 : Nat} (hf : c0 + 1 ≤ 617796 ∧ s0 + 6 ≤ 7242715) (J : kL_J p l e s m args below meth c Q g cL A b a h mb o k 1500 (c0 + 1) (s0 + 6)) {G V : St2} {M : St1} {f : Nat → Int64} (hRR : RR G V M) {H : Heap} {locs : List Loc} {ls : Array Slot} (hP : va_P g.1 vwCl (kL_w g cL a h mb o G V M f) H) (hD : va_D A (kL_w g cL a h mb o G V M f)) (hS : va_S A s.heap H locs) (hl : lv_has ls 9 (kL_l b a mb o k)) : W p l e room_1 s m args below meth c H locs c0 s0 Q (F0 m 440 ls []) := by
  obtain ⟨hC, hst, hK4, hG, hNx, hA, hX, hbl, hbA, hL⟩ := id E
  obtain ⟨hx, hb, hml, hown, hts⟩ := id hC
  have hK := kT4_sub hK4
  obtain ⟨h_0, h_1, h_2, h_3, h_4⟩ := kL_in hk hL
  refine lv_aload_n hx hb dL_law_440 rfl (lv_at hl 1 rfl) ?_
  refine lv_aload_n hx hb dL_law_441 rfl (lv_at hl 0 rfl) ?_
  refine lv_iload hx hb dL_law_442 (lv_at hl 4 rfl) ?_
  refine lv_iconst (v := (1 : Int32)) hx hb dL_law_444 (by decide) ?_
  refine lv_iadd hx hb dL_law_445 ?_
  refine va_sld hx hb hX hbl hbA hS h_1 dL_law_446 ?_
  refine lv_aload_n hx hb dL_law_447 rfl (lv_at hl 0 rfl) ?_
  refine lv_iload hx hb dL_law_448 (lv_at hl 4 rfl) ?_
  refine lv_iconst (v := (2 : Int32)) hx hb dL_law_450 (by decide) ?_
  refine lv_iadd hx hb dL_law_451 ?_
  refine va_sld hx hb hX hbl hbA hS h_2 dL_law_452 ?_
  refine lv_if_eq (tgt := 460) hx hb dL_law_453 (by decide) (fun _ => ?_) (fun c9 => absurd hz c9)
  refine lv_iconst (v := nI 0) hx hb dL_law_460 (by decide) ?_
  refine lv_aload_n hx hb dL_law_461 rfl (lv_at hl 3 rfl) ?_
  rcases st_fold (x := 0) (by decide) (n := n) (by omega) hRR (kL_x xs k 1) with ⟨t, r, M1, e1, hk9, e2, e3, hR2⟩ | ⟨r, G1, V1, M1, e1, e2, e3, hR2⟩
  · simp only [List.mem_cons, List.not_mem_nil, or_false] at hk9
    subst hk9
    · refine kr_wrap (w' := kL_w g cL a h mb o G V M f) (As := [.ref (a 0 0), .int (kL_x xs k 1), .int (nI 0), .ref o]) (rest := []) hC (sL_fold_t1 l hst g cL n a h G V o f (kL_x xs k 1) (nI 0) e1) (vx_cwSW 4 hts gL_law_L_fold rfl rfl rfl (by decide +kernel) ⟨Nat.le_of_ble_eq_true rfl, Nat.le_of_ble_eq_true rfl⟩) hK4 hG hNx hP hD hS hA kL_iF kL_mF kL_nF rfl kL_sF rfl rfl hl.1 (Nat.le_of_ble_eq_true rfl) dL_law_462 hf (fun H locs hP hD hS => ?_)
      exact kB_fold0_T E hk hz hf J e2 (e3.trans rfl) (fun h9 => absurd h9 (by decide)) hR2 hP hD hS hl
  · refine kr_wrap (w' := kL_w g cL a h mb o G1 V1 M (vp_updL f (0 : Int32).toNatClampNeg r.toInt64)) (As := [.ref (a 0 0), .int (kL_x xs k 1), .int (nI 0), .ref o]) (rest := []) hC (sL_fold l hst g cL n a h G V o f (kL_x xs k 1) (nI 0) (r, G1, V1) e1) (vx_cwSW 4 hts gL_law_L_fold rfl rfl rfl (by decide +kernel) ⟨Nat.le_of_ble_eq_true rfl, Nat.le_of_ble_eq_true rfl⟩) hK4 hG hNx hP hD hS hA kL_iF kL_mF kL_nF rfl kL_sF rfl rfl hl.1 (Nat.le_of_ble_eq_true rfl) dL_law_462 hf (fun H locs hP hD hS => ?_)
    exact kB_fold0_T E hk hz hf J e2 (e3.trans rfl) (fun _ => kL_u0) hR2 hP hD hS hl
set_option maxHeartbeats 8000000 in
set_option maxRecDepth 100000 in
theorem kB_fold1_T (E : kL_E p l s m args c g cL A b L xs) (hk : 5 * k + 5 ≤ L) (hz : ¬ kL_x xs k 2 = 0) {c1 s1 : Nat} (hf : c1 ≤ 617796 ∧ s1 ≤ 7242715) (J : kL_J p l e s m args below meth c Q g cL A b a h mb o k 1500 c1 s1) {G V : St2} {M M1 : St1} {f : Nat → Int64} {r v5 : Int32} (hM : fX5_fold n M (kL_x xs k 1) (nI 1) = some (r, M1)) (h6 : M1 6 0 = v5) (h0 : v5 = 0 → f (0 : Int32).toNatClampNeg = r.toInt64) (hRR : RR G V M1) {H : Heap} {locs : List Loc} {ls : Array Slot} (hP : va_P g.1 vwCl (kL_w g cL a h mb o G V M f) H) (hD : va_D A (kL_w g cL a h mb o G V M f)) (hS : va_S A s.heap H locs) (hl : lv_has ls 9 (kL_l b a mb o k)) : W p l e room_1 s m args below meth c H locs c1 s1 Q (F0 m 465 ls [.int v5]) := by
  obtain ⟨hC, hst, hK4, hG, hNx, hA, hX, hbl, hbA, hL⟩ := id E
  obtain ⟨hx, hb, hml, hown, hts⟩ := id hC
  have hK := kT4_sub hK4
  obtain ⟨h_0, h_1, h_2, h_3, h_4⟩ := kL_in hk hL
  obtain ⟨fs, hfs⟩ := (kL_86 (g := g) (cL := cL) (a := a) (h := h) (b := mb) (o := o) (G := G) (V := V) (M := M) (f := f))
  obtain ⟨fs2, hfs2⟩ := (kL_86 (g := g) (cL := cL) (a := a) (h := h) (b := mb) (o := o) (G := G) (V := V) (M := M1) (f := f))
  refine lv_istore (i := 5) (lv' := (5, .int v5) :: kL_l b a mb o k) hx hb dL_law_465 hl (by decide) rfl (fun ls hl => ?_)
  refine lv_aload_n hx hb dL_law_467 rfl (lv_at hl 3 rfl) ?_
  refine lv_aload_n hx hb dL_law_468 rfl (lv_at hl 1 rfl) ?_
  refine lv_iload hx hb dL_law_469 (lv_at hl 5 rfl) ?_
  refine lv_iconst (v := (1 : Int32)) hx hb dL_law_471 (by decide) ?_
  refine lv_iadd hx hb dL_law_472 ?_
  refine va_sld hx hb hX hbl hbA hS h_1 dL_law_473 ?_
  refine lv_aload_n hx hb dL_law_474 rfl (lv_at hl 1 rfl) ?_
  refine lv_iload hx hb dL_law_475 (lv_at hl 5 rfl) ?_
  refine lv_iconst (v := (2 : Int32)) hx hb dL_law_477 (by decide) ?_
  refine lv_iadd hx hb dL_law_478 ?_
  refine va_sld hx hb hX hbl hbA hS h_2 dL_law_479 ?_
  refine lv_if_eq (tgt := 487) hx hb dL_law_480 (by decide) (fun c9 => absurd c9 hz) (fun _ => ?_)
  refine lv_iconst (v := nI 1) hx hb dL_law_483 (by decide) ?_
  refine lv_goto (tgt := 488) hx hb dL_law_484 (by decide) ?_
  refine kr_Vi (w' := kL_w g cL a h mb o G V M1 f) (As := [.int (kL_x xs k 1), .int (nI 1)]) (rest := []) 86 5 hC (sX5_fold l g n mb M (kL_x xs k 1) (nI 1) (r, M1) hM) (cwV 2 hts gL_law_X5_fold rfl rfl rfl (by decide +kernel) ⟨Nat.le_of_ble_eq_true rfl, Nat.le_of_ble_eq_true rfl⟩) hK hP hD hS hA kL_iM kL_mM kL_nM rfl kL_sM rfl hfs rfl rfl rfl hl.1 (Nat.le_of_ble_eq_true rfl) dL_law_488 hf (fun H locs hP hD hS => ?_)
  refine lv_istore (i := 6) (lv' := (6, .int r) :: (5, .int v5) :: kL_l b a mb o k) hx hb dL_law_491 hl (by decide) rfl (fun ls hl => ?_)
  refine lv_aload_n hx hb dL_law_493 rfl (lv_at hl 4 rfl) ?_
  refine kr_Vi (w' := kL_w g cL a h mb o G V M1 f) (As := []) (rest := []) 86 5 hC (sX5_thrown l g n mb M1 (M1 6 0) rfl) (cwV 0 hts gL_law_X5_thrown rfl rfl rfl (by decide +kernel) ⟨Nat.le_of_ble_eq_true rfl, Nat.le_of_ble_eq_true rfl⟩) hK hP hD hS hA kL_iM kL_mM kL_nM rfl kL_sM rfl hfs2 rfl rfl rfl hl.1 (Nat.le_of_ble_eq_true rfl) dL_law_494 hf (fun H locs hP hD hS => ?_)
  refine lv_iload hx hb dL_law_497 (lv_at hl 1 rfl) ?_
  refine lv_icmp_eq (tgt := 504) hx hb dL_law_499 (by decide) (fun _ => ?_) (fun c9 => absurd h6 c9)
  refine lv_iload hx hb dL_law_504 (lv_at hl 1 rfl) ?_
  have J2 : W p l e room_1 s m args below meth c H locs c1 s1 Q (F0 m 521 ls []) := lv_goto (tgt := 1500) hx hb dL_law_521 (by decide) (J G V M1 f H locs ls hP hD hS hRR (lv_sub hl [2, 3, 4, 5, 6] rfl))
  refine lv_if_ne (tgt := 521) hx hb dL_law_506 (by decide) (fun _ => J2) (fun c9 => ?_)
  refine lv_aload_n hx hb dL_law_509 rfl (lv_at hl 5 rfl) ?_
  refine lv_iconst (v := (0 : Int32)) hx hb dL_law_510 (by decide) ?_
  refine va_lald hx hb hK4 hP 93 3 kL_93 rfl (kk_in 0 1 (by decide) (by decide) rfl) dL_law_511 ?_
  refine lv_iload hx hb dL_law_512 (lv_at hl 0 rfl) ?_
  refine lv_i2l (v := r.toInt64) hx hb dL_law_514 rfl ?_
  refine W.lcmp hx hb dL_law_515 ?_
  exact lv_if_eq (tgt := 521) hx hb dL_law_516 (by decide) (fun _ => J2) (fun c9 => absurd (kL_cm (h0 (by assumption))) c9)
set_option maxHeartbeats 8000000 in
set_option maxRecDepth 100000 in
theorem kB_fold1 (E : kL_E p l s m args c g cL A b L xs) (hk : 5 * k + 5 ≤ L) (hz : ¬ kL_x xs k 2 = 0) (hn : 300000 ≤ n) {c0 s0 : Nat} (hf : c0 + 1 ≤ 617796 ∧ s0 + 6 ≤ 7242715) (J : kL_J p l e s m args below meth c Q g cL A b a h mb o k 1500 (c0 + 1) (s0 + 6)) {G V : St2} {M : St1} {f : Nat → Int64} (hRR : RR G V M) {H : Heap} {locs : List Loc} {ls : Array Slot} (hP : va_P g.1 vwCl (kL_w g cL a h mb o G V M f) H) (hD : va_D A (kL_w g cL a h mb o G V M f)) (hS : va_S A s.heap H locs) (hl : lv_has ls 9 (kL_l b a mb o k)) : W p l e room_1 s m args below meth c H locs c0 s0 Q (F0 m 440 ls []) := by
  obtain ⟨hC, hst, hK4, hG, hNx, hA, hX, hbl, hbA, hL⟩ := id E
  obtain ⟨hx, hb, hml, hown, hts⟩ := id hC
  have hK := kT4_sub hK4
  obtain ⟨h_0, h_1, h_2, h_3, h_4⟩ := kL_in hk hL
  refine lv_aload_n hx hb dL_law_440 rfl (lv_at hl 1 rfl) ?_
  refine lv_aload_n hx hb dL_law_441 rfl (lv_at hl 0 rfl) ?_
  refine lv_iload hx hb dL_law_442 (lv_at hl 4 rfl) ?_
  refine lv_iconst (v := (1 : Int32)) hx hb dL_law_444 (by decide) ?_
  refine lv_iadd hx hb dL_law_445 ?_
  refine va_sld hx hb hX hbl hbA hS h_1 dL_law_446 ?_
  refine lv_aload_n hx hb dL_law_447 rfl (lv_at hl 0 rfl) ?_
  refine lv_iload hx hb dL_law_448 (lv_at hl 4 rfl) ?_
  refine lv_iconst (v := (2 : Int32)) hx hb dL_law_450 (by decide) ?_
  refine lv_iadd hx hb dL_law_451 ?_
  refine va_sld hx hb hX hbl hbA hS h_2 dL_law_452 ?_
  refine lv_if_eq (tgt := 460) hx hb dL_law_453 (by decide) (fun c9 => absurd c9 hz) (fun _ => ?_)
  refine lv_iconst (v := nI 1) hx hb dL_law_456 (by decide) ?_
  refine lv_goto (tgt := 461) hx hb dL_law_457 (by decide) ?_
  refine lv_aload_n hx hb dL_law_461 rfl (lv_at hl 3 rfl) ?_
  rcases st_fold (x := 1) (by decide) (n := n) (by omega) hRR (kL_x xs k 1) with ⟨t, r, M1, e1, hk9, e2, e3, hR2⟩ | ⟨r, G1, V1, M1, e1, e2, e3, hR2⟩
  · simp only [List.mem_cons, List.not_mem_nil, or_false] at hk9
    subst hk9
    · refine kr_wrap (w' := kL_w g cL a h mb o G V M f) (As := [.ref (a 0 0), .int (kL_x xs k 1), .int (nI 1), .ref o]) (rest := []) hC (sL_fold_t1 l hst g cL n a h G V o f (kL_x xs k 1) (nI 1) e1) (vx_cwSW 4 hts gL_law_L_fold rfl rfl rfl (by decide +kernel) ⟨Nat.le_of_ble_eq_true rfl, Nat.le_of_ble_eq_true rfl⟩) hK4 hG hNx hP hD hS hA kL_iF kL_mF kL_nF rfl kL_sF rfl rfl hl.1 (Nat.le_of_ble_eq_true rfl) dL_law_462 hf (fun H locs hP hD hS => ?_)
      exact kB_fold1_T E hk hz hf J e2 (e3.trans rfl) (fun h9 => absurd h9 (by decide)) hR2 hP hD hS hl
  · refine kr_wrap (w' := kL_w g cL a h mb o G1 V1 M (vp_updL f (0 : Int32).toNatClampNeg r.toInt64)) (As := [.ref (a 0 0), .int (kL_x xs k 1), .int (nI 1), .ref o]) (rest := []) hC (sL_fold l hst g cL n a h G V o f (kL_x xs k 1) (nI 1) (r, G1, V1) e1) (vx_cwSW 4 hts gL_law_L_fold rfl rfl rfl (by decide +kernel) ⟨Nat.le_of_ble_eq_true rfl, Nat.le_of_ble_eq_true rfl⟩) hK4 hG hNx hP hD hS hA kL_iF kL_mF kL_nF rfl kL_sF rfl rfl hl.1 (Nat.le_of_ble_eq_true rfl) dL_law_462 hf (fun H locs hP hD hS => ?_)
    exact kB_fold1_T E hk hz hf J e2 (e3.trans rfl) (fun _ => kL_u0) hR2 hP hD hS hl
end KBody
