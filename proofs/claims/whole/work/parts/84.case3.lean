/-! the law, case by case -/
section KBody
variable {p : Program} {l : Launch} {e : Env} {s : State} {m : MethodId} {args : Array Value} {below : List Frame} {meth : Method} {c : Code} {Q : State → Prop} {g : kG} {cL : ClassId} {A : Nat → Prop} {b L : Nat} {xs : Nat → Int32} {a h : Nat → Nat → Nat} {mb : Nat → Nat} {o k n : Nat}
set_option maxHeartbeats 8000000 in
set_option maxRecDepth 100000 in
theorem kB_putAll_T (E : kL_E p l s m args c g cL A b L xs) (hk : 5 * k + 5 ≤ L) {c1 s1 : Nat} (hf : c1 ≤ 617796 ∧ s1 ≤ 7242715) (J : kL_J p l e s m args below meth c Q g cL A b a h mb o k 1500 c1 s1) {G V : St2} {M M1 : St1} {f : Nat → Int64} {r v5 : Int32} (hM : fX5_putAll n M = some (r, M1)) (h6 : M1 6 0 = v5) (h0 : v5 = 0 → f (0 : Int32).toNatClampNeg = r.toInt64) (hRR : RR G V M1) {H : Heap} {locs : List Loc} {ls : Array Slot} (hP : va_P g.1 vwCl (kL_w g cL a h mb o G V M f) H) (hD : va_D A (kL_w g cL a h mb o G V M f)) (hS : va_S A s.heap H locs) (hl : lv_has ls 9 (kL_l b a mb o k)) : W p l e room_1 s m args below meth c H locs c1 s1 Q (F0 m 816 ls [.int v5]) := by
  obtain ⟨hC, hst, hK4, hG, hNx, hA, hX, hbl, hbA, hL⟩ := id E
  obtain ⟨hx, hb, hml, hown, hts⟩ := id hC
  have hK := kT4_sub hK4
  obtain ⟨h_0, h_1, h_2, h_3, h_4⟩ := kL_in hk hL
  obtain ⟨fs, hfs⟩ := (kL_86 (g := g) (cL := cL) (a := a) (h := h) (b := mb) (o := o) (G := G) (V := V) (M := M) (f := f))
  obtain ⟨fs2, hfs2⟩ := (kL_86 (g := g) (cL := cL) (a := a) (h := h) (b := mb) (o := o) (G := G) (V := V) (M := M1) (f := f))
  refine lv_istore (i := 5) (lv' := (5, .int v5) :: kL_l b a mb o k) hx hb dL_law_816 hl (by decide) rfl (fun ls hl => ?_)
  refine lv_aload_n hx hb dL_law_818 rfl (lv_at hl 3 rfl) ?_
  refine kr_Vi (w' := kL_w g cL a h mb o G V M1 f) (As := []) (rest := []) 86 5 hC (sX5_putAll l g n mb M (r, M1) hM) (cwV 0 hts gL_law_X5_putAll rfl rfl rfl (by decide +kernel) ⟨Nat.le_of_ble_eq_true rfl, Nat.le_of_ble_eq_true rfl⟩) hK hP hD hS hA kL_iM kL_mM kL_nM rfl kL_sM rfl hfs rfl rfl rfl hl.1 (Nat.le_of_ble_eq_true rfl) dL_law_819 hf (fun H locs hP hD hS => ?_)
  refine lv_istore (i := 6) (lv' := (6, .int r) :: (5, .int v5) :: kL_l b a mb o k) hx hb dL_law_822 hl (by decide) rfl (fun ls hl => ?_)
  refine lv_aload_n hx hb dL_law_824 rfl (lv_at hl 4 rfl) ?_
  refine kr_Vi (w' := kL_w g cL a h mb o G V M1 f) (As := []) (rest := []) 86 5 hC (sX5_thrown l g n mb M1 (M1 6 0) rfl) (cwV 0 hts gL_law_X5_thrown rfl rfl rfl (by decide +kernel) ⟨Nat.le_of_ble_eq_true rfl, Nat.le_of_ble_eq_true rfl⟩) hK hP hD hS hA kL_iM kL_mM kL_nM rfl kL_sM rfl hfs2 rfl rfl rfl hl.1 (Nat.le_of_ble_eq_true rfl) dL_law_825 hf (fun H locs hP hD hS => ?_)
  refine lv_iload hx hb dL_law_828 (lv_at hl 1 rfl) ?_
  refine lv_icmp_eq (tgt := 835) hx hb dL_law_830 (by decide) (fun _ => ?_) (fun c9 => absurd h6 c9)
  refine lv_iload hx hb dL_law_835 (lv_at hl 1 rfl) ?_
  have J2 : W p l e room_1 s m args below meth c H locs c1 s1 Q (F0 m 852 ls []) := lv_goto (tgt := 1500) hx hb dL_law_852 (by decide) (J G V M1 f H locs ls hP hD hS hRR (lv_sub hl [2, 3, 4, 5, 6] rfl))
  refine lv_if_ne (tgt := 852) hx hb dL_law_837 (by decide) (fun _ => J2) (fun c9 => ?_)
  refine lv_aload_n hx hb dL_law_840 rfl (lv_at hl 5 rfl) ?_
  refine lv_iconst (v := (0 : Int32)) hx hb dL_law_841 (by decide) ?_
  refine va_lald hx hb hK4 hP 93 3 kL_93 rfl (kk_in 0 1 (by decide) (by decide) rfl) dL_law_842 ?_
  refine lv_iload hx hb dL_law_843 (lv_at hl 0 rfl) ?_
  refine lv_i2l (v := r.toInt64) hx hb dL_law_845 rfl ?_
  refine W.lcmp hx hb dL_law_846 ?_
  exact lv_if_eq (tgt := 852) hx hb dL_law_847 (by decide) (fun _ => J2) (fun c9 => absurd (kL_cm (h0 (by assumption))) c9)
set_option maxHeartbeats 8000000 in
set_option maxRecDepth 100000 in
theorem kB_putAll (E : kL_E p l s m args c g cL A b L xs) (hk : 5 * k + 5 ≤ L) (hn : 300000 ≤ n) {c0 s0 : Nat} (hf : c0 + 1 ≤ 617796 ∧ s0 + 6 ≤ 7242715) (J : kL_J p l e s m args below meth c Q g cL A b a h mb o k 1500 (c0 + 1) (s0 + 6)) {G V : St2} {M : St1} {f : Nat → Int64} (hRR : RR G V M) {H : Heap} {locs : List Loc} {ls : Array Slot} (hP : va_P g.1 vwCl (kL_w g cL a h mb o G V M f) H) (hD : va_D A (kL_w g cL a h mb o G V M f)) (hS : va_S A s.heap H locs) (hl : lv_has ls 9 (kL_l b a mb o k)) : W p l e room_1 s m args below meth c H locs c0 s0 Q (F0 m 811 ls []) := by
  obtain ⟨hC, hst, hK4, hG, hNx, hA, hX, hbl, hbA, hL⟩ := id E
  obtain ⟨hx, hb, hml, hown, hts⟩ := id hC
  have hK := kT4_sub hK4
  obtain ⟨h_0, h_1, h_2, h_3, h_4⟩ := kL_in hk hL
  refine lv_aload_n hx hb dL_law_811 rfl (lv_at hl 1 rfl) ?_
  refine lv_aload_n hx hb dL_law_812 rfl (lv_at hl 3 rfl) ?_
  rcases st_putAll (n := n) (by omega) hRR with ⟨t, G1, r, M1, e1, hk9, e2, e3, hR2⟩ | ⟨r, G1, V1, M1, e1, e2, e3, hR2⟩
  · simp only [List.mem_cons, List.not_mem_nil, or_false] at hk9
    rcases hk9 with rfl | rfl
    · refine kr_wrap (w' := kL_w g cL a h mb o G1 V M f) (As := [.ref (a 0 0), .ref o]) (rest := []) hC (sL_putAll_t2 l hst g cL n a h G V o f G1 e1) (vx_cwSW 2 hts gL_law_L_putAll rfl rfl rfl (by decide +kernel) ⟨Nat.le_of_ble_eq_true rfl, Nat.le_of_ble_eq_true rfl⟩) hK4 hG hNx hP hD hS hA kL_iF kL_mF kL_nF rfl kL_sF rfl rfl hl.1 (Nat.le_of_ble_eq_true rfl) dL_law_813 hf (fun H locs hP hD hS => ?_)
      exact kB_putAll_T E hk hf J e2 (e3.trans rfl) (fun h9 => absurd h9 (by decide)) hR2 hP hD hS hl
    · refine kr_wrap (w' := kL_w g cL a h mb o G1 V M f) (As := [.ref (a 0 0), .ref o]) (rest := []) hC (sL_putAll_t3 l hst g cL n a h G V o f G1 e1) (vx_cwSW 2 hts gL_law_L_putAll rfl rfl rfl (by decide +kernel) ⟨Nat.le_of_ble_eq_true rfl, Nat.le_of_ble_eq_true rfl⟩) hK4 hG hNx hP hD hS hA kL_iF kL_mF kL_nF rfl kL_sF rfl rfl hl.1 (Nat.le_of_ble_eq_true rfl) dL_law_813 hf (fun H locs hP hD hS => ?_)
      exact kB_putAll_T E hk hf J e2 (e3.trans rfl) (fun h9 => absurd h9 (by decide)) hR2 hP hD hS hl
  · refine kr_wrap (w' := kL_w g cL a h mb o G1 V1 M (vp_updL f (0 : Int32).toNatClampNeg r.toInt64)) (As := [.ref (a 0 0), .ref o]) (rest := []) hC (sL_putAll l hst g cL n a h G V o f (r, G1, V1) e1) (vx_cwSW 2 hts gL_law_L_putAll rfl rfl rfl (by decide +kernel) ⟨Nat.le_of_ble_eq_true rfl, Nat.le_of_ble_eq_true rfl⟩) hK4 hG hNx hP hD hS hA kL_iF kL_mF kL_nF rfl kL_sF rfl rfl hl.1 (Nat.le_of_ble_eq_true rfl) dL_law_813 hf (fun H locs hP hD hS => ?_)
    exact kB_putAll_T E hk hf J e2 (e3.trans rfl) (fun _ => kL_u0) hR2 hP hD hS hl
set_option maxHeartbeats 8000000 in
set_option maxRecDepth 100000 in
theorem kB_undo_T (E : kL_E p l s m args c g cL A b L xs) (hk : 5 * k + 5 ≤ L) {c1 s1 : Nat} (hf : c1 ≤ 617796 ∧ s1 ≤ 7242715) (J : kL_J p l e s m args below meth c Q g cL A b a h mb o k 1500 c1 s1) {G V : St2} {M M1 : St1} {f : Nat → Int64} {r v5 : Int32} (hM : fX5_undo n M = some (r, M1)) (h6 : M1 6 0 = v5) (h0 : v5 = 0 → f (0 : Int32).toNatClampNeg = r.toInt64) (hRR : RR G V M1) {H : Heap} {locs : List Loc} {ls : Array Slot} (hP : va_P g.1 vwCl (kL_w g cL a h mb o G V M f) H) (hD : va_D A (kL_w g cL a h mb o G V M f)) (hS : va_S A s.heap H locs) (hl : lv_has ls 9 (kL_l b a mb o k)) : W p l e room_1 s m args below meth c H locs c1 s1 Q (F0 m 860 ls [.int v5]) := by
  obtain ⟨hC, hst, hK4, hG, hNx, hA, hX, hbl, hbA, hL⟩ := id E
  obtain ⟨hx, hb, hml, hown, hts⟩ := id hC
  have hK := kT4_sub hK4
  obtain ⟨h_0, h_1, h_2, h_3, h_4⟩ := kL_in hk hL
  obtain ⟨fs, hfs⟩ := (kL_86 (g := g) (cL := cL) (a := a) (h := h) (b := mb) (o := o) (G := G) (V := V) (M := M) (f := f))
  obtain ⟨fs2, hfs2⟩ := (kL_86 (g := g) (cL := cL) (a := a) (h := h) (b := mb) (o := o) (G := G) (V := V) (M := M1) (f := f))
  refine lv_istore (i := 5) (lv' := (5, .int v5) :: kL_l b a mb o k) hx hb dL_law_860 hl (by decide) rfl (fun ls hl => ?_)
  refine lv_aload_n hx hb dL_law_862 rfl (lv_at hl 3 rfl) ?_
  refine kr_Vi (w' := kL_w g cL a h mb o G V M1 f) (As := []) (rest := []) 86 5 hC (sX5_undo l g n mb M (r, M1) hM) (cwV 0 hts gL_law_X5_undo rfl rfl rfl (by decide +kernel) ⟨Nat.le_of_ble_eq_true rfl, Nat.le_of_ble_eq_true rfl⟩) hK hP hD hS hA kL_iM kL_mM kL_nM rfl kL_sM rfl hfs rfl rfl rfl hl.1 (Nat.le_of_ble_eq_true rfl) dL_law_863 hf (fun H locs hP hD hS => ?_)
  refine lv_istore (i := 6) (lv' := (6, .int r) :: (5, .int v5) :: kL_l b a mb o k) hx hb dL_law_866 hl (by decide) rfl (fun ls hl => ?_)
  refine lv_aload_n hx hb dL_law_868 rfl (lv_at hl 4 rfl) ?_
  refine kr_Vi (w' := kL_w g cL a h mb o G V M1 f) (As := []) (rest := []) 86 5 hC (sX5_thrown l g n mb M1 (M1 6 0) rfl) (cwV 0 hts gL_law_X5_thrown rfl rfl rfl (by decide +kernel) ⟨Nat.le_of_ble_eq_true rfl, Nat.le_of_ble_eq_true rfl⟩) hK hP hD hS hA kL_iM kL_mM kL_nM rfl kL_sM rfl hfs2 rfl rfl rfl hl.1 (Nat.le_of_ble_eq_true rfl) dL_law_869 hf (fun H locs hP hD hS => ?_)
  refine lv_iload hx hb dL_law_872 (lv_at hl 1 rfl) ?_
  refine lv_icmp_eq (tgt := 879) hx hb dL_law_874 (by decide) (fun _ => ?_) (fun c9 => absurd h6 c9)
  refine lv_iload hx hb dL_law_879 (lv_at hl 1 rfl) ?_
  have J2 : W p l e room_1 s m args below meth c H locs c1 s1 Q (F0 m 896 ls []) := lv_goto (tgt := 1500) hx hb dL_law_896 (by decide) (J G V M1 f H locs ls hP hD hS hRR (lv_sub hl [2, 3, 4, 5, 6] rfl))
  refine lv_if_ne (tgt := 896) hx hb dL_law_881 (by decide) (fun _ => J2) (fun c9 => ?_)
  refine lv_aload_n hx hb dL_law_884 rfl (lv_at hl 5 rfl) ?_
  refine lv_iconst (v := (0 : Int32)) hx hb dL_law_885 (by decide) ?_
  refine va_lald hx hb hK4 hP 93 3 kL_93 rfl (kk_in 0 1 (by decide) (by decide) rfl) dL_law_886 ?_
  refine lv_iload hx hb dL_law_887 (lv_at hl 0 rfl) ?_
  refine lv_i2l (v := r.toInt64) hx hb dL_law_889 rfl ?_
  refine W.lcmp hx hb dL_law_890 ?_
  exact lv_if_eq (tgt := 896) hx hb dL_law_891 (by decide) (fun _ => J2) (fun c9 => absurd (kL_cm (h0 (by assumption))) c9)
set_option maxHeartbeats 8000000 in
set_option maxRecDepth 100000 in
theorem kB_undo (E : kL_E p l s m args c g cL A b L xs) (hk : 5 * k + 5 ≤ L) (hn : 300000 ≤ n) {c0 s0 : Nat} (hf : c0 + 1 ≤ 617796 ∧ s0 + 6 ≤ 7242715) (J : kL_J p l e s m args below meth c Q g cL A b a h mb o k 1500 (c0 + 1) (s0 + 6)) {G V : St2} {M : St1} {f : Nat → Int64} (hRR : RR G V M) {H : Heap} {locs : List Loc} {ls : Array Slot} (hP : va_P g.1 vwCl (kL_w g cL a h mb o G V M f) H) (hD : va_D A (kL_w g cL a h mb o G V M f)) (hS : va_S A s.heap H locs) (hl : lv_has ls 9 (kL_l b a mb o k)) : W p l e room_1 s m args below meth c H locs c0 s0 Q (F0 m 855 ls []) := by
  obtain ⟨hC, hst, hK4, hG, hNx, hA, hX, hbl, hbA, hL⟩ := id E
  obtain ⟨hx, hb, hml, hown, hts⟩ := id hC
  have hK := kT4_sub hK4
  obtain ⟨h_0, h_1, h_2, h_3, h_4⟩ := kL_in hk hL
  refine lv_aload_n hx hb dL_law_855 rfl (lv_at hl 1 rfl) ?_
  refine lv_aload_n hx hb dL_law_856 rfl (lv_at hl 3 rfl) ?_
  rcases st_undo (n := n) (by omega) hRR with ⟨t, r, M1, e1, hk9, e2, e3, hR2⟩ | ⟨r, G1, V1, M1, e1, e2, e3, hR2⟩
  · simp only [List.mem_cons, List.not_mem_nil, or_false] at hk9
    subst hk9
    · refine kr_wrap (w' := kL_w g cL a h mb o G V M f) (As := [.ref (a 0 0), .ref o]) (rest := []) hC (sL_undo_t3 l hst g cL n a h G V o f e1) (vx_cwSW 2 hts gL_law_L_undo rfl rfl rfl (by decide +kernel) ⟨Nat.le_of_ble_eq_true rfl, Nat.le_of_ble_eq_true rfl⟩) hK4 hG hNx hP hD hS hA kL_iF kL_mF kL_nF rfl kL_sF rfl rfl hl.1 (Nat.le_of_ble_eq_true rfl) dL_law_857 hf (fun H locs hP hD hS => ?_)
      exact kB_undo_T E hk hf J e2 (e3.trans rfl) (fun h9 => absurd h9 (by decide)) hR2 hP hD hS hl
  · refine kr_wrap (w' := kL_w g cL a h mb o G1 V1 M (vp_updL f (0 : Int32).toNatClampNeg r.toInt64)) (As := [.ref (a 0 0), .ref o]) (rest := []) hC (sL_undo l hst g cL n a h G V o f (r, G1, V1) e1) (vx_cwSW 2 hts gL_law_L_undo rfl rfl rfl (by decide +kernel) ⟨Nat.le_of_ble_eq_true rfl, Nat.le_of_ble_eq_true rfl⟩) hK4 hG hNx hP hD hS hA kL_iF kL_mF kL_nF rfl kL_sF rfl rfl hl.1 (Nat.le_of_ble_eq_true rfl) dL_law_857 hf (fun H locs hP hD hS => ?_)
    exact kB_undo_T E hk hf J e2 (e3.trans rfl) (fun _ => kL_u0) hR2 hP hD hS hl
set_option maxHeartbeats 8000000 in
set_option maxRecDepth 100000 in
theorem kB_floatAt_T (E : kL_E p l s m args c g cL A b L xs) (hk : 5 * k + 5 ≤ L) {c1 s1 : Nat} (hf : c1 ≤ 617796 ∧ s1 ≤ 7242715) (J : kL_J p l e s m args below meth c Q g cL A b a h mb o k 1500 c1 s1) {G V : St2} {M M1 : St1} {f : Nat → Int64} {r v5 : Int32} (hM : fX5_floatAt n M (kL_x xs k 1) (kL_x xs k 2) = some (r, M1)) (h6 : M1 6 0 = v5) (h0 : v5 = 0 → f (0 : Int32).toNatClampNeg = r.toInt64) (hRR : RR G V M1) {H : Heap} {locs : List Loc} {ls : Array Slot} (hP : va_P g.1 vwCl (kL_w g cL a h mb o G V M f) H) (hD : va_D A (kL_w g cL a h mb o G V M f)) (hS : va_S A s.heap H locs) (hl : lv_has ls 9 (kL_l b a mb o k)) : W p l e room_1 s m args below meth c H locs c1 s1 Q (F0 m 916 ls [.int v5]) := by
  obtain ⟨hC, hst, hK4, hG, hNx, hA, hX, hbl, hbA, hL⟩ := id E
  obtain ⟨hx, hb, hml, hown, hts⟩ := id hC
  have hK := kT4_sub hK4
  obtain ⟨h_0, h_1, h_2, h_3, h_4⟩ := kL_in hk hL
  obtain ⟨fs, hfs⟩ := (kL_86 (g := g) (cL := cL) (a := a) (h := h) (b := mb) (o := o) (G := G) (V := V) (M := M) (f := f))
  obtain ⟨fs2, hfs2⟩ := (kL_86 (g := g) (cL := cL) (a := a) (h := h) (b := mb) (o := o) (G := G) (V := V) (M := M1) (f := f))
  refine lv_istore (i := 5) (lv' := (5, .int v5) :: kL_l b a mb o k) hx hb dL_law_916 hl (by decide) rfl (fun ls hl => ?_)
  refine lv_aload_n hx hb dL_law_918 rfl (lv_at hl 3 rfl) ?_
  refine lv_aload_n hx hb dL_law_919 rfl (lv_at hl 1 rfl) ?_
  refine lv_iload hx hb dL_law_920 (lv_at hl 5 rfl) ?_
  refine lv_iconst (v := (1 : Int32)) hx hb dL_law_922 (by decide) ?_
  refine lv_iadd hx hb dL_law_923 ?_
  refine va_sld hx hb hX hbl hbA hS h_1 dL_law_924 ?_
  refine lv_aload_n hx hb dL_law_925 rfl (lv_at hl 1 rfl) ?_
  refine lv_iload hx hb dL_law_926 (lv_at hl 5 rfl) ?_
  refine lv_iconst (v := (2 : Int32)) hx hb dL_law_928 (by decide) ?_
  refine lv_iadd hx hb dL_law_929 ?_
  refine va_sld hx hb hX hbl hbA hS h_2 dL_law_930 ?_
  refine kr_Vi (w' := kL_w g cL a h mb o G V M1 f) (As := [.int (kL_x xs k 1), .int (kL_x xs k 2)]) (rest := []) 86 5 hC (sX5_floatAt l g n mb M (kL_x xs k 1) (kL_x xs k 2) (r, M1) hM) (cwV 2 hts gL_law_X5_floatAt rfl rfl rfl (by decide +kernel) ⟨Nat.le_of_ble_eq_true rfl, Nat.le_of_ble_eq_true rfl⟩) hK hP hD hS hA kL_iM kL_mM kL_nM rfl kL_sM rfl hfs rfl rfl rfl hl.1 (Nat.le_of_ble_eq_true rfl) dL_law_931 hf (fun H locs hP hD hS => ?_)
  refine lv_istore (i := 6) (lv' := (6, .int r) :: (5, .int v5) :: kL_l b a mb o k) hx hb dL_law_934 hl (by decide) rfl (fun ls hl => ?_)
  refine lv_aload_n hx hb dL_law_936 rfl (lv_at hl 4 rfl) ?_
  refine kr_Vi (w' := kL_w g cL a h mb o G V M1 f) (As := []) (rest := []) 86 5 hC (sX5_thrown l g n mb M1 (M1 6 0) rfl) (cwV 0 hts gL_law_X5_thrown rfl rfl rfl (by decide +kernel) ⟨Nat.le_of_ble_eq_true rfl, Nat.le_of_ble_eq_true rfl⟩) hK hP hD hS hA kL_iM kL_mM kL_nM rfl kL_sM rfl hfs2 rfl rfl rfl hl.1 (Nat.le_of_ble_eq_true rfl) dL_law_937 hf (fun H locs hP hD hS => ?_)
  refine lv_iload hx hb dL_law_940 (lv_at hl 1 rfl) ?_
  refine lv_icmp_eq (tgt := 947) hx hb dL_law_942 (by decide) (fun _ => ?_) (fun c9 => absurd h6 c9)
  refine lv_iload hx hb dL_law_947 (lv_at hl 1 rfl) ?_
  have J2 : W p l e room_1 s m args below meth c H locs c1 s1 Q (F0 m 964 ls []) := lv_goto (tgt := 1500) hx hb dL_law_964 (by decide) (J G V M1 f H locs ls hP hD hS hRR (lv_sub hl [2, 3, 4, 5, 6] rfl))
  refine lv_if_ne (tgt := 964) hx hb dL_law_949 (by decide) (fun _ => J2) (fun c9 => ?_)
  refine lv_aload_n hx hb dL_law_952 rfl (lv_at hl 5 rfl) ?_
  refine lv_iconst (v := (0 : Int32)) hx hb dL_law_953 (by decide) ?_
  refine va_lald hx hb hK4 hP 93 3 kL_93 rfl (kk_in 0 1 (by decide) (by decide) rfl) dL_law_954 ?_
  refine lv_iload hx hb dL_law_955 (lv_at hl 0 rfl) ?_
  refine lv_i2l (v := r.toInt64) hx hb dL_law_957 rfl ?_
  refine W.lcmp hx hb dL_law_958 ?_
  exact lv_if_eq (tgt := 964) hx hb dL_law_959 (by decide) (fun _ => J2) (fun c9 => absurd (kL_cm (h0 (by assumption))) c9)
set_option maxHeartbeats 8000000 in
set_option maxRecDepth 100000 in
theorem kB_floatAt (E : kL_E p l s m args c g cL A b L xs) (hk : 5 * k + 5 ≤ L) (hn : 300000 ≤ n) {c0 s0 : Nat} (hf : c0 + 1 ≤ 617796 ∧ s0 + 6 ≤ 7242715) (J : kL_J p l e s m args below meth c Q g cL A b a h mb o k 1500 (c0 + 1) (s0 + 6)) {G V : St2} {M : St1} {f : Nat → Int64} (hRR : RR G V M) {H : Heap} {locs : List Loc} {ls : Array Slot} (hP : va_P g.1 vwCl (kL_w g cL a h mb o G V M f) H) (hD : va_D A (kL_w g cL a h mb o G V M f)) (hS : va_S A s.heap H locs) (hl : lv_has ls 9 (kL_l b a mb o k)) : W p l e room_1 s m args below meth c H locs c0 s0 Q (F0 m 899 ls []) := by
  obtain ⟨hC, hst, hK4, hG, hNx, hA, hX, hbl, hbA, hL⟩ := id E
  obtain ⟨hx, hb, hml, hown, hts⟩ := id hC
  have hK := kT4_sub hK4
  obtain ⟨h_0, h_1, h_2, h_3, h_4⟩ := kL_in hk hL
  refine lv_aload_n hx hb dL_law_899 rfl (lv_at hl 1 rfl) ?_
  refine lv_aload_n hx hb dL_law_900 rfl (lv_at hl 0 rfl) ?_
  refine lv_iload hx hb dL_law_901 (lv_at hl 4 rfl) ?_
  refine lv_iconst (v := (1 : Int32)) hx hb dL_law_903 (by decide) ?_
  refine lv_iadd hx hb dL_law_904 ?_
  refine va_sld hx hb hX hbl hbA hS h_1 dL_law_905 ?_
  refine lv_aload_n hx hb dL_law_906 rfl (lv_at hl 0 rfl) ?_
  refine lv_iload hx hb dL_law_907 (lv_at hl 4 rfl) ?_
  refine lv_iconst (v := (2 : Int32)) hx hb dL_law_909 (by decide) ?_
  refine lv_iadd hx hb dL_law_910 ?_
  refine va_sld hx hb hX hbl hbA hS h_2 dL_law_911 ?_
  refine lv_aload_n hx hb dL_law_912 rfl (lv_at hl 3 rfl) ?_
  rcases st_floatAt (n := n) (by omega) hRR (kL_x xs k 1) (kL_x xs k 2) with ⟨t, r, M1, e1, hk9, e2, e3, hR2⟩ | ⟨r, M1, e1, e2, e3, hR2⟩
  · simp only [List.mem_cons, List.not_mem_nil, or_false] at hk9
    rcases hk9 with rfl | rfl
    · refine kr_wrap (w' := kL_w g cL a h mb o G V M f) (As := [.ref (a 0 0), .int (kL_x xs k 1), .int (kL_x xs k 2), .ref o]) (rest := []) hC (sL_floatAt_t1 l hst g cL n a G o f (kL_x xs k 1) (kL_x xs k 2) e1) (vx_cwSW 4 hts gL_law_L_floatAt rfl rfl rfl (by decide +kernel) ⟨Nat.le_of_ble_eq_true rfl, Nat.le_of_ble_eq_true rfl⟩) hK4 hG hNx hP hD hS hA kL_iG kL_mG kL_nG rfl kL_sG rfl rfl hl.1 (Nat.le_of_ble_eq_true rfl) dL_law_913 hf (fun H locs hP hD hS => ?_)
      exact kB_floatAt_T E hk hf J e2 (e3.trans rfl) (fun h9 => absurd h9 (by decide)) hR2 hP hD hS hl
    · refine kr_wrap (w' := kL_w g cL a h mb o G V M f) (As := [.ref (a 0 0), .int (kL_x xs k 1), .int (kL_x xs k 2), .ref o]) (rest := []) hC (sL_floatAt_t2 l hst g cL n a G o f (kL_x xs k 1) (kL_x xs k 2) e1) (vx_cwSW 4 hts gL_law_L_floatAt rfl rfl rfl (by decide +kernel) ⟨Nat.le_of_ble_eq_true rfl, Nat.le_of_ble_eq_true rfl⟩) hK4 hG hNx hP hD hS hA kL_iG kL_mG kL_nG rfl kL_sG rfl rfl hl.1 (Nat.le_of_ble_eq_true rfl) dL_law_913 hf (fun H locs hP hD hS => ?_)
      exact kB_floatAt_T E hk hf J e2 (e3.trans rfl) (fun h9 => absurd h9 (by decide)) hR2 hP hD hS hl
  · refine kr_wrap (w' := kL_w g cL a h mb o G V M (vp_updL f (0 : Int32).toNatClampNeg r.toInt64)) (As := [.ref (a 0 0), .int (kL_x xs k 1), .int (kL_x xs k 2), .ref o]) (rest := []) hC (sL_floatAt l hst g cL n a G o f (kL_x xs k 1) (kL_x xs k 2) r e1) (vx_cwSW 4 hts gL_law_L_floatAt rfl rfl rfl (by decide +kernel) ⟨Nat.le_of_ble_eq_true rfl, Nat.le_of_ble_eq_true rfl⟩) hK4 hG hNx hP hD hS hA kL_iG kL_mG kL_nG rfl kL_sG rfl rfl hl.1 (Nat.le_of_ble_eq_true rfl) dL_law_913 hf (fun H locs hP hD hS => ?_)
    exact kB_floatAt_T E hk hf J e2 (e3.trans rfl) (fun _ => kL_u0) hR2 hP hD hS hl
set_option maxHeartbeats 8000000 in
set_option maxRecDepth 100000 in
theorem kB_trouble_T (E : kL_E p l s m args c g cL A b L xs) (hk : 5 * k + 5 ≤ L) {c1 s1 : Nat} (hf : c1 ≤ 617796 ∧ s1 ≤ 7242715) (J : kL_J p l e s m args below meth c Q g cL A b a h mb o k 1500 c1 s1) {G V : St2} {M M1 : St1} {f : Nat → Int64} {r v5 : Int32} (hM : fX5_trouble n M (kL_x xs k 1) (kL_x xs k 2) = some (r, M1)) (h6 : M1 6 0 = v5) (h0 : v5 = 0 → f (0 : Int32).toNatClampNeg = r.toInt64) (hRR : RR G V M1) {H : Heap} {locs : List Loc} {ls : Array Slot} (hP : va_P g.1 vwCl (kL_w g cL a h mb o G V M f) H) (hD : va_D A (kL_w g cL a h mb o G V M f)) (hS : va_S A s.heap H locs) (hl : lv_has ls 9 (kL_l b a mb o k)) : W p l e room_1 s m args below meth c H locs c1 s1 Q (F0 m 984 ls [.int v5]) := by
  obtain ⟨hC, hst, hK4, hG, hNx, hA, hX, hbl, hbA, hL⟩ := id E
  obtain ⟨hx, hb, hml, hown, hts⟩ := id hC
  have hK := kT4_sub hK4
  obtain ⟨h_0, h_1, h_2, h_3, h_4⟩ := kL_in hk hL
  obtain ⟨fs, hfs⟩ := (kL_86 (g := g) (cL := cL) (a := a) (h := h) (b := mb) (o := o) (G := G) (V := V) (M := M) (f := f))
  obtain ⟨fs2, hfs2⟩ := (kL_86 (g := g) (cL := cL) (a := a) (h := h) (b := mb) (o := o) (G := G) (V := V) (M := M1) (f := f))
  refine lv_istore (i := 5) (lv' := (5, .int v5) :: kL_l b a mb o k) hx hb dL_law_984 hl (by decide) rfl (fun ls hl => ?_)
  refine lv_aload_n hx hb dL_law_986 rfl (lv_at hl 3 rfl) ?_
  refine lv_aload_n hx hb dL_law_987 rfl (lv_at hl 1 rfl) ?_
  refine lv_iload hx hb dL_law_988 (lv_at hl 5 rfl) ?_
  refine lv_iconst (v := (1 : Int32)) hx hb dL_law_990 (by decide) ?_
  refine lv_iadd hx hb dL_law_991 ?_
  refine va_sld hx hb hX hbl hbA hS h_1 dL_law_992 ?_
  refine lv_aload_n hx hb dL_law_993 rfl (lv_at hl 1 rfl) ?_
  refine lv_iload hx hb dL_law_994 (lv_at hl 5 rfl) ?_
  refine lv_iconst (v := (2 : Int32)) hx hb dL_law_996 (by decide) ?_
  refine lv_iadd hx hb dL_law_997 ?_
  refine va_sld hx hb hX hbl hbA hS h_2 dL_law_998 ?_
  refine kr_Vi (w' := kL_w g cL a h mb o G V M1 f) (As := [.int (kL_x xs k 1), .int (kL_x xs k 2)]) (rest := []) 86 5 hC (sX5_trouble l g n mb M (kL_x xs k 1) (kL_x xs k 2) (r, M1) hM) (cwV 2 hts gL_law_X5_trouble rfl rfl rfl (by decide +kernel) ⟨Nat.le_of_ble_eq_true rfl, Nat.le_of_ble_eq_true rfl⟩) hK hP hD hS hA kL_iM kL_mM kL_nM rfl kL_sM rfl hfs rfl rfl rfl hl.1 (Nat.le_of_ble_eq_true rfl) dL_law_999 hf (fun H locs hP hD hS => ?_)
  refine lv_istore (i := 6) (lv' := (6, .int r) :: (5, .int v5) :: kL_l b a mb o k) hx hb dL_law_1002 hl (by decide) rfl (fun ls hl => ?_)
  refine lv_aload_n hx hb dL_law_1004 rfl (lv_at hl 4 rfl) ?_
  refine kr_Vi (w' := kL_w g cL a h mb o G V M1 f) (As := []) (rest := []) 86 5 hC (sX5_thrown l g n mb M1 (M1 6 0) rfl) (cwV 0 hts gL_law_X5_thrown rfl rfl rfl (by decide +kernel) ⟨Nat.le_of_ble_eq_true rfl, Nat.le_of_ble_eq_true rfl⟩) hK hP hD hS hA kL_iM kL_mM kL_nM rfl kL_sM rfl hfs2 rfl rfl rfl hl.1 (Nat.le_of_ble_eq_true rfl) dL_law_1005 hf (fun H locs hP hD hS => ?_)
  refine lv_iload hx hb dL_law_1008 (lv_at hl 1 rfl) ?_
  refine lv_icmp_eq (tgt := 1015) hx hb dL_law_1010 (by decide) (fun _ => ?_) (fun c9 => absurd h6 c9)
  refine lv_iload hx hb dL_law_1015 (lv_at hl 1 rfl) ?_
  have J2 : W p l e room_1 s m args below meth c H locs c1 s1 Q (F0 m 1032 ls []) := lv_goto (tgt := 1500) hx hb dL_law_1032 (by decide) (J G V M1 f H locs ls hP hD hS hRR (lv_sub hl [2, 3, 4, 5, 6] rfl))
  refine lv_if_ne (tgt := 1032) hx hb dL_law_1017 (by decide) (fun _ => J2) (fun c9 => ?_)
  refine lv_aload_n hx hb dL_law_1020 rfl (lv_at hl 5 rfl) ?_
  refine lv_iconst (v := (0 : Int32)) hx hb dL_law_1021 (by decide) ?_
  refine va_lald hx hb hK4 hP 93 3 kL_93 rfl (kk_in 0 1 (by decide) (by decide) rfl) dL_law_1022 ?_
  refine lv_iload hx hb dL_law_1023 (lv_at hl 0 rfl) ?_
  refine lv_i2l (v := r.toInt64) hx hb dL_law_1025 rfl ?_
  refine W.lcmp hx hb dL_law_1026 ?_
  exact lv_if_eq (tgt := 1032) hx hb dL_law_1027 (by decide) (fun _ => J2) (fun c9 => absurd (kL_cm (h0 (by assumption))) c9)
set_option maxHeartbeats 8000000 in
set_option maxRecDepth 100000 in
theorem kB_trouble (E : kL_E p l s m args c g cL A b L xs) (hk : 5 * k + 5 ≤ L) (hn : 300000 ≤ n) {c0 s0 : Nat} (hf : c0 + 1 ≤ 617796 ∧ s0 + 6 ≤ 7242715) (J : kL_J p l e s m args below meth c Q g cL A b a h mb o k 1500 (c0 + 1) (s0 + 6)) {G V : St2} {M : St1} {f : Nat → Int64} (hRR : RR G V M) {H : Heap} {locs : List Loc} {ls : Array Slot} (hP : va_P g.1 vwCl (kL_w g cL a h mb o G V M f) H) (hD : va_D A (kL_w g cL a h mb o G V M f)) (hS : va_S A s.heap H locs) (hl : lv_has ls 9 (kL_l b a mb o k)) : W p l e room_1 s m args below meth c H locs c0 s0 Q (F0 m 967 ls []) := by
  obtain ⟨hC, hst, hK4, hG, hNx, hA, hX, hbl, hbA, hL⟩ := id E
  obtain ⟨hx, hb, hml, hown, hts⟩ := id hC
  have hK := kT4_sub hK4
  obtain ⟨h_0, h_1, h_2, h_3, h_4⟩ := kL_in hk hL
  refine lv_aload_n hx hb dL_law_967 rfl (lv_at hl 1 rfl) ?_
  refine lv_aload_n hx hb dL_law_968 rfl (lv_at hl 0 rfl) ?_
  refine lv_iload hx hb dL_law_969 (lv_at hl 4 rfl) ?_
  refine lv_iconst (v := (1 : Int32)) hx hb dL_law_971 (by decide) ?_
  refine lv_iadd hx hb dL_law_972 ?_
  refine va_sld hx hb hX hbl hbA hS h_1 dL_law_973 ?_
  refine lv_aload_n hx hb dL_law_974 rfl (lv_at hl 0 rfl) ?_
  refine lv_iload hx hb dL_law_975 (lv_at hl 4 rfl) ?_
  refine lv_iconst (v := (2 : Int32)) hx hb dL_law_977 (by decide) ?_
  refine lv_iadd hx hb dL_law_978 ?_
  refine va_sld hx hb hX hbl hbA hS h_2 dL_law_979 ?_
  refine lv_aload_n hx hb dL_law_980 rfl (lv_at hl 3 rfl) ?_
  rcases st_trouble (n := n) (by omega) hRR (kL_x xs k 1) (kL_x xs k 2) with ⟨t, r, M1, e1, hk9, e2, e3, hR2⟩ | ⟨r, M1, e1, e2, e3, hR2⟩
  · simp only [List.mem_cons, List.not_mem_nil, or_false] at hk9
    rcases hk9 with rfl | rfl
    · refine kr_wrap (w' := kL_w g cL a h mb o G V M f) (As := [.ref (a 0 0), .int (kL_x xs k 1), .int (kL_x xs k 2), .ref o]) (rest := []) hC (sL_trouble_t1 l hst g cL n a G o f (kL_x xs k 1) (kL_x xs k 2) e1) (vx_cwSW 4 hts gL_law_L_trouble rfl rfl rfl (by decide +kernel) ⟨Nat.le_of_ble_eq_true rfl, Nat.le_of_ble_eq_true rfl⟩) hK4 hG hNx hP hD hS hA kL_iG kL_mG kL_nG rfl kL_sG rfl rfl hl.1 (Nat.le_of_ble_eq_true rfl) dL_law_981 hf (fun H locs hP hD hS => ?_)
      exact kB_trouble_T E hk hf J e2 (e3.trans rfl) (fun h9 => absurd h9 (by decide)) hR2 hP hD hS hl
    · refine kr_wrap (w' := kL_w g cL a h mb o G V M f) (As := [.ref (a 0 0), .int (kL_x xs k 1), .int (kL_x xs k 2), .ref o]) (rest := []) hC (sL_trouble_t2 l hst g cL n a G o f (kL_x xs k 1) (kL_x xs k 2) e1) (vx_cwSW 4 hts gL_law_L_trouble rfl rfl rfl (by decide +kernel) ⟨Nat.le_of_ble_eq_true rfl, Nat.le_of_ble_eq_true rfl⟩) hK4 hG hNx hP hD hS hA kL_iG kL_mG kL_nG rfl kL_sG rfl rfl hl.1 (Nat.le_of_ble_eq_true rfl) dL_law_981 hf (fun H locs hP hD hS => ?_)
      exact kB_trouble_T E hk hf J e2 (e3.trans rfl) (fun h9 => absurd h9 (by decide)) hR2 hP hD hS hl
  · refine kr_wrap (w' := kL_w g cL a h mb o G V M (vp_updL f (0 : Int32).toNatClampNeg r.toInt64)) (As := [.ref (a 0 0), .int (kL_x xs k 1), .int (kL_x xs k 2), .ref o]) (rest := []) hC (sL_trouble l hst g cL n a G o f (kL_x xs k 1) (kL_x xs k 2) r e1) (vx_cwSW 4 hts gL_law_L_trouble rfl rfl rfl (by decide +kernel) ⟨Nat.le_of_ble_eq_true rfl, Nat.le_of_ble_eq_true rfl⟩) hK4 hG hNx hP hD hS hA kL_iG kL_mG kL_nG rfl kL_sG rfl rfl hl.1 (Nat.le_of_ble_eq_true rfl) dL_law_981 hf (fun H locs hP hD hS => ?_)
    exact kB_trouble_T E hk hf J e2 (e3.trans rfl) (fun _ => kL_u0) hR2 hP hD hS hl
set_option maxHeartbeats 8000000 in
set_option maxRecDepth 100000 in
theorem kB_comes_T (E : kL_E p l s m args c g cL A b L xs) (hk : 5 * k + 5 ≤ L) {c1 s1 : Nat} (hf : c1 ≤ 617796 ∧ s1 ≤ 7242715) (J : kL_J p l e s m args below meth c Q g cL A b a h mb o k 1500 c1 s1) {G V : St2} {M M1 : St1} {f : Nat → Int64} {r v5 : Int32} (hM : fX5_comes n M (kL_x xs k 1) (kL_x xs k 2) = some (r, M1)) (h6 : M1 6 0 = v5) (h0 : v5 = 0 → f (0 : Int32).toNatClampNeg = r.toInt64) (hRR : RR G V M1) {H : Heap} {locs : List Loc} {ls : Array Slot} (hP : va_P g.1 vwCl (kL_w g cL a h mb o G V M f) H) (hD : va_D A (kL_w g cL a h mb o G V M f)) (hS : va_S A s.heap H locs) (hl : lv_has ls 9 (kL_l b a mb o k)) : W p l e room_1 s m args below meth c H locs c1 s1 Q (F0 m 1052 ls [.int v5]) := by
  obtain ⟨hC, hst, hK4, hG, hNx, hA, hX, hbl, hbA, hL⟩ := id E
  obtain ⟨hx, hb, hml, hown, hts⟩ := id hC
  have hK := kT4_sub hK4
  obtain ⟨h_0, h_1, h_2, h_3, h_4⟩ := kL_in hk hL
  obtain ⟨fs, hfs⟩ := (kL_86 (g := g) (cL := cL) (a := a) (h := h) (b := mb) (o := o) (G := G) (V := V) (M := M) (f := f))
  obtain ⟨fs2, hfs2⟩ := (kL_86 (g := g) (cL := cL) (a := a) (h := h) (b := mb) (o := o) (G := G) (V := V) (M := M1) (f := f))
  refine lv_istore (i := 5) (lv' := (5, .int v5) :: kL_l b a mb o k) hx hb dL_law_1052 hl (by decide) rfl (fun ls hl => ?_)
  refine lv_aload_n hx hb dL_law_1054 rfl (lv_at hl 3 rfl) ?_
  refine lv_aload_n hx hb dL_law_1055 rfl (lv_at hl 1 rfl) ?_
  refine lv_iload hx hb dL_law_1056 (lv_at hl 5 rfl) ?_
  refine lv_iconst (v := (1 : Int32)) hx hb dL_law_1058 (by decide) ?_
  refine lv_iadd hx hb dL_law_1059 ?_
  refine va_sld hx hb hX hbl hbA hS h_1 dL_law_1060 ?_
  refine lv_aload_n hx hb dL_law_1061 rfl (lv_at hl 1 rfl) ?_
  refine lv_iload hx hb dL_law_1062 (lv_at hl 5 rfl) ?_
  refine lv_iconst (v := (2 : Int32)) hx hb dL_law_1064 (by decide) ?_
  refine lv_iadd hx hb dL_law_1065 ?_
  refine va_sld hx hb hX hbl hbA hS h_2 dL_law_1066 ?_
  refine kr_Vi (w' := kL_w g cL a h mb o G V M1 f) (As := [.int (kL_x xs k 1), .int (kL_x xs k 2)]) (rest := []) 86 5 hC (sX5_comes l g n mb M (kL_x xs k 1) (kL_x xs k 2) (r, M1) hM) (cwV 2 hts gL_law_X5_comes rfl rfl rfl (by decide +kernel) ⟨Nat.le_of_ble_eq_true rfl, Nat.le_of_ble_eq_true rfl⟩) hK hP hD hS hA kL_iM kL_mM kL_nM rfl kL_sM rfl hfs rfl rfl rfl hl.1 (Nat.le_of_ble_eq_true rfl) dL_law_1067 hf (fun H locs hP hD hS => ?_)
  refine lv_istore (i := 6) (lv' := (6, .int r) :: (5, .int v5) :: kL_l b a mb o k) hx hb dL_law_1070 hl (by decide) rfl (fun ls hl => ?_)
  refine lv_aload_n hx hb dL_law_1072 rfl (lv_at hl 4 rfl) ?_
  refine kr_Vi (w' := kL_w g cL a h mb o G V M1 f) (As := []) (rest := []) 86 5 hC (sX5_thrown l g n mb M1 (M1 6 0) rfl) (cwV 0 hts gL_law_X5_thrown rfl rfl rfl (by decide +kernel) ⟨Nat.le_of_ble_eq_true rfl, Nat.le_of_ble_eq_true rfl⟩) hK hP hD hS hA kL_iM kL_mM kL_nM rfl kL_sM rfl hfs2 rfl rfl rfl hl.1 (Nat.le_of_ble_eq_true rfl) dL_law_1073 hf (fun H locs hP hD hS => ?_)
  refine lv_iload hx hb dL_law_1076 (lv_at hl 1 rfl) ?_
  refine lv_icmp_eq (tgt := 1083) hx hb dL_law_1078 (by decide) (fun _ => ?_) (fun c9 => absurd h6 c9)
  refine lv_iload hx hb dL_law_1083 (lv_at hl 1 rfl) ?_
  have J2 : W p l e room_1 s m args below meth c H locs c1 s1 Q (F0 m 1100 ls []) := lv_goto (tgt := 1500) hx hb dL_law_1100 (by decide) (J G V M1 f H locs ls hP hD hS hRR (lv_sub hl [2, 3, 4, 5, 6] rfl))
  refine lv_if_ne (tgt := 1100) hx hb dL_law_1085 (by decide) (fun _ => J2) (fun c9 => ?_)
  refine lv_aload_n hx hb dL_law_1088 rfl (lv_at hl 5 rfl) ?_
  refine lv_iconst (v := (0 : Int32)) hx hb dL_law_1089 (by decide) ?_
  refine va_lald hx hb hK4 hP 93 3 kL_93 rfl (kk_in 0 1 (by decide) (by decide) rfl) dL_law_1090 ?_
  refine lv_iload hx hb dL_law_1091 (lv_at hl 0 rfl) ?_
  refine lv_i2l (v := r.toInt64) hx hb dL_law_1093 rfl ?_
  refine W.lcmp hx hb dL_law_1094 ?_
  exact lv_if_eq (tgt := 1100) hx hb dL_law_1095 (by decide) (fun _ => J2) (fun c9 => absurd (kL_cm (h0 (by assumption))) c9)
set_option maxHeartbeats 8000000 in
set_option maxRecDepth 100000 in
theorem kB_comes (E : kL_E p l s m args c g cL A b L xs) (hk : 5 * k + 5 ≤ L) (hn : 300000 ≤ n) {c0 s0 : Nat} (hf : c0 + 1 ≤ 617796 ∧ s0 + 6 ≤ 7242715) (J : kL_J p l e s m args below meth c Q g cL A b a h mb o k 1500 (c0 + 1) (s0 + 6)) {G V : St2} {M : St1} {f : Nat → Int64} (hRR : RR G V M) {H : Heap} {locs : List Loc} {ls : Array Slot} (hP : va_P g.1 vwCl (kL_w g cL a h mb o G V M f) H) (hD : va_D A (kL_w g cL a h mb o G V M f)) (hS : va_S A s.heap H locs) (hl : lv_has ls 9 (kL_l b a mb o k)) : W p l e room_1 s m args below meth c H locs c0 s0 Q (F0 m 1035 ls []) := by
  obtain ⟨hC, hst, hK4, hG, hNx, hA, hX, hbl, hbA, hL⟩ := id E
  obtain ⟨hx, hb, hml, hown, hts⟩ := id hC
  have hK := kT4_sub hK4
  obtain ⟨h_0, h_1, h_2, h_3, h_4⟩ := kL_in hk hL
  refine lv_aload_n hx hb dL_law_1035 rfl (lv_at hl 1 rfl) ?_
  refine lv_aload_n hx hb dL_law_1036 rfl (lv_at hl 0 rfl) ?_
  refine lv_iload hx hb dL_law_1037 (lv_at hl 4 rfl) ?_
  refine lv_iconst (v := (1 : Int32)) hx hb dL_law_1039 (by decide) ?_
  refine lv_iadd hx hb dL_law_1040 ?_
  refine va_sld hx hb hX hbl hbA hS h_1 dL_law_1041 ?_
  refine lv_aload_n hx hb dL_law_1042 rfl (lv_at hl 0 rfl) ?_
  refine lv_iload hx hb dL_law_1043 (lv_at hl 4 rfl) ?_
  refine lv_iconst (v := (2 : Int32)) hx hb dL_law_1045 (by decide) ?_
  refine lv_iadd hx hb dL_law_1046 ?_
  refine va_sld hx hb hX hbl hbA hS h_2 dL_law_1047 ?_
  refine lv_aload_n hx hb dL_law_1048 rfl (lv_at hl 3 rfl) ?_
  rcases st_comes (n := n) (by omega) hRR (kL_x xs k 1) (kL_x xs k 2) with ⟨t, r, M1, e1, hk9, e2, e3, hR2⟩ | ⟨r, G1, M1, e1, e2, e3, hR2⟩
  · simp only [List.mem_cons, List.not_mem_nil, or_false] at hk9
    subst hk9
    · refine kr_wrap (w' := kL_w g cL a h mb o G V M f) (As := [.ref (a 0 0), .int (kL_x xs k 1), .int (kL_x xs k 2), .ref o]) (rest := []) hC (sL_comes_t1 l hst g cL n a G o f (kL_x xs k 1) (kL_x xs k 2) e1) (vx_cwSW 4 hts gL_law_L_comes rfl rfl rfl (by decide +kernel) ⟨Nat.le_of_ble_eq_true rfl, Nat.le_of_ble_eq_true rfl⟩) hK4 hG hNx hP hD hS hA kL_iG kL_mG kL_nG rfl kL_sG rfl rfl hl.1 (Nat.le_of_ble_eq_true rfl) dL_law_1049 hf (fun H locs hP hD hS => ?_)
      exact kB_comes_T E hk hf J e2 (e3.trans rfl) (fun h9 => absurd h9 (by decide)) hR2 hP hD hS hl
  · refine kr_wrap (w' := kL_w g cL a h mb o G1 V M (vp_updL f (0 : Int32).toNatClampNeg r.toInt64)) (As := [.ref (a 0 0), .int (kL_x xs k 1), .int (kL_x xs k 2), .ref o]) (rest := []) hC (sL_comes l hst g cL n a G o f (kL_x xs k 1) (kL_x xs k 2) (r, G1) e1) (vx_cwSW 4 hts gL_law_L_comes rfl rfl rfl (by decide +kernel) ⟨Nat.le_of_ble_eq_true rfl, Nat.le_of_ble_eq_true rfl⟩) hK4 hG hNx hP hD hS hA kL_iG kL_mG kL_nG rfl kL_sG rfl rfl hl.1 (Nat.le_of_ble_eq_true rfl) dL_law_1049 hf (fun H locs hP hD hS => ?_)
    exact kB_comes_T E hk hf J e2 (e3.trans rfl) (fun _ => kL_u0) hR2 hP hD hS hl
set_option maxHeartbeats 8000000 in
set_option maxRecDepth 100000 in
theorem kB_bridgeOf_T (E : kL_E p l s m args c g cL A b L xs) (hk : 5 * k + 5 ≤ L) {c1 s1 : Nat} (hf : c1 ≤ 617796 ∧ s1 ≤ 7242715) (J : kL_J p l e s m args below meth c Q g cL A b a h mb o k 1500 c1 s1) {G V : St2} {M M1 : St1} {f : Nat → Int64} {r v5 : Int32} (hM : fX5_bridgeOf n M (kL_x xs k 1) (kL_x xs k 2) = some (r, M1)) (h6 : M1 6 0 = v5) (h0 : v5 = 0 → f (0 : Int32).toNatClampNeg = r.toInt64) (hRR : RR G V M1) {H : Heap} {locs : List Loc} {ls : Array Slot} (hP : va_P g.1 vwCl (kL_w g cL a h mb o G V M f) H) (hD : va_D A (kL_w g cL a h mb o G V M f)) (hS : va_S A s.heap H locs) (hl : lv_has ls 9 (kL_l b a mb o k)) : W p l e room_1 s m args below meth c H locs c1 s1 Q (F0 m 1120 ls [.int v5]) := by
  obtain ⟨hC, hst, hK4, hG, hNx, hA, hX, hbl, hbA, hL⟩ := id E
  obtain ⟨hx, hb, hml, hown, hts⟩ := id hC
  have hK := kT4_sub hK4
  obtain ⟨h_0, h_1, h_2, h_3, h_4⟩ := kL_in hk hL
  obtain ⟨fs, hfs⟩ := (kL_86 (g := g) (cL := cL) (a := a) (h := h) (b := mb) (o := o) (G := G) (V := V) (M := M) (f := f))
  obtain ⟨fs2, hfs2⟩ := (kL_86 (g := g) (cL := cL) (a := a) (h := h) (b := mb) (o := o) (G := G) (V := V) (M := M1) (f := f))
  refine lv_istore (i := 5) (lv' := (5, .int v5) :: kL_l b a mb o k) hx hb dL_law_1120 hl (by decide) rfl (fun ls hl => ?_)
  refine lv_aload_n hx hb dL_law_1122 rfl (lv_at hl 3 rfl) ?_
  refine lv_aload_n hx hb dL_law_1123 rfl (lv_at hl 1 rfl) ?_
  refine lv_iload hx hb dL_law_1124 (lv_at hl 5 rfl) ?_
  refine lv_iconst (v := (1 : Int32)) hx hb dL_law_1126 (by decide) ?_
  refine lv_iadd hx hb dL_law_1127 ?_
  refine va_sld hx hb hX hbl hbA hS h_1 dL_law_1128 ?_
  refine lv_aload_n hx hb dL_law_1129 rfl (lv_at hl 1 rfl) ?_
  refine lv_iload hx hb dL_law_1130 (lv_at hl 5 rfl) ?_
  refine lv_iconst (v := (2 : Int32)) hx hb dL_law_1132 (by decide) ?_
  refine lv_iadd hx hb dL_law_1133 ?_
  refine va_sld hx hb hX hbl hbA hS h_2 dL_law_1134 ?_
  refine kr_Vi (w' := kL_w g cL a h mb o G V M1 f) (As := [.int (kL_x xs k 1), .int (kL_x xs k 2)]) (rest := []) 86 5 hC (sX5_bridgeOf l g n mb M (kL_x xs k 1) (kL_x xs k 2) (r, M1) hM) (cwV 2 hts gL_law_X5_bridgeOf rfl rfl rfl (by decide +kernel) ⟨Nat.le_of_ble_eq_true rfl, Nat.le_of_ble_eq_true rfl⟩) hK hP hD hS hA kL_iM kL_mM kL_nM rfl kL_sM rfl hfs rfl rfl rfl hl.1 (Nat.le_of_ble_eq_true rfl) dL_law_1135 hf (fun H locs hP hD hS => ?_)
  refine lv_istore (i := 6) (lv' := (6, .int r) :: (5, .int v5) :: kL_l b a mb o k) hx hb dL_law_1138 hl (by decide) rfl (fun ls hl => ?_)
  refine lv_aload_n hx hb dL_law_1140 rfl (lv_at hl 4 rfl) ?_
  refine kr_Vi (w' := kL_w g cL a h mb o G V M1 f) (As := []) (rest := []) 86 5 hC (sX5_thrown l g n mb M1 (M1 6 0) rfl) (cwV 0 hts gL_law_X5_thrown rfl rfl rfl (by decide +kernel) ⟨Nat.le_of_ble_eq_true rfl, Nat.le_of_ble_eq_true rfl⟩) hK hP hD hS hA kL_iM kL_mM kL_nM rfl kL_sM rfl hfs2 rfl rfl rfl hl.1 (Nat.le_of_ble_eq_true rfl) dL_law_1141 hf (fun H locs hP hD hS => ?_)
  refine lv_iload hx hb dL_law_1144 (lv_at hl 1 rfl) ?_
  refine lv_icmp_eq (tgt := 1151) hx hb dL_law_1146 (by decide) (fun _ => ?_) (fun c9 => absurd h6 c9)
  refine lv_iload hx hb dL_law_1151 (lv_at hl 1 rfl) ?_
  have J2 : W p l e room_1 s m args below meth c H locs c1 s1 Q (F0 m 1168 ls []) := lv_goto (tgt := 1500) hx hb dL_law_1168 (by decide) (J G V M1 f H locs ls hP hD hS hRR (lv_sub hl [2, 3, 4, 5, 6] rfl))
  refine lv_if_ne (tgt := 1168) hx hb dL_law_1153 (by decide) (fun _ => J2) (fun c9 => ?_)
  refine lv_aload_n hx hb dL_law_1156 rfl (lv_at hl 5 rfl) ?_
  refine lv_iconst (v := (0 : Int32)) hx hb dL_law_1157 (by decide) ?_
  refine va_lald hx hb hK4 hP 93 3 kL_93 rfl (kk_in 0 1 (by decide) (by decide) rfl) dL_law_1158 ?_
  refine lv_iload hx hb dL_law_1159 (lv_at hl 0 rfl) ?_
  refine lv_i2l (v := r.toInt64) hx hb dL_law_1161 rfl ?_
  refine W.lcmp hx hb dL_law_1162 ?_
  exact lv_if_eq (tgt := 1168) hx hb dL_law_1163 (by decide) (fun _ => J2) (fun c9 => absurd (kL_cm (h0 (by assumption))) c9)
set_option maxHeartbeats 8000000 in
set_option maxRecDepth 100000 in
theorem kB_bridgeOf (E : kL_E p l s m args c g cL A b L xs) (hk : 5 * k + 5 ≤ L) (hn : 300000 ≤ n) {c0 s0 : Nat} (hf : c0 + 1 ≤ 617796 ∧ s0 + 6 ≤ 7242715) (J : kL_J p l e s m args below meth c Q g cL A b a h mb o k 1500 (c0 + 1) (s0 + 6)) {G V : St2} {M : St1} {f : Nat → Int64} (hRR : RR G V M) {H : Heap} {locs : List Loc} {ls : Array Slot} (hP : va_P g.1 vwCl (kL_w g cL a h mb o G V M f) H) (hD : va_D A (kL_w g cL a h mb o G V M f)) (hS : va_S A s.heap H locs) (hl : lv_has ls 9 (kL_l b a mb o k)) : W p l e room_1 s m args below meth c H locs c0 s0 Q (F0 m 1103 ls []) := by
  obtain ⟨hC, hst, hK4, hG, hNx, hA, hX, hbl, hbA, hL⟩ := id E
  obtain ⟨hx, hb, hml, hown, hts⟩ := id hC
  have hK := kT4_sub hK4
  obtain ⟨h_0, h_1, h_2, h_3, h_4⟩ := kL_in hk hL
  refine lv_aload_n hx hb dL_law_1103 rfl (lv_at hl 1 rfl) ?_
  refine lv_aload_n hx hb dL_law_1104 rfl (lv_at hl 0 rfl) ?_
  refine lv_iload hx hb dL_law_1105 (lv_at hl 4 rfl) ?_
  refine lv_iconst (v := (1 : Int32)) hx hb dL_law_1107 (by decide) ?_
  refine lv_iadd hx hb dL_law_1108 ?_
  refine va_sld hx hb hX hbl hbA hS h_1 dL_law_1109 ?_
  refine lv_aload_n hx hb dL_law_1110 rfl (lv_at hl 0 rfl) ?_
  refine lv_iload hx hb dL_law_1111 (lv_at hl 4 rfl) ?_
  refine lv_iconst (v := (2 : Int32)) hx hb dL_law_1113 (by decide) ?_
  refine lv_iadd hx hb dL_law_1114 ?_
  refine va_sld hx hb hX hbl hbA hS h_2 dL_law_1115 ?_
  refine lv_aload_n hx hb dL_law_1116 rfl (lv_at hl 3 rfl) ?_
  rcases st_bridgeOf (n := n) (by omega) hRR (kL_x xs k 1) (kL_x xs k 2) with ⟨t, r, M1, e1, hk9, e2, e3, hR2⟩ | ⟨r, M1, e1, e2, e3, hR2⟩
  · simp only [List.mem_cons, List.not_mem_nil, or_false] at hk9
    rcases hk9 with rfl | rfl
    · refine kr_wrap (w' := kL_w g cL a h mb o G V M f) (As := [.ref (a 0 0), .int (kL_x xs k 1), .int (kL_x xs k 2), .ref o]) (rest := []) hC (sL_bridgeOf_t1 l hst g cL n a G o f (kL_x xs k 1) (kL_x xs k 2) e1) (vx_cwSW 4 hts gL_law_L_bridgeOf rfl rfl rfl (by decide +kernel) ⟨Nat.le_of_ble_eq_true rfl, Nat.le_of_ble_eq_true rfl⟩) hK4 hG hNx hP hD hS hA kL_iG kL_mG kL_nG rfl kL_sG rfl rfl hl.1 (Nat.le_of_ble_eq_true rfl) dL_law_1117 hf (fun H locs hP hD hS => ?_)
      exact kB_bridgeOf_T E hk hf J e2 (e3.trans rfl) (fun h9 => absurd h9 (by decide)) hR2 hP hD hS hl
    · refine kr_wrap (w' := kL_w g cL a h mb o G V M f) (As := [.ref (a 0 0), .int (kL_x xs k 1), .int (kL_x xs k 2), .ref o]) (rest := []) hC (sL_bridgeOf_t2 l hst g cL n a G o f (kL_x xs k 1) (kL_x xs k 2) e1) (vx_cwSW 4 hts gL_law_L_bridgeOf rfl rfl rfl (by decide +kernel) ⟨Nat.le_of_ble_eq_true rfl, Nat.le_of_ble_eq_true rfl⟩) hK4 hG hNx hP hD hS hA kL_iG kL_mG kL_nG rfl kL_sG rfl rfl hl.1 (Nat.le_of_ble_eq_true rfl) dL_law_1117 hf (fun H locs hP hD hS => ?_)
      exact kB_bridgeOf_T E hk hf J e2 (e3.trans rfl) (fun h9 => absurd h9 (by decide)) hR2 hP hD hS hl
  · refine kr_wrap (w' := kL_w g cL a h mb o G V M (vp_updL f (0 : Int32).toNatClampNeg r.toInt64)) (As := [.ref (a 0 0), .int (kL_x xs k 1), .int (kL_x xs k 2), .ref o]) (rest := []) hC (sL_bridgeOf l hst g cL n a G o f (kL_x xs k 1) (kL_x xs k 2) r e1) (vx_cwSW 4 hts gL_law_L_bridgeOf rfl rfl rfl (by decide +kernel) ⟨Nat.le_of_ble_eq_true rfl, Nat.le_of_ble_eq_true rfl⟩) hK4 hG hNx hP hD hS hA kL_iG kL_mG kL_nG rfl kL_sG rfl rfl hl.1 (Nat.le_of_ble_eq_true rfl) dL_law_1117 hf (fun H locs hP hD hS => ?_)
    exact kB_bridgeOf_T E hk hf J e2 (e3.trans rfl) (fun _ => kL_u0) hR2 hP hD hS hl
end KBody
