/-! p29: the calls, of the class alone -/
def RV (V : St2) (c : Nat) (ps : Nat → Nat → Nat) : Prop :=
  c ≤ 6 ∧ V 0 0 0 = nI c ∧ (∃ o : Nat → Nat, (∀ i, i < 6 → V 0 1 i = nI (o i) ∧ o i < 6) ∧ (∀ i j, i < 6 → j < 6 → o i = o j → i = j) ∧ ∀ i, i < c → RP (V (1 + o i)) (ps i)) ∧ (∀ i, i < c → WF (ps i))
/-- a row of ints that goes with it -/
def gst (s : Nat → Nat) (c : Nat) (ps : Nat → Nat → Nat) : St1 := fun j => if j = 3 then fun _ => nI c else if j = 2 then fun q => nI (ps (q / 62) (q % 62)) else fun q => nI (s q)
theorem gst_RH {V : St2} {s : Nat → Nat} {c : Nat} {ps : Nat → Nat → Nat} (h : RV V c ps) : RH V (gst s c ps) c ps := by
  obtain ⟨h1, h2, h3, h4⟩ := h
  refine ⟨h1, h2, rfl, h3, fun i hi => ⟨fun k hk => ?_, h4 i hi⟩⟩
  show nI (ps ((62 * i + k) / 62) ((62 * i + k) % 62)) = _
  rw [(by omega : (62 * i + k) / 62 = i), (by omega : (62 * i + k) % 62 = k)]
theorem gst_RM {s : Nat → Nat} {c : Nat} {ps : Nat → Nat → Nat} : RM (gst s c ps 0) s := fun _ _ => rfl
theorem RH_RV {V : St2} {M : St1} {c : Nat} {ps : Nat → Nat → Nat} (h : RH V M c ps) : RV V c ps := ⟨h.1, h.2.1, h.2.2.2.1, fun i hi => (h.2.2.2.2 i hi).2⟩
def RK (G V : St2) (s : Nat → Nat) (c : Nat) (ps : Nat → Nat → Nat) : Prop := RP (G 1) s ∧ WF s ∧ Zx s ∧ RV V c ps ∧ ∀ i, i < c → Zx (ps i)
def RS (G V : St2) (s : Nat → Nat) (c : Nat) : Prop := ∃ ps, RK G V s c ps
theorem RS_G {G G' V : St2} {s : Nat → Nat} {c : Nat} (h : RS G V s c) (hP : RP (G' 1) s) : RS G' V s c := by
  obtain ⟨ps, -, h⟩ := h
  exact ⟨ps, hP, h⟩
theorem RS_W {G V : St2} {s : Nat → Nat} {c : Nat} (h : RS G V s c) : WF s ∧ Zx s ∧ c ≤ 6 := by
  obtain ⟨ps, -, h1, h2, h3, -⟩ := h
  exact ⟨h1, h2, h3.1⟩
def AK (fc : Option (Nat ⊕ (Int32 × St2 × St2))) (R : Nat → (Nat → Nat) → Prop) : Prop := ∃ r G' V' s' c', fc = some (.inr (nI r, G', V')) ∧ r < 2000000 ∧ RS G' V' s' c' ∧ R r s'
section
variable {n : Nat} {s : Nat → Nat} {V : St2} {c : Nat} {ps : Nat → Nat → Nat}
theorem k_save {P : St1} (hn : 1000 ≤ n) (h : RV V c ps) (hR : RP P s) (hW : WF s) (hZ : Zx s) (hZs : ∀ i, i < c → Zx (ps i)) : ∃ V' c' ps', fX1_save n V P = some V' ∧ RV V' c' ps' ∧ ∀ i, i < c' → Zx (ps' i) := by
  have hc6 := h.1
  by_cases c6 : c = 6
  · subst c6
    have v0 := h.2.1
    obtain ⟨V1, M1, e1, -, hm1, hH1⟩ := q_drop hn (gst_RH (s := s) h)
    obtain ⟨P', V', f', v1, ⟨j, hj, hoj, ec, rfl⟩, -, hH⟩ := q_push hn hH1 (by omega) hR hW (by rw [va_up_ne _ _ (by omega), hm1 0 (by omega)]; exact gst_RM)
    refine ⟨_, _, _, ?_, RH_RV hH, fun i hi => ?_⟩
    · unfold fX1_save
      simp (disch := first | omega | assumption) only [kk_nm, Option.bind_some, kl_0, kl_1, kl_2, kl_3, kl_4, kl_5, kl_6, kl_7, kl_8, kl_9, kl_10, kl_12, kl_14, kl_15, kl_16, kl_20, kl_31, kl_33, kl_48, kl_49, kl_50, kl_57, kl_59, kl_60, kl_62, kl_63, kl_98, kl_99, kl_103, kl_104, kl_126, kl_144, kl_310, kl_372, kl_100000, kl_1000000, kl_neg, kl_mm, kl_am, nI_add, kl_mul, kl_sub, kl_le, kl_lt, kl_eq, kl_eM, kl_Me, kl_ltM, kl_leM, kl_ck, kl_cj, kl_cb, kl_bit, nI_clamp, va_up_self, va_up_ne, pk_us, pk_un, if_pos, if_neg, eq_self, and_true, true_and, and_false, false_and, if_true, if_false, Bool.false_eq_true, v0, e1, v1, hoj, ec]
    · by_cases e : i = 5
      · rw [if_pos e]; exact hZ
      · rw [if_neg e]; exact hZs _ (by omega)
  · have v0 := h.2.1
    obtain ⟨P', V', f', v1, ⟨j, hj, hoj, ec, rfl⟩, -, hH⟩ := q_push hn (gst_RH (s := s) h) (by omega) hR hW gst_RM
    refine ⟨_, _, _, ?_, RH_RV hH, fun i hi => ?_⟩
    · unfold fX1_save
      simp (disch := first | omega | assumption) only [kk_nm, Option.bind_some, kl_0, kl_1, kl_2, kl_3, kl_4, kl_5, kl_6, kl_7, kl_8, kl_9, kl_10, kl_12, kl_14, kl_15, kl_16, kl_20, kl_31, kl_33, kl_48, kl_49, kl_50, kl_57, kl_59, kl_60, kl_62, kl_63, kl_98, kl_99, kl_103, kl_104, kl_126, kl_144, kl_310, kl_372, kl_100000, kl_1000000, kl_neg, kl_mm, kl_am, nI_add, kl_mul, kl_sub, kl_le, kl_lt, kl_eq, kl_eM, kl_Me, kl_ltM, kl_leM, kl_ck, kl_cj, kl_cb, kl_bit, nI_clamp, va_up_self, va_up_ne, pk_us, pk_un, if_pos, if_neg, eq_self, and_true, true_and, and_false, false_and, if_true, if_false, Bool.false_eq_true, v0, hoj, ec]
    · by_cases e : i = c
      · rw [if_pos e]; exact hZ
      · rw [if_neg e]; exact hZs _ (by omega)
theorem k_restore {P : St1} (hn : 1000 ≤ n) (h : RV V c ps) (hc : 0 < c) : ∃ V' P', fX1_restoreLatest n V P = some (V', P') ∧ V' 0 0 0 = nI (c - 1) ∧ RP P' (ps (c - 1)) ∧ WF (ps (c - 1)) ∧ RV V' (c - 1) ps := by
  obtain ⟨V', P', f', e1, e2, h1, h2, -, -, h3⟩ := q_restore (P := P) hn (gst_RH (s := ps 0) h) hc
  exact ⟨V', P', e1, e2, h1, h2, RH_RV h3⟩
end
section
variable {n : Nat} {G V : St2} {s : Nat → Nat} {c : Nat}
theorem k_nf {j : Nat} (hR : RP (G 1) s) (hW : WF s) (hj : j < s 4) : fX4_needFloat n G (nI j) = some (.inr ()) := by
  have w1 := hW.2.1
  rw [q4_needFloat hR hW (by omega), if_pos hj]
theorem k_nb {j : Nat} (hR : RP (G 1) s) (hW : WF s) (hj : j < s 5) : fX4_needBridge n G (nI j) = some (.inr ()) := by
  have w1 := hW.2.1
  rw [q4_needBridge hR hW (by omega), if_pos hj]
theorem a_put {j a b m : Nat} (hn : 1000 ≤ n) (h : RS G V s c) (hj : j ≤ s 4) (ha : a ≤ 3) (hb : 10 ≤ b) (hb2 : b ≤ 99) (hm : m ≤ 15) (hm1 : a ≠ 1 → m = 0) : fX4_put n G V (nI j) (nI a) (nI b) (nI m) = some (.inl 3) ∨ AK (fX4_put n G V (nI j) (nI a) (nI b) (nI m)) (fun _ _ => True) := by
  obtain ⟨ps, hP, hW, hZ, hV, hZs⟩ := h
  have w1 := hW.2.1
  have h0 := hP.1
  have k1 : fX4_isFloat n (nI a) (nI b) (nI m) = some (nI 1) := by
    by_cases a1 : a = 1
    · subst a1
      unfold fX4_isFloat fX4_isHeight
      simp (disch := first | omega | assumption) only [kk_nm, Option.bind_some, kl_0, kl_1, kl_2, kl_3, kl_4, kl_5, kl_6, kl_7, kl_8, kl_9, kl_10, kl_12, kl_14, kl_15, kl_16, kl_20, kl_31, kl_33, kl_48, kl_49, kl_50, kl_57, kl_59, kl_60, kl_62, kl_63, kl_98, kl_99, kl_103, kl_104, kl_126, kl_144, kl_310, kl_372, kl_100000, kl_1000000, kl_neg, kl_mm, kl_am, nI_add, kl_mul, kl_sub, kl_le, kl_lt, kl_eq, kl_eM, kl_Me, kl_ltM, kl_leM, kl_ck, kl_cj, kl_cb, kl_bit, nI_clamp, va_up_self, va_up_ne, pk_us, pk_un, if_pos, if_neg, eq_self, and_true, true_and, and_false, false_and, if_true, if_false, Bool.false_eq_true]
    · have m0 := hm1 a1
      subst m0
      unfold fX4_isFloat fX4_isHeight
      simp (disch := first | omega | assumption) only [kk_nm, Option.bind_some, kl_0, kl_1, kl_2, kl_3, kl_4, kl_5, kl_6, kl_7, kl_8, kl_9, kl_10, kl_12, kl_14, kl_15, kl_16, kl_20, kl_31, kl_33, kl_48, kl_49, kl_50, kl_57, kl_59, kl_60, kl_62, kl_63, kl_98, kl_99, kl_103, kl_104, kl_126, kl_144, kl_310, kl_372, kl_100000, kl_1000000, kl_neg, kl_mm, kl_am, nI_add, kl_mul, kl_sub, kl_le, kl_lt, kl_eq, kl_eM, kl_Me, kl_ltM, kl_leM, kl_ck, kl_cj, kl_cb, kl_bit, nI_clamp, va_up_self, va_up_ne, pk_us, pk_un, if_pos, if_neg, eq_self, and_true, true_and, and_false, false_and, if_true, if_false, Bool.false_eq_true, a1]
  by_cases c12 : s 4 = 12
  · left
    unfold fX4_put
    simp (disch := first | omega | assumption) only [kk_nm, Option.bind_some, kl_0, kl_1, kl_2, kl_3, kl_4, kl_5, kl_6, kl_7, kl_8, kl_9, kl_10, kl_12, kl_14, kl_15, kl_16, kl_20, kl_31, kl_33, kl_48, kl_49, kl_50, kl_57, kl_59, kl_60, kl_62, kl_63, kl_98, kl_99, kl_103, kl_104, kl_126, kl_144, kl_310, kl_372, kl_100000, kl_1000000, kl_neg, kl_mm, kl_am, nI_add, kl_mul, kl_sub, kl_le, kl_lt, kl_eq, kl_eM, kl_Me, kl_ltM, kl_leM, kl_ck, kl_cj, kl_cb, kl_bit, nI_clamp, va_up_self, va_up_ne, pk_us, pk_un, if_pos, if_neg, eq_self, and_true, true_and, and_false, false_and, if_true, if_false, Bool.false_eq_true, h0, k1]
  · right
    obtain ⟨V', c', ps', e3, hV', hZs'⟩ := k_save (P := G 1) hn hV hP hW hZ hZs
    obtain ⟨P1, P2, e5, hp1, e6, hP2⟩ := q2_addShift (v := j) (a := a) (b := b) (c := m) hn hP hW (by omega) hj ha hb hb2 hm
    have b1 := hP2.1
    rw [pT_4] at b1
    have es : s 4 + 1 - 1 = s 4 := by omega
    refine ⟨s 4 + 1, va_up (va_up G 1 P1) 1 P2, V', pT j a b m 0 s, c', ?_, by omega, ⟨ps', by rw [va_up_self]; exact hP2, WF_pT hW (by omega) ha hb hb2 hm (by omega) hj, Zx_pT hW hj hm1 hZ, hV', hZs'⟩, trivial⟩
    unfold fX4_put
    simp (disch := first | omega | assumption) only [kk_nm, Option.bind_some, kl_0, kl_1, kl_2, kl_3, kl_4, kl_5, kl_6, kl_7, kl_8, kl_9, kl_10, kl_12, kl_14, kl_15, kl_16, kl_20, kl_31, kl_33, kl_48, kl_49, kl_50, kl_57, kl_59, kl_60, kl_62, kl_63, kl_98, kl_99, kl_103, kl_104, kl_126, kl_144, kl_310, kl_372, kl_100000, kl_1000000, kl_neg, kl_mm, kl_am, nI_add, kl_mul, kl_sub, kl_le, kl_lt, kl_eq, kl_eM, kl_Me, kl_ltM, kl_leM, kl_ck, kl_cj, kl_cb, kl_bit, nI_clamp, va_up_self, va_up_ne, pk_us, pk_un, if_pos, if_neg, eq_self, and_true, true_and, and_false, false_and, if_true, if_false, Bool.false_eq_true, h0, k1, e3, e5, hp1, es, e6, b1]
theorem a_remove {j : Nat} (hn : 1000 ≤ n) (h : RS G V s c) (hj : j < s 4) : AK (fX4_remove n G V (nI j)) (fun _ _ => True) := by
  obtain ⟨ps, hP, hW, hZ, hV, hZs⟩ := h
  have w1 := hW.2.1
  have e1 := k_nf (n := n) hP hW hj
  obtain ⟨V', c', ps', e3, hV', hZs'⟩ := k_save (P := G 1) hn hV hP hW hZ hZs
  obtain ⟨P', e5, hP'⟩ := q2_takeAway hn hP hW hj
  have b1 := hP'.1
  rw [gO_4] at b1
  refine ⟨s 4 - 1, va_up G 1 P', V', gO j s, c', ?_, by omega, ⟨ps', by rw [va_up_self]; exact hP', WF_gO hW, Zx_gO hW hj hZ, hV', hZs'⟩, trivial⟩
  unfold fX4_remove
  simp (disch := first | omega | assumption) only [kk_nm, Option.bind_some, kl_0, kl_1, kl_2, kl_3, kl_4, kl_5, kl_6, kl_7, kl_8, kl_9, kl_10, kl_12, kl_14, kl_15, kl_16, kl_20, kl_31, kl_33, kl_48, kl_49, kl_50, kl_57, kl_59, kl_60, kl_62, kl_63, kl_98, kl_99, kl_103, kl_104, kl_126, kl_144, kl_310, kl_372, kl_100000, kl_1000000, kl_neg, kl_mm, kl_am, nI_add, kl_mul, kl_sub, kl_le, kl_lt, kl_eq, kl_eM, kl_Me, kl_ltM, kl_leM, kl_ck, kl_cj, kl_cb, kl_bit, nI_clamp, va_up_self, va_up_ne, pk_us, pk_un, if_pos, if_neg, eq_self, and_true, true_and, and_false, false_and, if_true, if_false, Bool.false_eq_true, e1, kk_trr, e3, e5, b1]
theorem a_move {j k : Nat} (hn : 1000 ≤ n) (h : RS G V s c) (hj : j < s 4) (hk : k < s 4) : AK (fX4_move n G V (nI j) (nI k)) (fun r s' => t_all s' = r) := by
  obtain ⟨ps, hP, hW, hZ, hV, hZs⟩ := h
  have w1 := hW.2.1
  have e1 := k_nf (n := n) hP hW hj
  have g1 := k_nf (n := n) hP hW hk
  obtain ⟨V', c', ps', e3, hV', hZs'⟩ := k_save (P := G 1) hn hV hP hW hZ hZs
  obtain ⟨P', e5, hP'⟩ := q2_shift hn hP hW hj hk
  have hWm : WF (pS (mv j k) s) := WF_pS (fun _ hq => mv_lt hj hk hq) hW
  have b1 := q2_allTrouble hn hP' hWm
  have b2 := t_all_le _ hWm.2.1.1
  refine ⟨t_all (pS (mv j k) s), va_up G 1 P', V', pS (mv j k) s, c', ?_, by omega, ⟨ps', by rw [va_up_self]; exact hP', hWm, Zx_pS (fun _ hq => mv_lt hj hk hq) hW hZ, hV', hZs'⟩, rfl⟩
  unfold fX4_move
  simp (disch := first | omega | assumption) only [kk_nm, Option.bind_some, kl_0, kl_1, kl_2, kl_3, kl_4, kl_5, kl_6, kl_7, kl_8, kl_9, kl_10, kl_12, kl_14, kl_15, kl_16, kl_20, kl_31, kl_33, kl_48, kl_49, kl_50, kl_57, kl_59, kl_60, kl_62, kl_63, kl_98, kl_99, kl_103, kl_104, kl_126, kl_144, kl_310, kl_372, kl_100000, kl_1000000, kl_neg, kl_mm, kl_am, nI_add, kl_mul, kl_sub, kl_le, kl_lt, kl_eq, kl_eM, kl_Me, kl_ltM, kl_leM, kl_ck, kl_cj, kl_cb, kl_bit, nI_clamp, va_up_self, va_up_ne, pk_us, pk_un, if_pos, if_neg, eq_self, and_true, true_and, and_false, false_and, if_true, if_false, Bool.false_eq_true, e1, g1, kk_trr, e3, e5, b1]
theorem a_exchange {j k : Nat} (hn : 1000 ≤ n) (h : RS G V s c) (hj : j < s 4) (hk : k < s 4) : AK (fX4_exchange n G V (nI j) (nI k)) (fun r s' => t_all s' = r) := by
  obtain ⟨ps, hP, hW, hZ, hV, hZs⟩ := h
  have w1 := hW.2.1
  have e1 := k_nf (n := n) hP hW hj
  have g1 := k_nf (n := n) hP hW hk
  obtain ⟨V', c', ps', e3, hV', hZs'⟩ := k_save (P := G 1) hn hV hP hW hZ hZs
  obtain ⟨P', e5, hP'⟩ := q2_swapR (n := n) hP hW hj hk
  have hWm : WF (pS (sw j k) s) := WF_pS (fun _ hq => sw_lt hj hk hq) hW
  have b1 := q2_allTrouble hn hP' hWm
  have b2 := t_all_le _ hWm.2.1.1
  refine ⟨t_all (pS (sw j k) s), va_up G 1 P', V', pS (sw j k) s, c', ?_, by omega, ⟨ps', by rw [va_up_self]; exact hP', hWm, Zx_pS (fun _ hq => sw_lt hj hk hq) hW hZ, hV', hZs'⟩, rfl⟩
  unfold fX4_exchange
  simp (disch := first | omega | assumption) only [kk_nm, Option.bind_some, kl_0, kl_1, kl_2, kl_3, kl_4, kl_5, kl_6, kl_7, kl_8, kl_9, kl_10, kl_12, kl_14, kl_15, kl_16, kl_20, kl_31, kl_33, kl_48, kl_49, kl_50, kl_57, kl_59, kl_60, kl_62, kl_63, kl_98, kl_99, kl_103, kl_104, kl_126, kl_144, kl_310, kl_372, kl_100000, kl_1000000, kl_neg, kl_mm, kl_am, nI_add, kl_mul, kl_sub, kl_le, kl_lt, kl_eq, kl_eM, kl_Me, kl_ltM, kl_leM, kl_ck, kl_cj, kl_cb, kl_bit, nI_clamp, va_up_self, va_up_ne, pk_us, pk_un, if_pos, if_neg, eq_self, and_true, true_and, and_false, false_and, if_true, if_false, Bool.false_eq_true, e1, g1, kk_trr, e3, e5, b1]
theorem a_fold {j x : Nat} (hx : x ≤ 1) (hn : 1000 ≤ n) (h : RS G V s c) (hj : j < s 4) : AK (fX4_fold n G V (nI j) (nI x)) (fun _ _ => True) := by
  obtain ⟨ps, hP, hW, hZ, hV, hZs⟩ := h
  have w1 := hW.2.1
  have e1 := k_nf (n := n) hP hW hj
  obtain ⟨V', c', ps', e3, hV', hZs'⟩ := k_save (P := G 1) hn hV hP hW hZ hZs
  have hP' := RP_fS (u := j) (x := x) hP hW
  have hWm : WF (fS j x s) := WF_fS hW hx
  have l4 : j < fS j x s 4 := by rw [fS_lo (by omega)]; exact hj
  have b1 := q2_countedHeight (n := n) hP' hWm l4
  have b2 := t_hgt_le hWm l4
  refine ⟨t_hgt (fS j x s) j, va_up G 1 (va_up (G 1) 4 (upd (G 1 4) j (nI x))), V', fS j x s, c', ?_, by omega, ⟨ps', by rw [va_up_self]; exact hP', hWm, Zx_fS hW hZ, hV', hZs'⟩, trivial⟩
  unfold fX4_fold
  simp (disch := first | omega | assumption) only [kk_nm, Option.bind_some, kl_0, kl_1, kl_2, kl_3, kl_4, kl_5, kl_6, kl_7, kl_8, kl_9, kl_10, kl_12, kl_14, kl_15, kl_16, kl_20, kl_31, kl_33, kl_48, kl_49, kl_50, kl_57, kl_59, kl_60, kl_62, kl_63, kl_98, kl_99, kl_103, kl_104, kl_126, kl_144, kl_310, kl_372, kl_100000, kl_1000000, kl_neg, kl_mm, kl_am, nI_add, kl_mul, kl_sub, kl_le, kl_lt, kl_eq, kl_eM, kl_Me, kl_ltM, kl_leM, kl_ck, kl_cj, kl_cb, kl_bit, nI_clamp, va_up_self, va_up_ne, pk_us, pk_un, if_pos, if_neg, eq_self, and_true, true_and, and_false, false_and, if_true, if_false, Bool.false_eq_true, e1, kk_trr, e3, b1]
theorem a_bridge {d b : Nat} (hn : 1000 ≤ n) (h : RS G V s c) (hd : 1 ≤ d) (hd2 : d ≤ 50) (hb : 10 ≤ b) (hb2 : b ≤ 99) : fX4_bridge n G V (nI d) (nI b) = some (.inl 3) ∨ AK (fX4_bridge n G V (nI d) (nI b)) (fun _ _ => True) := by
  obtain ⟨ps, hP, hW, hZ, hV, hZs⟩ := h
  have w1 := hW.2.1
  have h5 := hP.2.1
  by_cases c4 : s 5 = 4
  · left
    unfold fX4_bridge fX4_isHeight
    simp (disch := first | omega | assumption) only [kk_nm, Option.bind_some, kl_0, kl_1, kl_2, kl_3, kl_4, kl_5, kl_6, kl_7, kl_8, kl_9, kl_10, kl_12, kl_14, kl_15, kl_16, kl_20, kl_31, kl_33, kl_48, kl_49, kl_50, kl_57, kl_59, kl_60, kl_62, kl_63, kl_98, kl_99, kl_103, kl_104, kl_126, kl_144, kl_310, kl_372, kl_100000, kl_1000000, kl_neg, kl_mm, kl_am, nI_add, kl_mul, kl_sub, kl_le, kl_lt, kl_eq, kl_eM, kl_Me, kl_ltM, kl_leM, kl_ck, kl_cj, kl_cb, kl_bit, nI_clamp, va_up_self, va_up_ne, pk_us, pk_un, if_pos, if_neg, eq_self, and_true, true_and, and_false, false_and, if_true, if_false, Bool.false_eq_true, h5]
  · have k1 := q2_hasBridgeAt (d := d) (by omega) hn hP hW
    have k3 := t_hb_le s d (s 5)
    by_cases k0 : t_hb s d (s 5) = 0
    · right
      rw [k0] at k1
      obtain ⟨V', c', ps', e3, hV', hZs'⟩ := k_save (P := G 1) hn hV hP hW hZ hZs
      obtain ⟨P', e5, hP'⟩ := q2_build (d := d) (c := b) hn hP hW (by omega) (by omega)
      have bi := (bix_spec s d (s 5)).1
      have hWb := WF_bS (c := b) hW (by omega) hd hd2 hb hb2
      have hZb := Zx_bS (c := b) hW (by omega) k0 hZ
      generalize bix s d (s 5) = i at e5 hP' bi hWb hZb
      refine ⟨i, va_up G 1 P', V', bS i d b s, c', ?_, by omega, ⟨ps', by rw [va_up_self]; exact hP', hWb, hZb, hV', hZs'⟩, trivial⟩
      unfold fX4_bridge fX4_isHeight
      simp (disch := first | omega | assumption) only [kk_nm, Option.bind_some, kl_0, kl_1, kl_2, kl_3, kl_4, kl_5, kl_6, kl_7, kl_8, kl_9, kl_10, kl_12, kl_14, kl_15, kl_16, kl_20, kl_31, kl_33, kl_48, kl_49, kl_50, kl_57, kl_59, kl_60, kl_62, kl_63, kl_98, kl_99, kl_103, kl_104, kl_126, kl_144, kl_310, kl_372, kl_100000, kl_1000000, kl_neg, kl_mm, kl_am, nI_add, kl_mul, kl_sub, kl_le, kl_lt, kl_eq, kl_eM, kl_Me, kl_ltM, kl_leM, kl_ck, kl_cj, kl_cb, kl_bit, nI_clamp, va_up_self, va_up_ne, pk_us, pk_un, if_pos, if_neg, eq_self, and_true, true_and, and_false, false_and, if_true, if_false, Bool.false_eq_true, h5, k1, e3, e5]
    · left
      have k4 : t_hb s d (s 5) = 1 := by omega
      rw [k4] at k1
      unfold fX4_bridge fX4_isHeight
      simp (disch := first | omega | assumption) only [kk_nm, Option.bind_some, kl_0, kl_1, kl_2, kl_3, kl_4, kl_5, kl_6, kl_7, kl_8, kl_9, kl_10, kl_12, kl_14, kl_15, kl_16, kl_20, kl_31, kl_33, kl_48, kl_49, kl_50, kl_57, kl_59, kl_60, kl_62, kl_63, kl_98, kl_99, kl_103, kl_104, kl_126, kl_144, kl_310, kl_372, kl_100000, kl_1000000, kl_neg, kl_mm, kl_am, nI_add, kl_mul, kl_sub, kl_le, kl_lt, kl_eq, kl_eM, kl_Me, kl_ltM, kl_leM, kl_ck, kl_cj, kl_cb, kl_bit, nI_clamp, va_up_self, va_up_ne, pk_us, pk_un, if_pos, if_neg, eq_self, and_true, true_and, and_false, false_and, if_true, if_false, Bool.false_eq_true, h5, k1]
theorem a_unbridge {j : Nat} (hn : 1000 ≤ n) (h : RS G V s c) (hj : j < s 5) : AK (fX4_unbridge n G V (nI j)) (fun _ _ => True) := by
  obtain ⟨ps, hP, hW, hZ, hV, hZs⟩ := h
  have w1 := hW.2.1
  have w3 := hW.2.2.2.1 j hj
  have e1 := k_nb (n := n) hP hW hj
  obtain ⟨V', c', ps', e3, hV', hZs'⟩ := k_save (P := G 1) hn hV hP hW hZ hZs
  obtain ⟨P', e5, hP'⟩ := q2_pullDown hn hP hW hj
  have hPj := (hP.2.2.2.1 j hj).1
  refine ⟨s (6 + 2 * j), va_up G 1 P', V', uS j s, c', ?_, by omega, ⟨ps', by rw [va_up_self]; exact hP', WF_uS hW hj, Zx_uS hW hj hZ, hV', hZs'⟩, trivial⟩
  unfold fX4_unbridge
  simp (disch := first | omega | assumption) only [kk_nm, Option.bind_some, kl_0, kl_1, kl_2, kl_3, kl_4, kl_5, kl_6, kl_7, kl_8, kl_9, kl_10, kl_12, kl_14, kl_15, kl_16, kl_20, kl_31, kl_33, kl_48, kl_49, kl_50, kl_57, kl_59, kl_60, kl_62, kl_63, kl_98, kl_99, kl_103, kl_104, kl_126, kl_144, kl_310, kl_372, kl_100000, kl_1000000, kl_neg, kl_mm, kl_am, nI_add, kl_mul, kl_sub, kl_le, kl_lt, kl_eq, kl_eM, kl_Me, kl_ltM, kl_leM, kl_ck, kl_cj, kl_cb, kl_bit, nI_clamp, va_up_self, va_up_ne, pk_us, pk_un, if_pos, if_neg, eq_self, and_true, true_and, and_false, false_and, if_true, if_false, Bool.false_eq_true, e1, kk_trr, e3, e5, hPj]
theorem a_undo (hn : 1000 ≤ n) (h : RS G V s c) : fX4_undo n G V = some (.inl 3) ∨ AK (fX4_undo n G V) (fun _ _ => True) := by
  obtain ⟨ps, hP, hW, hZ, hV, hZs⟩ := h
  have hc6 := hV.1
  have v0 := hV.2.1
  by_cases c0 : c = 0
  · left
    unfold fX4_undo
    simp (disch := first | omega | assumption) only [kk_nm, Option.bind_some, kl_0, kl_1, kl_2, kl_3, kl_4, kl_5, kl_6, kl_7, kl_8, kl_9, kl_10, kl_12, kl_14, kl_15, kl_16, kl_20, kl_31, kl_33, kl_48, kl_49, kl_50, kl_57, kl_59, kl_60, kl_62, kl_63, kl_98, kl_99, kl_103, kl_104, kl_126, kl_144, kl_310, kl_372, kl_100000, kl_1000000, kl_neg, kl_mm, kl_am, nI_add, kl_mul, kl_sub, kl_le, kl_lt, kl_eq, kl_eM, kl_Me, kl_ltM, kl_leM, kl_ck, kl_cj, kl_cb, kl_bit, nI_clamp, va_up_self, va_up_ne, pk_us, pk_un, if_pos, if_neg, eq_self, and_true, true_and, and_false, false_and, if_true, if_false, Bool.false_eq_true, v0]
  · right
    obtain ⟨V', P', e1, hv', hP', hW', hV'⟩ := k_restore (P := G 1) hn hV (by omega)
    refine ⟨c - 1, va_up G 1 P', V', ps (c - 1), c - 1, ?_, by omega, ⟨ps, by rw [va_up_self]; exact hP', hW', hZs _ (by omega), hV', fun i hi => hZs i (by omega)⟩, trivial⟩
    unfold fX4_undo
    simp (disch := first | omega | assumption) only [kk_nm, Option.bind_some, kl_0, kl_1, kl_2, kl_3, kl_4, kl_5, kl_6, kl_7, kl_8, kl_9, kl_10, kl_12, kl_14, kl_15, kl_16, kl_20, kl_31, kl_33, kl_48, kl_49, kl_50, kl_57, kl_59, kl_60, kl_62, kl_63, kl_98, kl_99, kl_103, kl_104, kl_126, kl_144, kl_310, kl_372, kl_100000, kl_1000000, kl_neg, kl_mm, kl_am, nI_add, kl_mul, kl_sub, kl_le, kl_lt, kl_eq, kl_eM, kl_Me, kl_ltM, kl_leM, kl_ck, kl_cj, kl_cb, kl_bit, nI_clamp, va_up_self, va_up_ne, pk_us, pk_un, if_pos, if_neg, eq_self, and_true, true_and, and_false, false_and, if_true, if_false, Bool.false_eq_true, v0, e1, hv']
end
def sS (j x : Nat) (s : Nat → Nat) : Nat → Nat := fun k => if k = j then x else s k
theorem WF_sS {s : Nat → Nat} {j x : Nat} (hW : WF s) (hj : j < 4) (h0 : j = 0 → 1 ≤ x ∧ x ≤ 6) (h12 : j = 1 ∨ j = 2 → 1 ≤ x ∧ x ≤ 9) (h3 : j = 3 → x ≤ 20) : WF (sS j x s) := by
  have hi : ∀ k, ¬ k = j → sS j x s k = s k := fun k h => by unfold sS; rw [if_neg h]
  have hs : sS j x s j = x := by unfold sS; rw [if_pos rfl]
  obtain ⟨w0, w1, w2, w3, w4⟩ := hW
  unfold WF
  rw [hi 4 (by omega), hi 5 (by omega)]
  refine ⟨?_, w1, fun p hp => ?_, fun b hb => ?_, fun b hb => ?_⟩
  · rcases (by omega : j = 0 ∨ j = 1 ∨ j = 2 ∨ j = 3) with rfl | rfl | rfl | rfl
    · rw [hs, hi 1 (by omega), hi 2 (by omega), hi 3 (by omega)]; omega
    · rw [hs, hi 0 (by omega), hi 2 (by omega), hi 3 (by omega)]; omega
    · rw [hs, hi 0 (by omega), hi 1 (by omega), hi 3 (by omega)]; omega
    · rw [hs, hi 0 (by omega), hi 1 (by omega), hi 2 (by omega)]; omega
  · rw [hi _ (by omega), hi _ (by omega), hi _ (by omega), hi _ (by omega)]
    exact w2 p hp
  · rw [hi _ (by omega), hi _ (by omega)]
    exact w3 b hb
  · rw [hi _ (by omega), hi _ (by omega)]
    exact w4 b hb
theorem RP_sS {P : St1} {s : Nat → Nat} {j x : Nat} (hR : RP P s) (hj : j < 4) : RP (va_up P 8 (upd (P 8) j (nI x))) (sS j x s) := by
  have hi : ∀ k, ¬ k = j → sS j x s k = s k := fun k h => by unfold sS; rw [if_neg h]
  have hs : sS j x s j = x := by unfold sS; rw [if_pos rfl]
  obtain ⟨g0, g5, gf, gb, gs⟩ := hR
  unfold RP
  rw [hi 4 (by omega), hi 5 (by omega)]
  simp (disch := omega) only [va_up_ne, va_up_self]
  refine ⟨g0, g5, fun p hp => ?_, fun b hb => ?_, fun i h4 => ?_⟩
  · rw [hi _ (by omega), hi _ (by omega), hi _ (by omega), hi _ (by omega)]
    exact gf p hp
  · rw [hi _ (by omega), hi _ (by omega)]
    exact gb b hb
  · by_cases e : i = j
    · rw [e, pk_us, hs]
    · rw [pk_un e, hi i e]; exact gs i h4
theorem Zx_sS {s : Nat → Nat} {j x : Nat} (hj : j < 4) (hZ : Zx s) : Zx (sS j x s) := by
  have hi : ∀ k, ¬ k = j → sS j x s k = s k := fun k h => by unfold sS; rw [if_neg h]
  unfold Zx
  rw [hi 4 (by omega), hi 5 (by omega)]
  refine ⟨fun p hp hk => ?_, fun b hb => ?_⟩
  · rw [hi _ (by omega)] at hk
    rw [hi _ (by omega)]
    exact hZ.1 p hp hk
  · rw [hi _ (by omega), hi _ (by omega)]
    exact hZ.2 b hb
section
variable {n : Nat} {G V : St2} {s : Nat → Nat} {c : Nat}
theorem a_set {j x : Nat} (hn : 1000 ≤ n) (h : RS G V s c) (hj : j < 4) (hx : 1 ≤ x) (hx2 : x ≤ 6) : AK (fX4_set n G V (nI j) (nI x)) (fun _ _ => True) := by
  obtain ⟨ps, hP, hW, hZ, hV, hZs⟩ := h
  have hS := hP.2.2.2.2
  have w0 := hW.1
  obtain ⟨V', c', ps', e3, hV', hZs'⟩ := k_save (P := G 1) hn hV hP hW hZ hZs
  obtain ⟨lo, hi, elo, ehi, hlo, hhi, hhi2⟩ : ∃ lo hi, k_lo j = nI lo ∧ k_hi j = nI hi ∧ lo ≤ 1 ∧ 6 ≤ hi ∧ hi ≤ 20 := by
    rcases (by omega : j = 0 ∨ j = 1 ∨ j = 2 ∨ j = 3) with rfl | rfl | rfl | rfl
    · exact ⟨1, 6, rfl, rfl, by omega, by omega, by omega⟩
    · exact ⟨1, 9, rfl, rfl, by omega, by omega, by omega⟩
    · exact ⟨1, 9, rfl, rfl, by omega, by omega, by omega⟩
    · exact ⟨0, 20, rfl, rfl, by omega, by omega, by omega⟩
  have hsj : s j ≤ 20 := by
    rcases (by omega : j = 0 ∨ j = 1 ∨ j = 2 ∨ j = 3) with rfl | rfl | rfl | rfl <;> omega
  refine ⟨s j, va_up G 1 (va_up (G 1) 8 (upd (G 1 8) j (nI x))), V', sS j x s, c', ?_, by omega, ⟨ps', by rw [va_up_self]; exact RP_sS hP hj, WF_sS hW hj (fun _ => by omega) (fun _ => by omega) (fun _ => by omega), Zx_sS hj hZ, hV', hZs'⟩, trivial⟩
  unfold fX4_set fX4_needSetting
  simp (disch := first | omega | assumption) only [kk_nm, Option.bind_some, kl_0, kl_1, kl_2, kl_3, kl_4, kl_5, kl_6, kl_7, kl_8, kl_9, kl_10, kl_12, kl_14, kl_15, kl_16, kl_20, kl_31, kl_33, kl_48, kl_49, kl_50, kl_57, kl_59, kl_60, kl_62, kl_63, kl_98, kl_99, kl_103, kl_104, kl_126, kl_144, kl_310, kl_372, kl_100000, kl_1000000, kl_neg, kl_mm, kl_am, nI_add, kl_mul, kl_sub, kl_le, kl_lt, kl_eq, kl_eM, kl_Me, kl_ltM, kl_leM, kl_ck, kl_cj, kl_cb, kl_bit, nI_clamp, va_up_self, va_up_ne, pk_us, pk_un, if_pos, if_neg, eq_self, and_true, true_and, and_false, false_and, if_true, if_false, Bool.false_eq_true, kk_trr, elo, ehi, e3, hS]
theorem k_arr (hn : 1000 ≤ n) : ∀ (N : Nat) (s : Nat → Nat) (c : Nat) (G : St2) (f : Nat), mS s < N → c + mS s < 1000000 → mS s < f → RP (G 1) s → WF s → Zx s →
    ∃ r s' G', kk_it (fun (st : Int32 × St2) => fX4_arrange_b13 n st.1 st.2) f (nI c, G) = some (nI r, G') ∧ RP (G' 1) s' ∧ WF s' ∧ Zx s' ∧ kY s' ≤ kY s ∧ r < 1000000 := by
  intro N
  induction N with
  | zero => intro s c G f h; omega
  | succ N ih =>
    intro s c G f hN hc hf hR hW hZ
    obtain ⟨f, rfl⟩ : ∃ g, f = g + 1 := ⟨f - 1, by omega⟩
    obtain ⟨G1, e1, hR1, -⟩ := q4_doBestExchange hn hR hW
    rcases xs_ok s 144 (by omega) with ⟨h1, -⟩ | ⟨i, j, hij, hj, hj12, h1, h2, h3⟩
    · rw [if_pos h1] at e1 hR1
      refine ⟨c, s, G1, kl_stepR ?_, hR1, hW, hZ, Nat.le_refl _, by omega⟩
      show fX4_arrange_b13 n (nI c) G = _
      unfold fX4_arrange_b13
      simp (disch := first | omega | assumption) only [kk_nm, Option.bind_some, kl_0, kl_1, kl_2, kl_3, kl_4, kl_5, kl_6, kl_7, kl_8, kl_9, kl_10, kl_12, kl_14, kl_15, kl_16, kl_20, kl_31, kl_33, kl_48, kl_49, kl_50, kl_57, kl_59, kl_60, kl_62, kl_63, kl_98, kl_99, kl_103, kl_104, kl_126, kl_144, kl_310, kl_372, kl_100000, kl_1000000, kl_neg, kl_mm, kl_am, nI_add, kl_mul, kl_sub, kl_le, kl_lt, kl_eq, kl_eM, kl_Me, kl_ltM, kl_leM, kl_ck, kl_cj, kl_cb, kl_bit, nI_clamp, va_up_self, va_up_ne, pk_us, pk_un, if_pos, if_neg, eq_self, and_true, true_and, and_false, false_and, if_true, if_false, Bool.false_eq_true, e1]
    · have d1 : ((xs s 144).1 - 1) / 16 = i := by omega
      have d2 : ((xs s 144).1 - 1) % 16 = j := by omega
      rw [if_neg (by omega)] at e1 hR1
      rw [d1, d2] at hR1
      have hlw : ∀ q, q < s 4 → sw i j q < s 4 := fun _ hq => sw_lt (by omega) hj hq
      have hWs : WF (pS (sw i j) s) := WF_pS hlw hW
      have hlt := mS_lt hWs hW (by omega)
      obtain ⟨r, s', G', e4, hR', hW', hZ', hk', hr'⟩ := ih (pS (sw i j) s) (c + 1) G1 f (by omega) (by omega) (by omega) hR1 hWs (Zx_pS hlw hW hZ)
      refine ⟨r, s', G', ?_, hR', hW', hZ', by omega, hr'⟩
      rw [← e4]
      refine kl_stepL ?_
      show fX4_arrange_b13 n (nI c) G = _
      unfold fX4_arrange_b13
      simp (disch := first | omega | assumption) only [kk_nm, Option.bind_some, kl_0, kl_1, kl_2, kl_3, kl_4, kl_5, kl_6, kl_7, kl_8, kl_9, kl_10, kl_12, kl_14, kl_15, kl_16, kl_20, kl_31, kl_33, kl_48, kl_49, kl_50, kl_57, kl_59, kl_60, kl_62, kl_63, kl_98, kl_99, kl_103, kl_104, kl_126, kl_144, kl_310, kl_372, kl_100000, kl_1000000, kl_neg, kl_mm, kl_am, nI_add, kl_mul, kl_sub, kl_le, kl_lt, kl_eq, kl_eM, kl_Me, kl_ltM, kl_leM, kl_ck, kl_cj, kl_cb, kl_bit, nI_clamp, va_up_self, va_up_ne, pk_us, pk_un, if_pos, if_neg, eq_self, and_true, true_and, and_false, false_and, if_true, if_false, Bool.false_eq_true, e1]
theorem a_arrange (hn : 300000 ≤ n) (h : RS G V s c) : ∃ r G' V' s' c', fX4_arrange n G V = some (nI r, G', V') ∧ r < 1000000 ∧ RS G' V' s' c' ∧ kY s' ≤ kY s := by
  obtain ⟨ps, hP, hW, hZ, hV, hZs⟩ := h
  have hn1 : 1000 ≤ n := by omega
  have hm := mS_le hW
  obtain ⟨V', c', ps', e3, hV', hZs'⟩ := k_save (P := G 1) hn1 hV hP hW hZ hZs
  obtain ⟨r, s', G', e6, hP', hW', hZ', hk', hr'⟩ := k_arr hn1 (mS s + 1) s 0 G n (by omega) (by omega) (by omega) hP hW hZ
  refine ⟨r, G', V', s', c', ?_, hr', ⟨ps', hP', hW', hZ', hV', hZs'⟩, hk'⟩
  unfold fX4_arrange
  simp (disch := first | omega | assumption) only [kk_nm, Option.bind_some, kl_0, kl_1, kl_2, kl_3, kl_4, kl_5, kl_6, kl_7, kl_8, kl_9, kl_10, kl_12, kl_14, kl_15, kl_16, kl_20, kl_31, kl_33, kl_48, kl_49, kl_50, kl_57, kl_59, kl_60, kl_62, kl_63, kl_98, kl_99, kl_103, kl_104, kl_126, kl_144, kl_310, kl_372, kl_100000, kl_1000000, kl_neg, kl_mm, kl_am, nI_add, kl_mul, kl_sub, kl_le, kl_lt, kl_eq, kl_eM, kl_Me, kl_ltM, kl_leM, kl_ck, kl_cj, kl_cb, kl_bit, nI_clamp, va_up_self, va_up_ne, pk_us, pk_un, if_pos, if_neg, eq_self, and_true, true_and, and_false, false_and, if_true, if_false, Bool.false_eq_true, e3, e6]
/-! the looks -/
theorem l_count {k : Nat} (hn : 1000 ≤ n) (h : RS G V s c) (hk : k < 9) : ∃ G', fX4_count n G V (nI k) = some (.inr (t_nk s c k, G')) ∧ RS G' V s c := by
  have h2 := h
  obtain ⟨ps, hP, hW, hZ, hV, hZs⟩ := h
  obtain ⟨G', e1, hP', -⟩ := q4_number (G := G) (V := V) (c := c) (k := k) hk hn hP hW hV.2.1
  refine ⟨G', ?_, RS_G h2 hP'⟩
  unfold fX4_count
  simp (disch := first | omega | assumption) only [kk_nm, Option.bind_some, kl_0, kl_1, kl_2, kl_3, kl_4, kl_5, kl_6, kl_7, kl_8, kl_9, kl_10, kl_12, kl_14, kl_15, kl_16, kl_20, kl_31, kl_33, kl_48, kl_49, kl_50, kl_57, kl_59, kl_60, kl_62, kl_63, kl_98, kl_99, kl_103, kl_104, kl_126, kl_144, kl_310, kl_372, kl_100000, kl_1000000, kl_neg, kl_mm, kl_am, nI_add, kl_mul, kl_sub, kl_le, kl_lt, kl_eq, kl_eM, kl_Me, kl_ltM, kl_leM, kl_ck, kl_cj, kl_cb, kl_bit, nI_clamp, va_up_self, va_up_ne, pk_us, pk_un, if_pos, if_neg, eq_self, and_true, true_and, and_false, false_and, if_true, if_false, Bool.false_eq_true, e1]
theorem l_floatAt {j k : Nat} (hn : 1000 ≤ n) (h : RS G V s c) (hj : j < s 4) (hk : k < 7) : fX4_floatAt n G (nI j) (nI k) = some (.inr (nI (t_fp s j k))) := by
  obtain ⟨ps, hP, hW, hZ, hV, hZs⟩ := h
  have e1 := k_nf (n := n) hP hW hj
  have y1 := q2_floatProperty (k := k) hk hn hP hW hj
  unfold fX4_floatAt
  simp (disch := first | omega | assumption) only [kk_nm, Option.bind_some, kl_0, kl_1, kl_2, kl_3, kl_4, kl_5, kl_6, kl_7, kl_8, kl_9, kl_10, kl_12, kl_14, kl_15, kl_16, kl_20, kl_31, kl_33, kl_48, kl_49, kl_50, kl_57, kl_59, kl_60, kl_62, kl_63, kl_98, kl_99, kl_103, kl_104, kl_126, kl_144, kl_310, kl_372, kl_100000, kl_1000000, kl_neg, kl_mm, kl_am, nI_add, kl_mul, kl_sub, kl_le, kl_lt, kl_eq, kl_eM, kl_Me, kl_ltM, kl_leM, kl_ck, kl_cj, kl_cb, kl_bit, nI_clamp, va_up_self, va_up_ne, pk_us, pk_un, if_pos, if_neg, eq_self, and_true, true_and, and_false, false_and, if_true, if_false, Bool.false_eq_true, e1, kk_trr, y1]
theorem l_trouble {j k : Nat} (hn : 1000 ≤ n) (h : RS G V s c) (hj : j < s 4) (hk : k < 3) : fX4_trouble n G (nI j) (nI k) = some (.inr (nI (t_by s j k))) := by
  obtain ⟨ps, hP, hW, hZ, hV, hZs⟩ := h
  have e1 := k_nf (n := n) hP hW hj
  have y1 := q2_troubleBy (k := k) hk hn hP hW hj
  unfold fX4_trouble
  simp (disch := first | omega | assumption) only [kk_nm, Option.bind_some, kl_0, kl_1, kl_2, kl_3, kl_4, kl_5, kl_6, kl_7, kl_8, kl_9, kl_10, kl_12, kl_14, kl_15, kl_16, kl_20, kl_31, kl_33, kl_48, kl_49, kl_50, kl_57, kl_59, kl_60, kl_62, kl_63, kl_98, kl_99, kl_103, kl_104, kl_126, kl_144, kl_310, kl_372, kl_100000, kl_1000000, kl_neg, kl_mm, kl_am, nI_add, kl_mul, kl_sub, kl_le, kl_lt, kl_eq, kl_eM, kl_Me, kl_ltM, kl_leM, kl_ck, kl_cj, kl_cb, kl_bit, nI_clamp, va_up_self, va_up_ne, pk_us, pk_un, if_pos, if_neg, eq_self, and_true, true_and, and_false, false_and, if_true, if_false, Bool.false_eq_true, e1, kk_trr, y1]
theorem l_bridgeOf {j k : Nat} (hn : 1000 ≤ n) (h : RS G V s c) (hj : j < s 5) (hk : k < 3) : fX4_bridgeOf n G (nI j) (nI k) = some (.inr (nI (t_bp s j k))) := by
  obtain ⟨ps, hP, hW, hZ, hV, hZs⟩ := h
  have e1 := k_nb (n := n) hP hW hj
  have y1 := q2_bridgeProperty (k := k) hk hn hP hW hj
  unfold fX4_bridgeOf
  simp (disch := first | omega | assumption) only [kk_nm, Option.bind_some, kl_0, kl_1, kl_2, kl_3, kl_4, kl_5, kl_6, kl_7, kl_8, kl_9, kl_10, kl_12, kl_14, kl_15, kl_16, kl_20, kl_31, kl_33, kl_48, kl_49, kl_50, kl_57, kl_59, kl_60, kl_62, kl_63, kl_98, kl_99, kl_103, kl_104, kl_126, kl_144, kl_310, kl_372, kl_100000, kl_1000000, kl_neg, kl_mm, kl_am, nI_add, kl_mul, kl_sub, kl_le, kl_lt, kl_eq, kl_eM, kl_Me, kl_ltM, kl_leM, kl_ck, kl_cj, kl_cb, kl_bit, nI_clamp, va_up_self, va_up_ne, pk_us, pk_un, if_pos, if_neg, eq_self, and_true, true_and, and_false, false_and, if_true, if_false, Bool.false_eq_true, e1, kk_trr, y1]
theorem l_setting {k : Nat} (h : RS G V s c) (hk : k < 4) : fX4_setting n G (nI k) = some (.inr (nI (s k))) := by
  obtain ⟨ps, hP, hW, hZ, hV, hZs⟩ := h
  have hS := hP.2.2.2.2
  unfold fX4_setting fX4_needSetting
  simp (disch := first | omega | assumption) only [kk_nm, Option.bind_some, kl_0, kl_1, kl_2, kl_3, kl_4, kl_5, kl_6, kl_7, kl_8, kl_9, kl_10, kl_12, kl_14, kl_15, kl_16, kl_20, kl_31, kl_33, kl_48, kl_49, kl_50, kl_57, kl_59, kl_60, kl_62, kl_63, kl_98, kl_99, kl_103, kl_104, kl_126, kl_144, kl_310, kl_372, kl_100000, kl_1000000, kl_neg, kl_mm, kl_am, nI_add, kl_mul, kl_sub, kl_le, kl_lt, kl_eq, kl_eM, kl_Me, kl_ltM, kl_leM, kl_ck, kl_cj, kl_cb, kl_bit, nI_clamp, va_up_self, va_up_ne, pk_us, pk_un, if_pos, if_neg, eq_self, and_true, true_and, and_false, false_and, if_true, if_false, Bool.false_eq_true, kk_trr, hS]
theorem l_comes {j b : Nat} (hn : 1000 ≤ n) (h : RS G V s c) (hj : j < s 4) (hb : b < s 5) : ∃ G', fX4_comes n G (nI j) (nI b) = some (.inr (nI (t_cm s (s 3) j b), G')) ∧ RS G' V s c := by
  have h2 := h
  obtain ⟨ps, hP, hW, hZ, hV, hZs⟩ := h
  have w1 := hW.2.1
  have e1 := k_nf (n := n) hP hW hj
  have g1 := k_nb (n := n) hP hW hb
  obtain ⟨P', e3, hP', hcm⟩ := q2_travel hn hP hW hj
  have em : (-1 : Int32) = kM := rfl
  refine ⟨va_up G 1 P', ?_, RS_G h2 (by rw [va_up_self]; exact hP')⟩
  unfold fX4_comes
  simp (disch := first | omega | assumption) only [kk_nm, Option.bind_some, kl_0, kl_1, kl_2, kl_3, kl_4, kl_5, kl_6, kl_7, kl_8, kl_9, kl_10, kl_12, kl_14, kl_15, kl_16, kl_20, kl_31, kl_33, kl_48, kl_49, kl_50, kl_57, kl_59, kl_60, kl_62, kl_63, kl_98, kl_99, kl_103, kl_104, kl_126, kl_144, kl_310, kl_372, kl_100000, kl_1000000, kl_neg, kl_mm, kl_am, nI_add, kl_mul, kl_sub, kl_le, kl_lt, kl_eq, kl_eM, kl_Me, kl_ltM, kl_leM, kl_ck, kl_cj, kl_cb, kl_bit, nI_clamp, va_up_self, va_up_ne, pk_us, pk_un, if_pos, if_neg, eq_self, and_true, true_and, and_false, false_and, if_true, if_false, Bool.false_eq_true, em, e1, kk_trr, g1, e3, hcm]
theorem l_comesM {j : Nat} (hn : 1000 ≤ n) (h : RS G V s c) (hj : j < s 4) : ∃ G', fX4_comes n G (nI j) kM = some (.inr (nI (t_cm s (s 3) j (s 5)), G')) ∧ RS G' V s c := by
  have h2 := h
  obtain ⟨ps, hP, hW, hZ, hV, hZs⟩ := h
  have w1 := hW.2.1
  have e1 := k_nf (n := n) hP hW hj
  obtain ⟨P', e3, hP', hcm⟩ := q2_travel hn hP hW hj
  have h5 := hP'.2.1
  have em : (-1 : Int32) = kM := rfl
  refine ⟨va_up G 1 P', ?_, RS_G h2 (by rw [va_up_self]; exact hP')⟩
  unfold fX4_comes
  simp (disch := first | omega | assumption) only [kk_nm, Option.bind_some, kl_0, kl_1, kl_2, kl_3, kl_4, kl_5, kl_6, kl_7, kl_8, kl_9, kl_10, kl_12, kl_14, kl_15, kl_16, kl_20, kl_31, kl_33, kl_48, kl_49, kl_50, kl_57, kl_59, kl_60, kl_62, kl_63, kl_98, kl_99, kl_103, kl_104, kl_126, kl_144, kl_310, kl_372, kl_100000, kl_1000000, kl_neg, kl_mm, kl_am, nI_add, kl_mul, kl_sub, kl_le, kl_lt, kl_eq, kl_eM, kl_Me, kl_ltM, kl_leM, kl_ck, kl_cj, kl_cb, kl_bit, nI_clamp, va_up_self, va_up_ne, pk_us, pk_un, if_pos, if_neg, eq_self, and_true, true_and, and_false, false_and, if_true, if_false, Bool.false_eq_true, em, e1, kk_trr, e3, h5, hcm]
theorem l_bestFold (hn : 1000 ≤ n) (h : RS G V s c) (h4 : s 4 = 0) : ∃ G', fX4_bestFold n G = some (kM, G') ∧ RS G' V s c := by
  have h2 := h
  obtain ⟨ps, hP, hW, hZ, hV, hZs⟩ := h
  obtain ⟨G', e1, hk⟩ := q4_bestFold hn hP hW
  refine ⟨G', ?_, RS_G h2 (by rw [hk 1 (by omega)]; exact hP)⟩
  rw [e1, h4]
  rfl
theorem l_least (hn : 1000 ≤ n) (h : RS G V s c) : ∃ G', fX4_leastTrouble n G = some (if s 4 ≤ 6 then nI (t_lst s) else kM, G') ∧ RS G' V s c := by
  have h2 := h
  obtain ⟨ps, hP, hW, hZ, hV, hZs⟩ := h
  obtain ⟨G', e1, hk⟩ := q4_leastTrouble hn hP hW
  exact ⟨G', e1, RS_G h2 (by rw [hk 1 (by omega)]; exact hP)⟩
theorem l_smooth (hn : 1000 ≤ n) (h : RS G V s c) : fX4_smoothness n G = some (t_sh s) := by
  obtain ⟨ps, hP, hW, hZ, hV, hZs⟩ := h
  exact q4_smoothness hn hP hW
end
/-! the fresh object -/
def s_new29 : Nat → Nat := s_new
theorem RS_new {G V : St2} (g0 : G 1 0 0 = 0) (g5 : G 1 5 0 = 0) (g8 : ∀ i, i < 4 → G 1 8 i = nI (s_new i)) (v0 : V 0 0 0 = 0) (vo : ∀ i, i < 6 → V 0 1 i = nI i) : RS G V s_new 0 := by
  refine ⟨fun _ => s_new, ⟨g0, g5, fun p hp => absurd hp (Nat.not_lt_zero p), fun b hb => absurd hb (Nat.not_lt_zero b), g8⟩, ⟨by decide, by decide, fun p hp => absurd hp (Nat.not_lt_zero p), fun b hb => absurd hb (Nat.not_lt_zero b), fun b hb => absurd hb (Nat.not_lt_zero _)⟩, ⟨fun p hp => absurd hp (Nat.not_lt_zero p), fun b hb => absurd hb (Nat.not_lt_zero _)⟩, ⟨by omega, v0, ⟨fun i => i, fun i hi => ⟨vo i hi, hi⟩, fun i j _ _ e => e, fun i hi => absurd hi (Nat.not_lt_zero i)⟩, fun i hi => absurd hi (Nat.not_lt_zero i)⟩, fun i hi => absurd hi (Nat.not_lt_zero i)⟩
