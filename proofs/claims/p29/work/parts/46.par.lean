/-! the class's parade: taking away, adding, copying -/
theorem RP_of {P P' : St1} {s t : Nat → Nat} (hR : RP P s) (h0 : P' 0 0 = nI (t 4)) (h4 : t 4 ≤ s 4) (hP : ∀ k, 1 ≤ k → k ≤ 8 → P' k = P k) (hlo : ∀ k, k < 14 → k ≠ 4 → t k = s k) (hf : ∀ q, q < t 4 → ∀ r, r < 4 → t (14 + 4 * q + r) = s (14 + 4 * q + r)) (hW : WF s) : RP P' t := by
  obtain ⟨g0, g5, gf, gb, gs⟩ := hR
  have w1 := hW.2.1
  have e5 := hlo 5 (by omega) (by omega)
  unfold RP
  refine ⟨h0, ?_, fun p hp => ?_, fun b hb => ?_, fun i hi => ?_⟩
  · rw [hP 5 (by omega) (by omega), e5]; exact g5
  · have x0 := hf p hp 0 (by omega)
    have x1 := hf p hp 1 (by omega)
    have x2 := hf p hp 2 (by omega)
    have x3 := hf p hp 3 (by omega)
    rw [(by omega : 14 + 4 * p + 1 = 15 + 4 * p)] at x1
    rw [(by omega : 14 + 4 * p + 2 = 16 + 4 * p)] at x2
    rw [(by omega : 14 + 4 * p + 3 = 17 + 4 * p)] at x3
    rw [hP 1 (by omega) (by omega), hP 2 (by omega) (by omega), hP 3 (by omega) (by omega), hP 4 (by omega) (by omega), x1, x2, x3]
    rw [show t (14 + 4 * p) = s (14 + 4 * p) from x0]
    exact gf p (by omega)
  · rw [e5] at hb
    rw [hP 6 (by omega) (by omega), hP 7 (by omega) (by omega), hlo _ (by omega) (by omega), hlo _ (by omega) (by omega)]
    exact gb b hb
  · rw [hP 8 (by omega) (by omega), hlo _ (by omega) (by omega)]
    exact gs i hi
theorem gO_lo {v : Nat} {s : Nat → Nat} {k : Nat} (h : k < 14) (h4 : k ≠ 4) : gO v s k = s k := by unfold gO; rw [if_neg h4, if_neg (by omega)]
theorem gO_4 {v : Nat} {s : Nat → Nat} : gO v s 4 = s 4 - 1 := by unfold gO; rw [if_pos rfl]
theorem gO_at {v q r : Nat} {s : Nat → Nat} (hr : r < 4) (hq : q < s 4 - 1) : gO v s (14 + 4 * q + r) = s (14 + 4 * (if v ≤ q then q + 1 else q) + r) := by
  unfold gO
  rw [if_neg (by omega)]
  by_cases c : v ≤ q
  · rw [if_pos (by omega), if_pos c]; congr 1; omega
  · rw [if_neg (by omega), if_neg c]
theorem pT_lo {v a b c d : Nat} {s : Nat → Nat} {k : Nat} (h : k < 14) (h4 : k ≠ 4) : pT v a b c d s k = s k := by
  unfold pT; rw [if_neg h4, if_neg (by omega), if_neg (by omega), if_neg (by omega), if_neg (by omega), if_neg (by omega)]
theorem pT_4 {v a b c d : Nat} {s : Nat → Nat} : pT v a b c d s 4 = s 4 + 1 := by unfold pT; rw [if_pos rfl]
theorem pT_at {v a b c d : Nat} {s : Nat → Nat} {q r : Nat} (hr : r < 4) (hq : q ≤ s 4) : pT v a b c d s (14 + 4 * q + r) = if q = v then (if r = 0 then a else if r = 1 then b else if r = 2 then c else d) else s (14 + 4 * (if v < q then q - 1 else q) + r) := by
  unfold pT
  rw [if_neg (by omega)]
  by_cases c1 : q = v
  · rw [if_pos c1]
    rcases (by omega : r = 0 ∨ r = 1 ∨ r = 2 ∨ r = 3) with rfl | rfl | rfl | rfl
    · rw [if_pos (by omega), if_pos rfl]
    · rw [if_neg (by omega), if_pos (by omega), if_neg (by omega), if_pos rfl]
    · rw [if_neg (by omega), if_neg (by omega), if_pos (by omega), if_neg (by omega), if_neg (by omega), if_pos rfl]
    · rw [if_neg (by omega), if_neg (by omega), if_neg (by omega), if_pos (by omega), if_neg (by omega), if_neg (by omega), if_neg (by omega)]
  · rw [if_neg (by omega), if_neg (by omega), if_neg (by omega), if_neg (by omega), if_neg c1]
    by_cases c2 : v < q
    · rw [if_pos (by omega), if_pos c2]; congr 1; omega
    · rw [if_neg (by omega), if_neg c2]
theorem WF_of {s t : Nat → Nat} (hW : WF s) (hlo : ∀ k, k < 14 → k ≠ 4 → t k = s k) (h4 : t 4 ≤ 12) (hf : ∀ q, q < t 4 → t (14 + 4 * q) ≤ 3 ∧ 10 ≤ t (15 + 4 * q) ∧ t (15 + 4 * q) ≤ 99 ∧ t (16 + 4 * q) ≤ 15 ∧ t (17 + 4 * q) ≤ 1) : WF t := by
  obtain ⟨w0, w1, w2, w3, w4⟩ := hW
  unfold WF
  rw [hlo 0 (by omega) (by omega), hlo 1 (by omega) (by omega), hlo 2 (by omega) (by omega), hlo 3 (by omega) (by omega), hlo 5 (by omega) (by omega)]
  refine ⟨w0, ⟨h4, w1.2⟩, hf, fun b hb => ?_, fun b hb => ?_⟩
  · rw [hlo _ (by omega) (by omega), hlo _ (by omega) (by omega)]; exact w3 b hb
  · rw [hlo _ (by omega) (by omega), hlo _ (by omega) (by omega)]; exact w4 b hb
theorem at4 {t : Nat → Nat} {q : Nat} : t (14 + 4 * q) = t (14 + 4 * q + 0) ∧ t (15 + 4 * q) = t (14 + 4 * q + 1) ∧ t (16 + 4 * q) = t (14 + 4 * q + 2) ∧ t (17 + 4 * q) = t (14 + 4 * q + 3) := by
  refine ⟨rfl, ?_, ?_, ?_⟩
  · congr 1; omega
  · congr 1; omega
  · congr 1; omega
theorem WF_gO {s : Nat → Nat} {v : Nat} (hW : WF s) : WF (gO v s) := by
  have w1 := hW.2.1
  refine WF_of hW (fun k h h4 => gO_lo h h4) (by rw [gO_4]; omega) (fun q hq => ?_)
  rw [gO_4] at hq
  obtain ⟨e0, e1, e2, e3⟩ := at4 (t := gO v s) (q := q)
  rw [e0, e1, e2, e3, gO_at (by omega) hq, gO_at (by omega) hq, gO_at (by omega) hq, gO_at (by omega) hq]
  obtain ⟨e4, e5, e6, e7⟩ := at4 (t := s) (q := if v ≤ q then q + 1 else q)
  rw [← e4, ← e5, ← e6, ← e7]
  refine hW.2.2.1 _ ?_
  by_cases c : v ≤ q
  · rw [if_pos c]; omega
  · rw [if_neg c]; omega
theorem WF_pT {s : Nat → Nat} {v a b c d : Nat} (hW : WF s) (h4 : s 4 < 12) (ha : a ≤ 3) (hb : 10 ≤ b) (hb2 : b ≤ 99) (hc : c ≤ 15) (hd : d ≤ 1) (hv : v ≤ s 4) : WF (pT v a b c d s) := by
  refine WF_of hW (fun k h h4 => pT_lo h h4) (by rw [pT_4]; omega) (fun q hq => ?_)
  rw [pT_4] at hq
  obtain ⟨e0, e1, e2, e3⟩ := at4 (t := pT v a b c d s) (q := q)
  rw [e0, e1, e2, e3, pT_at (by omega) (by omega), pT_at (by omega) (by omega), pT_at (by omega) (by omega), pT_at (by omega) (by omega)]
  by_cases c1 : q = v
  · rw [if_pos c1, if_pos c1, if_pos c1, if_pos c1]
    exact ⟨ha, hb, hb2, hc, hd⟩
  · rw [if_neg c1, if_neg c1, if_neg c1, if_neg c1]
    obtain ⟨e4, e5, e6, e7⟩ := at4 (t := s) (q := if v < q then q - 1 else q)
    rw [← e4, ← e5, ← e6, ← e7]
    refine hW.2.2.1 _ ?_
    by_cases c : v < q
    · rw [if_pos c]; omega
    · rw [if_neg c]; omega
section
variable {n : Nat} {s : Nat → Nat} {P : St1}
theorem q2_takeAway {v : Nat} (hn : 1000 ≤ n) (hR : RP P s) (hW : WF s) (hv : v < s 4) : ∃ P', fX2_takeAway n P (nI v) = some P' ∧ RP P' (gO v s) := by
  have w1 := hW.2.1
  have h0 := hR.1
  obtain ⟨P1, e1, hR1⟩ := q2_shift (b := s 4 - 1) hn hR hW hv (by omega)
  have h1 := hR1.1
  rw [pS_lo (by omega)] at h1
  refine ⟨va_up P1 0 (fun _ => nI (s 4 - 1)), ?_, ?_⟩
  · unfold fX2_takeAway
    simp (disch := first | omega | assumption) only [kk_nm, Option.bind_some, kl_0, kl_1, kl_2, kl_3, kl_4, kl_5, kl_6, kl_7, kl_8, kl_9, kl_10, kl_12, kl_14, kl_15, kl_16, kl_20, kl_31, kl_33, kl_48, kl_49, kl_50, kl_57, kl_59, kl_60, kl_62, kl_63, kl_98, kl_99, kl_103, kl_104, kl_126, kl_144, kl_310, kl_372, kl_100000, kl_1000000, kl_neg, kl_mm, kl_am, nI_add, kl_mul, kl_sub, kl_le, kl_lt, kl_eq, kl_eM, kl_Me, kl_ltM, kl_leM, kl_ck, kl_cj, kl_cb, kl_bit, nI_clamp, va_up_self, va_up_ne, pk_us, pk_un, if_pos, if_neg, eq_self, and_true, true_and, and_false, false_and, if_true, if_false, Bool.false_eq_true, h0, e1, h1]
  · refine RP_of hR1 (by rw [va_up_self, gO_4]) (by rw [gO_4, pS_lo (by omega)]; omega) (fun k h1 h2 => by rw [va_up_ne _ _ (by omega)]) (fun k h h4 => by rw [gO_lo h h4, pS_lo h]) (fun q hq r hr => ?_) (WF_pS (fun _ hq => mv_lt hv (by omega) hq) hW)
    rw [gO_4] at hq
    rw [gO_at hr hq, pS_at hr]
    by_cases c : v ≤ q
    · have m1 : mv v (s 4 - 1) q = q + 1 := by unfold mv; rw [if_neg (by omega), if_pos (by omega)]
      rw [if_pos c, m1]
    · have m1 : mv v (s 4 - 1) q = q := by unfold mv; rw [if_neg (by omega), if_neg (by omega), if_neg (by omega)]
      rw [if_neg c, m1]
theorem q2_addLast {a b c : Nat} (hR : RP P s) (hW : WF s) (h4 : s 4 < 12) : ∃ P', fX2_addLast n P (nI a) (nI b) (nI c) = some P' ∧ RP P' (pT (s 4) a b c 0 s) := by
  have h0 := hR.1
  refine ⟨va_up (va_up (va_up (va_up (va_up P 1 (upd (P 1) (s 4) (nI a))) 2 (upd (P 2) (s 4) (nI b))) 3 (upd (P 3) (s 4) (nI c))) 4 (upd (P 4) (s 4) (nI 0))) 0 (fun _ => nI (s 4 + 1)), ?_, ?_⟩
  · unfold fX2_addLast
    simp (disch := first | omega | assumption) only [kk_nm, Option.bind_some, kl_0, kl_1, kl_2, kl_3, kl_4, kl_5, kl_6, kl_7, kl_8, kl_9, kl_10, kl_12, kl_14, kl_15, kl_16, kl_20, kl_31, kl_33, kl_48, kl_49, kl_50, kl_57, kl_59, kl_60, kl_62, kl_63, kl_98, kl_99, kl_103, kl_104, kl_126, kl_144, kl_310, kl_372, kl_100000, kl_1000000, kl_neg, kl_mm, kl_am, nI_add, kl_mul, kl_sub, kl_le, kl_lt, kl_eq, kl_eM, kl_Me, kl_ltM, kl_leM, kl_ck, kl_cj, kl_cb, kl_bit, nI_clamp, va_up_self, va_up_ne, pk_us, pk_un, if_pos, if_neg, eq_self, and_true, true_and, and_false, false_and, if_true, if_false, Bool.false_eq_true, h0]
  · obtain ⟨g0, g5, gf, gb, gs⟩ := hR
    unfold RP
    rw [pT_4, pT_lo (by omega) (by omega)]
    have w1 := hW.2.1
    refine ⟨rfl, by rw [va_up_ne _ _ (by omega), va_up_ne _ _ (by omega), va_up_ne _ _ (by omega), va_up_ne _ _ (by omega), va_up_ne _ _ (by omega)]; exact g5, fun p hp => ?_, fun b' hb => ?_, fun i hi => ?_⟩
    · obtain ⟨e0, e1, e2, e3⟩ := at4 (t := pT (s 4) a b c 0 s) (q := p)
      rw [e0, e1, e2, e3, pT_at (by omega) (by omega), pT_at (by omega) (by omega), pT_at (by omega) (by omega), pT_at (by omega) (by omega)]
      simp (disch := omega) only [va_up_ne, va_up_self]
      by_cases c1 : p = s 4
      · subst c1
        simp (disch := first | omega | assumption) only [kk_nm, Option.bind_some, kl_0, kl_1, kl_2, kl_3, kl_4, kl_5, kl_6, kl_7, kl_8, kl_9, kl_10, kl_12, kl_14, kl_15, kl_16, kl_20, kl_31, kl_33, kl_48, kl_49, kl_50, kl_57, kl_59, kl_60, kl_62, kl_63, kl_98, kl_99, kl_103, kl_104, kl_126, kl_144, kl_310, kl_372, kl_100000, kl_1000000, kl_neg, kl_mm, kl_am, nI_add, kl_mul, kl_sub, kl_le, kl_lt, kl_eq, kl_eM, kl_Me, kl_ltM, kl_leM, kl_ck, kl_cj, kl_cb, kl_bit, nI_clamp, va_up_self, va_up_ne, pk_us, pk_un, if_pos, if_neg, eq_self, and_true, true_and, and_false, false_and, if_true, if_false, Bool.false_eq_true]
      · simp (disch := omega) only [pk_un, if_neg]
        obtain ⟨e4, e5, e6, e7⟩ := at4 (t := s) (q := p)
        rw [← e4, ← e5, ← e6, ← e7]
        exact gf p (by omega)
    · simp (disch := omega) only [va_up_ne, va_up_self]
      rw [pT_lo (by omega) (by omega), pT_lo (by omega) (by omega)]
      exact gb b' hb
    · simp (disch := omega) only [va_up_ne, va_up_self]
      rw [pT_lo (by omega) (by omega)]
      exact gs i hi
/-- added last and shifted to its place -/
theorem q2_addShift {v a b c : Nat} (hn : 1000 ≤ n) (hR : RP P s) (hW : WF s) (h4 : s 4 < 12) (hv : v ≤ s 4) (ha : a ≤ 3) (hb : 10 ≤ b) (hb2 : b ≤ 99) (hc : c ≤ 15) : ∃ P1 P2, fX2_addLast n P (nI a) (nI b) (nI c) = some P1 ∧ P1 0 0 = nI (s 4 + 1) ∧ fX2_shift n P1 (nI (s 4)) (nI v) = some P2 ∧ RP P2 (pT v a b c 0 s) := by
  obtain ⟨P1, e1, hR1⟩ := q2_addLast (n := n) (a := a) (b := b) (c := c) hR hW h4
  have hW1 : WF (pT (s 4) a b c 0 s) := WF_pT hW h4 ha hb hb2 hc (by omega) (by omega)
  obtain ⟨P2, e2, hR2⟩ := q2_shift (a := s 4) (b := v) hn hR1 hW1 (by rw [pT_4]; omega) (by rw [pT_4]; omega)
  refine ⟨P1, P2, e1, by rw [hR1.1, pT_4], e2, ?_⟩
  refine RP_of hR2 (by rw [hR2.1, pS_lo (by omega), pT_4, pT_4]) (by rw [pT_4, pS_lo (by omega), pT_4]; omega) (fun k h1 h2 => rfl) (fun k h h4 => by rw [pS_lo h, pT_lo h h4, pT_lo h h4]) (fun q hq r hr => ?_) (WF_pS (fun _ hq => mv_lt (by rw [pT_4]; omega) (by rw [pT_4]; omega) hq) hW1)
  rw [pT_4] at hq
  rw [pS_at hr, pT_at hr (by omega)]
  have hm : mv (s 4) v q ≤ s 4 := by
    have := mv_lt (i := s 4) (j := v) (q := q) (m := s 4 + 1) (by omega) (by omega) (by omega)
    omega
  rw [pT_at hr hm]
  by_cases c1 : q = v
  · have m1 : mv (s 4) v q = s 4 := by unfold mv; rw [if_pos c1]
    rw [if_pos c1, m1, if_pos rfl]
  · rw [if_neg c1]
    by_cases c2 : v < q
    · have m1 : mv (s 4) v q = q - 1 := by unfold mv; rw [if_neg c1, if_neg (by omega), if_pos (by omega)]
      rw [m1, if_neg (show ¬ q - 1 = s 4 by omega), if_neg (show ¬ s 4 < q - 1 by omega), if_pos c2]
    · have m1 : mv (s 4) v q = q := by unfold mv; rw [if_neg c1, if_neg (by omega), if_neg (by omega)]
      rw [m1, if_neg (show ¬ q = s 4 by omega), if_neg (show ¬ s 4 < q by omega), if_neg c2]
theorem q2_copyFrom {Q : St1} (hn : 1000 ≤ n) (hR : RP Q s) (hW : WF s) : ∃ P', fX2_copyFrom n P Q = some P' ∧ RP P' s := by
  have w1 := hW.2.1
  obtain ⟨g0, g5, gf, gb, gs⟩ := hR
  obtain ⟨P1, e1, h1⟩ := kl_forI (body := fun (st : Int32 × St1) => fX2_copyFrom_b10 n Q st.1 st.2) (fun u st => st.1 = nI u ∧ st.2 0 0 = nI (s 4) ∧ ∀ p, p < u → st.2 1 p = Q 1 p ∧ st.2 2 p = Q 2 p ∧ st.2 3 p = Q 3 p ∧ st.2 4 p = Q 4 p) (fun P' => P' 0 0 = nI (s 4) ∧ ∀ p, p < s 4 → P' 1 p = Q 1 p ∧ P' 2 p = Q 2 p ∧ P' 3 p = Q 3 p ∧ P' 4 p = Q 4 p) (s 4) (fun u st hu hI => by
    obtain ⟨x1, P1⟩ := st
    obtain ⟨rfl, hz, hp⟩ := hI
    dsimp only at hz hp ⊢
    have hF := (gf u hu).2.2.2
    have wF := hW.2.2.1 u hu
    have cb : ∀ (y : Option ((Int32 × St1) ⊕ St1)), kk_cb (Q 4 u) y = y := fun y => by rw [hF]; exact kl_cb wF.2.2.2.2
    refine ⟨(nI (u + 1), va_up (va_up (va_up (va_up P1 1 (upd (P1 1) u (Q 1 u))) 2 (upd (P1 2) u (Q 2 u))) 3 (upd (P1 3) u (Q 3 u))) 4 (upd (P1 4) u (Q 4 u))), ?_, rfl, ?_, fun p hp' => ?_⟩
    · unfold fX2_copyFrom_b10
      simp (disch := first | omega | assumption) only [kk_nm, Option.bind_some, kl_0, kl_1, kl_2, kl_3, kl_4, kl_5, kl_6, kl_7, kl_8, kl_9, kl_10, kl_12, kl_14, kl_15, kl_16, kl_20, kl_31, kl_33, kl_48, kl_49, kl_50, kl_57, kl_59, kl_60, kl_62, kl_63, kl_98, kl_99, kl_103, kl_104, kl_126, kl_144, kl_310, kl_372, kl_100000, kl_1000000, kl_neg, kl_mm, kl_am, nI_add, kl_mul, kl_sub, kl_le, kl_lt, kl_eq, kl_eM, kl_Me, kl_ltM, kl_leM, kl_ck, kl_cj, kl_cb, kl_bit, nI_clamp, va_up_self, va_up_ne, pk_us, pk_un, if_pos, if_neg, eq_self, and_true, true_and, and_false, false_and, if_true, if_false, Bool.false_eq_true, hz, cb]
    · dsimp only
      simp (disch := omega) only [va_up_ne]
      exact hz
    · dsimp only
      simp (disch := omega) only [va_up_ne, va_up_self]
      by_cases c : p = u
      · subst c
        simp only [pk_us]
        exact ⟨trivial, trivial, trivial, trivial⟩
      · simp (disch := omega) only [pk_un]
        exact hp p (by omega)) (fun st hI => by
    obtain ⟨x1, P1⟩ := st
    obtain ⟨rfl, hz, hp⟩ := hI
    dsimp only at hz hp ⊢
    refine ⟨P1, ?_, hz, hp⟩
    unfold fX2_copyFrom_b10
    simp (disch := first | omega | assumption) only [kk_nm, Option.bind_some, kl_0, kl_1, kl_2, kl_3, kl_4, kl_5, kl_6, kl_7, kl_8, kl_9, kl_10, kl_12, kl_14, kl_15, kl_16, kl_20, kl_31, kl_33, kl_48, kl_49, kl_50, kl_57, kl_59, kl_60, kl_62, kl_63, kl_98, kl_99, kl_103, kl_104, kl_126, kl_144, kl_310, kl_372, kl_100000, kl_1000000, kl_neg, kl_mm, kl_am, nI_add, kl_mul, kl_sub, kl_le, kl_lt, kl_eq, kl_eM, kl_Me, kl_ltM, kl_leM, kl_ck, kl_cj, kl_cb, kl_bit, nI_clamp, va_up_self, va_up_ne, pk_us, pk_un, if_pos, if_neg, eq_self, and_true, true_and, and_false, false_and, if_true, if_false, Bool.false_eq_true, hz]) n 0 (nI 0, va_up P 0 (fun _ => nI (s 4))) (by omega) (by omega) ⟨rfl, rfl, fun p h => by omega⟩
  obtain ⟨h10, h1f⟩ := h1
  obtain ⟨P2, e2, h2⟩ := kl_forI (body := fun (st : Int32 × St1) => fX2_copyFrom_b82 n Q st.1 st.2) (fun u st => st.1 = nI u ∧ (∀ k, k ≤ 4 → st.2 k = P1 k) ∧ st.2 5 0 = nI (s 5) ∧ ∀ p, p < u → st.2 6 p = Q 6 p ∧ st.2 7 p = Q 7 p) (fun P' => (∀ k, k ≤ 4 → P' k = P1 k) ∧ P' 5 0 = nI (s 5) ∧ ∀ p, p < s 5 → P' 6 p = Q 6 p ∧ P' 7 p = Q 7 p) (s 5) (fun u st hu hI => by
    obtain ⟨x1, P3⟩ := st
    obtain ⟨rfl, hk, hz, hp⟩ := hI
    dsimp only at hk hz hp ⊢
    refine ⟨(nI (u + 1), va_up (va_up P3 6 (upd (P3 6) u (Q 6 u))) 7 (upd (P3 7) u (Q 7 u))), ?_, rfl, fun k h => ?_, ?_, fun p hp' => ?_⟩
    · unfold fX2_copyFrom_b82
      simp (disch := first | omega | assumption) only [kk_nm, Option.bind_some, kl_0, kl_1, kl_2, kl_3, kl_4, kl_5, kl_6, kl_7, kl_8, kl_9, kl_10, kl_12, kl_14, kl_15, kl_16, kl_20, kl_31, kl_33, kl_48, kl_49, kl_50, kl_57, kl_59, kl_60, kl_62, kl_63, kl_98, kl_99, kl_103, kl_104, kl_126, kl_144, kl_310, kl_372, kl_100000, kl_1000000, kl_neg, kl_mm, kl_am, nI_add, kl_mul, kl_sub, kl_le, kl_lt, kl_eq, kl_eM, kl_Me, kl_ltM, kl_leM, kl_ck, kl_cj, kl_cb, kl_bit, nI_clamp, va_up_self, va_up_ne, pk_us, pk_un, if_pos, if_neg, eq_self, and_true, true_and, and_false, false_and, if_true, if_false, Bool.false_eq_true, hz]
    · dsimp only
      rw [va_up_ne _ _ (by omega), va_up_ne _ _ (by omega)]
      exact hk k h
    · dsimp only
      simp (disch := omega) only [va_up_ne]
      exact hz
    · dsimp only
      simp (disch := omega) only [va_up_ne, va_up_self]
      by_cases c : p = u
      · subst c
        simp only [pk_us]
        exact ⟨trivial, trivial⟩
      · simp (disch := omega) only [pk_un]
        exact hp p (by omega)) (fun st hI => by
    obtain ⟨x1, P3⟩ := st
    obtain ⟨rfl, hk, hz, hp⟩ := hI
    dsimp only at hk hz hp ⊢
    refine ⟨P3, ?_, hk, hz, hp⟩
    unfold fX2_copyFrom_b82
    simp (disch := first | omega | assumption) only [kk_nm, Option.bind_some, kl_0, kl_1, kl_2, kl_3, kl_4, kl_5, kl_6, kl_7, kl_8, kl_9, kl_10, kl_12, kl_14, kl_15, kl_16, kl_20, kl_31, kl_33, kl_48, kl_49, kl_50, kl_57, kl_59, kl_60, kl_62, kl_63, kl_98, kl_99, kl_103, kl_104, kl_126, kl_144, kl_310, kl_372, kl_100000, kl_1000000, kl_neg, kl_mm, kl_am, nI_add, kl_mul, kl_sub, kl_le, kl_lt, kl_eq, kl_eM, kl_Me, kl_ltM, kl_leM, kl_ck, kl_cj, kl_cb, kl_bit, nI_clamp, va_up_self, va_up_ne, pk_us, pk_un, if_pos, if_neg, eq_self, and_true, true_and, and_false, false_and, if_true, if_false, Bool.false_eq_true, hz]) n 0 (nI 0, va_up P1 5 (fun _ => nI (s 5))) (by omega) (by omega) ⟨rfl, fun k hk => by dsimp only; rw [va_up_ne _ _ (by omega)], rfl, fun p h => by omega⟩
  obtain ⟨h2k, h25, h2b⟩ := h2
  obtain ⟨P3, e3, h3⟩ := kl_forI (body := fun (st : Int32 × St1) => fX2_copyFrom_b122 n Q st.1 st.2) (fun u st => st.1 = nI u ∧ (∀ k, k ≤ 7 → st.2 k = P2 k) ∧ ∀ p, p < u → st.2 8 p = Q 8 p) (fun P' => (∀ k, k ≤ 7 → P' k = P2 k) ∧ ∀ p, p < 4 → P' 8 p = Q 8 p) 4 (fun u st hu hI => by
    obtain ⟨x1, P4⟩ := st
    obtain ⟨rfl, hk, hp⟩ := hI
    dsimp only at hk hp ⊢
    refine ⟨(nI (u + 1), va_up P4 8 (upd (P4 8) u (Q 8 u))), ?_, rfl, fun k h => ?_, fun p hp' => ?_⟩
    · unfold fX2_copyFrom_b122
      simp (disch := first | omega | assumption) only [kk_nm, Option.bind_some, kl_0, kl_1, kl_2, kl_3, kl_4, kl_5, kl_6, kl_7, kl_8, kl_9, kl_10, kl_12, kl_14, kl_15, kl_16, kl_20, kl_31, kl_33, kl_48, kl_49, kl_50, kl_57, kl_59, kl_60, kl_62, kl_63, kl_98, kl_99, kl_103, kl_104, kl_126, kl_144, kl_310, kl_372, kl_100000, kl_1000000, kl_neg, kl_mm, kl_am, nI_add, kl_mul, kl_sub, kl_le, kl_lt, kl_eq, kl_eM, kl_Me, kl_ltM, kl_leM, kl_ck, kl_cj, kl_cb, kl_bit, nI_clamp, va_up_self, va_up_ne, pk_us, pk_un, if_pos, if_neg, eq_self, and_true, true_and, and_false, false_and, if_true, if_false, Bool.false_eq_true]
    · dsimp only
      rw [va_up_ne _ _ (by omega)]
      exact hk k h
    · dsimp only
      rw [va_up_self]
      by_cases c : p = u
      · subst c
        rw [pk_us]
      · rw [pk_un c]
        exact hp p (by omega)) (fun st hI => by
    obtain ⟨x1, P4⟩ := st
    obtain ⟨rfl, hk, hp⟩ := hI
    dsimp only at hk hp ⊢
    refine ⟨P4, ?_, hk, hp⟩
    unfold fX2_copyFrom_b122
    simp (disch := first | omega | assumption) only [kk_nm, Option.bind_some, kl_0, kl_1, kl_2, kl_3, kl_4, kl_5, kl_6, kl_7, kl_8, kl_9, kl_10, kl_12, kl_14, kl_15, kl_16, kl_20, kl_31, kl_33, kl_48, kl_49, kl_50, kl_57, kl_59, kl_60, kl_62, kl_63, kl_98, kl_99, kl_103, kl_104, kl_126, kl_144, kl_310, kl_372, kl_100000, kl_1000000, kl_neg, kl_mm, kl_am, nI_add, kl_mul, kl_sub, kl_le, kl_lt, kl_eq, kl_eM, kl_Me, kl_ltM, kl_leM, kl_ck, kl_cj, kl_cb, kl_bit, nI_clamp, va_up_self, va_up_ne, pk_us, pk_un, if_pos, if_neg, eq_self, and_true, true_and, and_false, false_and, if_true, if_false, Bool.false_eq_true]) n 0 (nI 0, P2) (by omega) (by omega) ⟨rfl, fun k _ => rfl, fun p h => by omega⟩
  obtain ⟨h3k, h3s⟩ := h3
  refine ⟨P3, ?_, ?_⟩
  · unfold fX2_copyFrom
    simp (disch := first | omega | assumption) only [kk_nm, Option.bind_some, kl_0, kl_1, kl_2, kl_3, kl_4, kl_5, kl_6, kl_7, kl_8, kl_9, kl_10, kl_12, kl_14, kl_15, kl_16, kl_20, kl_31, kl_33, kl_48, kl_49, kl_50, kl_57, kl_59, kl_60, kl_62, kl_63, kl_98, kl_99, kl_103, kl_104, kl_126, kl_144, kl_310, kl_372, kl_100000, kl_1000000, kl_neg, kl_mm, kl_am, nI_add, kl_mul, kl_sub, kl_le, kl_lt, kl_eq, kl_eM, kl_Me, kl_ltM, kl_leM, kl_ck, kl_cj, kl_cb, kl_bit, nI_clamp, va_up_self, va_up_ne, pk_us, pk_un, if_pos, if_neg, eq_self, and_true, true_and, and_false, false_and, if_true, if_false, Bool.false_eq_true, g0, g5, e1, e2, e3]
  · unfold RP
    rw [h3k 0 (by omega), h3k 1 (by omega), h3k 2 (by omega), h3k 3 (by omega), h3k 4 (by omega), h3k 5 (by omega), h3k 6 (by omega), h3k 7 (by omega), h2k 0 (by omega), h2k 1 (by omega), h2k 2 (by omega), h2k 3 (by omega), h2k 4 (by omega)]
    refine ⟨h10, h25, fun p hp => ?_, fun b hb => ?_, fun i hi => ?_⟩
    · obtain ⟨a1, a2, a3, a4⟩ := h1f p hp
      rw [a1, a2, a3, a4]
      exact gf p hp
    · obtain ⟨a1, a2⟩ := h2b b hb
      rw [a1, a2]
      exact gb b hb
    · rw [h3s i hi]
      exact gs i hi
end
