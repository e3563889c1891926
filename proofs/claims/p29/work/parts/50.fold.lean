/-! the fold that is over first; folding a float -/
def fS (u x : Nat) (s : Nat → Nat) : Nat → Nat := fun k => if k = 17 + 4 * u then x else s k
def t_fe (s : Nat → Nat) (u : Nat) : Nat := t_end (fS u 1 s) (s 3)
def t_fo (s : Nat → Nat) : Nat → Nat × Nat
  | 0 => (0, 0)
  | u + 1 => if s (17 + 4 * u) = 0 ∧ ((t_fo s u).1 = 0 ∨ t_fe s u < (t_fo s u).2) then (u + 1, t_fe s u) else t_fo s u
def cod (x : Nat) : Int32 := if x = 0 then kM else nI (x - 1)
theorem fS_lo {u x k : Nat} {s : Nat → Nat} (h : k < 14) : fS u x s k = s k := by unfold fS; rw [if_neg (by omega)]
theorem fS_at {u x q : Nat} {s : Nat → Nat} : fS u x s (14 + 4 * q) = s (14 + 4 * q) ∧ fS u x s (15 + 4 * q) = s (15 + 4 * q) ∧ fS u x s (16 + 4 * q) = s (16 + 4 * q) ∧ fS u x s (17 + 4 * q) = if q = u then x else s (17 + 4 * q) := by
  unfold fS
  rw [if_neg (by omega), if_neg (by omega), if_neg (by omega)]
  refine ⟨rfl, rfl, rfl, ?_⟩
  by_cases c : q = u
  · rw [if_pos c, if_pos (by omega)]
  · rw [if_neg c, if_neg (by omega)]
theorem WF_fS {u x : Nat} {s : Nat → Nat} (hW : WF s) (hx : x ≤ 1) : WF (fS u x s) := by
  have w1 := hW.2.1
  refine WF_of hW (fun k h _ => fS_lo h) (by rw [fS_lo (by omega)]; omega) (fun q hq => ?_)
  rw [fS_lo (by omega)] at hq
  obtain ⟨e0, e1, e2, e3⟩ := fS_at (u := u) (x := x) (q := q) (s := s)
  have w := hW.2.2.1 q hq
  rw [e0, e1, e2, e3]
  by_cases c : q = u
  · rw [if_pos c]; omega
  · rw [if_neg c]; exact w
theorem RP_fS {P : St1} {s : Nat → Nat} {u x : Nat} (hR : RP P s) (hW : WF s) : RP (va_up P 4 (upd (P 4) u (nI x))) (fS u x s) := by
  obtain ⟨g0, g5, gf, gb, gs⟩ := hR
  unfold RP
  rw [fS_lo (by omega), fS_lo (by omega)]
  simp (disch := omega) only [va_up_ne, va_up_self]
  refine ⟨g0, g5, fun p hp => ?_, fun b hb => ?_, fun i hi => ?_⟩
  · obtain ⟨e0, e1, e2, e3⟩ := fS_at (u := u) (x := x) (q := p) (s := s)
    obtain ⟨h1, h2, h3, h4⟩ := gf p hp
    rw [e0, e1, e2, e3]
    by_cases c : p = u
    · rw [if_pos c, c, pk_us]; rw [c] at h1 h2 h3; exact ⟨h1, h2, h3, rfl⟩
    · rw [if_neg c, pk_un c]; exact ⟨h1, h2, h3, h4⟩
  · have w1 := hW.2.1
    rw [fS_lo (by omega), fS_lo (by omega)]
    exact gb b hb
  · rw [fS_lo (by omega)]
    exact gs i hi
theorem fS_back {s : Nat → Nat} {u : Nat} (h : s (17 + 4 * u) = 0) : fS u 0 (fS u 1 s) = s := by
  funext k
  unfold fS
  by_cases c : k = 17 + 4 * u
  · rw [if_pos c, c, h]
  · rw [if_neg c, if_neg c]
theorem t_fo_le {s : Nat → Nat} (hW : WF s) : ∀ u, u ≤ 12 → (t_fo s u).1 ≤ u ∧ (t_fo s u).2 ≤ 999
  | 0, _ => ⟨Nat.le_refl _, Nat.zero_le _⟩
  | u + 1, hu => by
    have h := t_fo_le hW u (by omega)
    have h2 : t_fe s u ≤ 999 := t_end_le (WF_fS hW (by omega)) hW.1.2.2.2.2.2.2
    have e : t_fo s (u + 1) = if s (17 + 4 * u) = 0 ∧ ((t_fo s u).1 = 0 ∨ t_fe s u < (t_fo s u).2) then (u + 1, t_fe s u) else t_fo s u := rfl
    rw [e]
    by_cases c : s (17 + 4 * u) = 0 ∧ ((t_fo s u).1 = 0 ∨ t_fe s u < (t_fo s u).2)
    · rw [if_pos c]; exact ⟨Nat.le_refl _, h2⟩
    · rw [if_neg c]; omega
section
variable {n : Nat} {s : Nat → Nat}
theorem q4_bestFold {G : St2} (hn : 1000 ≤ n) (hR : RP (G 1) s) (hW : WF s) : ∃ G', fX4_bestFold n G = some (cod (t_fo s (s 4)).1, G') ∧ ∀ k, k ≠ 2 → G' k = G k := by
  have w1 := hW.2.1
  obtain ⟨P1, e1, hR1⟩ := q2_copyFrom (n := n) (P := G 2) hn hR hW
  obtain ⟨⟨x, G1⟩, e4, hx, hG1⟩ := kl_forI (body := fun (st : Int32 × Int32 × Int32 × St2) => fX4_bestFold_b17 n st.1 st.2.1 st.2.2.1 st.2.2.2) (fun u st => st.1 = cod (t_fo s u).1 ∧ st.2.1 = nI (t_fo s u).2 ∧ st.2.2.1 = nI u ∧ RP (st.2.2.2 2) s ∧ ∀ k, k ≠ 2 → st.2.2.2 k = G k) (fun r => r.1 = cod (t_fo s (s 4)).1 ∧ ∀ k, k ≠ 2 → r.2 k = G k) (s 4) (fun u st hu hI => by
    obtain ⟨x0, x1, x2, G1⟩ := st
    obtain ⟨rfl, rfl, rfl, hR4, hk⟩ := hI
    dsimp only at hR4 hk ⊢
    have h20 := hR4.1
    have h24 := (hR4.2.2.1 u hu).2.2.2
    have wu := hW.2.2.1 u hu
    have hl := t_fo_le hW u (by omega)
    have hst : t_fo s (u + 1) = if s (17 + 4 * u) = 0 ∧ ((t_fo s u).1 = 0 ∨ t_fe s u < (t_fo s u).2) then (u + 1, t_fe s u) else t_fo s u := rfl
    by_cases c0 : s (17 + 4 * u) = 0
    · have hfe : t_fe s u ≤ 999 := t_end_le (WF_fS hW (by omega)) hW.1.2.2.2.2.2.2
      obtain ⟨P2, e2, hR2⟩ := q2_end (n := n) hn (RP_fS (u := u) (x := 1) hR4 hW) (WF_fS hW (by omega))
      rw [fS_lo (by omega)] at e2
      have e2' : fX2_end n (va_up (G1 2) 4 (upd (G1 2 4) u (nI 1))) = some (nI (t_fe s u), P2) := e2
      have hR5 := RP_fS (u := u) (x := 0) hR2 (WF_fS hW (by omega))
      rw [fS_back c0] at hR5
      by_cases c1 : (t_fo s u).1 = 0 ∨ t_fe s u < (t_fo s u).2
      · rw [if_pos ⟨c0, c1⟩] at hst
        refine ⟨(nI u, nI (t_fe s u), nI (u + 1), va_up (va_up (va_up G1 2 (va_up (G1 2) 4 (upd (G1 2 4) u (nI 1)))) 2 P2) 2 (va_up P2 4 (upd (P2 4) u (nI 0)))), ?_, by rw [hst]; rfl, by rw [hst], rfl, by dsimp only; rw [va_up_self]; exact hR5, fun k k2 => by dsimp only; rw [va_up_ne _ _ k2, va_up_ne _ _ k2, va_up_ne _ _ k2]; exact hk k k2⟩
        rw [c0] at h24
        unfold fX4_bestFold_b17 cod
        by_cases c2 : (t_fo s u).1 = 0
        · simp (disch := first | omega | assumption) only [kk_nm, Option.bind_some, kl_0, kl_1, kl_2, kl_3, kl_4, kl_5, kl_6, kl_7, kl_8, kl_9, kl_10, kl_12, kl_14, kl_15, kl_16, kl_20, kl_31, kl_33, kl_48, kl_49, kl_50, kl_57, kl_59, kl_60, kl_62, kl_63, kl_98, kl_99, kl_103, kl_104, kl_126, kl_144, kl_310, kl_372, kl_100000, kl_1000000, kl_neg, kl_mm, kl_am, nI_add, kl_mul, kl_sub, kl_le, kl_lt, kl_eq, kl_eM, kl_Me, kl_ltM, kl_leM, kl_ck, kl_cj, kl_cb, kl_bit, nI_clamp, va_up_self, va_up_ne, pk_us, pk_un, if_pos, if_neg, eq_self, and_true, true_and, and_false, false_and, if_true, if_false, Bool.false_eq_true, h20, h24, e2', c2]
        · simp (disch := first | omega | assumption) only [kk_nm, Option.bind_some, kl_0, kl_1, kl_2, kl_3, kl_4, kl_5, kl_6, kl_7, kl_8, kl_9, kl_10, kl_12, kl_14, kl_15, kl_16, kl_20, kl_31, kl_33, kl_48, kl_49, kl_50, kl_57, kl_59, kl_60, kl_62, kl_63, kl_98, kl_99, kl_103, kl_104, kl_126, kl_144, kl_310, kl_372, kl_100000, kl_1000000, kl_neg, kl_mm, kl_am, nI_add, kl_mul, kl_sub, kl_le, kl_lt, kl_eq, kl_eM, kl_Me, kl_ltM, kl_leM, kl_ck, kl_cj, kl_cb, kl_bit, nI_clamp, va_up_self, va_up_ne, pk_us, pk_un, if_pos, if_neg, eq_self, and_true, true_and, and_false, false_and, if_true, if_false, Bool.false_eq_true, h20, h24, e2']
      · rw [if_neg (fun h => c1 h.2)] at hst
        refine ⟨(cod (t_fo s u).1, nI (t_fo s u).2, nI (u + 1), va_up (va_up (va_up G1 2 (va_up (G1 2) 4 (upd (G1 2 4) u (nI 1)))) 2 P2) 2 (va_up P2 4 (upd (P2 4) u (nI 0)))), ?_, by rw [hst], by rw [hst], rfl, by dsimp only; rw [va_up_self]; exact hR5, fun k k2 => by dsimp only; rw [va_up_ne _ _ k2, va_up_ne _ _ k2, va_up_ne _ _ k2]; exact hk k k2⟩
        rw [c0] at h24
        unfold fX4_bestFold_b17 cod
        simp (disch := first | omega | assumption) only [kk_nm, Option.bind_some, kl_0, kl_1, kl_2, kl_3, kl_4, kl_5, kl_6, kl_7, kl_8, kl_9, kl_10, kl_12, kl_14, kl_15, kl_16, kl_20, kl_31, kl_33, kl_48, kl_49, kl_50, kl_57, kl_59, kl_60, kl_62, kl_63, kl_98, kl_99, kl_103, kl_104, kl_126, kl_144, kl_310, kl_372, kl_100000, kl_1000000, kl_neg, kl_mm, kl_am, nI_add, kl_mul, kl_sub, kl_le, kl_lt, kl_eq, kl_eM, kl_Me, kl_ltM, kl_leM, kl_ck, kl_cj, kl_cb, kl_bit, nI_clamp, va_up_self, va_up_ne, pk_us, pk_un, if_pos, if_neg, eq_self, and_true, true_and, and_false, false_and, if_true, if_false, Bool.false_eq_true, h20, h24, e2']
    · rw [if_neg (fun h => c0 h.1)] at hst
      refine ⟨(cod (t_fo s u).1, nI (t_fo s u).2, nI (u + 1), G1), ?_, by rw [hst], by rw [hst], rfl, hR4, hk⟩
      unfold fX4_bestFold_b17
      simp (disch := first | omega | assumption) only [kk_nm, Option.bind_some, kl_0, kl_1, kl_2, kl_3, kl_4, kl_5, kl_6, kl_7, kl_8, kl_9, kl_10, kl_12, kl_14, kl_15, kl_16, kl_20, kl_31, kl_33, kl_48, kl_49, kl_50, kl_57, kl_59, kl_60, kl_62, kl_63, kl_98, kl_99, kl_103, kl_104, kl_126, kl_144, kl_310, kl_372, kl_100000, kl_1000000, kl_neg, kl_mm, kl_am, nI_add, kl_mul, kl_sub, kl_le, kl_lt, kl_eq, kl_eM, kl_Me, kl_ltM, kl_leM, kl_ck, kl_cj, kl_cb, kl_bit, nI_clamp, va_up_self, va_up_ne, pk_us, pk_un, if_pos, if_neg, eq_self, and_true, true_and, and_false, false_and, if_true, if_false, Bool.false_eq_true, h20, h24]) (fun st hI => by
    obtain ⟨x0, x1, x2, G1⟩ := st
    obtain ⟨rfl, rfl, rfl, hR4, hk⟩ := hI
    dsimp only at hR4 hk ⊢
    have h20 := hR4.1
    refine ⟨(cod (t_fo s (s 4)).1, G1), ?_, rfl, hk⟩
    unfold fX4_bestFold_b17
    simp (disch := first | omega | assumption) only [kk_nm, Option.bind_some, kl_0, kl_1, kl_2, kl_3, kl_4, kl_5, kl_6, kl_7, kl_8, kl_9, kl_10, kl_12, kl_14, kl_15, kl_16, kl_20, kl_31, kl_33, kl_48, kl_49, kl_50, kl_57, kl_59, kl_60, kl_62, kl_63, kl_98, kl_99, kl_103, kl_104, kl_126, kl_144, kl_310, kl_372, kl_100000, kl_1000000, kl_neg, kl_mm, kl_am, nI_add, kl_mul, kl_sub, kl_le, kl_lt, kl_eq, kl_eM, kl_Me, kl_ltM, kl_leM, kl_ck, kl_cj, kl_cb, kl_bit, nI_clamp, va_up_self, va_up_ne, pk_us, pk_un, if_pos, if_neg, eq_self, and_true, true_and, and_false, false_and, if_true, if_false, Bool.false_eq_true, h20]) n 0 (kM, nI 0, nI 0, va_up G 2 P1) (by omega) (by omega) ⟨rfl, rfl, rfl, by dsimp only; rw [va_up_self]; exact hR1, fun k k2 => by dsimp only; rw [va_up_ne _ _ k2]⟩
  dsimp only at hx hG1
  subst hx
  refine ⟨G1, ?_, hG1⟩
  unfold fX4_bestFold
  simp (disch := first | omega | assumption) only [kk_nm, Option.bind_some, kl_0, kl_1, kl_2, kl_3, kl_4, kl_5, kl_6, kl_7, kl_8, kl_9, kl_10, kl_12, kl_14, kl_15, kl_16, kl_20, kl_31, kl_33, kl_48, kl_49, kl_50, kl_57, kl_59, kl_60, kl_62, kl_63, kl_98, kl_99, kl_103, kl_104, kl_126, kl_144, kl_310, kl_372, kl_100000, kl_1000000, kl_neg, kl_mm, kl_am, nI_add, kl_mul, kl_sub, kl_le, kl_lt, kl_eq, kl_eM, kl_Me, kl_ltM, kl_leM, kl_ck, kl_cj, kl_cb, kl_bit, nI_clamp, va_up_self, va_up_ne, pk_us, pk_un, if_pos, if_neg, eq_self, and_true, true_and, and_false, false_and, if_true, if_false, Bool.false_eq_true, e1, e4]
theorem q5_folding {M : St1} (hn : 1000 ≤ n) (hR : RM (M 0) s) (hW : WF s) : ∃ M', fX5_folding n M = some (cod (t_fo s (s 4)).1, M') ∧ ∀ i, i ≠ 1 → i ≠ 11 → M' i = M i := by
  have w1 := hW.2.1
  obtain ⟨⟨x, M1⟩, e4, hx, hM1⟩ := kl_forI (body := fun (st : Int32 × Int32 × Int32 × St1) => fX5_folding_b6 n st.1 st.2.1 st.2.2.1 st.2.2.2) (fun u st => st.1 = cod (t_fo s u).1 ∧ st.2.1 = nI (t_fo s u).2 ∧ st.2.2.1 = nI u ∧ ∀ k, k ≠ 1 → k ≠ 11 → st.2.2.2 k = M k) (fun r => r.1 = cod (t_fo s (s 4)).1 ∧ ∀ k, k ≠ 1 → k ≠ 11 → r.2 k = M k) (s 4) (fun u st hu hI => by
    obtain ⟨x0, x1, x2, M1⟩ := st
    obtain ⟨rfl, rfl, rfl, hk⟩ := hI
    dsimp only at hk ⊢
    have m0 := hk 0 (by omega) (by omega)
    have hR1 : RM (M1 0) s := by rw [m0]; exact hR
    have r0 := hR1.r
    have o3 := q5_of3 (n := n) (p := u) hR1 (by omega)
    have wu := hW.2.2.1 u hu
    have hl := t_fo_le hW u (by omega)
    have hst : t_fo s (u + 1) = if s (17 + 4 * u) = 0 ∧ ((t_fo s u).1 = 0 ∨ t_fe s u < (t_fo s u).2) then (u + 1, t_fe s u) else t_fo s u := rfl
    by_cases c0 : s (17 + 4 * u) = 0
    · have hfe : t_fe s u ≤ 999 := t_end_le (WF_fS hW (by omega)) hW.1.2.2.2.2.2.2
      obtain ⟨f1, e1, hR2⟩ := q5_copy (n := n) (h := M1 1) hn hR1
      have e1' : fX5_copies n 62 62 (M1 0) (M1 1) (nI 0) (nI 0) = some f1 := e1
      have ei : 14 + 4 * u + 3 = 17 + 4 * u := by omega
      obtain ⟨M3, e2, h3, -⟩ := q5_endsT (n := n) (M := va_up (va_up M1 1 f1) 1 (upd f1 (17 + 4 * u) (nI 1))) (s := fS u 1 s) hn (by rw [va_up_self]; exact RM_up hR2) (WF_fS hW (by omega))
      rw [fS_lo (by omega)] at e2
      have e2' : fX5_endsT n (va_up (va_up M1 1 f1) 1 (upd f1 (17 + 4 * u) (nI 1))) = some (nI (t_fe s u), M3) := e2
      have hkk : ∀ k, k ≠ 1 → k ≠ 11 → M3 k = M k := fun k k1 k11 => by rw [h3 k k11, va_up_ne _ _ k1, va_up_ne _ _ k1]; exact hk k k1 k11
      by_cases c1 : (t_fo s u).1 = 0 ∨ t_fe s u < (t_fo s u).2
      · rw [if_pos ⟨c0, c1⟩] at hst
        refine ⟨(nI u, nI (t_fe s u), nI (u + 1), M3), ?_, by rw [hst]; rfl, by rw [hst], rfl, hkk⟩
        rw [c0] at o3
        unfold fX5_folding_b6 cod
        by_cases c2 : (t_fo s u).1 = 0
        · simp (disch := first | omega | assumption) only [kk_nm, Option.bind_some, kl_0, kl_1, kl_2, kl_3, kl_4, kl_5, kl_6, kl_7, kl_8, kl_9, kl_10, kl_12, kl_14, kl_15, kl_16, kl_20, kl_31, kl_33, kl_48, kl_49, kl_50, kl_57, kl_59, kl_60, kl_62, kl_63, kl_98, kl_99, kl_103, kl_104, kl_126, kl_144, kl_310, kl_372, kl_100000, kl_1000000, kl_neg, kl_mm, kl_am, nI_add, kl_mul, kl_sub, kl_le, kl_lt, kl_eq, kl_eM, kl_Me, kl_ltM, kl_leM, kl_ck, kl_cj, kl_cb, kl_bit, nI_clamp, va_up_self, va_up_ne, pk_us, pk_un, if_pos, if_neg, eq_self, and_true, true_and, and_false, false_and, if_true, if_false, Bool.false_eq_true, r0, o3, e1', ei, e2', c2]
        · simp (disch := first | omega | assumption) only [kk_nm, Option.bind_some, kl_0, kl_1, kl_2, kl_3, kl_4, kl_5, kl_6, kl_7, kl_8, kl_9, kl_10, kl_12, kl_14, kl_15, kl_16, kl_20, kl_31, kl_33, kl_48, kl_49, kl_50, kl_57, kl_59, kl_60, kl_62, kl_63, kl_98, kl_99, kl_103, kl_104, kl_126, kl_144, kl_310, kl_372, kl_100000, kl_1000000, kl_neg, kl_mm, kl_am, nI_add, kl_mul, kl_sub, kl_le, kl_lt, kl_eq, kl_eM, kl_Me, kl_ltM, kl_leM, kl_ck, kl_cj, kl_cb, kl_bit, nI_clamp, va_up_self, va_up_ne, pk_us, pk_un, if_pos, if_neg, eq_self, and_true, true_and, and_false, false_and, if_true, if_false, Bool.false_eq_true, r0, o3, e1', ei, e2']
      · rw [if_neg (fun h => c1 h.2)] at hst
        refine ⟨(cod (t_fo s u).1, nI (t_fo s u).2, nI (u + 1), M3), ?_, by rw [hst], by rw [hst], rfl, hkk⟩
        rw [c0] at o3
        unfold fX5_folding_b6 cod
        simp (disch := first | omega | assumption) only [kk_nm, Option.bind_some, kl_0, kl_1, kl_2, kl_3, kl_4, kl_5, kl_6, kl_7, kl_8, kl_9, kl_10, kl_12, kl_14, kl_15, kl_16, kl_20, kl_31, kl_33, kl_48, kl_49, kl_50, kl_57, kl_59, kl_60, kl_62, kl_63, kl_98, kl_99, kl_103, kl_104, kl_126, kl_144, kl_310, kl_372, kl_100000, kl_1000000, kl_neg, kl_mm, kl_am, nI_add, kl_mul, kl_sub, kl_le, kl_lt, kl_eq, kl_eM, kl_Me, kl_ltM, kl_leM, kl_ck, kl_cj, kl_cb, kl_bit, nI_clamp, va_up_self, va_up_ne, pk_us, pk_un, if_pos, if_neg, eq_self, and_true, true_and, and_false, false_and, if_true, if_false, Bool.false_eq_true, r0, o3, e1', ei, e2']
    · rw [if_neg (fun h => c0 h.1)] at hst
      refine ⟨(cod (t_fo s u).1, nI (t_fo s u).2, nI (u + 1), M1), ?_, by rw [hst], by rw [hst], rfl, hk⟩
      unfold fX5_folding_b6
      simp (disch := first | omega | assumption) only [kk_nm, Option.bind_some, kl_0, kl_1, kl_2, kl_3, kl_4, kl_5, kl_6, kl_7, kl_8, kl_9, kl_10, kl_12, kl_14, kl_15, kl_16, kl_20, kl_31, kl_33, kl_48, kl_49, kl_50, kl_57, kl_59, kl_60, kl_62, kl_63, kl_98, kl_99, kl_103, kl_104, kl_126, kl_144, kl_310, kl_372, kl_100000, kl_1000000, kl_neg, kl_mm, kl_am, nI_add, kl_mul, kl_sub, kl_le, kl_lt, kl_eq, kl_eM, kl_Me, kl_ltM, kl_leM, kl_ck, kl_cj, kl_cb, kl_bit, nI_clamp, va_up_self, va_up_ne, pk_us, pk_un, if_pos, if_neg, eq_self, and_true, true_and, and_false, false_and, if_true, if_false, Bool.false_eq_true, r0, o3]) (fun st hI => by
    obtain ⟨x0, x1, x2, M1⟩ := st
    obtain ⟨rfl, rfl, rfl, hk⟩ := hI
    dsimp only at hk ⊢
    have m0 := hk 0 (by omega) (by omega)
    have hR1 : RM (M1 0) s := by rw [m0]; exact hR
    have r0 := hR1.r
    refine ⟨(cod (t_fo s (s 4)).1, M1), ?_, rfl, hk⟩
    unfold fX5_folding_b6
    simp (disch := first | omega | assumption) only [kk_nm, Option.bind_some, kl_0, kl_1, kl_2, kl_3, kl_4, kl_5, kl_6, kl_7, kl_8, kl_9, kl_10, kl_12, kl_14, kl_15, kl_16, kl_20, kl_31, kl_33, kl_48, kl_49, kl_50, kl_57, kl_59, kl_60, kl_62, kl_63, kl_98, kl_99, kl_103, kl_104, kl_126, kl_144, kl_310, kl_372, kl_100000, kl_1000000, kl_neg, kl_mm, kl_am, nI_add, kl_mul, kl_sub, kl_le, kl_lt, kl_eq, kl_eM, kl_Me, kl_ltM, kl_leM, kl_ck, kl_cj, kl_cb, kl_bit, nI_clamp, va_up_self, va_up_ne, pk_us, pk_un, if_pos, if_neg, eq_self, and_true, true_and, and_false, false_and, if_true, if_false, Bool.false_eq_true, r0]) n 0 (kM, nI 0, nI 0, M) (by omega) (by omega) ⟨rfl, rfl, rfl, fun k _ _ => rfl⟩
  dsimp only at hx hM1
  subst hx
  refine ⟨M1, ?_, hM1⟩
  unfold fX5_folding
  simp (disch := first | omega | assumption) only [kk_nm, Option.bind_some, kl_0, kl_1, kl_2, kl_3, kl_4, kl_5, kl_6, kl_7, kl_8, kl_9, kl_10, kl_12, kl_14, kl_15, kl_16, kl_20, kl_31, kl_33, kl_48, kl_49, kl_50, kl_57, kl_59, kl_60, kl_62, kl_63, kl_98, kl_99, kl_103, kl_104, kl_126, kl_144, kl_310, kl_372, kl_100000, kl_1000000, kl_neg, kl_mm, kl_am, nI_add, kl_mul, kl_sub, kl_le, kl_lt, kl_eq, kl_eM, kl_Me, kl_ltM, kl_leM, kl_ck, kl_cj, kl_cb, kl_bit, nI_clamp, va_up_self, va_up_ne, pk_us, pk_un, if_pos, if_neg, eq_self, and_true, true_and, and_false, false_and, if_true, if_false, Bool.false_eq_true, e4]
end
