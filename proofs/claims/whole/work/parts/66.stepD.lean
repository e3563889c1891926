def sS (j x : Nat) (s : Nat → Nat) : Nat → Nat := fun k => if k = j then x else s k
theorem WF_sS {s : Nat → Nat} {j x : Nat} (hW : WF s) (hj : j < 4) (h0 : j = 0 → 1 ≤ x ∧ x ≤ 6) (h12 : j = 1 ∨ j = 2 → 1 ≤ x ∧ x ≤ 9) (h3 : j = 3 → x ≤ 20) : WF (sS j x s) := by
  have hi : ∀ k, ¬ k = j → sS j x s k = s k := fun k h => by unfold sS; rw [if_neg h]
  have hs : sS j x s j = x := by unfold sS; rw [if_pos rfl]
  obtain ⟨w0, w1, w2, w3, w4⟩ := hW
  unfold WF
  rw [hi 4 (by omega), hi 5 (by omega)]
  refine ⟨?_, w1, fun p hp => ?_, fun b hb => ?_, fun b hb => ?_⟩
  · rcases (by omega : j = 0 ∨ j = 1 ∨ j = 2 ∨ j = 3) with rfl | rfl | rfl | rfl
    · rw [hs, hi 1 (by omega), hi 2 (by omega), hi 3 (by omega)]; omega
    · rw [hs, hi 0 (by omega), hi 2 (by omega), hi 3 (by omega)]; omega
    · rw [hs, hi 0 (by omega), hi 1 (by omega), hi 3 (by omega)]; omega
    · rw [hs, hi 0 (by omega), hi 1 (by omega), hi 2 (by omega)]; omega
  · rw [hi _ (by omega), hi _ (by omega), hi _ (by omega), hi _ (by omega)]
    exact w2 p hp
  · rw [hi _ (by omega), hi _ (by omega)]
    exact w3 b hb
  · rw [hi _ (by omega), hi _ (by omega)]
    exact w4 b hb
theorem RP_sS {P : St1} {s : Nat → Nat} {j x : Nat} (hR : RP P s) (hj : j < 4) : RP (va_up P 8 (upd (P 8) j (nI x))) (sS j x s) := by
  have hi : ∀ k, ¬ k = j → sS j x s k = s k := fun k h => by unfold sS; rw [if_neg h]
  have hs : sS j x s j = x := by unfold sS; rw [if_pos rfl]
  obtain ⟨g0, g5, gf, gb, gs⟩ := hR
  unfold RP
  rw [hi 4 (by omega), hi 5 (by omega)]
  simp (disch := omega) only [va_up_ne, va_up_self]
  refine ⟨g0, g5, fun p hp => ?_, fun b hb => ?_, fun i h4 => ?_⟩
  · rw [hi _ (by omega), hi _ (by omega), hi _ (by omega), hi _ (by omega)]
    exact gf p hp
  · rw [hi _ (by omega), hi _ (by omega)]
    exact gb b hb
  · by_cases e : i = j
    · rw [e, pk_us, hs]
    · rw [pk_un e, hi i e]; exact gs i h4
section
variable {n : Nat} {G V : St2} {M : St1}
theorem st_set (hn : 1000 ≤ n) (h : RR G V M) (v w : Int32) : OK3 [1, 2] id G V (fX4_set n G V v w) (fX5_set n M v w) := by
  have hr := h
  obtain ⟨s, c, ps, cc, t, h⟩ := h
  have hx := h
  obtain ⟨hP, hM, hW, hH, -⟩ := h
  have hS := hP.2.2.2.2
  have bad : ∀ k, RR G V (va_up (va_up M 6 (fun _ => nI 0)) 6 (fun _ => nI k)) := fun k => RR_6 (RR_6 hr)
  rcases needP (n := n) (m := 3) (by omega) v with ⟨hv, x⟩ | ⟨j, hj, rfl, x⟩
  · left
    have y := neg_lt (a := 0) hv (by omega)
    refine ⟨1, nI 0, _, ?_, by decide, ?_, rfl, bad 1⟩
    · unfold fX4_set fX4_needSetting
      simp (disch := first | omega | assumption) only [kk_nm, Option.bind_some, kl_0, kl_1, kl_2, kl_3, kl_4, kl_5, kl_6, kl_7, kl_8, kl_9, kl_10, kl_12, kl_14, kl_15, kl_16, kl_20, kl_31, kl_33, kl_48, kl_49, kl_50, kl_57, kl_59, kl_60, kl_62, kl_63, kl_98, kl_99, kl_103, kl_104, kl_126, kl_144, kl_310, kl_372, kl_100000, kl_1000000, kl_neg, kl_mm, kl_am, nI_add, kl_mul, kl_sub, kl_le, kl_lt, kl_eq, kl_eM, kl_Me, kl_ltM, kl_leM, kl_ck, kl_cj, kl_cb, kl_bit, nI_clamp, va_up_self, va_up_ne, pk_us, pk_un, if_pos, if_neg, eq_self, and_true, true_and, and_false, false_and, if_true, if_false, Bool.false_eq_true, y, kk_trl]
    · unfold fX5_set
      simp (disch := first | omega | assumption) only [kk_nm, Option.bind_some, kl_0, kl_1, kl_2, kl_3, kl_4, kl_5, kl_6, kl_7, kl_8, kl_9, kl_10, kl_12, kl_14, kl_15, kl_16, kl_20, kl_31, kl_33, kl_48, kl_49, kl_50, kl_57, kl_59, kl_60, kl_62, kl_63, kl_98, kl_99, kl_103, kl_104, kl_126, kl_144, kl_310, kl_372, kl_100000, kl_1000000, kl_neg, kl_mm, kl_am, nI_add, kl_mul, kl_sub, kl_le, kl_lt, kl_eq, kl_eM, kl_Me, kl_ltM, kl_leM, kl_ck, kl_cj, kl_cb, kl_bit, nI_clamp, va_up_self, va_up_ne, pk_us, pk_un, if_pos, if_neg, eq_self, and_true, true_and, and_false, false_and, if_true, if_false, Bool.false_eq_true, x, q5_fails]
  · by_cases d : j ≤ 3
    · rw [if_pos d] at x
      -- the bounds of this setting
      obtain ⟨lo, hi, elo, ehi, elo2, ehi2, hlo, hhi, c0, c12, c3⟩ : ∃ lo hi, k_lo j = nI lo ∧ k_hi j = nI hi ∧ (if nI j = nI 3 then some (nI 0) else some (nI 1)) = some (nI lo) ∧ (if nI j = nI 0 then some (nI 6) else if nI j = nI 3 then some (nI 20) else some (nI 9)) = some (nI hi) ∧ lo ≤ 1 ∧ hi ≤ 20 ∧ (j = 0 → lo = 1 ∧ hi = 6) ∧ (j = 1 ∨ j = 2 → lo = 1 ∧ hi = 9) ∧ (j = 3 → hi = 20) := by
        rcases (by omega : j = 0 ∨ j = 1 ∨ j = 2 ∨ j = 3) with rfl | rfl | rfl | rfl
        · exact ⟨1, 6, rfl, rfl, rfl, rfl, by omega, by omega, fun _ => ⟨rfl, rfl⟩, fun h => by omega, fun h => by omega⟩
        · exact ⟨1, 9, rfl, rfl, rfl, rfl, by omega, by omega, fun h => by omega, fun _ => ⟨rfl, rfl⟩, fun h => by omega⟩
        · exact ⟨1, 9, rfl, rfl, rfl, rfl, by omega, by omega, fun h => by omega, fun _ => ⟨rfl, rfl⟩, fun h => by omega⟩
        · exact ⟨0, 20, rfl, rfl, rfl, rfl, by omega, by omega, fun h => by omega, fun h => by omega, fun _ => rfl⟩
      have ref : ∀ (r : Option (Int32 × St1)), (Option.bind (fX5_in n w (nI lo) (nI hi)) fun (x12 : Int32) => if x12 = 0 then (Option.bind (fX5_fails n (va_up M 6 (fun _ => nI 0)) (2 : Int32)) fun (x18 : Int32 × St1) => some (x18.1, x18.2)) else (Option.bind (fX5_saves n (va_up M 6 (fun _ => nI 0))) fun (x14 : St1) => kk_ck (nI j) 62 (kk_ck (nI j) 62 (kk_nm (va_up x14 0 (upd (x14 0) (nI j).toNatClampNeg w)) fun M16 => some ((x14 0) (nI j).toNatClampNeg, M16))))) = r → fX5_set n M (nI j) w = r := by
        intro r hrr
        rw [← hrr]
        unfold fX5_set
        simp only [kk_nm]
        rw [kl_0, kl_3, x]
        simp only [Option.bind_some]
        rw [if_neg (show ¬ nI 1 = nI 0 by decide), kl_1, kl_6, kl_20, kl_9, elo2, ehi2]
        rfl
      rcases arg_cases w with hw | ⟨b, hb, rfl⟩
      · left
        have y := neg_lt (a := lo) hw (by omega)
        have z := fun q => q5_inN (n := n) (y := q) (a := lo) hw (by omega)
        refine ⟨2, nI 0, va_up (va_up M 6 (fun _ => nI 0)) 6 (fun _ => nI 2), ?_, by decide, ref _ ?_, rfl, bad 2⟩
        · unfold fX4_set fX4_needSetting
          simp (disch := first | omega | assumption) only [kk_nm, Option.bind_some, kl_0, kl_1, kl_2, kl_3, kl_4, kl_5, kl_6, kl_7, kl_8, kl_9, kl_10, kl_12, kl_14, kl_15, kl_16, kl_20, kl_31, kl_33, kl_48, kl_49, kl_50, kl_57, kl_59, kl_60, kl_62, kl_63, kl_98, kl_99, kl_103, kl_104, kl_126, kl_144, kl_310, kl_372, kl_100000, kl_1000000, kl_neg, kl_mm, kl_am, nI_add, kl_mul, kl_sub, kl_le, kl_lt, kl_eq, kl_eM, kl_Me, kl_ltM, kl_leM, kl_ck, kl_cj, kl_cb, kl_bit, nI_clamp, va_up_self, va_up_ne, pk_us, pk_un, if_pos, if_neg, eq_self, and_true, true_and, and_false, false_and, if_true, if_false, Bool.false_eq_true, kk_trr, elo, y]
        · simp (disch := first | omega | assumption) only [kk_nm, Option.bind_some, kl_0, kl_1, kl_2, kl_3, kl_4, kl_5, kl_6, kl_7, kl_8, kl_9, kl_10, kl_12, kl_14, kl_15, kl_16, kl_20, kl_31, kl_33, kl_48, kl_49, kl_50, kl_57, kl_59, kl_60, kl_62, kl_63, kl_98, kl_99, kl_103, kl_104, kl_126, kl_144, kl_310, kl_372, kl_100000, kl_1000000, kl_neg, kl_mm, kl_am, nI_add, kl_mul, kl_sub, kl_le, kl_lt, kl_eq, kl_eM, kl_Me, kl_ltM, kl_leM, kl_ck, kl_cj, kl_cb, kl_bit, nI_clamp, va_up_self, va_up_ne, pk_us, pk_un, if_pos, if_neg, eq_self, and_true, true_and, and_false, false_and, if_true, if_false, Bool.false_eq_true, z, q5_fails]
      · have z := q5_in (n := n) (v := b) (x := lo) (y := hi) hb (by omega) (by omega)
        by_cases db : lo ≤ b ∧ b ≤ hi
        · rw [if_pos db] at z
          right
          obtain ⟨V', M', c', ps', e3, e4, hfr, hH'⟩ := q_save (M := va_up M 6 (fun _ => nI 0)) hn (RH_cg rfl rfl hH) hP hW hM
          have m0 : M' 0 = M 0 := hfr 0 (by omega) (by omega)
          have hM0 : RM (M' 0) s := by rw [m0]; exact hM
          have r0 := hM0.r
          refine ⟨nI (s j), va_up G 1 (va_up (G 1) 8 (upd (G 1 8) j (nI b))), V', va_up M' 0 (upd (M' 0) j (nI b)), ?_, ref _ ?_, ?_, RX_up hx (s' := sS j b s) (by rw [va_up_self]; exact RP_sS hP (by omega)) (by rw [va_up_self]; exact RM_up hM0) (WF_sS hW (by omega) (fun h => by have := c0 h; omega) (fun h => by have := c12 h; omega) (fun h => by have := c3 h; omega)) (RH_cg (va_up_ne _ _ (by omega)) (va_up_ne _ _ (by omega)) hH') rfl ?_ ?_⟩
          · unfold fX4_set fX4_needSetting
            simp (disch := first | omega | assumption) only [kk_nm, Option.bind_some, kl_0, kl_1, kl_2, kl_3, kl_4, kl_5, kl_6, kl_7, kl_8, kl_9, kl_10, kl_12, kl_14, kl_15, kl_16, kl_20, kl_31, kl_33, kl_48, kl_49, kl_50, kl_57, kl_59, kl_60, kl_62, kl_63, kl_98, kl_99, kl_103, kl_104, kl_126, kl_144, kl_310, kl_372, kl_100000, kl_1000000, kl_neg, kl_mm, kl_am, nI_add, kl_mul, kl_sub, kl_le, kl_lt, kl_eq, kl_eM, kl_Me, kl_ltM, kl_leM, kl_ck, kl_cj, kl_cb, kl_bit, nI_clamp, va_up_self, va_up_ne, pk_us, pk_un, if_pos, if_neg, eq_self, and_true, true_and, and_false, false_and, if_true, if_false, Bool.false_eq_true, kk_trr, elo, ehi, e3, hS]
          · simp (disch := first | omega | assumption) only [kk_nm, Option.bind_some, kl_0, kl_1, kl_2, kl_3, kl_4, kl_5, kl_6, kl_7, kl_8, kl_9, kl_10, kl_12, kl_14, kl_15, kl_16, kl_20, kl_31, kl_33, kl_48, kl_49, kl_50, kl_57, kl_59, kl_60, kl_62, kl_63, kl_98, kl_99, kl_103, kl_104, kl_126, kl_144, kl_310, kl_372, kl_100000, kl_1000000, kl_neg, kl_mm, kl_am, nI_add, kl_mul, kl_sub, kl_le, kl_lt, kl_eq, kl_eM, kl_Me, kl_ltM, kl_leM, kl_ck, kl_cj, kl_cb, kl_bit, nI_clamp, va_up_self, va_up_ne, pk_us, pk_un, if_pos, if_neg, eq_self, and_true, true_and, and_false, false_and, if_true, if_false, Bool.false_eq_true, z, e4, r0]
          · rw [va_up_ne _ _ (by omega), hfr 6 (by omega) (by omega)]; rfl
          · rw [va_up_ne _ _ (by omega), hfr 5 (by omega) (by omega)]; rfl
          · rw [va_up_ne _ _ (by omega), hfr 4 (by omega) (by omega)]; rfl
        · rw [if_neg db] at z
          left
          refine ⟨2, nI 0, va_up (va_up M 6 (fun _ => nI 0)) 6 (fun _ => nI 2), ?_, by decide, ref _ ?_, rfl, bad 2⟩
          · unfold fX4_set fX4_needSetting
            by_cases dl : b < lo
            · simp (disch := first | omega | assumption) only [kk_nm, Option.bind_some, kl_0, kl_1, kl_2, kl_3, kl_4, kl_5, kl_6, kl_7, kl_8, kl_9, kl_10, kl_12, kl_14, kl_15, kl_16, kl_20, kl_31, kl_33, kl_48, kl_49, kl_50, kl_57, kl_59, kl_60, kl_62, kl_63, kl_98, kl_99, kl_103, kl_104, kl_126, kl_144, kl_310, kl_372, kl_100000, kl_1000000, kl_neg, kl_mm, kl_am, nI_add, kl_mul, kl_sub, kl_le, kl_lt, kl_eq, kl_eM, kl_Me, kl_ltM, kl_leM, kl_ck, kl_cj, kl_cb, kl_bit, nI_clamp, va_up_self, va_up_ne, pk_us, pk_un, if_pos, if_neg, eq_self, and_true, true_and, and_false, false_and, if_true, if_false, Bool.false_eq_true, kk_trr, elo]
            · simp (disch := first | omega | assumption) only [kk_nm, Option.bind_some, kl_0, kl_1, kl_2, kl_3, kl_4, kl_5, kl_6, kl_7, kl_8, kl_9, kl_10, kl_12, kl_14, kl_15, kl_16, kl_20, kl_31, kl_33, kl_48, kl_49, kl_50, kl_57, kl_59, kl_60, kl_62, kl_63, kl_98, kl_99, kl_103, kl_104, kl_126, kl_144, kl_310, kl_372, kl_100000, kl_1000000, kl_neg, kl_mm, kl_am, nI_add, kl_mul, kl_sub, kl_le, kl_lt, kl_eq, kl_eM, kl_Me, kl_ltM, kl_leM, kl_ck, kl_cj, kl_cb, kl_bit, nI_clamp, va_up_self, va_up_ne, pk_us, pk_un, if_pos, if_neg, eq_self, and_true, true_and, and_false, false_and, if_true, if_false, Bool.false_eq_true, kk_trr, elo, ehi]
          · simp (disch := first | omega | assumption) only [kk_nm, Option.bind_some, kl_0, kl_1, kl_2, kl_3, kl_4, kl_5, kl_6, kl_7, kl_8, kl_9, kl_10, kl_12, kl_14, kl_15, kl_16, kl_20, kl_31, kl_33, kl_48, kl_49, kl_50, kl_57, kl_59, kl_60, kl_62, kl_63, kl_98, kl_99, kl_103, kl_104, kl_126, kl_144, kl_310, kl_372, kl_100000, kl_1000000, kl_neg, kl_mm, kl_am, nI_add, kl_mul, kl_sub, kl_le, kl_lt, kl_eq, kl_eM, kl_Me, kl_ltM, kl_leM, kl_ck, kl_cj, kl_cb, kl_bit, nI_clamp, va_up_self, va_up_ne, pk_us, pk_un, if_pos, if_neg, eq_self, and_true, true_and, and_false, false_and, if_true, if_false, Bool.false_eq_true, z, q5_fails]
    · rw [if_neg d] at x
      left
      refine ⟨1, nI 0, _, ?_, by decide, ?_, rfl, bad 1⟩
      · unfold fX4_set fX4_needSetting
        simp (disch := first | omega | assumption) only [kk_nm, Option.bind_some, kl_0, kl_1, kl_2, kl_3, kl_4, kl_5, kl_6, kl_7, kl_8, kl_9, kl_10, kl_12, kl_14, kl_15, kl_16, kl_20, kl_31, kl_33, kl_48, kl_49, kl_50, kl_57, kl_59, kl_60, kl_62, kl_63, kl_98, kl_99, kl_103, kl_104, kl_126, kl_144, kl_310, kl_372, kl_100000, kl_1000000, kl_neg, kl_mm, kl_am, nI_add, kl_mul, kl_sub, kl_le, kl_lt, kl_eq, kl_eM, kl_Me, kl_ltM, kl_leM, kl_ck, kl_cj, kl_cb, kl_bit, nI_clamp, va_up_self, va_up_ne, pk_us, pk_un, if_pos, if_neg, eq_self, and_true, true_and, and_false, false_and, if_true, if_false, Bool.false_eq_true, kk_trl]
      · unfold fX5_set
        simp (disch := first | omega | assumption) only [kk_nm, Option.bind_some, kl_0, kl_1, kl_2, kl_3, kl_4, kl_5, kl_6, kl_7, kl_8, kl_9, kl_10, kl_12, kl_14, kl_15, kl_16, kl_20, kl_31, kl_33, kl_48, kl_49, kl_50, kl_57, kl_59, kl_60, kl_62, kl_63, kl_98, kl_99, kl_103, kl_104, kl_126, kl_144, kl_310, kl_372, kl_100000, kl_1000000, kl_neg, kl_mm, kl_am, nI_add, kl_mul, kl_sub, kl_le, kl_lt, kl_eq, kl_eM, kl_Me, kl_ltM, kl_leM, kl_ck, kl_cj, kl_cb, kl_bit, nI_clamp, va_up_self, va_up_ne, pk_us, pk_un, if_pos, if_neg, eq_self, and_true, true_and, and_false, false_and, if_true, if_false, Bool.false_eq_true, x, q5_fails]
theorem st_firstError (hn : 1000 ≤ n) (h : RR G V M) : ∃ b G' M', fX4_firstError n G = some (b, G') ∧ fX5_firstError n M = some (b, M') ∧ M' 6 0 = nI 0 ∧ RR G' V M' := by
  obtain ⟨s, c, ps, cc, t, h⟩ := h
  have hx := h
  obtain ⟨hP, hM, hW, hH, hcc, hl, hm, ht⟩ := h
  obtain ⟨e, q, G', e1, hE, -, hkG⟩ := q4_readBuffer hn hl hcc (fun k hk => ⟨(ht k hk).1, (ht k hk).2.2⟩)
  obtain ⟨r, M', e', q', e2, hE', hkM, hcase⟩ := q5_isText (M := va_up M 6 (fun _ => nI 0)) hn hm hcc (fun k hk => ⟨(ht k hk).2.1, (ht k hk).2.2⟩)
  obtain ⟨rfl, rfl⟩ := EQ_uniq hE hE'
  have hec := hE.1
  have m5 : M' 5 0 = nI cc := by rw [hkM 5 (by omega) (by omega) (by omega) (by omega)]; exact hm
  refine ⟨nI e, G', M', ?_, ?_, by rw [hkM 6 (by omega) (by omega) (by omega) (by omega)]; rfl, RR_GM hx (by rw [hkG 1 (by omega)]; exact hP) (hkG 0 (by omega)) (hkM 0 (by omega) (by omega) (by omega) (by omega)) (hkM 2 (by omega) (by omega) (by omega) (by omega)) (hkM 3 (by omega) (by omega) (by omega) (by omega)) (hkM 4 (by omega) (by omega) (by omega) (by omega)) (hkM 5 (by omega) (by omega) (by omega) (by omega))⟩
  · unfold fX4_firstError
    simp (disch := first | omega | assumption) only [kk_nm, Option.bind_some, kl_0, kl_1, kl_2, kl_3, kl_4, kl_5, kl_6, kl_7, kl_8, kl_9, kl_10, kl_12, kl_14, kl_15, kl_16, kl_20, kl_31, kl_33, kl_48, kl_49, kl_50, kl_57, kl_59, kl_60, kl_62, kl_63, kl_98, kl_99, kl_103, kl_104, kl_126, kl_144, kl_310, kl_372, kl_100000, kl_1000000, kl_neg, kl_mm, kl_am, nI_add, kl_mul, kl_sub, kl_le, kl_lt, kl_eq, kl_eM, kl_Me, kl_ltM, kl_leM, kl_ck, kl_cj, kl_cb, kl_bit, nI_clamp, va_up_self, va_up_ne, pk_us, pk_un, if_pos, if_neg, eq_self, and_true, true_and, and_false, false_and, if_true, if_false, Bool.false_eq_true, e1]
  · unfold fX5_firstError
    rcases hcase with ⟨rfl, -, h8, h7⟩ | ⟨rfl, rfl, -, -, -, -, -⟩
    · by_cases d : e < cc
      · rw [if_pos d] at h8
        simp (disch := first | omega | assumption) only [kk_nm, Option.bind_some, kl_0, kl_1, kl_2, kl_3, kl_4, kl_5, kl_6, kl_7, kl_8, kl_9, kl_10, kl_12, kl_14, kl_15, kl_16, kl_20, kl_31, kl_33, kl_48, kl_49, kl_50, kl_57, kl_59, kl_60, kl_62, kl_63, kl_98, kl_99, kl_103, kl_104, kl_126, kl_144, kl_310, kl_372, kl_100000, kl_1000000, kl_neg, kl_mm, kl_am, nI_add, kl_mul, kl_sub, kl_le, kl_lt, kl_eq, kl_eM, kl_Me, kl_ltM, kl_leM, kl_ck, kl_cj, kl_cb, kl_bit, nI_clamp, va_up_self, va_up_ne, pk_us, pk_un, if_pos, if_neg, eq_self, and_true, true_and, and_false, false_and, if_true, if_false, Bool.false_eq_true, e2, h8, h7]
      · rw [if_neg d] at h8
        have : e = cc := by omega
        subst this
        simp (disch := first | omega | assumption) only [kk_nm, Option.bind_some, kl_0, kl_1, kl_2, kl_3, kl_4, kl_5, kl_6, kl_7, kl_8, kl_9, kl_10, kl_12, kl_14, kl_15, kl_16, kl_20, kl_31, kl_33, kl_48, kl_49, kl_50, kl_57, kl_59, kl_60, kl_62, kl_63, kl_98, kl_99, kl_103, kl_104, kl_126, kl_144, kl_310, kl_372, kl_100000, kl_1000000, kl_neg, kl_mm, kl_am, nI_add, kl_mul, kl_sub, kl_le, kl_lt, kl_eq, kl_eM, kl_Me, kl_ltM, kl_leM, kl_ck, kl_cj, kl_cb, kl_bit, nI_clamp, va_up_self, va_up_ne, pk_us, pk_un, if_pos, if_neg, eq_self, and_true, true_and, and_false, false_and, if_true, if_false, Bool.false_eq_true, e2, h8, m5]
    · simp (disch := first | omega | assumption) only [kk_nm, Option.bind_some, kl_0, kl_1, kl_2, kl_3, kl_4, kl_5, kl_6, kl_7, kl_8, kl_9, kl_10, kl_12, kl_14, kl_15, kl_16, kl_20, kl_31, kl_33, kl_48, kl_49, kl_50, kl_57, kl_59, kl_60, kl_62, kl_63, kl_98, kl_99, kl_103, kl_104, kl_126, kl_144, kl_310, kl_372, kl_100000, kl_1000000, kl_neg, kl_mm, kl_am, nI_add, kl_mul, kl_sub, kl_le, kl_lt, kl_eq, kl_eM, kl_Me, kl_ltM, kl_leM, kl_ck, kl_cj, kl_cb, kl_bit, nI_clamp, va_up_self, va_up_ne, pk_us, pk_un, if_pos, if_neg, eq_self, and_true, true_and, and_false, false_and, if_true, if_false, Bool.false_eq_true, e2, m5]
theorem nsm_ex (t : Nat → Nat) : ∀ (c i : Nat), i < nsm t c → ∃ u, u < c ∧ t u = 59 ∧ nsm t u = i
  | 0, i, h => absurd h (Nat.not_lt_zero i)
  | c + 1, i, h => by
    rw [nsm_succ] at h
    by_cases d : i < nsm t c
    · obtain ⟨u, h1, h2, h3⟩ := nsm_ex t c i d
      exact ⟨u, by omega, h2, h3⟩
    · by_cases d2 : t c = 59
      · rw [if_pos d2] at h
        exact ⟨c, by omega, d2, by omega⟩
      · rw [if_neg d2] at h; omega
theorem st_putAll (hn : 1000 ≤ n) (h : RR G V M) : (∃ k G' b M', fX4_putAll n G V = some (.inl (k, G')) ∧ k ∈ [2, 3] ∧ fX5_putAll n M = some (b, M') ∧ M' 6 0 = nI (k - 1) ∧ RR G' V M') ∨ ∃ b G' V' M', fX4_putAll n G V = some (.inr (b, G', V')) ∧ fX5_putAll n M = some (b, M') ∧ M' 6 0 = nI 0 ∧ RR G' V' M' := by
  obtain ⟨s, c, ps, cc, t, h⟩ := h
  have hx := h
  obtain ⟨hP, hM, hW, hH, hcc, hl, hm, ht⟩ := h
  have w1 := hW.2.1
  obtain ⟨e, q, G', e1, hE, hRQ, hkG⟩ := q4_readBuffer hn hl hcc (fun k hk => ⟨(ht k hk).1, (ht k hk).2.2⟩)
  obtain ⟨r, M', e', q', e2, hE', hkM, hcase⟩ := q5_isText (M := va_up M 6 (fun _ => nI 0)) hn hm hcc (fun k hk => ⟨(ht k hk).2.1, (ht k hk).2.2⟩)
  obtain ⟨rfl, rfl⟩ := EQ_uniq hE hE'
  have hec := hE.1
  have hl' : G' 0 6 0 = nI cc := by rw [hkG 0 (by omega)]; exact hl
  have ht' : ∀ k, k < cc → G' 0 5 k = nI (t k) ∧ t k < 128 := by rw [hkG 0 (by omega)]; exact fun k hk => ⟨(ht k hk).1, (ht k hk).2.2⟩
  have hP' : RP (G' 1) s := by rw [hkG 1 (by omega)]; exact hP
  have m0 : M' 0 = M 0 := hkM 0 (by omega) (by omega) (by omega) (by omega)
  have hM' : RM (M' 0) s := by rw [m0]; exact hM
  have hw := rq_wq hE.2.1
  have hRR : ∀ k, RR G' V (va_up M' 6 (fun _ => nI k)) := fun k => RR_6 (RR_GM hx hP' (hkG 0 (by omega)) m0 (hkM 2 (by omega) (by omega) (by omega) (by omega)) (hkM 3 (by omega) (by omega) (by omega) (by omega)) (hkM 4 (by omega) (by omega) (by omega) (by omega)) (hkM 5 (by omega) (by omega) (by omega) (by omega)))
  rcases hcase with ⟨rfl, hno, h8, h7⟩ | ⟨rfl, rfl, hst, h10, h19, htold, hlast⟩
  · left
    refine ⟨2, G', nI 0, va_up M' 6 (fun _ => nI 1), ?_, by decide, ?_, rfl, hRR 1⟩
    · unfold fX4_putAll
      by_cases d : e < cc
      · simp (disch := first | omega | assumption) only [kk_nm, Option.bind_some, kl_0, kl_1, kl_2, kl_3, kl_4, kl_5, kl_6, kl_7, kl_8, kl_9, kl_10, kl_12, kl_14, kl_15, kl_16, kl_20, kl_31, kl_33, kl_48, kl_49, kl_50, kl_57, kl_59, kl_60, kl_62, kl_63, kl_98, kl_99, kl_103, kl_104, kl_126, kl_144, kl_310, kl_372, kl_100000, kl_1000000, kl_neg, kl_mm, kl_am, nI_add, kl_mul, kl_sub, kl_le, kl_lt, kl_eq, kl_eM, kl_Me, kl_ltM, kl_leM, kl_ck, kl_cj, kl_cb, kl_bit, nI_clamp, va_up_self, va_up_ne, pk_us, pk_un, if_pos, if_neg, eq_self, and_true, true_and, and_false, false_and, if_true, if_false, Bool.false_eq_true, e1, hl']
      · have h3 : ¬ q.2.2.2 = 3 := fun h => hno ⟨by omega, .inl h⟩
        have h5 : ¬ q.2.2.2 = 5 := fun h => hno ⟨by omega, .inr h⟩
        have r3 := hRQ.1
        have w3 := hw.2.2.1
        unfold fX3_isAfterPart
        simp (disch := first | omega | assumption) only [kk_nm, Option.bind_some, kl_0, kl_1, kl_2, kl_3, kl_4, kl_5, kl_6, kl_7, kl_8, kl_9, kl_10, kl_12, kl_14, kl_15, kl_16, kl_20, kl_31, kl_33, kl_48, kl_49, kl_50, kl_57, kl_59, kl_60, kl_62, kl_63, kl_98, kl_99, kl_103, kl_104, kl_126, kl_144, kl_310, kl_372, kl_100000, kl_1000000, kl_neg, kl_mm, kl_am, nI_add, kl_mul, kl_sub, kl_le, kl_lt, kl_eq, kl_eM, kl_Me, kl_ltM, kl_leM, kl_ck, kl_cj, kl_cb, kl_bit, nI_clamp, va_up_self, va_up_ne, pk_us, pk_un, if_pos, if_neg, eq_self, and_true, true_and, and_false, false_and, if_true, if_false, Bool.false_eq_true, e1, hl', r3]
    · unfold fX5_putAll
      simp (disch := first | omega | assumption) only [kk_nm, Option.bind_some, kl_0, kl_1, kl_2, kl_3, kl_4, kl_5, kl_6, kl_7, kl_8, kl_9, kl_10, kl_12, kl_14, kl_15, kl_16, kl_20, kl_31, kl_33, kl_48, kl_49, kl_50, kl_57, kl_59, kl_60, kl_62, kl_63, kl_98, kl_99, kl_103, kl_104, kl_126, kl_144, kl_310, kl_372, kl_100000, kl_1000000, kl_neg, kl_mm, kl_am, nI_add, kl_mul, kl_sub, kl_le, kl_lt, kl_eq, kl_eM, kl_Me, kl_ltM, kl_leM, kl_ck, kl_cj, kl_cb, kl_bit, nI_clamp, va_up_self, va_up_ne, pk_us, pk_un, if_pos, if_neg, eq_self, and_true, true_and, and_false, false_and, if_true, if_false, Bool.false_eq_true, e2, q5_fails]
  · have hpi := q4_partsIn (n := n) hn hl' hcc ht'
    have r3 := hRQ.1
    have w3 := hw.2.2.1
    have aft : fX3_isAfterPart n (G' 4) = some (nI 1) := by
      unfold fX3_isAfterPart
      rcases hst with h | h
      · rw [h] at r3
        simp (disch := first | omega | assumption) only [kk_nm, Option.bind_some, kl_0, kl_1, kl_2, kl_3, kl_4, kl_5, kl_6, kl_7, kl_8, kl_9, kl_10, kl_12, kl_14, kl_15, kl_16, kl_20, kl_31, kl_33, kl_48, kl_49, kl_50, kl_57, kl_59, kl_60, kl_62, kl_63, kl_98, kl_99, kl_103, kl_104, kl_126, kl_144, kl_310, kl_372, kl_100000, kl_1000000, kl_neg, kl_mm, kl_am, nI_add, kl_mul, kl_sub, kl_le, kl_lt, kl_eq, kl_eM, kl_Me, kl_ltM, kl_leM, kl_ck, kl_cj, kl_cb, kl_bit, nI_clamp, va_up_self, va_up_ne, pk_us, pk_un, if_pos, if_neg, eq_self, and_true, true_and, and_false, false_and, if_true, if_false, Bool.false_eq_true, r3]
      · rw [h] at r3
        simp (disch := first | omega | assumption) only [kk_nm, Option.bind_some, kl_0, kl_1, kl_2, kl_3, kl_4, kl_5, kl_6, kl_7, kl_8, kl_9, kl_10, kl_12, kl_14, kl_15, kl_16, kl_20, kl_31, kl_33, kl_48, kl_49, kl_50, kl_57, kl_59, kl_60, kl_62, kl_63, kl_98, kl_99, kl_103, kl_104, kl_126, kl_144, kl_310, kl_372, kl_100000, kl_1000000, kl_neg, kl_mm, kl_am, nI_add, kl_mul, kl_sub, kl_le, kl_lt, kl_eq, kl_eM, kl_Me, kl_ltM, kl_leM, kl_ck, kl_cj, kl_cb, kl_bit, nI_clamp, va_up_self, va_up_ne, pk_us, pk_un, if_pos, if_neg, eq_self, and_true, true_and, and_false, false_and, if_true, if_false, Bool.false_eq_true, r3]
    have h0' := hP'.1
    have r0 := hM'.r
    by_cases d : s 4 + (nsm t e + 1) ≤ 12
    · right
      -- the parts
      have hex : ∀ i, ∃ q' : QT, i < nsm t e + 1 → ∃ u, u ≤ e ∧ nsm t u = i ∧ rq t u = some q' ∧ (u = e ∨ t u = 59) := by
        intro i
        by_cases hi : i < nsm t e
        · obtain ⟨u, h1, h2, h3⟩ := nsm_ex t e i hi
          cases hq : rq t u with
          | none => have := rq_none hq e (by omega); rw [hE.2.1] at this; cases this
          | some q' => exact ⟨q', fun _ => ⟨u, by omega, h3, hq, .inr h2⟩⟩
        · exact ⟨q, fun h => ⟨e, by omega, by omega, hE.2.1, .inl rfl⟩⟩
      obtain ⟨pk, hpk⟩ := Classical.axiomOfChoice hex
      have huniq : ∀ u u', u < e → t u = 59 → u' ≤ e → nsm t u' = nsm t u → (u' = e ∨ t u' = 59) → u' = u := by
        intro u u' hu h59 hu' heq hor
        have a1 : nsm t (u + 1) = nsm t u + 1 := by rw [nsm_succ, if_pos h59]
        rcases Nat.lt_trichotomy u u' with hlt | he | hgt
        · have := nsm_mono (t := t) (a := u + 1) (b := u') (by omega)
          omega
        · exact he.symm
        · have h59' : t u' = 59 := by
            rcases hor with h | h
            · omega
            · exact h
          have a2 : nsm t (u' + 1) = nsm t u' + 1 := by rw [nsm_succ, if_pos h59']
          have := nsm_mono (t := t) (a := u' + 1) (b := u) (by omega)
          omega
      have hpkU : ∀ u, u < e → t u = 59 → ∀ q', rq t u = some q' → pk (nsm t u) = q' := by
        intro u hu h59 q' hq'
        have a1 : nsm t (u + 1) = nsm t u + 1 := by rw [nsm_succ, if_pos h59]
        have a2 := nsm_mono (t := t) (a := u + 1) (b := e) (by omega)
        obtain ⟨u', h1, h2, h3, h4⟩ := hpk (nsm t u) (by omega)
        have := huniq u u' hu h59 h1 h2 h4
        rw [this, hq'] at h3
        exact (Option.some.inj h3).symm
      have hpkE : pk (nsm t e) = q := by
        obtain ⟨u', h1, h2, h3, h4⟩ := hpk (nsm t e) (by omega)
        have : u' = e := by
          rcases h4 with h | h
          · exact h
          · by_cases hu : u' < e
            · have a1 : nsm t (u' + 1) = nsm t u' + 1 := by rw [nsm_succ, if_pos h]
              have a2 := nsm_mono (t := t) (a := u' + 1) (b := e) (by omega)
              omega
            · omega
        rw [this, hE.2.1] at h3
        exact (Option.some.inj h3).symm
      have hpkW : ∀ i, i < nsm t e + 1 → WQ (pk i) ∧ 3 ≤ (pk i).2.2.2 := by
        intro i hi
        obtain ⟨u, h1, h2, h3, h4⟩ := hpk i hi
        refine ⟨rq_wq h3, ?_⟩
        by_cases hu : u = e
        · subst hu
          rw [hE.2.1] at h3
          cases h3
          omega
        · have h59 : t u = 59 := by rcases h4 with h | h; exact absurd h hu; exact h
          have hsome : (aS (pk i) 59).isSome = true := by
            cases hq : aS (pk i) 59 with
            | some _ => rfl
            | none =>
              have hs : rq t (u + 1) = none := by show (rq t u).bind _ = _; rw [h3, h59]; exact hq
              have := rq_none hs e (by omega); rw [hE.2.1] at this; cases this
          have := aS_59n hsome
          omega
      obtain ⟨V', M2, c', ps', e3, e4, hfr, hH'⟩ := q_save (V := V) (M := M') hn (RH_cg (hkM 2 (by omega) (by omega) (by omega) (by omega)) (hkM 3 (by omega) (by omega) (by omega) (by omega)) (RH_cg (M' := va_up M 6 (fun _ => nI 0)) rfl rfl hH)) hP' hW hM'
      obtain ⟨G2, e5, hP2, hkG2⟩ := q4_addParts (G := G') (pk := pk) hn hl' hcc ht' hP' hW hE.2.1 hst d hpkU hpkE hpkW
      have hM2 : RM (M2 0) s := by rw [hfr 0 (by omega) (by omega)]; exact hM'
      obtain ⟨M3, e6, hM3, hkM3⟩ := q5_putLoop (M := va_up M2 5 (fun _ => nI 0)) (s := s) (pk := pk) (k := nsm t e + 1) hn hM2 (by rw [va_up_ne _ _ (by omega), hfr 10 (by omega) (by omega)]; exact h10) d (fun i hi => by
        rw [va_up_ne _ _ (by omega), hfr 9 (by omega) (by omega)]
        obtain ⟨u, h1, h2, h3, h4⟩ := hpk i hi
        by_cases hu : u = e
        · subst hu
          rw [hE.2.1] at h3
          have h6 := Option.some.inj h3
          rw [← h2] at h6 ⊢
          rw [← h6]
          exact hlast
        · have h59 : t u = 59 := by rcases h4 with h | h; exact absurd h hu; exact h
          rw [← h2]
          have h5 := htold u (by omega) h59 _ h3
          rw [h2] at h5 ⊢
          exact h5)
      have hn1 := aSt_4 pk s (nsm t e + 1)
      have b1 := hP2.1
      have b2 := hM3.r 4 (by omega)
      rw [hn1] at b1 b2
      refine ⟨nI (s 4 + (nsm t e + 1)), va_up G2 0 (va_up (G2 0) 6 (fun _ => nI 0)), V', M3, ?_, ?_, ?_, aSt pk s (nsm t e + 1), c', ps', 0, t, hP2, hM3, aSt_wf hW _ d hpkW, RH_cg (hkM3 2 (by omega)) (hkM3 3 (by omega)) (RH_cg (M' := va_up M2 5 (fun _ => nI 0)) rfl rfl hH'), by omega, rfl, by rw [hkM3 5 (by omega)]; rfl, fun k hk => by omega⟩
      · unfold fX4_putAll
        simp (disch := first | omega | assumption) only [kk_nm, Option.bind_some, kl_0, kl_1, kl_2, kl_3, kl_4, kl_5, kl_6, kl_7, kl_8, kl_9, kl_10, kl_12, kl_14, kl_15, kl_16, kl_20, kl_31, kl_33, kl_48, kl_49, kl_50, kl_57, kl_59, kl_60, kl_62, kl_63, kl_98, kl_99, kl_103, kl_104, kl_126, kl_144, kl_310, kl_372, kl_100000, kl_1000000, kl_neg, kl_mm, kl_am, nI_add, kl_mul, kl_sub, kl_le, kl_lt, kl_eq, kl_eM, kl_Me, kl_ltM, kl_leM, kl_ck, kl_cj, kl_cb, kl_bit, nI_clamp, va_up_self, va_up_ne, pk_us, pk_un, if_pos, if_neg, eq_self, and_true, true_and, and_false, false_and, if_true, if_false, Bool.false_eq_true, e1, hl', aft, hpi, h0', e3, e5, b1]
      · unfold fX5_putAll
        simp (disch := first | omega | assumption) only [kk_nm, Option.bind_some, kl_0, kl_1, kl_2, kl_3, kl_4, kl_5, kl_6, kl_7, kl_8, kl_9, kl_10, kl_12, kl_14, kl_15, kl_16, kl_20, kl_31, kl_33, kl_48, kl_49, kl_50, kl_57, kl_59, kl_60, kl_62, kl_63, kl_98, kl_99, kl_103, kl_104, kl_126, kl_144, kl_310, kl_372, kl_100000, kl_1000000, kl_neg, kl_mm, kl_am, nI_add, kl_mul, kl_sub, kl_le, kl_lt, kl_eq, kl_eM, kl_Me, kl_ltM, kl_leM, kl_ck, kl_cj, kl_cb, kl_bit, nI_clamp, va_up_self, va_up_ne, pk_us, pk_un, if_pos, if_neg, eq_self, and_true, true_and, and_false, false_and, if_true, if_false, Bool.false_eq_true, e2, r0, h10, e4, e6, b2]
      · rw [hkM3 6 (by omega), va_up_ne _ _ (by omega), hfr 6 (by omega) (by omega), hkM 6 (by omega) (by omega) (by omega) (by omega)]; rfl
    · left
      refine ⟨3, G', nI 0, va_up M' 6 (fun _ => nI 2), ?_, by decide, ?_, rfl, hRR 2⟩
      · unfold fX4_putAll
        simp (disch := first | omega | assumption) only [kk_nm, Option.bind_some, kl_0, kl_1, kl_2, kl_3, kl_4, kl_5, kl_6, kl_7, kl_8, kl_9, kl_10, kl_12, kl_14, kl_15, kl_16, kl_20, kl_31, kl_33, kl_48, kl_49, kl_50, kl_57, kl_59, kl_60, kl_62, kl_63, kl_98, kl_99, kl_103, kl_104, kl_126, kl_144, kl_310, kl_372, kl_100000, kl_1000000, kl_neg, kl_mm, kl_am, nI_add, kl_mul, kl_sub, kl_le, kl_lt, kl_eq, kl_eM, kl_Me, kl_ltM, kl_leM, kl_ck, kl_cj, kl_cb, kl_bit, nI_clamp, va_up_self, va_up_ne, pk_us, pk_un, if_pos, if_neg, eq_self, and_true, true_and, and_false, false_and, if_true, if_false, Bool.false_eq_true, e1, hl', aft, hpi, h0']
      · unfold fX5_putAll
        simp (disch := first | omega | assumption) only [kk_nm, Option.bind_some, kl_0, kl_1, kl_2, kl_3, kl_4, kl_5, kl_6, kl_7, kl_8, kl_9, kl_10, kl_12, kl_14, kl_15, kl_16, kl_20, kl_31, kl_33, kl_48, kl_49, kl_50, kl_57, kl_59, kl_60, kl_62, kl_63, kl_98, kl_99, kl_103, kl_104, kl_126, kl_144, kl_310, kl_372, kl_100000, kl_1000000, kl_neg, kl_mm, kl_am, nI_add, kl_mul, kl_sub, kl_le, kl_lt, kl_eq, kl_eM, kl_Me, kl_ltM, kl_leM, kl_ck, kl_cj, kl_cb, kl_bit, nI_clamp, va_up_self, va_up_ne, pk_us, pk_un, if_pos, if_neg, eq_self, and_true, true_and, and_false, false_and, if_true, if_false, Bool.false_eq_true, e2, r0, h10, q5_fails]
end
