section
variable {n : Nat} {G V : St2} {M : St1} {s : Nat → Nat}
theorem st_bridge (hn : 1000 ≤ n) (h : RR G V M) (v w : Int32) : OK3 [2, 3] (fun k => k - 1) G V (fX4_bridge n G V v w) (fX5_bridge n M v w) := by
  have hr := h
  obtain ⟨s, c, ps, cc, t, h⟩ := h
  have hx := h
  obtain ⟨hP, hM, hW, hH, -⟩ := h
  have w1 := hW.2.1
  have r0 := hM.r
  have h5 := hP.2.1
  have bad : ∀ k, RR G V (va_up (va_up M 6 (fun _ => nI 0)) 6 (fun _ => nI k)) := fun k => RR_6 (RR_6 hr)
  rcases arg_cases v with hv | ⟨d, hd, rfl⟩
  · left
    have y := neg_lt (a := 1) hv (by omega)
    refine ⟨2, nI 0, _, ?_, by decide, ?_, rfl, bad 1⟩
    · unfold fX4_bridge
      simp (disch := first | omega | assumption) only [kk_nm, Option.bind_some, kl_0, kl_1, kl_2, kl_3, kl_4, kl_5, kl_6, kl_7, kl_8, kl_9, kl_10, kl_12, kl_14, kl_15, kl_16, kl_20, kl_31, kl_33, kl_48, kl_49, kl_50, kl_57, kl_59, kl_60, kl_62, kl_63, kl_98, kl_99, kl_103, kl_104, kl_126, kl_144, kl_310, kl_372, kl_100000, kl_1000000, kl_neg, kl_mm, kl_am, nI_add, kl_mul, kl_sub, kl_le, kl_lt, kl_eq, kl_eM, kl_Me, kl_ltM, kl_leM, kl_ck, kl_cj, kl_cb, kl_bit, nI_clamp, va_up_self, va_up_ne, pk_us, pk_un, if_pos, if_neg, eq_self, and_true, true_and, and_false, false_and, if_true, if_false, Bool.false_eq_true, y]
    · have x := fun y => q5_inN (n := n) (y := y) (a := 1) hv (by omega)
      unfold fX5_bridge
      simp (disch := first | omega | assumption) only [kk_nm, Option.bind_some, kl_0, kl_1, kl_2, kl_3, kl_4, kl_5, kl_6, kl_7, kl_8, kl_9, kl_10, kl_12, kl_14, kl_15, kl_16, kl_20, kl_31, kl_33, kl_48, kl_49, kl_50, kl_57, kl_59, kl_60, kl_62, kl_63, kl_98, kl_99, kl_103, kl_104, kl_126, kl_144, kl_310, kl_372, kl_100000, kl_1000000, kl_neg, kl_mm, kl_am, nI_add, kl_mul, kl_sub, kl_le, kl_lt, kl_eq, kl_eM, kl_Me, kl_ltM, kl_leM, kl_ck, kl_cj, kl_cb, kl_bit, nI_clamp, va_up_self, va_up_ne, pk_us, pk_un, if_pos, if_neg, eq_self, and_true, true_and, and_false, false_and, if_true, if_false, Bool.false_eq_true, x, q5_fails]
  · have x := q5_in (n := n) (v := d) (x := 1) (y := 50) hd (by omega) (by omega)
    by_cases d1 : 1 ≤ d ∧ d ≤ 50
    · rw [if_pos d1] at x
      rcases arg_cases w with hw | ⟨b, hb, rfl⟩
      · left
        have y := neg_lt (a := 10) hw (by omega)
        refine ⟨2, nI 0, _, ?_, by decide, ?_, rfl, bad 1⟩
        · unfold fX4_bridge fX4_isHeight
          simp (disch := first | omega | assumption) only [kk_nm, Option.bind_some, kl_0, kl_1, kl_2, kl_3, kl_4, kl_5, kl_6, kl_7, kl_8, kl_9, kl_10, kl_12, kl_14, kl_15, kl_16, kl_20, kl_31, kl_33, kl_48, kl_49, kl_50, kl_57, kl_59, kl_60, kl_62, kl_63, kl_98, kl_99, kl_103, kl_104, kl_126, kl_144, kl_310, kl_372, kl_100000, kl_1000000, kl_neg, kl_mm, kl_am, nI_add, kl_mul, kl_sub, kl_le, kl_lt, kl_eq, kl_eM, kl_Me, kl_ltM, kl_leM, kl_ck, kl_cj, kl_cb, kl_bit, nI_clamp, va_up_self, va_up_ne, pk_us, pk_un, if_pos, if_neg, eq_self, and_true, true_and, and_false, false_and, if_true, if_false, Bool.false_eq_true, y]
        · have x2 := fun y => q5_inN (n := n) (y := y) (a := 10) hw (by omega)
          unfold fX5_bridge
          simp (disch := first | omega | assumption) only [kk_nm, Option.bind_some, kl_0, kl_1, kl_2, kl_3, kl_4, kl_5, kl_6, kl_7, kl_8, kl_9, kl_10, kl_12, kl_14, kl_15, kl_16, kl_20, kl_31, kl_33, kl_48, kl_49, kl_50, kl_57, kl_59, kl_60, kl_62, kl_63, kl_98, kl_99, kl_103, kl_104, kl_126, kl_144, kl_310, kl_372, kl_100000, kl_1000000, kl_neg, kl_mm, kl_am, nI_add, kl_mul, kl_sub, kl_le, kl_lt, kl_eq, kl_eM, kl_Me, kl_ltM, kl_leM, kl_ck, kl_cj, kl_cb, kl_bit, nI_clamp, va_up_self, va_up_ne, pk_us, pk_un, if_pos, if_neg, eq_self, and_true, true_and, and_false, false_and, if_true, if_false, Bool.false_eq_true, x, x2, q5_fails]
      · have x2 := q5_in (n := n) (v := b) (x := 10) (y := 99) hb (by omega) (by omega)
        by_cases b1 : 10 ≤ b ∧ b ≤ 99
        · rw [if_pos b1] at x2
          by_cases c4 : s 5 = 4
          · left
            refine ⟨3, nI 0, _, ?_, by decide, ?_, rfl, bad 2⟩
            · unfold fX4_bridge fX4_isHeight
              simp (disch := first | omega | assumption) only [kk_nm, Option.bind_some, kl_0, kl_1, kl_2, kl_3, kl_4, kl_5, kl_6, kl_7, kl_8, kl_9, kl_10, kl_12, kl_14, kl_15, kl_16, kl_20, kl_31, kl_33, kl_48, kl_49, kl_50, kl_57, kl_59, kl_60, kl_62, kl_63, kl_98, kl_99, kl_103, kl_104, kl_126, kl_144, kl_310, kl_372, kl_100000, kl_1000000, kl_neg, kl_mm, kl_am, nI_add, kl_mul, kl_sub, kl_le, kl_lt, kl_eq, kl_eM, kl_Me, kl_ltM, kl_leM, kl_ck, kl_cj, kl_cb, kl_bit, nI_clamp, va_up_self, va_up_ne, pk_us, pk_un, if_pos, if_neg, eq_self, and_true, true_and, and_false, false_and, if_true, if_false, Bool.false_eq_true, h5]
            · unfold fX5_bridge
              simp (disch := first | omega | assumption) only [kk_nm, Option.bind_some, kl_0, kl_1, kl_2, kl_3, kl_4, kl_5, kl_6, kl_7, kl_8, kl_9, kl_10, kl_12, kl_14, kl_15, kl_16, kl_20, kl_31, kl_33, kl_48, kl_49, kl_50, kl_57, kl_59, kl_60, kl_62, kl_63, kl_98, kl_99, kl_103, kl_104, kl_126, kl_144, kl_310, kl_372, kl_100000, kl_1000000, kl_neg, kl_mm, kl_am, nI_add, kl_mul, kl_sub, kl_le, kl_lt, kl_eq, kl_eM, kl_Me, kl_ltM, kl_leM, kl_ck, kl_cj, kl_cb, kl_bit, nI_clamp, va_up_self, va_up_ne, pk_us, pk_un, if_pos, if_neg, eq_self, and_true, true_and, and_false, false_and, if_true, if_false, Bool.false_eq_true, r0, x, x2, q5_fails]
          · have k1 := q2_hasBridgeAt (d := d) (by omega) hn hP hW
            have k2 := q5_isBridged (M := va_up M 6 (fun _ => nI 0)) (d := d) (by omega) hn hM hW
            have k3 := t_hb_le s d (s 5)
            by_cases k0 : t_hb s d (s 5) = 0
            · right
              rw [k0] at k1 k2
              obtain ⟨V', M', c', ps', e3, e4, hfr, hH'⟩ := q_save (M := va_up M 6 (fun _ => nI 0)) hn (RH_cg rfl rfl hH) hP hW hM
              obtain ⟨P', e5, hP'⟩ := q2_build (d := d) (c := b) hn hP hW (by omega) (by omega)
              have m0 : M' 0 = M 0 := hfr 0 (by omega) (by omega)
              have hM0 : RM (M' 0) s := by rw [m0]; exact hM
              obtain ⟨M2, e6, hk2, hM2⟩ := q5_bridgeLoop (d := d) hn hM0 hW (by omega) (by omega)
              obtain ⟨bi, -, -⟩ := bix_spec s d (s 5)
              have m05 := hM0.r 5 (by omega)
              have hWb := WF_bS (c := b) hW (by omega) d1.1 d1.2 b1.1 b1.2
              generalize bix s d (s 5) = i at e5 hP' e6 hM2 bi hWb
              have f1 := RM_up (i := 6 + 2 * i) (x := d) hM2
              have f2 := RM_up (i := 6 + 2 * i + 1) (x := b) f1
              have f3 := RM_up (i := 5) (x := s 5 + 1) f2
              have m25 := hM2.r 5 (by omega)
              rw [if_neg (by omega)] at m25
              have hM4 : RM (upd (upd (upd (M2 0) (6 + 2 * i) (nI d)) (6 + 2 * i + 1) (nI b)) 5 (nI (s 5 + 1))) (bS i d b s) := by
                refine RM_cg (fun k hk => ?_) f3
                unfold bS
                by_cases y5 : k = 5
                · rw [if_pos y5, if_pos y5]
                · rw [if_neg y5, if_neg y5]
                  by_cases y7 : k = 6 + 2 * i + 1
                  · rw [if_pos y7, if_neg (show ¬ k = 6 + 2 * i by omega), if_pos (show k = 7 + 2 * i by omega)]
                  · rw [if_neg y7]
                    by_cases y6 : k = 6 + 2 * i
                    · rw [if_pos y6, if_pos y6]
                    · rw [if_neg y6, if_neg y6, if_neg (show ¬ k = 7 + 2 * i by omega)]
              refine ⟨nI i, va_up G 1 P', V', va_up (va_up (va_up M2 0 (upd (M2 0) (6 + 2 * i) (nI d))) 0 (upd (upd (M2 0) (6 + 2 * i) (nI d)) (6 + 2 * i + 1) (nI b))) 0 (upd (upd (upd (M2 0) (6 + 2 * i) (nI d)) (6 + 2 * i + 1) (nI b)) 5 (nI (s 5 + 1))), ?_, ?_, ?_, RX_up hx (s' := bS i d b s) (by rw [va_up_self]; exact hP') (by rw [va_up_self]; exact hM4) hWb (RH_cg (by rw [va_up_ne _ _ (by omega), va_up_ne _ _ (by omega), va_up_ne _ _ (by omega)]; exact hk2 2 (by omega)) (by rw [va_up_ne _ _ (by omega), va_up_ne _ _ (by omega), va_up_ne _ _ (by omega)]; exact hk2 3 (by omega)) hH') rfl ?_ ?_⟩
              · unfold fX4_bridge fX4_isHeight
                simp (disch := first | omega | assumption) only [kk_nm, Option.bind_some, kl_0, kl_1, kl_2, kl_3, kl_4, kl_5, kl_6, kl_7, kl_8, kl_9, kl_10, kl_12, kl_14, kl_15, kl_16, kl_20, kl_31, kl_33, kl_48, kl_49, kl_50, kl_57, kl_59, kl_60, kl_62, kl_63, kl_98, kl_99, kl_103, kl_104, kl_126, kl_144, kl_310, kl_372, kl_100000, kl_1000000, kl_neg, kl_mm, kl_am, nI_add, kl_mul, kl_sub, kl_le, kl_lt, kl_eq, kl_eM, kl_Me, kl_ltM, kl_leM, kl_ck, kl_cj, kl_cb, kl_bit, nI_clamp, va_up_self, va_up_ne, pk_us, pk_un, if_pos, if_neg, eq_self, and_true, true_and, and_false, false_and, if_true, if_false, Bool.false_eq_true, h5, k1, e3, e5]
              · unfold fX5_bridge
                simp (disch := first | omega | assumption) only [kk_nm, Option.bind_some, kl_0, kl_1, kl_2, kl_3, kl_4, kl_5, kl_6, kl_7, kl_8, kl_9, kl_10, kl_12, kl_14, kl_15, kl_16, kl_20, kl_31, kl_33, kl_48, kl_49, kl_50, kl_57, kl_59, kl_60, kl_62, kl_63, kl_98, kl_99, kl_103, kl_104, kl_126, kl_144, kl_310, kl_372, kl_100000, kl_1000000, kl_neg, kl_mm, kl_am, nI_add, kl_mul, kl_sub, kl_le, kl_lt, kl_eq, kl_eM, kl_Me, kl_ltM, kl_leM, kl_ck, kl_cj, kl_cb, kl_bit, nI_clamp, va_up_self, va_up_ne, pk_us, pk_un, if_pos, if_neg, eq_self, and_true, true_and, and_false, false_and, if_true, if_false, Bool.false_eq_true, r0, x, x2, k2, e4, m05, e6, m25]
              · rw [va_up_ne _ _ (by omega), va_up_ne _ _ (by omega), va_up_ne _ _ (by omega), hk2 6 (by omega), hfr 6 (by omega) (by omega)]; rfl
              · rw [va_up_ne _ _ (by omega), va_up_ne _ _ (by omega), va_up_ne _ _ (by omega), hk2 5 (by omega), hfr 5 (by omega) (by omega)]; rfl
              · rw [va_up_ne _ _ (by omega), va_up_ne _ _ (by omega), va_up_ne _ _ (by omega), hk2 4 (by omega), hfr 4 (by omega) (by omega)]; rfl
            · left
              have k4 : t_hb s d (s 5) = 1 := by omega
              rw [k4] at k1 k2
              refine ⟨3, nI 0, _, ?_, by decide, ?_, rfl, bad 2⟩
              · unfold fX4_bridge fX4_isHeight
                simp (disch := first | omega | assumption) only [kk_nm, Option.bind_some, kl_0, kl_1, kl_2, kl_3, kl_4, kl_5, kl_6, kl_7, kl_8, kl_9, kl_10, kl_12, kl_14, kl_15, kl_16, kl_20, kl_31, kl_33, kl_48, kl_49, kl_50, kl_57, kl_59, kl_60, kl_62, kl_63, kl_98, kl_99, kl_103, kl_104, kl_126, kl_144, kl_310, kl_372, kl_100000, kl_1000000, kl_neg, kl_mm, kl_am, nI_add, kl_mul, kl_sub, kl_le, kl_lt, kl_eq, kl_eM, kl_Me, kl_ltM, kl_leM, kl_ck, kl_cj, kl_cb, kl_bit, nI_clamp, va_up_self, va_up_ne, pk_us, pk_un, if_pos, if_neg, eq_self, and_true, true_and, and_false, false_and, if_true, if_false, Bool.false_eq_true, h5, k1]
              · unfold fX5_bridge
                simp (disch := first | omega | assumption) only [kk_nm, Option.bind_some, kl_0, kl_1, kl_2, kl_3, kl_4, kl_5, kl_6, kl_7, kl_8, kl_9, kl_10, kl_12, kl_14, kl_15, kl_16, kl_20, kl_31, kl_33, kl_48, kl_49, kl_50, kl_57, kl_59, kl_60, kl_62, kl_63, kl_98, kl_99, kl_103, kl_104, kl_126, kl_144, kl_310, kl_372, kl_100000, kl_1000000, kl_neg, kl_mm, kl_am, nI_add, kl_mul, kl_sub, kl_le, kl_lt, kl_eq, kl_eM, kl_Me, kl_ltM, kl_leM, kl_ck, kl_cj, kl_cb, kl_bit, nI_clamp, va_up_self, va_up_ne, pk_us, pk_un, if_pos, if_neg, eq_self, and_true, true_and, and_false, false_and, if_true, if_false, Bool.false_eq_true, r0, x, x2, k2, q5_fails]
        · rw [if_neg b1] at x2
          left
          refine ⟨2, nI 0, _, ?_, by decide, ?_, rfl, bad 1⟩
          · unfold fX4_bridge fX4_isHeight
            by_cases b4 : b < 10
            · simp (disch := first | omega | assumption) only [kk_nm, Option.bind_some, kl_0, kl_1, kl_2, kl_3, kl_4, kl_5, kl_6, kl_7, kl_8, kl_9, kl_10, kl_12, kl_14, kl_15, kl_16, kl_20, kl_31, kl_33, kl_48, kl_49, kl_50, kl_57, kl_59, kl_60, kl_62, kl_63, kl_98, kl_99, kl_103, kl_104, kl_126, kl_144, kl_310, kl_372, kl_100000, kl_1000000, kl_neg, kl_mm, kl_am, nI_add, kl_mul, kl_sub, kl_le, kl_lt, kl_eq, kl_eM, kl_Me, kl_ltM, kl_leM, kl_ck, kl_cj, kl_cb, kl_bit, nI_clamp, va_up_self, va_up_ne, pk_us, pk_un, if_pos, if_neg, eq_self, and_true, true_and, and_false, false_and, if_true, if_false, Bool.false_eq_true]
            · simp (disch := first | omega | assumption) only [kk_nm, Option.bind_some, kl_0, kl_1, kl_2, kl_3, kl_4, kl_5, kl_6, kl_7, kl_8, kl_9, kl_10, kl_12, kl_14, kl_15, kl_16, kl_20, kl_31, kl_33, kl_48, kl_49, kl_50, kl_57, kl_59, kl_60, kl_62, kl_63, kl_98, kl_99, kl_103, kl_104, kl_126, kl_144, kl_310, kl_372, kl_100000, kl_1000000, kl_neg, kl_mm, kl_am, nI_add, kl_mul, kl_sub, kl_le, kl_lt, kl_eq, kl_eM, kl_Me, kl_ltM, kl_leM, kl_ck, kl_cj, kl_cb, kl_bit, nI_clamp, va_up_self, va_up_ne, pk_us, pk_un, if_pos, if_neg, eq_self, and_true, true_and, and_false, false_and, if_true, if_false, Bool.false_eq_true]
          · unfold fX5_bridge
            simp (disch := first | omega | assumption) only [kk_nm, Option.bind_some, kl_0, kl_1, kl_2, kl_3, kl_4, kl_5, kl_6, kl_7, kl_8, kl_9, kl_10, kl_12, kl_14, kl_15, kl_16, kl_20, kl_31, kl_33, kl_48, kl_49, kl_50, kl_57, kl_59, kl_60, kl_62, kl_63, kl_98, kl_99, kl_103, kl_104, kl_126, kl_144, kl_310, kl_372, kl_100000, kl_1000000, kl_neg, kl_mm, kl_am, nI_add, kl_mul, kl_sub, kl_le, kl_lt, kl_eq, kl_eM, kl_Me, kl_ltM, kl_leM, kl_ck, kl_cj, kl_cb, kl_bit, nI_clamp, va_up_self, va_up_ne, pk_us, pk_un, if_pos, if_neg, eq_self, and_true, true_and, and_false, false_and, if_true, if_false, Bool.false_eq_true, x, x2, q5_fails]
    · rw [if_neg d1] at x
      left
      refine ⟨2, nI 0, _, ?_, by decide, ?_, rfl, bad 1⟩
      · unfold fX4_bridge
        by_cases d4 : d < 1
        · simp (disch := first | omega | assumption) only [kk_nm, Option.bind_some, kl_0, kl_1, kl_2, kl_3, kl_4, kl_5, kl_6, kl_7, kl_8, kl_9, kl_10, kl_12, kl_14, kl_15, kl_16, kl_20, kl_31, kl_33, kl_48, kl_49, kl_50, kl_57, kl_59, kl_60, kl_62, kl_63, kl_98, kl_99, kl_103, kl_104, kl_126, kl_144, kl_310, kl_372, kl_100000, kl_1000000, kl_neg, kl_mm, kl_am, nI_add, kl_mul, kl_sub, kl_le, kl_lt, kl_eq, kl_eM, kl_Me, kl_ltM, kl_leM, kl_ck, kl_cj, kl_cb, kl_bit, nI_clamp, va_up_self, va_up_ne, pk_us, pk_un, if_pos, if_neg, eq_self, and_true, true_and, and_false, false_and, if_true, if_false, Bool.false_eq_true]
        · simp (disch := first | omega | assumption) only [kk_nm, Option.bind_some, kl_0, kl_1, kl_2, kl_3, kl_4, kl_5, kl_6, kl_7, kl_8, kl_9, kl_10, kl_12, kl_14, kl_15, kl_16, kl_20, kl_31, kl_33, kl_48, kl_49, kl_50, kl_57, kl_59, kl_60, kl_62, kl_63, kl_98, kl_99, kl_103, kl_104, kl_126, kl_144, kl_310, kl_372, kl_100000, kl_1000000, kl_neg, kl_mm, kl_am, nI_add, kl_mul, kl_sub, kl_le, kl_lt, kl_eq, kl_eM, kl_Me, kl_ltM, kl_leM, kl_ck, kl_cj, kl_cb, kl_bit, nI_clamp, va_up_self, va_up_ne, pk_us, pk_un, if_pos, if_neg, eq_self, and_true, true_and, and_false, false_and, if_true, if_false, Bool.false_eq_true]
      · unfold fX5_bridge
        simp (disch := first | omega | assumption) only [kk_nm, Option.bind_some, kl_0, kl_1, kl_2, kl_3, kl_4, kl_5, kl_6, kl_7, kl_8, kl_9, kl_10, kl_12, kl_14, kl_15, kl_16, kl_20, kl_31, kl_33, kl_48, kl_49, kl_50, kl_57, kl_59, kl_60, kl_62, kl_63, kl_98, kl_99, kl_103, kl_104, kl_126, kl_144, kl_310, kl_372, kl_100000, kl_1000000, kl_neg, kl_mm, kl_am, nI_add, kl_mul, kl_sub, kl_le, kl_lt, kl_eq, kl_eM, kl_Me, kl_ltM, kl_leM, kl_ck, kl_cj, kl_cb, kl_bit, nI_clamp, va_up_self, va_up_ne, pk_us, pk_un, if_pos, if_neg, eq_self, and_true, true_and, and_false, false_and, if_true, if_false, Bool.false_eq_true, x, q5_fails]
theorem st_unbridge (hn : 1000 ≤ n) (h : RR G V M) (v : Int32) : OK3 [1] id G V (fX4_unbridge n G V v) (fX5_unbridge n M v) := by
  have hr := h
  obtain ⟨s, c, ps, cc, t, h⟩ := h
  have hx := h
  obtain ⟨hP, hM, hW, hH, -⟩ := h
  have w1 := hW.2.1
  have bad : ∀ k, RR G V (va_up (va_up M 6 (fun _ => nI 0)) 6 (fun _ => nI k)) := fun k => RR_6 (RR_6 hr)
  rcases needB (n := n) (V := V) hP hM hW v with ⟨e1, e2⟩ | ⟨j, hj, rfl, e1, e2⟩
  · left
    refine ⟨1, nI 0, _, ?_, by decide, ?_, rfl, bad 1⟩
    · unfold fX4_unbridge
      simp (disch := first | omega | assumption) only [kk_nm, Option.bind_some, kl_0, kl_1, kl_2, kl_3, kl_4, kl_5, kl_6, kl_7, kl_8, kl_9, kl_10, kl_12, kl_14, kl_15, kl_16, kl_20, kl_31, kl_33, kl_48, kl_49, kl_50, kl_57, kl_59, kl_60, kl_62, kl_63, kl_98, kl_99, kl_103, kl_104, kl_126, kl_144, kl_310, kl_372, kl_100000, kl_1000000, kl_neg, kl_mm, kl_am, nI_add, kl_mul, kl_sub, kl_le, kl_lt, kl_eq, kl_eM, kl_Me, kl_ltM, kl_leM, kl_ck, kl_cj, kl_cb, kl_bit, nI_clamp, va_up_self, va_up_ne, pk_us, pk_un, if_pos, if_neg, eq_self, and_true, true_and, and_false, false_and, if_true, if_false, Bool.false_eq_true, e1, kk_trl]
    · unfold fX5_unbridge
      simp (disch := first | omega | assumption) only [kk_nm, Option.bind_some, kl_0, kl_1, kl_2, kl_3, kl_4, kl_5, kl_6, kl_7, kl_8, kl_9, kl_10, kl_12, kl_14, kl_15, kl_16, kl_20, kl_31, kl_33, kl_48, kl_49, kl_50, kl_57, kl_59, kl_60, kl_62, kl_63, kl_98, kl_99, kl_103, kl_104, kl_126, kl_144, kl_310, kl_372, kl_100000, kl_1000000, kl_neg, kl_mm, kl_am, nI_add, kl_mul, kl_sub, kl_le, kl_lt, kl_eq, kl_eM, kl_Me, kl_ltM, kl_leM, kl_ck, kl_cj, kl_cb, kl_bit, nI_clamp, va_up_self, va_up_ne, pk_us, pk_un, if_pos, if_neg, eq_self, and_true, true_and, and_false, false_and, if_true, if_false, Bool.false_eq_true, e2, q5_fails]
  · right
    obtain ⟨V', M', c', ps', e3, e4, hfr, hH'⟩ := q_save (M := va_up M 6 (fun _ => nI 0)) hn (RH_cg rfl rfl hH) hP hW hM
    obtain ⟨P', e5, hP'⟩ := q2_pullDown hn hP hW hj
    have hPj := (hP.2.2.2.1 j hj).1
    have m0 : M' 0 = M 0 := hfr 0 (by omega) (by omega)
    have hM0 : RM (M' 0) s := by rw [m0]; exact hM
    have r0 := hM0.r
    have hM1 := RM_up (i := 5) (x := s 5 - 1) hM0
    obtain ⟨M2, e6, hk2, hM2⟩ := q5_unbridgeLoop (M := va_up M' 0 (upd (M' 0) 5 (nI (s 5 - 1)))) hn (by rw [va_up_self]; exact hM1) hW hj
    refine ⟨nI (s (6 + 2 * j)), va_up G 1 P', V', M2, ?_, ?_, ?_, RX_up hx (s' := uS j s) (by rw [va_up_self]; exact hP') hM2 (WF_uS hW hj) (RH_cg (by rw [hk2 2 (by omega), va_up_ne _ _ (by omega)]) (by rw [hk2 3 (by omega), va_up_ne _ _ (by omega)]) hH') rfl ?_ ?_⟩
    · unfold fX4_unbridge
      simp (disch := first | omega | assumption) only [kk_nm, Option.bind_some, kl_0, kl_1, kl_2, kl_3, kl_4, kl_5, kl_6, kl_7, kl_8, kl_9, kl_10, kl_12, kl_14, kl_15, kl_16, kl_20, kl_31, kl_33, kl_48, kl_49, kl_50, kl_57, kl_59, kl_60, kl_62, kl_63, kl_98, kl_99, kl_103, kl_104, kl_126, kl_144, kl_310, kl_372, kl_100000, kl_1000000, kl_neg, kl_mm, kl_am, nI_add, kl_mul, kl_sub, kl_le, kl_lt, kl_eq, kl_eM, kl_Me, kl_ltM, kl_leM, kl_ck, kl_cj, kl_cb, kl_bit, nI_clamp, va_up_self, va_up_ne, pk_us, pk_un, if_pos, if_neg, eq_self, and_true, true_and, and_false, false_and, if_true, if_false, Bool.false_eq_true, e1, kk_trr, e3, e5, hPj]
    · unfold fX5_unbridge
      simp (disch := first | omega | assumption) only [kk_nm, Option.bind_some, kl_0, kl_1, kl_2, kl_3, kl_4, kl_5, kl_6, kl_7, kl_8, kl_9, kl_10, kl_12, kl_14, kl_15, kl_16, kl_20, kl_31, kl_33, kl_48, kl_49, kl_50, kl_57, kl_59, kl_60, kl_62, kl_63, kl_98, kl_99, kl_103, kl_104, kl_126, kl_144, kl_310, kl_372, kl_100000, kl_1000000, kl_neg, kl_mm, kl_am, nI_add, kl_mul, kl_sub, kl_le, kl_lt, kl_eq, kl_eM, kl_Me, kl_ltM, kl_leM, kl_ck, kl_cj, kl_cb, kl_bit, nI_clamp, va_up_self, va_up_ne, pk_us, pk_un, if_pos, if_neg, eq_self, and_true, true_and, and_false, false_and, if_true, if_false, Bool.false_eq_true, e2, e4, r0, e6]
    · rw [hk2 6 (by omega), va_up_ne _ _ (by omega), hfr 6 (by omega) (by omega)]; rfl
    · rw [hk2 5 (by omega), va_up_ne _ _ (by omega), hfr 5 (by omega) (by omega)]; rfl
    · rw [hk2 4 (by omega), va_up_ne _ _ (by omega), hfr 4 (by omega) (by omega)]; rfl
theorem st_undo (hn : 1000 ≤ n) (h : RR G V M) : OK3 [3] (fun k => k - 2) G V (fX4_undo n G V) (fX5_undo n M) := by
  have hr := h
  obtain ⟨s, c, ps, cc, t, h⟩ := h
  have hx := h
  obtain ⟨hP, hM, hW, hH, -⟩ := h
  have hc6 := hH.1
  have v0 := hH.2.1
  have m3 := hH.2.2.1
  have bad : ∀ k, RR G V (va_up (va_up M 6 (fun _ => nI 0)) 6 (fun _ => nI k)) := fun k => RR_6 (RR_6 hr)
  by_cases c0 : c = 0
  · left
    refine ⟨3, nI 0, _, ?_, by decide, ?_, rfl, bad 1⟩
    · unfold fX4_undo
      simp (disch := first | omega | assumption) only [kk_nm, Option.bind_some, kl_0, kl_1, kl_2, kl_3, kl_4, kl_5, kl_6, kl_7, kl_8, kl_9, kl_10, kl_12, kl_14, kl_15, kl_16, kl_20, kl_31, kl_33, kl_48, kl_49, kl_50, kl_57, kl_59, kl_60, kl_62, kl_63, kl_98, kl_99, kl_103, kl_104, kl_126, kl_144, kl_310, kl_372, kl_100000, kl_1000000, kl_neg, kl_mm, kl_am, nI_add, kl_mul, kl_sub, kl_le, kl_lt, kl_eq, kl_eM, kl_Me, kl_ltM, kl_leM, kl_ck, kl_cj, kl_cb, kl_bit, nI_clamp, va_up_self, va_up_ne, pk_us, pk_un, if_pos, if_neg, eq_self, and_true, true_and, and_false, false_and, if_true, if_false, Bool.false_eq_true, v0]
    · unfold fX5_undo
      simp (disch := first | omega | assumption) only [kk_nm, Option.bind_some, kl_0, kl_1, kl_2, kl_3, kl_4, kl_5, kl_6, kl_7, kl_8, kl_9, kl_10, kl_12, kl_14, kl_15, kl_16, kl_20, kl_31, kl_33, kl_48, kl_49, kl_50, kl_57, kl_59, kl_60, kl_62, kl_63, kl_98, kl_99, kl_103, kl_104, kl_126, kl_144, kl_310, kl_372, kl_100000, kl_1000000, kl_neg, kl_mm, kl_am, nI_add, kl_mul, kl_sub, kl_le, kl_lt, kl_eq, kl_eM, kl_Me, kl_ltM, kl_leM, kl_ck, kl_cj, kl_cb, kl_bit, nI_clamp, va_up_self, va_up_ne, pk_us, pk_un, if_pos, if_neg, eq_self, and_true, true_and, and_false, false_and, if_true, if_false, Bool.false_eq_true, m3, q5_fails]
  · right
    obtain ⟨V', P', f', e1, hv', hP', hW', e2, hf', hH'⟩ := q_restore (P := G 1) (M := va_up M 6 (fun _ => nI 0)) hn (RH_cg rfl rfl hH) (by omega)
    refine ⟨nI (c - 1), va_up G 1 P', V', va_up (va_up (va_up M 6 (fun _ => nI 0)) 3 (fun _ => nI (c - 1))) 0 f', ?_, ?_, rfl, RX_up hx (s' := ps (c - 1)) (by rw [va_up_self]; exact hP') (by rw [va_up_self]; exact hf') hW' hH' rfl rfl rfl⟩
    · unfold fX4_undo
      simp (disch := first | omega | assumption) only [kk_nm, Option.bind_some, kl_0, kl_1, kl_2, kl_3, kl_4, kl_5, kl_6, kl_7, kl_8, kl_9, kl_10, kl_12, kl_14, kl_15, kl_16, kl_20, kl_31, kl_33, kl_48, kl_49, kl_50, kl_57, kl_59, kl_60, kl_62, kl_63, kl_98, kl_99, kl_103, kl_104, kl_126, kl_144, kl_310, kl_372, kl_100000, kl_1000000, kl_neg, kl_mm, kl_am, nI_add, kl_mul, kl_sub, kl_le, kl_lt, kl_eq, kl_eM, kl_Me, kl_ltM, kl_leM, kl_ck, kl_cj, kl_cb, kl_bit, nI_clamp, va_up_self, va_up_ne, pk_us, pk_un, if_pos, if_neg, eq_self, and_true, true_and, and_false, false_and, if_true, if_false, Bool.false_eq_true, v0, e1, hv']
    · rw [va_up_ne _ _ (by omega), va_up_ne _ _ (by omega)] at e2
      unfold fX5_undo
      simp (disch := first | omega | assumption) only [kk_nm, Option.bind_some, kl_0, kl_1, kl_2, kl_3, kl_4, kl_5, kl_6, kl_7, kl_8, kl_9, kl_10, kl_12, kl_14, kl_15, kl_16, kl_20, kl_31, kl_33, kl_48, kl_49, kl_50, kl_57, kl_59, kl_60, kl_62, kl_63, kl_98, kl_99, kl_103, kl_104, kl_126, kl_144, kl_310, kl_372, kl_100000, kl_1000000, kl_neg, kl_mm, kl_am, nI_add, kl_mul, kl_sub, kl_le, kl_lt, kl_eq, kl_eM, kl_Me, kl_ltM, kl_leM, kl_ck, kl_cj, kl_cb, kl_bit, nI_clamp, va_up_self, va_up_ne, pk_us, pk_un, if_pos, if_neg, eq_self, and_true, true_and, and_false, false_and, if_true, if_false, Bool.false_eq_true, m3, e2]
theorem st_arrange (hn : 300000 ≤ n) (h : RR G V M) : ∃ b G' V' M', fX4_arrange n G V = some (b, G', V') ∧ fX5_arrange n M = some (b, M') ∧ M' 6 0 = nI 0 ∧ RR G' V' M' := by
  have hr := h
  obtain ⟨s, c, ps, cc, t, h⟩ := h
  have hx := h
  obtain ⟨hP, hM, hW, hH, -⟩ := h
  have hn1 : 1000 ≤ n := by omega
  have hm := mS_le hW
  obtain ⟨V', M', c', ps', e3, e4, hfr, hH'⟩ := q_save (M := va_up M 6 (fun _ => nI 0)) hn1 (RH_cg rfl rfl hH) hP hW hM
  have hM0 : RM (M' 0) s := by rw [hfr 0 (by omega) (by omega)]; exact hM
  obtain ⟨M2, e5, hk5⟩ := q5_bestExchange (M := M') hn1 hM0 hW
  obtain ⟨r, s', G', M3, e6, e7, hP', hW', hM', hkG, hkM⟩ := q_arr hn1 (mS s + 1) s 0 G M2 n (by omega) (by omega) (by omega) hP hW (by rw [hk5 0 (by omega) (by omega)]; exact hM0)
  refine ⟨nI r, G', V', M3, ?_, ?_, ?_, RX_up hx hP' hM' hW' (RH_cg (by rw [hkM 2 (by omega) (by omega) (by omega), hk5 2 (by omega) (by omega)]) (by rw [hkM 3 (by omega) (by omega) (by omega), hk5 3 (by omega) (by omega)]) hH') (hkG 0 (by omega) (by omega)) ?_ ?_⟩
  · unfold fX4_arrange
    simp (disch := first | omega | assumption) only [kk_nm, Option.bind_some, kl_0, kl_1, kl_2, kl_3, kl_4, kl_5, kl_6, kl_7, kl_8, kl_9, kl_10, kl_12, kl_14, kl_15, kl_16, kl_20, kl_31, kl_33, kl_48, kl_49, kl_50, kl_57, kl_59, kl_60, kl_62, kl_63, kl_98, kl_99, kl_103, kl_104, kl_126, kl_144, kl_310, kl_372, kl_100000, kl_1000000, kl_neg, kl_mm, kl_am, nI_add, kl_mul, kl_sub, kl_le, kl_lt, kl_eq, kl_eM, kl_Me, kl_ltM, kl_leM, kl_ck, kl_cj, kl_cb, kl_bit, nI_clamp, va_up_self, va_up_ne, pk_us, pk_un, if_pos, if_neg, eq_self, and_true, true_and, and_false, false_and, if_true, if_false, Bool.false_eq_true, e3, e6]
  · unfold fX5_arrange
    simp (disch := first | omega | assumption) only [kk_nm, Option.bind_some, kl_0, kl_1, kl_2, kl_3, kl_4, kl_5, kl_6, kl_7, kl_8, kl_9, kl_10, kl_12, kl_14, kl_15, kl_16, kl_20, kl_31, kl_33, kl_48, kl_49, kl_50, kl_57, kl_59, kl_60, kl_62, kl_63, kl_98, kl_99, kl_103, kl_104, kl_126, kl_144, kl_310, kl_372, kl_100000, kl_1000000, kl_neg, kl_mm, kl_am, nI_add, kl_mul, kl_sub, kl_le, kl_lt, kl_eq, kl_eM, kl_Me, kl_ltM, kl_leM, kl_ck, kl_cj, kl_cb, kl_bit, nI_clamp, va_up_self, va_up_ne, pk_us, pk_un, if_pos, if_neg, eq_self, and_true, true_and, and_false, false_and, if_true, if_false, Bool.false_eq_true, e4, e5, e7]
  · rw [hkM 6 (by omega) (by omega) (by omega), hk5 6 (by omega) (by omega), hfr 6 (by omega) (by omega)]; rfl
  · rw [hkM 5 (by omega) (by omega) (by omega), hk5 5 (by omega) (by omega), hfr 5 (by omega) (by omega)]; rfl
  · rw [hkM 4 (by omega) (by omega) (by omega), hk5 4 (by omega) (by omega), hfr 4 (by omega) (by omega)]; rfl
theorem st_append (hn : 1000 ≤ n) (h : RR G V M) (v : Int32) : (∃ k b M', fX4_append n G v = some (.inl k) ∧ k ∈ [2, 3] ∧ fX5_append n M v = some (b, M') ∧ M' 6 0 = nI (k - 1) ∧ RR G V M') ∨ ∃ b G' M', fX4_append n G v = some (.inr (b, G')) ∧ fX5_append n M v = some (b, M') ∧ M' 6 0 = nI 0 ∧ RR G' V M' := by
  have hr := h
  obtain ⟨s, c, ps, cc, t, h⟩ := h
  have hx := h
  obtain ⟨hP, hM, hW, hH, hcc, hl, hm, ht⟩ := h
  have bad : ∀ k, RR G V (va_up (va_up M 6 (fun _ => nI 0)) 6 (fun _ => nI k)) := fun k => RR_6 (RR_6 hr)
  rcases arg_cases v with hv | ⟨ch, hch, rfl⟩
  · left
    have y := neg_lt (a := 33) hv (by omega)
    refine ⟨2, nI 0, _, ?_, by decide, ?_, rfl, bad 1⟩
    · unfold fX4_append
      simp (disch := first | omega | assumption) only [kk_nm, Option.bind_some, kl_0, kl_1, kl_2, kl_3, kl_4, kl_5, kl_6, kl_7, kl_8, kl_9, kl_10, kl_12, kl_14, kl_15, kl_16, kl_20, kl_31, kl_33, kl_48, kl_49, kl_50, kl_57, kl_59, kl_60, kl_62, kl_63, kl_98, kl_99, kl_103, kl_104, kl_126, kl_144, kl_310, kl_372, kl_100000, kl_1000000, kl_neg, kl_mm, kl_am, nI_add, kl_mul, kl_sub, kl_le, kl_lt, kl_eq, kl_eM, kl_Me, kl_ltM, kl_leM, kl_ck, kl_cj, kl_cb, kl_bit, nI_clamp, va_up_self, va_up_ne, pk_us, pk_un, if_pos, if_neg, eq_self, and_true, true_and, and_false, false_and, if_true, if_false, Bool.false_eq_true, y]
    · have x := fun y => q5_inN (n := n) (y := y) (a := 33) hv (by omega)
      unfold fX5_append
      simp (disch := first | omega | assumption) only [kk_nm, Option.bind_some, kl_0, kl_1, kl_2, kl_3, kl_4, kl_5, kl_6, kl_7, kl_8, kl_9, kl_10, kl_12, kl_14, kl_15, kl_16, kl_20, kl_31, kl_33, kl_48, kl_49, kl_50, kl_57, kl_59, kl_60, kl_62, kl_63, kl_98, kl_99, kl_103, kl_104, kl_126, kl_144, kl_310, kl_372, kl_100000, kl_1000000, kl_neg, kl_mm, kl_am, nI_add, kl_mul, kl_sub, kl_le, kl_lt, kl_eq, kl_eM, kl_Me, kl_ltM, kl_leM, kl_ck, kl_cj, kl_cb, kl_bit, nI_clamp, va_up_self, va_up_ne, pk_us, pk_un, if_pos, if_neg, eq_self, and_true, true_and, and_false, false_and, if_true, if_false, Bool.false_eq_true, x, q5_fails]
  · have x := q5_in (n := n) (v := ch) (x := 33) (y := 126) hch (by omega) (by omega)
    by_cases d : 33 ≤ ch ∧ ch ≤ 126
    · rw [if_pos d] at x
      by_cases c60 : cc = 60
      · left
        refine ⟨3, nI 0, _, ?_, by decide, ?_, rfl, bad 2⟩
        · unfold fX4_append
          simp (disch := first | omega | assumption) only [kk_nm, Option.bind_some, kl_0, kl_1, kl_2, kl_3, kl_4, kl_5, kl_6, kl_7, kl_8, kl_9, kl_10, kl_12, kl_14, kl_15, kl_16, kl_20, kl_31, kl_33, kl_48, kl_49, kl_50, kl_57, kl_59, kl_60, kl_62, kl_63, kl_98, kl_99, kl_103, kl_104, kl_126, kl_144, kl_310, kl_372, kl_100000, kl_1000000, kl_neg, kl_mm, kl_am, nI_add, kl_mul, kl_sub, kl_le, kl_lt, kl_eq, kl_eM, kl_Me, kl_ltM, kl_leM, kl_ck, kl_cj, kl_cb, kl_bit, nI_clamp, va_up_self, va_up_ne, pk_us, pk_un, if_pos, if_neg, eq_self, and_true, true_and, and_false, false_and, if_true, if_false, Bool.false_eq_true, hl]
        · unfold fX5_append
          simp (disch := first | omega | assumption) only [kk_nm, Option.bind_some, kl_0, kl_1, kl_2, kl_3, kl_4, kl_5, kl_6, kl_7, kl_8, kl_9, kl_10, kl_12, kl_14, kl_15, kl_16, kl_20, kl_31, kl_33, kl_48, kl_49, kl_50, kl_57, kl_59, kl_60, kl_62, kl_63, kl_98, kl_99, kl_103, kl_104, kl_126, kl_144, kl_310, kl_372, kl_100000, kl_1000000, kl_neg, kl_mm, kl_am, nI_add, kl_mul, kl_sub, kl_le, kl_lt, kl_eq, kl_eM, kl_Me, kl_ltM, kl_leM, kl_ck, kl_cj, kl_cb, kl_bit, nI_clamp, va_up_self, va_up_ne, pk_us, pk_un, if_pos, if_neg, eq_self, and_true, true_and, and_false, false_and, if_true, if_false, Bool.false_eq_true, x, hm, q5_fails]
      · right
        refine ⟨nI (cc + 1), va_up (va_up G 0 (va_up (G 0) 5 (upd (G 0 5) cc (nI ch)))) 0 (va_up (va_up (G 0) 5 (upd (G 0 5) cc (nI ch))) 6 (fun _ => nI (cc + 1))), va_up (va_up (va_up M 6 (fun _ => nI 0)) 4 (upd (M 4) cc (nI ch))) 5 (fun _ => nI (cc + 1)), ?_, ?_, rfl, s, c, ps, cc + 1, (fun k => if k = cc then ch else t k), hP, hM, hW, RH_cg rfl rfl hH, by omega, rfl, rfl, fun k hk => ?_⟩
        · unfold fX4_append
          simp (disch := first | omega | assumption) only [kk_nm, Option.bind_some, kl_0, kl_1, kl_2, kl_3, kl_4, kl_5, kl_6, kl_7, kl_8, kl_9, kl_10, kl_12, kl_14, kl_15, kl_16, kl_20, kl_31, kl_33, kl_48, kl_49, kl_50, kl_57, kl_59, kl_60, kl_62, kl_63, kl_98, kl_99, kl_103, kl_104, kl_126, kl_144, kl_310, kl_372, kl_100000, kl_1000000, kl_neg, kl_mm, kl_am, nI_add, kl_mul, kl_sub, kl_le, kl_lt, kl_eq, kl_eM, kl_Me, kl_ltM, kl_leM, kl_ck, kl_cj, kl_cb, kl_bit, nI_clamp, va_up_self, va_up_ne, pk_us, pk_un, if_pos, if_neg, eq_self, and_true, true_and, and_false, false_and, if_true, if_false, Bool.false_eq_true, hl]
        · unfold fX5_append
          simp (disch := first | omega | assumption) only [kk_nm, Option.bind_some, kl_0, kl_1, kl_2, kl_3, kl_4, kl_5, kl_6, kl_7, kl_8, kl_9, kl_10, kl_12, kl_14, kl_15, kl_16, kl_20, kl_31, kl_33, kl_48, kl_49, kl_50, kl_57, kl_59, kl_60, kl_62, kl_63, kl_98, kl_99, kl_103, kl_104, kl_126, kl_144, kl_310, kl_372, kl_100000, kl_1000000, kl_neg, kl_mm, kl_am, nI_add, kl_mul, kl_sub, kl_le, kl_lt, kl_eq, kl_eM, kl_Me, kl_ltM, kl_leM, kl_ck, kl_cj, kl_cb, kl_bit, nI_clamp, va_up_self, va_up_ne, pk_us, pk_un, if_pos, if_neg, eq_self, and_true, true_and, and_false, false_and, if_true, if_false, Bool.false_eq_true, x, hm]
        · simp (disch := omega) only [va_up_ne, va_up_self]
          by_cases e : k = cc
          · rw [e, pk_us, pk_us, if_pos rfl]; exact ⟨rfl, rfl, by omega⟩
          · rw [pk_un e, pk_un e, if_neg e]; exact ht k (by omega)
    · rw [if_neg d] at x
      left
      refine ⟨2, nI 0, _, ?_, by decide, ?_, rfl, bad 1⟩
      · unfold fX4_append
        by_cases d4 : ch < 33
        · simp (disch := first | omega | assumption) only [kk_nm, Option.bind_some, kl_0, kl_1, kl_2, kl_3, kl_4, kl_5, kl_6, kl_7, kl_8, kl_9, kl_10, kl_12, kl_14, kl_15, kl_16, kl_20, kl_31, kl_33, kl_48, kl_49, kl_50, kl_57, kl_59, kl_60, kl_62, kl_63, kl_98, kl_99, kl_103, kl_104, kl_126, kl_144, kl_310, kl_372, kl_100000, kl_1000000, kl_neg, kl_mm, kl_am, nI_add, kl_mul, kl_sub, kl_le, kl_lt, kl_eq, kl_eM, kl_Me, kl_ltM, kl_leM, kl_ck, kl_cj, kl_cb, kl_bit, nI_clamp, va_up_self, va_up_ne, pk_us, pk_un, if_pos, if_neg, eq_self, and_true, true_and, and_false, false_and, if_true, if_false, Bool.false_eq_true]
        · simp (disch := first | omega | assumption) only [kk_nm, Option.bind_some, kl_0, kl_1, kl_2, kl_3, kl_4, kl_5, kl_6, kl_7, kl_8, kl_9, kl_10, kl_12, kl_14, kl_15, kl_16, kl_20, kl_31, kl_33, kl_48, kl_49, kl_50, kl_57, kl_59, kl_60, kl_62, kl_63, kl_98, kl_99, kl_103, kl_104, kl_126, kl_144, kl_310, kl_372, kl_100000, kl_1000000, kl_neg, kl_mm, kl_am, nI_add, kl_mul, kl_sub, kl_le, kl_lt, kl_eq, kl_eM, kl_Me, kl_ltM, kl_leM, kl_ck, kl_cj, kl_cb, kl_bit, nI_clamp, va_up_self, va_up_ne, pk_us, pk_un, if_pos, if_neg, eq_self, and_true, true_and, and_false, false_and, if_true, if_false, Bool.false_eq_true]
      · unfold fX5_append
        simp (disch := first | omega | assumption) only [kk_nm, Option.bind_some, kl_0, kl_1, kl_2, kl_3, kl_4, kl_5, kl_6, kl_7, kl_8, kl_9, kl_10, kl_12, kl_14, kl_15, kl_16, kl_20, kl_31, kl_33, kl_48, kl_49, kl_50, kl_57, kl_59, kl_60, kl_62, kl_63, kl_98, kl_99, kl_103, kl_104, kl_126, kl_144, kl_310, kl_372, kl_100000, kl_1000000, kl_neg, kl_mm, kl_am, nI_add, kl_mul, kl_sub, kl_le, kl_lt, kl_eq, kl_eM, kl_Me, kl_ltM, kl_leM, kl_ck, kl_cj, kl_cb, kl_bit, nI_clamp, va_up_self, va_up_ne, pk_us, pk_un, if_pos, if_neg, eq_self, and_true, true_and, and_false, false_and, if_true, if_false, Bool.false_eq_true, x, q5_fails]
theorem st_clear (h : RR G V M) : ∃ b G' M', fX4_clearBuffer n G = some (b, G') ∧ fX5_clearBuffer n M = some (b, M') ∧ M' 6 0 = nI 0 ∧ RR G' V M' := by
  obtain ⟨s, c, ps, cc, t, hP, hM, hW, hH, hcc, hl, hm, ht⟩ := h
  refine ⟨nI cc, va_up G 0 (va_up (G 0) 6 (fun _ => nI 0)), va_up (va_up M 6 (fun _ => nI 0)) 5 (fun _ => nI 0), ?_, ?_, rfl, s, c, ps, 0, t, hP, hM, hW, RH_cg rfl rfl hH, by omega, rfl, rfl, fun k hk => by omega⟩
  · unfold fX4_clearBuffer
    simp (disch := first | omega | assumption) only [kk_nm, Option.bind_some, kl_0, kl_1, kl_2, kl_3, kl_4, kl_5, kl_6, kl_7, kl_8, kl_9, kl_10, kl_12, kl_14, kl_15, kl_16, kl_20, kl_31, kl_33, kl_48, kl_49, kl_50, kl_57, kl_59, kl_60, kl_62, kl_63, kl_98, kl_99, kl_103, kl_104, kl_126, kl_144, kl_310, kl_372, kl_100000, kl_1000000, kl_neg, kl_mm, kl_am, nI_add, kl_mul, kl_sub, kl_le, kl_lt, kl_eq, kl_eM, kl_Me, kl_ltM, kl_leM, kl_ck, kl_cj, kl_cb, kl_bit, nI_clamp, va_up_self, va_up_ne, pk_us, pk_un, if_pos, if_neg, eq_self, and_true, true_and, and_false, false_and, if_true, if_false, Bool.false_eq_true, hl]
  · unfold fX5_clearBuffer
    simp (disch := first | omega | assumption) only [kk_nm, Option.bind_some, kl_0, kl_1, kl_2, kl_3, kl_4, kl_5, kl_6, kl_7, kl_8, kl_9, kl_10, kl_12, kl_14, kl_15, kl_16, kl_20, kl_31, kl_33, kl_48, kl_49, kl_50, kl_57, kl_59, kl_60, kl_62, kl_63, kl_98, kl_99, kl_103, kl_104, kl_126, kl_144, kl_310, kl_372, kl_100000, kl_1000000, kl_neg, kl_mm, kl_am, nI_add, kl_mul, kl_sub, kl_le, kl_lt, kl_eq, kl_eM, kl_Me, kl_ltM, kl_leM, kl_ck, kl_cj, kl_cb, kl_bit, nI_clamp, va_up_self, va_up_ne, pk_us, pk_un, if_pos, if_neg, eq_self, and_true, true_and, and_false, false_and, if_true, if_false, Bool.false_eq_true, hm]
end
