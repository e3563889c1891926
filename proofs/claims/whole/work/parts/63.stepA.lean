section
variable {n : Nat} {G V : St2} {M : St1} {s : Nat → Nat}
theorem isK (v2 v3 v4 : Int32) : ∃ r, fX4_isFloat n v2 v3 v4 = some (nI r) ∧ fX5_isKind n v2 v3 v4 = some (nI r) ∧ (r = 0 ∨ (r = 1 ∧ ∃ a b c, v2 = nI a ∧ a ≤ 3 ∧ v3 = nI b ∧ 10 ≤ b ∧ b ≤ 99 ∧ v4 = nI c ∧ c ≤ 15)) := by
  rcases arg_cases v2 with h2 | ⟨a, ha, rfl⟩
  · refine ⟨0, ?_, ?_, .inl rfl⟩
    · have x := neg_lt (a := 0) h2 (by omega)
      unfold fX4_isFloat
      simp (disch := first | omega | assumption) only [kk_nm, Option.bind_some, kl_0, kl_1, kl_2, kl_3, kl_4, kl_5, kl_6, kl_7, kl_8, kl_9, kl_10, kl_12, kl_14, kl_15, kl_16, kl_20, kl_31, kl_33, kl_48, kl_49, kl_50, kl_57, kl_59, kl_60, kl_62, kl_63, kl_98, kl_99, kl_103, kl_104, kl_126, kl_144, kl_310, kl_372, kl_100000, kl_1000000, kl_neg, kl_mm, kl_am, nI_add, kl_mul, kl_sub, kl_le, kl_lt, kl_eq, kl_eM, kl_Me, kl_ltM, kl_leM, kl_ck, kl_cj, kl_cb, kl_bit, nI_clamp, va_up_self, va_up_ne, pk_us, pk_un, if_pos, if_neg, eq_self, and_true, true_and, and_false, false_and, if_true, if_false, Bool.false_eq_true, x]
    · have x := fun y => q5_inN (n := n) (y := y) (a := 0) h2 (by omega)
      unfold fX5_isKind
      simp (disch := first | omega | assumption) only [kk_nm, Option.bind_some, kl_0, kl_1, kl_2, kl_3, kl_4, kl_5, kl_6, kl_7, kl_8, kl_9, kl_10, kl_12, kl_14, kl_15, kl_16, kl_20, kl_31, kl_33, kl_48, kl_49, kl_50, kl_57, kl_59, kl_60, kl_62, kl_63, kl_98, kl_99, kl_103, kl_104, kl_126, kl_144, kl_310, kl_372, kl_100000, kl_1000000, kl_neg, kl_mm, kl_am, nI_add, kl_mul, kl_sub, kl_le, kl_lt, kl_eq, kl_eM, kl_Me, kl_ltM, kl_leM, kl_ck, kl_cj, kl_cb, kl_bit, nI_clamp, va_up_self, va_up_ne, pk_us, pk_un, if_pos, if_neg, eq_self, and_true, true_and, and_false, false_and, if_true, if_false, Bool.false_eq_true, x]
  · by_cases a3 : a ≤ 3
    · have x2 := q5_in (n := n) (v := a) (x := 0) (y := 3) (by omega) (by omega) (by omega)
      rw [if_pos (show 0 ≤ a ∧ a ≤ 3 by omega)] at x2
      rcases arg_cases v3 with h3 | ⟨b, hb, rfl⟩
      · refine ⟨0, ?_, ?_, .inl rfl⟩
        · have x := neg_lt (a := 10) h3 (by omega)
          unfold fX4_isFloat fX4_isHeight
          simp (disch := first | omega | assumption) only [kk_nm, Option.bind_some, kl_0, kl_1, kl_2, kl_3, kl_4, kl_5, kl_6, kl_7, kl_8, kl_9, kl_10, kl_12, kl_14, kl_15, kl_16, kl_20, kl_31, kl_33, kl_48, kl_49, kl_50, kl_57, kl_59, kl_60, kl_62, kl_63, kl_98, kl_99, kl_103, kl_104, kl_126, kl_144, kl_310, kl_372, kl_100000, kl_1000000, kl_neg, kl_mm, kl_am, nI_add, kl_mul, kl_sub, kl_le, kl_lt, kl_eq, kl_eM, kl_Me, kl_ltM, kl_leM, kl_ck, kl_cj, kl_cb, kl_bit, nI_clamp, va_up_self, va_up_ne, pk_us, pk_un, if_pos, if_neg, eq_self, and_true, true_and, and_false, false_and, if_true, if_false, Bool.false_eq_true, x]
        · have x := fun y => q5_inN (n := n) (y := y) (a := 10) h3 (by omega)
          unfold fX5_isKind
          simp (disch := first | omega | assumption) only [kk_nm, Option.bind_some, kl_0, kl_1, kl_2, kl_3, kl_4, kl_5, kl_6, kl_7, kl_8, kl_9, kl_10, kl_12, kl_14, kl_15, kl_16, kl_20, kl_31, kl_33, kl_48, kl_49, kl_50, kl_57, kl_59, kl_60, kl_62, kl_63, kl_98, kl_99, kl_103, kl_104, kl_126, kl_144, kl_310, kl_372, kl_100000, kl_1000000, kl_neg, kl_mm, kl_am, nI_add, kl_mul, kl_sub, kl_le, kl_lt, kl_eq, kl_eM, kl_Me, kl_ltM, kl_leM, kl_ck, kl_cj, kl_cb, kl_bit, nI_clamp, va_up_self, va_up_ne, pk_us, pk_un, if_pos, if_neg, eq_self, and_true, true_and, and_false, false_and, if_true, if_false, Bool.false_eq_true, x2, x]
      · have x3 := q5_in (n := n) (v := b) (x := 10) (y := 99) (by omega) (by omega) (by omega)
        by_cases b3 : 10 ≤ b ∧ b ≤ 99
        · rw [if_pos b3] at x3
          rcases arg_cases v4 with h4 | ⟨c, hc, rfl⟩
          · refine ⟨0, ?_, ?_, .inl rfl⟩
            · have x := neg_lt (a := 0) h4 (by omega)
              unfold fX4_isFloat fX4_isHeight
              simp (disch := first | omega | assumption) only [kk_nm, Option.bind_some, kl_0, kl_1, kl_2, kl_3, kl_4, kl_5, kl_6, kl_7, kl_8, kl_9, kl_10, kl_12, kl_14, kl_15, kl_16, kl_20, kl_31, kl_33, kl_48, kl_49, kl_50, kl_57, kl_59, kl_60, kl_62, kl_63, kl_98, kl_99, kl_103, kl_104, kl_126, kl_144, kl_310, kl_372, kl_100000, kl_1000000, kl_neg, kl_mm, kl_am, nI_add, kl_mul, kl_sub, kl_le, kl_lt, kl_eq, kl_eM, kl_Me, kl_ltM, kl_leM, kl_ck, kl_cj, kl_cb, kl_bit, nI_clamp, va_up_self, va_up_ne, pk_us, pk_un, if_pos, if_neg, eq_self, and_true, true_and, and_false, false_and, if_true, if_false, Bool.false_eq_true, x]
            · have x := fun y => q5_inN (n := n) (y := y) (a := 0) h4 (by omega)
              unfold fX5_isKind
              by_cases a1 : a = 1
              · rw [a1] at x2
                simp (disch := first | omega | assumption) only [kk_nm, Option.bind_some, kl_0, kl_1, kl_2, kl_3, kl_4, kl_5, kl_6, kl_7, kl_8, kl_9, kl_10, kl_12, kl_14, kl_15, kl_16, kl_20, kl_31, kl_33, kl_48, kl_49, kl_50, kl_57, kl_59, kl_60, kl_62, kl_63, kl_98, kl_99, kl_103, kl_104, kl_126, kl_144, kl_310, kl_372, kl_100000, kl_1000000, kl_neg, kl_mm, kl_am, nI_add, kl_mul, kl_sub, kl_le, kl_lt, kl_eq, kl_eM, kl_Me, kl_ltM, kl_leM, kl_ck, kl_cj, kl_cb, kl_bit, nI_clamp, va_up_self, va_up_ne, pk_us, pk_un, if_pos, if_neg, eq_self, and_true, true_and, and_false, false_and, if_true, if_false, Bool.false_eq_true, x2, x3, x, a1]
              · simp (disch := first | omega | assumption) only [kk_nm, Option.bind_some, kl_0, kl_1, kl_2, kl_3, kl_4, kl_5, kl_6, kl_7, kl_8, kl_9, kl_10, kl_12, kl_14, kl_15, kl_16, kl_20, kl_31, kl_33, kl_48, kl_49, kl_50, kl_57, kl_59, kl_60, kl_62, kl_63, kl_98, kl_99, kl_103, kl_104, kl_126, kl_144, kl_310, kl_372, kl_100000, kl_1000000, kl_neg, kl_mm, kl_am, nI_add, kl_mul, kl_sub, kl_le, kl_lt, kl_eq, kl_eM, kl_Me, kl_ltM, kl_leM, kl_ck, kl_cj, kl_cb, kl_bit, nI_clamp, va_up_self, va_up_ne, pk_us, pk_un, if_pos, if_neg, eq_self, and_true, true_and, and_false, false_and, if_true, if_false, Bool.false_eq_true, x2, x3, x, a1]
          · have x4 := fun y (hy : y < 100) => q5_in (n := n) (v := c) (x := 0) (y := y) (by omega) (by omega) (by omega)
            by_cases a1 : a = 1
            · have x5 := x4 15 (by omega)
              by_cases c3 : c ≤ 15
              · rw [if_pos (show 0 ≤ c ∧ c ≤ 15 by omega)] at x5
                refine ⟨1, ?_, ?_, .inr ⟨rfl, a, b, c, rfl, a3, rfl, b3.1, b3.2, rfl, c3⟩⟩
                · unfold fX4_isFloat fX4_isHeight
                  simp (disch := first | omega | assumption) only [kk_nm, Option.bind_some, kl_0, kl_1, kl_2, kl_3, kl_4, kl_5, kl_6, kl_7, kl_8, kl_9, kl_10, kl_12, kl_14, kl_15, kl_16, kl_20, kl_31, kl_33, kl_48, kl_49, kl_50, kl_57, kl_59, kl_60, kl_62, kl_63, kl_98, kl_99, kl_103, kl_104, kl_126, kl_144, kl_310, kl_372, kl_100000, kl_1000000, kl_neg, kl_mm, kl_am, nI_add, kl_mul, kl_sub, kl_le, kl_lt, kl_eq, kl_eM, kl_Me, kl_ltM, kl_leM, kl_ck, kl_cj, kl_cb, kl_bit, nI_clamp, va_up_self, va_up_ne, pk_us, pk_un, if_pos, if_neg, eq_self, and_true, true_and, and_false, false_and, if_true, if_false, Bool.false_eq_true, a1]
                · rw [a1] at x2
                  unfold fX5_isKind
                  simp (disch := first | omega | assumption) only [kk_nm, Option.bind_some, kl_0, kl_1, kl_2, kl_3, kl_4, kl_5, kl_6, kl_7, kl_8, kl_9, kl_10, kl_12, kl_14, kl_15, kl_16, kl_20, kl_31, kl_33, kl_48, kl_49, kl_50, kl_57, kl_59, kl_60, kl_62, kl_63, kl_98, kl_99, kl_103, kl_104, kl_126, kl_144, kl_310, kl_372, kl_100000, kl_1000000, kl_neg, kl_mm, kl_am, nI_add, kl_mul, kl_sub, kl_le, kl_lt, kl_eq, kl_eM, kl_Me, kl_ltM, kl_leM, kl_ck, kl_cj, kl_cb, kl_bit, nI_clamp, va_up_self, va_up_ne, pk_us, pk_un, if_pos, if_neg, eq_self, and_true, true_and, and_false, false_and, if_true, if_false, Bool.false_eq_true, x2, x3, x5, a1]
              · rw [if_neg (show ¬ (0 ≤ c ∧ c ≤ 15) by omega)] at x5
                refine ⟨0, ?_, ?_, .inl rfl⟩
                · unfold fX4_isFloat fX4_isHeight
                  simp (disch := first | omega | assumption) only [kk_nm, Option.bind_some, kl_0, kl_1, kl_2, kl_3, kl_4, kl_5, kl_6, kl_7, kl_8, kl_9, kl_10, kl_12, kl_14, kl_15, kl_16, kl_20, kl_31, kl_33, kl_48, kl_49, kl_50, kl_57, kl_59, kl_60, kl_62, kl_63, kl_98, kl_99, kl_103, kl_104, kl_126, kl_144, kl_310, kl_372, kl_100000, kl_1000000, kl_neg, kl_mm, kl_am, nI_add, kl_mul, kl_sub, kl_le, kl_lt, kl_eq, kl_eM, kl_Me, kl_ltM, kl_leM, kl_ck, kl_cj, kl_cb, kl_bit, nI_clamp, va_up_self, va_up_ne, pk_us, pk_un, if_pos, if_neg, eq_self, and_true, true_and, and_false, false_and, if_true, if_false, Bool.false_eq_true, a1]
                · rw [a1] at x2
                  unfold fX5_isKind
                  simp (disch := first | omega | assumption) only [kk_nm, Option.bind_some, kl_0, kl_1, kl_2, kl_3, kl_4, kl_5, kl_6, kl_7, kl_8, kl_9, kl_10, kl_12, kl_14, kl_15, kl_16, kl_20, kl_31, kl_33, kl_48, kl_49, kl_50, kl_57, kl_59, kl_60, kl_62, kl_63, kl_98, kl_99, kl_103, kl_104, kl_126, kl_144, kl_310, kl_372, kl_100000, kl_1000000, kl_neg, kl_mm, kl_am, nI_add, kl_mul, kl_sub, kl_le, kl_lt, kl_eq, kl_eM, kl_Me, kl_ltM, kl_leM, kl_ck, kl_cj, kl_cb, kl_bit, nI_clamp, va_up_self, va_up_ne, pk_us, pk_un, if_pos, if_neg, eq_self, and_true, true_and, and_false, false_and, if_true, if_false, Bool.false_eq_true, x2, x3, x5, a1]
            · have x5 := x4 0 (by omega)
              by_cases c3 : c = 0
              · rw [if_pos (show 0 ≤ c ∧ c ≤ 0 by omega)] at x5
                refine ⟨1, ?_, ?_, .inr ⟨rfl, a, b, c, rfl, a3, rfl, b3.1, b3.2, rfl, by omega⟩⟩
                · unfold fX4_isFloat fX4_isHeight
                  simp (disch := first | omega | assumption) only [kk_nm, Option.bind_some, kl_0, kl_1, kl_2, kl_3, kl_4, kl_5, kl_6, kl_7, kl_8, kl_9, kl_10, kl_12, kl_14, kl_15, kl_16, kl_20, kl_31, kl_33, kl_48, kl_49, kl_50, kl_57, kl_59, kl_60, kl_62, kl_63, kl_98, kl_99, kl_103, kl_104, kl_126, kl_144, kl_310, kl_372, kl_100000, kl_1000000, kl_neg, kl_mm, kl_am, nI_add, kl_mul, kl_sub, kl_le, kl_lt, kl_eq, kl_eM, kl_Me, kl_ltM, kl_leM, kl_ck, kl_cj, kl_cb, kl_bit, nI_clamp, va_up_self, va_up_ne, pk_us, pk_un, if_pos, if_neg, eq_self, and_true, true_and, and_false, false_and, if_true, if_false, Bool.false_eq_true, a1]
                · unfold fX5_isKind
                  simp (disch := first | omega | assumption) only [kk_nm, Option.bind_some, kl_0, kl_1, kl_2, kl_3, kl_4, kl_5, kl_6, kl_7, kl_8, kl_9, kl_10, kl_12, kl_14, kl_15, kl_16, kl_20, kl_31, kl_33, kl_48, kl_49, kl_50, kl_57, kl_59, kl_60, kl_62, kl_63, kl_98, kl_99, kl_103, kl_104, kl_126, kl_144, kl_310, kl_372, kl_100000, kl_1000000, kl_neg, kl_mm, kl_am, nI_add, kl_mul, kl_sub, kl_le, kl_lt, kl_eq, kl_eM, kl_Me, kl_ltM, kl_leM, kl_ck, kl_cj, kl_cb, kl_bit, nI_clamp, va_up_self, va_up_ne, pk_us, pk_un, if_pos, if_neg, eq_self, and_true, true_and, and_false, false_and, if_true, if_false, Bool.false_eq_true, x2, x3, x5, a1]
              · rw [if_neg (show ¬ (0 ≤ c ∧ c ≤ 0) by omega)] at x5
                refine ⟨0, ?_, ?_, .inl rfl⟩
                · unfold fX4_isFloat fX4_isHeight
                  simp (disch := first | omega | assumption) only [kk_nm, Option.bind_some, kl_0, kl_1, kl_2, kl_3, kl_4, kl_5, kl_6, kl_7, kl_8, kl_9, kl_10, kl_12, kl_14, kl_15, kl_16, kl_20, kl_31, kl_33, kl_48, kl_49, kl_50, kl_57, kl_59, kl_60, kl_62, kl_63, kl_98, kl_99, kl_103, kl_104, kl_126, kl_144, kl_310, kl_372, kl_100000, kl_1000000, kl_neg, kl_mm, kl_am, nI_add, kl_mul, kl_sub, kl_le, kl_lt, kl_eq, kl_eM, kl_Me, kl_ltM, kl_leM, kl_ck, kl_cj, kl_cb, kl_bit, nI_clamp, va_up_self, va_up_ne, pk_us, pk_un, if_pos, if_neg, eq_self, and_true, true_and, and_false, false_and, if_true, if_false, Bool.false_eq_true, a1]
                · unfold fX5_isKind
                  simp (disch := first | omega | assumption) only [kk_nm, Option.bind_some, kl_0, kl_1, kl_2, kl_3, kl_4, kl_5, kl_6, kl_7, kl_8, kl_9, kl_10, kl_12, kl_14, kl_15, kl_16, kl_20, kl_31, kl_33, kl_48, kl_49, kl_50, kl_57, kl_59, kl_60, kl_62, kl_63, kl_98, kl_99, kl_103, kl_104, kl_126, kl_144, kl_310, kl_372, kl_100000, kl_1000000, kl_neg, kl_mm, kl_am, nI_add, kl_mul, kl_sub, kl_le, kl_lt, kl_eq, kl_eM, kl_Me, kl_ltM, kl_leM, kl_ck, kl_cj, kl_cb, kl_bit, nI_clamp, va_up_self, va_up_ne, pk_us, pk_un, if_pos, if_neg, eq_self, and_true, true_and, and_false, false_and, if_true, if_false, Bool.false_eq_true, x2, x3, x5, a1]
        · rw [if_neg b3] at x3
          refine ⟨0, ?_, ?_, .inl rfl⟩
          · unfold fX4_isFloat fX4_isHeight
            by_cases b4 : b < 10
            · simp (disch := first | omega | assumption) only [kk_nm, Option.bind_some, kl_0, kl_1, kl_2, kl_3, kl_4, kl_5, kl_6, kl_7, kl_8, kl_9, kl_10, kl_12, kl_14, kl_15, kl_16, kl_20, kl_31, kl_33, kl_48, kl_49, kl_50, kl_57, kl_59, kl_60, kl_62, kl_63, kl_98, kl_99, kl_103, kl_104, kl_126, kl_144, kl_310, kl_372, kl_100000, kl_1000000, kl_neg, kl_mm, kl_am, nI_add, kl_mul, kl_sub, kl_le, kl_lt, kl_eq, kl_eM, kl_Me, kl_ltM, kl_leM, kl_ck, kl_cj, kl_cb, kl_bit, nI_clamp, va_up_self, va_up_ne, pk_us, pk_un, if_pos, if_neg, eq_self, and_true, true_and, and_false, false_and, if_true, if_false, Bool.false_eq_true]
            · simp (disch := first | omega | assumption) only [kk_nm, Option.bind_some, kl_0, kl_1, kl_2, kl_3, kl_4, kl_5, kl_6, kl_7, kl_8, kl_9, kl_10, kl_12, kl_14, kl_15, kl_16, kl_20, kl_31, kl_33, kl_48, kl_49, kl_50, kl_57, kl_59, kl_60, kl_62, kl_63, kl_98, kl_99, kl_103, kl_104, kl_126, kl_144, kl_310, kl_372, kl_100000, kl_1000000, kl_neg, kl_mm, kl_am, nI_add, kl_mul, kl_sub, kl_le, kl_lt, kl_eq, kl_eM, kl_Me, kl_ltM, kl_leM, kl_ck, kl_cj, kl_cb, kl_bit, nI_clamp, va_up_self, va_up_ne, pk_us, pk_un, if_pos, if_neg, eq_self, and_true, true_and, and_false, false_and, if_true, if_false, Bool.false_eq_true]
          · unfold fX5_isKind
            simp (disch := first | omega | assumption) only [kk_nm, Option.bind_some, kl_0, kl_1, kl_2, kl_3, kl_4, kl_5, kl_6, kl_7, kl_8, kl_9, kl_10, kl_12, kl_14, kl_15, kl_16, kl_20, kl_31, kl_33, kl_48, kl_49, kl_50, kl_57, kl_59, kl_60, kl_62, kl_63, kl_98, kl_99, kl_103, kl_104, kl_126, kl_144, kl_310, kl_372, kl_100000, kl_1000000, kl_neg, kl_mm, kl_am, nI_add, kl_mul, kl_sub, kl_le, kl_lt, kl_eq, kl_eM, kl_Me, kl_ltM, kl_leM, kl_ck, kl_cj, kl_cb, kl_bit, nI_clamp, va_up_self, va_up_ne, pk_us, pk_un, if_pos, if_neg, eq_self, and_true, true_and, and_false, false_and, if_true, if_false, Bool.false_eq_true, x2, x3]
    · refine ⟨0, ?_, ?_, .inl rfl⟩
      · unfold fX4_isFloat
        simp (disch := first | omega | assumption) only [kk_nm, Option.bind_some, kl_0, kl_1, kl_2, kl_3, kl_4, kl_5, kl_6, kl_7, kl_8, kl_9, kl_10, kl_12, kl_14, kl_15, kl_16, kl_20, kl_31, kl_33, kl_48, kl_49, kl_50, kl_57, kl_59, kl_60, kl_62, kl_63, kl_98, kl_99, kl_103, kl_104, kl_126, kl_144, kl_310, kl_372, kl_100000, kl_1000000, kl_neg, kl_mm, kl_am, nI_add, kl_mul, kl_sub, kl_le, kl_lt, kl_eq, kl_eM, kl_Me, kl_ltM, kl_leM, kl_ck, kl_cj, kl_cb, kl_bit, nI_clamp, va_up_self, va_up_ne, pk_us, pk_un, if_pos, if_neg, eq_self, and_true, true_and, and_false, false_and, if_true, if_false, Bool.false_eq_true]
      · have x2 := q5_in (n := n) (v := a) (x := 0) (y := 3) (by omega) (by omega) (by omega)
        rw [if_neg (show ¬ (0 ≤ a ∧ a ≤ 3) by omega)] at x2
        unfold fX5_isKind
        simp (disch := first | omega | assumption) only [kk_nm, Option.bind_some, kl_0, kl_1, kl_2, kl_3, kl_4, kl_5, kl_6, kl_7, kl_8, kl_9, kl_10, kl_12, kl_14, kl_15, kl_16, kl_20, kl_31, kl_33, kl_48, kl_49, kl_50, kl_57, kl_59, kl_60, kl_62, kl_63, kl_98, kl_99, kl_103, kl_104, kl_126, kl_144, kl_310, kl_372, kl_100000, kl_1000000, kl_neg, kl_mm, kl_am, nI_add, kl_mul, kl_sub, kl_le, kl_lt, kl_eq, kl_eM, kl_Me, kl_ltM, kl_leM, kl_ck, kl_cj, kl_cb, kl_bit, nI_clamp, va_up_self, va_up_ne, pk_us, pk_un, if_pos, if_neg, eq_self, and_true, true_and, and_false, false_and, if_true, if_false, Bool.false_eq_true, x2]
theorem st_put (hn : 1000 ≤ n) (h : RR G V M) (v v2 v3 v4 : Int32) : OK3 [1, 2, 3] id G V (fX4_put n G V v v2 v3 v4) (fX5_put n M v v2 v3 v4) := by
  have hr := h
  obtain ⟨s, c, ps, cc, t, h⟩ := h
  have hx := h
  obtain ⟨hP, hM, hW, hH, -⟩ := h
  have w1 := hW.2.1
  have r0 := hM.r
  have h0 := hP.1
  have bad : ∀ k, RR G V (va_up (va_up M 6 (fun _ => nI 0)) 6 (fun _ => nI k)) := fun k => RR_6 (RR_6 hr)
  rcases arg_cases v with hv | ⟨j, hj, rfl⟩
  · left
    refine ⟨1, nI 0, _, ?_, by decide, ?_, rfl, bad 1⟩
    · unfold fX4_put
      rw [if_pos hv]
    · have x := fun y => q5_inN (n := n) (y := y) (a := 0) hv (by omega)
      unfold fX5_put
      simp (disch := first | omega | assumption) only [kk_nm, Option.bind_some, kl_0, kl_1, kl_2, kl_3, kl_4, kl_5, kl_6, kl_7, kl_8, kl_9, kl_10, kl_12, kl_14, kl_15, kl_16, kl_20, kl_31, kl_33, kl_48, kl_49, kl_50, kl_57, kl_59, kl_60, kl_62, kl_63, kl_98, kl_99, kl_103, kl_104, kl_126, kl_144, kl_310, kl_372, kl_100000, kl_1000000, kl_neg, kl_mm, kl_am, nI_add, kl_mul, kl_sub, kl_le, kl_lt, kl_eq, kl_eM, kl_Me, kl_ltM, kl_leM, kl_ck, kl_cj, kl_cb, kl_bit, nI_clamp, va_up_self, va_up_ne, pk_us, pk_un, if_pos, if_neg, eq_self, and_true, true_and, and_false, false_and, if_true, if_false, Bool.false_eq_true, x, q5_fails]
  · have x := q5_in (n := n) (v := j) (x := 0) (y := s 4) hj (by omega) (by omega)
    by_cases d : j ≤ s 4
    · rw [if_pos (show 0 ≤ j ∧ j ≤ s 4 by omega)] at x
      obtain ⟨r, k1, k2, rfl | ⟨rfl, a, b, m, rfl, ha, rfl, hb, hb2, rfl, hm⟩⟩ := isK (n := n) v2 v3 v4
      · left
        refine ⟨2, nI 0, _, ?_, by decide, ?_, rfl, bad 2⟩
        · unfold fX4_put
          simp (disch := first | omega | assumption) only [kk_nm, Option.bind_some, kl_0, kl_1, kl_2, kl_3, kl_4, kl_5, kl_6, kl_7, kl_8, kl_9, kl_10, kl_12, kl_14, kl_15, kl_16, kl_20, kl_31, kl_33, kl_48, kl_49, kl_50, kl_57, kl_59, kl_60, kl_62, kl_63, kl_98, kl_99, kl_103, kl_104, kl_126, kl_144, kl_310, kl_372, kl_100000, kl_1000000, kl_neg, kl_mm, kl_am, nI_add, kl_mul, kl_sub, kl_le, kl_lt, kl_eq, kl_eM, kl_Me, kl_ltM, kl_leM, kl_ck, kl_cj, kl_cb, kl_bit, nI_clamp, va_up_self, va_up_ne, pk_us, pk_un, if_pos, if_neg, eq_self, and_true, true_and, and_false, false_and, if_true, if_false, Bool.false_eq_true, h0, k1]
        · unfold fX5_put
          simp (disch := first | omega | assumption) only [kk_nm, Option.bind_some, kl_0, kl_1, kl_2, kl_3, kl_4, kl_5, kl_6, kl_7, kl_8, kl_9, kl_10, kl_12, kl_14, kl_15, kl_16, kl_20, kl_31, kl_33, kl_48, kl_49, kl_50, kl_57, kl_59, kl_60, kl_62, kl_63, kl_98, kl_99, kl_103, kl_104, kl_126, kl_144, kl_310, kl_372, kl_100000, kl_1000000, kl_neg, kl_mm, kl_am, nI_add, kl_mul, kl_sub, kl_le, kl_lt, kl_eq, kl_eM, kl_Me, kl_ltM, kl_leM, kl_ck, kl_cj, kl_cb, kl_bit, nI_clamp, va_up_self, va_up_ne, pk_us, pk_un, if_pos, if_neg, eq_self, and_true, true_and, and_false, false_and, if_true, if_false, Bool.false_eq_true, r0, x, k2, q5_fails]
      · by_cases c12 : s 4 = 12
        · left
          refine ⟨3, nI 0, _, ?_, by decide, ?_, rfl, bad 3⟩
          · unfold fX4_put
            simp (disch := first | omega | assumption) only [kk_nm, Option.bind_some, kl_0, kl_1, kl_2, kl_3, kl_4, kl_5, kl_6, kl_7, kl_8, kl_9, kl_10, kl_12, kl_14, kl_15, kl_16, kl_20, kl_31, kl_33, kl_48, kl_49, kl_50, kl_57, kl_59, kl_60, kl_62, kl_63, kl_98, kl_99, kl_103, kl_104, kl_126, kl_144, kl_310, kl_372, kl_100000, kl_1000000, kl_neg, kl_mm, kl_am, nI_add, kl_mul, kl_sub, kl_le, kl_lt, kl_eq, kl_eM, kl_Me, kl_ltM, kl_leM, kl_ck, kl_cj, kl_cb, kl_bit, nI_clamp, va_up_self, va_up_ne, pk_us, pk_un, if_pos, if_neg, eq_self, and_true, true_and, and_false, false_and, if_true, if_false, Bool.false_eq_true, h0, k1]
          · unfold fX5_put
            simp (disch := first | omega | assumption) only [kk_nm, Option.bind_some, kl_0, kl_1, kl_2, kl_3, kl_4, kl_5, kl_6, kl_7, kl_8, kl_9, kl_10, kl_12, kl_14, kl_15, kl_16, kl_20, kl_31, kl_33, kl_48, kl_49, kl_50, kl_57, kl_59, kl_60, kl_62, kl_63, kl_98, kl_99, kl_103, kl_104, kl_126, kl_144, kl_310, kl_372, kl_100000, kl_1000000, kl_neg, kl_mm, kl_am, nI_add, kl_mul, kl_sub, kl_le, kl_lt, kl_eq, kl_eM, kl_Me, kl_ltM, kl_leM, kl_ck, kl_cj, kl_cb, kl_bit, nI_clamp, va_up_self, va_up_ne, pk_us, pk_un, if_pos, if_neg, eq_self, and_true, true_and, and_false, false_and, if_true, if_false, Bool.false_eq_true, r0, x, k2, q5_fails]
        · right
          obtain ⟨V', M', c', ps', e3, e4, hfr, hH'⟩ := q_save (M := va_up M 6 (fun _ => nI 0)) hn (RH_cg rfl rfl hH) hP hW hM
          obtain ⟨P1, P2, e5, hp1, e6, hP2⟩ := q2_addShift (v := j) (a := a) (b := b) (c := m) hn hP hW (by omega) d ha hb hb2 hm
          have m0 : M' 0 = M 0 := hfr 0 (by omega) (by omega)
          have hM0 : RM (M' 0) s := by rw [m0]; exact hM
          obtain ⟨f', e7, hf'⟩ := q5_puts (v := j) (a := a) (b := b) (c := m) (d := 0) hn hM0 (by omega) d
          have b1 := hP2.1
          have b2 := hf'.r 4 (by omega)
          rw [pT_4] at b1 b2
          have es : s 4 + 1 - 1 = s 4 := by omega
          refine ⟨nI (s 4 + 1), va_up (va_up G 1 P1) 1 P2, V', va_up M' 0 f', ?_, ?_, ?_, RX_up hx (s' := pT j a b m 0 s) (by rw [va_up_self]; exact hP2) (by rw [va_up_self]; exact hf') (WF_pT hW (by omega) ha hb hb2 hm (by omega) d) (RH_cg (va_up_ne _ _ (by omega)) (va_up_ne _ _ (by omega)) hH') rfl ?_ ?_⟩
          · unfold fX4_put
            simp (disch := first | omega | assumption) only [kk_nm, Option.bind_some, kl_0, kl_1, kl_2, kl_3, kl_4, kl_5, kl_6, kl_7, kl_8, kl_9, kl_10, kl_12, kl_14, kl_15, kl_16, kl_20, kl_31, kl_33, kl_48, kl_49, kl_50, kl_57, kl_59, kl_60, kl_62, kl_63, kl_98, kl_99, kl_103, kl_104, kl_126, kl_144, kl_310, kl_372, kl_100000, kl_1000000, kl_neg, kl_mm, kl_am, nI_add, kl_mul, kl_sub, kl_le, kl_lt, kl_eq, kl_eM, kl_Me, kl_ltM, kl_leM, kl_ck, kl_cj, kl_cb, kl_bit, nI_clamp, va_up_self, va_up_ne, pk_us, pk_un, if_pos, if_neg, eq_self, and_true, true_and, and_false, false_and, if_true, if_false, Bool.false_eq_true, h0, k1, e3, e5, hp1, es, e6, b1]
          · unfold fX5_put
            simp (disch := first | omega | assumption) only [kk_nm, Option.bind_some, kl_0, kl_1, kl_2, kl_3, kl_4, kl_5, kl_6, kl_7, kl_8, kl_9, kl_10, kl_12, kl_14, kl_15, kl_16, kl_20, kl_31, kl_33, kl_48, kl_49, kl_50, kl_57, kl_59, kl_60, kl_62, kl_63, kl_98, kl_99, kl_103, kl_104, kl_126, kl_144, kl_310, kl_372, kl_100000, kl_1000000, kl_neg, kl_mm, kl_am, nI_add, kl_mul, kl_sub, kl_le, kl_lt, kl_eq, kl_eM, kl_Me, kl_ltM, kl_leM, kl_ck, kl_cj, kl_cb, kl_bit, nI_clamp, va_up_self, va_up_ne, pk_us, pk_un, if_pos, if_neg, eq_self, and_true, true_and, and_false, false_and, if_true, if_false, Bool.false_eq_true, r0, x, k2, e4, e7, b2]
          · rw [va_up_ne _ _ (by omega), hfr 6 (by omega) (by omega)]; rfl
          · rw [va_up_ne _ _ (by omega), hfr 5 (by omega) (by omega)]; rfl
          · rw [va_up_ne _ _ (by omega), hfr 4 (by omega) (by omega)]; rfl
    · rw [if_neg (show ¬ (0 ≤ j ∧ j ≤ s 4) by omega)] at x
      left
      refine ⟨1, nI 0, _, ?_, by decide, ?_, rfl, bad 1⟩
      · unfold fX4_put
        simp (disch := first | omega | assumption) only [kk_nm, Option.bind_some, kl_0, kl_1, kl_2, kl_3, kl_4, kl_5, kl_6, kl_7, kl_8, kl_9, kl_10, kl_12, kl_14, kl_15, kl_16, kl_20, kl_31, kl_33, kl_48, kl_49, kl_50, kl_57, kl_59, kl_60, kl_62, kl_63, kl_98, kl_99, kl_103, kl_104, kl_126, kl_144, kl_310, kl_372, kl_100000, kl_1000000, kl_neg, kl_mm, kl_am, nI_add, kl_mul, kl_sub, kl_le, kl_lt, kl_eq, kl_eM, kl_Me, kl_ltM, kl_leM, kl_ck, kl_cj, kl_cb, kl_bit, nI_clamp, va_up_self, va_up_ne, pk_us, pk_un, if_pos, if_neg, eq_self, and_true, true_and, and_false, false_and, if_true, if_false, Bool.false_eq_true, h0]
      · unfold fX5_put
        simp (disch := first | omega | assumption) only [kk_nm, Option.bind_some, kl_0, kl_1, kl_2, kl_3, kl_4, kl_5, kl_6, kl_7, kl_8, kl_9, kl_10, kl_12, kl_14, kl_15, kl_16, kl_20, kl_31, kl_33, kl_48, kl_49, kl_50, kl_57, kl_59, kl_60, kl_62, kl_63, kl_98, kl_99, kl_103, kl_104, kl_126, kl_144, kl_310, kl_372, kl_100000, kl_1000000, kl_neg, kl_mm, kl_am, nI_add, kl_mul, kl_sub, kl_le, kl_lt, kl_eq, kl_eM, kl_Me, kl_ltM, kl_leM, kl_ck, kl_cj, kl_cb, kl_bit, nI_clamp, va_up_self, va_up_ne, pk_us, pk_un, if_pos, if_neg, eq_self, and_true, true_and, and_false, false_and, if_true, if_false, Bool.false_eq_true, r0, x, q5_fails]
theorem st_move (hn : 1000 ≤ n) (h : RR G V M) (v w : Int32) : OK3 [1] id G V (fX4_move n G V v w) (fX5_move n M v w) := by
  have hr := h
  obtain ⟨s, c, ps, cc, t, h⟩ := h
  have hx := h
  obtain ⟨hP, hM, hW, hH, -⟩ := h
  have w1 := hW.2.1
  have bad : ∀ k, RR G V (va_up (va_up M 6 (fun _ => nI 0)) 6 (fun _ => nI k)) := fun k => RR_6 (RR_6 hr)
  rcases needF (n := n) (V := V) hP hM hW v with ⟨e1, e2⟩ | ⟨j, hj, rfl, e1, e2⟩
  · left
    refine ⟨1, nI 0, _, ?_, by decide, ?_, rfl, bad 1⟩
    · unfold fX4_move
      simp (disch := first | omega | assumption) only [kk_nm, Option.bind_some, kl_0, kl_1, kl_2, kl_3, kl_4, kl_5, kl_6, kl_7, kl_8, kl_9, kl_10, kl_12, kl_14, kl_15, kl_16, kl_20, kl_31, kl_33, kl_48, kl_49, kl_50, kl_57, kl_59, kl_60, kl_62, kl_63, kl_98, kl_99, kl_103, kl_104, kl_126, kl_144, kl_310, kl_372, kl_100000, kl_1000000, kl_neg, kl_mm, kl_am, nI_add, kl_mul, kl_sub, kl_le, kl_lt, kl_eq, kl_eM, kl_Me, kl_ltM, kl_leM, kl_ck, kl_cj, kl_cb, kl_bit, nI_clamp, va_up_self, va_up_ne, pk_us, pk_un, if_pos, if_neg, eq_self, and_true, true_and, and_false, false_and, if_true, if_false, Bool.false_eq_true, e1, kk_trl]
    · unfold fX5_move
      simp (disch := first | omega | assumption) only [kk_nm, Option.bind_some, kl_0, kl_1, kl_2, kl_3, kl_4, kl_5, kl_6, kl_7, kl_8, kl_9, kl_10, kl_12, kl_14, kl_15, kl_16, kl_20, kl_31, kl_33, kl_48, kl_49, kl_50, kl_57, kl_59, kl_60, kl_62, kl_63, kl_98, kl_99, kl_103, kl_104, kl_126, kl_144, kl_310, kl_372, kl_100000, kl_1000000, kl_neg, kl_mm, kl_am, nI_add, kl_mul, kl_sub, kl_le, kl_lt, kl_eq, kl_eM, kl_Me, kl_ltM, kl_leM, kl_ck, kl_cj, kl_cb, kl_bit, nI_clamp, va_up_self, va_up_ne, pk_us, pk_un, if_pos, if_neg, eq_self, and_true, true_and, and_false, false_and, if_true, if_false, Bool.false_eq_true, e2, q5_fails]
  · rcases needF (n := n) (V := V) hP hM hW w with ⟨g1, g2⟩ | ⟨k, hk, rfl, g1, g2⟩
    · left
      refine ⟨1, nI 0, _, ?_, by decide, ?_, rfl, bad 1⟩
      · unfold fX4_move
        simp (disch := first | omega | assumption) only [kk_nm, Option.bind_some, kl_0, kl_1, kl_2, kl_3, kl_4, kl_5, kl_6, kl_7, kl_8, kl_9, kl_10, kl_12, kl_14, kl_15, kl_16, kl_20, kl_31, kl_33, kl_48, kl_49, kl_50, kl_57, kl_59, kl_60, kl_62, kl_63, kl_98, kl_99, kl_103, kl_104, kl_126, kl_144, kl_310, kl_372, kl_100000, kl_1000000, kl_neg, kl_mm, kl_am, nI_add, kl_mul, kl_sub, kl_le, kl_lt, kl_eq, kl_eM, kl_Me, kl_ltM, kl_leM, kl_ck, kl_cj, kl_cb, kl_bit, nI_clamp, va_up_self, va_up_ne, pk_us, pk_un, if_pos, if_neg, eq_self, and_true, true_and, and_false, false_and, if_true, if_false, Bool.false_eq_true, e1, kk_trr, g1, kk_trl]
      · unfold fX5_move
        simp (disch := first | omega | assumption) only [kk_nm, Option.bind_some, kl_0, kl_1, kl_2, kl_3, kl_4, kl_5, kl_6, kl_7, kl_8, kl_9, kl_10, kl_12, kl_14, kl_15, kl_16, kl_20, kl_31, kl_33, kl_48, kl_49, kl_50, kl_57, kl_59, kl_60, kl_62, kl_63, kl_98, kl_99, kl_103, kl_104, kl_126, kl_144, kl_310, kl_372, kl_100000, kl_1000000, kl_neg, kl_mm, kl_am, nI_add, kl_mul, kl_sub, kl_le, kl_lt, kl_eq, kl_eM, kl_Me, kl_ltM, kl_leM, kl_ck, kl_cj, kl_cb, kl_bit, nI_clamp, va_up_self, va_up_ne, pk_us, pk_un, if_pos, if_neg, eq_self, and_true, true_and, and_false, false_and, if_true, if_false, Bool.false_eq_true, e2, g2, q5_fails]
    · right
      obtain ⟨V', M', c', ps', e3, e4, hfr, hH'⟩ := q_save (M := va_up M 6 (fun _ => nI 0)) hn (RH_cg rfl rfl hH) hP hW hM
      obtain ⟨P', e5, hP'⟩ := q2_shift hn hP hW hj hk
      have hWm : WF (pS (mv j k) s) := WF_pS (fun _ hq => mv_lt hj hk hq) hW
      have m0 : M' 0 = M 0 := hfr 0 (by omega) (by omega)
      have hM0 : RM (M' 0) s := by rw [m0]; exact hM
      obtain ⟨f', e6, hf'⟩ := q5_moves hn hM0 w1.1 hj hk
      have b1 := q2_allTrouble hn hP' hWm
      have b2 := q5_allTrouble hn hf' hWm
      refine ⟨nI (t_all (pS (mv j k) s)), va_up G 1 P', V', va_up M' 0 f', ?_, ?_, ?_, RX_up hx (s' := pS (mv j k) s) (by rw [va_up_self]; exact hP') (by rw [va_up_self]; exact hf') hWm (RH_cg (va_up_ne _ _ (by omega)) (va_up_ne _ _ (by omega)) hH') rfl ?_ ?_⟩
      · unfold fX4_move
        simp (disch := first | omega | assumption) only [kk_nm, Option.bind_some, kl_0, kl_1, kl_2, kl_3, kl_4, kl_5, kl_6, kl_7, kl_8, kl_9, kl_10, kl_12, kl_14, kl_15, kl_16, kl_20, kl_31, kl_33, kl_48, kl_49, kl_50, kl_57, kl_59, kl_60, kl_62, kl_63, kl_98, kl_99, kl_103, kl_104, kl_126, kl_144, kl_310, kl_372, kl_100000, kl_1000000, kl_neg, kl_mm, kl_am, nI_add, kl_mul, kl_sub, kl_le, kl_lt, kl_eq, kl_eM, kl_Me, kl_ltM, kl_leM, kl_ck, kl_cj, kl_cb, kl_bit, nI_clamp, va_up_self, va_up_ne, pk_us, pk_un, if_pos, if_neg, eq_self, and_true, true_and, and_false, false_and, if_true, if_false, Bool.false_eq_true, e1, g1, kk_trr, e3, e5, b1]
      · unfold fX5_move
        simp (disch := first | omega | assumption) only [kk_nm, Option.bind_some, kl_0, kl_1, kl_2, kl_3, kl_4, kl_5, kl_6, kl_7, kl_8, kl_9, kl_10, kl_12, kl_14, kl_15, kl_16, kl_20, kl_31, kl_33, kl_48, kl_49, kl_50, kl_57, kl_59, kl_60, kl_62, kl_63, kl_98, kl_99, kl_103, kl_104, kl_126, kl_144, kl_310, kl_372, kl_100000, kl_1000000, kl_neg, kl_mm, kl_am, nI_add, kl_mul, kl_sub, kl_le, kl_lt, kl_eq, kl_eM, kl_Me, kl_ltM, kl_leM, kl_ck, kl_cj, kl_cb, kl_bit, nI_clamp, va_up_self, va_up_ne, pk_us, pk_un, if_pos, if_neg, eq_self, and_true, true_and, and_false, false_and, if_true, if_false, Bool.false_eq_true, e2, g2, e4, e6, b2]
      · rw [va_up_ne _ _ (by omega), hfr 6 (by omega) (by omega)]; rfl
      · rw [va_up_ne _ _ (by omega), hfr 5 (by omega) (by omega)]; rfl
      · rw [va_up_ne _ _ (by omega), hfr 4 (by omega) (by omega)]; rfl
theorem st_exchange (hn : 1000 ≤ n) (h : RR G V M) (v w : Int32) : OK3 [1] id G V (fX4_exchange n G V v w) (fX5_exchange n M v w) := by
  have hr := h
  obtain ⟨s, c, ps, cc, t, h⟩ := h
  have hx := h
  obtain ⟨hP, hM, hW, hH, -⟩ := h
  have w1 := hW.2.1
  have bad : ∀ k, RR G V (va_up (va_up M 6 (fun _ => nI 0)) 6 (fun _ => nI k)) := fun k => RR_6 (RR_6 hr)
  rcases needF (n := n) (V := V) hP hM hW v with ⟨e1, e2⟩ | ⟨j, hj, rfl, e1, e2⟩
  · left
    refine ⟨1, nI 0, _, ?_, by decide, ?_, rfl, bad 1⟩
    · unfold fX4_exchange
      simp (disch := first | omega | assumption) only [kk_nm, Option.bind_some, kl_0, kl_1, kl_2, kl_3, kl_4, kl_5, kl_6, kl_7, kl_8, kl_9, kl_10, kl_12, kl_14, kl_15, kl_16, kl_20, kl_31, kl_33, kl_48, kl_49, kl_50, kl_57, kl_59, kl_60, kl_62, kl_63, kl_98, kl_99, kl_103, kl_104, kl_126, kl_144, kl_310, kl_372, kl_100000, kl_1000000, kl_neg, kl_mm, kl_am, nI_add, kl_mul, kl_sub, kl_le, kl_lt, kl_eq, kl_eM, kl_Me, kl_ltM, kl_leM, kl_ck, kl_cj, kl_cb, kl_bit, nI_clamp, va_up_self, va_up_ne, pk_us, pk_un, if_pos, if_neg, eq_self, and_true, true_and, and_false, false_and, if_true, if_false, Bool.false_eq_true, e1, kk_trl]
    · unfold fX5_exchange
      simp (disch := first | omega | assumption) only [kk_nm, Option.bind_some, kl_0, kl_1, kl_2, kl_3, kl_4, kl_5, kl_6, kl_7, kl_8, kl_9, kl_10, kl_12, kl_14, kl_15, kl_16, kl_20, kl_31, kl_33, kl_48, kl_49, kl_50, kl_57, kl_59, kl_60, kl_62, kl_63, kl_98, kl_99, kl_103, kl_104, kl_126, kl_144, kl_310, kl_372, kl_100000, kl_1000000, kl_neg, kl_mm, kl_am, nI_add, kl_mul, kl_sub, kl_le, kl_lt, kl_eq, kl_eM, kl_Me, kl_ltM, kl_leM, kl_ck, kl_cj, kl_cb, kl_bit, nI_clamp, va_up_self, va_up_ne, pk_us, pk_un, if_pos, if_neg, eq_self, and_true, true_and, and_false, false_and, if_true, if_false, Bool.false_eq_true, e2, q5_fails]
  · rcases needF (n := n) (V := V) hP hM hW w with ⟨g1, g2⟩ | ⟨k, hk, rfl, g1, g2⟩
    · left
      refine ⟨1, nI 0, _, ?_, by decide, ?_, rfl, bad 1⟩
      · unfold fX4_exchange
        simp (disch := first | omega | assumption) only [kk_nm, Option.bind_some, kl_0, kl_1, kl_2, kl_3, kl_4, kl_5, kl_6, kl_7, kl_8, kl_9, kl_10, kl_12, kl_14, kl_15, kl_16, kl_20, kl_31, kl_33, kl_48, kl_49, kl_50, kl_57, kl_59, kl_60, kl_62, kl_63, kl_98, kl_99, kl_103, kl_104, kl_126, kl_144, kl_310, kl_372, kl_100000, kl_1000000, kl_neg, kl_mm, kl_am, nI_add, kl_mul, kl_sub, kl_le, kl_lt, kl_eq, kl_eM, kl_Me, kl_ltM, kl_leM, kl_ck, kl_cj, kl_cb, kl_bit, nI_clamp, va_up_self, va_up_ne, pk_us, pk_un, if_pos, if_neg, eq_self, and_true, true_and, and_false, false_and, if_true, if_false, Bool.false_eq_true, e1, kk_trr, g1, kk_trl]
      · unfold fX5_exchange
        simp (disch := first | omega | assumption) only [kk_nm, Option.bind_some, kl_0, kl_1, kl_2, kl_3, kl_4, kl_5, kl_6, kl_7, kl_8, kl_9, kl_10, kl_12, kl_14, kl_15, kl_16, kl_20, kl_31, kl_33, kl_48, kl_49, kl_50, kl_57, kl_59, kl_60, kl_62, kl_63, kl_98, kl_99, kl_103, kl_104, kl_126, kl_144, kl_310, kl_372, kl_100000, kl_1000000, kl_neg, kl_mm, kl_am, nI_add, kl_mul, kl_sub, kl_le, kl_lt, kl_eq, kl_eM, kl_Me, kl_ltM, kl_leM, kl_ck, kl_cj, kl_cb, kl_bit, nI_clamp, va_up_self, va_up_ne, pk_us, pk_un, if_pos, if_neg, eq_self, and_true, true_and, and_false, false_and, if_true, if_false, Bool.false_eq_true, e2, g2, q5_fails]
    · right
      obtain ⟨V', M', c', ps', e3, e4, hfr, hH'⟩ := q_save (M := va_up M 6 (fun _ => nI 0)) hn (RH_cg rfl rfl hH) hP hW hM
      obtain ⟨P', e5, hP'⟩ := q2_swapR (n := n) hP hW hj hk
      have hWm : WF (pS (sw j k) s) := WF_pS (fun _ hq => sw_lt hj hk hq) hW
      have m0 : M' 0 = M 0 := hfr 0 (by omega) (by omega)
      have hM0 : RM (M' 0) s := by rw [m0]; exact hM
      obtain ⟨f', e6, hf'⟩ := q5_exchanges (i := j) (j := k) hn hM0 (by omega) (by omega)
      have b1 := q2_allTrouble hn hP' hWm
      have b2 := q5_allTrouble hn hf' hWm
      refine ⟨nI (t_all (pS (sw j k) s)), va_up G 1 P', V', va_up M' 0 f', ?_, ?_, ?_, RX_up hx (s' := pS (sw j k) s) (by rw [va_up_self]; exact hP') (by rw [va_up_self]; exact hf') hWm (RH_cg (va_up_ne _ _ (by omega)) (va_up_ne _ _ (by omega)) hH') rfl ?_ ?_⟩
      · unfold fX4_exchange
        simp (disch := first | omega | assumption) only [kk_nm, Option.bind_some, kl_0, kl_1, kl_2, kl_3, kl_4, kl_5, kl_6, kl_7, kl_8, kl_9, kl_10, kl_12, kl_14, kl_15, kl_16, kl_20, kl_31, kl_33, kl_48, kl_49, kl_50, kl_57, kl_59, kl_60, kl_62, kl_63, kl_98, kl_99, kl_103, kl_104, kl_126, kl_144, kl_310, kl_372, kl_100000, kl_1000000, kl_neg, kl_mm, kl_am, nI_add, kl_mul, kl_sub, kl_le, kl_lt, kl_eq, kl_eM, kl_Me, kl_ltM, kl_leM, kl_ck, kl_cj, kl_cb, kl_bit, nI_clamp, va_up_self, va_up_ne, pk_us, pk_un, if_pos, if_neg, eq_self, and_true, true_and, and_false, false_and, if_true, if_false, Bool.false_eq_true, e1, g1, kk_trr, e3, e5, b1]
      · unfold fX5_exchange
        simp (disch := first | omega | assumption) only [kk_nm, Option.bind_some, kl_0, kl_1, kl_2, kl_3, kl_4, kl_5, kl_6, kl_7, kl_8, kl_9, kl_10, kl_12, kl_14, kl_15, kl_16, kl_20, kl_31, kl_33, kl_48, kl_49, kl_50, kl_57, kl_59, kl_60, kl_62, kl_63, kl_98, kl_99, kl_103, kl_104, kl_126, kl_144, kl_310, kl_372, kl_100000, kl_1000000, kl_neg, kl_mm, kl_am, nI_add, kl_mul, kl_sub, kl_le, kl_lt, kl_eq, kl_eM, kl_Me, kl_ltM, kl_leM, kl_ck, kl_cj, kl_cb, kl_bit, nI_clamp, va_up_self, va_up_ne, pk_us, pk_un, if_pos, if_neg, eq_self, and_true, true_and, and_false, false_and, if_true, if_false, Bool.false_eq_true, e2, g2, e4, e6, b2]
      · rw [va_up_ne _ _ (by omega), hfr 6 (by omega) (by omega)]; rfl
      · rw [va_up_ne _ _ (by omega), hfr 5 (by omega) (by omega)]; rfl
      · rw [va_up_ne _ _ (by omega), hfr 4 (by omega) (by omega)]; rfl
theorem st_fold {x : Nat} (hx1 : x ≤ 1) (hn : 1000 ≤ n) (h : RR G V M) (v : Int32) : OK3 [1] id G V (fX4_fold n G V v (nI x)) (fX5_fold n M v (nI x)) := by
  have hr := h
  obtain ⟨s, c, ps, cc, t, h⟩ := h
  have hx := h
  obtain ⟨hP, hM, hW, hH, -⟩ := h
  have w1 := hW.2.1
  have bad : ∀ k, RR G V (va_up (va_up M 6 (fun _ => nI 0)) 6 (fun _ => nI k)) := fun k => RR_6 (RR_6 hr)
  rcases needF (n := n) (V := V) hP hM hW v with ⟨e1, e2⟩ | ⟨j, hj, rfl, e1, e2⟩
  · left
    refine ⟨1, nI 0, _, ?_, by decide, ?_, rfl, bad 1⟩
    · unfold fX4_fold
      simp (disch := first | omega | assumption) only [kk_nm, Option.bind_some, kl_0, kl_1, kl_2, kl_3, kl_4, kl_5, kl_6, kl_7, kl_8, kl_9, kl_10, kl_12, kl_14, kl_15, kl_16, kl_20, kl_31, kl_33, kl_48, kl_49, kl_50, kl_57, kl_59, kl_60, kl_62, kl_63, kl_98, kl_99, kl_103, kl_104, kl_126, kl_144, kl_310, kl_372, kl_100000, kl_1000000, kl_neg, kl_mm, kl_am, nI_add, kl_mul, kl_sub, kl_le, kl_lt, kl_eq, kl_eM, kl_Me, kl_ltM, kl_leM, kl_ck, kl_cj, kl_cb, kl_bit, nI_clamp, va_up_self, va_up_ne, pk_us, pk_un, if_pos, if_neg, eq_self, and_true, true_and, and_false, false_and, if_true, if_false, Bool.false_eq_true, e1, kk_trl]
    · unfold fX5_fold
      simp (disch := first | omega | assumption) only [kk_nm, Option.bind_some, kl_0, kl_1, kl_2, kl_3, kl_4, kl_5, kl_6, kl_7, kl_8, kl_9, kl_10, kl_12, kl_14, kl_15, kl_16, kl_20, kl_31, kl_33, kl_48, kl_49, kl_50, kl_57, kl_59, kl_60, kl_62, kl_63, kl_98, kl_99, kl_103, kl_104, kl_126, kl_144, kl_310, kl_372, kl_100000, kl_1000000, kl_neg, kl_mm, kl_am, nI_add, kl_mul, kl_sub, kl_le, kl_lt, kl_eq, kl_eM, kl_Me, kl_ltM, kl_leM, kl_ck, kl_cj, kl_cb, kl_bit, nI_clamp, va_up_self, va_up_ne, pk_us, pk_un, if_pos, if_neg, eq_self, and_true, true_and, and_false, false_and, if_true, if_false, Bool.false_eq_true, e2, q5_fails]
  · right
    obtain ⟨V', M', c', ps', e3, e4, hfr, hH'⟩ := q_save (M := va_up M 6 (fun _ => nI 0)) hn (RH_cg rfl rfl hH) hP hW hM
    have hP' := RP_fS (u := j) (x := x) hP hW
    have hWm : WF (fS j x s) := WF_fS hW hx1
    have m0 : M' 0 = M 0 := hfr 0 (by omega) (by omega)
    have hM0 : RM (M' 0) s := by rw [m0]; exact hM
    have hf' : RM (upd (M' 0) (17 + 4 * j) (nI x)) (fS j x s) := RM_up hM0
    have l4 : j < fS j x s 4 := by rw [fS_lo (by omega)]; exact hj
    have b1 := q2_countedHeight (n := n) hP' hWm l4
    have b2 := q5_high (n := n) hf' hWm l4
    have ei : 14 + 4 * j + 3 = 17 + 4 * j := by omega
    refine ⟨nI (t_hgt (fS j x s) j), va_up G 1 (va_up (G 1) 4 (upd (G 1 4) j (nI x))), V', va_up M' 0 (upd (M' 0) (17 + 4 * j) (nI x)), ?_, ?_, ?_, RX_up hx (s' := fS j x s) (by rw [va_up_self]; exact hP') (by rw [va_up_self]; exact hf') hWm (RH_cg (va_up_ne _ _ (by omega)) (va_up_ne _ _ (by omega)) hH') rfl ?_ ?_⟩
    · unfold fX4_fold
      simp (disch := first | omega | assumption) only [kk_nm, Option.bind_some, kl_0, kl_1, kl_2, kl_3, kl_4, kl_5, kl_6, kl_7, kl_8, kl_9, kl_10, kl_12, kl_14, kl_15, kl_16, kl_20, kl_31, kl_33, kl_48, kl_49, kl_50, kl_57, kl_59, kl_60, kl_62, kl_63, kl_98, kl_99, kl_103, kl_104, kl_126, kl_144, kl_310, kl_372, kl_100000, kl_1000000, kl_neg, kl_mm, kl_am, nI_add, kl_mul, kl_sub, kl_le, kl_lt, kl_eq, kl_eM, kl_Me, kl_ltM, kl_leM, kl_ck, kl_cj, kl_cb, kl_bit, nI_clamp, va_up_self, va_up_ne, pk_us, pk_un, if_pos, if_neg, eq_self, and_true, true_and, and_false, false_and, if_true, if_false, Bool.false_eq_true, e1, kk_trr, e3, b1]
    · unfold fX5_fold
      by_cases cx : x = 0
      · subst cx
        simp (disch := first | omega | assumption) only [kk_nm, Option.bind_some, kl_0, kl_1, kl_2, kl_3, kl_4, kl_5, kl_6, kl_7, kl_8, kl_9, kl_10, kl_12, kl_14, kl_15, kl_16, kl_20, kl_31, kl_33, kl_48, kl_49, kl_50, kl_57, kl_59, kl_60, kl_62, kl_63, kl_98, kl_99, kl_103, kl_104, kl_126, kl_144, kl_310, kl_372, kl_100000, kl_1000000, kl_neg, kl_mm, kl_am, nI_add, kl_mul, kl_sub, kl_le, kl_lt, kl_eq, kl_eM, kl_Me, kl_ltM, kl_leM, kl_ck, kl_cj, kl_cb, kl_bit, nI_clamp, va_up_self, va_up_ne, pk_us, pk_un, if_pos, if_neg, eq_self, and_true, true_and, and_false, false_and, if_true, if_false, Bool.false_eq_true, e2, e4, ei, b2]
      · have : x = 1 := by omega
        subst this
        simp (disch := first | omega | assumption) only [kk_nm, Option.bind_some, kl_0, kl_1, kl_2, kl_3, kl_4, kl_5, kl_6, kl_7, kl_8, kl_9, kl_10, kl_12, kl_14, kl_15, kl_16, kl_20, kl_31, kl_33, kl_48, kl_49, kl_50, kl_57, kl_59, kl_60, kl_62, kl_63, kl_98, kl_99, kl_103, kl_104, kl_126, kl_144, kl_310, kl_372, kl_100000, kl_1000000, kl_neg, kl_mm, kl_am, nI_add, kl_mul, kl_sub, kl_le, kl_lt, kl_eq, kl_eM, kl_Me, kl_ltM, kl_leM, kl_ck, kl_cj, kl_cb, kl_bit, nI_clamp, va_up_self, va_up_ne, pk_us, pk_un, if_pos, if_neg, eq_self, and_true, true_and, and_false, false_and, if_true, if_false, Bool.false_eq_true, e2, e4, ei, b2]
    · rw [va_up_ne _ _ (by omega), hfr 6 (by omega) (by omega)]; rfl
    · rw [va_up_ne _ _ (by omega), hfr 5 (by omega) (by omega)]; rfl
    · rw [va_up_ne _ _ (by omega), hfr 4 (by omega) (by omega)]; rfl
end
