/-! a part of the text; the text -/
theorem aS_0 {q : QT} {ch : Nat} (h : q.2.2.2 = 0) : aS q ch = if aK ch < 4 then some (aK ch, 0, 0, 1) else none := by unfold aS; rw [if_pos h]
theorem kAt_lt {t : Nat → Nat} {c a : Nat} (h : kAt t c a < 4) : a < c ∧ kAt t c a = aK (t a) := by
  unfold kAt at h ⊢
  by_cases d : a < c
  · rw [if_pos d]; exact ⟨d, rfl⟩
  · rw [if_neg d] at h; omega
section
variable {n : Nat} {M : St1} {t : Nat → Nat} {c a : Nat}
theorem q5_isPart {i : Nat} {q0 : QT} (hn : 1000 ≤ n) (h5 : M 5 0 = nI c) (hc : c ≤ 60) (ht : ∀ k, k < c → M 4 k = nI (t k) ∧ t k < 128) (h7 : M 7 0 = nI a) (ha : a ≤ c) (h10 : M 10 0 = nI i) (hi : i ≤ 20) (hq : rq t a = some q0) (hq0 : q0.2.2.2 = 0) :
    ∃ r M' p q, fX5_isPart n M = some (nI r, M') ∧ a ≤ p ∧ p ≤ c ∧ rq t p = some q ∧ M' 7 0 = nI p ∧ (∀ j, j ≠ 7 → j ≠ 8 → j ≠ 9 → M' j = M j) ∧ (∀ u, a ≤ u → u < p → t u ≠ 59) ∧
      ((r = 0 ∧ q.2.2.2 ≠ 3 ∧ q.2.2.2 ≠ 5 ∧ M' 8 0 = nI (if p < c then 1 else 0) ∧ (p < c → aS q (t p) = none)) ∨ (r = 1 ∧ a + 3 ≤ p ∧ (q.2.2.2 = 3 ∨ q.2.2.2 = 5) ∧ (p < c → t p ≠ 59 → aS q (t p) = none) ∧ M' 9 (3 * i) = nI q.1 ∧ M' 9 (3 * i + 1) = nI q.2.1 ∧ M' 9 (3 * i + 2) = nI q.2.2.1 ∧ ∀ x, x < 3 * i → M' 9 x = M 9 x)) := by
  have hkA := q5_kindAt (n := n) h5 hc ht h7 ha
  by_cases hk : kAt t c a < 4
  · rw [if_pos hk] at hkA
    obtain ⟨hac, hkk⟩ := kAt_lt hk
    rw [hkk] at hk hkA
    have hs1 : rq t (a + 1) = some (aK (t a), 0, 0, 1) := by
      show (rq t a).bind _ = _
      rw [hq]
      show aS q0 (t a) = _
      rw [aS_0 hq0, if_pos hk]
    have hM1 : ∀ j, j ≠ 7 → va_up M 7 (fun _ => nI (a + 1)) j = M j := fun j h => va_up_ne _ _ h
    have hd1 := q5_isAt (n := n) (M := va_up M 7 (fun _ => nI (a + 1))) (t := t) (c := c) (a := a + 1) (x := 49) (y := 57) h5 hc ht rfl (by omega) (by omega) (by omega)
    by_cases c1 : a + 1 < c ∧ 49 ≤ t (a + 1) ∧ t (a + 1) ≤ 57
    · rw [if_pos c1] at hd1
      have hs2 : rq t (a + 2) = some (aK (t a), t (a + 1) - 48, 0, 2) := by
        show (rq t (a + 1)).bind _ = _
        rw [hs1]
        show aS (aK (t a), 0, 0, 1) (t (a + 1)) = _
        unfold aS
        dsimp only
        rw [if_neg (by omega), if_pos rfl, if_pos c1.2, Nat.zero_mul, Nat.zero_add]
      have hd2 := q5_isAt (n := n) (M := va_up (va_up M 7 (fun _ => nI (a + 1))) 7 (fun _ => nI (a + 1 + 1))) (t := t) (c := c) (a := a + 1 + 1) (x := 48) (y := 57) h5 hc ht rfl (by omega) (by omega) (by omega)
      by_cases c2 : a + 1 + 1 < c ∧ 48 ≤ t (a + 1 + 1) ∧ t (a + 1 + 1) ≤ 57
      · rw [if_pos c2] at hd2
        have hs3 : rq t (a + 3) = some (aK (t a), (t (a + 1) - 48) * 10 + (t (a + 1 + 1) - 48), 0, 3) := by
          show (rq t (a + 2)).bind _ = _
          rw [hs2]
          show aS (aK (t a), t (a + 1) - 48, 0, 2) (t (a + 1 + 1)) = _
          unfold aS
          dsimp only
          rw [if_neg (by omega), if_neg (by omega), if_pos rfl, if_pos c2.2]
        have t1 := (ht (a + 1) c1.1).1
        have t2 := (ht (a + 1 + 1) c2.1).1
        have e49 : nI (10 * (t (a + 1) - 48)) + nI (t (a + 1 + 1)) - nI 48 = nI ((t (a + 1) - 48) * 10 + (t (a + 1 + 1) - 48)) := by
          rw [nI_add, kl_sub (by omega)]; congr 1; omega
        have e49' : nI (10 * (t (a + 1) - 48) + t (a + 1 + 1) - 48) = nI ((t (a + 1) - 48) * 10 + (t (a + 1 + 1) - 48)) := by
          congr 1; omega
        have h59 : ∀ u, a ≤ u → u < a + 3 → t u ≠ 59 := by
          intro u h1 h2
          rcases (by omega : u = a ∨ u = a + 1 ∨ u = a + 1 + 1) with rfl | rfl | rfl
          · exact (aK_59 hk).1
          · omega
          · omega
        generalize hT : va_up (va_up (va_up (va_up (va_up (va_up M 7 (fun _ => nI (a + 1))) 7 (fun _ => nI (a + 1 + 1))) 9 (upd (M 9) (3 * i) (nI (aK (t a))))) 9 (upd (upd (M 9) (3 * i) (nI (aK (t a)))) (3 * i + 1) (nI ((t (a + 1) - 48) * 10 + (t (a + 1 + 1) - 48))))) 9 (upd (upd (upd (M 9) (3 * i) (nI (aK (t a)))) (3 * i + 1) (nI ((t (a + 1) - 48) * 10 + (t (a + 1 + 1) - 48)))) (3 * i + 2) (nI 0))) 7 (fun _ => nI (a + 1 + 1 + 1)) = T
        have T7 : T 7 0 = nI (a + 3) := by rw [← hT]; rfl
        have T9 : T 9 = upd (upd (upd (M 9) (3 * i) (nI (aK (t a)))) (3 * i + 1) (nI ((t (a + 1) - 48) * 10 + (t (a + 1 + 1) - 48)))) (3 * i + 2) (nI 0) := by rw [← hT]; rfl
        have TM : ∀ j, j ≠ 7 → j ≠ 9 → T j = M j := fun j j7 j9 => by
          rw [← hT]
          rw [va_up_ne _ _ j7, va_up_ne _ _ j9, va_up_ne _ _ j9, va_up_ne _ _ j9, va_up_ne _ _ j7, va_up_ne _ _ j7]
        have T90 : T 9 (3 * i) = nI (aK (t a)) := by rw [T9, pk_un (by omega), pk_un (by omega), pk_us]
        have T91 : T 9 (3 * i + 1) = nI ((t (a + 1) - 48) * 10 + (t (a + 1 + 1) - 48)) := by rw [T9, pk_un (by omega), pk_us]
        have T92 : T 9 (3 * i + 2) = nI 0 := by rw [T9, pk_us]
        have T9x : ∀ x, x < 3 * i → T 9 x = M 9 x := fun x hx => by rw [T9, pk_un (by omega), pk_un (by omega), pk_un (by omega)]
        by_cases ck : aK (t a) = 1
        · have T5 : T 5 0 = nI c := by rw [TM 5 (by omega) (by omega)]; exact h5
          have Tt : ∀ k, k < c → T 4 k = nI (t k) ∧ t k < 128 := by rw [TM 4 (by omega) (by omega)]; exact ht
          have T10 : T 10 0 = nI i := by rw [TM 10 (by omega) (by omega)]; exact h10
          have hd3 := q5_isAt (n := n) (M := T) (t := t) (c := c) (a := a + 3) (x := 33) (y := 33) T5 hc Tt T7 (by omega) (by omega) (by omega)
          by_cases c3 : a + 3 < c ∧ 33 ≤ t (a + 3) ∧ t (a + 3) ≤ 33
          · rw [if_pos c3] at hd3
            have hs4 : rq t (a + 4) = some (1, (t (a + 1) - 48) * 10 + (t (a + 1 + 1) - 48), 0, 4) := by
              show (rq t (a + 3)).bind _ = _
              rw [hs3, ck]
              show aS _ (t (a + 3)) = _
              unfold aS
              dsimp only
              rw [if_neg (by omega), if_neg (by omega), if_neg (by omega), if_pos rfl, if_pos (by omega), if_pos rfl]
            obtain ⟨r, M', p, q, e, hp1, hp2, hqp, h7', hfr, h59', hq1, hq2, hcase⟩ := q5_isMask (n := n) (M := va_up T 7 (fun _ => nI (a + 4))) (t := t) (c := c) (a := a + 4) (i := i) hn T5 hc Tt rfl (by omega) T10 hi hs4 T92
            have e34 : a + 3 + 1 = a + 4 := by omega
            refine ⟨r, M', p, q, ?_, by omega, hp2, hqp, h7', fun j j7 j8 j9 => by rw [hfr j j7 j8 j9, va_up_ne _ _ j7, TM j j7 j9], fun u h1 h2 => ?_, ?_⟩
            · have hr : r ≤ 1 := by rcases hcase with h | h <;> omega
              rw [ck] at hT hkA
              unfold fX5_isPart
              simp (disch := first | omega | assumption) only [kk_nm, Option.bind_some, kl_0, kl_1, kl_2, kl_3, kl_4, kl_5, kl_6, kl_7, kl_8, kl_9, kl_10, kl_12, kl_14, kl_15, kl_16, kl_20, kl_31, kl_33, kl_48, kl_49, kl_50, kl_57, kl_59, kl_60, kl_62, kl_63, kl_98, kl_99, kl_103, kl_104, kl_126, kl_144, kl_310, kl_372, kl_100000, kl_1000000, kl_neg, kl_mm, kl_am, nI_add, kl_mul, kl_sub, kl_le, kl_lt, kl_eq, kl_eM, kl_Me, kl_ltM, kl_leM, kl_ck, kl_cj, kl_cb, kl_bit, nI_clamp, va_up_self, va_up_ne, pk_us, pk_un, if_pos, if_neg, eq_self, and_true, true_and, and_false, false_and, if_true, if_false, Bool.false_eq_true, hkA, h7, hM1, hd1, hd2, h10, t1, t2, e49, e49']
              rw [hT]
              simp (disch := first | omega | assumption) only [kk_nm, Option.bind_some, kl_0, kl_1, kl_2, kl_3, kl_4, kl_5, kl_6, kl_7, kl_8, kl_9, kl_10, kl_12, kl_14, kl_15, kl_16, kl_20, kl_31, kl_33, kl_48, kl_49, kl_50, kl_57, kl_59, kl_60, kl_62, kl_63, kl_98, kl_99, kl_103, kl_104, kl_126, kl_144, kl_310, kl_372, kl_100000, kl_1000000, kl_neg, kl_mm, kl_am, nI_add, kl_mul, kl_sub, kl_le, kl_lt, kl_eq, kl_eM, kl_Me, kl_ltM, kl_leM, kl_ck, kl_cj, kl_cb, kl_bit, nI_clamp, va_up_self, va_up_ne, pk_us, pk_un, if_pos, if_neg, eq_self, and_true, true_and, and_false, false_and, if_true, if_false, Bool.false_eq_true, T7, hd3, e34, e]
            · by_cases d : u < a + 3
              · exact h59 u h1 d
              · by_cases d2 : u = a + 3
                · rw [d2]; omega
                · exact h59' u (by omega) h2
            · rcases hcase with ⟨h1, h2, h3, h4⟩ | ⟨h1, h2, h3, h4, h5'⟩
              · exact .inl ⟨h1, by omega, by omega, h3, h4⟩
              · refine .inr ⟨h1, by omega, .inr h2, h3, ?_, ?_, h4, fun x hx => ?_⟩
                · rw [h5' _ (by omega), hq1]; show T 9 (3 * i) = _; rw [T90, ck]
                · rw [h5' _ (by omega), hq2]; exact T91
                · rw [h5' _ (by omega)]; exact T9x x hx
          · rw [if_neg c3] at hd3
            refine ⟨1, T, a + 3, _, ?_, by omega, by omega, hs3, T7, fun j j7 j8 j9 => TM j j7 j9, h59, .inr ⟨rfl, by omega, .inl rfl, fun hp h59' => ?_, T90, T91, T92, T9x⟩⟩
            · rw [ck] at hT hkA
              unfold fX5_isPart
              simp (disch := first | omega | assumption) only [kk_nm, Option.bind_some, kl_0, kl_1, kl_2, kl_3, kl_4, kl_5, kl_6, kl_7, kl_8, kl_9, kl_10, kl_12, kl_14, kl_15, kl_16, kl_20, kl_31, kl_33, kl_48, kl_49, kl_50, kl_57, kl_59, kl_60, kl_62, kl_63, kl_98, kl_99, kl_103, kl_104, kl_126, kl_144, kl_310, kl_372, kl_100000, kl_1000000, kl_neg, kl_mm, kl_am, nI_add, kl_mul, kl_sub, kl_le, kl_lt, kl_eq, kl_eM, kl_Me, kl_ltM, kl_leM, kl_ck, kl_cj, kl_cb, kl_bit, nI_clamp, va_up_self, va_up_ne, pk_us, pk_un, if_pos, if_neg, eq_self, and_true, true_and, and_false, false_and, if_true, if_false, Bool.false_eq_true, hkA, h7, hM1, hd1, hd2, h10, t1, t2, e49, e49']
              rw [hT]
              simp (disch := first | omega | assumption) only [kk_nm, Option.bind_some, kl_0, kl_1, kl_2, kl_3, kl_4, kl_5, kl_6, kl_7, kl_8, kl_9, kl_10, kl_12, kl_14, kl_15, kl_16, kl_20, kl_31, kl_33, kl_48, kl_49, kl_50, kl_57, kl_59, kl_60, kl_62, kl_63, kl_98, kl_99, kl_103, kl_104, kl_126, kl_144, kl_310, kl_372, kl_100000, kl_1000000, kl_neg, kl_mm, kl_am, nI_add, kl_mul, kl_sub, kl_le, kl_lt, kl_eq, kl_eM, kl_Me, kl_ltM, kl_leM, kl_ck, kl_cj, kl_cb, kl_bit, nI_clamp, va_up_self, va_up_ne, pk_us, pk_un, if_pos, if_neg, eq_self, and_true, true_and, and_false, false_and, if_true, if_false, Bool.false_eq_true, T7, hd3]
            · unfold aS
              dsimp only
              rw [if_neg (by omega), if_neg (by omega), if_neg (by omega), if_pos rfl, if_neg (by omega), if_neg h59']
        · refine ⟨1, T, a + 3, _, ?_, by omega, by omega, hs3, T7, fun j j7 j8 j9 => TM j j7 j9, h59, .inr ⟨rfl, by omega, .inl rfl, fun hp h59' => ?_, T90, T91, T92, T9x⟩⟩
          · unfold fX5_isPart
            simp (disch := first | omega | assumption) only [kk_nm, Option.bind_some, kl_0, kl_1, kl_2, kl_3, kl_4, kl_5, kl_6, kl_7, kl_8, kl_9, kl_10, kl_12, kl_14, kl_15, kl_16, kl_20, kl_31, kl_33, kl_48, kl_49, kl_50, kl_57, kl_59, kl_60, kl_62, kl_63, kl_98, kl_99, kl_103, kl_104, kl_126, kl_144, kl_310, kl_372, kl_100000, kl_1000000, kl_neg, kl_mm, kl_am, nI_add, kl_mul, kl_sub, kl_le, kl_lt, kl_eq, kl_eM, kl_Me, kl_ltM, kl_leM, kl_ck, kl_cj, kl_cb, kl_bit, nI_clamp, va_up_self, va_up_ne, pk_us, pk_un, if_pos, if_neg, eq_self, and_true, true_and, and_false, false_and, if_true, if_false, Bool.false_eq_true, hkA, h7, hM1, hd1, hd2, h10, t1, t2, e49, e49']
            rw [hT]
          · unfold aS
            dsimp only
            rw [if_neg (by omega), if_neg (by omega), if_neg (by omega), if_pos rfl]
            by_cases d : t (a + 3) = 33
            · rw [if_pos d, if_neg ck]
            · rw [if_neg d, if_neg h59']
      · rw [if_neg c2] at hd2
        have hst := q5_stops (n := n) (M := va_up (va_up M 7 (fun _ => nI (a + 1))) 7 (fun _ => nI (a + 1 + 1))) (c := c) (a := a + 1 + 1) h5 hc rfl (by omega)
        refine ⟨0, va_up (va_up (va_up M 7 (fun _ => nI (a + 1))) 7 (fun _ => nI (a + 1 + 1))) 8 (fun _ => nI (if a + 1 + 1 < c then 1 else 0)), a + 2, _, ?_, by omega, by omega, hs2, rfl, fun j j7 j8 j9 => by rw [va_up_ne _ _ j8, va_up_ne _ _ j7, va_up_ne _ _ j7], fun u h1 h2 => ?_, .inl ⟨rfl, by dsimp only; omega, by dsimp only; omega, rfl, fun hp => ?_⟩⟩
        · unfold fX5_isPart
          simp (disch := first | omega | assumption) only [kk_nm, Option.bind_some, kl_0, kl_1, kl_2, kl_3, kl_4, kl_5, kl_6, kl_7, kl_8, kl_9, kl_10, kl_12, kl_14, kl_15, kl_16, kl_20, kl_31, kl_33, kl_48, kl_49, kl_50, kl_57, kl_59, kl_60, kl_62, kl_63, kl_98, kl_99, kl_103, kl_104, kl_126, kl_144, kl_310, kl_372, kl_100000, kl_1000000, kl_neg, kl_mm, kl_am, nI_add, kl_mul, kl_sub, kl_le, kl_lt, kl_eq, kl_eM, kl_Me, kl_ltM, kl_leM, kl_ck, kl_cj, kl_cb, kl_bit, nI_clamp, va_up_self, va_up_ne, pk_us, pk_un, if_pos, if_neg, eq_self, and_true, true_and, and_false, false_and, if_true, if_false, Bool.false_eq_true, hkA, h7, hM1, hd1, hd2, hst]
        · rcases (by omega : u = a ∨ u = a + 1) with rfl | rfl
          · exact (aK_59 hk).1
          · omega
        · unfold aS
          dsimp only
          rw [if_neg (by omega), if_neg (by omega), if_pos rfl, if_neg (by rw [(by omega : a + 2 = a + 1 + 1)]; omega)]
    · rw [if_neg c1] at hd1
      have hst := q5_stops (n := n) (M := va_up M 7 (fun _ => nI (a + 1))) (c := c) (a := a + 1) h5 hc rfl (by omega)
      refine ⟨0, va_up (va_up M 7 (fun _ => nI (a + 1))) 8 (fun _ => nI (if a + 1 < c then 1 else 0)), a + 1, _, ?_, by omega, by omega, hs1, rfl, fun j j7 j8 j9 => by rw [va_up_ne _ _ j8, va_up_ne _ _ j7], fun u h1 h2 => ?_, .inl ⟨rfl, by dsimp only; omega, by dsimp only; omega, rfl, fun hp => ?_⟩⟩
      · unfold fX5_isPart
        simp (disch := first | omega | assumption) only [kk_nm, Option.bind_some, kl_0, kl_1, kl_2, kl_3, kl_4, kl_5, kl_6, kl_7, kl_8, kl_9, kl_10, kl_12, kl_14, kl_15, kl_16, kl_20, kl_31, kl_33, kl_48, kl_49, kl_50, kl_57, kl_59, kl_60, kl_62, kl_63, kl_98, kl_99, kl_103, kl_104, kl_126, kl_144, kl_310, kl_372, kl_100000, kl_1000000, kl_neg, kl_mm, kl_am, nI_add, kl_mul, kl_sub, kl_le, kl_lt, kl_eq, kl_eM, kl_Me, kl_ltM, kl_leM, kl_ck, kl_cj, kl_cb, kl_bit, nI_clamp, va_up_self, va_up_ne, pk_us, pk_un, if_pos, if_neg, eq_self, and_true, true_and, and_false, false_and, if_true, if_false, Bool.false_eq_true, hkA, h7, hM1, hd1, hst]
      · have : u = a := by omega
        rw [this]; exact (aK_59 hk).1
      · unfold aS
        dsimp only
        rw [if_neg (by omega), if_pos rfl, if_neg (by omega)]
  · rw [if_neg hk] at hkA
    have hst := q5_stops (n := n) (M := M) (c := c) (a := a) h5 hc h7 ha
    refine ⟨0, va_up M 8 (fun _ => nI (if a < c then 1 else 0)), a, q0, ?_, by omega, ha, hq, h7, fun j j7 j8 j9 => by rw [va_up_ne _ _ j8], fun u h1 h2 => by omega, .inl ⟨rfl, by omega, by omega, rfl, fun hp => ?_⟩⟩
    · unfold fX5_isPart
      simp (disch := first | omega | assumption) only [kk_nm, Option.bind_some, kl_0, kl_1, kl_2, kl_3, kl_4, kl_5, kl_6, kl_7, kl_8, kl_9, kl_10, kl_12, kl_14, kl_15, kl_16, kl_20, kl_31, kl_33, kl_48, kl_49, kl_50, kl_57, kl_59, kl_60, kl_62, kl_63, kl_98, kl_99, kl_103, kl_104, kl_126, kl_144, kl_310, kl_372, kl_100000, kl_1000000, kl_neg, kl_mm, kl_am, nI_add, kl_mul, kl_sub, kl_le, kl_lt, kl_eq, kl_eM, kl_Me, kl_ltM, kl_leM, kl_ck, kl_cj, kl_cb, kl_bit, nI_clamp, va_up_self, va_up_ne, pk_us, pk_un, if_pos, if_neg, eq_self, and_true, true_and, and_false, false_and, if_true, if_false, Bool.false_eq_true, hkA, hst]
    · rw [aS_0 hq0, if_neg]
      unfold kAt at hk
      rw [if_pos hp] at hk
      exact hk
end
