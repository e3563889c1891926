/-! what the class's parade says of the state -/
theorem kl_bit {m k : Nat} (hm : m < 16) (hk : k < 4) : (((nI m >>> (nI k &&& nI 31)) &&& nI 1) = nI 1) = (m.testBit k = true) := by
  have h : ∀ m, m < 16 → ∀ k, k < 4 → ((((nI m >>> (nI k &&& nI 31)) &&& nI 1) = nI 1) ↔ (m.testBit k = true)) := by decide +kernel
  exact propext (h m hm k hk)
section
variable {n : Nat} {P : St1} {s : Nat → Nat} {p : Nat}
theorem q2_shying (hR : RP P s) (hW : WF s) (hp : p < s 4) : fX2_shying n P (nI p) = some (nI (t_shy s p)) := by
  obtain ⟨h0, h5, hf, hb, hs⟩ := hR
  obtain ⟨w0, w1, w2, w3, w4⟩ := hW
  have hK : ∀ q, q < s 4 → P 1 q = nI (s (14 + 4 * q)) := fun q h => (hf q h).1
  have hM : ∀ q, q < s 4 → P 3 q = nI (s (16 + 4 * q)) := fun q h => (hf q h).2.2.1
  have a0 := w2 p hp
  have a1 := w2 (p - 1) (by omega)
  have a2 := w2 (p - 2) (by omega)
  unfold fX2_shying t_shy
  by_cases c1 : p < 1
  · simp (disch := first | omega | assumption) only [kk_nm, Option.bind_some, kl_0, kl_1, kl_2, kl_3, kl_4, kl_5, kl_6, kl_7, kl_8, kl_9, kl_10, kl_12, kl_14, kl_15, kl_16, kl_20, kl_31, kl_33, kl_48, kl_49, kl_50, kl_57, kl_59, kl_60, kl_62, kl_63, kl_98, kl_99, kl_103, kl_104, kl_126, kl_144, kl_310, kl_372, kl_100000, kl_1000000, kl_neg, kl_mm, kl_am, nI_add, kl_mul, kl_sub, kl_le, kl_lt, kl_eq, kl_eM, kl_Me, kl_ltM, kl_leM, kl_ck, kl_cj, kl_cb, kl_bit, nI_clamp, va_up_self, va_up_ne, pk_us, pk_un, if_pos, if_neg, eq_self, and_true, true_and, and_false, false_and, if_true, if_false, Bool.false_eq_true]
  · by_cases c2 : p < 2
    · by_cases b1 : (s (16 + 4 * p)).testBit (s (14 + 4 * (p - 1))) = true
      · simp (disch := first | omega | assumption) only [kk_nm, Option.bind_some, kl_0, kl_1, kl_2, kl_3, kl_4, kl_5, kl_6, kl_7, kl_8, kl_9, kl_10, kl_12, kl_14, kl_15, kl_16, kl_20, kl_31, kl_33, kl_48, kl_49, kl_50, kl_57, kl_59, kl_60, kl_62, kl_63, kl_98, kl_99, kl_103, kl_104, kl_126, kl_144, kl_310, kl_372, kl_100000, kl_1000000, kl_neg, kl_mm, kl_am, nI_add, kl_mul, kl_sub, kl_le, kl_lt, kl_eq, kl_eM, kl_Me, kl_ltM, kl_leM, kl_ck, kl_cj, kl_cb, kl_bit, nI_clamp, va_up_self, va_up_ne, pk_us, pk_un, if_pos, if_neg, eq_self, and_true, true_and, and_false, false_and, if_true, if_false, Bool.false_eq_true, hM, hK, b1]
      · simp (disch := first | omega | assumption) only [kk_nm, Option.bind_some, kl_0, kl_1, kl_2, kl_3, kl_4, kl_5, kl_6, kl_7, kl_8, kl_9, kl_10, kl_12, kl_14, kl_15, kl_16, kl_20, kl_31, kl_33, kl_48, kl_49, kl_50, kl_57, kl_59, kl_60, kl_62, kl_63, kl_98, kl_99, kl_103, kl_104, kl_126, kl_144, kl_310, kl_372, kl_100000, kl_1000000, kl_neg, kl_mm, kl_am, nI_add, kl_mul, kl_sub, kl_le, kl_lt, kl_eq, kl_eM, kl_Me, kl_ltM, kl_leM, kl_ck, kl_cj, kl_cb, kl_bit, nI_clamp, va_up_self, va_up_ne, pk_us, pk_un, if_pos, if_neg, eq_self, and_true, true_and, and_false, false_and, if_true, if_false, Bool.false_eq_true, hM, hK, b1]
    · by_cases b1 : (s (16 + 4 * p)).testBit (s (14 + 4 * (p - 1))) = true
      · by_cases b2 : (s (16 + 4 * p)).testBit (s (14 + 4 * (p - 2))) = true
        · simp (disch := first | omega | assumption) only [kk_nm, Option.bind_some, kl_0, kl_1, kl_2, kl_3, kl_4, kl_5, kl_6, kl_7, kl_8, kl_9, kl_10, kl_12, kl_14, kl_15, kl_16, kl_20, kl_31, kl_33, kl_48, kl_49, kl_50, kl_57, kl_59, kl_60, kl_62, kl_63, kl_98, kl_99, kl_103, kl_104, kl_126, kl_144, kl_310, kl_372, kl_100000, kl_1000000, kl_neg, kl_mm, kl_am, nI_add, kl_mul, kl_sub, kl_le, kl_lt, kl_eq, kl_eM, kl_Me, kl_ltM, kl_leM, kl_ck, kl_cj, kl_cb, kl_bit, nI_clamp, va_up_self, va_up_ne, pk_us, pk_un, if_pos, if_neg, eq_self, and_true, true_and, and_false, false_and, if_true, if_false, Bool.false_eq_true, hM, hK, b1, b2]
        · simp (disch := first | omega | assumption) only [kk_nm, Option.bind_some, kl_0, kl_1, kl_2, kl_3, kl_4, kl_5, kl_6, kl_7, kl_8, kl_9, kl_10, kl_12, kl_14, kl_15, kl_16, kl_20, kl_31, kl_33, kl_48, kl_49, kl_50, kl_57, kl_59, kl_60, kl_62, kl_63, kl_98, kl_99, kl_103, kl_104, kl_126, kl_144, kl_310, kl_372, kl_100000, kl_1000000, kl_neg, kl_mm, kl_am, nI_add, kl_mul, kl_sub, kl_le, kl_lt, kl_eq, kl_eM, kl_Me, kl_ltM, kl_leM, kl_ck, kl_cj, kl_cb, kl_bit, nI_clamp, va_up_self, va_up_ne, pk_us, pk_un, if_pos, if_neg, eq_self, and_true, true_and, and_false, false_and, if_true, if_false, Bool.false_eq_true, hM, hK, b1, b2]
      · by_cases b2 : (s (16 + 4 * p)).testBit (s (14 + 4 * (p - 2))) = true
        · simp (disch := first | omega | assumption) only [kk_nm, Option.bind_some, kl_0, kl_1, kl_2, kl_3, kl_4, kl_5, kl_6, kl_7, kl_8, kl_9, kl_10, kl_12, kl_14, kl_15, kl_16, kl_20, kl_31, kl_33, kl_48, kl_49, kl_50, kl_57, kl_59, kl_60, kl_62, kl_63, kl_98, kl_99, kl_103, kl_104, kl_126, kl_144, kl_310, kl_372, kl_100000, kl_1000000, kl_neg, kl_mm, kl_am, nI_add, kl_mul, kl_sub, kl_le, kl_lt, kl_eq, kl_eM, kl_Me, kl_ltM, kl_leM, kl_ck, kl_cj, kl_cb, kl_bit, nI_clamp, va_up_self, va_up_ne, pk_us, pk_un, if_pos, if_neg, eq_self, and_true, true_and, and_false, false_and, if_true, if_false, Bool.false_eq_true, hM, hK, b1, b2]
        · simp (disch := first | omega | assumption) only [kk_nm, Option.bind_some, kl_0, kl_1, kl_2, kl_3, kl_4, kl_5, kl_6, kl_7, kl_8, kl_9, kl_10, kl_12, kl_14, kl_15, kl_16, kl_20, kl_31, kl_33, kl_48, kl_49, kl_50, kl_57, kl_59, kl_60, kl_62, kl_63, kl_98, kl_99, kl_103, kl_104, kl_126, kl_144, kl_310, kl_372, kl_100000, kl_1000000, kl_neg, kl_mm, kl_am, nI_add, kl_mul, kl_sub, kl_le, kl_lt, kl_eq, kl_eM, kl_Me, kl_ltM, kl_leM, kl_ck, kl_cj, kl_cb, kl_bit, nI_clamp, va_up_self, va_up_ne, pk_us, pk_un, if_pos, if_neg, eq_self, and_true, true_and, and_false, false_and, if_true, if_false, Bool.false_eq_true, hM, hK, b1, b2]
theorem q2_hearing (hn : 1000 ≤ n) (hR : RP P s) (hW : WF s) (hp : p < s 4) : fX2_hearing n P (nI p) = some (nI (t_hear s p)) := by
  obtain ⟨h0, h5, hf, hb, hs⟩ := hR
  obtain ⟨w0, w1, w2, w3, w4⟩ := hW
  have hK : ∀ q, q < s 4 → P 1 q = nI (s (14 + 4 * q)) := fun q h => (hf q h).1
  have hS : P 8 0 = nI (s 0) := hs 0 (by omega)
  have a0 := w2 p hp
  unfold fX2_hearing t_hear
  by_cases c1 : s (14 + 4 * p) = 2
  · have e : kk_it (fun (st : Int32 × Int32) => fX2_hearing_b14 n P (nI p) st.1 st.2) n (nI 0, nI 1) = some (nI (sm (fun i => t_h1 s p (p - (i + 1))) (min (s 0) (p + 1) - 1))) := by
      refine kl_for (fun k => (nI (sm (fun i => t_h1 s p (p - (i + 1))) k), nI (k + 1))) _ (min (s 0) (p + 1) - 1) (fun k hk => ?_) ?_ n 0 (by omega) (by omega)
      · have a1 := w2 (p - (k + 1)) (by omega)
        have hg : sm (fun i => t_h1 s p (p - (i + 1))) (k + 1) = sm (fun i => t_h1 s p (p - (i + 1))) k + t_h1 s p (p - (k + 1)) := rfl
        show fX2_hearing_b14 n P (nI p) (nI _) (nI (k + 1)) = some (.inl (nI _, nI (k + 1 + 1)))
        rw [hg]
        unfold fX2_hearing_b14
        by_cases cq : s (14 + 4 * (p - (k + 1))) = 2
        · have e1 : t_h1 s p (p - (k + 1)) = 1 := by unfold t_h1; rw [if_pos ⟨cq, by omega⟩]
          rw [e1]
          simp (disch := first | omega | assumption) only [kk_nm, Option.bind_some, kl_0, kl_1, kl_2, kl_3, kl_4, kl_5, kl_6, kl_7, kl_8, kl_9, kl_10, kl_12, kl_14, kl_15, kl_16, kl_20, kl_31, kl_33, kl_48, kl_49, kl_50, kl_57, kl_59, kl_60, kl_62, kl_63, kl_98, kl_99, kl_103, kl_104, kl_126, kl_144, kl_310, kl_372, kl_100000, kl_1000000, kl_neg, kl_mm, kl_am, nI_add, kl_mul, kl_sub, kl_le, kl_lt, kl_eq, kl_eM, kl_Me, kl_ltM, kl_leM, kl_ck, kl_cj, kl_cb, kl_bit, nI_clamp, va_up_self, va_up_ne, pk_us, pk_un, if_pos, if_neg, eq_self, and_true, true_and, and_false, false_and, if_true, if_false, Bool.false_eq_true, hK, hS]
        · have e1 : t_h1 s p (p - (k + 1)) = 0 := by unfold t_h1; rw [if_neg (fun h => cq h.1)]
          rw [e1]
          simp (disch := first | omega | assumption) only [kk_nm, Option.bind_some, kl_0, kl_1, kl_2, kl_3, kl_4, kl_5, kl_6, kl_7, kl_8, kl_9, kl_10, kl_12, kl_14, kl_15, kl_16, kl_20, kl_31, kl_33, kl_48, kl_49, kl_50, kl_57, kl_59, kl_60, kl_62, kl_63, kl_98, kl_99, kl_103, kl_104, kl_126, kl_144, kl_310, kl_372, kl_100000, kl_1000000, kl_neg, kl_mm, kl_am, nI_add, kl_mul, kl_sub, kl_le, kl_lt, kl_eq, kl_eM, kl_Me, kl_ltM, kl_leM, kl_ck, kl_cj, kl_cb, kl_bit, nI_clamp, va_up_self, va_up_ne, pk_us, pk_un, if_pos, if_neg, eq_self, and_true, true_and, and_false, false_and, if_true, if_false, Bool.false_eq_true, hK, hS, Nat.add_zero]
      · show fX2_hearing_b14 n P (nI p) (nI _) (nI _) = some (.inr _)
        unfold fX2_hearing_b14
        by_cases cq : s 0 ≤ p + 1
        · simp (disch := first | omega | assumption) only [kk_nm, Option.bind_some, kl_0, kl_1, kl_2, kl_3, kl_4, kl_5, kl_6, kl_7, kl_8, kl_9, kl_10, kl_12, kl_14, kl_15, kl_16, kl_20, kl_31, kl_33, kl_48, kl_49, kl_50, kl_57, kl_59, kl_60, kl_62, kl_63, kl_98, kl_99, kl_103, kl_104, kl_126, kl_144, kl_310, kl_372, kl_100000, kl_1000000, kl_neg, kl_mm, kl_am, nI_add, kl_mul, kl_sub, kl_le, kl_lt, kl_eq, kl_eM, kl_Me, kl_ltM, kl_leM, kl_ck, kl_cj, kl_cb, kl_bit, nI_clamp, va_up_self, va_up_ne, pk_us, pk_un, if_pos, if_neg, eq_self, and_true, true_and, and_false, false_and, if_true, if_false, Bool.false_eq_true, hK, hS]
        · simp (disch := first | omega | assumption) only [kk_nm, Option.bind_some, kl_0, kl_1, kl_2, kl_3, kl_4, kl_5, kl_6, kl_7, kl_8, kl_9, kl_10, kl_12, kl_14, kl_15, kl_16, kl_20, kl_31, kl_33, kl_48, kl_49, kl_50, kl_57, kl_59, kl_60, kl_62, kl_63, kl_98, kl_99, kl_103, kl_104, kl_126, kl_144, kl_310, kl_372, kl_100000, kl_1000000, kl_neg, kl_mm, kl_am, nI_add, kl_mul, kl_sub, kl_le, kl_lt, kl_eq, kl_eM, kl_Me, kl_ltM, kl_leM, kl_ck, kl_cj, kl_cb, kl_bit, nI_clamp, va_up_self, va_up_ne, pk_us, pk_un, if_pos, if_neg, eq_self, and_true, true_and, and_false, false_and, if_true, if_false, Bool.false_eq_true, hK, hS]
    have e2 : sm (fun i => t_h1 s p (p - (i + 1))) (min (s 0) (p + 1) - 1) = sm (t_h1 s p) p := by
      rw [← sm_tail (n := p) (by omega) (fun i h1 h2 => by show t_h1 s p (p - (i + 1)) = 0; unfold t_h1; rw [if_neg (fun h => by have := h.2; omega)]), ← sm_rev (t_h1 s p) p]
      exact sm_congr (fun i _ => by congr 1; omega)
    simp (disch := first | omega | assumption) only [kk_nm, Option.bind_some, kl_0, kl_1, kl_2, kl_3, kl_4, kl_5, kl_6, kl_7, kl_8, kl_9, kl_10, kl_12, kl_14, kl_15, kl_16, kl_20, kl_31, kl_33, kl_48, kl_49, kl_50, kl_57, kl_59, kl_60, kl_62, kl_63, kl_98, kl_99, kl_103, kl_104, kl_126, kl_144, kl_310, kl_372, kl_100000, kl_1000000, kl_neg, kl_mm, kl_am, nI_add, kl_mul, kl_sub, kl_le, kl_lt, kl_eq, kl_eM, kl_Me, kl_ltM, kl_leM, kl_ck, kl_cj, kl_cb, kl_bit, nI_clamp, va_up_self, va_up_ne, pk_us, pk_un, if_pos, if_neg, eq_self, and_true, true_and, and_false, false_and, if_true, if_false, Bool.false_eq_true, hK, e, e2]
  · simp (disch := first | omega | assumption) only [kk_nm, Option.bind_some, kl_0, kl_1, kl_2, kl_3, kl_4, kl_5, kl_6, kl_7, kl_8, kl_9, kl_10, kl_12, kl_14, kl_15, kl_16, kl_20, kl_31, kl_33, kl_48, kl_49, kl_50, kl_57, kl_59, kl_60, kl_62, kl_63, kl_98, kl_99, kl_103, kl_104, kl_126, kl_144, kl_310, kl_372, kl_100000, kl_1000000, kl_neg, kl_mm, kl_am, nI_add, kl_mul, kl_sub, kl_le, kl_lt, kl_eq, kl_eM, kl_Me, kl_ltM, kl_leM, kl_ck, kl_cj, kl_cb, kl_bit, nI_clamp, va_up_self, va_up_ne, pk_us, pk_un, if_pos, if_neg, eq_self, and_true, true_and, and_false, false_and, if_true, if_false, Bool.false_eq_true, hK]
theorem q2_meeting (hR : RP P s) (hW : WF s) (hp : p < s 4) : fX2_meeting n P (nI p) = some (nI (t_meet s p)) := by
  obtain ⟨h0, h5, hf, hb, hs⟩ := hR
  obtain ⟨w0, w1, w2, w3, w4⟩ := hW
  have hK : ∀ q, q < s 4 → P 1 q = nI (s (14 + 4 * q)) := fun q h => (hf q h).1
  have a0 := w2 p hp
  have a1 := w2 (p - 1) (by omega)
  unfold fX2_meeting t_meet
  by_cases c1 : p < 1
  · simp (disch := first | omega | assumption) only [kk_nm, Option.bind_some, kl_0, kl_1, kl_2, kl_3, kl_4, kl_5, kl_6, kl_7, kl_8, kl_9, kl_10, kl_12, kl_14, kl_15, kl_16, kl_20, kl_31, kl_33, kl_48, kl_49, kl_50, kl_57, kl_59, kl_60, kl_62, kl_63, kl_98, kl_99, kl_103, kl_104, kl_126, kl_144, kl_310, kl_372, kl_100000, kl_1000000, kl_neg, kl_mm, kl_am, nI_add, kl_mul, kl_sub, kl_le, kl_lt, kl_eq, kl_eM, kl_Me, kl_ltM, kl_leM, kl_ck, kl_cj, kl_cb, kl_bit, nI_clamp, va_up_self, va_up_ne, pk_us, pk_un, if_pos, if_neg, eq_self, and_true, true_and, and_false, false_and, if_true, if_false, Bool.false_eq_true]
  · by_cases c2 : s (14 + 4 * p) = 3
    · by_cases c3 : s (14 + 4 * (p - 1)) = 3
      · simp (disch := first | omega | assumption) only [kk_nm, Option.bind_some, kl_0, kl_1, kl_2, kl_3, kl_4, kl_5, kl_6, kl_7, kl_8, kl_9, kl_10, kl_12, kl_14, kl_15, kl_16, kl_20, kl_31, kl_33, kl_48, kl_49, kl_50, kl_57, kl_59, kl_60, kl_62, kl_63, kl_98, kl_99, kl_103, kl_104, kl_126, kl_144, kl_310, kl_372, kl_100000, kl_1000000, kl_neg, kl_mm, kl_am, nI_add, kl_mul, kl_sub, kl_le, kl_lt, kl_eq, kl_eM, kl_Me, kl_ltM, kl_leM, kl_ck, kl_cj, kl_cb, kl_bit, nI_clamp, va_up_self, va_up_ne, pk_us, pk_un, if_pos, if_neg, eq_self, and_true, true_and, and_false, false_and, if_true, if_false, Bool.false_eq_true, hK]
      · simp (disch := first | omega | assumption) only [kk_nm, Option.bind_some, kl_0, kl_1, kl_2, kl_3, kl_4, kl_5, kl_6, kl_7, kl_8, kl_9, kl_10, kl_12, kl_14, kl_15, kl_16, kl_20, kl_31, kl_33, kl_48, kl_49, kl_50, kl_57, kl_59, kl_60, kl_62, kl_63, kl_98, kl_99, kl_103, kl_104, kl_126, kl_144, kl_310, kl_372, kl_100000, kl_1000000, kl_neg, kl_mm, kl_am, nI_add, kl_mul, kl_sub, kl_le, kl_lt, kl_eq, kl_eM, kl_Me, kl_ltM, kl_leM, kl_ck, kl_cj, kl_cb, kl_bit, nI_clamp, va_up_self, va_up_ne, pk_us, pk_un, if_pos, if_neg, eq_self, and_true, true_and, and_false, false_and, if_true, if_false, Bool.false_eq_true, hK]
    · simp (disch := first | omega | assumption) only [kk_nm, Option.bind_some, kl_0, kl_1, kl_2, kl_3, kl_4, kl_5, kl_6, kl_7, kl_8, kl_9, kl_10, kl_12, kl_14, kl_15, kl_16, kl_20, kl_31, kl_33, kl_48, kl_49, kl_50, kl_57, kl_59, kl_60, kl_62, kl_63, kl_98, kl_99, kl_103, kl_104, kl_126, kl_144, kl_310, kl_372, kl_100000, kl_1000000, kl_neg, kl_mm, kl_am, nI_add, kl_mul, kl_sub, kl_le, kl_lt, kl_eq, kl_eM, kl_Me, kl_ltM, kl_leM, kl_ck, kl_cj, kl_cb, kl_bit, nI_clamp, va_up_self, va_up_ne, pk_us, pk_un, if_pos, if_neg, eq_self, and_true, true_and, and_false, false_and, if_true, if_false, Bool.false_eq_true, hK]
theorem q2_troubleAt (hn : 1000 ≤ n) (hR : RP P s) (hW : WF s) (hp : p < s 4) : fX2_troubleAt n P (nI p) = some (nI (t_at s p)) := by
  unfold fX2_troubleAt t_at
  rw [q2_shying hR hW hp, q2_hearing hn hR hW hp, q2_meeting hR hW hp]
  simp (disch := first | omega | assumption) only [kk_nm, Option.bind_some, kl_0, kl_1, kl_2, kl_3, kl_4, kl_5, kl_6, kl_7, kl_8, kl_9, kl_10, kl_12, kl_14, kl_15, kl_16, kl_20, kl_31, kl_33, kl_48, kl_49, kl_50, kl_57, kl_59, kl_60, kl_62, kl_63, kl_98, kl_99, kl_103, kl_104, kl_126, kl_144, kl_310, kl_372, kl_100000, kl_1000000, kl_neg, kl_mm, kl_am, nI_add, kl_mul, kl_sub, kl_le, kl_lt, kl_eq, kl_eM, kl_Me, kl_ltM, kl_leM, kl_ck, kl_cj, kl_cb, kl_bit, nI_clamp, va_up_self, va_up_ne, pk_us, pk_un, if_pos, if_neg, eq_self, and_true, true_and, and_false, false_and, if_true, if_false, Bool.false_eq_true]
def t_by (s : Nat → Nat) (p k : Nat) : Nat := if k = 0 then t_shy s p else if k = 1 then t_hear s p else t_meet s p
theorem q2_troubleBy {k : Nat} (hk : k < 3) (hn : 1000 ≤ n) (hR : RP P s) (hW : WF s) (hp : p < s 4) : fX2_troubleBy n P (nI p) (nI k) = some (nI (t_by s p k)) := by
  unfold fX2_troubleBy t_by
  rw [q2_shying hR hW hp, q2_hearing hn hR hW hp, q2_meeting hR hW hp]
  by_cases c1 : k = 0
  · simp (disch := first | omega | assumption) only [kk_nm, Option.bind_some, kl_0, kl_1, kl_2, kl_3, kl_4, kl_5, kl_6, kl_7, kl_8, kl_9, kl_10, kl_12, kl_14, kl_15, kl_16, kl_20, kl_31, kl_33, kl_48, kl_49, kl_50, kl_57, kl_59, kl_60, kl_62, kl_63, kl_98, kl_99, kl_103, kl_104, kl_126, kl_144, kl_310, kl_372, kl_100000, kl_1000000, kl_neg, kl_mm, kl_am, nI_add, kl_mul, kl_sub, kl_le, kl_lt, kl_eq, kl_eM, kl_Me, kl_ltM, kl_leM, kl_ck, kl_cj, kl_cb, kl_bit, nI_clamp, va_up_self, va_up_ne, pk_us, pk_un, if_pos, if_neg, eq_self, and_true, true_and, and_false, false_and, if_true, if_false, Bool.false_eq_true]
  · by_cases c2 : k = 1
    · simp (disch := first | omega | assumption) only [kk_nm, Option.bind_some, kl_0, kl_1, kl_2, kl_3, kl_4, kl_5, kl_6, kl_7, kl_8, kl_9, kl_10, kl_12, kl_14, kl_15, kl_16, kl_20, kl_31, kl_33, kl_48, kl_49, kl_50, kl_57, kl_59, kl_60, kl_62, kl_63, kl_98, kl_99, kl_103, kl_104, kl_126, kl_144, kl_310, kl_372, kl_100000, kl_1000000, kl_neg, kl_mm, kl_am, nI_add, kl_mul, kl_sub, kl_le, kl_lt, kl_eq, kl_eM, kl_Me, kl_ltM, kl_leM, kl_ck, kl_cj, kl_cb, kl_bit, nI_clamp, va_up_self, va_up_ne, pk_us, pk_un, if_pos, if_neg, eq_self, and_true, true_and, and_false, false_and, if_true, if_false, Bool.false_eq_true]
    · simp (disch := first | omega | assumption) only [kk_nm, Option.bind_some, kl_0, kl_1, kl_2, kl_3, kl_4, kl_5, kl_6, kl_7, kl_8, kl_9, kl_10, kl_12, kl_14, kl_15, kl_16, kl_20, kl_31, kl_33, kl_48, kl_49, kl_50, kl_57, kl_59, kl_60, kl_62, kl_63, kl_98, kl_99, kl_103, kl_104, kl_126, kl_144, kl_310, kl_372, kl_100000, kl_1000000, kl_neg, kl_mm, kl_am, nI_add, kl_mul, kl_sub, kl_le, kl_lt, kl_eq, kl_eM, kl_Me, kl_ltM, kl_leM, kl_ck, kl_cj, kl_cb, kl_bit, nI_clamp, va_up_self, va_up_ne, pk_us, pk_un, if_pos, if_neg, eq_self, and_true, true_and, and_false, false_and, if_true, if_false, Bool.false_eq_true]
theorem q2_allTrouble (hn : 1000 ≤ n) (hR : RP P s) (hW : WF s) : fX2_allTrouble n P = some (nI (t_all s)) := by
  have w1 := hW.2.1
  have e : kk_it (fun (st : Int32 × Int32) => fX2_allTrouble_b4 n P st.1 st.2) n (nI 0, nI 0) = some (nI (t_all s)) := by
    refine kl_for (fun k => (nI (sm (t_at s) k), nI k)) _ (s 4) (fun k hk => ?_) ?_ n 0 (by omega) (by omega)
    · show fX2_allTrouble_b4 n P (nI _) (nI _) = some (.inl (nI (sm (t_at s) k + t_at s k), nI (k + 1)))
      unfold fX2_allTrouble_b4
      rw [q2_troubleAt hn hR hW hk, hR.1]
      simp (disch := first | omega | assumption) only [kk_nm, Option.bind_some, kl_0, kl_1, kl_2, kl_3, kl_4, kl_5, kl_6, kl_7, kl_8, kl_9, kl_10, kl_12, kl_14, kl_15, kl_16, kl_20, kl_31, kl_33, kl_48, kl_49, kl_50, kl_57, kl_59, kl_60, kl_62, kl_63, kl_98, kl_99, kl_103, kl_104, kl_126, kl_144, kl_310, kl_372, kl_100000, kl_1000000, kl_neg, kl_mm, kl_am, nI_add, kl_mul, kl_sub, kl_le, kl_lt, kl_eq, kl_eM, kl_Me, kl_ltM, kl_leM, kl_ck, kl_cj, kl_cb, kl_bit, nI_clamp, va_up_self, va_up_ne, pk_us, pk_un, if_pos, if_neg, eq_self, and_true, true_and, and_false, false_and, if_true, if_false, Bool.false_eq_true]
    · show fX2_allTrouble_b4 n P (nI _) (nI _) = some (.inr _)
      unfold fX2_allTrouble_b4
      rw [hR.1]
      simp (disch := first | omega | assumption) only [kk_nm, Option.bind_some, kl_0, kl_1, kl_2, kl_3, kl_4, kl_5, kl_6, kl_7, kl_8, kl_9, kl_10, kl_12, kl_14, kl_15, kl_16, kl_20, kl_31, kl_33, kl_48, kl_49, kl_50, kl_57, kl_59, kl_60, kl_62, kl_63, kl_98, kl_99, kl_103, kl_104, kl_126, kl_144, kl_310, kl_372, kl_100000, kl_1000000, kl_neg, kl_mm, kl_am, nI_add, kl_mul, kl_sub, kl_le, kl_lt, kl_eq, kl_eM, kl_Me, kl_ltM, kl_leM, kl_ck, kl_cj, kl_cb, kl_bit, nI_clamp, va_up_self, va_up_ne, pk_us, pk_un, if_pos, if_neg, eq_self, and_true, true_and, and_false, false_and, if_true, if_false, Bool.false_eq_true]
      rfl
  unfold fX2_allTrouble
  simp (disch := first | omega | assumption) only [kk_nm, Option.bind_some, kl_0, kl_1, kl_2, kl_3, kl_4, kl_5, kl_6, kl_7, kl_8, kl_9, kl_10, kl_12, kl_14, kl_15, kl_16, kl_20, kl_31, kl_33, kl_48, kl_49, kl_50, kl_57, kl_59, kl_60, kl_62, kl_63, kl_98, kl_99, kl_103, kl_104, kl_126, kl_144, kl_310, kl_372, kl_100000, kl_1000000, kl_neg, kl_mm, kl_am, nI_add, kl_mul, kl_sub, kl_le, kl_lt, kl_eq, kl_eM, kl_Me, kl_ltM, kl_leM, kl_ck, kl_cj, kl_cb, kl_bit, nI_clamp, va_up_self, va_up_ne, pk_us, pk_un, if_pos, if_neg, eq_self, and_true, true_and, and_false, false_and, if_true, if_false, Bool.false_eq_true, e]
def t_trd (s : Nat → Nat) (p : Nat) : Nat := if t_at s p = 0 then 0 else 1
theorem q2_troubledFloats (hn : 1000 ≤ n) (hR : RP P s) (hW : WF s) : fX2_troubledFloats n P = some (nI (sm (t_trd s) (s 4))) := by
  have w1 := hW.2.1
  have e : kk_it (fun (st : Int32 × Int32) => fX2_troubledFloats_b4 n P st.1 st.2) n (nI 0, nI 0) = some (nI (sm (t_trd s) (s 4))) := by
    refine kl_for (fun k => (nI (sm (t_trd s) k), nI k)) _ (s 4) (fun k hk => ?_) ?_ n 0 (by omega) (by omega)
    · show fX2_troubledFloats_b4 n P (nI _) (nI _) = some (.inl (nI (sm (t_trd s) k + t_trd s k), nI (k + 1)))
      have h1 := t_at_le s k (by omega)
      unfold fX2_troubledFloats_b4 t_trd
      rw [q2_troubleAt hn hR hW hk, hR.1]
      by_cases c : t_at s k = 0
      · simp (disch := first | omega | assumption) only [kk_nm, Option.bind_some, kl_0, kl_1, kl_2, kl_3, kl_4, kl_5, kl_6, kl_7, kl_8, kl_9, kl_10, kl_12, kl_14, kl_15, kl_16, kl_20, kl_31, kl_33, kl_48, kl_49, kl_50, kl_57, kl_59, kl_60, kl_62, kl_63, kl_98, kl_99, kl_103, kl_104, kl_126, kl_144, kl_310, kl_372, kl_100000, kl_1000000, kl_neg, kl_mm, kl_am, nI_add, kl_mul, kl_sub, kl_le, kl_lt, kl_eq, kl_eM, kl_Me, kl_ltM, kl_leM, kl_ck, kl_cj, kl_cb, kl_bit, nI_clamp, va_up_self, va_up_ne, pk_us, pk_un, if_pos, if_neg, eq_self, and_true, true_and, and_false, false_and, if_true, if_false, Bool.false_eq_true, Nat.add_zero]
      · simp (disch := first | omega | assumption) only [kk_nm, Option.bind_some, kl_0, kl_1, kl_2, kl_3, kl_4, kl_5, kl_6, kl_7, kl_8, kl_9, kl_10, kl_12, kl_14, kl_15, kl_16, kl_20, kl_31, kl_33, kl_48, kl_49, kl_50, kl_57, kl_59, kl_60, kl_62, kl_63, kl_98, kl_99, kl_103, kl_104, kl_126, kl_144, kl_310, kl_372, kl_100000, kl_1000000, kl_neg, kl_mm, kl_am, nI_add, kl_mul, kl_sub, kl_le, kl_lt, kl_eq, kl_eM, kl_Me, kl_ltM, kl_leM, kl_ck, kl_cj, kl_cb, kl_bit, nI_clamp, va_up_self, va_up_ne, pk_us, pk_un, if_pos, if_neg, eq_self, and_true, true_and, and_false, false_and, if_true, if_false, Bool.false_eq_true]
    · show fX2_troubledFloats_b4 n P (nI _) (nI _) = some (.inr _)
      unfold fX2_troubledFloats_b4
      rw [hR.1]
      simp (disch := first | omega | assumption) only [kk_nm, Option.bind_some, kl_0, kl_1, kl_2, kl_3, kl_4, kl_5, kl_6, kl_7, kl_8, kl_9, kl_10, kl_12, kl_14, kl_15, kl_16, kl_20, kl_31, kl_33, kl_48, kl_49, kl_50, kl_57, kl_59, kl_60, kl_62, kl_63, kl_98, kl_99, kl_103, kl_104, kl_126, kl_144, kl_310, kl_372, kl_100000, kl_1000000, kl_neg, kl_mm, kl_am, nI_add, kl_mul, kl_sub, kl_le, kl_lt, kl_eq, kl_eM, kl_Me, kl_ltM, kl_leM, kl_ck, kl_cj, kl_cb, kl_bit, nI_clamp, va_up_self, va_up_ne, pk_us, pk_un, if_pos, if_neg, eq_self, and_true, true_and, and_false, false_and, if_true, if_false, Bool.false_eq_true]
  unfold fX2_troubledFloats
  simp (disch := first | omega | assumption) only [kk_nm, Option.bind_some, kl_0, kl_1, kl_2, kl_3, kl_4, kl_5, kl_6, kl_7, kl_8, kl_9, kl_10, kl_12, kl_14, kl_15, kl_16, kl_20, kl_31, kl_33, kl_48, kl_49, kl_50, kl_57, kl_59, kl_60, kl_62, kl_63, kl_98, kl_99, kl_103, kl_104, kl_126, kl_144, kl_310, kl_372, kl_100000, kl_1000000, kl_neg, kl_mm, kl_am, nI_add, kl_mul, kl_sub, kl_le, kl_lt, kl_eq, kl_eM, kl_Me, kl_ltM, kl_leM, kl_ck, kl_cj, kl_cb, kl_bit, nI_clamp, va_up_self, va_up_ne, pk_us, pk_un, if_pos, if_neg, eq_self, and_true, true_and, and_false, false_and, if_true, if_false, Bool.false_eq_true, e]
theorem kl_hgt {h f : Nat} (h1 : h ≤ 99) (h2 : f ≤ 1) : (nI 10 ≤ nI h - nI (20 * f)) = (10 ≤ h - 20 * f) := by
  have k : ∀ h, h < 100 → ∀ f, f < 2 → ((nI 10 ≤ nI h - nI (20 * f)) ↔ (10 ≤ h - 20 * f)) := by decide +kernel
  exact propext (k h (by omega) f (by omega))
theorem q2_countedHeight (hR : RP P s) (hW : WF s) (hp : p < s 4) : fX2_countedHeight n P (nI p) = some (nI (t_hgt s p)) := by
  obtain ⟨h0, h5, hf, hb, hs⟩ := hR
  obtain ⟨w0, w1, w2, w3, w4⟩ := hW
  obtain ⟨hK, hH, hM, hF⟩ := hf p hp
  have a0 := w2 p hp
  have k1 := kl_hgt (h := s (15 + 4 * p)) (f := s (17 + 4 * p)) (by omega) (by omega)
  unfold fX2_countedHeight t_hgt
  by_cases c1 : s (17 + 4 * p) = 0
  · rw [c1] at k1 hF ⊢
    simp (disch := first | omega | assumption) only [kk_nm, Option.bind_some, kl_0, kl_1, kl_2, kl_3, kl_4, kl_5, kl_6, kl_7, kl_8, kl_9, kl_10, kl_12, kl_14, kl_15, kl_16, kl_20, kl_31, kl_33, kl_48, kl_49, kl_50, kl_57, kl_59, kl_60, kl_62, kl_63, kl_98, kl_99, kl_103, kl_104, kl_126, kl_144, kl_310, kl_372, kl_100000, kl_1000000, kl_neg, kl_mm, kl_am, nI_add, kl_mul, kl_sub, kl_le, kl_lt, kl_eq, kl_eM, kl_Me, kl_ltM, kl_leM, kl_ck, kl_cj, kl_cb, kl_bit, nI_clamp, va_up_self, va_up_ne, pk_us, pk_un, if_pos, if_neg, eq_self, and_true, true_and, and_false, false_and, if_true, if_false, Bool.false_eq_true, hH, hF]
    congr 2; omega
  · have c2 : s (17 + 4 * p) = 1 := by omega
    rw [c2] at k1 hF ⊢
    by_cases c3 : 10 ≤ s (15 + 4 * p) - 20
    · simp (disch := first | omega | assumption) only [kk_nm, Option.bind_some, kl_0, kl_1, kl_2, kl_3, kl_4, kl_5, kl_6, kl_7, kl_8, kl_9, kl_10, kl_12, kl_14, kl_15, kl_16, kl_20, kl_31, kl_33, kl_48, kl_49, kl_50, kl_57, kl_59, kl_60, kl_62, kl_63, kl_98, kl_99, kl_103, kl_104, kl_126, kl_144, kl_310, kl_372, kl_100000, kl_1000000, kl_neg, kl_mm, kl_am, nI_add, kl_mul, kl_sub, kl_le, kl_lt, kl_eq, kl_eM, kl_Me, kl_ltM, kl_leM, kl_ck, kl_cj, kl_cb, kl_bit, nI_clamp, va_up_self, va_up_ne, pk_us, pk_un, if_pos, if_neg, eq_self, and_true, true_and, and_false, false_and, if_true, if_false, Bool.false_eq_true, hH, hF]
      congr 2; omega
    · have k2 : (nI 10 ≤ nI (s (15 + 4 * p)) - nI 20) = False := by
        rw [Nat.mul_one] at k1
        rw [k1]; exact eq_false c3
      simp (disch := first | omega | assumption) only [kk_nm, Option.bind_some, kl_0, kl_1, kl_2, kl_3, kl_4, kl_5, kl_6, kl_7, kl_8, kl_9, kl_10, kl_12, kl_14, kl_15, kl_16, kl_20, kl_31, kl_33, kl_48, kl_49, kl_50, kl_57, kl_59, kl_60, kl_62, kl_63, kl_98, kl_99, kl_103, kl_104, kl_126, kl_144, kl_310, kl_372, kl_100000, kl_1000000, kl_neg, kl_mm, kl_am, nI_add, kl_mul, kl_sub, kl_le, kl_lt, kl_eq, kl_eM, kl_Me, kl_ltM, kl_leM, kl_ck, kl_cj, kl_cb, kl_bit, nI_clamp, va_up_self, va_up_ne, pk_us, pk_un, if_pos, if_neg, eq_self, and_true, true_and, and_false, false_and, if_true, if_false, Bool.false_eq_true, hH, hF, k2, if_false]
      congr 2; omega
def t_gh (s : Nat → Nat) : Nat → Nat
  | 0 => 0
  | k + 1 => max (t_gh s k) (t_hgt s k)
theorem t_gh_le {s : Nat → Nat} (h : WF s) : ∀ {k : Nat}, k ≤ s 4 → t_gh s k ≤ 99
  | 0, _ => Nat.zero_le _
  | k + 1, hk => by
    have h1 := t_gh_le h (k := k) (by omega)
    have h2 := t_hgt_le h (p := k) (by omega)
    show max _ _ ≤ _
    omega
theorem q2_greatestHeight (hn : 1000 ≤ n) (hR : RP P s) (hW : WF s) : fX2_greatestHeight n P = some (nI (t_gh s (s 4))) := by
  have w1 := hW.2.1
  have e : kk_it (fun (st : Int32 × Int32) => fX2_greatestHeight_b4 n P st.1 st.2) n (nI 0, nI 0) = some (nI (t_gh s (s 4))) := by
    refine kl_for (fun k => (nI (t_gh s k), nI k)) _ (s 4) (fun k hk => ?_) ?_ n 0 (by omega) (by omega)
    · have h1 := t_gh_le hW (k := k) (by omega)
      have h2 := t_hgt_le hW (p := k) (by omega)
      show fX2_greatestHeight_b4 n P (nI _) (nI _) = some (.inl (nI (max (t_gh s k) (t_hgt s k)), nI (k + 1)))
      unfold fX2_greatestHeight_b4
      rw [q2_countedHeight hR hW hk, hR.1]
      by_cases c : t_gh s k < t_hgt s k
      · rw [Nat.max_eq_right (by omega)]
        simp (disch := first | omega | assumption) only [kk_nm, Option.bind_some, kl_0, kl_1, kl_2, kl_3, kl_4, kl_5, kl_6, kl_7, kl_8, kl_9, kl_10, kl_12, kl_14, kl_15, kl_16, kl_20, kl_31, kl_33, kl_48, kl_49, kl_50, kl_57, kl_59, kl_60, kl_62, kl_63, kl_98, kl_99, kl_103, kl_104, kl_126, kl_144, kl_310, kl_372, kl_100000, kl_1000000, kl_neg, kl_mm, kl_am, nI_add, kl_mul, kl_sub, kl_le, kl_lt, kl_eq, kl_eM, kl_Me, kl_ltM, kl_leM, kl_ck, kl_cj, kl_cb, kl_bit, nI_clamp, va_up_self, va_up_ne, pk_us, pk_un, if_pos, if_neg, eq_self, and_true, true_and, and_false, false_and, if_true, if_false, Bool.false_eq_true]
      · rw [Nat.max_eq_left (by omega)]
        simp (disch := first | omega | assumption) only [kk_nm, Option.bind_some, kl_0, kl_1, kl_2, kl_3, kl_4, kl_5, kl_6, kl_7, kl_8, kl_9, kl_10, kl_12, kl_14, kl_15, kl_16, kl_20, kl_31, kl_33, kl_48, kl_49, kl_50, kl_57, kl_59, kl_60, kl_62, kl_63, kl_98, kl_99, kl_103, kl_104, kl_126, kl_144, kl_310, kl_372, kl_100000, kl_1000000, kl_neg, kl_mm, kl_am, nI_add, kl_mul, kl_sub, kl_le, kl_lt, kl_eq, kl_eM, kl_Me, kl_ltM, kl_leM, kl_ck, kl_cj, kl_cb, kl_bit, nI_clamp, va_up_self, va_up_ne, pk_us, pk_un, if_pos, if_neg, eq_self, and_true, true_and, and_false, false_and, if_true, if_false, Bool.false_eq_true]
    · show fX2_greatestHeight_b4 n P (nI _) (nI _) = some (.inr _)
      unfold fX2_greatestHeight_b4
      rw [hR.1]
      simp (disch := first | omega | assumption) only [kk_nm, Option.bind_some, kl_0, kl_1, kl_2, kl_3, kl_4, kl_5, kl_6, kl_7, kl_8, kl_9, kl_10, kl_12, kl_14, kl_15, kl_16, kl_20, kl_31, kl_33, kl_48, kl_49, kl_50, kl_57, kl_59, kl_60, kl_62, kl_63, kl_98, kl_99, kl_103, kl_104, kl_126, kl_144, kl_310, kl_372, kl_100000, kl_1000000, kl_neg, kl_mm, kl_am, nI_add, kl_mul, kl_sub, kl_le, kl_lt, kl_eq, kl_eM, kl_Me, kl_ltM, kl_leM, kl_ck, kl_cj, kl_cb, kl_bit, nI_clamp, va_up_self, va_up_ne, pk_us, pk_un, if_pos, if_neg, eq_self, and_true, true_and, and_false, false_and, if_true, if_false, Bool.false_eq_true]
  unfold fX2_greatestHeight
  simp (disch := first | omega | assumption) only [kk_nm, Option.bind_some, kl_0, kl_1, kl_2, kl_3, kl_4, kl_5, kl_6, kl_7, kl_8, kl_9, kl_10, kl_12, kl_14, kl_15, kl_16, kl_20, kl_31, kl_33, kl_48, kl_49, kl_50, kl_57, kl_59, kl_60, kl_62, kl_63, kl_98, kl_99, kl_103, kl_104, kl_126, kl_144, kl_310, kl_372, kl_100000, kl_1000000, kl_neg, kl_mm, kl_am, nI_add, kl_mul, kl_sub, kl_le, kl_lt, kl_eq, kl_eM, kl_Me, kl_ltM, kl_leM, kl_ck, kl_cj, kl_cb, kl_bit, nI_clamp, va_up_self, va_up_ne, pk_us, pk_un, if_pos, if_neg, eq_self, and_true, true_and, and_false, false_and, if_true, if_false, Bool.false_eq_true, e]
theorem q2_isLowered {b : Nat} (hR : RP P s) (hW : WF s) (hp : p < s 4) (hb : b < s 5) : fX2_isLowered n P (nI p) (nI b) = some (nI (t_low s p b)) := by
  have w1 := hW.2.1
  have h1 := t_hgt_le hW hp
  have h2 := (hR.2.2.2.1 b hb).2
  have h3 := hW.2.2.2.1 b hb
  unfold fX2_isLowered t_low
  rw [q2_countedHeight hR hW hp]
  by_cases c : s (7 + 2 * b) < t_hgt s p
  · simp (disch := first | omega | assumption) only [kk_nm, Option.bind_some, kl_0, kl_1, kl_2, kl_3, kl_4, kl_5, kl_6, kl_7, kl_8, kl_9, kl_10, kl_12, kl_14, kl_15, kl_16, kl_20, kl_31, kl_33, kl_48, kl_49, kl_50, kl_57, kl_59, kl_60, kl_62, kl_63, kl_98, kl_99, kl_103, kl_104, kl_126, kl_144, kl_310, kl_372, kl_100000, kl_1000000, kl_neg, kl_mm, kl_am, nI_add, kl_mul, kl_sub, kl_le, kl_lt, kl_eq, kl_eM, kl_Me, kl_ltM, kl_leM, kl_ck, kl_cj, kl_cb, kl_bit, nI_clamp, va_up_self, va_up_ne, pk_us, pk_un, if_pos, if_neg, eq_self, and_true, true_and, and_false, false_and, if_true, if_false, Bool.false_eq_true, h2]
  · simp (disch := first | omega | assumption) only [kk_nm, Option.bind_some, kl_0, kl_1, kl_2, kl_3, kl_4, kl_5, kl_6, kl_7, kl_8, kl_9, kl_10, kl_12, kl_14, kl_15, kl_16, kl_20, kl_31, kl_33, kl_48, kl_49, kl_50, kl_57, kl_59, kl_60, kl_62, kl_63, kl_98, kl_99, kl_103, kl_104, kl_126, kl_144, kl_310, kl_372, kl_100000, kl_1000000, kl_neg, kl_mm, kl_am, nI_add, kl_mul, kl_sub, kl_le, kl_lt, kl_eq, kl_eM, kl_Me, kl_ltM, kl_leM, kl_ck, kl_cj, kl_cb, kl_bit, nI_clamp, va_up_self, va_up_ne, pk_us, pk_un, if_pos, if_neg, eq_self, and_true, true_and, and_false, false_and, if_true, if_false, Bool.false_eq_true, h2]
def t_nl (s : Nat → Nat) (p : Nat) : Nat := sm (t_low s p) (s 5)
def t_nb (s : Nat → Nat) (b : Nat) : Nat := sm (fun p => t_low s p b) (s 4)
theorem q2_bridgesThatLower (hn : 1000 ≤ n) (hR : RP P s) (hW : WF s) (hp : p < s 4) : fX2_bridgesThatLower n P (nI p) = some (nI (t_nl s p)) := by
  have w1 := hW.2.1
  have e : kk_it (fun (st : Int32 × Int32) => fX2_bridgesThatLower_b4 n P (nI p) st.1 st.2) n (nI 0, nI 0) = some (nI (t_nl s p)) := by
    refine kl_for (fun k => (nI (sm (t_low s p) k), nI k)) _ (s 5) (fun k hk => ?_) ?_ n 0 (by omega) (by omega)
    · show fX2_bridgesThatLower_b4 n P (nI _) (nI _) (nI _) = some (.inl (nI (sm (t_low s p) k + t_low s p k), nI (k + 1)))
      have h1 := t_low_le s p k
      unfold fX2_bridgesThatLower_b4
      rw [q2_isLowered hR hW hp hk, hR.2.1]
      by_cases c : t_low s p k = 0
      · rw [c]; simp (disch := first | omega | assumption) only [kk_nm, Option.bind_some, kl_0, kl_1, kl_2, kl_3, kl_4, kl_5, kl_6, kl_7, kl_8, kl_9, kl_10, kl_12, kl_14, kl_15, kl_16, kl_20, kl_31, kl_33, kl_48, kl_49, kl_50, kl_57, kl_59, kl_60, kl_62, kl_63, kl_98, kl_99, kl_103, kl_104, kl_126, kl_144, kl_310, kl_372, kl_100000, kl_1000000, kl_neg, kl_mm, kl_am, nI_add, kl_mul, kl_sub, kl_le, kl_lt, kl_eq, kl_eM, kl_Me, kl_ltM, kl_leM, kl_ck, kl_cj, kl_cb, kl_bit, nI_clamp, va_up_self, va_up_ne, pk_us, pk_un, if_pos, if_neg, eq_self, and_true, true_and, and_false, false_and, if_true, if_false, Bool.false_eq_true, Nat.add_zero]
      · have c2 : t_low s p k = 1 := by omega
        rw [c2]; simp (disch := first | omega | assumption) only [kk_nm, Option.bind_some, kl_0, kl_1, kl_2, kl_3, kl_4, kl_5, kl_6, kl_7, kl_8, kl_9, kl_10, kl_12, kl_14, kl_15, kl_16, kl_20, kl_31, kl_33, kl_48, kl_49, kl_50, kl_57, kl_59, kl_60, kl_62, kl_63, kl_98, kl_99, kl_103, kl_104, kl_126, kl_144, kl_310, kl_372, kl_100000, kl_1000000, kl_neg, kl_mm, kl_am, nI_add, kl_mul, kl_sub, kl_le, kl_lt, kl_eq, kl_eM, kl_Me, kl_ltM, kl_leM, kl_ck, kl_cj, kl_cb, kl_bit, nI_clamp, va_up_self, va_up_ne, pk_us, pk_un, if_pos, if_neg, eq_self, and_true, true_and, and_false, false_and, if_true, if_false, Bool.false_eq_true]
    · show fX2_bridgesThatLower_b4 n P (nI _) (nI _) (nI _) = some (.inr _)
      unfold fX2_bridgesThatLower_b4
      rw [hR.2.1]
      simp (disch := first | omega | assumption) only [kk_nm, Option.bind_some, kl_0, kl_1, kl_2, kl_3, kl_4, kl_5, kl_6, kl_7, kl_8, kl_9, kl_10, kl_12, kl_14, kl_15, kl_16, kl_20, kl_31, kl_33, kl_48, kl_49, kl_50, kl_57, kl_59, kl_60, kl_62, kl_63, kl_98, kl_99, kl_103, kl_104, kl_126, kl_144, kl_310, kl_372, kl_100000, kl_1000000, kl_neg, kl_mm, kl_am, nI_add, kl_mul, kl_sub, kl_le, kl_lt, kl_eq, kl_eM, kl_Me, kl_ltM, kl_leM, kl_ck, kl_cj, kl_cb, kl_bit, nI_clamp, va_up_self, va_up_ne, pk_us, pk_un, if_pos, if_neg, eq_self, and_true, true_and, and_false, false_and, if_true, if_false, Bool.false_eq_true]
      rfl
  unfold fX2_bridgesThatLower
  simp (disch := first | omega | assumption) only [kk_nm, Option.bind_some, kl_0, kl_1, kl_2, kl_3, kl_4, kl_5, kl_6, kl_7, kl_8, kl_9, kl_10, kl_12, kl_14, kl_15, kl_16, kl_20, kl_31, kl_33, kl_48, kl_49, kl_50, kl_57, kl_59, kl_60, kl_62, kl_63, kl_98, kl_99, kl_103, kl_104, kl_126, kl_144, kl_310, kl_372, kl_100000, kl_1000000, kl_neg, kl_mm, kl_am, nI_add, kl_mul, kl_sub, kl_le, kl_lt, kl_eq, kl_eM, kl_Me, kl_ltM, kl_leM, kl_ck, kl_cj, kl_cb, kl_bit, nI_clamp, va_up_self, va_up_ne, pk_us, pk_un, if_pos, if_neg, eq_self, and_true, true_and, and_false, false_and, if_true, if_false, Bool.false_eq_true, e]
theorem q2_floatsLoweredAt {b : Nat} (hn : 1000 ≤ n) (hR : RP P s) (hW : WF s) (hb : b < s 5) : fX2_floatsLoweredAt n P (nI b) = some (nI (t_nb s b)) := by
  have w1 := hW.2.1
  have e : kk_it (fun (st : Int32 × Int32) => fX2_floatsLoweredAt_b4 n P (nI b) st.1 st.2) n (nI 0, nI 0) = some (nI (t_nb s b)) := by
    refine kl_for (fun k => (nI (sm (fun p => t_low s p b) k), nI k)) _ (s 4) (fun k hk => ?_) ?_ n 0 (by omega) (by omega)
    · show fX2_floatsLoweredAt_b4 n P (nI _) (nI _) (nI _) = some (.inl (nI (sm (fun p => t_low s p b) k + t_low s k b), nI (k + 1)))
      have h1 := t_low_le s k b
      unfold fX2_floatsLoweredAt_b4
      rw [q2_isLowered hR hW hk hb, hR.1]
      by_cases c : t_low s k b = 0
      · rw [c]; simp (disch := first | omega | assumption) only [kk_nm, Option.bind_some, kl_0, kl_1, kl_2, kl_3, kl_4, kl_5, kl_6, kl_7, kl_8, kl_9, kl_10, kl_12, kl_14, kl_15, kl_16, kl_20, kl_31, kl_33, kl_48, kl_49, kl_50, kl_57, kl_59, kl_60, kl_62, kl_63, kl_98, kl_99, kl_103, kl_104, kl_126, kl_144, kl_310, kl_372, kl_100000, kl_1000000, kl_neg, kl_mm, kl_am, nI_add, kl_mul, kl_sub, kl_le, kl_lt, kl_eq, kl_eM, kl_Me, kl_ltM, kl_leM, kl_ck, kl_cj, kl_cb, kl_bit, nI_clamp, va_up_self, va_up_ne, pk_us, pk_un, if_pos, if_neg, eq_self, and_true, true_and, and_false, false_and, if_true, if_false, Bool.false_eq_true, Nat.add_zero]
      · have c2 : t_low s k b = 1 := by omega
        rw [c2]; simp (disch := first | omega | assumption) only [kk_nm, Option.bind_some, kl_0, kl_1, kl_2, kl_3, kl_4, kl_5, kl_6, kl_7, kl_8, kl_9, kl_10, kl_12, kl_14, kl_15, kl_16, kl_20, kl_31, kl_33, kl_48, kl_49, kl_50, kl_57, kl_59, kl_60, kl_62, kl_63, kl_98, kl_99, kl_103, kl_104, kl_126, kl_144, kl_310, kl_372, kl_100000, kl_1000000, kl_neg, kl_mm, kl_am, nI_add, kl_mul, kl_sub, kl_le, kl_lt, kl_eq, kl_eM, kl_Me, kl_ltM, kl_leM, kl_ck, kl_cj, kl_cb, kl_bit, nI_clamp, va_up_self, va_up_ne, pk_us, pk_un, if_pos, if_neg, eq_self, and_true, true_and, and_false, false_and, if_true, if_false, Bool.false_eq_true]
    · show fX2_floatsLoweredAt_b4 n P (nI _) (nI _) (nI _) = some (.inr _)
      unfold fX2_floatsLoweredAt_b4
      rw [hR.1]
      simp (disch := first | omega | assumption) only [kk_nm, Option.bind_some, kl_0, kl_1, kl_2, kl_3, kl_4, kl_5, kl_6, kl_7, kl_8, kl_9, kl_10, kl_12, kl_14, kl_15, kl_16, kl_20, kl_31, kl_33, kl_48, kl_49, kl_50, kl_57, kl_59, kl_60, kl_62, kl_63, kl_98, kl_99, kl_103, kl_104, kl_126, kl_144, kl_310, kl_372, kl_100000, kl_1000000, kl_neg, kl_mm, kl_am, nI_add, kl_mul, kl_sub, kl_le, kl_lt, kl_eq, kl_eM, kl_Me, kl_ltM, kl_leM, kl_ck, kl_cj, kl_cb, kl_bit, nI_clamp, va_up_self, va_up_ne, pk_us, pk_un, if_pos, if_neg, eq_self, and_true, true_and, and_false, false_and, if_true, if_false, Bool.false_eq_true]
      rfl
  unfold fX2_floatsLoweredAt
  simp (disch := first | omega | assumption) only [kk_nm, Option.bind_some, kl_0, kl_1, kl_2, kl_3, kl_4, kl_5, kl_6, kl_7, kl_8, kl_9, kl_10, kl_12, kl_14, kl_15, kl_16, kl_20, kl_31, kl_33, kl_48, kl_49, kl_50, kl_57, kl_59, kl_60, kl_62, kl_63, kl_98, kl_99, kl_103, kl_104, kl_126, kl_144, kl_310, kl_372, kl_100000, kl_1000000, kl_neg, kl_mm, kl_am, nI_add, kl_mul, kl_sub, kl_le, kl_lt, kl_eq, kl_eM, kl_Me, kl_ltM, kl_leM, kl_ck, kl_cj, kl_cb, kl_bit, nI_clamp, va_up_self, va_up_ne, pk_us, pk_un, if_pos, if_neg, eq_self, and_true, true_and, and_false, false_and, if_true, if_false, Bool.false_eq_true, e]
def t_lwd (s : Nat → Nat) (p : Nat) : Nat := if t_nl s p = 0 then 0 else 1
theorem t_nl_le (s : Nat → Nat) (p : Nat) : t_nl s p ≤ s 5 := by
  have := sm_le (f := t_low s p) (c := 1) (n := s 5) (fun i _ => t_low_le s p i)
  unfold t_nl
  omega
theorem q2_loweredFloats (hn : 1000 ≤ n) (hR : RP P s) (hW : WF s) : fX2_loweredFloats n P = some (nI (sm (t_lwd s) (s 4))) := by
  have w1 := hW.2.1
  have e : kk_it (fun (st : Int32 × Int32) => fX2_loweredFloats_b4 n P st.1 st.2) n (nI 0, nI 0) = some (nI (sm (t_lwd s) (s 4))) := by
    refine kl_for (fun k => (nI (sm (t_lwd s) k), nI k)) _ (s 4) (fun k hk => ?_) ?_ n 0 (by omega) (by omega)
    · show fX2_loweredFloats_b4 n P (nI _) (nI _) = some (.inl (nI (sm (t_lwd s) k + t_lwd s k), nI (k + 1)))
      have h1 := t_nl_le s k
      unfold fX2_loweredFloats_b4 t_lwd
      rw [q2_bridgesThatLower hn hR hW hk, hR.1]
      by_cases c : t_nl s k = 0
      · simp (disch := first | omega | assumption) only [kk_nm, Option.bind_some, kl_0, kl_1, kl_2, kl_3, kl_4, kl_5, kl_6, kl_7, kl_8, kl_9, kl_10, kl_12, kl_14, kl_15, kl_16, kl_20, kl_31, kl_33, kl_48, kl_49, kl_50, kl_57, kl_59, kl_60, kl_62, kl_63, kl_98, kl_99, kl_103, kl_104, kl_126, kl_144, kl_310, kl_372, kl_100000, kl_1000000, kl_neg, kl_mm, kl_am, nI_add, kl_mul, kl_sub, kl_le, kl_lt, kl_eq, kl_eM, kl_Me, kl_ltM, kl_leM, kl_ck, kl_cj, kl_cb, kl_bit, nI_clamp, va_up_self, va_up_ne, pk_us, pk_un, if_pos, if_neg, eq_self, and_true, true_and, and_false, false_and, if_true, if_false, Bool.false_eq_true, Nat.add_zero]
      · simp (disch := first | omega | assumption) only [kk_nm, Option.bind_some, kl_0, kl_1, kl_2, kl_3, kl_4, kl_5, kl_6, kl_7, kl_8, kl_9, kl_10, kl_12, kl_14, kl_15, kl_16, kl_20, kl_31, kl_33, kl_48, kl_49, kl_50, kl_57, kl_59, kl_60, kl_62, kl_63, kl_98, kl_99, kl_103, kl_104, kl_126, kl_144, kl_310, kl_372, kl_100000, kl_1000000, kl_neg, kl_mm, kl_am, nI_add, kl_mul, kl_sub, kl_le, kl_lt, kl_eq, kl_eM, kl_Me, kl_ltM, kl_leM, kl_ck, kl_cj, kl_cb, kl_bit, nI_clamp, va_up_self, va_up_ne, pk_us, pk_un, if_pos, if_neg, eq_self, and_true, true_and, and_false, false_and, if_true, if_false, Bool.false_eq_true]
    · show fX2_loweredFloats_b4 n P (nI _) (nI _) = some (.inr _)
      unfold fX2_loweredFloats_b4
      rw [hR.1]
      simp (disch := first | omega | assumption) only [kk_nm, Option.bind_some, kl_0, kl_1, kl_2, kl_3, kl_4, kl_5, kl_6, kl_7, kl_8, kl_9, kl_10, kl_12, kl_14, kl_15, kl_16, kl_20, kl_31, kl_33, kl_48, kl_49, kl_50, kl_57, kl_59, kl_60, kl_62, kl_63, kl_98, kl_99, kl_103, kl_104, kl_126, kl_144, kl_310, kl_372, kl_100000, kl_1000000, kl_neg, kl_mm, kl_am, nI_add, kl_mul, kl_sub, kl_le, kl_lt, kl_eq, kl_eM, kl_Me, kl_ltM, kl_leM, kl_ck, kl_cj, kl_cb, kl_bit, nI_clamp, va_up_self, va_up_ne, pk_us, pk_un, if_pos, if_neg, eq_self, and_true, true_and, and_false, false_and, if_true, if_false, Bool.false_eq_true]
  unfold fX2_loweredFloats
  simp (disch := first | omega | assumption) only [kk_nm, Option.bind_some, kl_0, kl_1, kl_2, kl_3, kl_4, kl_5, kl_6, kl_7, kl_8, kl_9, kl_10, kl_12, kl_14, kl_15, kl_16, kl_20, kl_31, kl_33, kl_48, kl_49, kl_50, kl_57, kl_59, kl_60, kl_62, kl_63, kl_98, kl_99, kl_103, kl_104, kl_126, kl_144, kl_310, kl_372, kl_100000, kl_1000000, kl_neg, kl_mm, kl_am, nI_add, kl_mul, kl_sub, kl_le, kl_lt, kl_eq, kl_eM, kl_Me, kl_ltM, kl_leM, kl_ck, kl_cj, kl_cb, kl_bit, nI_clamp, va_up_self, va_up_ne, pk_us, pk_un, if_pos, if_neg, eq_self, and_true, true_and, and_false, false_and, if_true, if_false, Bool.false_eq_true, e]
def t_bp (s : Nat → Nat) (b k : Nat) : Nat := if k = 0 then s (6 + 2 * b) else if k = 1 then s (7 + 2 * b) else t_nb s b
theorem q2_bridgeProperty {b k : Nat} (hk : k < 3) (hn : 1000 ≤ n) (hR : RP P s) (hW : WF s) (hb : b < s 5) : fX2_bridgeProperty n P (nI b) (nI k) = some (nI (t_bp s b k)) := by
  have w1 := hW.2.1
  obtain ⟨h1, h2⟩ := hR.2.2.2.1 b hb
  unfold fX2_bridgeProperty t_bp
  rw [q2_floatsLoweredAt hn hR hW hb]
  by_cases c1 : k = 0
  · simp (disch := first | omega | assumption) only [kk_nm, Option.bind_some, kl_0, kl_1, kl_2, kl_3, kl_4, kl_5, kl_6, kl_7, kl_8, kl_9, kl_10, kl_12, kl_14, kl_15, kl_16, kl_20, kl_31, kl_33, kl_48, kl_49, kl_50, kl_57, kl_59, kl_60, kl_62, kl_63, kl_98, kl_99, kl_103, kl_104, kl_126, kl_144, kl_310, kl_372, kl_100000, kl_1000000, kl_neg, kl_mm, kl_am, nI_add, kl_mul, kl_sub, kl_le, kl_lt, kl_eq, kl_eM, kl_Me, kl_ltM, kl_leM, kl_ck, kl_cj, kl_cb, kl_bit, nI_clamp, va_up_self, va_up_ne, pk_us, pk_un, if_pos, if_neg, eq_self, and_true, true_and, and_false, false_and, if_true, if_false, Bool.false_eq_true, h1]
  · by_cases c2 : k = 1
    · simp (disch := first | omega | assumption) only [kk_nm, Option.bind_some, kl_0, kl_1, kl_2, kl_3, kl_4, kl_5, kl_6, kl_7, kl_8, kl_9, kl_10, kl_12, kl_14, kl_15, kl_16, kl_20, kl_31, kl_33, kl_48, kl_49, kl_50, kl_57, kl_59, kl_60, kl_62, kl_63, kl_98, kl_99, kl_103, kl_104, kl_126, kl_144, kl_310, kl_372, kl_100000, kl_1000000, kl_neg, kl_mm, kl_am, nI_add, kl_mul, kl_sub, kl_le, kl_lt, kl_eq, kl_eM, kl_Me, kl_ltM, kl_leM, kl_ck, kl_cj, kl_cb, kl_bit, nI_clamp, va_up_self, va_up_ne, pk_us, pk_un, if_pos, if_neg, eq_self, and_true, true_and, and_false, false_and, if_true, if_false, Bool.false_eq_true, h2]
    · simp (disch := first | omega | assumption) only [kk_nm, Option.bind_some, kl_0, kl_1, kl_2, kl_3, kl_4, kl_5, kl_6, kl_7, kl_8, kl_9, kl_10, kl_12, kl_14, kl_15, kl_16, kl_20, kl_31, kl_33, kl_48, kl_49, kl_50, kl_57, kl_59, kl_60, kl_62, kl_63, kl_98, kl_99, kl_103, kl_104, kl_126, kl_144, kl_310, kl_372, kl_100000, kl_1000000, kl_neg, kl_mm, kl_am, nI_add, kl_mul, kl_sub, kl_le, kl_lt, kl_eq, kl_eM, kl_Me, kl_ltM, kl_leM, kl_ck, kl_cj, kl_cb, kl_bit, nI_clamp, va_up_self, va_up_ne, pk_us, pk_un, if_pos, if_neg, eq_self, and_true, true_and, and_false, false_and, if_true, if_false, Bool.false_eq_true]
def t_fp (s : Nat → Nat) (p k : Nat) : Nat := if k = 0 then s (14 + 4 * p) else if k = 1 then s (15 + 4 * p) else if k = 2 then s (16 + 4 * p) else if k = 3 then s (17 + 4 * p) else if k = 4 then t_hgt s p else if k = 5 then t_nl s p else t_at s p
theorem q2_floatProperty {k : Nat} (hk : k < 7) (hn : 1000 ≤ n) (hR : RP P s) (hW : WF s) (hp : p < s 4) : fX2_floatProperty n P (nI p) (nI k) = some (nI (t_fp s p k)) := by
  have w1 := hW.2.1
  obtain ⟨h1, h2, h3, h4⟩ := hR.2.2.1 p hp
  have a0 := hW.2.2.1 p hp
  unfold fX2_floatProperty t_fp
  rw [q2_countedHeight hR hW hp, q2_bridgesThatLower hn hR hW hp, q2_troubleAt hn hR hW hp]
  rcases (by omega : k = 0 ∨ k = 1 ∨ k = 2 ∨ k = 3 ∨ k = 4 ∨ k = 5 ∨ k = 6) with c | c | c | c | c | c | c
  · simp (disch := first | omega | assumption) only [kk_nm, Option.bind_some, kl_0, kl_1, kl_2, kl_3, kl_4, kl_5, kl_6, kl_7, kl_8, kl_9, kl_10, kl_12, kl_14, kl_15, kl_16, kl_20, kl_31, kl_33, kl_48, kl_49, kl_50, kl_57, kl_59, kl_60, kl_62, kl_63, kl_98, kl_99, kl_103, kl_104, kl_126, kl_144, kl_310, kl_372, kl_100000, kl_1000000, kl_neg, kl_mm, kl_am, nI_add, kl_mul, kl_sub, kl_le, kl_lt, kl_eq, kl_eM, kl_Me, kl_ltM, kl_leM, kl_ck, kl_cj, kl_cb, kl_bit, nI_clamp, va_up_self, va_up_ne, pk_us, pk_un, if_pos, if_neg, eq_self, and_true, true_and, and_false, false_and, if_true, if_false, Bool.false_eq_true, h1]
  · simp (disch := first | omega | assumption) only [kk_nm, Option.bind_some, kl_0, kl_1, kl_2, kl_3, kl_4, kl_5, kl_6, kl_7, kl_8, kl_9, kl_10, kl_12, kl_14, kl_15, kl_16, kl_20, kl_31, kl_33, kl_48, kl_49, kl_50, kl_57, kl_59, kl_60, kl_62, kl_63, kl_98, kl_99, kl_103, kl_104, kl_126, kl_144, kl_310, kl_372, kl_100000, kl_1000000, kl_neg, kl_mm, kl_am, nI_add, kl_mul, kl_sub, kl_le, kl_lt, kl_eq, kl_eM, kl_Me, kl_ltM, kl_leM, kl_ck, kl_cj, kl_cb, kl_bit, nI_clamp, va_up_self, va_up_ne, pk_us, pk_un, if_pos, if_neg, eq_self, and_true, true_and, and_false, false_and, if_true, if_false, Bool.false_eq_true, h2]
  · simp (disch := first | omega | assumption) only [kk_nm, Option.bind_some, kl_0, kl_1, kl_2, kl_3, kl_4, kl_5, kl_6, kl_7, kl_8, kl_9, kl_10, kl_12, kl_14, kl_15, kl_16, kl_20, kl_31, kl_33, kl_48, kl_49, kl_50, kl_57, kl_59, kl_60, kl_62, kl_63, kl_98, kl_99, kl_103, kl_104, kl_126, kl_144, kl_310, kl_372, kl_100000, kl_1000000, kl_neg, kl_mm, kl_am, nI_add, kl_mul, kl_sub, kl_le, kl_lt, kl_eq, kl_eM, kl_Me, kl_ltM, kl_leM, kl_ck, kl_cj, kl_cb, kl_bit, nI_clamp, va_up_self, va_up_ne, pk_us, pk_un, if_pos, if_neg, eq_self, and_true, true_and, and_false, false_and, if_true, if_false, Bool.false_eq_true, h3]
  · by_cases c4 : s (17 + 4 * p) = 0
    · simp (disch := first | omega | assumption) only [kk_nm, Option.bind_some, kl_0, kl_1, kl_2, kl_3, kl_4, kl_5, kl_6, kl_7, kl_8, kl_9, kl_10, kl_12, kl_14, kl_15, kl_16, kl_20, kl_31, kl_33, kl_48, kl_49, kl_50, kl_57, kl_59, kl_60, kl_62, kl_63, kl_98, kl_99, kl_103, kl_104, kl_126, kl_144, kl_310, kl_372, kl_100000, kl_1000000, kl_neg, kl_mm, kl_am, nI_add, kl_mul, kl_sub, kl_le, kl_lt, kl_eq, kl_eM, kl_Me, kl_ltM, kl_leM, kl_ck, kl_cj, kl_cb, kl_bit, nI_clamp, va_up_self, va_up_ne, pk_us, pk_un, if_pos, if_neg, eq_self, and_true, true_and, and_false, false_and, if_true, if_false, Bool.false_eq_true, h4, c4]
    · have c5 : s (17 + 4 * p) = 1 := by omega
      rw [c5] at h4
      simp (disch := first | omega | assumption) only [kk_nm, Option.bind_some, kl_0, kl_1, kl_2, kl_3, kl_4, kl_5, kl_6, kl_7, kl_8, kl_9, kl_10, kl_12, kl_14, kl_15, kl_16, kl_20, kl_31, kl_33, kl_48, kl_49, kl_50, kl_57, kl_59, kl_60, kl_62, kl_63, kl_98, kl_99, kl_103, kl_104, kl_126, kl_144, kl_310, kl_372, kl_100000, kl_1000000, kl_neg, kl_mm, kl_am, nI_add, kl_mul, kl_sub, kl_le, kl_lt, kl_eq, kl_eM, kl_Me, kl_ltM, kl_leM, kl_ck, kl_cj, kl_cb, kl_bit, nI_clamp, va_up_self, va_up_ne, pk_us, pk_un, if_pos, if_neg, eq_self, and_true, true_and, and_false, false_and, if_true, if_false, Bool.false_eq_true, h4, c5]
  · simp (disch := first | omega | assumption) only [kk_nm, Option.bind_some, kl_0, kl_1, kl_2, kl_3, kl_4, kl_5, kl_6, kl_7, kl_8, kl_9, kl_10, kl_12, kl_14, kl_15, kl_16, kl_20, kl_31, kl_33, kl_48, kl_49, kl_50, kl_57, kl_59, kl_60, kl_62, kl_63, kl_98, kl_99, kl_103, kl_104, kl_126, kl_144, kl_310, kl_372, kl_100000, kl_1000000, kl_neg, kl_mm, kl_am, nI_add, kl_mul, kl_sub, kl_le, kl_lt, kl_eq, kl_eM, kl_Me, kl_ltM, kl_leM, kl_ck, kl_cj, kl_cb, kl_bit, nI_clamp, va_up_self, va_up_ne, pk_us, pk_un, if_pos, if_neg, eq_self, and_true, true_and, and_false, false_and, if_true, if_false, Bool.false_eq_true]
  · simp (disch := first | omega | assumption) only [kk_nm, Option.bind_some, kl_0, kl_1, kl_2, kl_3, kl_4, kl_5, kl_6, kl_7, kl_8, kl_9, kl_10, kl_12, kl_14, kl_15, kl_16, kl_20, kl_31, kl_33, kl_48, kl_49, kl_50, kl_57, kl_59, kl_60, kl_62, kl_63, kl_98, kl_99, kl_103, kl_104, kl_126, kl_144, kl_310, kl_372, kl_100000, kl_1000000, kl_neg, kl_mm, kl_am, nI_add, kl_mul, kl_sub, kl_le, kl_lt, kl_eq, kl_eM, kl_Me, kl_ltM, kl_leM, kl_ck, kl_cj, kl_cb, kl_bit, nI_clamp, va_up_self, va_up_ne, pk_us, pk_un, if_pos, if_neg, eq_self, and_true, true_and, and_false, false_and, if_true, if_false, Bool.false_eq_true]
  · simp (disch := first | omega | assumption) only [kk_nm, Option.bind_some, kl_0, kl_1, kl_2, kl_3, kl_4, kl_5, kl_6, kl_7, kl_8, kl_9, kl_10, kl_12, kl_14, kl_15, kl_16, kl_20, kl_31, kl_33, kl_48, kl_49, kl_50, kl_57, kl_59, kl_60, kl_62, kl_63, kl_98, kl_99, kl_103, kl_104, kl_126, kl_144, kl_310, kl_372, kl_100000, kl_1000000, kl_neg, kl_mm, kl_am, nI_add, kl_mul, kl_sub, kl_le, kl_lt, kl_eq, kl_eM, kl_Me, kl_ltM, kl_leM, kl_ck, kl_cj, kl_cb, kl_bit, nI_clamp, va_up_self, va_up_ne, pk_us, pk_un, if_pos, if_neg, eq_self, and_true, true_and, and_false, false_and, if_true, if_false, Bool.false_eq_true]
/-- whether a bridge stands so far -/
def t_hb (s : Nat → Nat) (d : Nat) : Nat → Nat
  | 0 => 0
  | b + 1 => if t_hb s d b = 1 ∨ s (6 + 2 * b) = d then 1 else 0
theorem t_hb_le (s : Nat → Nat) (d : Nat) : ∀ b, t_hb s d b ≤ 1
  | 0 => Nat.zero_le _
  | b + 1 => by unfold t_hb; split <;> omega
theorem t_hb_up (s : Nat → Nat) (d : Nat) {a : Nat} (h : t_hb s d a = 1) : ∀ b, a ≤ b → t_hb s d b = 1
  | 0, h0 => by
    have : a = 0 := by omega
    rw [this] at h; exact h
  | b + 1, h0 => by
    by_cases e : a = b + 1
    · rw [e] at h; exact h
    · unfold t_hb
      rw [if_pos (.inl (t_hb_up s d h b (by omega)))]
theorem q2_hasBridgeAt {d : Nat} (hd : d ≤ 50) (hn : 1000 ≤ n) (hR : RP P s) (hW : WF s) : fX2_hasBridgeAt n P (nI d) = some (nI (t_hb s d (s 5))) := by
  have w1 := hW.2.1
  unfold fX2_hasBridgeAt
  obtain ⟨r, e, hr⟩ := kl_while (body := fun (st : Int32) => fX2_hasBridgeAt_b2 n P (nI d) st) (fun st => ∃ b, b ≤ s 5 ∧ st = nI b ∧ t_hb s d b = 0) (fun r => r = nI (t_hb s d (s 5))) (fun st => s 5 - st.toNatClampNeg) (fun st hI => by
    obtain ⟨b, hb, rfl, hz⟩ := hI
    by_cases c : b = s 5
    · right
      refine ⟨nI 0, ?_, by rw [← c, hz]⟩
      unfold fX2_hasBridgeAt_b2
      rw [hR.2.1]
      simp (disch := first | omega | assumption) only [kk_nm, Option.bind_some, kl_0, kl_1, kl_2, kl_3, kl_4, kl_5, kl_6, kl_7, kl_8, kl_9, kl_10, kl_12, kl_14, kl_15, kl_16, kl_20, kl_31, kl_33, kl_48, kl_49, kl_50, kl_57, kl_59, kl_60, kl_62, kl_63, kl_98, kl_99, kl_103, kl_104, kl_126, kl_144, kl_310, kl_372, kl_100000, kl_1000000, kl_neg, kl_mm, kl_am, nI_add, kl_mul, kl_sub, kl_le, kl_lt, kl_eq, kl_eM, kl_Me, kl_ltM, kl_leM, kl_ck, kl_cj, kl_cb, kl_bit, nI_clamp, va_up_self, va_up_ne, pk_us, pk_un, if_pos, if_neg, eq_self, and_true, true_and, and_false, false_and, if_true, if_false, Bool.false_eq_true]
    · obtain ⟨h1, h2⟩ := hR.2.2.2.1 b (by omega)
      have h3 := hW.2.2.2.1 b (by omega)
      by_cases c2 : s (6 + 2 * b) = d
      · right
        refine ⟨nI 1, ?_, ?_⟩
        · unfold fX2_hasBridgeAt_b2
          rw [hR.2.1]
          simp (disch := first | omega | assumption) only [kk_nm, Option.bind_some, kl_0, kl_1, kl_2, kl_3, kl_4, kl_5, kl_6, kl_7, kl_8, kl_9, kl_10, kl_12, kl_14, kl_15, kl_16, kl_20, kl_31, kl_33, kl_48, kl_49, kl_50, kl_57, kl_59, kl_60, kl_62, kl_63, kl_98, kl_99, kl_103, kl_104, kl_126, kl_144, kl_310, kl_372, kl_100000, kl_1000000, kl_neg, kl_mm, kl_am, nI_add, kl_mul, kl_sub, kl_le, kl_lt, kl_eq, kl_eM, kl_Me, kl_ltM, kl_leM, kl_ck, kl_cj, kl_cb, kl_bit, nI_clamp, va_up_self, va_up_ne, pk_us, pk_un, if_pos, if_neg, eq_self, and_true, true_and, and_false, false_and, if_true, if_false, Bool.false_eq_true, h1]
        · rw [t_hb_up s d (a := b + 1) (by unfold t_hb; rw [if_pos (.inr c2)]) (s 5) (by omega)]
      · left
        refine ⟨nI (b + 1), ?_, ⟨b + 1, by omega, rfl, ?_⟩, ?_⟩
        · unfold fX2_hasBridgeAt_b2
          rw [hR.2.1]
          simp (disch := first | omega | assumption) only [kk_nm, Option.bind_some, kl_0, kl_1, kl_2, kl_3, kl_4, kl_5, kl_6, kl_7, kl_8, kl_9, kl_10, kl_12, kl_14, kl_15, kl_16, kl_20, kl_31, kl_33, kl_48, kl_49, kl_50, kl_57, kl_59, kl_60, kl_62, kl_63, kl_98, kl_99, kl_103, kl_104, kl_126, kl_144, kl_310, kl_372, kl_100000, kl_1000000, kl_neg, kl_mm, kl_am, nI_add, kl_mul, kl_sub, kl_le, kl_lt, kl_eq, kl_eM, kl_Me, kl_ltM, kl_leM, kl_ck, kl_cj, kl_cb, kl_bit, nI_clamp, va_up_self, va_up_ne, pk_us, pk_un, if_pos, if_neg, eq_self, and_true, true_and, and_false, false_and, if_true, if_false, Bool.false_eq_true, h1]
        · unfold t_hb
          rw [if_neg (by omega)]
        · rw [nI_clamp (by omega), nI_clamp (by omega)]
          omega) n (nI 0) ⟨0, by omega, rfl, rfl⟩ (by rw [nI_clamp (by omega)]; omega)
  rw [← hr]
  exact e
end
