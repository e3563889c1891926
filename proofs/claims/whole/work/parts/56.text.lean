/-! reading the text: the reference -/
def nsm (t : Nat → Nat) (a : Nat) : Nat := sm (fun u => if t u = 59 then 1 else 0) a
theorem kl_Mle {a : Nat} (ha : a < 2147483648) : (kM ≤ nI a) = True := by
  refine eq_true ?_
  rw [Int32.le_iff_toInt_le, nI_toInt ha, kl_Mi]
  omega
theorem kl_MM : (kM ≤ kM) = True := eq_true (Int32.le_refl _)
theorem aK_59 {ch : Nat} (h : aK ch < 4) : ch ≠ 59 ∧ ch ≠ 33 := by
  refine ⟨fun e => ?_, fun e => ?_⟩
  · subst e; exact absurd h (by decide)
  · subst e; exact absurd h (by decide)
theorem nsm_succ (t : Nat → Nat) (a : Nat) : nsm t (a + 1) = nsm t a + if t a = 59 then 1 else 0 := rfl
theorem nsm_eq {t : Nat → Nat} {a p : Nat} (h : a ≤ p) (hn : ∀ u, a ≤ u → u < p → t u ≠ 59) : nsm t p = nsm t a :=
  sm_tail h (fun u h1 h2 => if_neg (hn u h1 h2))
section
variable {n : Nat} {M : St1} {t : Nat → Nat} {c a : Nat}
theorem q5_in {v x y : Nat} (hv : v < 2147483648) (hx : x < 2147483648) (hy : y < 2147483648) : fX5_in n (nI v) (nI x) (nI y) = some (nI (if x ≤ v ∧ v ≤ y then 1 else 0)) := by
  unfold fX5_in
  by_cases c1 : x ≤ v
  · by_cases c2 : v ≤ y
    · rw [if_pos (⟨c1, c2⟩ : x ≤ v ∧ v ≤ y)]
      simp (disch := first | omega | assumption) only [kk_nm, Option.bind_some, kl_0, kl_1, kl_2, kl_3, kl_4, kl_5, kl_6, kl_7, kl_8, kl_9, kl_10, kl_12, kl_14, kl_15, kl_16, kl_20, kl_31, kl_33, kl_48, kl_49, kl_50, kl_57, kl_59, kl_60, kl_62, kl_63, kl_98, kl_99, kl_103, kl_104, kl_126, kl_144, kl_310, kl_372, kl_100000, kl_1000000, kl_neg, kl_mm, kl_am, nI_add, kl_mul, kl_sub, kl_le, kl_lt, kl_eq, kl_eM, kl_Me, kl_ltM, kl_leM, kl_ck, kl_cj, kl_cb, kl_bit, nI_clamp, va_up_self, va_up_ne, pk_us, pk_un, if_pos, if_neg, eq_self, and_true, true_and, and_false, false_and, if_true, if_false, Bool.false_eq_true]
    · rw [if_neg (show ¬ (x ≤ v ∧ v ≤ y) by omega)]
      simp (disch := first | omega | assumption) only [kk_nm, Option.bind_some, kl_0, kl_1, kl_2, kl_3, kl_4, kl_5, kl_6, kl_7, kl_8, kl_9, kl_10, kl_12, kl_14, kl_15, kl_16, kl_20, kl_31, kl_33, kl_48, kl_49, kl_50, kl_57, kl_59, kl_60, kl_62, kl_63, kl_98, kl_99, kl_103, kl_104, kl_126, kl_144, kl_310, kl_372, kl_100000, kl_1000000, kl_neg, kl_mm, kl_am, nI_add, kl_mul, kl_sub, kl_le, kl_lt, kl_eq, kl_eM, kl_Me, kl_ltM, kl_leM, kl_ck, kl_cj, kl_cb, kl_bit, nI_clamp, va_up_self, va_up_ne, pk_us, pk_un, if_pos, if_neg, eq_self, and_true, true_and, and_false, false_and, if_true, if_false, Bool.false_eq_true]
  · rw [if_neg (show ¬ (x ≤ v ∧ v ≤ y) by omega)]
    simp (disch := first | omega | assumption) only [kk_nm, Option.bind_some, kl_0, kl_1, kl_2, kl_3, kl_4, kl_5, kl_6, kl_7, kl_8, kl_9, kl_10, kl_12, kl_14, kl_15, kl_16, kl_20, kl_31, kl_33, kl_48, kl_49, kl_50, kl_57, kl_59, kl_60, kl_62, kl_63, kl_98, kl_99, kl_103, kl_104, kl_126, kl_144, kl_310, kl_372, kl_100000, kl_1000000, kl_neg, kl_mm, kl_am, nI_add, kl_mul, kl_sub, kl_le, kl_lt, kl_eq, kl_eM, kl_Me, kl_ltM, kl_leM, kl_ck, kl_cj, kl_cb, kl_bit, nI_clamp, va_up_self, va_up_ne, pk_us, pk_un, if_pos, if_neg, eq_self, and_true, true_and, and_false, false_and, if_true, if_false, Bool.false_eq_true]
theorem q5_isAt {x y : Nat} (h5 : M 5 0 = nI c) (hc : c ≤ 60) (ht : ∀ k, k < c → M 4 k = nI (t k) ∧ t k < 128) (h7 : M 7 0 = nI a) (ha : a ≤ c) (hx : x < 128) (hy : y < 128) : fX5_isAt n M (nI x) (nI y) = some (nI (if a < c ∧ x ≤ t a ∧ t a ≤ y then 1 else 0)) := by
  unfold fX5_isAt
  by_cases c1 : a < c
  · obtain ⟨t1, t2⟩ := ht a c1
    have e := q5_in (n := n) (v := t a) (x := x) (y := y) (by omega) (by omega) (by omega)
    by_cases c2 : x ≤ t a ∧ t a ≤ y
    · rw [if_pos c2] at e
      rw [if_pos (show a < c ∧ x ≤ t a ∧ t a ≤ y from ⟨c1, c2⟩)]
      simp (disch := first | omega | assumption) only [kk_nm, Option.bind_some, kl_0, kl_1, kl_2, kl_3, kl_4, kl_5, kl_6, kl_7, kl_8, kl_9, kl_10, kl_12, kl_14, kl_15, kl_16, kl_20, kl_31, kl_33, kl_48, kl_49, kl_50, kl_57, kl_59, kl_60, kl_62, kl_63, kl_98, kl_99, kl_103, kl_104, kl_126, kl_144, kl_310, kl_372, kl_100000, kl_1000000, kl_neg, kl_mm, kl_am, nI_add, kl_mul, kl_sub, kl_le, kl_lt, kl_eq, kl_eM, kl_Me, kl_ltM, kl_leM, kl_ck, kl_cj, kl_cb, kl_bit, nI_clamp, va_up_self, va_up_ne, pk_us, pk_un, if_pos, if_neg, eq_self, and_true, true_and, and_false, false_and, if_true, if_false, Bool.false_eq_true, h5, h7, t1, e]
    · rw [if_neg c2] at e
      rw [if_neg (show ¬ (a < c ∧ x ≤ t a ∧ t a ≤ y) from fun h => c2 h.2)]
      simp (disch := first | omega | assumption) only [kk_nm, Option.bind_some, kl_0, kl_1, kl_2, kl_3, kl_4, kl_5, kl_6, kl_7, kl_8, kl_9, kl_10, kl_12, kl_14, kl_15, kl_16, kl_20, kl_31, kl_33, kl_48, kl_49, kl_50, kl_57, kl_59, kl_60, kl_62, kl_63, kl_98, kl_99, kl_103, kl_104, kl_126, kl_144, kl_310, kl_372, kl_100000, kl_1000000, kl_neg, kl_mm, kl_am, nI_add, kl_mul, kl_sub, kl_le, kl_lt, kl_eq, kl_eM, kl_Me, kl_ltM, kl_leM, kl_ck, kl_cj, kl_cb, kl_bit, nI_clamp, va_up_self, va_up_ne, pk_us, pk_un, if_pos, if_neg, eq_self, and_true, true_and, and_false, false_and, if_true, if_false, Bool.false_eq_true, h5, h7, t1, e]
  · rw [if_neg (show ¬ (a < c ∧ x ≤ t a ∧ t a ≤ y) from fun h => c1 h.1)]
    simp (disch := first | omega | assumption) only [kk_nm, Option.bind_some, kl_0, kl_1, kl_2, kl_3, kl_4, kl_5, kl_6, kl_7, kl_8, kl_9, kl_10, kl_12, kl_14, kl_15, kl_16, kl_20, kl_31, kl_33, kl_48, kl_49, kl_50, kl_57, kl_59, kl_60, kl_62, kl_63, kl_98, kl_99, kl_103, kl_104, kl_126, kl_144, kl_310, kl_372, kl_100000, kl_1000000, kl_neg, kl_mm, kl_am, nI_add, kl_mul, kl_sub, kl_le, kl_lt, kl_eq, kl_eM, kl_Me, kl_ltM, kl_leM, kl_ck, kl_cj, kl_cb, kl_bit, nI_clamp, va_up_self, va_up_ne, pk_us, pk_un, if_pos, if_neg, eq_self, and_true, true_and, and_false, false_and, if_true, if_false, Bool.false_eq_true, h5, h7]
def kAt (t : Nat → Nat) (c a : Nat) : Nat := if a < c then aK (t a) else 4
theorem q5_kindAt (h5 : M 5 0 = nI c) (hc : c ≤ 60) (ht : ∀ k, k < c → M 4 k = nI (t k) ∧ t k < 128) (h7 : M 7 0 = nI a) (ha : a ≤ c) : fX5_kindAt n M = some (if kAt t c a < 4 then nI (kAt t c a) else kM) := by
  unfold fX5_kindAt kAt
  by_cases c1 : a < c
  · obtain ⟨t1, t2⟩ := ht a c1
    rw [if_pos c1]
    unfold aK
    by_cases e1 : t a = 98
    · simp (disch := first | omega | assumption) only [kk_nm, Option.bind_some, kl_0, kl_1, kl_2, kl_3, kl_4, kl_5, kl_6, kl_7, kl_8, kl_9, kl_10, kl_12, kl_14, kl_15, kl_16, kl_20, kl_31, kl_33, kl_48, kl_49, kl_50, kl_57, kl_59, kl_60, kl_62, kl_63, kl_98, kl_99, kl_103, kl_104, kl_126, kl_144, kl_310, kl_372, kl_100000, kl_1000000, kl_neg, kl_mm, kl_am, nI_add, kl_mul, kl_sub, kl_le, kl_lt, kl_eq, kl_eM, kl_Me, kl_ltM, kl_leM, kl_ck, kl_cj, kl_cb, kl_bit, nI_clamp, va_up_self, va_up_ne, pk_us, pk_un, if_pos, if_neg, eq_self, and_true, true_and, and_false, false_and, if_true, if_false, Bool.false_eq_true, h5, h7, t1, e1]
    · by_cases e2 : t a = 99
      · simp (disch := first | omega | assumption) only [kk_nm, Option.bind_some, kl_0, kl_1, kl_2, kl_3, kl_4, kl_5, kl_6, kl_7, kl_8, kl_9, kl_10, kl_12, kl_14, kl_15, kl_16, kl_20, kl_31, kl_33, kl_48, kl_49, kl_50, kl_57, kl_59, kl_60, kl_62, kl_63, kl_98, kl_99, kl_103, kl_104, kl_126, kl_144, kl_310, kl_372, kl_100000, kl_1000000, kl_neg, kl_mm, kl_am, nI_add, kl_mul, kl_sub, kl_le, kl_lt, kl_eq, kl_eM, kl_Me, kl_ltM, kl_leM, kl_ck, kl_cj, kl_cb, kl_bit, nI_clamp, va_up_self, va_up_ne, pk_us, pk_un, if_pos, if_neg, eq_self, and_true, true_and, and_false, false_and, if_true, if_false, Bool.false_eq_true, h5, h7, t1, e1, e2]
      · by_cases e3 : t a = 103
        · simp (disch := first | omega | assumption) only [kk_nm, Option.bind_some, kl_0, kl_1, kl_2, kl_3, kl_4, kl_5, kl_6, kl_7, kl_8, kl_9, kl_10, kl_12, kl_14, kl_15, kl_16, kl_20, kl_31, kl_33, kl_48, kl_49, kl_50, kl_57, kl_59, kl_60, kl_62, kl_63, kl_98, kl_99, kl_103, kl_104, kl_126, kl_144, kl_310, kl_372, kl_100000, kl_1000000, kl_neg, kl_mm, kl_am, nI_add, kl_mul, kl_sub, kl_le, kl_lt, kl_eq, kl_eM, kl_Me, kl_ltM, kl_leM, kl_ck, kl_cj, kl_cb, kl_bit, nI_clamp, va_up_self, va_up_ne, pk_us, pk_un, if_pos, if_neg, eq_self, and_true, true_and, and_false, false_and, if_true, if_false, Bool.false_eq_true, h5, h7, t1, e1, e2, e3]
        · by_cases e4 : t a = 104
          · simp (disch := first | omega | assumption) only [kk_nm, Option.bind_some, kl_0, kl_1, kl_2, kl_3, kl_4, kl_5, kl_6, kl_7, kl_8, kl_9, kl_10, kl_12, kl_14, kl_15, kl_16, kl_20, kl_31, kl_33, kl_48, kl_49, kl_50, kl_57, kl_59, kl_60, kl_62, kl_63, kl_98, kl_99, kl_103, kl_104, kl_126, kl_144, kl_310, kl_372, kl_100000, kl_1000000, kl_neg, kl_mm, kl_am, nI_add, kl_mul, kl_sub, kl_le, kl_lt, kl_eq, kl_eM, kl_Me, kl_ltM, kl_leM, kl_ck, kl_cj, kl_cb, kl_bit, nI_clamp, va_up_self, va_up_ne, pk_us, pk_un, if_pos, if_neg, eq_self, and_true, true_and, and_false, false_and, if_true, if_false, Bool.false_eq_true, h5, h7, t1, e1, e2, e3, e4]
          · simp (disch := first | omega | assumption) only [kk_nm, Option.bind_some, kl_0, kl_1, kl_2, kl_3, kl_4, kl_5, kl_6, kl_7, kl_8, kl_9, kl_10, kl_12, kl_14, kl_15, kl_16, kl_20, kl_31, kl_33, kl_48, kl_49, kl_50, kl_57, kl_59, kl_60, kl_62, kl_63, kl_98, kl_99, kl_103, kl_104, kl_126, kl_144, kl_310, kl_372, kl_100000, kl_1000000, kl_neg, kl_mm, kl_am, nI_add, kl_mul, kl_sub, kl_le, kl_lt, kl_eq, kl_eM, kl_Me, kl_ltM, kl_leM, kl_ck, kl_cj, kl_cb, kl_bit, nI_clamp, va_up_self, va_up_ne, pk_us, pk_un, if_pos, if_neg, eq_self, and_true, true_and, and_false, false_and, if_true, if_false, Bool.false_eq_true, h5, h7, t1, e1, e2, e3, e4]
  · rw [if_neg c1]
    simp (disch := first | omega | assumption) only [kk_nm, Option.bind_some, kl_0, kl_1, kl_2, kl_3, kl_4, kl_5, kl_6, kl_7, kl_8, kl_9, kl_10, kl_12, kl_14, kl_15, kl_16, kl_20, kl_31, kl_33, kl_48, kl_49, kl_50, kl_57, kl_59, kl_60, kl_62, kl_63, kl_98, kl_99, kl_103, kl_104, kl_126, kl_144, kl_310, kl_372, kl_100000, kl_1000000, kl_neg, kl_mm, kl_am, nI_add, kl_mul, kl_sub, kl_le, kl_lt, kl_eq, kl_eM, kl_Me, kl_ltM, kl_leM, kl_ck, kl_cj, kl_cb, kl_bit, nI_clamp, va_up_self, va_up_ne, pk_us, pk_un, if_pos, if_neg, eq_self, and_true, true_and, and_false, false_and, if_true, if_false, Bool.false_eq_true, h5, h7]
theorem q5_stops (h5 : M 5 0 = nI c) (hc : c ≤ 60) (h7 : M 7 0 = nI a) (ha : a ≤ c) : fX5_stops n M = some (nI 0, va_up M 8 (fun _ => nI (if a < c then 1 else 0))) := by
  unfold fX5_stops
  by_cases c1 : a < c
  · rw [if_pos c1]
    simp (disch := first | omega | assumption) only [kk_nm, Option.bind_some, kl_0, kl_1, kl_2, kl_3, kl_4, kl_5, kl_6, kl_7, kl_8, kl_9, kl_10, kl_12, kl_14, kl_15, kl_16, kl_20, kl_31, kl_33, kl_48, kl_49, kl_50, kl_57, kl_59, kl_60, kl_62, kl_63, kl_98, kl_99, kl_103, kl_104, kl_126, kl_144, kl_310, kl_372, kl_100000, kl_1000000, kl_neg, kl_mm, kl_am, nI_add, kl_mul, kl_sub, kl_le, kl_lt, kl_eq, kl_eM, kl_Me, kl_ltM, kl_leM, kl_ck, kl_cj, kl_cb, kl_bit, nI_clamp, va_up_self, va_up_ne, pk_us, pk_un, if_pos, if_neg, eq_self, and_true, true_and, and_false, false_and, if_true, if_false, Bool.false_eq_true, h5, h7]
  · rw [if_neg c1]
    simp (disch := first | omega | assumption) only [kk_nm, Option.bind_some, kl_0, kl_1, kl_2, kl_3, kl_4, kl_5, kl_6, kl_7, kl_8, kl_9, kl_10, kl_12, kl_14, kl_15, kl_16, kl_20, kl_31, kl_33, kl_48, kl_49, kl_50, kl_57, kl_59, kl_60, kl_62, kl_63, kl_98, kl_99, kl_103, kl_104, kl_126, kl_144, kl_310, kl_372, kl_100000, kl_1000000, kl_neg, kl_mm, kl_am, nI_add, kl_mul, kl_sub, kl_le, kl_lt, kl_eq, kl_eM, kl_Me, kl_ltM, kl_leM, kl_ck, kl_cj, kl_cb, kl_bit, nI_clamp, va_up_self, va_up_ne, pk_us, pk_un, if_pos, if_neg, eq_self, and_true, true_and, and_false, false_and, if_true, if_false, Bool.false_eq_true, h5, h7]
theorem q5_isMask {h i : Nat} (hn : 1000 ≤ n) (h5 : M 5 0 = nI c) (hc : c ≤ 60) (ht : ∀ k, k < c → M 4 k = nI (t k) ∧ t k < 128) (h7 : M 7 0 = nI a) (ha : a ≤ c) (h10 : M 10 0 = nI i) (hi : i ≤ 20) (hq : rq t a = some (1, h, 0, 4)) (h9 : M 9 (3 * i + 2) = nI 0) :
    ∃ r M' p q, fX5_isMask n M = some (nI r, M') ∧ a ≤ p ∧ p ≤ c ∧ rq t p = some q ∧ M' 7 0 = nI p ∧ (∀ j, j ≠ 7 → j ≠ 8 → j ≠ 9 → M' j = M j) ∧ (∀ u, a ≤ u → u < p → t u ≠ 59) ∧ q.1 = 1 ∧ q.2.1 = h ∧
      ((r = 0 ∧ q.2.2.2 = 4 ∧ M' 8 0 = nI (if p < c then 1 else 0) ∧ (p < c → aS q (t p) = none)) ∨ (r = 1 ∧ q.2.2.2 = 5 ∧ (p < c → t p ≠ 59 → aS q (t p) = none) ∧ M' 9 (3 * i + 2) = nI q.2.2.1 ∧ ∀ x, x ≠ 3 * i + 2 → M' 9 x = M 9 x)) := by
  obtain ⟨⟨x, M1⟩, e1, p, L, m, hx, hL, hL4, hm2, hpa, hpc, hqp, h71, hfr, h59, hm9, hot, hex⟩ := kl_while (body := fun (st : Int32 × St1) => fX5_isMask_b2 n st.1 st.2) (fun st => ∃ p L m, st.1 = (if L = 0 then kM else nI (L - 1)) ∧ (L = 0 → m = 0) ∧ L ≤ 4 ∧ (m < 2 ^ L ∧ (L ≠ 0 → 2 ^ (L - 1) ≤ m)) ∧ a ≤ p ∧ p ≤ c ∧ rq t p = some (1, h, m, if L = 0 then 4 else 5) ∧ st.2 7 0 = nI p ∧ (∀ j, j ≠ 7 → j ≠ 9 → st.2 j = M j) ∧ (∀ u, a ≤ u → u < p → t u ≠ 59) ∧ st.2 9 (3 * i + 2) = nI m ∧ ∀ x, x ≠ 3 * i + 2 → st.2 9 x = M 9 x)
    (fun st => ∃ p L m, st.1 = (if L = 0 then kM else nI (L - 1)) ∧ (L = 0 → m = 0) ∧ L ≤ 4 ∧ (m < 2 ^ L ∧ (L ≠ 0 → 2 ^ (L - 1) ≤ m)) ∧ a ≤ p ∧ p ≤ c ∧ rq t p = some (1, h, m, if L = 0 then 4 else 5) ∧ st.2 7 0 = nI p ∧ (∀ j, j ≠ 7 → j ≠ 9 → st.2 j = M j) ∧ (∀ u, a ≤ u → u < p → t u ≠ 59) ∧ st.2 9 (3 * i + 2) = nI m ∧ (∀ x, x ≠ 3 * i + 2 → st.2 9 x = M 9 x) ∧ (kAt t c p < 4 → kAt t c p + 1 ≤ L)) (fun st => 60 - (st.2 7 0).toNatClampNeg) (fun st hI => by
    obtain ⟨x, M1⟩ := st
    obtain ⟨p, L, m, rfl, hL, hL4, hm2, hpa, hpc, hqp, h71, hfr, h59, hm9, hot⟩ := hI
    dsimp only at h71 hfr hm9 hot ⊢
    have hkA := q5_kindAt (n := n) (M := M1) (t := t) (c := c) (a := p) (by rw [hfr 5 (by omega) (by omega)]; exact h5) hc (fun k hk => by rw [hfr 4 (by omega) (by omega)]; exact ht k hk) h71 hpc
    have hw := rq_wq hqp
    have hm15 : m ≤ 15 := hw.2.1
    have h101 : M1 10 0 = nI i := by rw [hfr 10 (by omega) (by omega)]; exact h10
    by_cases hk : kAt t c p < 4
    · rw [if_pos hk] at hkA
      have hpc' : p < c := by
        unfold kAt at hk
        by_cases d : p < c
        · exact d
        · rw [if_neg d] at hk; omega
      have hkk : kAt t c p = aK (t p) := by unfold kAt; rw [if_pos hpc']
      rw [hkk] at hk hkA
      by_cases hle : aK (t p) + 1 ≤ L
      · right
        have hl0 : L ≠ 0 := by omega
        refine ⟨(nI (L - 1), M1), ?_, p, L, m, by rw [if_neg hl0], hL, hL4, hm2, hpa, hpc, hqp, h71, hfr, h59, hm9, hot, fun _ => by rw [hkk]; exact hle⟩
        rw [if_neg hl0]
        unfold fX5_isMask_b2
        simp (disch := first | omega | assumption) only [kk_nm, Option.bind_some, kl_0, kl_1, kl_2, kl_3, kl_4, kl_5, kl_6, kl_7, kl_8, kl_9, kl_10, kl_12, kl_14, kl_15, kl_16, kl_20, kl_31, kl_33, kl_48, kl_49, kl_50, kl_57, kl_59, kl_60, kl_62, kl_63, kl_98, kl_99, kl_103, kl_104, kl_126, kl_144, kl_310, kl_372, kl_100000, kl_1000000, kl_neg, kl_mm, kl_am, nI_add, kl_mul, kl_sub, kl_le, kl_lt, kl_eq, kl_eM, kl_Me, kl_ltM, kl_leM, kl_ck, kl_cj, kl_cb, kl_bit, nI_clamp, va_up_self, va_up_ne, pk_us, pk_un, if_pos, if_neg, eq_self, and_true, true_and, and_false, false_and, if_true, if_false, Bool.false_eq_true, hkA]
      · left
        have hml : m < 2 ^ aK (t p) := Nat.lt_of_lt_of_le hm2.1 (Nat.pow_le_pow_right (by omega) (by omega))
        obtain ⟨o1, o2⟩ := kl_orb (by omega) hk hml
        have ha1 : aS (1, h, m, if L = 0 then 4 else 5) (t p) = some (1, h, m + 2 ^ aK (t p), 5) := by
          unfold aS
          by_cases hl0 : L = 0
          · rw [if_pos hl0]
            dsimp only
            rw [if_neg (by omega), if_neg (by omega), if_neg (by omega), if_neg (by omega), if_pos rfl, if_pos ⟨hk, hml⟩]
          · rw [if_neg hl0]
            dsimp only
            rw [if_neg (by omega), if_neg (by omega), if_neg (by omega), if_neg (by omega), if_neg (by omega), if_neg (aK_59 hk).1, if_pos ⟨hk, hml⟩]
        refine ⟨(nI (aK (t p)), va_up (va_up M1 9 (upd (M1 9) (3 * i + 2) (nI (m + 2 ^ aK (t p))))) 7 (fun _ => nI (p + 1))), ?_, ⟨p + 1, aK (t p) + 1, m + 2 ^ aK (t p), by rw [if_neg (by omega)]; rfl, fun h => by omega, by omega, ⟨by rw [Nat.pow_succ]; omega, fun _ => by rw [Nat.add_sub_cancel]; omega⟩, by omega, by omega, ?_, rfl, fun j j7 j9 => by dsimp only; rw [va_up_ne _ _ j7, va_up_ne _ _ j9]; exact hfr j j7 j9, fun u h1 h2 => ?_, ?_, fun x hx => ?_⟩, ?_⟩
        · unfold fX5_isMask_b2
          by_cases hl0 : L = 0
          · rw [if_pos hl0]
            simp (disch := first | omega | assumption) only [kk_nm, Option.bind_some, kl_0, kl_1, kl_2, kl_3, kl_4, kl_5, kl_6, kl_7, kl_8, kl_9, kl_10, kl_12, kl_14, kl_15, kl_16, kl_20, kl_31, kl_33, kl_48, kl_49, kl_50, kl_57, kl_59, kl_60, kl_62, kl_63, kl_98, kl_99, kl_103, kl_104, kl_126, kl_144, kl_310, kl_372, kl_100000, kl_1000000, kl_neg, kl_mm, kl_am, nI_add, kl_mul, kl_sub, kl_le, kl_lt, kl_eq, kl_eM, kl_Me, kl_ltM, kl_leM, kl_ck, kl_cj, kl_cb, kl_bit, nI_clamp, va_up_self, va_up_ne, pk_us, pk_un, if_pos, if_neg, eq_self, and_true, true_and, and_false, false_and, if_true, if_false, Bool.false_eq_true, hkA, h101, hm9, o1, h71]
          · rw [if_neg hl0]
            simp (disch := first | omega | assumption) only [kk_nm, Option.bind_some, kl_0, kl_1, kl_2, kl_3, kl_4, kl_5, kl_6, kl_7, kl_8, kl_9, kl_10, kl_12, kl_14, kl_15, kl_16, kl_20, kl_31, kl_33, kl_48, kl_49, kl_50, kl_57, kl_59, kl_60, kl_62, kl_63, kl_98, kl_99, kl_103, kl_104, kl_126, kl_144, kl_310, kl_372, kl_100000, kl_1000000, kl_neg, kl_mm, kl_am, nI_add, kl_mul, kl_sub, kl_le, kl_lt, kl_eq, kl_eM, kl_Me, kl_ltM, kl_leM, kl_ck, kl_cj, kl_cb, kl_bit, nI_clamp, va_up_self, va_up_ne, pk_us, pk_un, if_pos, if_neg, eq_self, and_true, true_and, and_false, false_and, if_true, if_false, Bool.false_eq_true, hkA, h101, hm9, o1, h71]
        · show (rq t p).bind _ = _
          rw [hqp, if_neg (show ¬ aK (t p) + 1 = 0 by omega)]
          exact ha1
        · by_cases d : u = p
          · rw [d]; exact (aK_59 hk).1
          · exact h59 u h1 (by omega)
        · dsimp only
          rw [va_up_ne _ _ (by omega), va_up_self, pk_us]
        · dsimp only
          rw [va_up_ne _ _ (by omega), va_up_self, pk_un hx]
          exact hot x hx
        · dsimp only
          rw [va_up_self, h71, nI_clamp (by omega), nI_clamp (by omega)]
          omega
    · right
      rw [if_neg hk] at hkA
      refine ⟨(if L = 0 then kM else nI (L - 1), M1), ?_, p, L, m, rfl, hL, hL4, hm2, hpa, hpc, hqp, h71, hfr, h59, hm9, hot, fun h => absurd h hk⟩
      unfold fX5_isMask_b2
      by_cases hl0 : L = 0
      · rw [if_pos hl0]
        simp (disch := first | omega | assumption) only [kk_nm, Option.bind_some, kl_0, kl_1, kl_2, kl_3, kl_4, kl_5, kl_6, kl_7, kl_8, kl_9, kl_10, kl_12, kl_14, kl_15, kl_16, kl_20, kl_31, kl_33, kl_48, kl_49, kl_50, kl_57, kl_59, kl_60, kl_62, kl_63, kl_98, kl_99, kl_103, kl_104, kl_126, kl_144, kl_310, kl_372, kl_100000, kl_1000000, kl_neg, kl_mm, kl_am, nI_add, kl_mul, kl_sub, kl_le, kl_lt, kl_eq, kl_eM, kl_Me, kl_ltM, kl_leM, kl_ck, kl_cj, kl_cb, kl_bit, nI_clamp, va_up_self, va_up_ne, pk_us, pk_un, if_pos, if_neg, eq_self, and_true, true_and, and_false, false_and, if_true, if_false, Bool.false_eq_true, hkA, kl_MM]
      · rw [if_neg hl0]
        simp (disch := first | omega | assumption) only [kk_nm, Option.bind_some, kl_0, kl_1, kl_2, kl_3, kl_4, kl_5, kl_6, kl_7, kl_8, kl_9, kl_10, kl_12, kl_14, kl_15, kl_16, kl_20, kl_31, kl_33, kl_48, kl_49, kl_50, kl_57, kl_59, kl_60, kl_62, kl_63, kl_98, kl_99, kl_103, kl_104, kl_126, kl_144, kl_310, kl_372, kl_100000, kl_1000000, kl_neg, kl_mm, kl_am, nI_add, kl_mul, kl_sub, kl_le, kl_lt, kl_eq, kl_eM, kl_Me, kl_ltM, kl_leM, kl_ck, kl_cj, kl_cb, kl_bit, nI_clamp, va_up_self, va_up_ne, pk_us, pk_un, if_pos, if_neg, eq_self, and_true, true_and, and_false, false_and, if_true, if_false, Bool.false_eq_true, hkA, kl_Mle]) n (kM, M) ⟨a, 0, 0, rfl, fun _ => rfl, by omega, ⟨by decide, fun h => absurd rfl h⟩, by omega, ha, hq, h7, fun _ _ _ => rfl, fun u h1 h2 => by omega, h9, fun _ _ => rfl⟩ (by dsimp only; rw [h7, nI_clamp (by omega)]; omega)
  dsimp only at hx h71 hfr hm9 hot
  have hw := rq_wq hqp
  have hm15 : m ≤ 15 := hw.2.1
  have hnone : p < c → t p ≠ 59 → aS (1, h, m, if L = 0 then 4 else 5) (t p) = none := by
    intro hp h59'
    have hno : ¬ (aK (t p) < 4 ∧ m < 2 ^ aK (t p)) := by
      intro hh
      have hkk : kAt t c p = aK (t p) := by unfold kAt; rw [if_pos hp]
      rw [hkk] at hex
      have h1 := hex hh.1
      have h2 := hm2.2 (by omega)
      have h3 : 2 ^ aK (t p) ≤ 2 ^ (L - 1) := Nat.pow_le_pow_right (by omega) (by omega)
      omega
    unfold aS
    by_cases hl0 : L = 0
    · rw [if_pos hl0]
      dsimp only
      rw [if_neg (by omega), if_neg (by omega), if_neg (by omega), if_neg (by omega), if_pos rfl, if_neg hno]
    · rw [if_neg hl0]
      dsimp only
      rw [if_neg (by omega), if_neg (by omega), if_neg (by omega), if_neg (by omega), if_neg (by omega), if_neg h59', if_neg hno]
  by_cases hl0 : L = 0
  · rw [if_pos hl0] at hx hqp hnone
    subst hx
    have hm0 := hL hl0
    subst hm0
    have hst := q5_stops (n := n) (M := M1) (c := c) (a := p) (by rw [hfr 5 (by omega) (by omega)]; exact h5) hc h71 hpc
    refine ⟨0, va_up M1 8 (fun _ => nI (if p < c then 1 else 0)), p, (1, h, 0, 4), ?_, hpa, hpc, hqp, h71, fun j j7 j8 j9 => by rw [va_up_ne _ _ j8]; exact hfr j j7 j9, h59, rfl, rfl, .inl ⟨rfl, rfl, rfl, fun hp => ?_⟩⟩
    · unfold fX5_isMask
      simp (disch := first | omega | assumption) only [kk_nm, Option.bind_some, kl_0, kl_1, kl_2, kl_3, kl_4, kl_5, kl_6, kl_7, kl_8, kl_9, kl_10, kl_12, kl_14, kl_15, kl_16, kl_20, kl_31, kl_33, kl_48, kl_49, kl_50, kl_57, kl_59, kl_60, kl_62, kl_63, kl_98, kl_99, kl_103, kl_104, kl_126, kl_144, kl_310, kl_372, kl_100000, kl_1000000, kl_neg, kl_mm, kl_am, nI_add, kl_mul, kl_sub, kl_le, kl_lt, kl_eq, kl_eM, kl_Me, kl_ltM, kl_leM, kl_ck, kl_cj, kl_cb, kl_bit, nI_clamp, va_up_self, va_up_ne, pk_us, pk_un, if_pos, if_neg, eq_self, and_true, true_and, and_false, false_and, if_true, if_false, Bool.false_eq_true, e1, hst]
    · by_cases d : t p = 59
      · unfold aS
        dsimp only
        rw [d]
        rfl
      · exact hnone hp d
  · rw [if_neg hl0] at hx hqp hnone
    subst hx
    refine ⟨1, M1, p, (1, h, m, 5), ?_, hpa, hpc, hqp, h71, fun j j7 j8 j9 => hfr j j7 j9, h59, rfl, rfl, .inr ⟨rfl, rfl, hnone, hm9, hot⟩⟩
    unfold fX5_isMask
    simp (disch := first | omega | assumption) only [kk_nm, Option.bind_some, kl_0, kl_1, kl_2, kl_3, kl_4, kl_5, kl_6, kl_7, kl_8, kl_9, kl_10, kl_12, kl_14, kl_15, kl_16, kl_20, kl_31, kl_33, kl_48, kl_49, kl_50, kl_57, kl_59, kl_60, kl_62, kl_63, kl_98, kl_99, kl_103, kl_104, kl_126, kl_144, kl_310, kl_372, kl_100000, kl_1000000, kl_neg, kl_mm, kl_am, nI_add, kl_mul, kl_sub, kl_le, kl_lt, kl_eq, kl_eM, kl_Me, kl_ltM, kl_leM, kl_ck, kl_cj, kl_cb, kl_bit, nI_clamp, va_up_self, va_up_ne, pk_us, pk_un, if_pos, if_neg, eq_self, and_true, true_and, and_false, false_and, if_true, if_false, Bool.false_eq_true, e1]
end
