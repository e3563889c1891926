/-! one call of each: the same answers, and again alike -/
def RX (G V : St2) (M : St1) (s : Nat → Nat) (c : Nat) (ps : Nat → Nat → Nat) (cc : Nat) (t : Nat → Nat) : Prop :=
  RP (G 1) s ∧ RM (M 0) s ∧ WF s ∧ RH V M c ps ∧ cc ≤ 60 ∧ G 0 6 0 = nI cc ∧ M 5 0 = nI cc ∧ ∀ k, k < cc → G 0 5 k = nI (t k) ∧ M 4 k = nI (t k) ∧ t k < 128
def RR (G V : St2) (M : St1) : Prop := ∃ s c ps cc t, RX G V M s c ps cc t
theorem RX_up {G V G' V' : St2} {M M' : St1} {s s' : Nat → Nat} {c c' : Nat} {ps ps' : Nat → Nat → Nat} {cc : Nat} {t : Nat → Nat} (h : RX G V M s c ps cc t) (hG : RP (G' 1) s') (hM : RM (M' 0) s') (hW : WF s') (hH : RH V' M' c' ps') (g0 : G' 0 = G 0) (m5 : M' 5 = M 5) (m4 : M' 4 = M 4) : RR G' V' M' := by
  obtain ⟨-, -, -, -, h1, h2, h3, h4⟩ := h
  refine ⟨s', c', ps', cc, t, hG, hM, hW, hH, h1, ?_, ?_, ?_⟩
  · rw [g0]; exact h2
  · rw [m5]; exact h3
  · rw [g0, m4]; exact h4
theorem RR_M {G V : St2} {M M' : St1} (h : RR G V M) (m0 : M' 0 = M 0) (m2 : M' 2 = M 2) (m3 : M' 3 = M 3) (m4 : M' 4 = M 4) (m5 : M' 5 = M 5) : RR G V M' := by
  obtain ⟨s, c, ps, cc, t, h⟩ := h
  have hx := h
  obtain ⟨h1, h2, h3, h4, -⟩ := h
  exact RX_up hx h1 (by rw [m0]; exact h2) h3 (RH_cg m2 m3 h4) rfl m5 m4
theorem RR_6 {G V : St2} {M : St1} {f : Nat → Int32} (h : RR G V M) : RR G V (va_up M 6 f) := RR_M h rfl rfl rfl rfl rfl
theorem RR_GM {G V G' : St2} {M M' : St1} {s : Nat → Nat} {c : Nat} {ps : Nat → Nat → Nat} {cc : Nat} {t : Nat → Nat} (h : RX G V M s c ps cc t) (hG : RP (G' 1) s) (g0 : G' 0 = G 0) (m0 : M' 0 = M 0) (m2 : M' 2 = M 2) (m3 : M' 3 = M 3) (m4 : M' 4 = M 4) (m5 : M' 5 = M 5) : RR G' V M' := by
  have hx := h
  obtain ⟨h1, h2, h3, h4, -⟩ := h
  exact RX_up hx hG (by rw [m0]; exact h2) h3 (RH_cg m2 m3 h4) g0 m5 m4
theorem arg_cases (v : Int32) : v < 0 ∨ ∃ j, j < 2147483648 ∧ v = nI j := by
  by_cases h : v < 0
  · exact .inl h
  · exact .inr (nI_of h)
theorem neg_lt {v : Int32} {a : Nat} (h : v < 0) (ha : a < 2147483648) : (v < nI a) = True := by
  refine eq_true ?_
  rw [Int32.lt_iff_toInt_lt] at h ⊢
  rw [nI_toInt ha]
  have : (0 : Int32).toInt = 0 := rfl
  omega
theorem neg_nle {v : Int32} {a : Nat} (h : v < 0) (ha : a < 2147483648) : (nI a ≤ v) = False := by
  refine eq_false ?_
  rw [Int32.lt_iff_toInt_lt] at h
  rw [Int32.le_iff_toInt_le, nI_toInt ha]
  have : (0 : Int32).toInt = 0 := rfl
  omega
theorem neg_ne {v : Int32} {a : Nat} (h : v < 0) (ha : a < 2147483648) : (v = nI a) = False := by
  refine eq_false (fun e => ?_)
  rw [e] at h
  exact nI_pos ha h
theorem neg_le {v : Int32} {a : Nat} (h : v < 0) (ha : a < 2147483648) : (v ≤ nI a) = True := by
  refine eq_true ?_
  rw [Int32.lt_iff_toInt_lt] at h
  rw [Int32.le_iff_toInt_le, nI_toInt ha]
  have : (0 : Int32).toInt = 0 := rfl
  omega
theorem neg_nlt {v : Int32} {a : Nat} (h : v < 0) (ha : a < 2147483648) : (nI a < v) = False := by
  refine eq_false ?_
  rw [Int32.lt_iff_toInt_lt] at h ⊢
  rw [nI_toInt ha]
  have : (0 : Int32).toInt = 0 := rfl
  omega
theorem nI01 : nI 0 - nI 1 = kM := rfl
section
variable {n : Nat} {s : Nat → Nat} {M : St1}
theorem q5_inN {v y : Int32} {a : Nat} (h : v < 0) (ha : a < 2147483648) : fX5_in n v (nI a) y = some (nI 0) := by
  have h1 := neg_lt h ha
  unfold fX5_in
  simp (disch := first | omega | assumption) only [kk_nm, Option.bind_some, kl_0, kl_1, kl_2, kl_3, kl_4, kl_5, kl_6, kl_7, kl_8, kl_9, kl_10, kl_12, kl_14, kl_15, kl_16, kl_20, kl_31, kl_33, kl_48, kl_49, kl_50, kl_57, kl_59, kl_60, kl_62, kl_63, kl_98, kl_99, kl_103, kl_104, kl_126, kl_144, kl_310, kl_372, kl_100000, kl_1000000, kl_neg, kl_mm, kl_am, nI_add, kl_mul, kl_sub, kl_le, kl_lt, kl_eq, kl_eM, kl_Me, kl_ltM, kl_leM, kl_ck, kl_cj, kl_cb, kl_bit, nI_clamp, va_up_self, va_up_ne, pk_us, pk_un, if_pos, if_neg, eq_self, and_true, true_and, and_false, false_and, if_true, if_false, Bool.false_eq_true, h1]
theorem q5_isFloat {f : Nat → Int32} {j : Nat} (hM : RM (M 0) s) (hW : WF s) (hj : j < 2147483648) : fX5_isFloat n (va_up M 6 f) (nI j) = some (nI (if j < s 4 then 1 else 0)) := by
  have w1 := hW.2.1
  have r0 := hM.r
  unfold fX5_isFloat fX5_in
  by_cases c : s 4 = 0
  · rw [if_neg (show ¬ j < s 4 by omega)]
    simp (disch := first | omega | assumption) only [kk_nm, Option.bind_some, kl_0, kl_1, kl_2, kl_3, kl_4, kl_5, kl_6, kl_7, kl_8, kl_9, kl_10, kl_12, kl_14, kl_15, kl_16, kl_20, kl_31, kl_33, kl_48, kl_49, kl_50, kl_57, kl_59, kl_60, kl_62, kl_63, kl_98, kl_99, kl_103, kl_104, kl_126, kl_144, kl_310, kl_372, kl_100000, kl_1000000, kl_neg, kl_mm, kl_am, nI_add, kl_mul, kl_sub, kl_le, kl_lt, kl_eq, kl_eM, kl_Me, kl_ltM, kl_leM, kl_ck, kl_cj, kl_cb, kl_bit, nI_clamp, va_up_self, va_up_ne, pk_us, pk_un, if_pos, if_neg, eq_self, and_true, true_and, and_false, false_and, if_true, if_false, Bool.false_eq_true, r0, c, nI01, kl_ltM]
  · by_cases d : j < s 4
    · rw [if_pos d]
      simp (disch := first | omega | assumption) only [kk_nm, Option.bind_some, kl_0, kl_1, kl_2, kl_3, kl_4, kl_5, kl_6, kl_7, kl_8, kl_9, kl_10, kl_12, kl_14, kl_15, kl_16, kl_20, kl_31, kl_33, kl_48, kl_49, kl_50, kl_57, kl_59, kl_60, kl_62, kl_63, kl_98, kl_99, kl_103, kl_104, kl_126, kl_144, kl_310, kl_372, kl_100000, kl_1000000, kl_neg, kl_mm, kl_am, nI_add, kl_mul, kl_sub, kl_le, kl_lt, kl_eq, kl_eM, kl_Me, kl_ltM, kl_leM, kl_ck, kl_cj, kl_cb, kl_bit, nI_clamp, va_up_self, va_up_ne, pk_us, pk_un, if_pos, if_neg, eq_self, and_true, true_and, and_false, false_and, if_true, if_false, Bool.false_eq_true, r0]
    · rw [if_neg d]
      simp (disch := first | omega | assumption) only [kk_nm, Option.bind_some, kl_0, kl_1, kl_2, kl_3, kl_4, kl_5, kl_6, kl_7, kl_8, kl_9, kl_10, kl_12, kl_14, kl_15, kl_16, kl_20, kl_31, kl_33, kl_48, kl_49, kl_50, kl_57, kl_59, kl_60, kl_62, kl_63, kl_98, kl_99, kl_103, kl_104, kl_126, kl_144, kl_310, kl_372, kl_100000, kl_1000000, kl_neg, kl_mm, kl_am, nI_add, kl_mul, kl_sub, kl_le, kl_lt, kl_eq, kl_eM, kl_Me, kl_ltM, kl_leM, kl_ck, kl_cj, kl_cb, kl_bit, nI_clamp, va_up_self, va_up_ne, pk_us, pk_un, if_pos, if_neg, eq_self, and_true, true_and, and_false, false_and, if_true, if_false, Bool.false_eq_true, r0]
theorem q5_isFloatN {v : Int32} (h : v < 0) : fX5_isFloat n M v = some (nI 0) := by
  have e := fun y => q5_inN (n := n) (y := y) (a := 0) h (by omega)
  unfold fX5_isFloat
  simp (disch := first | omega | assumption) only [kk_nm, Option.bind_some, kl_0, kl_1, kl_2, kl_3, kl_4, kl_5, kl_6, kl_7, kl_8, kl_9, kl_10, kl_12, kl_14, kl_15, kl_16, kl_20, kl_31, kl_33, kl_48, kl_49, kl_50, kl_57, kl_59, kl_60, kl_62, kl_63, kl_98, kl_99, kl_103, kl_104, kl_126, kl_144, kl_310, kl_372, kl_100000, kl_1000000, kl_neg, kl_mm, kl_am, nI_add, kl_mul, kl_sub, kl_le, kl_lt, kl_eq, kl_eM, kl_Me, kl_ltM, kl_leM, kl_ck, kl_cj, kl_cb, kl_bit, nI_clamp, va_up_self, va_up_ne, pk_us, pk_un, if_pos, if_neg, eq_self, and_true, true_and, and_false, false_and, if_true, if_false, Bool.false_eq_true, e]
theorem q5_isBridge {f : Nat → Int32} {j : Nat} (hM : RM (M 0) s) (hW : WF s) (hj : j < 2147483648) : fX5_isBridge n (va_up M 6 f) (nI j) = some (nI (if j < s 5 then 1 else 0)) := by
  have w1 := hW.2.1
  have r0 := hM.r
  unfold fX5_isBridge fX5_in
  by_cases c : s 5 = 0
  · rw [if_neg (show ¬ j < s 5 by omega)]
    simp (disch := first | omega | assumption) only [kk_nm, Option.bind_some, kl_0, kl_1, kl_2, kl_3, kl_4, kl_5, kl_6, kl_7, kl_8, kl_9, kl_10, kl_12, kl_14, kl_15, kl_16, kl_20, kl_31, kl_33, kl_48, kl_49, kl_50, kl_57, kl_59, kl_60, kl_62, kl_63, kl_98, kl_99, kl_103, kl_104, kl_126, kl_144, kl_310, kl_372, kl_100000, kl_1000000, kl_neg, kl_mm, kl_am, nI_add, kl_mul, kl_sub, kl_le, kl_lt, kl_eq, kl_eM, kl_Me, kl_ltM, kl_leM, kl_ck, kl_cj, kl_cb, kl_bit, nI_clamp, va_up_self, va_up_ne, pk_us, pk_un, if_pos, if_neg, eq_self, and_true, true_and, and_false, false_and, if_true, if_false, Bool.false_eq_true, r0, c, nI01, kl_ltM]
  · by_cases d : j < s 5
    · rw [if_pos d]
      simp (disch := first | omega | assumption) only [kk_nm, Option.bind_some, kl_0, kl_1, kl_2, kl_3, kl_4, kl_5, kl_6, kl_7, kl_8, kl_9, kl_10, kl_12, kl_14, kl_15, kl_16, kl_20, kl_31, kl_33, kl_48, kl_49, kl_50, kl_57, kl_59, kl_60, kl_62, kl_63, kl_98, kl_99, kl_103, kl_104, kl_126, kl_144, kl_310, kl_372, kl_100000, kl_1000000, kl_neg, kl_mm, kl_am, nI_add, kl_mul, kl_sub, kl_le, kl_lt, kl_eq, kl_eM, kl_Me, kl_ltM, kl_leM, kl_ck, kl_cj, kl_cb, kl_bit, nI_clamp, va_up_self, va_up_ne, pk_us, pk_un, if_pos, if_neg, eq_self, and_true, true_and, and_false, false_and, if_true, if_false, Bool.false_eq_true, r0]
    · rw [if_neg d]
      simp (disch := first | omega | assumption) only [kk_nm, Option.bind_some, kl_0, kl_1, kl_2, kl_3, kl_4, kl_5, kl_6, kl_7, kl_8, kl_9, kl_10, kl_12, kl_14, kl_15, kl_16, kl_20, kl_31, kl_33, kl_48, kl_49, kl_50, kl_57, kl_59, kl_60, kl_62, kl_63, kl_98, kl_99, kl_103, kl_104, kl_126, kl_144, kl_310, kl_372, kl_100000, kl_1000000, kl_neg, kl_mm, kl_am, nI_add, kl_mul, kl_sub, kl_le, kl_lt, kl_eq, kl_eM, kl_Me, kl_ltM, kl_leM, kl_ck, kl_cj, kl_cb, kl_bit, nI_clamp, va_up_self, va_up_ne, pk_us, pk_un, if_pos, if_neg, eq_self, and_true, true_and, and_false, false_and, if_true, if_false, Bool.false_eq_true, r0]
theorem q5_isBridgeN {v : Int32} (h : v < 0) : fX5_isBridge n M v = some (nI 0) := by
  have e := fun y => q5_inN (n := n) (y := y) (a := 0) h (by omega)
  unfold fX5_isBridge
  simp (disch := first | omega | assumption) only [kk_nm, Option.bind_some, kl_0, kl_1, kl_2, kl_3, kl_4, kl_5, kl_6, kl_7, kl_8, kl_9, kl_10, kl_12, kl_14, kl_15, kl_16, kl_20, kl_31, kl_33, kl_48, kl_49, kl_50, kl_57, kl_59, kl_60, kl_62, kl_63, kl_98, kl_99, kl_103, kl_104, kl_126, kl_144, kl_310, kl_372, kl_100000, kl_1000000, kl_neg, kl_mm, kl_am, nI_add, kl_mul, kl_sub, kl_le, kl_lt, kl_eq, kl_eM, kl_Me, kl_ltM, kl_leM, kl_ck, kl_cj, kl_cb, kl_bit, nI_clamp, va_up_self, va_up_ne, pk_us, pk_un, if_pos, if_neg, eq_self, and_true, true_and, and_false, false_and, if_true, if_false, Bool.false_eq_true, e]
theorem q5_fails {k : Nat} : fX5_fails n M (nI k) = some (nI 0, va_up M 6 (fun _ => nI k)) := rfl
theorem q4_needFloat {G : St2} {j : Nat} (hR : RP (G 1) s) (hW : WF s) (hj : j < 2147483648) : fX4_needFloat n G (nI j) = some (if j < s 4 then .inr () else .inl 1) := by
  have w1 := hW.2.1
  have h0 := hR.1
  unfold fX4_needFloat
  by_cases d : j < s 4
  · rw [if_pos d]
    simp (disch := first | omega | assumption) only [kk_nm, Option.bind_some, kl_0, kl_1, kl_2, kl_3, kl_4, kl_5, kl_6, kl_7, kl_8, kl_9, kl_10, kl_12, kl_14, kl_15, kl_16, kl_20, kl_31, kl_33, kl_48, kl_49, kl_50, kl_57, kl_59, kl_60, kl_62, kl_63, kl_98, kl_99, kl_103, kl_104, kl_126, kl_144, kl_310, kl_372, kl_100000, kl_1000000, kl_neg, kl_mm, kl_am, nI_add, kl_mul, kl_sub, kl_le, kl_lt, kl_eq, kl_eM, kl_Me, kl_ltM, kl_leM, kl_ck, kl_cj, kl_cb, kl_bit, nI_clamp, va_up_self, va_up_ne, pk_us, pk_un, if_pos, if_neg, eq_self, and_true, true_and, and_false, false_and, if_true, if_false, Bool.false_eq_true, h0]
  · rw [if_neg d]
    simp (disch := first | omega | assumption) only [kk_nm, Option.bind_some, kl_0, kl_1, kl_2, kl_3, kl_4, kl_5, kl_6, kl_7, kl_8, kl_9, kl_10, kl_12, kl_14, kl_15, kl_16, kl_20, kl_31, kl_33, kl_48, kl_49, kl_50, kl_57, kl_59, kl_60, kl_62, kl_63, kl_98, kl_99, kl_103, kl_104, kl_126, kl_144, kl_310, kl_372, kl_100000, kl_1000000, kl_neg, kl_mm, kl_am, nI_add, kl_mul, kl_sub, kl_le, kl_lt, kl_eq, kl_eM, kl_Me, kl_ltM, kl_leM, kl_ck, kl_cj, kl_cb, kl_bit, nI_clamp, va_up_self, va_up_ne, pk_us, pk_un, if_pos, if_neg, eq_self, and_true, true_and, and_false, false_and, if_true, if_false, Bool.false_eq_true, h0]
theorem q4_needFloatN {G : St2} {v : Int32} (h : v < 0) : fX4_needFloat n G v = some (.inl 1) := by
  unfold fX4_needFloat
  rw [if_pos h]
theorem q4_needBridge {G : St2} {j : Nat} (hR : RP (G 1) s) (hW : WF s) (hj : j < 2147483648) : fX4_needBridge n G (nI j) = some (if j < s 5 then .inr () else .inl 1) := by
  have w1 := hW.2.1
  have h0 := hR.2.1
  unfold fX4_needBridge
  by_cases d : j < s 5
  · rw [if_pos d]
    simp (disch := first | omega | assumption) only [kk_nm, Option.bind_some, kl_0, kl_1, kl_2, kl_3, kl_4, kl_5, kl_6, kl_7, kl_8, kl_9, kl_10, kl_12, kl_14, kl_15, kl_16, kl_20, kl_31, kl_33, kl_48, kl_49, kl_50, kl_57, kl_59, kl_60, kl_62, kl_63, kl_98, kl_99, kl_103, kl_104, kl_126, kl_144, kl_310, kl_372, kl_100000, kl_1000000, kl_neg, kl_mm, kl_am, nI_add, kl_mul, kl_sub, kl_le, kl_lt, kl_eq, kl_eM, kl_Me, kl_ltM, kl_leM, kl_ck, kl_cj, kl_cb, kl_bit, nI_clamp, va_up_self, va_up_ne, pk_us, pk_un, if_pos, if_neg, eq_self, and_true, true_and, and_false, false_and, if_true, if_false, Bool.false_eq_true, h0]
  · rw [if_neg d]
    simp (disch := first | omega | assumption) only [kk_nm, Option.bind_some, kl_0, kl_1, kl_2, kl_3, kl_4, kl_5, kl_6, kl_7, kl_8, kl_9, kl_10, kl_12, kl_14, kl_15, kl_16, kl_20, kl_31, kl_33, kl_48, kl_49, kl_50, kl_57, kl_59, kl_60, kl_62, kl_63, kl_98, kl_99, kl_103, kl_104, kl_126, kl_144, kl_310, kl_372, kl_100000, kl_1000000, kl_neg, kl_mm, kl_am, nI_add, kl_mul, kl_sub, kl_le, kl_lt, kl_eq, kl_eM, kl_Me, kl_ltM, kl_leM, kl_ck, kl_cj, kl_cb, kl_bit, nI_clamp, va_up_self, va_up_ne, pk_us, pk_un, if_pos, if_neg, eq_self, and_true, true_and, and_false, false_and, if_true, if_false, Bool.false_eq_true, h0]
theorem q4_needBridgeN {G : St2} {v : Int32} (h : v < 0) : fX4_needBridge n G v = some (.inl 1) := by
  unfold fX4_needBridge
  rw [if_pos h]
theorem kk_trl {α β ε : Type} {k : ε} {f : α → Option (ε ⊕ β)} : kk_tr (.inl k) f = some (.inl k) := rfl
theorem kk_trr {α β ε : Type} {u : α} {f : α → Option (ε ⊕ β)} : kk_tr (.inr u) f = f u := rfl
/-- a float's number: the class refuses it where the reference does -/
theorem needF {G V : St2} (hR : RP (G 1) s) (hM : RM (M 0) s) (hW : WF s) (v : Int32) : (fX4_needFloat n G v = some (.inl 1) ∧ ∀ f, fX5_isFloat n (va_up M 6 f) v = some (nI 0)) ∨ ∃ j, j < s 4 ∧ v = nI j ∧ fX4_needFloat n G v = some (.inr ()) ∧ ∀ f, fX5_isFloat n (va_up M 6 f) v = some (nI 1) := by
  rcases arg_cases v with h | ⟨j, hj, rfl⟩
  · exact .inl ⟨q4_needFloatN h, fun f => q5_isFloatN h⟩
  · have h1 := q4_needFloat (n := n) hR hW hj
    have h2 := fun f => q5_isFloat (n := n) (f := f) hM hW hj
    by_cases d : j < s 4
    · rw [if_pos d] at h1
      refine .inr ⟨j, d, rfl, h1, fun f => ?_⟩
      rw [h2 f, if_pos d]
    · rw [if_neg d] at h1
      refine .inl ⟨h1, fun f => ?_⟩
      rw [h2 f, if_neg d]
theorem needB {G V : St2} (hR : RP (G 1) s) (hM : RM (M 0) s) (hW : WF s) (v : Int32) : (fX4_needBridge n G v = some (.inl 1) ∧ ∀ f, fX5_isBridge n (va_up M 6 f) v = some (nI 0)) ∨ ∃ j, j < s 5 ∧ v = nI j ∧ fX4_needBridge n G v = some (.inr ()) ∧ ∀ f, fX5_isBridge n (va_up M 6 f) v = some (nI 1) := by
  rcases arg_cases v with h | ⟨j, hj, rfl⟩
  · exact .inl ⟨q4_needBridgeN h, fun f => q5_isBridgeN h⟩
  · have h1 := q4_needBridge (n := n) hR hW hj
    have h2 := fun f => q5_isBridge (n := n) (f := f) hM hW hj
    by_cases d : j < s 5
    · rw [if_pos d] at h1
      refine .inr ⟨j, d, rfl, h1, fun f => ?_⟩
      rw [h2 f, if_pos d]
    · rw [if_neg d] at h1
      refine .inl ⟨h1, fun f => ?_⟩
      rw [h2 f, if_neg d]
end
/-- the changing calls -/
def OK3 (ks : List Nat) (code : Nat → Nat) (G V : St2) (fc : Option (Nat ⊕ (Int32 × St2 × St2))) (fm : Option (Int32 × St1)) : Prop :=
  (∃ k b M', fc = some (.inl k) ∧ k ∈ ks ∧ fm = some (b, M') ∧ M' 6 0 = nI (code k) ∧ RR G V M') ∨ ∃ b G' V' M', fc = some (.inr (b, G', V')) ∧ fm = some (b, M') ∧ M' 6 0 = nI 0 ∧ RR G' V' M'
section
variable {n : Nat} {G V : St2} {M : St1}
theorem st_remove (hn : 1000 ≤ n) (h : RR G V M) (v : Int32) : OK3 [1] id G V (fX4_remove n G V v) (fX5_remove n M v) := by
  have hr := h
  obtain ⟨s, c, ps, cc, t, h⟩ := h
  have hx := h
  obtain ⟨hP, hM, hW, hH, -⟩ := h
  have w1 := hW.2.1
  rcases needF (n := n) (V := V) hP hM hW v with ⟨e1, e2⟩ | ⟨j, hj, rfl, e1, e2⟩
  · left
    refine ⟨1, nI 0, _, ?_, by decide, ?_, rfl, RR_6 (f := fun _ => nI 1) (RR_6 (f := fun _ => nI 0) hr)⟩
    · unfold fX4_remove
      simp (disch := first | omega | assumption) only [kk_nm, Option.bind_some, kl_0, kl_1, kl_2, kl_3, kl_4, kl_5, kl_6, kl_7, kl_8, kl_9, kl_10, kl_12, kl_14, kl_15, kl_16, kl_20, kl_31, kl_33, kl_48, kl_49, kl_50, kl_57, kl_59, kl_60, kl_62, kl_63, kl_98, kl_99, kl_103, kl_104, kl_126, kl_144, kl_310, kl_372, kl_100000, kl_1000000, kl_neg, kl_mm, kl_am, nI_add, kl_mul, kl_sub, kl_le, kl_lt, kl_eq, kl_eM, kl_Me, kl_ltM, kl_leM, kl_ck, kl_cj, kl_cb, kl_bit, nI_clamp, va_up_self, va_up_ne, pk_us, pk_un, if_pos, if_neg, eq_self, and_true, true_and, and_false, false_and, if_true, if_false, Bool.false_eq_true, e1, kk_trl]
    · unfold fX5_remove
      simp (disch := first | omega | assumption) only [kk_nm, Option.bind_some, kl_0, kl_1, kl_2, kl_3, kl_4, kl_5, kl_6, kl_7, kl_8, kl_9, kl_10, kl_12, kl_14, kl_15, kl_16, kl_20, kl_31, kl_33, kl_48, kl_49, kl_50, kl_57, kl_59, kl_60, kl_62, kl_63, kl_98, kl_99, kl_103, kl_104, kl_126, kl_144, kl_310, kl_372, kl_100000, kl_1000000, kl_neg, kl_mm, kl_am, nI_add, kl_mul, kl_sub, kl_le, kl_lt, kl_eq, kl_eM, kl_Me, kl_ltM, kl_leM, kl_ck, kl_cj, kl_cb, kl_bit, nI_clamp, va_up_self, va_up_ne, pk_us, pk_un, if_pos, if_neg, eq_self, and_true, true_and, and_false, false_and, if_true, if_false, Bool.false_eq_true, e2, q5_fails]
  · right
    obtain ⟨V', M', c', ps', e3, e4, hfr, hH'⟩ := q_save (M := va_up M 6 (fun _ => nI 0)) hn (RH_cg rfl rfl hH) hP hW hM
    obtain ⟨P', e5, hP'⟩ := q2_takeAway hn hP hW hj
    have m0 : M' 0 = M 0 := hfr 0 (by omega) (by omega)
    have hM0 : RM (M' 0) s := by rw [m0]; exact hM
    obtain ⟨f', e6, hf'⟩ := q5_goesOut hn hM0 w1.1 hj
    have b1 := hP'.1
    have b2 := hf'.r 4 (by omega)
    rw [gO_4] at b1 b2
    refine ⟨nI (s 4 - 1), va_up G 1 P', V', va_up M' 0 f', ?_, ?_, ?_, RX_up hx (s' := gO j s) (by rw [va_up_self]; exact hP') (by rw [va_up_self]; exact hf') (WF_gO hW) (RH_cg (va_up_ne _ _ (by omega)) (va_up_ne _ _ (by omega)) hH') rfl ?_ ?_⟩
    · unfold fX4_remove
      simp (disch := first | omega | assumption) only [kk_nm, Option.bind_some, kl_0, kl_1, kl_2, kl_3, kl_4, kl_5, kl_6, kl_7, kl_8, kl_9, kl_10, kl_12, kl_14, kl_15, kl_16, kl_20, kl_31, kl_33, kl_48, kl_49, kl_50, kl_57, kl_59, kl_60, kl_62, kl_63, kl_98, kl_99, kl_103, kl_104, kl_126, kl_144, kl_310, kl_372, kl_100000, kl_1000000, kl_neg, kl_mm, kl_am, nI_add, kl_mul, kl_sub, kl_le, kl_lt, kl_eq, kl_eM, kl_Me, kl_ltM, kl_leM, kl_ck, kl_cj, kl_cb, kl_bit, nI_clamp, va_up_self, va_up_ne, pk_us, pk_un, if_pos, if_neg, eq_self, and_true, true_and, and_false, false_and, if_true, if_false, Bool.false_eq_true, e1, kk_trr, e3, e5, b1]
    · unfold fX5_remove
      simp (disch := first | omega | assumption) only [kk_nm, Option.bind_some, kl_0, kl_1, kl_2, kl_3, kl_4, kl_5, kl_6, kl_7, kl_8, kl_9, kl_10, kl_12, kl_14, kl_15, kl_16, kl_20, kl_31, kl_33, kl_48, kl_49, kl_50, kl_57, kl_59, kl_60, kl_62, kl_63, kl_98, kl_99, kl_103, kl_104, kl_126, kl_144, kl_310, kl_372, kl_100000, kl_1000000, kl_neg, kl_mm, kl_am, nI_add, kl_mul, kl_sub, kl_le, kl_lt, kl_eq, kl_eM, kl_Me, kl_ltM, kl_leM, kl_ck, kl_cj, kl_cb, kl_bit, nI_clamp, va_up_self, va_up_ne, pk_us, pk_un, if_pos, if_neg, eq_self, and_true, true_and, and_false, false_and, if_true, if_false, Bool.false_eq_true, e2, e4, e6, b2]
    · rw [va_up_ne _ _ (by omega), hfr 6 (by omega) (by omega)]; rfl
    · rw [va_up_ne _ _ (by omega), hfr 5 (by omega) (by omega)]; rfl
    · rw [va_up_ne _ _ (by omega), hfr 4 (by omega) (by omega)]; rfl
end
