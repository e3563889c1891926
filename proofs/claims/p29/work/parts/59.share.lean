/-! the share of the floats without trouble -/
def shv (m k : Nat) : UInt64 := FP.ddiv (FP.i2d (nI m - nI k)) (FP.i2d (nI m))
def shok (x : UInt64) : Bool := decide (x &&& 0x7fffffffffffffff ≤ 0x7ff0000000000000) && (match fX4_bitsOfShare 12 x, fJxe99ae_doubleToLongBits_ccdee 12 x with
  | some a, some b => a == b
  | _, _ => false)
theorem sh_all : ∀ m, m < 13 → ∀ k, k < 13 → k ≤ m → 1 ≤ m → shok (shv m k) = true := by decide +kernel
theorem sh_one : shok FP.dconst1 = true := by decide +kernel
theorem shok_el {x : UInt64} (h : shok x = true) : (∀ {α : Type} (y : Option α), kk_cn x y = y) ∧ ∃ b, fX4_bitsOfShare 12 x = some b ∧ fJxe99ae_doubleToLongBits_ccdee 12 x = some b := by
  unfold shok at h
  rw [Bool.and_eq_true] at h
  refine ⟨fun y => ?_, ?_⟩
  · unfold kk_cn
    rw [if_pos (of_decide_eq_true h.1)]
  · have h2 := h.2
    cases h3 : fX4_bitsOfShare 12 x with
    | none => rw [h3] at h2; cases h2
    | some a =>
      cases h4 : fJxe99ae_doubleToLongBits_ccdee 12 x with
      | none => rw [h3, h4] at h2; cases h2
      | some b =>
        rw [h3, h4] at h2
        have e : a = b := eq_of_beq h2
        exact ⟨b, by rw [e], rfl⟩
/-- more fuel -/
theorem bits_mono {x : UInt64} {b : Int64} {k n : Nat} (hkn : k ≤ n) (h : fX4_bitsOfShare k x = some b) : fX4_bitsOfShare n x = some b := by
  unfold fX4_bitsOfShare at h ⊢
  by_cases c : 0 < Op.cmpValue (FP.dcmp x FP.dconst0) .g
  · rw [if_pos c] at h ⊢
    obtain ⟨r, h1, h2⟩ := kk_bd_el h
    have h3 : kk_it (fun (st : UInt64 × Int64) => fX4_bitsOfShare_b15 n st.1 st.2) n (x, (1023 : Int64)) = some r := kl_mono hkn h1
    rw [h3]
    exact h2
  · rw [if_neg c] at h ⊢
    exact h
theorem dbl_any {x : UInt64} {n m : Nat} : fJxe99ae_doubleToLongBits_ccdee n x = fJxe99ae_doubleToLongBits_ccdee m x := rfl
def t_sh (s : Nat → Nat) : UInt64 := if s 4 = 0 then FP.dconst1 else shv (s 4) (sm (t_trd s) (s 4))
theorem t_sh_ok {s : Nat → Nat} (hW : WF s) : shok (t_sh s) = true := by
  have w1 := hW.2.1
  have h := sm_le (f := t_trd s) (c := 1) (n := s 4) (fun i _ => by unfold t_trd; split <;> omega)
  unfold t_sh
  by_cases c : s 4 = 0
  · rw [if_pos c]; exact sh_one
  · rw [if_neg c]; exact sh_all _ (by omega) _ (by omega) (by omega) (by omega)
section
variable {n : Nat} {s : Nat → Nat}
theorem q4_smoothness {G : St2} (hn : 1000 ≤ n) (hR : RP (G 1) s) (hW : WF s) : fX4_smoothness n G = some (t_sh s) := by
  have w1 := hW.2.1
  have h0 := hR.1
  have ht := q2_troubledFloats hn hR hW
  have hok : ∀ (y : Option UInt64), kk_cn (t_sh s) y = y := fun y => (shok_el (t_sh_ok hW)).1 y
  unfold fX4_smoothness
  unfold t_sh at hok ⊢
  by_cases c : s 4 = 0
  · rw [if_pos c] at hok ⊢
    simp (disch := first | omega | assumption) only [kk_nm, Option.bind_some, kl_0, kl_1, kl_2, kl_3, kl_4, kl_5, kl_6, kl_7, kl_8, kl_9, kl_10, kl_12, kl_14, kl_15, kl_16, kl_20, kl_31, kl_33, kl_48, kl_49, kl_50, kl_57, kl_59, kl_60, kl_62, kl_63, kl_98, kl_99, kl_103, kl_104, kl_126, kl_144, kl_310, kl_372, kl_100000, kl_1000000, kl_neg, kl_mm, kl_am, nI_add, kl_mul, kl_sub, kl_le, kl_lt, kl_eq, kl_eM, kl_Me, kl_ltM, kl_leM, kl_ck, kl_cj, kl_cb, kl_bit, nI_clamp, va_up_self, va_up_ne, pk_us, pk_un, if_pos, if_neg, eq_self, and_true, true_and, and_false, false_and, if_true, if_false, Bool.false_eq_true, h0]
  · rw [if_neg c] at hok ⊢
    unfold shv at hok ⊢
    rw [h0, ht, if_pos (by rw [kl_0, kl_lt (by omega) (by omega)]; omega)]
    simp only [Option.bind_some]
    exact hok _
theorem q5_smooth {M : St1} (hn : 1000 ≤ n) (hR : RM (M 0) s) (hW : WF s) : fX5_smooth n M = some (t_sh s) := by
  have w1 := hW.2.1
  have m4 := hR 4 (by omega)
  have ht := q5_over5 hn hR hW
  have hok : ∀ (y : Option UInt64), kk_cn (t_sh s) y = y := fun y => (shok_el (t_sh_ok hW)).1 y
  unfold fX5_smooth
  unfold t_sh at hok ⊢
  by_cases c : s 4 = 0
  · rw [if_pos c] at hok ⊢
    simp (disch := first | omega | assumption) only [kk_nm, Option.bind_some, kl_0, kl_1, kl_2, kl_3, kl_4, kl_5, kl_6, kl_7, kl_8, kl_9, kl_10, kl_12, kl_14, kl_15, kl_16, kl_20, kl_31, kl_33, kl_48, kl_49, kl_50, kl_57, kl_59, kl_60, kl_62, kl_63, kl_98, kl_99, kl_103, kl_104, kl_126, kl_144, kl_310, kl_372, kl_100000, kl_1000000, kl_neg, kl_mm, kl_am, nI_add, kl_mul, kl_sub, kl_le, kl_lt, kl_eq, kl_eM, kl_Me, kl_ltM, kl_leM, kl_ck, kl_cj, kl_cb, kl_bit, nI_clamp, va_up_self, va_up_ne, pk_us, pk_un, if_pos, if_neg, eq_self, and_true, true_and, and_false, false_and, if_true, if_false, Bool.false_eq_true, m4]
  · rw [if_neg c] at hok ⊢
    unfold shv at hok ⊢
    rw [kl_4, nI_clamp (by omega), m4, if_neg (by rw [kl_0, kl_eq (by omega) (by omega)]; exact c)]
    rw [kl_5, ht]
    simp only [Option.bind_some]
    exact hok _
theorem q_bits (hn : 1000 ≤ n) (hW : WF s) : ∃ b, fX4_bitsOfShare n (t_sh s) = some b ∧ fJxe99ae_doubleToLongBits_ccdee n (t_sh s) = some b := by
  obtain ⟨b, h1, h2⟩ := (shok_el (t_sh_ok hW)).2
  exact ⟨b, bits_mono (by omega) h1, by rw [← h2]; rfl⟩
/-! the digest -/
def mx (h : Int64) (x : Int32) : Int64 := 31 * h + x.toInt64
def hg (F : Nat → Int64 → Int64) (h : Int64) : Nat → Int64
  | 0 => h
  | k + 1 => F k (hg F h k)
theorem q4_mixed {h : Int64} {x : Int32} : fX4_mixed n h x.toInt64 = some (mx h x) := rfl
def t_nk (s : Nat → Nat) (c k : Nat) : Int32 := if k = 0 then nI (s 4) else if k = 1 then nI (s 5) else if k = 2 then nI (t_all s) else if k = 3 then nI (t_end s (s 3)) else if k = 4 then nI (sm (t_lwd s) (s 4)) else if k = 5 then nI (sm (t_trd s) (s 4)) else if k = 6 then nI (t_end s (s 3)) - nI (t_end s 0) else if k = 7 then nI (t_gh s (s 4)) else nI c
theorem q4_number {G V : St2} {c k : Nat} (hk : k < 9) (hn : 1000 ≤ n) (hR : RP (G 1) s) (hW : WF s) (hV : V 0 0 0 = nI c) : ∃ G', fX4_number n G V (nI k) = some (t_nk s c k, G') ∧ RP (G' 1) s ∧ ∀ j, j ≠ 1 → G' j = G j := by
  have w1 := hW.2.1
  have h0 := hR.1
  have h5 := hR.2.1
  have e2 := q2_allTrouble hn hR hW
  have e4 := q2_loweredFloats hn hR hW
  have e5 := q2_troubledFloats hn hR hW
  have e7 := q2_greatestHeight hn hR hW
  obtain ⟨P3, e3, hR3⟩ := q2_end hn hR hW
  obtain ⟨P6, e6, hR6⟩ := q2_waiting hn hR hW
  unfold fX4_number t_nk
  rcases (by omega : k = 0 ∨ k = 1 ∨ k = 2 ∨ k = 3 ∨ k = 4 ∨ k = 5 ∨ k = 6 ∨ k = 7 ∨ k = 8) with rfl | rfl | rfl | rfl | rfl | rfl | rfl | rfl | rfl
  · refine ⟨G, ?_, hR, fun _ _ => rfl⟩
    simp (disch := first | omega | assumption) only [kk_nm, Option.bind_some, kl_0, kl_1, kl_2, kl_3, kl_4, kl_5, kl_6, kl_7, kl_8, kl_9, kl_10, kl_12, kl_14, kl_15, kl_16, kl_20, kl_31, kl_33, kl_48, kl_49, kl_50, kl_57, kl_59, kl_60, kl_62, kl_63, kl_98, kl_99, kl_103, kl_104, kl_126, kl_144, kl_310, kl_372, kl_100000, kl_1000000, kl_neg, kl_mm, kl_am, nI_add, kl_mul, kl_sub, kl_le, kl_lt, kl_eq, kl_eM, kl_Me, kl_ltM, kl_leM, kl_ck, kl_cj, kl_cb, kl_bit, nI_clamp, va_up_self, va_up_ne, pk_us, pk_un, if_pos, if_neg, eq_self, and_true, true_and, and_false, false_and, if_true, if_false, Bool.false_eq_true, h0]
  · refine ⟨G, ?_, hR, fun _ _ => rfl⟩
    simp (disch := first | omega | assumption) only [kk_nm, Option.bind_some, kl_0, kl_1, kl_2, kl_3, kl_4, kl_5, kl_6, kl_7, kl_8, kl_9, kl_10, kl_12, kl_14, kl_15, kl_16, kl_20, kl_31, kl_33, kl_48, kl_49, kl_50, kl_57, kl_59, kl_60, kl_62, kl_63, kl_98, kl_99, kl_103, kl_104, kl_126, kl_144, kl_310, kl_372, kl_100000, kl_1000000, kl_neg, kl_mm, kl_am, nI_add, kl_mul, kl_sub, kl_le, kl_lt, kl_eq, kl_eM, kl_Me, kl_ltM, kl_leM, kl_ck, kl_cj, kl_cb, kl_bit, nI_clamp, va_up_self, va_up_ne, pk_us, pk_un, if_pos, if_neg, eq_self, and_true, true_and, and_false, false_and, if_true, if_false, Bool.false_eq_true, h5]
  · refine ⟨G, ?_, hR, fun _ _ => rfl⟩
    simp (disch := first | omega | assumption) only [kk_nm, Option.bind_some, kl_0, kl_1, kl_2, kl_3, kl_4, kl_5, kl_6, kl_7, kl_8, kl_9, kl_10, kl_12, kl_14, kl_15, kl_16, kl_20, kl_31, kl_33, kl_48, kl_49, kl_50, kl_57, kl_59, kl_60, kl_62, kl_63, kl_98, kl_99, kl_103, kl_104, kl_126, kl_144, kl_310, kl_372, kl_100000, kl_1000000, kl_neg, kl_mm, kl_am, nI_add, kl_mul, kl_sub, kl_le, kl_lt, kl_eq, kl_eM, kl_Me, kl_ltM, kl_leM, kl_ck, kl_cj, kl_cb, kl_bit, nI_clamp, va_up_self, va_up_ne, pk_us, pk_un, if_pos, if_neg, eq_self, and_true, true_and, and_false, false_and, if_true, if_false, Bool.false_eq_true, e2]
  · refine ⟨va_up G 1 P3, ?_, by rw [va_up_self]; exact hR3, fun j hj => va_up_ne _ _ hj⟩
    simp (disch := first | omega | assumption) only [kk_nm, Option.bind_some, kl_0, kl_1, kl_2, kl_3, kl_4, kl_5, kl_6, kl_7, kl_8, kl_9, kl_10, kl_12, kl_14, kl_15, kl_16, kl_20, kl_31, kl_33, kl_48, kl_49, kl_50, kl_57, kl_59, kl_60, kl_62, kl_63, kl_98, kl_99, kl_103, kl_104, kl_126, kl_144, kl_310, kl_372, kl_100000, kl_1000000, kl_neg, kl_mm, kl_am, nI_add, kl_mul, kl_sub, kl_le, kl_lt, kl_eq, kl_eM, kl_Me, kl_ltM, kl_leM, kl_ck, kl_cj, kl_cb, kl_bit, nI_clamp, va_up_self, va_up_ne, pk_us, pk_un, if_pos, if_neg, eq_self, and_true, true_and, and_false, false_and, if_true, if_false, Bool.false_eq_true, e3]
  · refine ⟨G, ?_, hR, fun _ _ => rfl⟩
    simp (disch := first | omega | assumption) only [kk_nm, Option.bind_some, kl_0, kl_1, kl_2, kl_3, kl_4, kl_5, kl_6, kl_7, kl_8, kl_9, kl_10, kl_12, kl_14, kl_15, kl_16, kl_20, kl_31, kl_33, kl_48, kl_49, kl_50, kl_57, kl_59, kl_60, kl_62, kl_63, kl_98, kl_99, kl_103, kl_104, kl_126, kl_144, kl_310, kl_372, kl_100000, kl_1000000, kl_neg, kl_mm, kl_am, nI_add, kl_mul, kl_sub, kl_le, kl_lt, kl_eq, kl_eM, kl_Me, kl_ltM, kl_leM, kl_ck, kl_cj, kl_cb, kl_bit, nI_clamp, va_up_self, va_up_ne, pk_us, pk_un, if_pos, if_neg, eq_self, and_true, true_and, and_false, false_and, if_true, if_false, Bool.false_eq_true, e4]
  · refine ⟨G, ?_, hR, fun _ _ => rfl⟩
    simp (disch := first | omega | assumption) only [kk_nm, Option.bind_some, kl_0, kl_1, kl_2, kl_3, kl_4, kl_5, kl_6, kl_7, kl_8, kl_9, kl_10, kl_12, kl_14, kl_15, kl_16, kl_20, kl_31, kl_33, kl_48, kl_49, kl_50, kl_57, kl_59, kl_60, kl_62, kl_63, kl_98, kl_99, kl_103, kl_104, kl_126, kl_144, kl_310, kl_372, kl_100000, kl_1000000, kl_neg, kl_mm, kl_am, nI_add, kl_mul, kl_sub, kl_le, kl_lt, kl_eq, kl_eM, kl_Me, kl_ltM, kl_leM, kl_ck, kl_cj, kl_cb, kl_bit, nI_clamp, va_up_self, va_up_ne, pk_us, pk_un, if_pos, if_neg, eq_self, and_true, true_and, and_false, false_and, if_true, if_false, Bool.false_eq_true, e5]
  · refine ⟨va_up G 1 P6, ?_, by rw [va_up_self]; exact hR6, fun j hj => va_up_ne _ _ hj⟩
    have n0 : ¬ nI 6 = nI 0 := by decide
    have n1 : ¬ nI 6 = nI 1 := by decide
    have n2 : ¬ nI 6 = nI 2 := by decide
    have n3 : ¬ nI 6 = nI 3 := by decide
    have n4 : ¬ nI 6 = nI 4 := by decide
    have n5 : ¬ nI 6 = nI 5 := by decide
    rw [kl_0, kl_1, kl_2, kl_3, kl_4, kl_5, kl_6, if_neg n0, if_neg n1, if_neg n2, if_neg n3, if_neg n4, if_neg n5, if_pos rfl, e6, if_neg (by omega), if_neg (by omega), if_neg (by omega), if_neg (by omega), if_neg (by omega), if_neg (by omega), if_pos rfl]
    rfl
  · refine ⟨G, ?_, hR, fun _ _ => rfl⟩
    simp (disch := first | omega | assumption) only [kk_nm, Option.bind_some, kl_0, kl_1, kl_2, kl_3, kl_4, kl_5, kl_6, kl_7, kl_8, kl_9, kl_10, kl_12, kl_14, kl_15, kl_16, kl_20, kl_31, kl_33, kl_48, kl_49, kl_50, kl_57, kl_59, kl_60, kl_62, kl_63, kl_98, kl_99, kl_103, kl_104, kl_126, kl_144, kl_310, kl_372, kl_100000, kl_1000000, kl_neg, kl_mm, kl_am, nI_add, kl_mul, kl_sub, kl_le, kl_lt, kl_eq, kl_eM, kl_Me, kl_ltM, kl_leM, kl_ck, kl_cj, kl_cb, kl_bit, nI_clamp, va_up_self, va_up_ne, pk_us, pk_un, if_pos, if_neg, eq_self, and_true, true_and, and_false, false_and, if_true, if_false, Bool.false_eq_true, e7]
  · refine ⟨G, ?_, hR, fun _ _ => rfl⟩
    simp (disch := first | omega | assumption) only [kk_nm, Option.bind_some, kl_0, kl_1, kl_2, kl_3, kl_4, kl_5, kl_6, kl_7, kl_8, kl_9, kl_10, kl_12, kl_14, kl_15, kl_16, kl_20, kl_31, kl_33, kl_48, kl_49, kl_50, kl_57, kl_59, kl_60, kl_62, kl_63, kl_98, kl_99, kl_103, kl_104, kl_126, kl_144, kl_310, kl_372, kl_100000, kl_1000000, kl_neg, kl_mm, kl_am, nI_add, kl_mul, kl_sub, kl_le, kl_lt, kl_eq, kl_eM, kl_Me, kl_ltM, kl_leM, kl_ck, kl_cj, kl_cb, kl_bit, nI_clamp, va_up_self, va_up_ne, pk_us, pk_un, if_pos, if_neg, eq_self, and_true, true_and, and_false, false_and, if_true, if_false, Bool.false_eq_true, hV]
theorem q5_counted {M : St1} {c k : Nat} (hk : k < 9) (hn : 1000 ≤ n) (hR : RM (M 0) s) (hW : WF s) (hV : M 3 0 = nI c) : ∃ M', fX5_counted n M (nI k) = some (t_nk s c k, M') ∧ ∀ j, j ≠ 11 → M' j = M j := by
  have w1 := hW.2.1
  have r0 := hR.r
  have e2 := q5_allTrouble hn hR hW
  have e4 := q5_over4 hn hR hW
  have e5 := q5_over5 hn hR hW
  have e7 := q5_over7 hn hR hW
  obtain ⟨M3, e3, hM3, -⟩ := q5_endsN hn hR hW
  obtain ⟨M6, e6, hM6, -⟩ := q5_goesN (M := M3) (L := 0) hn (by rw [hM3 0 (by omega)]; exact hR) hW (by omega)
  unfold fX5_counted t_nk
  rcases (by omega : k = 0 ∨ k = 1 ∨ k = 2 ∨ k = 3 ∨ k = 4 ∨ k = 5 ∨ k = 6 ∨ k = 7 ∨ k = 8) with rfl | rfl | rfl | rfl | rfl | rfl | rfl | rfl | rfl
  · refine ⟨M, ?_, fun _ _ => rfl⟩
    simp (disch := first | omega | assumption) only [kk_nm, Option.bind_some, kl_0, kl_1, kl_2, kl_3, kl_4, kl_5, kl_6, kl_7, kl_8, kl_9, kl_10, kl_12, kl_14, kl_15, kl_16, kl_20, kl_31, kl_33, kl_48, kl_49, kl_50, kl_57, kl_59, kl_60, kl_62, kl_63, kl_98, kl_99, kl_103, kl_104, kl_126, kl_144, kl_310, kl_372, kl_100000, kl_1000000, kl_neg, kl_mm, kl_am, nI_add, kl_mul, kl_sub, kl_le, kl_lt, kl_eq, kl_eM, kl_Me, kl_ltM, kl_leM, kl_ck, kl_cj, kl_cb, kl_bit, nI_clamp, va_up_self, va_up_ne, pk_us, pk_un, if_pos, if_neg, eq_self, and_true, true_and, and_false, false_and, if_true, if_false, Bool.false_eq_true, r0]
  · refine ⟨M, ?_, fun _ _ => rfl⟩
    simp (disch := first | omega | assumption) only [kk_nm, Option.bind_some, kl_0, kl_1, kl_2, kl_3, kl_4, kl_5, kl_6, kl_7, kl_8, kl_9, kl_10, kl_12, kl_14, kl_15, kl_16, kl_20, kl_31, kl_33, kl_48, kl_49, kl_50, kl_57, kl_59, kl_60, kl_62, kl_63, kl_98, kl_99, kl_103, kl_104, kl_126, kl_144, kl_310, kl_372, kl_100000, kl_1000000, kl_neg, kl_mm, kl_am, nI_add, kl_mul, kl_sub, kl_le, kl_lt, kl_eq, kl_eM, kl_Me, kl_ltM, kl_leM, kl_ck, kl_cj, kl_cb, kl_bit, nI_clamp, va_up_self, va_up_ne, pk_us, pk_un, if_pos, if_neg, eq_self, and_true, true_and, and_false, false_and, if_true, if_false, Bool.false_eq_true, r0]
  · refine ⟨M, ?_, fun _ _ => rfl⟩
    simp (disch := first | omega | assumption) only [kk_nm, Option.bind_some, kl_0, kl_1, kl_2, kl_3, kl_4, kl_5, kl_6, kl_7, kl_8, kl_9, kl_10, kl_12, kl_14, kl_15, kl_16, kl_20, kl_31, kl_33, kl_48, kl_49, kl_50, kl_57, kl_59, kl_60, kl_62, kl_63, kl_98, kl_99, kl_103, kl_104, kl_126, kl_144, kl_310, kl_372, kl_100000, kl_1000000, kl_neg, kl_mm, kl_am, nI_add, kl_mul, kl_sub, kl_le, kl_lt, kl_eq, kl_eM, kl_Me, kl_ltM, kl_leM, kl_ck, kl_cj, kl_cb, kl_bit, nI_clamp, va_up_self, va_up_ne, pk_us, pk_un, if_pos, if_neg, eq_self, and_true, true_and, and_false, false_and, if_true, if_false, Bool.false_eq_true, e2]
  · refine ⟨M3, ?_, hM3⟩
    simp (disch := first | omega | assumption) only [kk_nm, Option.bind_some, kl_0, kl_1, kl_2, kl_3, kl_4, kl_5, kl_6, kl_7, kl_8, kl_9, kl_10, kl_12, kl_14, kl_15, kl_16, kl_20, kl_31, kl_33, kl_48, kl_49, kl_50, kl_57, kl_59, kl_60, kl_62, kl_63, kl_98, kl_99, kl_103, kl_104, kl_126, kl_144, kl_310, kl_372, kl_100000, kl_1000000, kl_neg, kl_mm, kl_am, nI_add, kl_mul, kl_sub, kl_le, kl_lt, kl_eq, kl_eM, kl_Me, kl_ltM, kl_leM, kl_ck, kl_cj, kl_cb, kl_bit, nI_clamp, va_up_self, va_up_ne, pk_us, pk_un, if_pos, if_neg, eq_self, and_true, true_and, and_false, false_and, if_true, if_false, Bool.false_eq_true, e3]
  · refine ⟨M, ?_, fun _ _ => rfl⟩
    simp (disch := first | omega | assumption) only [kk_nm, Option.bind_some, kl_0, kl_1, kl_2, kl_3, kl_4, kl_5, kl_6, kl_7, kl_8, kl_9, kl_10, kl_12, kl_14, kl_15, kl_16, kl_20, kl_31, kl_33, kl_48, kl_49, kl_50, kl_57, kl_59, kl_60, kl_62, kl_63, kl_98, kl_99, kl_103, kl_104, kl_126, kl_144, kl_310, kl_372, kl_100000, kl_1000000, kl_neg, kl_mm, kl_am, nI_add, kl_mul, kl_sub, kl_le, kl_lt, kl_eq, kl_eM, kl_Me, kl_ltM, kl_leM, kl_ck, kl_cj, kl_cb, kl_bit, nI_clamp, va_up_self, va_up_ne, pk_us, pk_un, if_pos, if_neg, eq_self, and_true, true_and, and_false, false_and, if_true, if_false, Bool.false_eq_true, e4]
  · refine ⟨M, ?_, fun _ _ => rfl⟩
    simp (disch := first | omega | assumption) only [kk_nm, Option.bind_some, kl_0, kl_1, kl_2, kl_3, kl_4, kl_5, kl_6, kl_7, kl_8, kl_9, kl_10, kl_12, kl_14, kl_15, kl_16, kl_20, kl_31, kl_33, kl_48, kl_49, kl_50, kl_57, kl_59, kl_60, kl_62, kl_63, kl_98, kl_99, kl_103, kl_104, kl_126, kl_144, kl_310, kl_372, kl_100000, kl_1000000, kl_neg, kl_mm, kl_am, nI_add, kl_mul, kl_sub, kl_le, kl_lt, kl_eq, kl_eM, kl_Me, kl_ltM, kl_leM, kl_ck, kl_cj, kl_cb, kl_bit, nI_clamp, va_up_self, va_up_ne, pk_us, pk_un, if_pos, if_neg, eq_self, and_true, true_and, and_false, false_and, if_true, if_false, Bool.false_eq_true, e5]
  · refine ⟨M6, ?_, fun j hj => by rw [hM6 j hj, hM3 j hj]⟩
    have n0 : ¬ nI 6 = nI 0 := by decide
    have n1 : ¬ nI 6 = nI 1 := by decide
    have n2 : ¬ nI 6 = nI 2 := by decide
    have n3 : ¬ nI 6 = nI 3 := by decide
    rw [kl_0, kl_1, kl_2, kl_3, kl_6, if_neg n0, if_neg n1, if_neg n2, if_neg n3, if_pos rfl, e3]
    simp only [Option.bind_some]
    rw [e6, if_neg (by omega), if_neg (by omega), if_neg (by omega), if_neg (by omega), if_neg (by omega), if_neg (by omega)]
    rfl
  · refine ⟨M, ?_, fun _ _ => rfl⟩
    simp (disch := first | omega | assumption) only [kk_nm, Option.bind_some, kl_0, kl_1, kl_2, kl_3, kl_4, kl_5, kl_6, kl_7, kl_8, kl_9, kl_10, kl_12, kl_14, kl_15, kl_16, kl_20, kl_31, kl_33, kl_48, kl_49, kl_50, kl_57, kl_59, kl_60, kl_62, kl_63, kl_98, kl_99, kl_103, kl_104, kl_126, kl_144, kl_310, kl_372, kl_100000, kl_1000000, kl_neg, kl_mm, kl_am, nI_add, kl_mul, kl_sub, kl_le, kl_lt, kl_eq, kl_eM, kl_Me, kl_ltM, kl_leM, kl_ck, kl_cj, kl_cb, kl_bit, nI_clamp, va_up_self, va_up_ne, pk_us, pk_un, if_pos, if_neg, eq_self, and_true, true_and, and_false, false_and, if_true, if_false, Bool.false_eq_true, e7]
  · refine ⟨M, ?_, fun _ _ => rfl⟩
    simp (disch := first | omega | assumption) only [kk_nm, Option.bind_some, kl_0, kl_1, kl_2, kl_3, kl_4, kl_5, kl_6, kl_7, kl_8, kl_9, kl_10, kl_12, kl_14, kl_15, kl_16, kl_20, kl_31, kl_33, kl_48, kl_49, kl_50, kl_57, kl_59, kl_60, kl_62, kl_63, kl_98, kl_99, kl_103, kl_104, kl_126, kl_144, kl_310, kl_372, kl_100000, kl_1000000, kl_neg, kl_mm, kl_am, nI_add, kl_mul, kl_sub, kl_le, kl_lt, kl_eq, kl_eM, kl_Me, kl_ltM, kl_leM, kl_ck, kl_cj, kl_cb, kl_bit, nI_clamp, va_up_self, va_up_ne, pk_us, pk_un, if_pos, if_neg, eq_self, and_true, true_and, and_false, false_and, if_true, if_false, Bool.false_eq_true, hV]
end
