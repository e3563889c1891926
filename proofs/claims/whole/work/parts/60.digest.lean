/-! the digest -/
def w1f (s : Nat → Nat) (p : Nat) (k : Nat) (h : Int64) : Int64 := mx h (nI (t_fp s p k))
def w2f (s : Nat → Nat) (p : Nat) (k : Nat) (h : Int64) : Int64 := mx h (nI (t_by s p k))
def w3f (s : Nat → Nat) (p : Nat) (k : Nat) (h : Int64) : Int64 := mx h (nI (t_cm s (s 3) p k))
def wfl (s : Nat → Nat) (p : Nat) (h : Int64) : Int64 := mx (hg (w3f s p) (hg (w2f s p) (hg (w1f s p) h 7) 3) (s 5 + 1)) (nI (t_bst s p (s 4 - 1)))
def d1f (s : Nat → Nat) (c : Nat) (k : Nat) (h : Int64) : Int64 := mx h (t_nk s c k)
def d2f (s : Nat → Nat) (k : Nat) (h : Int64) : Int64 := mx h (nI (s k))
def d3g (s : Nat → Nat) (b k : Nat) (h : Int64) : Int64 := mx h (nI (t_bp s b k))
def d3f (s : Nat → Nat) (b : Nat) (h : Int64) : Int64 := hg (d3g s b) h 3
def d5f (t : Nat → Nat) (k : Nat) (h : Int64) : Int64 := mx h (nI (t k))
def dgv (s : Nat → Nat) (c cc : Nat) (t : Nat → Nat) (b : Int64) : Int64 :=
  hg (d5f t) (mx (31 * (mx (mx (hg (wfl s) (hg (d3f s) (hg (d2f s) (hg (d1f s c) 2971 9) 4) (s 5)) (s 4)) (cod (t_fo s (s 4)).1)) (if s 4 ≤ 6 then nI (t_lst s) else kM)) + b) (nI cc)) cc
section
variable {n : Nat} {s : Nat → Nat}
theorem q4_withFloat {G : St2} {p : Nat} {h : Int64} (hn : 1000 ≤ n) (hR : RP (G 1) s) (hW : WF s) (hp : p < s 4) : ∃ G', fX4_withFloat n G h (nI p) = some (wfl s p h, G') ∧ RP (G' 1) s ∧ ∀ j, j ≠ 1 → j ≠ 2 → j ≠ 3 → G' j = G j := by
  have w1 := hW.2.1
  have e1 : kk_it (fun (st : Int64 × Int32) => fX4_withFloat_b6 n G (nI p) st.1 st.2) n (h, nI 0) = some (hg (w1f s p) h 7) := by
    refine kl_for (fun k => (hg (w1f s p) h k, nI k)) _ 7 (fun k hk => ?_) ?_ n 0 (by omega) (by omega)
    · show fX4_withFloat_b6 n G (nI p) (hg (w1f s p) h k) (nI k) = some (.inl (mx (hg (w1f s p) h k) (nI (t_fp s p k)), nI (k + 1)))
      have e := q2_floatProperty hk hn hR hW hp
      generalize hg (w1f s p) h k = H
      unfold fX4_withFloat_b6 fX4_mixed mx
      simp (disch := first | omega | assumption) only [kk_nm, Option.bind_some, kl_0, kl_1, kl_2, kl_3, kl_4, kl_5, kl_6, kl_7, kl_8, kl_9, kl_10, kl_12, kl_14, kl_15, kl_16, kl_20, kl_31, kl_33, kl_48, kl_49, kl_50, kl_57, kl_59, kl_60, kl_62, kl_63, kl_98, kl_99, kl_103, kl_104, kl_126, kl_144, kl_310, kl_372, kl_100000, kl_1000000, kl_neg, kl_mm, kl_am, nI_add, kl_mul, kl_sub, kl_le, kl_lt, kl_eq, kl_eM, kl_Me, kl_ltM, kl_leM, kl_ck, kl_cj, kl_cb, kl_bit, nI_clamp, va_up_self, va_up_ne, pk_us, pk_un, if_pos, if_neg, eq_self, and_true, true_and, and_false, false_and, if_true, if_false, Bool.false_eq_true, e]
    · show fX4_withFloat_b6 n G (nI p) (hg (w1f s p) h 7) (nI 7) = _
      generalize hg (w1f s p) h 7 = H
      unfold fX4_withFloat_b6
      simp (disch := first | omega | assumption) only [kk_nm, Option.bind_some, kl_0, kl_1, kl_2, kl_3, kl_4, kl_5, kl_6, kl_7, kl_8, kl_9, kl_10, kl_12, kl_14, kl_15, kl_16, kl_20, kl_31, kl_33, kl_48, kl_49, kl_50, kl_57, kl_59, kl_60, kl_62, kl_63, kl_98, kl_99, kl_103, kl_104, kl_126, kl_144, kl_310, kl_372, kl_100000, kl_1000000, kl_neg, kl_mm, kl_am, nI_add, kl_mul, kl_sub, kl_le, kl_lt, kl_eq, kl_eM, kl_Me, kl_ltM, kl_leM, kl_ck, kl_cj, kl_cb, kl_bit, nI_clamp, va_up_self, va_up_ne, pk_us, pk_un, if_pos, if_neg, eq_self, and_true, true_and, and_false, false_and, if_true, if_false, Bool.false_eq_true]
  have e2 : ∀ h1, kk_it (fun (st : Int64 × Int32) => fX4_withFloat_b40 n G (nI p) st.1 st.2) n (h1, nI 0) = some (hg (w2f s p) h1 3) := by
    intro h1
    refine kl_for (fun k => (hg (w2f s p) h1 k, nI k)) _ 3 (fun k hk => ?_) ?_ n 0 (by omega) (by omega)
    · show fX4_withFloat_b40 n G (nI p) (hg (w2f s p) h1 k) (nI k) = some (.inl (mx (hg (w2f s p) h1 k) (nI (t_by s p k)), nI (k + 1)))
      have e := q2_troubleBy hk hn hR hW hp
      generalize hg (w2f s p) h1 k = H
      unfold fX4_withFloat_b40 fX4_mixed mx
      simp (disch := first | omega | assumption) only [kk_nm, Option.bind_some, kl_0, kl_1, kl_2, kl_3, kl_4, kl_5, kl_6, kl_7, kl_8, kl_9, kl_10, kl_12, kl_14, kl_15, kl_16, kl_20, kl_31, kl_33, kl_48, kl_49, kl_50, kl_57, kl_59, kl_60, kl_62, kl_63, kl_98, kl_99, kl_103, kl_104, kl_126, kl_144, kl_310, kl_372, kl_100000, kl_1000000, kl_neg, kl_mm, kl_am, nI_add, kl_mul, kl_sub, kl_le, kl_lt, kl_eq, kl_eM, kl_Me, kl_ltM, kl_leM, kl_ck, kl_cj, kl_cb, kl_bit, nI_clamp, va_up_self, va_up_ne, pk_us, pk_un, if_pos, if_neg, eq_self, and_true, true_and, and_false, false_and, if_true, if_false, Bool.false_eq_true, e]
    · show fX4_withFloat_b40 n G (nI p) (hg (w2f s p) h1 3) (nI 3) = _
      generalize hg (w2f s p) h1 3 = H
      unfold fX4_withFloat_b40
      simp (disch := first | omega | assumption) only [kk_nm, Option.bind_some, kl_0, kl_1, kl_2, kl_3, kl_4, kl_5, kl_6, kl_7, kl_8, kl_9, kl_10, kl_12, kl_14, kl_15, kl_16, kl_20, kl_31, kl_33, kl_48, kl_49, kl_50, kl_57, kl_59, kl_60, kl_62, kl_63, kl_98, kl_99, kl_103, kl_104, kl_126, kl_144, kl_310, kl_372, kl_100000, kl_1000000, kl_neg, kl_mm, kl_am, nI_add, kl_mul, kl_sub, kl_le, kl_lt, kl_eq, kl_eM, kl_Me, kl_ltM, kl_leM, kl_ck, kl_cj, kl_cb, kl_bit, nI_clamp, va_up_self, va_up_ne, pk_us, pk_un, if_pos, if_neg, eq_self, and_true, true_and, and_false, false_and, if_true, if_false, Bool.false_eq_true]
  obtain ⟨P1, e3, hR1, hcm⟩ := q2_travel hn hR hW hp
  have h5 := hR1.2.1
  have e4 : ∀ h2, kk_it (fun (st : Int64 × Int32) => fX4_withFloat_b81 n (va_up G 1 P1) st.1 st.2) n (h2, nI 0) = some (hg (w3f s p) h2 (s 5 + 1)) := by
    intro h2
    refine kl_for (fun k => (hg (w3f s p) h2 k, nI k)) _ (s 5 + 1) (fun k hk => ?_) ?_ n 0 (by omega) (by omega)
    · show fX4_withFloat_b81 n (va_up G 1 P1) (hg (w3f s p) h2 k) (nI k) = some (.inl (mx (hg (w3f s p) h2 k) (nI (t_cm s (s 3) p k)), nI (k + 1)))
      have e := hcm k (by omega)
      generalize hg (w3f s p) h2 k = H
      unfold fX4_withFloat_b81 fX4_mixed mx
      simp (disch := first | omega | assumption) only [kk_nm, Option.bind_some, kl_0, kl_1, kl_2, kl_3, kl_4, kl_5, kl_6, kl_7, kl_8, kl_9, kl_10, kl_12, kl_14, kl_15, kl_16, kl_20, kl_31, kl_33, kl_48, kl_49, kl_50, kl_57, kl_59, kl_60, kl_62, kl_63, kl_98, kl_99, kl_103, kl_104, kl_126, kl_144, kl_310, kl_372, kl_100000, kl_1000000, kl_neg, kl_mm, kl_am, nI_add, kl_mul, kl_sub, kl_le, kl_lt, kl_eq, kl_eM, kl_Me, kl_ltM, kl_leM, kl_ck, kl_cj, kl_cb, kl_bit, nI_clamp, va_up_self, va_up_ne, pk_us, pk_un, if_pos, if_neg, eq_self, and_true, true_and, and_false, false_and, if_true, if_false, Bool.false_eq_true, h5, e]
    · show fX4_withFloat_b81 n (va_up G 1 P1) (hg (w3f s p) h2 (s 5 + 1)) (nI (s 5 + 1)) = _
      generalize hg (w3f s p) h2 (s 5 + 1) = H
      unfold fX4_withFloat_b81
      simp (disch := first | omega | assumption) only [kk_nm, Option.bind_some, kl_0, kl_1, kl_2, kl_3, kl_4, kl_5, kl_6, kl_7, kl_8, kl_9, kl_10, kl_12, kl_14, kl_15, kl_16, kl_20, kl_31, kl_33, kl_48, kl_49, kl_50, kl_57, kl_59, kl_60, kl_62, kl_63, kl_98, kl_99, kl_103, kl_104, kl_126, kl_144, kl_310, kl_372, kl_100000, kl_1000000, kl_neg, kl_mm, kl_am, nI_add, kl_mul, kl_sub, kl_le, kl_lt, kl_eq, kl_eM, kl_Me, kl_ltM, kl_leM, kl_ck, kl_cj, kl_cb, kl_bit, nI_clamp, va_up_self, va_up_ne, pk_us, pk_un, if_pos, if_neg, eq_self, and_true, true_and, and_false, false_and, if_true, if_false, Bool.false_eq_true, h5]
  obtain ⟨G2, e5, hG2⟩ := q4_placeOfLeast (G := va_up G 1 P1) hn (by rw [va_up_self]; exact hR1) hW hp
  refine ⟨G2, ?_, by rw [hG2 1 (by omega) (by omega), va_up_self]; exact hR1, fun j j1 j2 j3 => by rw [hG2 j j2 j3, va_up_ne _ _ j1]⟩
  unfold fX4_withFloat wfl
  simp (disch := first | omega | assumption) only [kk_nm, Option.bind_some, kl_0, kl_1, kl_2, kl_3, kl_4, kl_5, kl_6, kl_7, kl_8, kl_9, kl_10, kl_12, kl_14, kl_15, kl_16, kl_20, kl_31, kl_33, kl_48, kl_49, kl_50, kl_57, kl_59, kl_60, kl_62, kl_63, kl_98, kl_99, kl_103, kl_104, kl_126, kl_144, kl_310, kl_372, kl_100000, kl_1000000, kl_neg, kl_mm, kl_am, nI_add, kl_mul, kl_sub, kl_le, kl_lt, kl_eq, kl_eM, kl_Me, kl_ltM, kl_leM, kl_ck, kl_cj, kl_cb, kl_bit, nI_clamp, va_up_self, va_up_ne, pk_us, pk_un, if_pos, if_neg, eq_self, and_true, true_and, and_false, false_and, if_true, if_false, Bool.false_eq_true, e1, e2, e3, e4, e5, q4_mixed]
theorem q4_digest {G V : St2} {c cc : Nat} {t : Nat → Nat} {b : Int64} (hn : 1000 ≤ n) (hR : RP (G 1) s) (hW : WF s) (hV : V 0 0 0 = nI c) (hl : G 0 6 0 = nI cc) (hcc : cc ≤ 60) (ht : ∀ k, k < cc → G 0 5 k = nI (t k) ∧ t k < 128) (hb : fX4_bitsOfShare n (t_sh s) = some b) : ∃ G', fX4_digest n G V = some (dgv s c cc t b, G') ∧ RP (G' 1) s ∧ ∀ j, j ≠ 1 → j ≠ 2 → j ≠ 3 → G' j = G j := by
  have w1 := hW.2.1
  obtain ⟨⟨x1, G1⟩, e1, hx1, hR1, hk1⟩ := kl_forI (body := fun (st : Int64 × Int32 × St2) => fX4_digest_b6 n V st.1 st.2.1 st.2.2) (fun k st => st.1 = hg (d1f s c) 2971 k ∧ st.2.1 = nI k ∧ RP (st.2.2 1) s ∧ ∀ j, j ≠ 1 → st.2.2 j = G j) (fun r => r.1 = hg (d1f s c) 2971 9 ∧ RP (r.2 1) s ∧ ∀ j, j ≠ 1 → r.2 j = G j) 9 (fun k st hk hI => by
    obtain ⟨x, x2, G1⟩ := st
    obtain ⟨rfl, rfl, hR1, hk1⟩ := hI
    dsimp only at hR1 hk1 ⊢
    obtain ⟨G2, e, hR2, hk2⟩ := q4_number (G := G1) (V := V) hk hn hR1 hW hV
    refine ⟨(mx (hg (d1f s c) 2971 k) (t_nk s c k), nI (k + 1), G2), ?_, rfl, rfl, hR2, fun j hj => by dsimp only; rw [hk2 j hj]; exact hk1 j hj⟩
    generalize hg (d1f s c) 2971 k = H
    unfold fX4_digest_b6
    simp (disch := first | omega | assumption) only [kk_nm, Option.bind_some, kl_0, kl_1, kl_2, kl_3, kl_4, kl_5, kl_6, kl_7, kl_8, kl_9, kl_10, kl_12, kl_14, kl_15, kl_16, kl_20, kl_31, kl_33, kl_48, kl_49, kl_50, kl_57, kl_59, kl_60, kl_62, kl_63, kl_98, kl_99, kl_103, kl_104, kl_126, kl_144, kl_310, kl_372, kl_100000, kl_1000000, kl_neg, kl_mm, kl_am, nI_add, kl_mul, kl_sub, kl_le, kl_lt, kl_eq, kl_eM, kl_Me, kl_ltM, kl_leM, kl_ck, kl_cj, kl_cb, kl_bit, nI_clamp, va_up_self, va_up_ne, pk_us, pk_un, if_pos, if_neg, eq_self, and_true, true_and, and_false, false_and, if_true, if_false, Bool.false_eq_true, e, q4_mixed]) (fun st hI => by
    obtain ⟨x, x2, G1⟩ := st
    obtain ⟨rfl, rfl, hR1, hk1⟩ := hI
    dsimp only at hR1 hk1 ⊢
    refine ⟨(hg (d1f s c) 2971 9, G1), ?_, rfl, hR1, hk1⟩
    generalize hg (d1f s c) 2971 9 = H
    unfold fX4_digest_b6
    simp (disch := first | omega | assumption) only [kk_nm, Option.bind_some, kl_0, kl_1, kl_2, kl_3, kl_4, kl_5, kl_6, kl_7, kl_8, kl_9, kl_10, kl_12, kl_14, kl_15, kl_16, kl_20, kl_31, kl_33, kl_48, kl_49, kl_50, kl_57, kl_59, kl_60, kl_62, kl_63, kl_98, kl_99, kl_103, kl_104, kl_126, kl_144, kl_310, kl_372, kl_100000, kl_1000000, kl_neg, kl_mm, kl_am, nI_add, kl_mul, kl_sub, kl_le, kl_lt, kl_eq, kl_eM, kl_Me, kl_ltM, kl_leM, kl_ck, kl_cj, kl_cb, kl_bit, nI_clamp, va_up_self, va_up_ne, pk_us, pk_un, if_pos, if_neg, eq_self, and_true, true_and, and_false, false_and, if_true, if_false, Bool.false_eq_true]) n 0 ((2971 : Int64), nI 0, G) (by omega) (by omega) ⟨rfl, rfl, hR, fun _ _ => rfl⟩
  dsimp only at hx1 hR1 hk1
  subst hx1
  have e2 : ∀ h1, kk_it (fun (st : Int64 × Int32) => fX4_digest_b31 n (hg (d1f s c) 2971 9, G1) st.1 st.2) n (h1, nI 0) = some (hg (d2f s) h1 4) := by
    intro h1
    refine kl_for (fun k => (hg (d2f s) h1 k, nI k)) _ 4 (fun k hk => ?_) ?_ n 0 (by omega) (by omega)
    · show fX4_digest_b31 n (hg (d1f s c) 2971 9, G1) (hg (d2f s) h1 k) (nI k) = some (.inl (mx (hg (d2f s) h1 k) (nI (s k)), nI (k + 1)))
      have e := hR1.2.2.2.2 k hk
      generalize hg (d2f s) h1 k = H
      unfold fX4_digest_b31
      simp (disch := first | omega | assumption) only [kk_nm, Option.bind_some, kl_0, kl_1, kl_2, kl_3, kl_4, kl_5, kl_6, kl_7, kl_8, kl_9, kl_10, kl_12, kl_14, kl_15, kl_16, kl_20, kl_31, kl_33, kl_48, kl_49, kl_50, kl_57, kl_59, kl_60, kl_62, kl_63, kl_98, kl_99, kl_103, kl_104, kl_126, kl_144, kl_310, kl_372, kl_100000, kl_1000000, kl_neg, kl_mm, kl_am, nI_add, kl_mul, kl_sub, kl_le, kl_lt, kl_eq, kl_eM, kl_Me, kl_ltM, kl_leM, kl_ck, kl_cj, kl_cb, kl_bit, nI_clamp, va_up_self, va_up_ne, pk_us, pk_un, if_pos, if_neg, eq_self, and_true, true_and, and_false, false_and, if_true, if_false, Bool.false_eq_true, e, q4_mixed]
    · show fX4_digest_b31 n (hg (d1f s c) 2971 9, G1) (hg (d2f s) h1 4) (nI 4) = _
      generalize hg (d2f s) h1 4 = H
      unfold fX4_digest_b31
      simp (disch := first | omega | assumption) only [kk_nm, Option.bind_some, kl_0, kl_1, kl_2, kl_3, kl_4, kl_5, kl_6, kl_7, kl_8, kl_9, kl_10, kl_12, kl_14, kl_15, kl_16, kl_20, kl_31, kl_33, kl_48, kl_49, kl_50, kl_57, kl_59, kl_60, kl_62, kl_63, kl_98, kl_99, kl_103, kl_104, kl_126, kl_144, kl_310, kl_372, kl_100000, kl_1000000, kl_neg, kl_mm, kl_am, nI_add, kl_mul, kl_sub, kl_le, kl_lt, kl_eq, kl_eM, kl_Me, kl_ltM, kl_leM, kl_ck, kl_cj, kl_cb, kl_bit, nI_clamp, va_up_self, va_up_ne, pk_us, pk_un, if_pos, if_neg, eq_self, and_true, true_and, and_false, false_and, if_true, if_false, Bool.false_eq_true]
  have e3 : ∀ h1, kk_it (fun (st : Int64 × Int32) => fX4_digest_b59 n (hg (d1f s c) 2971 9, G1) st.1 st.2) n (h1, nI 0) = some (hg (d3f s) h1 (s 5)) := by
    intro h1
    have h5 := hR1.2.1
    refine kl_for (fun k => (hg (d3f s) h1 k, nI k)) _ (s 5) (fun k hk => ?_) ?_ n 0 (by omega) (by omega)
    · show fX4_digest_b59 n (hg (d1f s c) 2971 9, G1) (hg (d3f s) h1 k) (nI k) = some (.inl (hg (d3g s k) (hg (d3f s) h1 k) 3, nI (k + 1)))
      generalize hg (d3f s) h1 k = H
      have e : kk_it (fun (st : Int64 × Int32) => fX4_digest_b73 n (hg (d1f s c) 2971 9, G1) (nI k) st.1 st.2) n (H, nI 0) = some (hg (d3g s k) H 3) := by
        refine kl_for (fun j => (hg (d3g s k) H j, nI j)) _ 3 (fun j hj => ?_) ?_ n 0 (by omega) (by omega)
        · show fX4_digest_b73 n (hg (d1f s c) 2971 9, G1) (nI k) (hg (d3g s k) H j) (nI j) = some (.inl (mx (hg (d3g s k) H j) (nI (t_bp s k j)), nI (j + 1)))
          have e := q2_bridgeProperty hj hn hR1 hW hk
          generalize hg (d3g s k) H j = H'
          unfold fX4_digest_b73
          simp (disch := first | omega | assumption) only [kk_nm, Option.bind_some, kl_0, kl_1, kl_2, kl_3, kl_4, kl_5, kl_6, kl_7, kl_8, kl_9, kl_10, kl_12, kl_14, kl_15, kl_16, kl_20, kl_31, kl_33, kl_48, kl_49, kl_50, kl_57, kl_59, kl_60, kl_62, kl_63, kl_98, kl_99, kl_103, kl_104, kl_126, kl_144, kl_310, kl_372, kl_100000, kl_1000000, kl_neg, kl_mm, kl_am, nI_add, kl_mul, kl_sub, kl_le, kl_lt, kl_eq, kl_eM, kl_Me, kl_ltM, kl_leM, kl_ck, kl_cj, kl_cb, kl_bit, nI_clamp, va_up_self, va_up_ne, pk_us, pk_un, if_pos, if_neg, eq_self, and_true, true_and, and_false, false_and, if_true, if_false, Bool.false_eq_true, e, q4_mixed]
        · show fX4_digest_b73 n (hg (d1f s c) 2971 9, G1) (nI k) (hg (d3g s k) H 3) (nI 3) = _
          generalize hg (d3g s k) H 3 = H'
          unfold fX4_digest_b73
          simp (disch := first | omega | assumption) only [kk_nm, Option.bind_some, kl_0, kl_1, kl_2, kl_3, kl_4, kl_5, kl_6, kl_7, kl_8, kl_9, kl_10, kl_12, kl_14, kl_15, kl_16, kl_20, kl_31, kl_33, kl_48, kl_49, kl_50, kl_57, kl_59, kl_60, kl_62, kl_63, kl_98, kl_99, kl_103, kl_104, kl_126, kl_144, kl_310, kl_372, kl_100000, kl_1000000, kl_neg, kl_mm, kl_am, nI_add, kl_mul, kl_sub, kl_le, kl_lt, kl_eq, kl_eM, kl_Me, kl_ltM, kl_leM, kl_ck, kl_cj, kl_cb, kl_bit, nI_clamp, va_up_self, va_up_ne, pk_us, pk_un, if_pos, if_neg, eq_self, and_true, true_and, and_false, false_and, if_true, if_false, Bool.false_eq_true]
      unfold fX4_digest_b59
      simp (disch := first | omega | assumption) only [kk_nm, Option.bind_some, kl_0, kl_1, kl_2, kl_3, kl_4, kl_5, kl_6, kl_7, kl_8, kl_9, kl_10, kl_12, kl_14, kl_15, kl_16, kl_20, kl_31, kl_33, kl_48, kl_49, kl_50, kl_57, kl_59, kl_60, kl_62, kl_63, kl_98, kl_99, kl_103, kl_104, kl_126, kl_144, kl_310, kl_372, kl_100000, kl_1000000, kl_neg, kl_mm, kl_am, nI_add, kl_mul, kl_sub, kl_le, kl_lt, kl_eq, kl_eM, kl_Me, kl_ltM, kl_leM, kl_ck, kl_cj, kl_cb, kl_bit, nI_clamp, va_up_self, va_up_ne, pk_us, pk_un, if_pos, if_neg, eq_self, and_true, true_and, and_false, false_and, if_true, if_false, Bool.false_eq_true, h5, e]
    · show fX4_digest_b59 n (hg (d1f s c) 2971 9, G1) (hg (d3f s) h1 (s 5)) (nI (s 5)) = _
      generalize hg (d3f s) h1 (s 5) = H
      unfold fX4_digest_b59
      simp (disch := first | omega | assumption) only [kk_nm, Option.bind_some, kl_0, kl_1, kl_2, kl_3, kl_4, kl_5, kl_6, kl_7, kl_8, kl_9, kl_10, kl_12, kl_14, kl_15, kl_16, kl_20, kl_31, kl_33, kl_48, kl_49, kl_50, kl_57, kl_59, kl_60, kl_62, kl_63, kl_98, kl_99, kl_103, kl_104, kl_126, kl_144, kl_310, kl_372, kl_100000, kl_1000000, kl_neg, kl_mm, kl_am, nI_add, kl_mul, kl_sub, kl_le, kl_lt, kl_eq, kl_eM, kl_Me, kl_ltM, kl_leM, kl_ck, kl_cj, kl_cb, kl_bit, nI_clamp, va_up_self, va_up_ne, pk_us, pk_un, if_pos, if_neg, eq_self, and_true, true_and, and_false, false_and, if_true, if_false, Bool.false_eq_true, h5]
  generalize hH3 : hg (d3f s) (hg (d2f s) (hg (d1f s c) 2971 9) 4) (s 5) = h3
  obtain ⟨⟨x4, G4⟩, e4, hx4, hR4, hk4⟩ := kl_forI (body := fun (st : Int64 × Int32 × St2) => fX4_digest_b109 n st.1 st.2.1 st.2.2) (fun k st => st.1 = hg (wfl s) h3 k ∧ st.2.1 = nI k ∧ RP (st.2.2 1) s ∧ ∀ j, j ≠ 1 → j ≠ 2 → j ≠ 3 → st.2.2 j = G j) (fun r => r.1 = hg (wfl s) h3 (s 4) ∧ RP (r.2 1) s ∧ ∀ j, j ≠ 1 → j ≠ 2 → j ≠ 3 → r.2 j = G j) (s 4) (fun k st hk hI => by
    obtain ⟨x, x2, G5⟩ := st
    obtain ⟨rfl, rfl, hR5, hk5⟩ := hI
    dsimp only at hR5 hk5 ⊢
    have h0 := hR5.1
    obtain ⟨G2, e, hR2, hk2⟩ := q4_withFloat (G := G5) (h := hg (wfl s) h3 k) hn hR5 hW hk
    refine ⟨(wfl s k (hg (wfl s) h3 k), nI (k + 1), G2), ?_, rfl, rfl, hR2, fun j j1 j2 j3 => by dsimp only; rw [hk2 j j1 j2 j3]; exact hk5 j j1 j2 j3⟩
    generalize hg (wfl s) h3 k = H at e ⊢
    unfold fX4_digest_b109
    simp (disch := first | omega | assumption) only [kk_nm, Option.bind_some, kl_0, kl_1, kl_2, kl_3, kl_4, kl_5, kl_6, kl_7, kl_8, kl_9, kl_10, kl_12, kl_14, kl_15, kl_16, kl_20, kl_31, kl_33, kl_48, kl_49, kl_50, kl_57, kl_59, kl_60, kl_62, kl_63, kl_98, kl_99, kl_103, kl_104, kl_126, kl_144, kl_310, kl_372, kl_100000, kl_1000000, kl_neg, kl_mm, kl_am, nI_add, kl_mul, kl_sub, kl_le, kl_lt, kl_eq, kl_eM, kl_Me, kl_ltM, kl_leM, kl_ck, kl_cj, kl_cb, kl_bit, nI_clamp, va_up_self, va_up_ne, pk_us, pk_un, if_pos, if_neg, eq_self, and_true, true_and, and_false, false_and, if_true, if_false, Bool.false_eq_true, h0, e]) (fun st hI => by
    obtain ⟨x, x2, G5⟩ := st
    obtain ⟨rfl, rfl, hR5, hk5⟩ := hI
    dsimp only at hR5 hk5 ⊢
    have h0 := hR5.1
    refine ⟨(hg (wfl s) h3 (s 4), G5), ?_, rfl, hR5, hk5⟩
    generalize hg (wfl s) h3 (s 4) = H
    unfold fX4_digest_b109
    simp (disch := first | omega | assumption) only [kk_nm, Option.bind_some, kl_0, kl_1, kl_2, kl_3, kl_4, kl_5, kl_6, kl_7, kl_8, kl_9, kl_10, kl_12, kl_14, kl_15, kl_16, kl_20, kl_31, kl_33, kl_48, kl_49, kl_50, kl_57, kl_59, kl_60, kl_62, kl_63, kl_98, kl_99, kl_103, kl_104, kl_126, kl_144, kl_310, kl_372, kl_100000, kl_1000000, kl_neg, kl_mm, kl_am, nI_add, kl_mul, kl_sub, kl_le, kl_lt, kl_eq, kl_eM, kl_Me, kl_ltM, kl_leM, kl_ck, kl_cj, kl_cb, kl_bit, nI_clamp, va_up_self, va_up_ne, pk_us, pk_un, if_pos, if_neg, eq_self, and_true, true_and, and_false, false_and, if_true, if_false, Bool.false_eq_true, h0]) n 0 (h3, nI 0, G1) (by omega) (by omega) ⟨rfl, rfl, hR1, fun j j1 _ _ => hk1 j j1⟩
  dsimp only at hx4 hR4 hk4
  subst hx4
  obtain ⟨G5, e5, hk5⟩ := q4_bestFold (G := G4) hn hR4 hW
  have hR5 : RP (G5 1) s := by rw [hk5 1 (by omega)]; exact hR4
  obtain ⟨G6, e6, hk6⟩ := q4_leastTrouble (G := G5) hn hR5 hW
  have hR6 : RP (G6 1) s := by rw [hk6 1 (by omega)]; exact hR5
  have e7 := q4_smoothness (G := G6) hn hR6 hW
  have h60 : G6 0 = G 0 := by rw [hk6 0 (by omega), hk5 0 (by omega), hk4 0 (by omega) (by omega) (by omega)]
  have hl6 : G6 0 6 0 = nI cc := by rw [h60]; exact hl
  have e8 : ∀ (L : Int32) (h1 : Int64), kk_it (fun (st : Int64 × Int32) => fX4_digest_b177 n (L, G6) st.1 st.2) n (h1, nI 0) = some (hg (d5f t) h1 cc) := by
    intro L h1
    refine kl_for (fun k => (hg (d5f t) h1 k, nI k)) _ cc (fun k hk => ?_) ?_ n 0 (by omega) (by omega)
    · show fX4_digest_b177 n (L, G6) (hg (d5f t) h1 k) (nI k) = some (.inl (mx (hg (d5f t) h1 k) (nI (t k)), nI (k + 1)))
      have e := (ht k hk).1
      rw [← h60] at e
      generalize hg (d5f t) h1 k = H
      unfold fX4_digest_b177
      simp (disch := first | omega | assumption) only [kk_nm, Option.bind_some, kl_0, kl_1, kl_2, kl_3, kl_4, kl_5, kl_6, kl_7, kl_8, kl_9, kl_10, kl_12, kl_14, kl_15, kl_16, kl_20, kl_31, kl_33, kl_48, kl_49, kl_50, kl_57, kl_59, kl_60, kl_62, kl_63, kl_98, kl_99, kl_103, kl_104, kl_126, kl_144, kl_310, kl_372, kl_100000, kl_1000000, kl_neg, kl_mm, kl_am, nI_add, kl_mul, kl_sub, kl_le, kl_lt, kl_eq, kl_eM, kl_Me, kl_ltM, kl_leM, kl_ck, kl_cj, kl_cb, kl_bit, nI_clamp, va_up_self, va_up_ne, pk_us, pk_un, if_pos, if_neg, eq_self, and_true, true_and, and_false, false_and, if_true, if_false, Bool.false_eq_true, hl6, e, q4_mixed]
    · show fX4_digest_b177 n (L, G6) (hg (d5f t) h1 cc) (nI cc) = _
      generalize hg (d5f t) h1 cc = H
      unfold fX4_digest_b177
      simp (disch := first | omega | assumption) only [kk_nm, Option.bind_some, kl_0, kl_1, kl_2, kl_3, kl_4, kl_5, kl_6, kl_7, kl_8, kl_9, kl_10, kl_12, kl_14, kl_15, kl_16, kl_20, kl_31, kl_33, kl_48, kl_49, kl_50, kl_57, kl_59, kl_60, kl_62, kl_63, kl_98, kl_99, kl_103, kl_104, kl_126, kl_144, kl_310, kl_372, kl_100000, kl_1000000, kl_neg, kl_mm, kl_am, nI_add, kl_mul, kl_sub, kl_le, kl_lt, kl_eq, kl_eM, kl_Me, kl_ltM, kl_leM, kl_ck, kl_cj, kl_cb, kl_bit, nI_clamp, va_up_self, va_up_ne, pk_us, pk_un, if_pos, if_neg, eq_self, and_true, true_and, and_false, false_and, if_true, if_false, Bool.false_eq_true, hl6]
  refine ⟨G6, ?_, hR6, fun j j1 j2 j3 => by rw [hk6 j j2, hk5 j j2]; exact hk4 j j1 j2 j3⟩
  have em : ∀ (h x : Int64), fX4_mixed n h x = some (31 * h + x) := fun _ _ => rfl
  unfold fX4_digest dgv
  rw [hH3]
  simp (disch := first | omega | assumption) only [kk_nm, Option.bind_some, kl_0, kl_1, kl_2, kl_3, kl_4, kl_5, kl_6, kl_7, kl_8, kl_9, kl_10, kl_12, kl_14, kl_15, kl_16, kl_20, kl_31, kl_33, kl_48, kl_49, kl_50, kl_57, kl_59, kl_60, kl_62, kl_63, kl_98, kl_99, kl_103, kl_104, kl_126, kl_144, kl_310, kl_372, kl_100000, kl_1000000, kl_neg, kl_mm, kl_am, nI_add, kl_mul, kl_sub, kl_le, kl_lt, kl_eq, kl_eM, kl_Me, kl_ltM, kl_leM, kl_ck, kl_cj, kl_cb, kl_bit, nI_clamp, va_up_self, va_up_ne, pk_us, pk_un, if_pos, if_neg, eq_self, and_true, true_and, and_false, false_and, if_true, if_false, Bool.false_eq_true, e1, e2, e3, hH3, e4, e5, q4_mixed, e6, e7, hb, em, e8, hl6]
  rfl
end
