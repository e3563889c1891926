/-! the reference's digest -/
section
variable {n : Nat} {s : Nat → Nat}
theorem q5_digest {M : St1} {c cc : Nat} {t : Nat → Nat} {b : Int64} (hn : 1000 ≤ n) (hR : RM (M 0) s) (hW : WF s) (hV : M 3 0 = nI c) (hl : M 5 0 = nI cc) (hcc : cc ≤ 60) (ht : ∀ k, k < cc → M 4 k = nI (t k) ∧ t k < 128) (hb : fJxe99ae_doubleToLongBits_ccdee n (t_sh s) = some b) : ∃ M', fX5_digest n M = some (dgv s c cc t b, M') ∧ M' 6 0 = nI 0 ∧ ∀ j, j ≠ 1 → j ≠ 6 → j ≠ 11 → M' j = M j := by
  have w1 := hW.2.1
  obtain ⟨⟨x1, M1⟩, e1, hx1, hk1⟩ := kl_forI (body := fun (st : Int64 × Int32 × St1) => fX5_digest_b11 n st.1 st.2.1 st.2.2) (fun k st => st.1 = hg (d1f s c) 2971 k ∧ st.2.1 = nI k ∧ ∀ j, j ≠ 11 → st.2.2 j = va_up M 6 (fun _ => nI 0) j) (fun r => r.1 = hg (d1f s c) 2971 9 ∧ ∀ j, j ≠ 11 → r.2 j = va_up M 6 (fun _ => nI 0) j) 9 (fun k st hk hI => by
    obtain ⟨x, x2, M1⟩ := st
    obtain ⟨rfl, rfl, hk1⟩ := hI
    dsimp only at hk1 ⊢
    obtain ⟨M2, e, hk2⟩ := q5_counted (M := M1) (c := c) hk hn (by rw [hk1 0 (by omega), va_up_ne _ _ (by omega)]; exact hR) hW (by rw [hk1 3 (by omega), va_up_ne _ _ (by omega)]; exact hV)
    refine ⟨(mx (hg (d1f s c) 2971 k) (t_nk s c k), nI (k + 1), M2), ?_, rfl, rfl, fun j hj => by dsimp only; rw [hk2 j hj]; exact hk1 j hj⟩
    generalize hg (d1f s c) 2971 k = H
    unfold fX5_digest_b11 mx
    simp (disch := first | omega | assumption) only [kk_nm, Option.bind_some, kl_0, kl_1, kl_2, kl_3, kl_4, kl_5, kl_6, kl_7, kl_8, kl_9, kl_10, kl_12, kl_14, kl_15, kl_16, kl_20, kl_31, kl_33, kl_48, kl_49, kl_50, kl_57, kl_59, kl_60, kl_62, kl_63, kl_98, kl_99, kl_103, kl_104, kl_126, kl_144, kl_310, kl_372, kl_100000, kl_1000000, kl_neg, kl_mm, kl_am, nI_add, kl_mul, kl_sub, kl_le, kl_lt, kl_eq, kl_eM, kl_Me, kl_ltM, kl_leM, kl_ck, kl_cj, kl_cb, kl_bit, nI_clamp, va_up_self, va_up_ne, pk_us, pk_un, if_pos, if_neg, eq_self, and_true, true_and, and_false, false_and, if_true, if_false, Bool.false_eq_true, e]) (fun st hI => by
    obtain ⟨x, x2, M1⟩ := st
    obtain ⟨rfl, rfl, hk1⟩ := hI
    dsimp only at hk1 ⊢
    refine ⟨(hg (d1f s c) 2971 9, M1), ?_, rfl, hk1⟩
    generalize hg (d1f s c) 2971 9 = H
    unfold fX5_digest_b11
    simp (disch := first | omega | assumption) only [kk_nm, Option.bind_some, kl_0, kl_1, kl_2, kl_3, kl_4, kl_5, kl_6, kl_7, kl_8, kl_9, kl_10, kl_12, kl_14, kl_15, kl_16, kl_20, kl_31, kl_33, kl_48, kl_49, kl_50, kl_57, kl_59, kl_60, kl_62, kl_63, kl_98, kl_99, kl_103, kl_104, kl_126, kl_144, kl_310, kl_372, kl_100000, kl_1000000, kl_neg, kl_mm, kl_am, nI_add, kl_mul, kl_sub, kl_le, kl_lt, kl_eq, kl_eM, kl_Me, kl_ltM, kl_leM, kl_ck, kl_cj, kl_cb, kl_bit, nI_clamp, va_up_self, va_up_ne, pk_us, pk_un, if_pos, if_neg, eq_self, and_true, true_and, and_false, false_and, if_true, if_false, Bool.false_eq_true]) n 0 ((2971 : Int64), nI 0, va_up M 6 (fun _ => nI 0)) (by omega) (by omega) ⟨rfl, rfl, fun _ _ => rfl⟩
  dsimp only at hx1 hk1
  subst hx1
  have hR1 : RM (M1 0) s := by rw [hk1 0 (by omega), va_up_ne _ _ (by omega)]; exact hR
  have r1 := hR1.r
  have e2 : ∀ h1, kk_it (fun (st : Int64 × Int32) => fX5_digest_b38 n (hg (d1f s c) 2971 9, M1) st.1 st.2) n (h1, nI 0) = some (hg (d2f s) h1 4) := by
    intro h1
    refine kl_for (fun k => (hg (d2f s) h1 k, nI k)) _ 4 (fun k hk => ?_) ?_ n 0 (by omega) (by omega)
    · show fX5_digest_b38 n (hg (d1f s c) 2971 9, M1) (hg (d2f s) h1 k) (nI k) = some (.inl (mx (hg (d2f s) h1 k) (nI (s k)), nI (k + 1)))
      generalize hg (d2f s) h1 k = H
      unfold fX5_digest_b38 mx
      simp (disch := first | omega | assumption) only [kk_nm, Option.bind_some, kl_0, kl_1, kl_2, kl_3, kl_4, kl_5, kl_6, kl_7, kl_8, kl_9, kl_10, kl_12, kl_14, kl_15, kl_16, kl_20, kl_31, kl_33, kl_48, kl_49, kl_50, kl_57, kl_59, kl_60, kl_62, kl_63, kl_98, kl_99, kl_103, kl_104, kl_126, kl_144, kl_310, kl_372, kl_100000, kl_1000000, kl_neg, kl_mm, kl_am, nI_add, kl_mul, kl_sub, kl_le, kl_lt, kl_eq, kl_eM, kl_Me, kl_ltM, kl_leM, kl_ck, kl_cj, kl_cb, kl_bit, nI_clamp, va_up_self, va_up_ne, pk_us, pk_un, if_pos, if_neg, eq_self, and_true, true_and, and_false, false_and, if_true, if_false, Bool.false_eq_true, r1]
    · show fX5_digest_b38 n (hg (d1f s c) 2971 9, M1) (hg (d2f s) h1 4) (nI 4) = _
      generalize hg (d2f s) h1 4 = H
      unfold fX5_digest_b38
      simp (disch := first | omega | assumption) only [kk_nm, Option.bind_some, kl_0, kl_1, kl_2, kl_3, kl_4, kl_5, kl_6, kl_7, kl_8, kl_9, kl_10, kl_12, kl_14, kl_15, kl_16, kl_20, kl_31, kl_33, kl_48, kl_49, kl_50, kl_57, kl_59, kl_60, kl_62, kl_63, kl_98, kl_99, kl_103, kl_104, kl_126, kl_144, kl_310, kl_372, kl_100000, kl_1000000, kl_neg, kl_mm, kl_am, nI_add, kl_mul, kl_sub, kl_le, kl_lt, kl_eq, kl_eM, kl_Me, kl_ltM, kl_leM, kl_ck, kl_cj, kl_cb, kl_bit, nI_clamp, va_up_self, va_up_ne, pk_us, pk_un, if_pos, if_neg, eq_self, and_true, true_and, and_false, false_and, if_true, if_false, Bool.false_eq_true]
  have e3 : ∀ h1, kk_it (fun (st : Int64 × Int32) => fX5_digest_b65 n (hg (d1f s c) 2971 9, M1) st.1 st.2) n (h1, nI 0) = some (hg (d3f s) h1 (s 5)) := by
    intro h1
    refine kl_for (fun k => (hg (d3f s) h1 k, nI k)) _ (s 5) (fun k hk => ?_) ?_ n 0 (by omega) (by omega)
    · show fX5_digest_b65 n (hg (d1f s c) 2971 9, M1) (hg (d3f s) h1 k) (nI k) = some (.inl (hg (d3g s k) (hg (d3f s) h1 k) 3, nI (k + 1)))
      generalize hg (d3f s) h1 k = H
      have e : kk_it (fun (st : Int64 × Int32) => fX5_digest_b78 n (hg (d1f s c) 2971 9, M1) (nI k) st.1 st.2) n (H, nI 0) = some (hg (d3g s k) H 3) := by
        refine kl_for (fun j => (hg (d3g s k) H j, nI j)) _ 3 (fun j hj => ?_) ?_ n 0 (by omega) (by omega)
        · show fX5_digest_b78 n (hg (d1f s c) 2971 9, M1) (nI k) (hg (d3g s k) H j) (nI j) = some (.inl (mx (hg (d3g s k) H j) (nI (t_bp s k j)), nI (j + 1)))
          have e := q5_ofBridge (M := M1) hj hn hR1 hW hk
          generalize hg (d3g s k) H j = H'
          unfold fX5_digest_b78 mx
          simp (disch := first | omega | assumption) only [kk_nm, Option.bind_some, kl_0, kl_1, kl_2, kl_3, kl_4, kl_5, kl_6, kl_7, kl_8, kl_9, kl_10, kl_12, kl_14, kl_15, kl_16, kl_20, kl_31, kl_33, kl_48, kl_49, kl_50, kl_57, kl_59, kl_60, kl_62, kl_63, kl_98, kl_99, kl_103, kl_104, kl_126, kl_144, kl_310, kl_372, kl_100000, kl_1000000, kl_neg, kl_mm, kl_am, nI_add, kl_mul, kl_sub, kl_le, kl_lt, kl_eq, kl_eM, kl_Me, kl_ltM, kl_leM, kl_ck, kl_cj, kl_cb, kl_bit, nI_clamp, va_up_self, va_up_ne, pk_us, pk_un, if_pos, if_neg, eq_self, and_true, true_and, and_false, false_and, if_true, if_false, Bool.false_eq_true, e]
        · show fX5_digest_b78 n (hg (d1f s c) 2971 9, M1) (nI k) (hg (d3g s k) H 3) (nI 3) = _
          generalize hg (d3g s k) H 3 = H'
          unfold fX5_digest_b78
          simp (disch := first | omega | assumption) only [kk_nm, Option.bind_some, kl_0, kl_1, kl_2, kl_3, kl_4, kl_5, kl_6, kl_7, kl_8, kl_9, kl_10, kl_12, kl_14, kl_15, kl_16, kl_20, kl_31, kl_33, kl_48, kl_49, kl_50, kl_57, kl_59, kl_60, kl_62, kl_63, kl_98, kl_99, kl_103, kl_104, kl_126, kl_144, kl_310, kl_372, kl_100000, kl_1000000, kl_neg, kl_mm, kl_am, nI_add, kl_mul, kl_sub, kl_le, kl_lt, kl_eq, kl_eM, kl_Me, kl_ltM, kl_leM, kl_ck, kl_cj, kl_cb, kl_bit, nI_clamp, va_up_self, va_up_ne, pk_us, pk_un, if_pos, if_neg, eq_self, and_true, true_and, and_false, false_and, if_true, if_false, Bool.false_eq_true]
      unfold fX5_digest_b65
      simp (disch := first | omega | assumption) only [kk_nm, Option.bind_some, kl_0, kl_1, kl_2, kl_3, kl_4, kl_5, kl_6, kl_7, kl_8, kl_9, kl_10, kl_12, kl_14, kl_15, kl_16, kl_20, kl_31, kl_33, kl_48, kl_49, kl_50, kl_57, kl_59, kl_60, kl_62, kl_63, kl_98, kl_99, kl_103, kl_104, kl_126, kl_144, kl_310, kl_372, kl_100000, kl_1000000, kl_neg, kl_mm, kl_am, nI_add, kl_mul, kl_sub, kl_le, kl_lt, kl_eq, kl_eM, kl_Me, kl_ltM, kl_leM, kl_ck, kl_cj, kl_cb, kl_bit, nI_clamp, va_up_self, va_up_ne, pk_us, pk_un, if_pos, if_neg, eq_self, and_true, true_and, and_false, false_and, if_true, if_false, Bool.false_eq_true, r1, e]
    · show fX5_digest_b65 n (hg (d1f s c) 2971 9, M1) (hg (d3f s) h1 (s 5)) (nI (s 5)) = _
      generalize hg (d3f s) h1 (s 5) = H
      unfold fX5_digest_b65
      simp (disch := first | omega | assumption) only [kk_nm, Option.bind_some, kl_0, kl_1, kl_2, kl_3, kl_4, kl_5, kl_6, kl_7, kl_8, kl_9, kl_10, kl_12, kl_14, kl_15, kl_16, kl_20, kl_31, kl_33, kl_48, kl_49, kl_50, kl_57, kl_59, kl_60, kl_62, kl_63, kl_98, kl_99, kl_103, kl_104, kl_126, kl_144, kl_310, kl_372, kl_100000, kl_1000000, kl_neg, kl_mm, kl_am, nI_add, kl_mul, kl_sub, kl_le, kl_lt, kl_eq, kl_eM, kl_Me, kl_ltM, kl_leM, kl_ck, kl_cj, kl_cb, kl_bit, nI_clamp, va_up_self, va_up_ne, pk_us, pk_un, if_pos, if_neg, eq_self, and_true, true_and, and_false, false_and, if_true, if_false, Bool.false_eq_true, r1]
  generalize hH3 : hg (d3f s) (hg (d2f s) (hg (d1f s c) 2971 9) 4) (s 5) = h3
  obtain ⟨⟨x4, M4⟩, e4, hx4, hk4⟩ := kl_forI (body := fun (st : Int64 × Int32 × St1) => fX5_digest_b113 n st.1 st.2.1 st.2.2) (fun k st => st.1 = hg (wfl s) h3 k ∧ st.2.1 = nI k ∧ ∀ j, j ≠ 1 → j ≠ 11 → st.2.2 j = va_up M 6 (fun _ => nI 0) j) (fun r => r.1 = hg (wfl s) h3 (s 4) ∧ ∀ j, j ≠ 1 → j ≠ 11 → r.2 j = va_up M 6 (fun _ => nI 0) j) (s 4) (fun p st hp hI => by
    obtain ⟨x, x2, M5⟩ := st
    obtain ⟨rfl, rfl, hk5⟩ := hI
    dsimp only at hk5 ⊢
    have hR5 : RM (M5 0) s := by rw [hk5 0 (by omega) (by omega), va_up_ne _ _ (by omega)]; exact hR
    have r5 := hR5.r
    have a1 : ∀ h, kk_it (fun (st : Int64 × Int32) => fX5_digest_b126 n (nI p) M5 st.1 st.2) n (h, nI 0) = some (hg (w1f s p) h 7) := by
      intro h
      refine kl_for (fun k => (hg (w1f s p) h k, nI k)) _ 7 (fun k hk => ?_) ?_ n 0 (by omega) (by omega)
      · show fX5_digest_b126 n (nI p) M5 (hg (w1f s p) h k) (nI k) = some (.inl (mx (hg (w1f s p) h k) (nI (t_fp s p k)), nI (k + 1)))
        have e := q5_ofFloat (M := M5) hk hn hR5 hW hp
        generalize hg (w1f s p) h k = H
        unfold fX5_digest_b126 mx
        simp (disch := first | omega | assumption) only [kk_nm, Option.bind_some, kl_0, kl_1, kl_2, kl_3, kl_4, kl_5, kl_6, kl_7, kl_8, kl_9, kl_10, kl_12, kl_14, kl_15, kl_16, kl_20, kl_31, kl_33, kl_48, kl_49, kl_50, kl_57, kl_59, kl_60, kl_62, kl_63, kl_98, kl_99, kl_103, kl_104, kl_126, kl_144, kl_310, kl_372, kl_100000, kl_1000000, kl_neg, kl_mm, kl_am, nI_add, kl_mul, kl_sub, kl_le, kl_lt, kl_eq, kl_eM, kl_Me, kl_ltM, kl_leM, kl_ck, kl_cj, kl_cb, kl_bit, nI_clamp, va_up_self, va_up_ne, pk_us, pk_un, if_pos, if_neg, eq_self, and_true, true_and, and_false, false_and, if_true, if_false, Bool.false_eq_true, e]
      · show fX5_digest_b126 n (nI p) M5 (hg (w1f s p) h 7) (nI 7) = _
        generalize hg (w1f s p) h 7 = H
        unfold fX5_digest_b126
        simp (disch := first | omega | assumption) only [kk_nm, Option.bind_some, kl_0, kl_1, kl_2, kl_3, kl_4, kl_5, kl_6, kl_7, kl_8, kl_9, kl_10, kl_12, kl_14, kl_15, kl_16, kl_20, kl_31, kl_33, kl_48, kl_49, kl_50, kl_57, kl_59, kl_60, kl_62, kl_63, kl_98, kl_99, kl_103, kl_104, kl_126, kl_144, kl_310, kl_372, kl_100000, kl_1000000, kl_neg, kl_mm, kl_am, nI_add, kl_mul, kl_sub, kl_le, kl_lt, kl_eq, kl_eM, kl_Me, kl_ltM, kl_leM, kl_ck, kl_cj, kl_cb, kl_bit, nI_clamp, va_up_self, va_up_ne, pk_us, pk_un, if_pos, if_neg, eq_self, and_true, true_and, and_false, false_and, if_true, if_false, Bool.false_eq_true]
    have a2 : ∀ h1, kk_it (fun (st : Int64 × Int32) => fX5_digest_b157 n (nI p) M5 st.1 st.2) n (h1, nI 0) = some (hg (w2f s p) h1 3) := by
      intro h1
      refine kl_for (fun k => (hg (w2f s p) h1 k, nI k)) _ 3 (fun k hk => ?_) ?_ n 0 (by omega) (by omega)
      · show fX5_digest_b157 n (nI p) M5 (hg (w2f s p) h1 k) (nI k) = some (.inl (mx (hg (w2f s p) h1 k) (nI (t_by s p k)), nI (k + 1)))
        have e := q5_troubled (n := n) hk hn hR5 hW hp
        generalize hg (w2f s p) h1 k = H
        unfold fX5_digest_b157 mx
        simp (disch := first | omega | assumption) only [kk_nm, Option.bind_some, kl_0, kl_1, kl_2, kl_3, kl_4, kl_5, kl_6, kl_7, kl_8, kl_9, kl_10, kl_12, kl_14, kl_15, kl_16, kl_20, kl_31, kl_33, kl_48, kl_49, kl_50, kl_57, kl_59, kl_60, kl_62, kl_63, kl_98, kl_99, kl_103, kl_104, kl_126, kl_144, kl_310, kl_372, kl_100000, kl_1000000, kl_neg, kl_mm, kl_am, nI_add, kl_mul, kl_sub, kl_le, kl_lt, kl_eq, kl_eM, kl_Me, kl_ltM, kl_leM, kl_ck, kl_cj, kl_cb, kl_bit, nI_clamp, va_up_self, va_up_ne, pk_us, pk_un, if_pos, if_neg, eq_self, and_true, true_and, and_false, false_and, if_true, if_false, Bool.false_eq_true, e]
      · show fX5_digest_b157 n (nI p) M5 (hg (w2f s p) h1 3) (nI 3) = _
        generalize hg (w2f s p) h1 3 = H
        unfold fX5_digest_b157
        simp (disch := first | omega | assumption) only [kk_nm, Option.bind_some, kl_0, kl_1, kl_2, kl_3, kl_4, kl_5, kl_6, kl_7, kl_8, kl_9, kl_10, kl_12, kl_14, kl_15, kl_16, kl_20, kl_31, kl_33, kl_48, kl_49, kl_50, kl_57, kl_59, kl_60, kl_62, kl_63, kl_98, kl_99, kl_103, kl_104, kl_126, kl_144, kl_310, kl_372, kl_100000, kl_1000000, kl_neg, kl_mm, kl_am, nI_add, kl_mul, kl_sub, kl_le, kl_lt, kl_eq, kl_eM, kl_Me, kl_ltM, kl_leM, kl_ck, kl_cj, kl_cb, kl_bit, nI_clamp, va_up_self, va_up_ne, pk_us, pk_un, if_pos, if_neg, eq_self, and_true, true_and, and_false, false_and, if_true, if_false, Bool.false_eq_true]
    obtain ⟨M6, a3, hk6, hcm⟩ := q5_endsN (n := n) hn hR5 hW
    have hR6 : RM (M6 0) s := by rw [hk6 0 (by omega)]; exact hR5
    have r6 := hR6.r
    have a4 : ∀ (E : Int32) h2, kk_it (fun (st : Int64 × Int32) => fX5_digest_b199 n (nI p) (E, M6) st.1 st.2) n (h2, nI 0) = some (hg (w3f s p) h2 (s 5 + 1)) := by
      intro E h2
      refine kl_for (fun k => (hg (w3f s p) h2 k, nI k)) _ (s 5 + 1) (fun k hk => ?_) ?_ n 0 (by omega) (by omega)
      · show fX5_digest_b199 n (nI p) (E, M6) (hg (w3f s p) h2 k) (nI k) = some (.inl (mx (hg (w3f s p) h2 k) (nI (t_cm s (s 3) p k)), nI (k + 1)))
        have e := hcm p hp k (by omega)
        generalize hg (w3f s p) h2 k = H
        unfold fX5_digest_b199 mx
        simp (disch := first | omega | assumption) only [kk_nm, Option.bind_some, kl_0, kl_1, kl_2, kl_3, kl_4, kl_5, kl_6, kl_7, kl_8, kl_9, kl_10, kl_12, kl_14, kl_15, kl_16, kl_20, kl_31, kl_33, kl_48, kl_49, kl_50, kl_57, kl_59, kl_60, kl_62, kl_63, kl_98, kl_99, kl_103, kl_104, kl_126, kl_144, kl_310, kl_372, kl_100000, kl_1000000, kl_neg, kl_mm, kl_am, nI_add, kl_mul, kl_sub, kl_le, kl_lt, kl_eq, kl_eM, kl_Me, kl_ltM, kl_leM, kl_ck, kl_cj, kl_cb, kl_bit, nI_clamp, va_up_self, va_up_ne, pk_us, pk_un, if_pos, if_neg, eq_self, and_true, true_and, and_false, false_and, if_true, if_false, Bool.false_eq_true, r6, e]
      · show fX5_digest_b199 n (nI p) (E, M6) (hg (w3f s p) h2 (s 5 + 1)) (nI (s 5 + 1)) = _
        generalize hg (w3f s p) h2 (s 5 + 1) = H
        unfold fX5_digest_b199
        simp (disch := first | omega | assumption) only [kk_nm, Option.bind_some, kl_0, kl_1, kl_2, kl_3, kl_4, kl_5, kl_6, kl_7, kl_8, kl_9, kl_10, kl_12, kl_14, kl_15, kl_16, kl_20, kl_31, kl_33, kl_48, kl_49, kl_50, kl_57, kl_59, kl_60, kl_62, kl_63, kl_98, kl_99, kl_103, kl_104, kl_126, kl_144, kl_310, kl_372, kl_100000, kl_1000000, kl_neg, kl_mm, kl_am, nI_add, kl_mul, kl_sub, kl_le, kl_lt, kl_eq, kl_eM, kl_Me, kl_ltM, kl_leM, kl_ck, kl_cj, kl_cb, kl_bit, nI_clamp, va_up_self, va_up_ne, pk_us, pk_un, if_pos, if_neg, eq_self, and_true, true_and, and_false, false_and, if_true, if_false, Bool.false_eq_true, r6]
    obtain ⟨M7, a5, hk7⟩ := q5_best (M := M6) hn hR6 hW hp
    refine ⟨(wfl s p (hg (wfl s) h3 p), nI (p + 1), M7), ?_, rfl, rfl, fun j j1 j11 => by dsimp only; rw [hk7 j j1 j11, hk6 j j11]; exact hk5 j j1 j11⟩
    generalize hg (wfl s) h3 p = H
    unfold fX5_digest_b113 wfl
    simp (disch := first | omega | assumption) only [kk_nm, Option.bind_some, kl_0, kl_1, kl_2, kl_3, kl_4, kl_5, kl_6, kl_7, kl_8, kl_9, kl_10, kl_12, kl_14, kl_15, kl_16, kl_20, kl_31, kl_33, kl_48, kl_49, kl_50, kl_57, kl_59, kl_60, kl_62, kl_63, kl_98, kl_99, kl_103, kl_104, kl_126, kl_144, kl_310, kl_372, kl_100000, kl_1000000, kl_neg, kl_mm, kl_am, nI_add, kl_mul, kl_sub, kl_le, kl_lt, kl_eq, kl_eM, kl_Me, kl_ltM, kl_leM, kl_ck, kl_cj, kl_cb, kl_bit, nI_clamp, va_up_self, va_up_ne, pk_us, pk_un, if_pos, if_neg, eq_self, and_true, true_and, and_false, false_and, if_true, if_false, Bool.false_eq_true, r5, a1, a2, a3, a4, a5]
    rfl) (fun st hI => by
    obtain ⟨x, x2, M5⟩ := st
    obtain ⟨rfl, rfl, hk5⟩ := hI
    dsimp only at hk5 ⊢
    have hR5 : RM (M5 0) s := by rw [hk5 0 (by omega) (by omega), va_up_ne _ _ (by omega)]; exact hR
    have r5 := hR5.r
    refine ⟨(hg (wfl s) h3 (s 4), M5), ?_, rfl, hk5⟩
    generalize hg (wfl s) h3 (s 4) = H
    unfold fX5_digest_b113
    simp (disch := first | omega | assumption) only [kk_nm, Option.bind_some, kl_0, kl_1, kl_2, kl_3, kl_4, kl_5, kl_6, kl_7, kl_8, kl_9, kl_10, kl_12, kl_14, kl_15, kl_16, kl_20, kl_31, kl_33, kl_48, kl_49, kl_50, kl_57, kl_59, kl_60, kl_62, kl_63, kl_98, kl_99, kl_103, kl_104, kl_126, kl_144, kl_310, kl_372, kl_100000, kl_1000000, kl_neg, kl_mm, kl_am, nI_add, kl_mul, kl_sub, kl_le, kl_lt, kl_eq, kl_eM, kl_Me, kl_ltM, kl_leM, kl_ck, kl_cj, kl_cb, kl_bit, nI_clamp, va_up_self, va_up_ne, pk_us, pk_un, if_pos, if_neg, eq_self, and_true, true_and, and_false, false_and, if_true, if_false, Bool.false_eq_true, r5]) n 0 (h3, nI 0, M1) (by omega) (by omega) ⟨rfl, rfl, fun j _ j11 => hk1 j j11⟩
  dsimp only at hx4 hk4
  subst hx4
  have hR4 : RM (M4 0) s := by rw [hk4 0 (by omega) (by omega), va_up_ne _ _ (by omega)]; exact hR
  obtain ⟨M5, e5, hk5⟩ := q5_folding (M := M4) hn hR4 hW
  have hR5 : RM (M5 0) s := by rw [hk5 0 (by omega) (by omega)]; exact hR4
  obtain ⟨M6, e6, hk6⟩ := q5_least (M := M5) hn hR5 hW
  have hR6 : RM (M6 0) s := by rw [hk6 0 (by omega)]; exact hR5
  have e7 := q5_smooth (M := M6) hn hR6 hW
  have fr : ∀ j, j ≠ 1 → j ≠ 11 → M6 j = va_up M 6 (fun _ => nI 0) j := fun j j1 j11 => by rw [hk6 j j1, hk5 j j1 j11]; exact hk4 j j1 j11
  have hl6 : M6 5 0 = nI cc := by rw [fr 5 (by omega) (by omega), va_up_ne _ _ (by omega)]; exact hl
  have ht6 : ∀ k, k < cc → M6 4 k = nI (t k) ∧ t k < 128 := by rw [fr 4 (by omega) (by omega), va_up_ne _ _ (by omega)]; exact ht
  have e8 : ∀ (L : Int32) (h1 : Int64), kk_it (fun (st : Int64 × Int32) => fX5_digest_b302 n (L, M6) st.1 st.2) n (h1, nI 0) = some (hg (d5f t) h1 cc) := by
    intro L h1
    refine kl_for (fun k => (hg (d5f t) h1 k, nI k)) _ cc (fun k hk => ?_) ?_ n 0 (by omega) (by omega)
    · show fX5_digest_b302 n (L, M6) (hg (d5f t) h1 k) (nI k) = some (.inl (mx (hg (d5f t) h1 k) (nI (t k)), nI (k + 1)))
      have e := (ht6 k hk).1
      generalize hg (d5f t) h1 k = H
      unfold fX5_digest_b302 mx
      simp (disch := first | omega | assumption) only [kk_nm, Option.bind_some, kl_0, kl_1, kl_2, kl_3, kl_4, kl_5, kl_6, kl_7, kl_8, kl_9, kl_10, kl_12, kl_14, kl_15, kl_16, kl_20, kl_31, kl_33, kl_48, kl_49, kl_50, kl_57, kl_59, kl_60, kl_62, kl_63, kl_98, kl_99, kl_103, kl_104, kl_126, kl_144, kl_310, kl_372, kl_100000, kl_1000000, kl_neg, kl_mm, kl_am, nI_add, kl_mul, kl_sub, kl_le, kl_lt, kl_eq, kl_eM, kl_Me, kl_ltM, kl_leM, kl_ck, kl_cj, kl_cb, kl_bit, nI_clamp, va_up_self, va_up_ne, pk_us, pk_un, if_pos, if_neg, eq_self, and_true, true_and, and_false, false_and, if_true, if_false, Bool.false_eq_true, hl6, e]
    · show fX5_digest_b302 n (L, M6) (hg (d5f t) h1 cc) (nI cc) = _
      generalize hg (d5f t) h1 cc = H
      unfold fX5_digest_b302
      simp (disch := first | omega | assumption) only [kk_nm, Option.bind_some, kl_0, kl_1, kl_2, kl_3, kl_4, kl_5, kl_6, kl_7, kl_8, kl_9, kl_10, kl_12, kl_14, kl_15, kl_16, kl_20, kl_31, kl_33, kl_48, kl_49, kl_50, kl_57, kl_59, kl_60, kl_62, kl_63, kl_98, kl_99, kl_103, kl_104, kl_126, kl_144, kl_310, kl_372, kl_100000, kl_1000000, kl_neg, kl_mm, kl_am, nI_add, kl_mul, kl_sub, kl_le, kl_lt, kl_eq, kl_eM, kl_Me, kl_ltM, kl_leM, kl_ck, kl_cj, kl_cb, kl_bit, nI_clamp, va_up_self, va_up_ne, pk_us, pk_un, if_pos, if_neg, eq_self, and_true, true_and, and_false, false_and, if_true, if_false, Bool.false_eq_true, hl6]
  refine ⟨M6, ?_, by rw [fr 6 (by omega) (by omega)]; rfl, fun j j1 j6 j11 => by rw [fr j j1 j11, va_up_ne _ _ j6]⟩
  unfold fX5_digest dgv
  rw [hH3]
  simp (disch := first | omega | assumption) only [kk_nm, Option.bind_some, kl_0, kl_1, kl_2, kl_3, kl_4, kl_5, kl_6, kl_7, kl_8, kl_9, kl_10, kl_12, kl_14, kl_15, kl_16, kl_20, kl_31, kl_33, kl_48, kl_49, kl_50, kl_57, kl_59, kl_60, kl_62, kl_63, kl_98, kl_99, kl_103, kl_104, kl_126, kl_144, kl_310, kl_372, kl_100000, kl_1000000, kl_neg, kl_mm, kl_am, nI_add, kl_mul, kl_sub, kl_le, kl_lt, kl_eq, kl_eM, kl_Me, kl_ltM, kl_leM, kl_ck, kl_cj, kl_cb, kl_bit, nI_clamp, va_up_self, va_up_ne, pk_us, pk_un, if_pos, if_neg, eq_self, and_true, true_and, and_false, false_and, if_true, if_false, Bool.false_eq_true, e1, e2, e3, hH3, e4, e5, e6, e7, hb, e8, hl6]
  rfl
end
