/-! the two searches for the least trouble -/
section
variable {n : Nat}
theorem q4_leastFrom (hn : 1000 ≤ n) : ∀ (d D : Nat) (P : St1) (s : Nat → Nat) (p acc best : Nat), d < D → p + d = s 4 → s 4 ≤ 6 → RP P s → WF s → acc ≤ 2000 → best ≤ 1000 → ∃ P', fX4_leastFrom n D P (nI p) (nI acc) (nI best) = some (nI (min best (acc + lT d s p)), P') ∧ RP P' s := by
  intro d
  induction d with
  | zero =>
    intro D P s p acc best hD hp h6 hR hW ha hb
    obtain ⟨D, rfl⟩ : ∃ E, D = E + 1 := ⟨D - 1, by omega⟩
    have h0 := hR.1
    have hl : lT 0 s p = 0 := rfl
    refine ⟨P, ?_, hR⟩
    show fX4_leastFrom_m n (fX4_leastFrom n D) P (nI p) (nI acc) (nI best) = _
    unfold fX4_leastFrom_m
    by_cases c : acc < best
    · rw [Nat.min_eq_right (by omega), hl]
      simp (disch := first | omega | assumption) only [kk_nm, Option.bind_some, kl_0, kl_1, kl_2, kl_3, kl_4, kl_5, kl_6, kl_7, kl_8, kl_9, kl_10, kl_12, kl_14, kl_15, kl_16, kl_20, kl_31, kl_33, kl_48, kl_49, kl_50, kl_57, kl_59, kl_60, kl_62, kl_63, kl_98, kl_99, kl_103, kl_104, kl_126, kl_144, kl_310, kl_372, kl_100000, kl_1000000, kl_neg, kl_mm, kl_am, nI_add, kl_mul, kl_sub, kl_le, kl_lt, kl_eq, kl_eM, kl_Me, kl_ltM, kl_leM, kl_ck, kl_cj, kl_cb, kl_bit, nI_clamp, va_up_self, va_up_ne, pk_us, pk_un, if_pos, if_neg, eq_self, and_true, true_and, and_false, false_and, if_true, if_false, Bool.false_eq_true, h0, Nat.add_zero]
    · rw [Nat.min_eq_left (by omega)]
      simp (disch := first | omega | assumption) only [kk_nm, Option.bind_some, kl_0, kl_1, kl_2, kl_3, kl_4, kl_5, kl_6, kl_7, kl_8, kl_9, kl_10, kl_12, kl_14, kl_15, kl_16, kl_20, kl_31, kl_33, kl_48, kl_49, kl_50, kl_57, kl_59, kl_60, kl_62, kl_63, kl_98, kl_99, kl_103, kl_104, kl_126, kl_144, kl_310, kl_372, kl_100000, kl_1000000, kl_neg, kl_mm, kl_am, nI_add, kl_mul, kl_sub, kl_le, kl_lt, kl_eq, kl_eM, kl_Me, kl_ltM, kl_leM, kl_ck, kl_cj, kl_cb, kl_bit, nI_clamp, va_up_self, va_up_ne, pk_us, pk_un, if_pos, if_neg, eq_self, and_true, true_and, and_false, false_and, if_true, if_false, Bool.false_eq_true, h0]
  | succ d ih =>
    intro D P s p acc best hD hp h6 hR hW ha hb
    obtain ⟨D, rfl⟩ : ∃ E, D = E + 1 := ⟨D - 1, by omega⟩
    have h0 := hR.1
    show ∃ P', fX4_leastFrom_m n (fX4_leastFrom n D) P (nI p) (nI acc) (nI best) = _ ∧ _
    by_cases c : acc < best
    · have hl : lT (d + 1) s p = mn (fun r => t_at (pS (sw p (p + r)) s) p + lT d (pS (sw p (p + r)) s) (p + 1)) d := rfl
      obtain ⟨⟨x, P1⟩, e, hx, hR1⟩ := kl_forI (body := fun (st : Int32 × Int32 × St1) => fX4_leastFrom_b29 n (fX4_leastFrom n D) (nI p) (nI acc) st.1 st.2.1 st.2.2) (fun r st => st.1 = nI (mI best (fun r => acc + (t_at (pS (sw p (p + r)) s) p + lT d (pS (sw p (p + r)) s) (p + 1))) r) ∧ st.2.1 = nI (p + r) ∧ RP st.2.2 s) (fun r => r.1 = nI (mI best (fun r => acc + (t_at (pS (sw p (p + r)) s) p + lT d (pS (sw p (p + r)) s) (p + 1))) (d + 1)) ∧ RP r.2 s) (d + 1) (fun r st hr hI => by
        obtain ⟨x0, x1, P1⟩ := st
        obtain ⟨rfl, rfl, hR1⟩ := hI
        dsimp only at hR1 ⊢
        have h10 := hR1.1
        have hWs : WF (pS (sw p (p + r)) s) := WF_pS (fun _ hq => sw_lt (by omega) (by omega) hq) hW
        have hb2 := mI_le best (fun r => acc + (t_at (pS (sw p (p + r)) s) p + lT d (pS (sw p (p + r)) s) (p + 1))) r
        have ht := t_at_le (pS (sw p (p + r)) s) p (by omega)
        obtain ⟨P2, e2, hR2⟩ := q2_swapR (n := n) (i := p) (j := p + r) hR1 hW (by omega) (by omega)
        have e3 := q2_troubleAt (p := p) hn hR2 hWs (by rw [pS_lo (by omega)]; omega)
        obtain ⟨P3, e4, hR3⟩ := ih D P2 (pS (sw p (p + r)) s) (p + 1) (acc + t_at (pS (sw p (p + r)) s) p) _ (by omega) (by rw [pS_lo (by omega)]; omega) (by rw [pS_lo (by omega)]; omega) hR2 hWs (by omega) (Nat.le_trans hb2 hb)
        obtain ⟨P4, e5, hR4⟩ := q2_swapR (n := n) (i := p) (j := p + r) hR3 hWs (by rw [pS_lo (by omega)]; omega) (by rw [pS_lo (by omega)]; omega)
        rw [pS_pS, pS_id (sw_sw p (p + r))] at hR4
        refine ⟨(nI (min (mI best (fun r => acc + (t_at (pS (sw p (p + r)) s) p + lT d (pS (sw p (p + r)) s) (p + 1))) r) (acc + t_at (pS (sw p (p + r)) s) p + lT d (pS (sw p (p + r)) s) (p + 1))), nI (p + (r + 1)), P4), ?_, ?_, rfl, hR4⟩
        · generalize mI best (fun r => acc + (t_at (pS (sw p (p + r)) s) p + lT d (pS (sw p (p + r)) s) (p + 1))) r = B at e4 hb2 ⊢
          have ea : p + r + 1 = p + (r + 1) := by omega
          unfold fX4_leastFrom_b29
          simp (disch := first | omega | assumption) only [kk_nm, Option.bind_some, kl_0, kl_1, kl_2, kl_3, kl_4, kl_5, kl_6, kl_7, kl_8, kl_9, kl_10, kl_12, kl_14, kl_15, kl_16, kl_20, kl_31, kl_33, kl_48, kl_49, kl_50, kl_57, kl_59, kl_60, kl_62, kl_63, kl_98, kl_99, kl_103, kl_104, kl_126, kl_144, kl_310, kl_372, kl_100000, kl_1000000, kl_neg, kl_mm, kl_am, nI_add, kl_mul, kl_sub, kl_le, kl_lt, kl_eq, kl_eM, kl_Me, kl_ltM, kl_leM, kl_ck, kl_cj, kl_cb, kl_bit, nI_clamp, va_up_self, va_up_ne, pk_us, pk_un, if_pos, if_neg, eq_self, and_true, true_and, and_false, false_and, if_true, if_false, Bool.false_eq_true, h10, e2, e3, e4, e5, ea]
        · rw [Nat.add_assoc acc]; rfl) (fun st hI => by
        obtain ⟨x0, x1, P1⟩ := st
        obtain ⟨rfl, rfl, hR1⟩ := hI
        dsimp only at hR1 ⊢
        have h10 := hR1.1
        have ep : p + (d + 1) = s 4 := hp
        refine ⟨(_, P1), ?_, rfl, hR1⟩
        unfold fX4_leastFrom_b29
        simp (disch := first | omega | assumption) only [kk_nm, Option.bind_some, kl_0, kl_1, kl_2, kl_3, kl_4, kl_5, kl_6, kl_7, kl_8, kl_9, kl_10, kl_12, kl_14, kl_15, kl_16, kl_20, kl_31, kl_33, kl_48, kl_49, kl_50, kl_57, kl_59, kl_60, kl_62, kl_63, kl_98, kl_99, kl_103, kl_104, kl_126, kl_144, kl_310, kl_372, kl_100000, kl_1000000, kl_neg, kl_mm, kl_am, nI_add, kl_mul, kl_sub, kl_le, kl_lt, kl_eq, kl_eM, kl_Me, kl_ltM, kl_leM, kl_ck, kl_cj, kl_cb, kl_bit, nI_clamp, va_up_self, va_up_ne, pk_us, pk_un, if_pos, if_neg, eq_self, and_true, true_and, and_false, false_and, if_true, if_false, Bool.false_eq_true, h10, ep]
        rfl) n 0 (nI best, nI p, P) (by omega) (by omega) ⟨rfl, rfl, hR⟩
      dsimp only at hx hR1
      subst hx
      refine ⟨P1, ?_, hR1⟩
      rw [hl, ← mI_mn best acc]
      unfold fX4_leastFrom_m
      simp (disch := first | omega | assumption) only [kk_nm, Option.bind_some, kl_0, kl_1, kl_2, kl_3, kl_4, kl_5, kl_6, kl_7, kl_8, kl_9, kl_10, kl_12, kl_14, kl_15, kl_16, kl_20, kl_31, kl_33, kl_48, kl_49, kl_50, kl_57, kl_59, kl_60, kl_62, kl_63, kl_98, kl_99, kl_103, kl_104, kl_126, kl_144, kl_310, kl_372, kl_100000, kl_1000000, kl_neg, kl_mm, kl_am, nI_add, kl_mul, kl_sub, kl_le, kl_lt, kl_eq, kl_eM, kl_Me, kl_ltM, kl_leM, kl_ck, kl_cj, kl_cb, kl_bit, nI_clamp, va_up_self, va_up_ne, pk_us, pk_un, if_pos, if_neg, eq_self, and_true, true_and, and_false, false_and, if_true, if_false, Bool.false_eq_true, h0, e]
    · rw [Nat.min_eq_left (by omega)]
      refine ⟨P, ?_, hR⟩
      unfold fX4_leastFrom_m
      simp (disch := first | omega | assumption) only [kk_nm, Option.bind_some, kl_0, kl_1, kl_2, kl_3, kl_4, kl_5, kl_6, kl_7, kl_8, kl_9, kl_10, kl_12, kl_14, kl_15, kl_16, kl_20, kl_31, kl_33, kl_48, kl_49, kl_50, kl_57, kl_59, kl_60, kl_62, kl_63, kl_98, kl_99, kl_103, kl_104, kl_126, kl_144, kl_310, kl_372, kl_100000, kl_1000000, kl_neg, kl_mm, kl_am, nI_add, kl_mul, kl_sub, kl_le, kl_lt, kl_eq, kl_eM, kl_Me, kl_ltM, kl_leM, kl_ck, kl_cj, kl_cb, kl_bit, nI_clamp, va_up_self, va_up_ne, pk_us, pk_un, if_pos, if_neg, eq_self, and_true, true_and, and_false, false_and, if_true, if_false, Bool.false_eq_true, h0]
def t_lst (s : Nat → Nat) : Nat := min (t_all s) (lT (s 4) s 0)
theorem q4_leastTrouble {s : Nat → Nat} {G : St2} (hn : 1000 ≤ n) (hR : RP (G 1) s) (hW : WF s) : ∃ G', fX4_leastTrouble n G = some (if s 4 ≤ 6 then nI (t_lst s) else kM, G') ∧ ∀ k, k ≠ 2 → G' k = G k := by
  have w1 := hW.2.1
  have h0 := hR.1
  have hal := t_all_le s w1.1
  by_cases c : s 4 ≤ 6
  · obtain ⟨P1, e1, hR1⟩ := q2_copyFrom (n := n) (P := G 2) hn hR hW
    have e2 := q2_allTrouble hn hR1 hW
    obtain ⟨P2, e3, hR2⟩ := q4_leastFrom hn (s 4) 8 P1 s 0 0 (t_all s) (by omega) (by omega) c hR1 hW (by omega) (by omega)
    rw [Nat.zero_add] at e3
    refine ⟨va_up (va_up G 2 P1) 2 P2, ?_, fun k k2 => by rw [va_up_ne _ _ k2, va_up_ne _ _ k2]⟩
    unfold fX4_leastTrouble t_lst
    simp (disch := first | omega | assumption) only [kk_nm, Option.bind_some, kl_0, kl_1, kl_2, kl_3, kl_4, kl_5, kl_6, kl_7, kl_8, kl_9, kl_10, kl_12, kl_14, kl_15, kl_16, kl_20, kl_31, kl_33, kl_48, kl_49, kl_50, kl_57, kl_59, kl_60, kl_62, kl_63, kl_98, kl_99, kl_103, kl_104, kl_126, kl_144, kl_310, kl_372, kl_100000, kl_1000000, kl_neg, kl_mm, kl_am, nI_add, kl_mul, kl_sub, kl_le, kl_lt, kl_eq, kl_eM, kl_Me, kl_ltM, kl_leM, kl_ck, kl_cj, kl_cb, kl_bit, nI_clamp, va_up_self, va_up_ne, pk_us, pk_un, if_pos, if_neg, eq_self, and_true, true_and, and_false, false_and, if_true, if_false, Bool.false_eq_true, h0, e1, e2, e3]
  · refine ⟨G, ?_, fun _ _ => rfl⟩
    unfold fX4_leastTrouble
    simp (disch := first | omega | assumption) only [kk_nm, Option.bind_some, kl_0, kl_1, kl_2, kl_3, kl_4, kl_5, kl_6, kl_7, kl_8, kl_9, kl_10, kl_12, kl_14, kl_15, kl_16, kl_20, kl_31, kl_33, kl_48, kl_49, kl_50, kl_57, kl_59, kl_60, kl_62, kl_63, kl_98, kl_99, kl_103, kl_104, kl_126, kl_144, kl_310, kl_372, kl_100000, kl_1000000, kl_neg, kl_mm, kl_am, nI_add, kl_mul, kl_sub, kl_le, kl_lt, kl_eq, kl_eM, kl_Me, kl_ltM, kl_leM, kl_ck, kl_cj, kl_cb, kl_bit, nI_clamp, va_up_self, va_up_ne, pk_us, pk_un, if_pos, if_neg, eq_self, and_true, true_and, and_false, false_and, if_true, if_false, Bool.false_eq_true, h0]
theorem q5_orders {s : Nat → Nat} {M : St1} {k : Nat} (hn : 1000 ≤ n) (hR : RM (M 0) s) (hW : WF s) (hk : k < 1000) : ∃ M', fX5_orders n M (nI k) = some M' ∧ RM (M' 1) (od (s 4) s 0 k) ∧ ∀ i, i ≠ 1 → M' i = M i := by
  have w1 := hW.2.1
  obtain ⟨f1, e1, hR1⟩ := q5_copy (n := n) (h := M 1) hn hR
  have e1' : fX5_copies n 62 62 (M 0) (M 1) (nI 0) (nI 0) = some f1 := e1
  obtain ⟨M2, e2, hM2, hk2⟩ := kl_forI (body := fun (st : Int32 × Int32 × St1) => fX5_orders_b17 n st.1 st.2.1 st.2.2) (fun p st => p ≤ s 4 ∧ ∃ x t, x < 1000 ∧ st.1 = nI x ∧ st.2.1 = nI p ∧ RM (st.2.2 1) t ∧ t 4 = s 4 ∧ od (s 4 - p) t p x = od (s 4) s 0 k ∧ ∀ i, i ≠ 1 → st.2.2 i = M i) (fun M' => RM (M' 1) (od (s 4) s 0 k) ∧ ∀ i, i ≠ 1 → M' i = M i) (s 4) (fun p st hp hI => by
    obtain ⟨x0, x1, M1⟩ := st
    obtain ⟨hp4, x, t, hx, rfl, rfl, hR2, ht, ho, hm⟩ := hI
    dsimp only at hR2 hm ⊢
    have r1 := hR2.r
    have hmod : x % (s 4 - p) < s 4 - p := Nat.mod_lt _ (by omega)
    have hdiv : x / (s 4 - p) ≤ x := Nat.div_le_self _ _
    have d1 : nI x / nI (s 4 - p) = nI (x / (s 4 - p)) := pk_div (by omega) (by omega) (by omega)
    have d2 : nI x - nI (x / (s 4 - p)) * nI (s 4 - p) = nI (x % (s 4 - p)) := by rw [← d1]; exact pk_rem (by omega) (by omega) (by omega)
    obtain ⟨f2, e2, hR3⟩ := q5_moves (n := n) (v := p + x % (s 4 - p)) (w := p) hn hR2 (by omega) (by omega) (by omega)
    have hg : M1 1 4 = nI (s 4) := by rw [hR2 4 (by omega), ht]
    refine ⟨(nI (x / (s 4 - p)), nI (p + 1), va_up M1 1 f2), ?_, by omega, x / (s 4 - p), pS (mv (p + x % (s 4 - p)) p) t, by omega, rfl, rfl, by dsimp only; rw [va_up_self]; exact hR3, by rw [pS_lo (by omega)]; exact ht, ?_, fun i i1 => by dsimp only; rw [va_up_ne _ _ i1]; exact hm i i1⟩
    · unfold fX5_orders_b17
      have c1 : ∀ (y : Option ((Int32 × Int32 × St1) ⊕ St1)), kk_cd (nI (s 4 - p)) y = y := fun y => kl_cd (by omega) (by omega)
      have es : nI (s 4) - nI p = nI (s 4 - p) := kl_sub (by omega)
      simp only [kl_4, kl_1, nI_clamp (show 4 < 2147483648 by omega), hg, es, c1, d1, d2, nI_add, e2, Option.bind_some, kk_nm]
      rw [if_neg (by rw [kl_le (by omega) (by omega)]; omega)]
    · rw [← ho]
      obtain ⟨d, hd⟩ : ∃ d, s 4 - p = d + 1 := ⟨s 4 - p - 1, by omega⟩
      rw [(by omega : s 4 - (p + 1) = d), hd]
      rfl) (fun st hI => by
    obtain ⟨x0, x1, M1⟩ := st
    obtain ⟨hp4, x, t, hx, rfl, rfl, hR2, ht, ho, hm⟩ := hI
    dsimp only at hR2 hm ⊢
    have hg : M1 1 4 = nI (s 4) := by rw [hR2 4 (by omega), ht]
    rw [Nat.sub_self] at ho
    have ho' : t = od (s 4) s 0 k := ho
    refine ⟨M1, ?_, by rw [← ho']; exact hR2, hm⟩
    unfold fX5_orders_b17
    simp (disch := first | omega | assumption) only [kk_nm, Option.bind_some, kl_0, kl_1, kl_2, kl_3, kl_4, kl_5, kl_6, kl_7, kl_8, kl_9, kl_10, kl_12, kl_14, kl_15, kl_16, kl_20, kl_31, kl_33, kl_48, kl_49, kl_50, kl_57, kl_59, kl_60, kl_62, kl_63, kl_98, kl_99, kl_103, kl_104, kl_126, kl_144, kl_310, kl_372, kl_100000, kl_1000000, kl_neg, kl_mm, kl_am, nI_add, kl_mul, kl_sub, kl_le, kl_lt, kl_eq, kl_eM, kl_Me, kl_ltM, kl_leM, kl_ck, kl_cj, kl_cb, kl_bit, nI_clamp, va_up_self, va_up_ne, pk_us, pk_un, if_pos, if_neg, eq_self, and_true, true_and, and_false, false_and, if_true, if_false, Bool.false_eq_true, hg]) n 0 (nI k, nI 0, va_up M 1 f1) (by omega) (by omega) ⟨by omega, k, s, hk, rfl, rfl, by dsimp only; rw [va_up_self]; exact hR1, rfl, rfl, fun i i1 => by dsimp only; rw [va_up_ne _ _ i1]⟩
  refine ⟨M2, ?_, hM2, hk2⟩
  unfold fX5_orders
  simp (disch := first | omega | assumption) only [kk_nm, Option.bind_some, kl_0, kl_1, kl_2, kl_3, kl_4, kl_5, kl_6, kl_7, kl_8, kl_9, kl_10, kl_12, kl_14, kl_15, kl_16, kl_20, kl_31, kl_33, kl_48, kl_49, kl_50, kl_57, kl_59, kl_60, kl_62, kl_63, kl_98, kl_99, kl_103, kl_104, kl_126, kl_144, kl_310, kl_372, kl_100000, kl_1000000, kl_neg, kl_mm, kl_am, nI_add, kl_mul, kl_sub, kl_le, kl_lt, kl_eq, kl_eM, kl_Me, kl_ltM, kl_leM, kl_ck, kl_cj, kl_cb, kl_bit, nI_clamp, va_up_self, va_up_ne, pk_us, pk_un, if_pos, if_neg, eq_self, and_true, true_and, and_false, false_and, if_true, if_false, Bool.false_eq_true, e1', e2]
theorem fac_le {d : Nat} (h : d ≤ 6) : 1 ≤ fac d ∧ fac d ≤ 720 := by
  have : ∀ d, d < 7 → 1 ≤ fac d ∧ fac d ≤ 720 := by decide
  exact this d (by omega)
theorem q5_least {s : Nat → Nat} {M : St1} (hn : 1000 ≤ n) (hR : RM (M 0) s) (hW : WF s) : ∃ M', fX5_least n M = some (if s 4 ≤ 6 then nI (t_lst s) else kM, M') ∧ ∀ k, k ≠ 1 → M' k = M k := by
  have w1 := hW.2.1
  have r0 := hR.r
  have hal := t_all_le s w1.1
  have ha := q5_allTrouble hn hR hW
  by_cases c : s 4 ≤ 6
  · have hf := fac_le c
    have e1 : kk_it (fun (st : Int32 × Int32) => fX5_least_b17 n M st.1 st.2) n (nI 1, nI 2) = some (nI (fac (s 4))) := by
      by_cases c1 : s 4 = 0
      · obtain ⟨m, rfl⟩ : ∃ m, n = m + 1 := ⟨n - 1, by omega⟩
        refine kl_stepR ?_
        show fX5_least_b17 (m + 1) M (nI 1) (nI 2) = _
        unfold fX5_least_b17
        rw [c1]
        simp (disch := first | omega | assumption) only [kk_nm, Option.bind_some, kl_0, kl_1, kl_2, kl_3, kl_4, kl_5, kl_6, kl_7, kl_8, kl_9, kl_10, kl_12, kl_14, kl_15, kl_16, kl_20, kl_31, kl_33, kl_48, kl_49, kl_50, kl_57, kl_59, kl_60, kl_62, kl_63, kl_98, kl_99, kl_103, kl_104, kl_126, kl_144, kl_310, kl_372, kl_100000, kl_1000000, kl_neg, kl_mm, kl_am, nI_add, kl_mul, kl_sub, kl_le, kl_lt, kl_eq, kl_eM, kl_Me, kl_ltM, kl_leM, kl_ck, kl_cj, kl_cb, kl_bit, nI_clamp, va_up_self, va_up_ne, pk_us, pk_un, if_pos, if_neg, eq_self, and_true, true_and, and_false, false_and, if_true, if_false, Bool.false_eq_true, r0, c1]
        rfl
      · have h1 := kl_for (body := fun (st : Int32 × Int32) => fX5_least_b17 n M st.1 st.2) (fun k => (nI (fac (k + 1)), nI (k + 2))) (nI (fac (s 4))) (s 4 - 1) (fun k hk => by
          show fX5_least_b17 n M (nI (fac (k + 1))) (nI (k + 2)) = some (.inl (nI (fac (k + 1) * (k + 1 + 1)), nI (k + 1 + 2)))
          unfold fX5_least_b17
          have ea : k + 1 + 2 = k + 2 + 1 := by omega
          rw [ea]
          simp (disch := first | omega | assumption) only [kk_nm, Option.bind_some, kl_0, kl_1, kl_2, kl_3, kl_4, kl_5, kl_6, kl_7, kl_8, kl_9, kl_10, kl_12, kl_14, kl_15, kl_16, kl_20, kl_31, kl_33, kl_48, kl_49, kl_50, kl_57, kl_59, kl_60, kl_62, kl_63, kl_98, kl_99, kl_103, kl_104, kl_126, kl_144, kl_310, kl_372, kl_100000, kl_1000000, kl_neg, kl_mm, kl_am, nI_add, kl_mul, kl_sub, kl_le, kl_lt, kl_eq, kl_eM, kl_Me, kl_ltM, kl_leM, kl_ck, kl_cj, kl_cb, kl_bit, nI_clamp, va_up_self, va_up_ne, pk_us, pk_un, if_pos, if_neg, eq_self, and_true, true_and, and_false, false_and, if_true, if_false, Bool.false_eq_true, r0]) (by
          show fX5_least_b17 n M (nI (fac (s 4 - 1 + 1))) (nI (s 4 - 1 + 2)) = _
          unfold fX5_least_b17
          rw [(by omega : s 4 - 1 + 1 = s 4)]
          simp (disch := first | omega | assumption) only [kk_nm, Option.bind_some, kl_0, kl_1, kl_2, kl_3, kl_4, kl_5, kl_6, kl_7, kl_8, kl_9, kl_10, kl_12, kl_14, kl_15, kl_16, kl_20, kl_31, kl_33, kl_48, kl_49, kl_50, kl_57, kl_59, kl_60, kl_62, kl_63, kl_98, kl_99, kl_103, kl_104, kl_126, kl_144, kl_310, kl_372, kl_100000, kl_1000000, kl_neg, kl_mm, kl_am, nI_add, kl_mul, kl_sub, kl_le, kl_lt, kl_eq, kl_eM, kl_Me, kl_ltM, kl_leM, kl_ck, kl_cj, kl_cb, kl_bit, nI_clamp, va_up_self, va_up_ne, pk_us, pk_un, if_pos, if_neg, eq_self, and_true, true_and, and_false, false_and, if_true, if_false, Bool.false_eq_true, r0]) n 0 (by omega) (by omega)
        exact h1
    obtain ⟨⟨x, M1⟩, e2, hx, hM1⟩ := kl_forI (body := fun (st : Int32 × Int32 × St1) => fX5_least_b47 n (nI (fac (s 4))) st.1 st.2.1 st.2.2) (fun k st => st.1 = nI (mI (t_all s) (fun k => t_all (od (s 4) s 0 k)) k) ∧ st.2.1 = nI k ∧ ∀ i, i ≠ 1 → st.2.2 i = M i) (fun r => r.1 = nI (mI (t_all s) (fun k => t_all (od (s 4) s 0 k)) (fac (s 4))) ∧ ∀ i, i ≠ 1 → r.2 i = M i) (fac (s 4)) (fun k st hk hI => by
      obtain ⟨x0, x1, M1⟩ := st
      obtain ⟨rfl, rfl, hm⟩ := hI
      dsimp only at hm ⊢
      have hR1 : RM (M1 0) s := by rw [hm 0 (by omega)]; exact hR
      obtain ⟨M2, e2, hR2, hm2⟩ := q5_orders (k := k) hn hR1 hW (by omega)
      obtain ⟨π, hπ, eπ⟩ := od_pm (s 4) s 0 k
      have hWo : WF (od (s 4) s 0 k) := by rw [eπ]; exact WF_pS (fun q hq => by have := (hπ.2.1 q (by omega) (by omega)).2; omega) hW
      have hal2 := t_all_le _ hWo.2.1.1
      have e3 := q5_allTrouble hn hR2 hWo
      have hml := mI_le (t_all s) (fun k => t_all (od (s 4) s 0 k)) k
      have hst : mI (t_all s) (fun k => t_all (od (s 4) s 0 k)) (k + 1) = min (mI (t_all s) (fun k => t_all (od (s 4) s 0 k)) k) (t_all (od (s 4) s 0 k)) := rfl
      generalize mI (t_all s) (fun k => t_all (od (s 4) s 0 k)) k = B at hml hst ⊢
      by_cases c2 : B ≤ t_all (od (s 4) s 0 k)
      · refine ⟨(nI B, nI (k + 1), M2), ?_, by rw [hst, Nat.min_eq_left c2], rfl, fun i i1 => by dsimp only; rw [hm2 i i1]; exact hm i i1⟩
        unfold fX5_least_b47
        simp (disch := first | omega | assumption) only [kk_nm, Option.bind_some, kl_0, kl_1, kl_2, kl_3, kl_4, kl_5, kl_6, kl_7, kl_8, kl_9, kl_10, kl_12, kl_14, kl_15, kl_16, kl_20, kl_31, kl_33, kl_48, kl_49, kl_50, kl_57, kl_59, kl_60, kl_62, kl_63, kl_98, kl_99, kl_103, kl_104, kl_126, kl_144, kl_310, kl_372, kl_100000, kl_1000000, kl_neg, kl_mm, kl_am, nI_add, kl_mul, kl_sub, kl_le, kl_lt, kl_eq, kl_eM, kl_Me, kl_ltM, kl_leM, kl_ck, kl_cj, kl_cb, kl_bit, nI_clamp, va_up_self, va_up_ne, pk_us, pk_un, if_pos, if_neg, eq_self, and_true, true_and, and_false, false_and, if_true, if_false, Bool.false_eq_true, e2, e3]
      · refine ⟨(nI (t_all (od (s 4) s 0 k)), nI (k + 1), M2), ?_, by rw [hst, Nat.min_eq_right (by omega)], rfl, fun i i1 => by dsimp only; rw [hm2 i i1]; exact hm i i1⟩
        unfold fX5_least_b47
        simp (disch := first | omega | assumption) only [kk_nm, Option.bind_some, kl_0, kl_1, kl_2, kl_3, kl_4, kl_5, kl_6, kl_7, kl_8, kl_9, kl_10, kl_12, kl_14, kl_15, kl_16, kl_20, kl_31, kl_33, kl_48, kl_49, kl_50, kl_57, kl_59, kl_60, kl_62, kl_63, kl_98, kl_99, kl_103, kl_104, kl_126, kl_144, kl_310, kl_372, kl_100000, kl_1000000, kl_neg, kl_mm, kl_am, nI_add, kl_mul, kl_sub, kl_le, kl_lt, kl_eq, kl_eM, kl_Me, kl_ltM, kl_leM, kl_ck, kl_cj, kl_cb, kl_bit, nI_clamp, va_up_self, va_up_ne, pk_us, pk_un, if_pos, if_neg, eq_self, and_true, true_and, and_false, false_and, if_true, if_false, Bool.false_eq_true, e2, e3]) (fun st hI => by
      obtain ⟨x0, x1, M1⟩ := st
      obtain ⟨rfl, rfl, hm⟩ := hI
      dsimp only at hm ⊢
      refine ⟨(_, M1), ?_, rfl, hm⟩
      unfold fX5_least_b47
      simp (disch := first | omega | assumption) only [kk_nm, Option.bind_some, kl_0, kl_1, kl_2, kl_3, kl_4, kl_5, kl_6, kl_7, kl_8, kl_9, kl_10, kl_12, kl_14, kl_15, kl_16, kl_20, kl_31, kl_33, kl_48, kl_49, kl_50, kl_57, kl_59, kl_60, kl_62, kl_63, kl_98, kl_99, kl_103, kl_104, kl_126, kl_144, kl_310, kl_372, kl_100000, kl_1000000, kl_neg, kl_mm, kl_am, nI_add, kl_mul, kl_sub, kl_le, kl_lt, kl_eq, kl_eM, kl_Me, kl_ltM, kl_leM, kl_ck, kl_cj, kl_cb, kl_bit, nI_clamp, va_up_self, va_up_ne, pk_us, pk_un, if_pos, if_neg, eq_self, and_true, true_and, and_false, false_and, if_true, if_false, Bool.false_eq_true]
      rfl) n 0 (nI (t_all s), nI 0, M) (by omega) (by omega) ⟨rfl, rfl, fun _ _ => rfl⟩
    dsimp only at hx hM1
    rw [least_eq] at hx
    subst hx
    refine ⟨M1, ?_, hM1⟩
    unfold fX5_least t_lst
    simp (disch := first | omega | assumption) only [kk_nm, Option.bind_some, kl_0, kl_1, kl_2, kl_3, kl_4, kl_5, kl_6, kl_7, kl_8, kl_9, kl_10, kl_12, kl_14, kl_15, kl_16, kl_20, kl_31, kl_33, kl_48, kl_49, kl_50, kl_57, kl_59, kl_60, kl_62, kl_63, kl_98, kl_99, kl_103, kl_104, kl_126, kl_144, kl_310, kl_372, kl_100000, kl_1000000, kl_neg, kl_mm, kl_am, nI_add, kl_mul, kl_sub, kl_le, kl_lt, kl_eq, kl_eM, kl_Me, kl_ltM, kl_leM, kl_ck, kl_cj, kl_cb, kl_bit, nI_clamp, va_up_self, va_up_ne, pk_us, pk_un, if_pos, if_neg, eq_self, and_true, true_and, and_false, false_and, if_true, if_false, Bool.false_eq_true, r0, e1, ha, e2]
  · refine ⟨M, ?_, fun _ _ => rfl⟩
    unfold fX5_least
    simp (disch := first | omega | assumption) only [kk_nm, Option.bind_some, kl_0, kl_1, kl_2, kl_3, kl_4, kl_5, kl_6, kl_7, kl_8, kl_9, kl_10, kl_12, kl_14, kl_15, kl_16, kl_20, kl_31, kl_33, kl_48, kl_49, kl_50, kl_57, kl_59, kl_60, kl_62, kl_63, kl_98, kl_99, kl_103, kl_104, kl_126, kl_144, kl_310, kl_372, kl_100000, kl_1000000, kl_neg, kl_mm, kl_am, nI_add, kl_mul, kl_sub, kl_le, kl_lt, kl_eq, kl_eM, kl_Me, kl_ltM, kl_leM, kl_ck, kl_cj, kl_cb, kl_bit, nI_clamp, va_up_self, va_up_ne, pk_us, pk_un, if_pos, if_neg, eq_self, and_true, true_and, and_false, false_and, if_true, if_false, Bool.false_eq_true, r0]
end
