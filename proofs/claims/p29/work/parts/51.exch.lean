/-! the best exchange, and arranging -/
def kX (s : Nat → Nat) (k : Nat) : Nat := kY (pS (sw (k / 12) (k % 12)) s)
def xs (s : Nat → Nat) : Nat → Nat × Nat
  | 0 => (0, kY s)
  | k + 1 => if (k / 12 < k % 12 ∧ k % 12 < s 4) ∧ kX s k < (xs s k).2 then (16 * (k / 12) + k % 12 + 1, kX s k) else xs s k
theorem xs_skip (s : Nat → Nat) {a : Nat} : ∀ {b : Nat}, a ≤ b → (∀ k, a ≤ k → k < b → ¬ (k / 12 < k % 12 ∧ k % 12 < s 4)) → xs s b = xs s a
  | 0, h, _ => by
    have : a = 0 := by omega
    rw [this]
  | b + 1, h, hn => by
    by_cases e : a = b + 1
    · rw [e]
    · have h1 : xs s (b + 1) = if (b / 12 < b % 12 ∧ b % 12 < s 4) ∧ kX s b < (xs s b).2 then (16 * (b / 12) + b % 12 + 1, kX s b) else xs s b := rfl
      rw [h1, if_neg (fun h => hn b (by omega) (by omega) h.1)]
      exact xs_skip s (by omega) (fun k h1 h2 => hn k h1 (by omega))
theorem xs_ok (s : Nat → Nat) : ∀ k, k ≤ 144 → ((xs s k).1 = 0 ∧ (xs s k).2 = kY s) ∨ ∃ i j, i < j ∧ j < s 4 ∧ j < 12 ∧ (xs s k).1 = 16 * i + j + 1 ∧ (xs s k).2 = kY (pS (sw i j) s) ∧ (xs s k).2 < kY s
  | 0, _ => .inl ⟨rfl, rfl⟩
  | k + 1, hk => by
    have h1 : xs s (k + 1) = if (k / 12 < k % 12 ∧ k % 12 < s 4) ∧ kX s k < (xs s k).2 then (16 * (k / 12) + k % 12 + 1, kX s k) else xs s k := rfl
    have ih := xs_ok s k (by omega)
    rw [h1]
    by_cases c : (k / 12 < k % 12 ∧ k % 12 < s 4) ∧ kX s k < (xs s k).2
    · rw [if_pos c]
      refine .inr ⟨k / 12, k % 12, c.1.1, c.1.2, by omega, rfl, rfl, ?_⟩
      have := c.2
      dsimp only
      rcases ih with ⟨-, h⟩ | ⟨i, j, -, -, -, -, -, h⟩
      · omega
      · omega
    · rw [if_neg c]; exact ih
def cA (x : Nat) : Int32 := if x = 0 then kM else nI ((x - 1) / 16)
def cB (x : Nat) : Int32 := if x = 0 then kM else nI ((x - 1) % 16)
section
variable {n : Nat} {s : Nat → Nat}
theorem q4_exIn {G : St2} {i : Nat} (hn : 1000 ≤ n) (hW : WF s) (hi : i < s 4) (hR : RP (G 1) s) (hB : RB (G 3) (xs s (12 * i)).2) : ∃ G', kk_it (fun (st : Int32 × Int32 × Int32 × St2) => fX4_doBestExchange_b33 n (nI i) st.1 st.2.1 st.2.2.1 st.2.2.2) n (cA (xs s (12 * i)).1, cB (xs s (12 * i)).1, nI (i + 1), G) = some (cA (xs s (12 * (i + 1))).1, cB (xs s (12 * (i + 1))).1, G') ∧ RP (G' 1) s ∧ RB (G' 3) (xs s (12 * (i + 1))).2 ∧ ∀ k, k ≠ 1 → k ≠ 3 → G' k = G k := by
  have w1 := hW.2.1
  have e0 : xs s (12 * i + (i + 1)) = xs s (12 * i) := xs_skip s (by omega) (fun k h1 h2 h => by omega)
  have e1 : xs s (12 * (i + 1)) = xs s (12 * i + s 4) := xs_skip s (by omega) (fun k h1 h2 h => by omega)
  rw [e1]
  obtain ⟨⟨x1, x2, G1⟩, e, hx1, hx2, hR1, hB1, hk1⟩ := kl_forI (body := fun (st : Int32 × Int32 × Int32 × St2) => fX4_doBestExchange_b33 n (nI i) st.1 st.2.1 st.2.2.1 st.2.2.2) (fun j st => i < j ∧ st.1 = cA (xs s (12 * i + j)).1 ∧ st.2.1 = cB (xs s (12 * i + j)).1 ∧ st.2.2.1 = nI j ∧ RP (st.2.2.2 1) s ∧ RB (st.2.2.2 3) (xs s (12 * i + j)).2 ∧ ∀ k, k ≠ 1 → k ≠ 3 → st.2.2.2 k = G k) (fun r => r.1 = cA (xs s (12 * i + s 4)).1 ∧ r.2.1 = cB (xs s (12 * i + s 4)).1 ∧ RP (r.2.2 1) s ∧ RB (r.2.2 3) (xs s (12 * i + s 4)).2 ∧ ∀ k, k ≠ 1 → k ≠ 3 → r.2.2 k = G k) (s 4) (fun j st hj hI => by
    obtain ⟨x0, x1, x2, G1⟩ := st
    obtain ⟨hij, rfl, rfl, rfl, hR1, hB1, hk⟩ := hI
    dsimp only at hR1 hB1 hk ⊢
    have h10 := hR1.1
    have d1 : (12 * i + j) / 12 = i := by omega
    have d2 : (12 * i + j) % 12 = j := by omega
    have hst : xs s (12 * i + j + 1) = if (i < j ∧ j < s 4) ∧ kY (pS (sw i j) s) < (xs s (12 * i + j)).2 then (16 * i + j + 1, kY (pS (sw i j) s)) else xs s (12 * i + j) := by
      have h : xs s (12 * i + j + 1) = if ((12 * i + j) / 12 < (12 * i + j) % 12 ∧ (12 * i + j) % 12 < s 4) ∧ kX s (12 * i + j) < (xs s (12 * i + j)).2 then (16 * ((12 * i + j) / 12) + (12 * i + j) % 12 + 1, kX s (12 * i + j)) else xs s (12 * i + j) := rfl
      unfold kX at h
      rw [d1, d2] at h
      exact h
    have hWs : WF (pS (sw i j) s) := WF_pS (fun _ hq => sw_lt hi hj hq) hW
    obtain ⟨P2, e2, hR2⟩ := q2_swapR (n := n) hR1 hW hi hj
    obtain ⟨B3, P3, e3, hR3, hB3⟩ := q0_isBeatenBy (n := n) hn hB1 hR2 hWs
    obtain ⟨P4, e4, hR4⟩ := q2_swapR (n := n) (i := i) (j := j) hR3 hWs (by rw [pS_lo (by omega)]; exact hi) (by rw [pS_lo (by omega)]; exact hj)
    rw [pS_pS, pS_id (sw_sw i j)] at hR4
    by_cases c : kY (pS (sw i j) s) < (xs s (12 * i + j)).2
    · rw [if_pos ⟨⟨hij, hj⟩, c⟩] at hst
      rw [if_pos c] at e3 hB3
      refine ⟨(nI i, nI j, nI (j + 1), va_up (va_up (va_up (va_up G1 1 P2) 3 B3) 1 P3) 1 P4), ?_, by omega, ?_, ?_, rfl, ?_, ?_, fun k k1 k3 => ?_⟩
      · unfold fX4_doBestExchange_b33
        simp (disch := first | omega | assumption) only [kk_nm, Option.bind_some, kl_0, kl_1, kl_2, kl_3, kl_4, kl_5, kl_6, kl_7, kl_8, kl_9, kl_10, kl_12, kl_14, kl_15, kl_16, kl_20, kl_31, kl_33, kl_48, kl_49, kl_50, kl_57, kl_59, kl_60, kl_62, kl_63, kl_98, kl_99, kl_103, kl_104, kl_126, kl_144, kl_310, kl_372, kl_100000, kl_1000000, kl_neg, kl_mm, kl_am, nI_add, kl_mul, kl_sub, kl_le, kl_lt, kl_eq, kl_eM, kl_Me, kl_ltM, kl_leM, kl_ck, kl_cj, kl_cb, kl_bit, nI_clamp, va_up_self, va_up_ne, pk_us, pk_un, if_pos, if_neg, eq_self, and_true, true_and, and_false, false_and, if_true, if_false, Bool.false_eq_true, h10, e2, e3, e4]
      · dsimp only
        rw [← Nat.add_assoc, hst]; unfold cA; rw [if_neg (by omega)]; congr 1; dsimp only; omega
      · dsimp only
        rw [← Nat.add_assoc, hst]; unfold cB; rw [if_neg (by omega)]; congr 1; dsimp only; omega
      · dsimp only; rw [va_up_self]; exact hR4
      · dsimp only; rw [va_up_ne _ _ (by omega), va_up_ne _ _ (by omega), va_up_self, ← Nat.add_assoc, hst]; exact hB3
      · dsimp only; rw [va_up_ne _ _ k1, va_up_ne _ _ k1, va_up_ne _ _ k3, va_up_ne _ _ k1]; exact hk k k1 k3
    · rw [if_neg (fun h => c h.2)] at hst
      rw [if_neg c] at e3 hB3
      refine ⟨(cA (xs s (12 * i + j)).1, cB (xs s (12 * i + j)).1, nI (j + 1), va_up (va_up (va_up (va_up G1 1 P2) 3 B3) 1 P3) 1 P4), ?_, by omega, ?_, ?_, rfl, ?_, ?_, fun k k1 k3 => ?_⟩
      · unfold fX4_doBestExchange_b33
        simp (disch := first | omega | assumption) only [kk_nm, Option.bind_some, kl_0, kl_1, kl_2, kl_3, kl_4, kl_5, kl_6, kl_7, kl_8, kl_9, kl_10, kl_12, kl_14, kl_15, kl_16, kl_20, kl_31, kl_33, kl_48, kl_49, kl_50, kl_57, kl_59, kl_60, kl_62, kl_63, kl_98, kl_99, kl_103, kl_104, kl_126, kl_144, kl_310, kl_372, kl_100000, kl_1000000, kl_neg, kl_mm, kl_am, nI_add, kl_mul, kl_sub, kl_le, kl_lt, kl_eq, kl_eM, kl_Me, kl_ltM, kl_leM, kl_ck, kl_cj, kl_cb, kl_bit, nI_clamp, va_up_self, va_up_ne, pk_us, pk_un, if_pos, if_neg, eq_self, and_true, true_and, and_false, false_and, if_true, if_false, Bool.false_eq_true, h10, e2, e3, e4]
      · dsimp only; rw [← Nat.add_assoc, hst]
      · dsimp only; rw [← Nat.add_assoc, hst]
      · dsimp only; rw [va_up_self]; exact hR4
      · dsimp only; rw [va_up_ne _ _ (by omega), va_up_ne _ _ (by omega), va_up_self, ← Nat.add_assoc, hst]; exact hB3
      · dsimp only; rw [va_up_ne _ _ k1, va_up_ne _ _ k1, va_up_ne _ _ k3, va_up_ne _ _ k1]; exact hk k k1 k3) (fun st hI => by
    obtain ⟨x0, x1, x2, G1⟩ := st
    obtain ⟨hij, rfl, rfl, rfl, hR1, hB1, hk⟩ := hI
    dsimp only at hR1 hB1 hk ⊢
    have h10 := hR1.1
    refine ⟨(cA (xs s (12 * i + s 4)).1, cB (xs s (12 * i + s 4)).1, G1), ?_, rfl, rfl, hR1, hB1, hk⟩
    unfold fX4_doBestExchange_b33
    simp (disch := first | omega | assumption) only [kk_nm, Option.bind_some, kl_0, kl_1, kl_2, kl_3, kl_4, kl_5, kl_6, kl_7, kl_8, kl_9, kl_10, kl_12, kl_14, kl_15, kl_16, kl_20, kl_31, kl_33, kl_48, kl_49, kl_50, kl_57, kl_59, kl_60, kl_62, kl_63, kl_98, kl_99, kl_103, kl_104, kl_126, kl_144, kl_310, kl_372, kl_100000, kl_1000000, kl_neg, kl_mm, kl_am, nI_add, kl_mul, kl_sub, kl_le, kl_lt, kl_eq, kl_eM, kl_Me, kl_ltM, kl_leM, kl_ck, kl_cj, kl_cb, kl_bit, nI_clamp, va_up_self, va_up_ne, pk_us, pk_un, if_pos, if_neg, eq_self, and_true, true_and, and_false, false_and, if_true, if_false, Bool.false_eq_true, h10]) n (i + 1) (cA (xs s (12 * i)).1, cB (xs s (12 * i)).1, nI (i + 1), G) (by omega) (by omega) ⟨by omega, by rw [e0], by rw [e0], rfl, hR, by rw [e0]; exact hB, fun _ _ _ => rfl⟩
  dsimp only at hx1 hx2 hR1 hB1 hk1
  subst hx1; subst hx2
  exact ⟨G1, e, hR1, hB1, hk1⟩
theorem q4_doBestExchange {G : St2} (hn : 1000 ≤ n) (hR : RP (G 1) s) (hW : WF s) : ∃ G', fX4_doBestExchange n G = some (nI (if (xs s 144).1 = 0 then 0 else 1), G') ∧ RP (G' 1) (if (xs s 144).1 = 0 then s else pS (sw (((xs s 144).1 - 1) / 16) (((xs s 144).1 - 1) % 16)) s) ∧ ∀ k, k ≠ 1 → k ≠ 3 → G' k = G k := by
  have w1 := hW.2.1
  obtain ⟨B1, P1, e1, hR1, hB1⟩ := q0_startAt (B := G 3) hn hR hW
  have e144 : xs s 144 = xs s (12 * s 4) := xs_skip s (by omega) (fun k h1 h2 h => by omega)
  obtain ⟨⟨x1, x2, G2⟩, e, hx1, hx2, hR2, hk2⟩ := kl_forI (body := fun (st : Int32 × Int32 × Int32 × St2) => fX4_doBestExchange_b17 n st.1 st.2.1 st.2.2.1 st.2.2.2) (fun i st => st.1 = cA (xs s (12 * i)).1 ∧ st.2.1 = cB (xs s (12 * i)).1 ∧ st.2.2.1 = nI i ∧ RP (st.2.2.2 1) s ∧ RB (st.2.2.2 3) (xs s (12 * i)).2 ∧ ∀ k, k ≠ 1 → k ≠ 3 → st.2.2.2 k = G k) (fun r => r.1 = cA (xs s 144).1 ∧ r.2.1 = cB (xs s 144).1 ∧ RP (r.2.2 1) s ∧ ∀ k, k ≠ 1 → k ≠ 3 → r.2.2 k = G k) (s 4) (fun i st hi hI => by
    obtain ⟨x0, x1, x2, G1⟩ := st
    obtain ⟨rfl, rfl, rfl, hR3, hB3, hk⟩ := hI
    dsimp only at hR3 hB3 hk ⊢
    have h10 := hR3.1
    obtain ⟨G4, e4, hR4, hB4, hk4⟩ := q4_exIn hn hW hi hR3 hB3
    refine ⟨(cA (xs s (12 * (i + 1))).1, cB (xs s (12 * (i + 1))).1, nI (i + 1), G4), ?_, rfl, rfl, rfl, hR4, hB4, fun k k1 k3 => by dsimp only; rw [hk4 k k1 k3]; exact hk k k1 k3⟩
    unfold fX4_doBestExchange_b17
    simp (disch := first | omega | assumption) only [kk_nm, Option.bind_some, kl_0, kl_1, kl_2, kl_3, kl_4, kl_5, kl_6, kl_7, kl_8, kl_9, kl_10, kl_12, kl_14, kl_15, kl_16, kl_20, kl_31, kl_33, kl_48, kl_49, kl_50, kl_57, kl_59, kl_60, kl_62, kl_63, kl_98, kl_99, kl_103, kl_104, kl_126, kl_144, kl_310, kl_372, kl_100000, kl_1000000, kl_neg, kl_mm, kl_am, nI_add, kl_mul, kl_sub, kl_le, kl_lt, kl_eq, kl_eM, kl_Me, kl_ltM, kl_leM, kl_ck, kl_cj, kl_cb, kl_bit, nI_clamp, va_up_self, va_up_ne, pk_us, pk_un, if_pos, if_neg, eq_self, and_true, true_and, and_false, false_and, if_true, if_false, Bool.false_eq_true, h10, e4]) (fun st hI => by
    obtain ⟨x0, x1, x2, G1⟩ := st
    obtain ⟨rfl, rfl, rfl, hR3, hB3, hk⟩ := hI
    dsimp only at hR3 hB3 hk ⊢
    have h10 := hR3.1
    refine ⟨(cA (xs s (12 * s 4)).1, cB (xs s (12 * s 4)).1, G1), ?_, by rw [e144], by rw [e144], hR3, hk⟩
    unfold fX4_doBestExchange_b17
    simp (disch := first | omega | assumption) only [kk_nm, Option.bind_some, kl_0, kl_1, kl_2, kl_3, kl_4, kl_5, kl_6, kl_7, kl_8, kl_9, kl_10, kl_12, kl_14, kl_15, kl_16, kl_20, kl_31, kl_33, kl_48, kl_49, kl_50, kl_57, kl_59, kl_60, kl_62, kl_63, kl_98, kl_99, kl_103, kl_104, kl_126, kl_144, kl_310, kl_372, kl_100000, kl_1000000, kl_neg, kl_mm, kl_am, nI_add, kl_mul, kl_sub, kl_le, kl_lt, kl_eq, kl_eM, kl_Me, kl_ltM, kl_leM, kl_ck, kl_cj, kl_cb, kl_bit, nI_clamp, va_up_self, va_up_ne, pk_us, pk_un, if_pos, if_neg, eq_self, and_true, true_and, and_false, false_and, if_true, if_false, Bool.false_eq_true, h10]) n 0 (kM, kM, nI 0, va_up (va_up G 3 B1) 1 P1) (by omega) (by omega) ⟨rfl, rfl, rfl, by dsimp only; rw [va_up_self]; exact hR1, by dsimp only; rw [va_up_ne _ _ (by omega), va_up_self]; exact hB1, fun k k1 k3 => by dsimp only; rw [va_up_ne _ _ k1, va_up_ne _ _ k3]⟩
  dsimp only at hx1 hx2 hR2 hk2
  subst hx1; subst hx2
  rcases xs_ok s 144 (by omega) with ⟨h1, -⟩ | ⟨i, j, hij, hj, hj12, h1, -, -⟩
  · rw [if_pos h1, if_pos h1]
    refine ⟨G2, ?_, hR2, hk2⟩
    unfold fX4_doBestExchange
    simp (disch := first | omega | assumption) only [kk_nm, Option.bind_some, kl_0, kl_1, kl_2, kl_3, kl_4, kl_5, kl_6, kl_7, kl_8, kl_9, kl_10, kl_12, kl_14, kl_15, kl_16, kl_20, kl_31, kl_33, kl_48, kl_49, kl_50, kl_57, kl_59, kl_60, kl_62, kl_63, kl_98, kl_99, kl_103, kl_104, kl_126, kl_144, kl_310, kl_372, kl_100000, kl_1000000, kl_neg, kl_mm, kl_am, nI_add, kl_mul, kl_sub, kl_le, kl_lt, kl_eq, kl_eM, kl_Me, kl_ltM, kl_leM, kl_ck, kl_cj, kl_cb, kl_bit, nI_clamp, va_up_self, va_up_ne, pk_us, pk_un, if_pos, if_neg, eq_self, and_true, true_and, and_false, false_and, if_true, if_false, Bool.false_eq_true, e1, e]
    unfold cA
    rw [if_pos h1]
    simp (disch := first | omega | assumption) only [kk_nm, Option.bind_some, kl_0, kl_1, kl_2, kl_3, kl_4, kl_5, kl_6, kl_7, kl_8, kl_9, kl_10, kl_12, kl_14, kl_15, kl_16, kl_20, kl_31, kl_33, kl_48, kl_49, kl_50, kl_57, kl_59, kl_60, kl_62, kl_63, kl_98, kl_99, kl_103, kl_104, kl_126, kl_144, kl_310, kl_372, kl_100000, kl_1000000, kl_neg, kl_mm, kl_am, nI_add, kl_mul, kl_sub, kl_le, kl_lt, kl_eq, kl_eM, kl_Me, kl_ltM, kl_leM, kl_ck, kl_cj, kl_cb, kl_bit, nI_clamp, va_up_self, va_up_ne, pk_us, pk_un, if_pos, if_neg, eq_self, and_true, true_and, and_false, false_and, if_true, if_false, Bool.false_eq_true]
  · rw [if_neg (by omega), if_neg (by omega)]
    have d1 : ((xs s 144).1 - 1) / 16 = i := by omega
    have d2 : ((xs s 144).1 - 1) % 16 = j := by omega
    rw [d1, d2]
    obtain ⟨P4, e4, hR4⟩ := q2_swapR (n := n) (i := i) (j := j) hR2 hW (by omega) hj
    refine ⟨va_up G2 1 P4, ?_, by rw [va_up_self]; exact hR4, fun k k1 k3 => by rw [va_up_ne _ _ k1]; exact hk2 k k1 k3⟩
    unfold fX4_doBestExchange
    simp (disch := first | omega | assumption) only [kk_nm, Option.bind_some, kl_0, kl_1, kl_2, kl_3, kl_4, kl_5, kl_6, kl_7, kl_8, kl_9, kl_10, kl_12, kl_14, kl_15, kl_16, kl_20, kl_31, kl_33, kl_48, kl_49, kl_50, kl_57, kl_59, kl_60, kl_62, kl_63, kl_98, kl_99, kl_103, kl_104, kl_126, kl_144, kl_310, kl_372, kl_100000, kl_1000000, kl_neg, kl_mm, kl_am, nI_add, kl_mul, kl_sub, kl_le, kl_lt, kl_eq, kl_eM, kl_Me, kl_ltM, kl_leM, kl_ck, kl_cj, kl_cb, kl_bit, nI_clamp, va_up_self, va_up_ne, pk_us, pk_un, if_pos, if_neg, eq_self, and_true, true_and, and_false, false_and, if_true, if_false, Bool.false_eq_true, e1, e]
    unfold cA cB
    rw [if_neg (by omega), if_neg (by omega), d1, d2]
    simp (disch := first | omega | assumption) only [kk_nm, Option.bind_some, kl_0, kl_1, kl_2, kl_3, kl_4, kl_5, kl_6, kl_7, kl_8, kl_9, kl_10, kl_12, kl_14, kl_15, kl_16, kl_20, kl_31, kl_33, kl_48, kl_49, kl_50, kl_57, kl_59, kl_60, kl_62, kl_63, kl_98, kl_99, kl_103, kl_104, kl_126, kl_144, kl_310, kl_372, kl_100000, kl_1000000, kl_neg, kl_mm, kl_am, nI_add, kl_mul, kl_sub, kl_le, kl_lt, kl_eq, kl_eM, kl_Me, kl_ltM, kl_leM, kl_ck, kl_cj, kl_cb, kl_bit, nI_clamp, va_up_self, va_up_ne, pk_us, pk_un, if_pos, if_neg, eq_self, and_true, true_and, and_false, false_and, if_true, if_false, Bool.false_eq_true, e4]
theorem q5_bestExchange {M : St1} (hn : 1000 ≤ n) (hR : RM (M 0) s) (hW : WF s) : ∃ M', fX5_bestExchange n M = some (cod (xs s 144).1, M') ∧ ∀ i, i ≠ 1 → i ≠ 11 → M' i = M i := by
  have w1 := hW.2.1
  have ha := q5_allTrouble hn hR hW
  have hal := t_all_le s w1.1
  have hel := t_end_le hW (L := s 3) hW.1.2.2.2.2.2.2
  obtain ⟨M1, e1, hm1, -⟩ := q5_endsN hn hR hW
  obtain ⟨⟨x, M2⟩, e2, hx, hM2⟩ := kl_forI (body := fun (st : Int32 × Int32 × Int32 × Int32 × St1) => fX5_bestExchange_b22 n st.1 st.2.1 st.2.2.1 st.2.2.2.1 st.2.2.2.2) (fun k st => st.1 = cod (xs s k).1 ∧ (∃ a b, st.2.1 = nI a ∧ st.2.2.1 = nI b ∧ a ≤ 1000 ∧ b ≤ 999 ∧ (xs s k).2 = 100000 * a + b) ∧ st.2.2.2.1 = nI k ∧ ∀ i, i ≠ 1 → i ≠ 11 → st.2.2.2.2 i = M i) (fun r => r.1 = cod (xs s 144).1 ∧ ∀ i, i ≠ 1 → i ≠ 11 → r.2 i = M i) 144 (fun k st hk hI => by
    obtain ⟨x0, x1, x2, x3, M3⟩ := st
    obtain ⟨rfl, ⟨a, b, rfl, rfl, ha', hb', hab⟩, rfl, hm⟩ := hI
    dsimp only at hm ⊢
    have m0 := hm 0 (by omega) (by omega)
    have hR1 : RM (M3 0) s := by rw [m0]; exact hR
    have r0 := hR1.r
    have hst : xs s (k + 1) = if (k / 12 < k % 12 ∧ k % 12 < s 4) ∧ kX s k < (xs s k).2 then (16 * (k / 12) + k % 12 + 1, kX s k) else xs s k := rfl
    have d1 : nI k / nI 12 = nI (k / 12) := pk_div (by omega) (by omega) (by omega)
    have d2 : k - k / 12 * 12 = k % 12 := by omega
    by_cases c1 : k % 12 ≤ k / 12
    · rw [if_neg (by omega)] at hst
      refine ⟨(cod (xs s k).1, nI a, nI b, nI (k + 1), M3), ?_, by rw [hst], ⟨a, b, rfl, rfl, ha', hb', by rw [hst]; exact hab⟩, rfl, hm⟩
      unfold fX5_bestExchange_b22
      simp (disch := first | omega | assumption) only [kk_nm, Option.bind_some, kl_0, kl_1, kl_2, kl_3, kl_4, kl_5, kl_6, kl_7, kl_8, kl_9, kl_10, kl_12, kl_14, kl_15, kl_16, kl_20, kl_31, kl_33, kl_48, kl_49, kl_50, kl_57, kl_59, kl_60, kl_62, kl_63, kl_98, kl_99, kl_103, kl_104, kl_126, kl_144, kl_310, kl_372, kl_100000, kl_1000000, kl_neg, kl_mm, kl_am, nI_add, kl_mul, kl_sub, kl_le, kl_lt, kl_eq, kl_eM, kl_Me, kl_ltM, kl_leM, kl_ck, kl_cj, kl_cb, kl_bit, nI_clamp, va_up_self, va_up_ne, pk_us, pk_un, if_pos, if_neg, eq_self, and_true, true_and, and_false, false_and, if_true, if_false, Bool.false_eq_true, r0, d1, d2]
    · by_cases c2 : s 4 ≤ k % 12
      · rw [if_neg (by omega)] at hst
        refine ⟨(cod (xs s k).1, nI a, nI b, nI (k + 1), M3), ?_, by rw [hst], ⟨a, b, rfl, rfl, ha', hb', by rw [hst]; exact hab⟩, rfl, hm⟩
        unfold fX5_bestExchange_b22
        simp (disch := first | omega | assumption) only [kk_nm, Option.bind_some, kl_0, kl_1, kl_2, kl_3, kl_4, kl_5, kl_6, kl_7, kl_8, kl_9, kl_10, kl_12, kl_14, kl_15, kl_16, kl_20, kl_31, kl_33, kl_48, kl_49, kl_50, kl_57, kl_59, kl_60, kl_62, kl_63, kl_98, kl_99, kl_103, kl_104, kl_126, kl_144, kl_310, kl_372, kl_100000, kl_1000000, kl_neg, kl_mm, kl_am, nI_add, kl_mul, kl_sub, kl_le, kl_lt, kl_eq, kl_eM, kl_Me, kl_ltM, kl_leM, kl_ck, kl_cj, kl_cb, kl_bit, nI_clamp, va_up_self, va_up_ne, pk_us, pk_un, if_pos, if_neg, eq_self, and_true, true_and, and_false, false_and, if_true, if_false, Bool.false_eq_true, r0, d1, d2]
      · have hi : k / 12 < s 4 := by omega
        have hj : k % 12 < s 4 := by omega
        have hWs : WF (pS (sw (k / 12) (k % 12)) s) := WF_pS (fun _ hq => sw_lt hi hj hq) hW
        obtain ⟨f1, e1, hR2⟩ := q5_copy (n := n) (h := M3 1) hn hR1
        have e1' : fX5_copies n 62 62 (M3 0) (M3 1) (nI 0) (nI 0) = some f1 := e1
        obtain ⟨f2, e2, hR3⟩ := q5_exchanges (n := n) (i := k / 12) (j := k % 12) hn hR2 (by omega) (by omega)
        have e3 := q5_allTrouble hn hR3 hWs
        obtain ⟨M4, e4, hm4, -⟩ := q5_endsT (n := n) (M := va_up (va_up M3 1 f1) 1 f2) hn (by rw [va_up_self]; exact hR3) hWs
        obtain ⟨M5, e5, hm5, -⟩ := q5_endsT (n := n) (M := M4) (s := pS (sw (k / 12) (k % 12)) s) hn (by rw [hm4 1 (by omega), va_up_self]; exact hR3) hWs
        rw [pS_lo (by omega)] at e4 e5
        have hkX : kX s k = 100000 * t_all (pS (sw (k / 12) (k % 12)) s) + t_end (pS (sw (k / 12) (k % 12)) s) (s 3) := by unfold kX kY; rw [pS_lo (by omega)]
        have hl1 := t_all_le _ hWs.2.1.1
        have hl2 := t_end_le hWs (L := s 3) hW.1.2.2.2.2.2.2
        generalize t_all (pS (sw (k / 12) (k % 12)) s) = A at e3 hkX hl1
        generalize t_end (pS (sw (k / 12) (k % 12)) s) (s 3) = E at e4 e5 hkX hl2
        have hcod : cod (16 * (k / 12) + k % 12 + 1) = nI (16 * (k / 12) + k % 12) := by unfold cod; rw [if_neg (by omega)]; rfl
        have k0 : ∀ i, i ≠ 1 → i ≠ 11 → va_up (va_up M3 1 f1) 1 f2 i = M i := fun i i1 i11 => by rw [va_up_ne _ _ i1, va_up_ne _ _ i1]; exact hm i i1 i11
        have k4 : ∀ i, i ≠ 1 → i ≠ 11 → M4 i = M i := fun i i1 i11 => by rw [hm4 i i11]; exact k0 i i1 i11
        have k5 : ∀ i, i ≠ 1 → i ≠ 11 → M5 i = M i := fun i i1 i11 => by rw [hm5 i i11]; exact k4 i i1 i11
        by_cases c3 : A < a
        · rw [if_pos ⟨⟨by omega, hj⟩, by omega⟩] at hst
          obtain ⟨M6, e6, hm6, -⟩ := q5_endsT (n := n) (M := va_up (va_up M3 1 f1) 1 f2) hn (by rw [va_up_self]; exact hR3) hWs
          refine ⟨(nI (16 * (k / 12) + k % 12), nI A, nI E, nI (k + 1), M4), ?_, by rw [hst]; exact hcod.symm, ⟨A, E, rfl, rfl, by omega, by omega, by rw [hst]; exact hkX⟩, rfl, k4⟩
          unfold fX5_bestExchange_b22
          simp (disch := first | omega | assumption) only [kk_nm, Option.bind_some, kl_0, kl_1, kl_2, kl_3, kl_4, kl_5, kl_6, kl_7, kl_8, kl_9, kl_10, kl_12, kl_14, kl_15, kl_16, kl_20, kl_31, kl_33, kl_48, kl_49, kl_50, kl_57, kl_59, kl_60, kl_62, kl_63, kl_98, kl_99, kl_103, kl_104, kl_126, kl_144, kl_310, kl_372, kl_100000, kl_1000000, kl_neg, kl_mm, kl_am, nI_add, kl_mul, kl_sub, kl_le, kl_lt, kl_eq, kl_eM, kl_Me, kl_ltM, kl_leM, kl_ck, kl_cj, kl_cb, kl_bit, nI_clamp, va_up_self, va_up_ne, pk_us, pk_un, if_pos, if_neg, eq_self, and_true, true_and, and_false, false_and, if_true, if_false, Bool.false_eq_true, r0, d1, d2, e1', e2, e3, e4]
        · by_cases c4 : A = a
          · by_cases c5 : E < b
            · rw [if_pos ⟨⟨by omega, hj⟩, by omega⟩] at hst
              refine ⟨(nI (16 * (k / 12) + k % 12), nI A, nI E, nI (k + 1), M5), ?_, by rw [hst]; exact hcod.symm, ⟨A, E, rfl, rfl, by omega, by omega, by rw [hst]; exact hkX⟩, rfl, k5⟩
              unfold fX5_bestExchange_b22
              simp (disch := first | omega | assumption) only [kk_nm, Option.bind_some, kl_0, kl_1, kl_2, kl_3, kl_4, kl_5, kl_6, kl_7, kl_8, kl_9, kl_10, kl_12, kl_14, kl_15, kl_16, kl_20, kl_31, kl_33, kl_48, kl_49, kl_50, kl_57, kl_59, kl_60, kl_62, kl_63, kl_98, kl_99, kl_103, kl_104, kl_126, kl_144, kl_310, kl_372, kl_100000, kl_1000000, kl_neg, kl_mm, kl_am, nI_add, kl_mul, kl_sub, kl_le, kl_lt, kl_eq, kl_eM, kl_Me, kl_ltM, kl_leM, kl_ck, kl_cj, kl_cb, kl_bit, nI_clamp, va_up_self, va_up_ne, pk_us, pk_un, if_pos, if_neg, eq_self, and_true, true_and, and_false, false_and, if_true, if_false, Bool.false_eq_true, r0, d1, d2, e1', e2, e3, e4, e5]
            · rw [if_neg (fun h => by have := h.2; omega)] at hst
              refine ⟨(cod (xs s k).1, nI a, nI b, nI (k + 1), M4), ?_, by rw [hst], ⟨a, b, rfl, rfl, ha', hb', by rw [hst]; exact hab⟩, rfl, k4⟩
              unfold fX5_bestExchange_b22
              simp (disch := first | omega | assumption) only [kk_nm, Option.bind_some, kl_0, kl_1, kl_2, kl_3, kl_4, kl_5, kl_6, kl_7, kl_8, kl_9, kl_10, kl_12, kl_14, kl_15, kl_16, kl_20, kl_31, kl_33, kl_48, kl_49, kl_50, kl_57, kl_59, kl_60, kl_62, kl_63, kl_98, kl_99, kl_103, kl_104, kl_126, kl_144, kl_310, kl_372, kl_100000, kl_1000000, kl_neg, kl_mm, kl_am, nI_add, kl_mul, kl_sub, kl_le, kl_lt, kl_eq, kl_eM, kl_Me, kl_ltM, kl_leM, kl_ck, kl_cj, kl_cb, kl_bit, nI_clamp, va_up_self, va_up_ne, pk_us, pk_un, if_pos, if_neg, eq_self, and_true, true_and, and_false, false_and, if_true, if_false, Bool.false_eq_true, r0, d1, d2, e1', e2, e3, e4]
          · rw [if_neg (fun h => by have := h.2; omega)] at hst
            refine ⟨(cod (xs s k).1, nI a, nI b, nI (k + 1), va_up (va_up M3 1 f1) 1 f2), ?_, by rw [hst], ⟨a, b, rfl, rfl, ha', hb', by rw [hst]; exact hab⟩, rfl, k0⟩
            unfold fX5_bestExchange_b22
            simp (disch := first | omega | assumption) only [kk_nm, Option.bind_some, kl_0, kl_1, kl_2, kl_3, kl_4, kl_5, kl_6, kl_7, kl_8, kl_9, kl_10, kl_12, kl_14, kl_15, kl_16, kl_20, kl_31, kl_33, kl_48, kl_49, kl_50, kl_57, kl_59, kl_60, kl_62, kl_63, kl_98, kl_99, kl_103, kl_104, kl_126, kl_144, kl_310, kl_372, kl_100000, kl_1000000, kl_neg, kl_mm, kl_am, nI_add, kl_mul, kl_sub, kl_le, kl_lt, kl_eq, kl_eM, kl_Me, kl_ltM, kl_leM, kl_ck, kl_cj, kl_cb, kl_bit, nI_clamp, va_up_self, va_up_ne, pk_us, pk_un, if_pos, if_neg, eq_self, and_true, true_and, and_false, false_and, if_true, if_false, Bool.false_eq_true, r0, d1, d2, e1', e2, e3]) (fun st hI => by
    obtain ⟨x0, x1, x2, x3, M3⟩ := st
    obtain ⟨rfl, -, rfl, hm⟩ := hI
    dsimp only at hm ⊢
    refine ⟨(cod (xs s 144).1, M3), ?_, rfl, hm⟩
    unfold fX5_bestExchange_b22
    simp (disch := first | omega | assumption) only [kk_nm, Option.bind_some, kl_0, kl_1, kl_2, kl_3, kl_4, kl_5, kl_6, kl_7, kl_8, kl_9, kl_10, kl_12, kl_14, kl_15, kl_16, kl_20, kl_31, kl_33, kl_48, kl_49, kl_50, kl_57, kl_59, kl_60, kl_62, kl_63, kl_98, kl_99, kl_103, kl_104, kl_126, kl_144, kl_310, kl_372, kl_100000, kl_1000000, kl_neg, kl_mm, kl_am, nI_add, kl_mul, kl_sub, kl_le, kl_lt, kl_eq, kl_eM, kl_Me, kl_ltM, kl_leM, kl_ck, kl_cj, kl_cb, kl_bit, nI_clamp, va_up_self, va_up_ne, pk_us, pk_un, if_pos, if_neg, eq_self, and_true, true_and, and_false, false_and, if_true, if_false, Bool.false_eq_true]) n 0 (kM, nI (t_all s), nI (t_end s (s 3)), nI 0, M1) (by omega) (by omega) ⟨rfl, ⟨t_all s, t_end s (s 3), rfl, rfl, by omega, by omega, rfl⟩, rfl, fun i i1 i11 => hm1 i i11⟩
  dsimp only at hx hM2
  subst hx
  refine ⟨M2, ?_, hM2⟩
  unfold fX5_bestExchange
  simp (disch := first | omega | assumption) only [kk_nm, Option.bind_some, kl_0, kl_1, kl_2, kl_3, kl_4, kl_5, kl_6, kl_7, kl_8, kl_9, kl_10, kl_12, kl_14, kl_15, kl_16, kl_20, kl_31, kl_33, kl_48, kl_49, kl_50, kl_57, kl_59, kl_60, kl_62, kl_63, kl_98, kl_99, kl_103, kl_104, kl_126, kl_144, kl_310, kl_372, kl_100000, kl_1000000, kl_neg, kl_mm, kl_am, nI_add, kl_mul, kl_sub, kl_le, kl_lt, kl_eq, kl_eM, kl_Me, kl_ltM, kl_leM, kl_ck, kl_cj, kl_cb, kl_bit, nI_clamp, va_up_self, va_up_ne, pk_us, pk_un, if_pos, if_neg, eq_self, and_true, true_and, and_false, false_and, if_true, if_false, Bool.false_eq_true, ha, e1, e2]
end
