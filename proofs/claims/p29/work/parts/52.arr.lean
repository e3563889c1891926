/-! arranging: both go the same steps, and each step lessens the measure -/
def mS (s : Nat → Nat) : Nat := 1000 * t_all s + t_end s (s 3)
theorem mS_le {s : Nat → Nat} (hW : WF s) : mS s ≤ 204999 := by
  have h1 := t_all_le s hW.2.1.1
  have h2 := t_end_le hW (L := s 3) hW.1.2.2.2.2.2.2
  unfold mS
  omega
theorem mS_lt {s t : Nat → Nat} (hs : WF s) (ht : WF t) (h : kY s < kY t) : mS s < mS t := by
  have h1 := t_end_le hs (L := s 3) hs.1.2.2.2.2.2.2
  have h2 := t_end_le ht (L := t 3) ht.1.2.2.2.2.2.2
  unfold kY at h
  unfold mS
  omega
theorem q_arr {n : Nat} (hn : 1000 ≤ n) : ∀ (N : Nat) (s : Nat → Nat) (c : Nat) (G : St2) (M : St1) (f : Nat), mS s < N → c + mS s < 1000000 → mS s < f → RP (G 1) s → WF s → RM (M 0) s →
    ∃ r s' G' M', kk_it (fun (st : Int32 × St2) => fX4_arrange_b13 n st.1 st.2) f (nI c, G) = some (nI r, G') ∧ kk_it (fun (st : Int32 × Int32 × St1) => fX5_arrange_b16 n st.1 st.2.1 st.2.2) f (nI c, cod (xs s 144).1, M) = some (nI r, M') ∧ RP (G' 1) s' ∧ WF s' ∧ RM (M' 0) s' ∧ (∀ k, k ≠ 1 → k ≠ 3 → G' k = G k) ∧ ∀ i, i ≠ 0 → i ≠ 1 → i ≠ 11 → M' i = M i := by
  intro N
  induction N with
  | zero => intro s c G M f h; omega
  | succ N ih =>
    intro s c G M f hN hc hf hR hW hM
    obtain ⟨f, rfl⟩ : ∃ g, f = g + 1 := ⟨f - 1, by omega⟩
    obtain ⟨G1, e1, hR1, hk1⟩ := q4_doBestExchange hn hR hW
    rcases xs_ok s 144 (by omega) with ⟨h1, -⟩ | ⟨i, j, hij, hj, hj12, h1, h2, h3⟩
    · rw [if_pos h1] at e1 hR1
      refine ⟨c, s, G1, M, kl_stepR ?_, kl_stepR ?_, hR1, hW, hM, hk1, fun _ _ _ _ => rfl⟩
      · show fX4_arrange_b13 n (nI c) G = _
        unfold fX4_arrange_b13
        simp (disch := first | omega | assumption) only [kk_nm, Option.bind_some, kl_0, kl_1, kl_2, kl_3, kl_4, kl_5, kl_6, kl_7, kl_8, kl_9, kl_10, kl_12, kl_14, kl_15, kl_16, kl_20, kl_31, kl_33, kl_48, kl_49, kl_50, kl_57, kl_59, kl_60, kl_62, kl_63, kl_98, kl_99, kl_103, kl_104, kl_126, kl_144, kl_310, kl_372, kl_100000, kl_1000000, kl_neg, kl_mm, kl_am, nI_add, kl_mul, kl_sub, kl_le, kl_lt, kl_eq, kl_eM, kl_Me, kl_ltM, kl_leM, kl_ck, kl_cj, kl_cb, kl_bit, nI_clamp, va_up_self, va_up_ne, pk_us, pk_un, if_pos, if_neg, eq_self, and_true, true_and, and_false, false_and, if_true, if_false, Bool.false_eq_true, e1]
      · show fX5_arrange_b16 n (nI c) (cod (xs s 144).1) M = _
        have hcd : cod (xs s 144).1 = kM := by unfold cod; rw [if_pos h1]
        rw [hcd]
        unfold fX5_arrange_b16
        simp (disch := first | omega | assumption) only [kk_nm, Option.bind_some, kl_0, kl_1, kl_2, kl_3, kl_4, kl_5, kl_6, kl_7, kl_8, kl_9, kl_10, kl_12, kl_14, kl_15, kl_16, kl_20, kl_31, kl_33, kl_48, kl_49, kl_50, kl_57, kl_59, kl_60, kl_62, kl_63, kl_98, kl_99, kl_103, kl_104, kl_126, kl_144, kl_310, kl_372, kl_100000, kl_1000000, kl_neg, kl_mm, kl_am, nI_add, kl_mul, kl_sub, kl_le, kl_lt, kl_eq, kl_eM, kl_Me, kl_ltM, kl_leM, kl_ck, kl_cj, kl_cb, kl_bit, nI_clamp, va_up_self, va_up_ne, pk_us, pk_un, if_pos, if_neg, eq_self, and_true, true_and, and_false, false_and, if_true, if_false, Bool.false_eq_true]
    · have d1 : ((xs s 144).1 - 1) / 16 = i := by omega
      have d2 : ((xs s 144).1 - 1) % 16 = j := by omega
      rw [if_neg (by omega)] at e1 hR1
      rw [d1, d2] at hR1
      have hWs : WF (pS (sw i j) s) := WF_pS (fun _ hq => sw_lt (by omega) hj hq) hW
      have hlt := mS_lt hWs hW (by omega)
      obtain ⟨f2, e2, hM2⟩ := q5_exchanges (n := n) (i := i) (j := j) hn hM (by omega) hj12
      obtain ⟨M3, e3, hm3⟩ := q5_bestExchange (M := va_up M 0 f2) hn (by rw [va_up_self]; exact hM2) hWs
      obtain ⟨r, s', G', M', e4, e5, hR', hW', hM', hk', hm'⟩ := ih (pS (sw i j) s) (c + 1) G1 M3 f (by omega) (by omega) (by omega) hR1 hWs (by rw [hm3 0 (by omega) (by omega), va_up_self]; exact hM2)
      refine ⟨r, s', G', M', ?_, ?_, hR', hW', hM', fun k k1 k3 => by rw [hk' k k1 k3]; exact hk1 k k1 k3, fun i i0 i1 i11 => by rw [hm' i i0 i1 i11, hm3 i i1 i11, va_up_ne _ _ i0]⟩
      · rw [← e4]
        refine kl_stepL ?_
        show fX4_arrange_b13 n (nI c) G = _
        unfold fX4_arrange_b13
        simp (disch := first | omega | assumption) only [kk_nm, Option.bind_some, kl_0, kl_1, kl_2, kl_3, kl_4, kl_5, kl_6, kl_7, kl_8, kl_9, kl_10, kl_12, kl_14, kl_15, kl_16, kl_20, kl_31, kl_33, kl_48, kl_49, kl_50, kl_57, kl_59, kl_60, kl_62, kl_63, kl_98, kl_99, kl_103, kl_104, kl_126, kl_144, kl_310, kl_372, kl_100000, kl_1000000, kl_neg, kl_mm, kl_am, nI_add, kl_mul, kl_sub, kl_le, kl_lt, kl_eq, kl_eM, kl_Me, kl_ltM, kl_leM, kl_ck, kl_cj, kl_cb, kl_bit, nI_clamp, va_up_self, va_up_ne, pk_us, pk_un, if_pos, if_neg, eq_self, and_true, true_and, and_false, false_and, if_true, if_false, Bool.false_eq_true, e1]
      · rw [← e5]
        refine kl_stepL ?_
        show fX5_arrange_b16 n (nI c) (cod (xs s 144).1) M = _
        have hcd : cod (xs s 144).1 = nI (16 * i + j) := by unfold cod; rw [if_neg (by omega)]; congr 1; omega
        have d3 : nI (16 * i + j) / nI 16 = nI i := by rw [pk_div (by omega) (by omega) (by omega)]; congr 1; omega
        have d4 : 16 * i + j - i * 16 = j := by omega
        rw [hcd]
        unfold fX5_arrange_b16
        simp (disch := first | omega | assumption) only [kk_nm, Option.bind_some, kl_0, kl_1, kl_2, kl_3, kl_4, kl_5, kl_6, kl_7, kl_8, kl_9, kl_10, kl_12, kl_14, kl_15, kl_16, kl_20, kl_31, kl_33, kl_48, kl_49, kl_50, kl_57, kl_59, kl_60, kl_62, kl_63, kl_98, kl_99, kl_103, kl_104, kl_126, kl_144, kl_310, kl_372, kl_100000, kl_1000000, kl_neg, kl_mm, kl_am, nI_add, kl_mul, kl_sub, kl_le, kl_lt, kl_eq, kl_eM, kl_Me, kl_ltM, kl_leM, kl_ck, kl_cj, kl_cb, kl_bit, nI_clamp, va_up_self, va_up_ne, pk_us, pk_un, if_pos, if_neg, eq_self, and_true, true_and, and_false, false_and, if_true, if_false, Bool.false_eq_true, d3, d4, e2, e3]
