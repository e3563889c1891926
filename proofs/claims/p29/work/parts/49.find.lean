/-! looking for the best: the least key wins, the first of them -/
def kY (s : Nat → Nat) : Nat := 100000 * t_all s + t_end s (s 3)
def RB (B : St1) (K : Nat) : Prop := ∃ a b, B 0 0 = nI a ∧ B 1 0 = nI b ∧ a ≤ 1000 ∧ b ≤ 999 ∧ K = 100000 * a + b
theorem kY_le {s : Nat → Nat} (hW : WF s) : kY s ≤ 20400999 := by
  have h1 := t_all_le s hW.2.1.1
  have h2 := t_end_le hW (L := s 3) hW.1.2.2.2.2.2.2
  unfold kY
  omega
theorem mv_up2 {a u : Nat} (h : u < a) (q : Nat) : mv a u (sw u (u + 1) q) = mv a (u + 1) q := by
  unfold sw
  by_cases c1 : q = u
  · rw [if_pos c1]; unfold mv
    rw [if_neg (by omega), if_neg (by omega), if_pos (by omega), if_neg (by omega), if_neg (by omega), if_neg (by omega)]; omega
  · rw [if_neg c1]
    by_cases c2 : q = u + 1
    · rw [if_pos c2]; unfold mv; rw [if_pos rfl, if_pos c2]
    · rw [if_neg c2]; unfold mv
      by_cases c3 : u < q ∧ q ≤ a
      · rw [if_neg c1, if_neg (by omega), if_pos c3, if_neg c2, if_neg (by omega), if_pos (by omega)]
      · rw [if_neg c1, if_neg (by omega), if_neg c3, if_neg c2, if_neg (by omega), if_neg (by omega)]
theorem mv_upA (a u q : Nat) : mv a u (sw u (u + 1) q) = mv a (u + 1) q := by
  by_cases h : u < a
  · exact mv_up2 h q
  · exact mv_up (by omega) q
def t_kv (s : Nat → Nat) (v u : Nat) : Nat := kY (pS (mv v u) s)
def t_bst (s : Nat → Nat) (v : Nat) : Nat → Nat
  | 0 => 0
  | u + 1 => if t_kv s v (u + 1) < t_kv s v (t_bst s v u) then u + 1 else t_bst s v u
theorem t_bst_le (s : Nat → Nat) (v : Nat) : ∀ u, t_bst s v u ≤ u
  | 0 => Nat.le_refl _
  | u + 1 => by
    have := t_bst_le s v u
    have hst : t_bst s v (u + 1) = if t_kv s v (u + 1) < t_kv s v (t_bst s v u) then u + 1 else t_bst s v u := rfl
    rw [hst]
    by_cases c : t_kv s v (u + 1) < t_kv s v (t_bst s v u)
    · rw [if_pos c]; omega
    · rw [if_neg c]; omega
section
variable {n : Nat} {s : Nat → Nat}
theorem q0_startAt {B P : St1} (hn : 1000 ≤ n) (hR : RP P s) (hW : WF s) : ∃ B' P', fX0_startAt n B P = some (B', P') ∧ RP P' s ∧ RB B' (kY s) := by
  have h1 := t_all_le s hW.2.1.1
  have h2 := t_end_le hW (L := s 3) hW.1.2.2.2.2.2.2
  have e1 := q2_allTrouble hn hR hW
  obtain ⟨P', e2, hR'⟩ := q2_end hn hR hW
  refine ⟨va_up (va_up B 0 (fun _ => nI (t_all s))) 1 (fun _ => nI (t_end s (s 3))), P', ?_, hR', t_all s, t_end s (s 3), rfl, rfl, by omega, by omega, rfl⟩
  unfold fX0_startAt
  simp (disch := first | omega | assumption) only [kk_nm, Option.bind_some, kl_0, kl_1, kl_2, kl_3, kl_4, kl_5, kl_6, kl_7, kl_8, kl_9, kl_10, kl_12, kl_14, kl_15, kl_16, kl_20, kl_31, kl_33, kl_48, kl_49, kl_50, kl_57, kl_59, kl_60, kl_62, kl_63, kl_98, kl_99, kl_103, kl_104, kl_126, kl_144, kl_310, kl_372, kl_100000, kl_1000000, kl_neg, kl_mm, kl_am, nI_add, kl_mul, kl_sub, kl_le, kl_lt, kl_eq, kl_eM, kl_Me, kl_ltM, kl_leM, kl_ck, kl_cj, kl_cb, kl_bit, nI_clamp, va_up_self, va_up_ne, pk_us, pk_un, if_pos, if_neg, eq_self, and_true, true_and, and_false, false_and, if_true, if_false, Bool.false_eq_true, e1, e2]
theorem q0_isBeatenBy {B P : St1} {K : Nat} (hn : 1000 ≤ n) (hB : RB B K) (hR : RP P s) (hW : WF s) : ∃ B' P', fX0_isBeatenBy n B P = some (nI (if kY s < K then 1 else 0), B', P') ∧ RP P' s ∧ RB B' (if kY s < K then kY s else K) := by
  have h1 := t_all_le s hW.2.1.1
  have h2 := t_end_le hW (L := s 3) hW.1.2.2.2.2.2.2
  have e1 := q2_allTrouble hn hR hW
  obtain ⟨P', e2, hR'⟩ := q2_end hn hR hW
  obtain ⟨a, b, hb0, hb1, ha, hb, rfl⟩ := hB
  have hk : kY s = 100000 * t_all s + t_end s (s 3) := rfl
  by_cases c1 : t_all s < a
  · have c : kY s < 100000 * a + b := by omega
    rw [if_pos c, if_pos c]
    refine ⟨va_up (va_up B 0 (fun _ => nI (t_all s))) 1 (fun _ => nI (t_end s (s 3))), P', ?_, hR', t_all s, t_end s (s 3), rfl, rfl, by omega, by omega, rfl⟩
    unfold fX0_isBeatenBy
    simp (disch := first | omega | assumption) only [kk_nm, Option.bind_some, kl_0, kl_1, kl_2, kl_3, kl_4, kl_5, kl_6, kl_7, kl_8, kl_9, kl_10, kl_12, kl_14, kl_15, kl_16, kl_20, kl_31, kl_33, kl_48, kl_49, kl_50, kl_57, kl_59, kl_60, kl_62, kl_63, kl_98, kl_99, kl_103, kl_104, kl_126, kl_144, kl_310, kl_372, kl_100000, kl_1000000, kl_neg, kl_mm, kl_am, nI_add, kl_mul, kl_sub, kl_le, kl_lt, kl_eq, kl_eM, kl_Me, kl_ltM, kl_leM, kl_ck, kl_cj, kl_cb, kl_bit, nI_clamp, va_up_self, va_up_ne, pk_us, pk_un, if_pos, if_neg, eq_self, and_true, true_and, and_false, false_and, if_true, if_false, Bool.false_eq_true, e1, e2, hb0, hb1]
  · by_cases c2 : t_all s = a
    · by_cases c3 : t_end s (s 3) < b
      · have c : kY s < 100000 * a + b := by omega
        rw [if_pos c, if_pos c]
        refine ⟨va_up (va_up B 0 (fun _ => nI (t_all s))) 1 (fun _ => nI (t_end s (s 3))), P', ?_, hR', t_all s, t_end s (s 3), rfl, rfl, by omega, by omega, rfl⟩
        unfold fX0_isBeatenBy
        simp (disch := first | omega | assumption) only [kk_nm, Option.bind_some, kl_0, kl_1, kl_2, kl_3, kl_4, kl_5, kl_6, kl_7, kl_8, kl_9, kl_10, kl_12, kl_14, kl_15, kl_16, kl_20, kl_31, kl_33, kl_48, kl_49, kl_50, kl_57, kl_59, kl_60, kl_62, kl_63, kl_98, kl_99, kl_103, kl_104, kl_126, kl_144, kl_310, kl_372, kl_100000, kl_1000000, kl_neg, kl_mm, kl_am, nI_add, kl_mul, kl_sub, kl_le, kl_lt, kl_eq, kl_eM, kl_Me, kl_ltM, kl_leM, kl_ck, kl_cj, kl_cb, kl_bit, nI_clamp, va_up_self, va_up_ne, pk_us, pk_un, if_pos, if_neg, eq_self, and_true, true_and, and_false, false_and, if_true, if_false, Bool.false_eq_true, e1, e2, hb0, hb1]
      · have c : ¬ kY s < 100000 * a + b := by omega
        rw [if_neg c, if_neg c]
        refine ⟨B, P', ?_, hR', a, b, hb0, hb1, ha, hb, rfl⟩
        unfold fX0_isBeatenBy
        simp (disch := first | omega | assumption) only [kk_nm, Option.bind_some, kl_0, kl_1, kl_2, kl_3, kl_4, kl_5, kl_6, kl_7, kl_8, kl_9, kl_10, kl_12, kl_14, kl_15, kl_16, kl_20, kl_31, kl_33, kl_48, kl_49, kl_50, kl_57, kl_59, kl_60, kl_62, kl_63, kl_98, kl_99, kl_103, kl_104, kl_126, kl_144, kl_310, kl_372, kl_100000, kl_1000000, kl_neg, kl_mm, kl_am, nI_add, kl_mul, kl_sub, kl_le, kl_lt, kl_eq, kl_eM, kl_Me, kl_ltM, kl_leM, kl_ck, kl_cj, kl_cb, kl_bit, nI_clamp, va_up_self, va_up_ne, pk_us, pk_un, if_pos, if_neg, eq_self, and_true, true_and, and_false, false_and, if_true, if_false, Bool.false_eq_true, e1, e2, hb0, hb1]
    · have c : ¬ kY s < 100000 * a + b := by omega
      rw [if_neg c, if_neg c]
      refine ⟨B, P, ?_, hR, a, b, hb0, hb1, ha, hb, rfl⟩
      unfold fX0_isBeatenBy
      simp (disch := first | omega | assumption) only [kk_nm, Option.bind_some, kl_0, kl_1, kl_2, kl_3, kl_4, kl_5, kl_6, kl_7, kl_8, kl_9, kl_10, kl_12, kl_14, kl_15, kl_16, kl_20, kl_31, kl_33, kl_48, kl_49, kl_50, kl_57, kl_59, kl_60, kl_62, kl_63, kl_98, kl_99, kl_103, kl_104, kl_126, kl_144, kl_310, kl_372, kl_100000, kl_1000000, kl_neg, kl_mm, kl_am, nI_add, kl_mul, kl_sub, kl_le, kl_lt, kl_eq, kl_eM, kl_Me, kl_ltM, kl_leM, kl_ck, kl_cj, kl_cb, kl_bit, nI_clamp, va_up_self, va_up_ne, pk_us, pk_un, if_pos, if_neg, eq_self, and_true, true_and, and_false, false_and, if_true, if_false, Bool.false_eq_true, e1, hb0]
theorem q4_placeOfLeast {G : St2} {v : Nat} (hn : 1000 ≤ n) (hR : RP (G 1) s) (hW : WF s) (hv : v < s 4) : ∃ G', fX4_placeOfLeast n G (nI v) = some (nI (t_bst s v (s 4 - 1)), G') ∧ ∀ k, k ≠ 2 → k ≠ 3 → G' k = G k := by
  have w1 := hW.2.1
  obtain ⟨P1, e1, hR1⟩ := q2_copyFrom (n := n) (P := G 2) hn hR hW
  obtain ⟨P2, e2, hR2⟩ := q2_shift (b := 0) hn hR1 hW hv (by omega)
  have hWm : ∀ u, u < s 4 → WF (pS (mv v u) s) := fun u hu => WF_pS (fun _ hq => mv_lt hv hu hq) hW
  obtain ⟨B1, P3, e3, hR3, hB1⟩ := q0_startAt (B := G 3) hn hR2 (hWm 0 (by omega))
  obtain ⟨⟨x, G1⟩, e4, hx, hG1⟩ := kl_forI (body := fun (st : Int32 × Int32 × St2) => fX4_placeOfLeast_b35 n st.1 st.2.1 st.2.2) (fun u st => st.1 = nI (t_bst s v u) ∧ st.2.1 = nI (u + 1) ∧ RP (st.2.2 2) (pS (mv v u) s) ∧ RB (st.2.2 3) (t_kv s v (t_bst s v u)) ∧ ∀ k, k ≠ 2 → k ≠ 3 → st.2.2 k = G k) (fun r => r.1 = nI (t_bst s v (s 4 - 1)) ∧ ∀ k, k ≠ 2 → k ≠ 3 → r.2 k = G k) (s 4 - 1) (fun u st hu hI => by
    obtain ⟨x1, x2, G1⟩ := st
    obtain ⟨rfl, rfl, hR4, hB4, hk⟩ := hI
    dsimp only at hR4 hB4 hk ⊢
    have h20 := hR4.1
    rw [pS_lo (by omega)] at h20
    have hbl := t_bst_le s v u
    have hst : t_bst s v (u + 1) = if t_kv s v (u + 1) < t_kv s v (t_bst s v u) then u + 1 else t_bst s v u := rfl
    obtain ⟨P4, e4, hR5⟩ := q2_swapR (n := n) (i := u) (j := u + 1) hR4 (hWm u (by omega)) (by rw [pS_lo (by omega)]; omega) (by rw [pS_lo (by omega)]; omega)
    rw [pS_pS, pS_cg (mv_upA v u)] at hR5
    obtain ⟨B5, P5, e5, hR6, hB6⟩ := q0_isBeatenBy (n := n) hn hB4 hR5 (hWm (u + 1) (by omega))
    refine ⟨(nI (t_bst s v (u + 1)), nI (u + 1 + 1), va_up (va_up (va_up G1 2 P4) 3 B5) 2 P5), ?_, rfl, rfl, by dsimp only; rw [va_up_self]; exact hR6, ?_, fun k k2 k3 => by dsimp only; rw [va_up_ne _ _ k2, va_up_ne _ _ k3, va_up_ne _ _ k2]; exact hk k k2 k3⟩
    · unfold fX4_placeOfLeast_b35
      rw [hst]
      have e5' : fX0_isBeatenBy n (G1 3) P4 = some (nI (if t_kv s v (u + 1) < t_kv s v (t_bst s v u) then 1 else 0), B5, P5) := e5
      by_cases c : t_kv s v (u + 1) < t_kv s v (t_bst s v u)
      · rw [if_pos c] at e5'
        rw [if_pos c]
        simp (disch := first | omega | assumption) only [kk_nm, Option.bind_some, kl_0, kl_1, kl_2, kl_3, kl_4, kl_5, kl_6, kl_7, kl_8, kl_9, kl_10, kl_12, kl_14, kl_15, kl_16, kl_20, kl_31, kl_33, kl_48, kl_49, kl_50, kl_57, kl_59, kl_60, kl_62, kl_63, kl_98, kl_99, kl_103, kl_104, kl_126, kl_144, kl_310, kl_372, kl_100000, kl_1000000, kl_neg, kl_mm, kl_am, nI_add, kl_mul, kl_sub, kl_le, kl_lt, kl_eq, kl_eM, kl_Me, kl_ltM, kl_leM, kl_ck, kl_cj, kl_cb, kl_bit, nI_clamp, va_up_self, va_up_ne, pk_us, pk_un, if_pos, if_neg, eq_self, and_true, true_and, and_false, false_and, if_true, if_false, Bool.false_eq_true, h20, e4, e5', Nat.add_sub_cancel]
      · rw [if_neg c] at e5'
        rw [if_neg c]
        simp (disch := first | omega | assumption) only [kk_nm, Option.bind_some, kl_0, kl_1, kl_2, kl_3, kl_4, kl_5, kl_6, kl_7, kl_8, kl_9, kl_10, kl_12, kl_14, kl_15, kl_16, kl_20, kl_31, kl_33, kl_48, kl_49, kl_50, kl_57, kl_59, kl_60, kl_62, kl_63, kl_98, kl_99, kl_103, kl_104, kl_126, kl_144, kl_310, kl_372, kl_100000, kl_1000000, kl_neg, kl_mm, kl_am, nI_add, kl_mul, kl_sub, kl_le, kl_lt, kl_eq, kl_eM, kl_Me, kl_ltM, kl_leM, kl_ck, kl_cj, kl_cb, kl_bit, nI_clamp, va_up_self, va_up_ne, pk_us, pk_un, if_pos, if_neg, eq_self, and_true, true_and, and_false, false_and, if_true, if_false, Bool.false_eq_true, h20, e4, e5', Nat.add_sub_cancel]
    · dsimp only
      rw [va_up_ne _ _ (by omega), va_up_self]
      rw [hst]
      have hB6' : RB B5 (if t_kv s v (u + 1) < t_kv s v (t_bst s v u) then t_kv s v (u + 1) else t_kv s v (t_bst s v u)) := hB6
      by_cases c : t_kv s v (u + 1) < t_kv s v (t_bst s v u)
      · rw [if_pos c]
        rw [if_pos c] at hB6'
        exact hB6'
      · rw [if_neg c]
        rw [if_neg c] at hB6'
        exact hB6') (fun st hI => by
    obtain ⟨x1, x2, G1⟩ := st
    obtain ⟨rfl, rfl, hR4, hB4, hk⟩ := hI
    dsimp only at hR4 hB4 hk ⊢
    have h20 := hR4.1
    rw [pS_lo (by omega)] at h20
    refine ⟨(nI (t_bst s v (s 4 - 1)), G1), ?_, rfl, hk⟩
    unfold fX4_placeOfLeast_b35
    simp (disch := first | omega | assumption) only [kk_nm, Option.bind_some, kl_0, kl_1, kl_2, kl_3, kl_4, kl_5, kl_6, kl_7, kl_8, kl_9, kl_10, kl_12, kl_14, kl_15, kl_16, kl_20, kl_31, kl_33, kl_48, kl_49, kl_50, kl_57, kl_59, kl_60, kl_62, kl_63, kl_98, kl_99, kl_103, kl_104, kl_126, kl_144, kl_310, kl_372, kl_100000, kl_1000000, kl_neg, kl_mm, kl_am, nI_add, kl_mul, kl_sub, kl_le, kl_lt, kl_eq, kl_eM, kl_Me, kl_ltM, kl_leM, kl_ck, kl_cj, kl_cb, kl_bit, nI_clamp, va_up_self, va_up_ne, pk_us, pk_un, if_pos, if_neg, eq_self, and_true, true_and, and_false, false_and, if_true, if_false, Bool.false_eq_true, h20]) n 0 (nI 0, nI 1, va_up (va_up (va_up (va_up G 2 P1) 2 P2) 3 B1) 2 P3) (by omega) (by omega) ⟨rfl, rfl, by dsimp only; rw [va_up_self]; exact hR3, by dsimp only; rw [va_up_ne _ _ (by omega), va_up_self]; exact hB1, fun k k2 k3 => by dsimp only; rw [va_up_ne _ _ k2, va_up_ne _ _ k3, va_up_ne _ _ k2, va_up_ne _ _ k2]⟩
  dsimp only at hx hG1
  subst hx
  refine ⟨G1, ?_, hG1⟩
  unfold fX4_placeOfLeast
  simp (disch := first | omega | assumption) only [kk_nm, Option.bind_some, kl_0, kl_1, kl_2, kl_3, kl_4, kl_5, kl_6, kl_7, kl_8, kl_9, kl_10, kl_12, kl_14, kl_15, kl_16, kl_20, kl_31, kl_33, kl_48, kl_49, kl_50, kl_57, kl_59, kl_60, kl_62, kl_63, kl_98, kl_99, kl_103, kl_104, kl_126, kl_144, kl_310, kl_372, kl_100000, kl_1000000, kl_neg, kl_mm, kl_am, nI_add, kl_mul, kl_sub, kl_le, kl_lt, kl_eq, kl_eM, kl_Me, kl_ltM, kl_leM, kl_ck, kl_cj, kl_cb, kl_bit, nI_clamp, va_up_self, va_up_ne, pk_us, pk_un, if_pos, if_neg, eq_self, and_true, true_and, and_false, false_and, if_true, if_false, Bool.false_eq_true, e1, e2, e3, e4]
theorem q5_byMoving0 {M : St1} {v u : Nat} (hn : 1000 ≤ n) (hR : RM (M 0) s) (hW : WF s) (hv : v < s 4) (hu : u < s 4) : ∃ M', fX5_byMoving n M (nI v) (nI u) (nI 0) = some (nI (t_all (pS (mv v u) s)), M') ∧ ∀ i, i ≠ 1 → i ≠ 11 → M' i = M i := by
  have w1 := hW.2.1
  obtain ⟨f1, e1, hR1⟩ := q5_copy (n := n) (h := M 1) hn hR
  obtain ⟨f2, e2, hR2⟩ := q5_moves (v := v) (w := u) hn hR1 w1.1 hv hu
  have hWm : WF (pS (mv v u) s) := WF_pS (fun _ hq => mv_lt hv hu hq) hW
  have e3 := q5_allTrouble hn hR2 hWm
  have e1' : fX5_copies n 62 62 (M 0) (M 1) (nI 0) (nI 0) = some f1 := e1
  refine ⟨va_up (va_up M 1 f1) 1 f2, ?_, fun i i1 i11 => by rw [va_up_ne _ _ i1, va_up_ne _ _ i1]⟩
  unfold fX5_byMoving
  simp (disch := first | omega | assumption) only [kk_nm, Option.bind_some, kl_0, kl_1, kl_2, kl_3, kl_4, kl_5, kl_6, kl_7, kl_8, kl_9, kl_10, kl_12, kl_14, kl_15, kl_16, kl_20, kl_31, kl_33, kl_48, kl_49, kl_50, kl_57, kl_59, kl_60, kl_62, kl_63, kl_98, kl_99, kl_103, kl_104, kl_126, kl_144, kl_310, kl_372, kl_100000, kl_1000000, kl_neg, kl_mm, kl_am, nI_add, kl_mul, kl_sub, kl_le, kl_lt, kl_eq, kl_eM, kl_Me, kl_ltM, kl_leM, kl_ck, kl_cj, kl_cb, kl_bit, nI_clamp, va_up_self, va_up_ne, pk_us, pk_un, if_pos, if_neg, eq_self, and_true, true_and, and_false, false_and, if_true, if_false, Bool.false_eq_true, e1', e2, e3]
theorem q5_byMoving1 {M : St1} {v u : Nat} (hn : 1000 ≤ n) (hR : RM (M 0) s) (hW : WF s) (hv : v < s 4) (hu : u < s 4) : ∃ M', fX5_byMoving n M (nI v) (nI u) (nI 1) = some (nI (t_end (pS (mv v u) s) (s 3)), M') ∧ ∀ i, i ≠ 1 → i ≠ 11 → M' i = M i := by
  have w1 := hW.2.1
  obtain ⟨f1, e1, hR1⟩ := q5_copy (n := n) (h := M 1) hn hR
  obtain ⟨f2, e2, hR2⟩ := q5_moves (v := v) (w := u) hn hR1 w1.1 hv hu
  have hWm : WF (pS (mv v u) s) := WF_pS (fun _ hq => mv_lt hv hu hq) hW
  have e1' : fX5_copies n 62 62 (M 0) (M 1) (nI 0) (nI 0) = some f1 := e1
  obtain ⟨M', e3, h3, -⟩ := q5_endsT (M := va_up (va_up M 1 f1) 1 f2) hn (by rw [va_up_self]; exact hR2) hWm
  rw [pS_lo (by omega)] at e3
  refine ⟨M', ?_, fun i i1 i11 => by rw [h3 i i11, va_up_ne _ _ i1, va_up_ne _ _ i1]⟩
  unfold fX5_byMoving
  simp (disch := first | omega | assumption) only [kk_nm, Option.bind_some, kl_0, kl_1, kl_2, kl_3, kl_4, kl_5, kl_6, kl_7, kl_8, kl_9, kl_10, kl_12, kl_14, kl_15, kl_16, kl_20, kl_31, kl_33, kl_48, kl_49, kl_50, kl_57, kl_59, kl_60, kl_62, kl_63, kl_98, kl_99, kl_103, kl_104, kl_126, kl_144, kl_310, kl_372, kl_100000, kl_1000000, kl_neg, kl_mm, kl_am, nI_add, kl_mul, kl_sub, kl_le, kl_lt, kl_eq, kl_eM, kl_Me, kl_ltM, kl_leM, kl_ck, kl_cj, kl_cb, kl_bit, nI_clamp, va_up_self, va_up_ne, pk_us, pk_un, if_pos, if_neg, eq_self, and_true, true_and, and_false, false_and, if_true, if_false, Bool.false_eq_true, e1', e2, e3]
theorem q5_best {M : St1} {v : Nat} (hn : 1000 ≤ n) (hR : RM (M 0) s) (hW : WF s) (hv : v < s 4) : ∃ M', fX5_best n M (nI v) = some (nI (t_bst s v (s 4 - 1)), M') ∧ ∀ i, i ≠ 1 → i ≠ 11 → M' i = M i := by
  have w1 := hW.2.1
  have hWm : ∀ u, u < s 4 → WF (pS (mv v u) s) := fun u hu => WF_pS (fun _ hq => mv_lt hv hu hq) hW
  obtain ⟨⟨x, M1⟩, e4, hx, hM1⟩ := kl_forI (body := fun (st : Int32 × Int32 × Int32 × St1) => fX5_best_b7 n (nI v) st.1 st.2.1 st.2.2.1 st.2.2.2) (fun u st => (u = 0 → st.1 = kM ∧ st.2.1 = nI 0) ∧ (0 < u → st.1 = nI (t_bst s v (u - 1)) ∧ st.2.1 = nI (t_kv s v (t_bst s v (u - 1)))) ∧ st.2.2.1 = nI u ∧ ∀ i, i ≠ 1 → i ≠ 11 → st.2.2.2 i = M i) (fun r => r.1 = nI (t_bst s v (s 4 - 1)) ∧ ∀ k, k ≠ 1 → k ≠ 11 → r.2 k = M k) (s 4) (fun u st hu hI => by
    obtain ⟨x0, x1, x2, M1⟩ := st
    obtain ⟨h0, h1, rfl, hk⟩ := hI
    dsimp only at h0 h1 hk ⊢
    have m0 := hk 0 (by omega) (by omega)
    obtain ⟨M2, e2, hM2⟩ := q5_byMoving0 (M := M1) (n := n) (v := v) (u := u) hn (by rw [m0]; exact hR) hW hv hu
    obtain ⟨M3, e3, hM3⟩ := q5_byMoving1 (M := M2) (n := n) (v := v) (u := u) hn (by rw [hM2 0 (by omega) (by omega), m0]; exact hR) hW hv hu
    have r0 : M1 0 4 = nI (s 4) := by rw [m0]; exact hR 4 (by omega)
    have hkv : 100000 * t_all (pS (mv v u) s) + t_end (pS (mv v u) s) (s 3) = t_kv s v u := by unfold t_kv kY; rw [pS_lo (by omega)]
    have hk1 : t_kv s v u ≤ 20400999 := kY_le (hWm u hu)
    have hkk : ∀ i, i ≠ 1 → i ≠ 11 → M3 i = M i := fun i i1 i11 => by rw [hM3 i i1 i11, hM2 i i1 i11]; exact hk i i1 i11
    by_cases c0 : u = 0
    · subst c0
      obtain ⟨rfl, rfl⟩ := h0 rfl
      refine ⟨(nI 0, nI (t_kv s v 0), nI (0 + 1), M3), ?_, fun h => by omega, fun _ => ⟨rfl, rfl⟩, rfl, hkk⟩
      unfold fX5_best_b7
      simp (disch := first | omega | assumption) only [kk_nm, Option.bind_some, kl_0, kl_1, kl_2, kl_3, kl_4, kl_5, kl_6, kl_7, kl_8, kl_9, kl_10, kl_12, kl_14, kl_15, kl_16, kl_20, kl_31, kl_33, kl_48, kl_49, kl_50, kl_57, kl_59, kl_60, kl_62, kl_63, kl_98, kl_99, kl_103, kl_104, kl_126, kl_144, kl_310, kl_372, kl_100000, kl_1000000, kl_neg, kl_mm, kl_am, nI_add, kl_mul, kl_sub, kl_le, kl_lt, kl_eq, kl_eM, kl_Me, kl_ltM, kl_leM, kl_ck, kl_cj, kl_cb, kl_bit, nI_clamp, va_up_self, va_up_ne, pk_us, pk_un, if_pos, if_neg, eq_self, and_true, true_and, and_false, false_and, if_true, if_false, Bool.false_eq_true, r0, e2, e3, hkv]
    · obtain ⟨rfl, rfl⟩ := h1 (by omega)
      have hbl := t_bst_le s v (u - 1)
      have hk2 : t_kv s v (t_bst s v (u - 1)) ≤ 20400999 := kY_le (hWm _ (by omega))
      have hst : t_bst s v u = if t_kv s v u < t_kv s v (t_bst s v (u - 1)) then u else t_bst s v (u - 1) := by
        obtain ⟨w, rfl⟩ : ∃ w, u = w + 1 := ⟨u - 1, by omega⟩
        rfl
      by_cases c : t_kv s v u < t_kv s v (t_bst s v (u - 1))
      · rw [if_pos c] at hst
        refine ⟨(nI u, nI (t_kv s v u), nI (u + 1), M3), ?_, fun h => by omega, fun _ => ?_, rfl, hkk⟩
        · unfold fX5_best_b7
          simp (disch := first | omega | assumption) only [kk_nm, Option.bind_some, kl_0, kl_1, kl_2, kl_3, kl_4, kl_5, kl_6, kl_7, kl_8, kl_9, kl_10, kl_12, kl_14, kl_15, kl_16, kl_20, kl_31, kl_33, kl_48, kl_49, kl_50, kl_57, kl_59, kl_60, kl_62, kl_63, kl_98, kl_99, kl_103, kl_104, kl_126, kl_144, kl_310, kl_372, kl_100000, kl_1000000, kl_neg, kl_mm, kl_am, nI_add, kl_mul, kl_sub, kl_le, kl_lt, kl_eq, kl_eM, kl_Me, kl_ltM, kl_leM, kl_ck, kl_cj, kl_cb, kl_bit, nI_clamp, va_up_self, va_up_ne, pk_us, pk_un, if_pos, if_neg, eq_self, and_true, true_and, and_false, false_and, if_true, if_false, Bool.false_eq_true, r0, e2, e3, hkv]
        · rw [(by omega : u + 1 - 1 = u), hst]; exact ⟨rfl, rfl⟩
      · rw [if_neg c] at hst
        refine ⟨(nI (t_bst s v (u - 1)), nI (t_kv s v (t_bst s v (u - 1))), nI (u + 1), M3), ?_, fun h => by omega, fun _ => ?_, rfl, hkk⟩
        · unfold fX5_best_b7
          simp (disch := first | omega | assumption) only [kk_nm, Option.bind_some, kl_0, kl_1, kl_2, kl_3, kl_4, kl_5, kl_6, kl_7, kl_8, kl_9, kl_10, kl_12, kl_14, kl_15, kl_16, kl_20, kl_31, kl_33, kl_48, kl_49, kl_50, kl_57, kl_59, kl_60, kl_62, kl_63, kl_98, kl_99, kl_103, kl_104, kl_126, kl_144, kl_310, kl_372, kl_100000, kl_1000000, kl_neg, kl_mm, kl_am, nI_add, kl_mul, kl_sub, kl_le, kl_lt, kl_eq, kl_eM, kl_Me, kl_ltM, kl_leM, kl_ck, kl_cj, kl_cb, kl_bit, nI_clamp, va_up_self, va_up_ne, pk_us, pk_un, if_pos, if_neg, eq_self, and_true, true_and, and_false, false_and, if_true, if_false, Bool.false_eq_true, r0, e2, e3, hkv]
        · rw [(by omega : u + 1 - 1 = u), hst]; exact ⟨rfl, rfl⟩) (fun st hI => by
    obtain ⟨x0, x1, x2, M1⟩ := st
    obtain ⟨h0, h1, rfl, hk⟩ := hI
    dsimp only at h0 h1 hk ⊢
    have m0 := hk 0 (by omega) (by omega)
    have r0 : M1 0 4 = nI (s 4) := by rw [m0]; exact hR 4 (by omega)
    obtain ⟨rfl, rfl⟩ := h1 (by omega)
    refine ⟨(nI (t_bst s v (s 4 - 1)), M1), ?_, rfl, hk⟩
    unfold fX5_best_b7
    simp (disch := first | omega | assumption) only [kk_nm, Option.bind_some, kl_0, kl_1, kl_2, kl_3, kl_4, kl_5, kl_6, kl_7, kl_8, kl_9, kl_10, kl_12, kl_14, kl_15, kl_16, kl_20, kl_31, kl_33, kl_48, kl_49, kl_50, kl_57, kl_59, kl_60, kl_62, kl_63, kl_98, kl_99, kl_103, kl_104, kl_126, kl_144, kl_310, kl_372, kl_100000, kl_1000000, kl_neg, kl_mm, kl_am, nI_add, kl_mul, kl_sub, kl_le, kl_lt, kl_eq, kl_eM, kl_Me, kl_ltM, kl_leM, kl_ck, kl_cj, kl_cb, kl_bit, nI_clamp, va_up_self, va_up_ne, pk_us, pk_un, if_pos, if_neg, eq_self, and_true, true_and, and_false, false_and, if_true, if_false, Bool.false_eq_true, r0]) n 0 (kM, nI 0, nI 0, M) (by omega) (by omega) ⟨fun _ => ⟨rfl, rfl⟩, fun h => by omega, rfl, fun _ _ _ => rfl⟩
  dsimp only at hx hM1
  subst hx
  refine ⟨M1, ?_, hM1⟩
  unfold fX5_best
  simp (disch := first | omega | assumption) only [kk_nm, Option.bind_some, kl_0, kl_1, kl_2, kl_3, kl_4, kl_5, kl_6, kl_7, kl_8, kl_9, kl_10, kl_12, kl_14, kl_15, kl_16, kl_20, kl_31, kl_33, kl_48, kl_49, kl_50, kl_57, kl_59, kl_60, kl_62, kl_63, kl_98, kl_99, kl_103, kl_104, kl_126, kl_144, kl_310, kl_372, kl_100000, kl_1000000, kl_neg, kl_mm, kl_am, nI_add, kl_mul, kl_sub, kl_le, kl_lt, kl_eq, kl_eM, kl_Me, kl_ltM, kl_leM, kl_ck, kl_cj, kl_cb, kl_bit, nI_clamp, va_up_self, va_up_ne, pk_us, pk_un, if_pos, if_neg, eq_self, and_true, true_and, and_false, false_and, if_true, if_false, Bool.false_eq_true, e4]
end
