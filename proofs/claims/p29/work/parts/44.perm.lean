/-! floats in another order -/
def sw (i j q : Nat) : Nat := if q = i then j else if q = j then i else q
def mv (a b q : Nat) : Nat := if q = b then a else if a ≤ q ∧ q < b then q + 1 else if b < q ∧ q ≤ a then q - 1 else q
def pS (π : Nat → Nat) (s : Nat → Nat) : Nat → Nat := fun k => if k < 14 then s k else s (14 + 4 * π ((k - 14) / 4) + (k - 14) % 4)
def pP (π : Nat → Nat) (P : St1) : St1 := fun k => if 1 ≤ k ∧ k ≤ 4 then fun q => P k (π q) else P k
theorem pS_lo {π : Nat → Nat} {s : Nat → Nat} {k : Nat} (h : k < 14) : pS π s k = s k := by unfold pS; rw [if_pos h]
theorem pS_at {π : Nat → Nat} {s : Nat → Nat} {q r : Nat} (h : r < 4) : pS π s (14 + 4 * q + r) = s (14 + 4 * π q + r) := by
  unfold pS
  have e1 : (14 + 4 * q + r - 14) / 4 = q := by omega
  have e2 : (14 + 4 * q + r - 14) % 4 = r := by omega
  rw [if_neg (by omega), e1, e2]
theorem pS_0 {π : Nat → Nat} {s : Nat → Nat} {q : Nat} : pS π s (14 + 4 * q) = s (14 + 4 * π q) := pS_at (r := 0) (by omega)
theorem pS_1 {π : Nat → Nat} {s : Nat → Nat} {q : Nat} : pS π s (15 + 4 * q) = s (15 + 4 * π q) := by
  have h := pS_at (π := π) (s := s) (q := q) (r := 1) (by omega)
  rw [(by omega : 14 + 4 * q + 1 = 15 + 4 * q), (by omega : 14 + 4 * π q + 1 = 15 + 4 * π q)] at h
  exact h
theorem pS_2 {π : Nat → Nat} {s : Nat → Nat} {q : Nat} : pS π s (16 + 4 * q) = s (16 + 4 * π q) := by
  have h := pS_at (π := π) (s := s) (q := q) (r := 2) (by omega)
  rw [(by omega : 14 + 4 * q + 2 = 16 + 4 * q), (by omega : 14 + 4 * π q + 2 = 16 + 4 * π q)] at h
  exact h
theorem pS_3 {π : Nat → Nat} {s : Nat → Nat} {q : Nat} : pS π s (17 + 4 * q) = s (17 + 4 * π q) := by
  have h := pS_at (π := π) (s := s) (q := q) (r := 3) (by omega)
  rw [(by omega : 14 + 4 * q + 3 = 17 + 4 * q), (by omega : 14 + 4 * π q + 3 = 17 + 4 * π q)] at h
  exact h
theorem pS_pS (π ρ : Nat → Nat) (s : Nat → Nat) : pS π (pS ρ s) = pS (fun q => ρ (π q)) s := by
  funext k
  by_cases h : k < 14
  · rw [pS_lo h, pS_lo h, pS_lo h]
  · have e : k = 14 + 4 * ((k - 14) / 4) + (k - 14) % 4 := by omega
    rw [e, pS_at (by omega), pS_at (by omega), pS_at (by omega)]
theorem pS_id {π : Nat → Nat} (h : ∀ q, π q = q) (s : Nat → Nat) : pS π s = s := by
  funext k
  by_cases hk : k < 14
  · rw [pS_lo hk]
  · have e : k = 14 + 4 * ((k - 14) / 4) + (k - 14) % 4 := by omega
    rw [e, pS_at (by omega), h]
theorem pS_cg {π ρ : Nat → Nat} (h : ∀ q, π q = ρ q) (s : Nat → Nat) : pS π s = pS ρ s := by rw [(funext h : π = ρ)]
theorem WF_pS {π : Nat → Nat} {s : Nat → Nat} (h : ∀ q, q < s 4 → π q < s 4) (hW : WF s) : WF (pS π s) := by
  obtain ⟨w0, w1, w2, w3, w4⟩ := hW
  unfold WF
  rw [pS_lo (by omega), pS_lo (by omega), pS_lo (by omega), pS_lo (by omega), pS_lo (by omega), pS_lo (by omega)]
  refine ⟨w0, w1, fun p hp => ?_, fun b hb => ?_, fun b hb => ?_⟩
  · rw [pS_0, pS_1, pS_2, pS_3]
    exact w2 (π p) (h p hp)
  · rw [pS_lo (by omega), pS_lo (by omega)]
    exact w3 b hb
  · rw [pS_lo (by omega), pS_lo (by omega)]
    exact w4 b hb
theorem RP_pP {π : Nat → Nat} {P : St1} {s : Nat → Nat} (h : ∀ q, q < s 4 → π q < s 4) (hW : WF s) (hR : RP P s) : RP (pP π P) (pS π s) := by
  obtain ⟨h0, h5, hf, hb, hs⟩ := hR
  have w1 := hW.2.1
  unfold RP
  rw [pS_lo (by omega), pS_lo (by omega)]
  refine ⟨h0, h5, fun p hp => ?_, fun b hb' => ?_, fun i hi => ?_⟩
  · rw [pS_0, pS_1, pS_2, pS_3]
    exact hf (π p) (h p hp)
  · rw [pS_lo (by omega), pS_lo (by omega)]
    exact hb b hb'
  · rw [pS_lo (by omega)]
    exact hs i hi
theorem sw_lt {i j q m : Nat} (hi : i < m) (hj : j < m) (hq : q < m) : sw i j q < m := by
  unfold sw
  by_cases a : q = i
  · rw [if_pos a]; exact hj
  · by_cases b : q = j
    · rw [if_neg a, if_pos b]; exact hi
    · rw [if_neg a, if_neg b]; exact hq
theorem mv_lt {i j q m : Nat} (hi : i < m) (hj : j < m) (hq : q < m) : mv i j q < m := by
  unfold mv
  by_cases a : q = j
  · rw [if_pos a]; exact hi
  · rw [if_neg a]
    by_cases b : i ≤ q ∧ q < j
    · rw [if_pos b]; omega
    · rw [if_neg b]
      by_cases c : j < q ∧ q ≤ i
      · rw [if_pos c]; omega
      · rw [if_neg c]; exact hq
theorem sw_sw (i j q : Nat) : sw i j (sw i j q) = q := by
  unfold sw
  by_cases a : q = i
  · by_cases b : j = i
    · rw [if_pos a, if_pos b]; omega
    · rw [if_pos a, if_neg b, if_pos rfl]; omega
  · by_cases b : q = j
    · rw [if_neg a, if_pos b, if_pos rfl]; omega
    · rw [if_neg a, if_neg b, if_neg a, if_neg b]
theorem mv_up {a u : Nat} (h : a ≤ u) (q : Nat) : mv a u (sw u (u + 1) q) = mv a (u + 1) q := by
  unfold sw
  by_cases c1 : q = u
  · rw [if_pos c1]; unfold mv
    by_cases c2 : u = a
    · rw [if_neg (by omega), if_neg (by omega), if_neg (by omega), if_neg (by omega), if_pos (by omega)]; omega
    · rw [if_neg (by omega), if_neg (by omega), if_neg (by omega), if_neg (by omega), if_pos (by omega)]; omega
  · rw [if_neg c1]
    by_cases c2 : q = u + 1
    · rw [if_pos c2]; unfold mv; rw [if_pos rfl, if_pos c2]
    · rw [if_neg c2]; unfold mv
      by_cases c3 : a ≤ q ∧ q < u
      · rw [if_neg c1, if_pos c3, if_neg c2, if_pos (by omega)]
      · rw [if_neg c1, if_neg c3, if_neg c2, if_neg (by omega), if_neg (by omega), if_neg (by omega)]
theorem mv_dn {a u : Nat} (h0 : 0 < u) (h : u ≤ a) (q : Nat) : mv a u (sw u (u - 1) q) = mv a (u - 1) q := by
  unfold sw
  by_cases c1 : q = u
  · rw [if_pos c1]; unfold mv
    rw [if_neg (by omega), if_neg (by omega), if_neg (by omega), if_neg (by omega), if_neg (by omega), if_pos (by omega)]; omega
  · rw [if_neg c1]
    by_cases c2 : q = u - 1
    · rw [if_pos c2]; unfold mv; rw [if_pos rfl, if_pos c2]
    · rw [if_neg c2]; unfold mv
      by_cases c3 : u < q ∧ q ≤ a
      · rw [if_neg c1, if_neg (by omega), if_pos c3, if_neg c2, if_neg (by omega), if_pos (by omega)]
      · rw [if_neg c1, if_neg (by omega), if_neg c3, if_neg c2, if_neg (by omega), if_neg (by omega)]
theorem mv_id (a q : Nat) : mv a a q = q := by
  unfold mv
  by_cases c : q = a
  · rw [if_pos c]; omega
  · rw [if_neg c, if_neg (by omega), if_neg (by omega)]
section
variable {n : Nat} {s : Nat → Nat} {P : St1}
theorem q2_swap {i j : Nat} (hR : RP P s) (hW : WF s) (hi : i < s 4) (hj : j < s 4) : fX2_swap n P (nI i) (nI j) = some (pP (sw i j) P) := by
  have w1 := hW.2.1
  have c1 : ∀ (y : Option St1), kk_cb (P 4 i) y = y := fun y => by rw [(hR.2.2.1 i hi).2.2.2]; exact kl_cb (hW.2.2.1 i hi).2.2.2.2
  have c2 : ∀ (y : Option St1), kk_cb (P 4 j) y = y := fun y => by rw [(hR.2.2.1 j hj).2.2.2]; exact kl_cb (hW.2.2.1 j hj).2.2.2.2
  unfold fX2_swap
  simp (disch := first | omega | assumption) only [kk_nm, Option.bind_some, kl_0, kl_1, kl_2, kl_3, kl_4, kl_5, kl_6, kl_7, kl_8, kl_9, kl_10, kl_12, kl_14, kl_15, kl_16, kl_20, kl_31, kl_33, kl_48, kl_49, kl_50, kl_57, kl_59, kl_60, kl_62, kl_63, kl_98, kl_99, kl_103, kl_104, kl_126, kl_144, kl_310, kl_372, kl_100000, kl_1000000, kl_neg, kl_mm, kl_am, nI_add, kl_mul, kl_sub, kl_le, kl_lt, kl_eq, kl_eM, kl_Me, kl_ltM, kl_leM, kl_ck, kl_cj, kl_cb, kl_bit, nI_clamp, va_up_self, va_up_ne, pk_us, pk_un, if_pos, if_neg, eq_self, and_true, true_and, and_false, false_and, if_true, if_false, Bool.false_eq_true, c1, c2]
  congr 1
  funext k q
  unfold pP sw
  by_cases k1 : k = 1
  · subst k1
    by_cases a : q = i
    · by_cases b : q = j
      · subst a; subst b; simp [va_up, upd]
      · subst a; simp [va_up, upd, b]
    · by_cases b : q = j
      · subst b; simp [va_up, upd, a]
      · simp [va_up, upd, a, b]
  · by_cases k2 : k = 2
    · subst k2
      by_cases a : q = i
      · by_cases b : q = j
        · subst a; subst b; simp [va_up, upd]
        · subst a; simp [va_up, upd, b]
      · by_cases b : q = j
        · subst b; simp [va_up, upd, a]
        · simp [va_up, upd, a, b]
    · by_cases k3 : k = 3
      · subst k3
        by_cases a : q = i
        · by_cases b : q = j
          · subst a; subst b; simp [va_up, upd]
          · subst a; simp [va_up, upd, b]
        · by_cases b : q = j
          · subst b; simp [va_up, upd, a]
          · simp [va_up, upd, a, b]
      · by_cases k4 : k = 4
        · subst k4
          by_cases a : q = i
          · by_cases b : q = j
            · subst a; subst b; simp [va_up, upd]
            · subst a; simp [va_up, upd, b]
          · by_cases b : q = j
            · subst b; simp [va_up, upd, a]
            · simp [va_up, upd, a, b]
        · rw [if_neg (by omega)]
          simp [va_up, k1, k2, k3, k4]
theorem q2_swapR {i j : Nat} (hR : RP P s) (hW : WF s) (hi : i < s 4) (hj : j < s 4) : ∃ P', fX2_swap n P (nI i) (nI j) = some P' ∧ RP P' (pS (sw i j) s) :=
  ⟨_, q2_swap hR hW hi hj, RP_pP (fun _ hq => sw_lt hi hj hq) hW hR⟩
theorem q2_shift {a b : Nat} (hn : 1000 ≤ n) (hR : RP P s) (hW : WF s) (ha : a < s 4) (hb : b < s 4) : ∃ P', fX2_shift n P (nI a) (nI b) = some P' ∧ RP P' (pS (mv a b) s) := by
  have w1 := hW.2.1
  have up : ∃ P', kk_it (fun (st : Int32 × St1) => fX2_shift_b2 n (nI b) st.1 st.2) n (nI a, P) = some P' ∧ RP P' (pS (mv a (max a b)) s) := by
    refine kl_forI (fun u st => st.1 = nI u ∧ a ≤ u ∧ RP st.2 (pS (mv a u) s)) _ (max a b) (fun u st hu hI => ?_) (fun st hI => ?_) n a _ (by omega) (by omega) ⟨rfl, by omega, by rw [pS_id (mv_id a)]; exact hR⟩
    · obtain ⟨x1, P1⟩ := st
      obtain ⟨rfl, hau, hR1⟩ := hI
      dsimp only at hR1
      have h4 : pS (mv a u) s 4 = s 4 := pS_lo (by omega)
      obtain ⟨P2, e2, hR2⟩ := q2_swapR (n := n) (i := u) (j := u + 1) hR1 (WF_pS (fun _ hq => mv_lt ha (by omega) hq) hW) (by omega) (by omega)
      refine ⟨(nI (u + 1), P2), ?_, rfl, by omega, ?_⟩
      · show fX2_shift_b2 n (nI b) (nI u) P1 = _
        unfold fX2_shift_b2
        simp (disch := first | omega | assumption) only [kk_nm, Option.bind_some, kl_0, kl_1, kl_2, kl_3, kl_4, kl_5, kl_6, kl_7, kl_8, kl_9, kl_10, kl_12, kl_14, kl_15, kl_16, kl_20, kl_31, kl_33, kl_48, kl_49, kl_50, kl_57, kl_59, kl_60, kl_62, kl_63, kl_98, kl_99, kl_103, kl_104, kl_126, kl_144, kl_310, kl_372, kl_100000, kl_1000000, kl_neg, kl_mm, kl_am, nI_add, kl_mul, kl_sub, kl_le, kl_lt, kl_eq, kl_eM, kl_Me, kl_ltM, kl_leM, kl_ck, kl_cj, kl_cb, kl_bit, nI_clamp, va_up_self, va_up_ne, pk_us, pk_un, if_pos, if_neg, eq_self, and_true, true_and, and_false, false_and, if_true, if_false, Bool.false_eq_true, e2]
      · rw [pS_pS, pS_cg (mv_up hau)] at hR2
        exact hR2
    · obtain ⟨x1, P1⟩ := st
      obtain ⟨rfl, hau, hR1⟩ := hI
      refine ⟨P1, ?_, hR1⟩
      show fX2_shift_b2 n (nI b) (nI _) P1 = _
      unfold fX2_shift_b2
      simp (disch := first | omega | assumption) only [kk_nm, Option.bind_some, kl_0, kl_1, kl_2, kl_3, kl_4, kl_5, kl_6, kl_7, kl_8, kl_9, kl_10, kl_12, kl_14, kl_15, kl_16, kl_20, kl_31, kl_33, kl_48, kl_49, kl_50, kl_57, kl_59, kl_60, kl_62, kl_63, kl_98, kl_99, kl_103, kl_104, kl_126, kl_144, kl_310, kl_372, kl_100000, kl_1000000, kl_neg, kl_mm, kl_am, nI_add, kl_mul, kl_sub, kl_le, kl_lt, kl_eq, kl_eM, kl_Me, kl_ltM, kl_leM, kl_ck, kl_cj, kl_cb, kl_bit, nI_clamp, va_up_self, va_up_ne, pk_us, pk_un, if_pos, if_neg, eq_self, and_true, true_and, and_false, false_and, if_true, if_false, Bool.false_eq_true]
  obtain ⟨P1, e1, hR1⟩ := up
  by_cases c : a ≤ b
  · refine ⟨P1, ?_, ?_⟩
    · have e2 : kk_it (fun (st : Int32 × St1) => fX2_shift_b23 n (nI b) st.1 st.2) n (nI a, P1) = some P1 := by
        have : n = (n - 1) + 1 := by omega
        rw [this]
        refine kl_stepR ?_
        show fX2_shift_b23 _ (nI b) (nI a) P1 = _
        unfold fX2_shift_b23
        simp (disch := first | omega | assumption) only [kk_nm, Option.bind_some, kl_0, kl_1, kl_2, kl_3, kl_4, kl_5, kl_6, kl_7, kl_8, kl_9, kl_10, kl_12, kl_14, kl_15, kl_16, kl_20, kl_31, kl_33, kl_48, kl_49, kl_50, kl_57, kl_59, kl_60, kl_62, kl_63, kl_98, kl_99, kl_103, kl_104, kl_126, kl_144, kl_310, kl_372, kl_100000, kl_1000000, kl_neg, kl_mm, kl_am, nI_add, kl_mul, kl_sub, kl_le, kl_lt, kl_eq, kl_eM, kl_Me, kl_ltM, kl_leM, kl_ck, kl_cj, kl_cb, kl_bit, nI_clamp, va_up_self, va_up_ne, pk_us, pk_un, if_pos, if_neg, eq_self, and_true, true_and, and_false, false_and, if_true, if_false, Bool.false_eq_true]
      unfold fX2_shift
      simp (disch := first | omega | assumption) only [kk_nm, Option.bind_some, kl_0, kl_1, kl_2, kl_3, kl_4, kl_5, kl_6, kl_7, kl_8, kl_9, kl_10, kl_12, kl_14, kl_15, kl_16, kl_20, kl_31, kl_33, kl_48, kl_49, kl_50, kl_57, kl_59, kl_60, kl_62, kl_63, kl_98, kl_99, kl_103, kl_104, kl_126, kl_144, kl_310, kl_372, kl_100000, kl_1000000, kl_neg, kl_mm, kl_am, nI_add, kl_mul, kl_sub, kl_le, kl_lt, kl_eq, kl_eM, kl_Me, kl_ltM, kl_leM, kl_ck, kl_cj, kl_cb, kl_bit, nI_clamp, va_up_self, va_up_ne, pk_us, pk_un, if_pos, if_neg, eq_self, and_true, true_and, and_false, false_and, if_true, if_false, Bool.false_eq_true, e1, e2]
    · rw [Nat.max_eq_right c] at hR1
      exact hR1
  · rw [Nat.max_eq_left (by omega), pS_id (mv_id a)] at hR1
    obtain ⟨P3, e3, hR3⟩ := kl_while (body := fun (st : Int32 × St1) => fX2_shift_b23 n (nI b) st.1 st.2) (fun st => ∃ u, st.1 = nI u ∧ b ≤ u ∧ u ≤ a ∧ RP st.2 (pS (mv a u) s)) (fun P' => RP P' (pS (mv a b) s)) (fun st => st.1.toNatClampNeg) (fun st hI => by
      obtain ⟨x1, P2⟩ := st
      obtain ⟨u, rfl, hbu, hua, hR2⟩ := hI
      dsimp only at hR2 ⊢
      by_cases c2 : u = b
      · right
        subst c2
        refine ⟨P2, ?_, hR2⟩
        unfold fX2_shift_b23
        simp (disch := first | omega | assumption) only [kk_nm, Option.bind_some, kl_0, kl_1, kl_2, kl_3, kl_4, kl_5, kl_6, kl_7, kl_8, kl_9, kl_10, kl_12, kl_14, kl_15, kl_16, kl_20, kl_31, kl_33, kl_48, kl_49, kl_50, kl_57, kl_59, kl_60, kl_62, kl_63, kl_98, kl_99, kl_103, kl_104, kl_126, kl_144, kl_310, kl_372, kl_100000, kl_1000000, kl_neg, kl_mm, kl_am, nI_add, kl_mul, kl_sub, kl_le, kl_lt, kl_eq, kl_eM, kl_Me, kl_ltM, kl_leM, kl_ck, kl_cj, kl_cb, kl_bit, nI_clamp, va_up_self, va_up_ne, pk_us, pk_un, if_pos, if_neg, eq_self, and_true, true_and, and_false, false_and, if_true, if_false, Bool.false_eq_true]
      · left
        have h4 : pS (mv a u) s 4 = s 4 := pS_lo (by omega)
        obtain ⟨P4, e4, hR4⟩ := q2_swapR (n := n) (i := u) (j := u - 1) hR2 (WF_pS (fun _ hq => mv_lt ha (by omega) hq) hW) (by omega) (by omega)
        refine ⟨(nI (u - 1), P4), ?_, ⟨u - 1, rfl, by omega, by omega, ?_⟩, ?_⟩
        · unfold fX2_shift_b23
          simp (disch := first | omega | assumption) only [kk_nm, Option.bind_some, kl_0, kl_1, kl_2, kl_3, kl_4, kl_5, kl_6, kl_7, kl_8, kl_9, kl_10, kl_12, kl_14, kl_15, kl_16, kl_20, kl_31, kl_33, kl_48, kl_49, kl_50, kl_57, kl_59, kl_60, kl_62, kl_63, kl_98, kl_99, kl_103, kl_104, kl_126, kl_144, kl_310, kl_372, kl_100000, kl_1000000, kl_neg, kl_mm, kl_am, nI_add, kl_mul, kl_sub, kl_le, kl_lt, kl_eq, kl_eM, kl_Me, kl_ltM, kl_leM, kl_ck, kl_cj, kl_cb, kl_bit, nI_clamp, va_up_self, va_up_ne, pk_us, pk_un, if_pos, if_neg, eq_self, and_true, true_and, and_false, false_and, if_true, if_false, Bool.false_eq_true, e4]
        · rw [pS_pS, pS_cg (mv_dn (by omega) hua)] at hR4
          exact hR4
        · dsimp only
          rw [nI_clamp (by omega), nI_clamp (by omega)]
          omega) n (nI a, P1) ⟨a, rfl, by omega, by omega, by rw [pS_id (mv_id a)]; exact hR1⟩ (by dsimp only; rw [nI_clamp (by omega)]; omega)
    refine ⟨P3, ?_, hR3⟩
    unfold fX2_shift
    simp (disch := first | omega | assumption) only [kk_nm, Option.bind_some, kl_0, kl_1, kl_2, kl_3, kl_4, kl_5, kl_6, kl_7, kl_8, kl_9, kl_10, kl_12, kl_14, kl_15, kl_16, kl_20, kl_31, kl_33, kl_48, kl_49, kl_50, kl_57, kl_59, kl_60, kl_62, kl_63, kl_98, kl_99, kl_103, kl_104, kl_126, kl_144, kl_310, kl_372, kl_100000, kl_1000000, kl_neg, kl_mm, kl_am, nI_add, kl_mul, kl_sub, kl_le, kl_lt, kl_eq, kl_eM, kl_Me, kl_ltM, kl_leM, kl_ck, kl_cj, kl_cb, kl_bit, nI_clamp, va_up_self, va_up_ne, pk_us, pk_un, if_pos, if_neg, eq_self, and_true, true_and, and_false, false_and, if_true, if_false, Bool.false_eq_true, e1, e3]
end
