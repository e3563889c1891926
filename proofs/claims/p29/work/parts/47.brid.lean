/-! bridges and the history -/
def bix (s : Nat → Nat) (d : Nat) : Nat → Nat
  | 0 => 0
  | u + 1 => if s (6 + 2 * u) ≤ d then u + 1 else bix s d u
def bS (i d c : Nat) (s : Nat → Nat) : Nat → Nat := fun k => if k = 5 then s 5 + 1 else if k = 6 + 2 * i then d else if k = 7 + 2 * i then c else if 8 + 2 * i ≤ k ∧ k < 8 + 2 * s 5 then s (k - 2) else s k
def uS (v : Nat) (s : Nat → Nat) : Nat → Nat := fun k => if k = 5 then s 5 - 1 else if 6 + 2 * v ≤ k ∧ k < 6 + 2 * (s 5 - 1) then s (k + 2) else s k
theorem bix_spec (s : Nat → Nat) (d : Nat) : ∀ u, bix s d u ≤ u ∧ (0 < bix s d u → s (6 + 2 * (bix s d u - 1)) ≤ d) ∧ (bix s d u < u → d < s (6 + 2 * bix s d u))
  | 0 => ⟨Nat.le_refl _, fun h => absurd h (Nat.lt_irrefl 0), fun h => absurd h (Nat.lt_irrefl 0)⟩
  | u + 1 => by
    obtain ⟨h1, h2, h3⟩ := bix_spec s d u
    unfold bix
    by_cases c : s (6 + 2 * u) ≤ d
    · rw [if_pos c]
      exact ⟨Nat.le_refl _, fun _ => c, fun h => absurd h (Nat.lt_irrefl _)⟩
    · rw [if_neg c]
      refine ⟨by omega, h2, fun h => ?_⟩
      by_cases e : bix s d u = u
      · rw [e]; omega
      · exact h3 (by omega)
theorem bS_fl {i d c : Nat} {s : Nat → Nat} {k : Nat} (h5 : s 5 < 4) (hi : i ≤ s 5) (h : 14 ≤ k ∨ k < 5) : bS i d c s k = s k := by
  unfold bS; rw [if_neg (by omega), if_neg (by omega), if_neg (by omega), if_neg (by omega)]
theorem bS_5 {i d c : Nat} {s : Nat → Nat} : bS i d c s 5 = s 5 + 1 := by unfold bS; rw [if_pos rfl]
theorem bS_6 {i d c b : Nat} {s : Nat → Nat} (hb : b ≤ s 5) : bS i d c s (6 + 2 * b) = if b = i then d else s (6 + 2 * (if i < b then b - 1 else b)) := by
  unfold bS
  rw [if_neg (by omega)]
  by_cases e : b = i
  · rw [if_pos e, if_pos (by omega)]
  · rw [if_neg e, if_neg (by omega), if_neg (by omega)]
    by_cases c : i < b
    · rw [if_pos c, if_pos (by omega)]; congr 1; omega
    · rw [if_neg c, if_neg (by omega)]
theorem bS_7 {i d c b : Nat} {s : Nat → Nat} (hb : b ≤ s 5) : bS i d c s (7 + 2 * b) = if b = i then c else s (7 + 2 * (if i < b then b - 1 else b)) := by
  unfold bS
  rw [if_neg (by omega), if_neg (by omega)]
  by_cases e : b = i
  · rw [if_pos e, if_pos (by omega)]
  · rw [if_neg e, if_neg (by omega)]
    by_cases c : i < b
    · rw [if_pos c, if_pos (by omega)]; congr 1; omega
    · rw [if_neg c, if_neg (by omega)]
theorem uS_fl {v : Nat} {s : Nat → Nat} {k : Nat} (h5 : s 5 ≤ 4) (h : 14 ≤ k ∨ k < 5) : uS v s k = s k := by
  unfold uS; rw [if_neg (by omega), if_neg (by omega)]
theorem uS_5 {v : Nat} {s : Nat → Nat} : uS v s 5 = s 5 - 1 := by unfold uS; rw [if_pos rfl]
theorem uS_6 {v b : Nat} {s : Nat → Nat} (hb : b < s 5 - 1) : uS v s (6 + 2 * b) = s (6 + 2 * (if v ≤ b then b + 1 else b)) := by
  unfold uS
  rw [if_neg (by omega)]
  by_cases c : v ≤ b
  · rw [if_pos c, if_pos (by omega)]; congr 1
  · rw [if_neg c, if_neg (by omega)]
theorem uS_7 {v b : Nat} {s : Nat → Nat} (hb : b < s 5 - 1) : uS v s (7 + 2 * b) = s (7 + 2 * (if v ≤ b then b + 1 else b)) := by
  unfold uS
  rw [if_neg (by omega)]
  by_cases c : v ≤ b
  · rw [if_pos c, if_pos (by omega)]; congr 1
  · rw [if_neg c, if_neg (by omega)]
theorem WF_bS {s : Nat → Nat} {d c : Nat} (hW : WF s) (h5 : s 5 < 4) (hd : 1 ≤ d) (hd2 : d ≤ 50) (hc : 10 ≤ c) (hc2 : c ≤ 99) : WF (bS (bix s d (s 5)) d c s) := by
  obtain ⟨b1, b2, b3⟩ := bix_spec s d (s 5)
  generalize bix s d (s 5) = i at b1 b2 b3
  obtain ⟨w0, w1, w2, w3, w4⟩ := hW
  unfold WF
  rw [bS_fl h5 b1 (by omega), bS_fl h5 b1 (by omega), bS_fl h5 b1 (by omega), bS_fl h5 b1 (by omega), bS_fl h5 b1 (by omega), bS_5]
  refine ⟨w0, ⟨w1.1, by omega⟩, fun p hp => ?_, fun b hb => ?_, fun b hb => ?_⟩
  · rw [bS_fl h5 b1 (by omega), bS_fl h5 b1 (by omega), bS_fl h5 b1 (by omega), bS_fl h5 b1 (by omega)]
    exact w2 p hp
  · rw [bS_6 (by omega), bS_7 (by omega)]
    by_cases e : b = i
    · rw [if_pos e, if_pos e]; omega
    · rw [if_neg e, if_neg e]
      by_cases e2 : i < b
      · rw [if_pos e2]; exact w3 (b - 1) (by omega)
      · rw [if_neg e2]; exact w3 b (by omega)
  · rw [bS_6 (by omega), bS_6 (by omega)]
    by_cases e : b = i
    · have := b3 (by omega)
      rw [if_pos e, if_neg (by omega), if_pos (by omega)]
      rw [(by omega : b + 1 - 1 = i)]
      omega
    · rw [if_neg e]
      by_cases e2 : b + 1 = i
      · have := b2 (by omega)
        rw [if_pos e2, if_neg (by omega)]
        rw [(by omega : b = i - 1)]
        exact this
      · rw [if_neg e2]
        by_cases e3 : i < b
        · have := w4 (b - 1) (by omega)
          rw [if_pos e3, if_pos (by omega)]
          rw [(by omega : b + 1 - 1 = b - 1 + 1)]
          exact this
        · rw [if_neg e3, if_neg (by omega)]
          exact w4 b (by omega)
theorem WF_uS {s : Nat → Nat} {v : Nat} (hW : WF s) (hv : v < s 5) : WF (uS v s) := by
  obtain ⟨w0, w1, w2, w3, w4⟩ := hW
  unfold WF
  rw [uS_fl w1.2 (by omega), uS_fl w1.2 (by omega), uS_fl w1.2 (by omega), uS_fl w1.2 (by omega), uS_fl w1.2 (by omega), uS_5]
  refine ⟨w0, ⟨w1.1, by omega⟩, fun p hp => ?_, fun b hb => ?_, fun b hb => ?_⟩
  · rw [uS_fl w1.2 (by omega), uS_fl w1.2 (by omega), uS_fl w1.2 (by omega), uS_fl w1.2 (by omega)]
    exact w2 p hp
  · rw [uS_6 (by omega), uS_7 (by omega)]
    by_cases e : v ≤ b
    · rw [if_pos e]; exact w3 (b + 1) (by omega)
    · rw [if_neg e]; exact w3 b (by omega)
  · rw [uS_6 (by omega), uS_6 (by omega)]
    by_cases e : v ≤ b
    · rw [if_pos e, if_pos (by omega)]; exact w4 (b + 1) (by omega)
    · rw [if_neg e]
      have h1 := w4 b (by omega)
      by_cases e2 : v ≤ b + 1
      · rw [if_pos e2]
        have h2 := w4 (b + 1) (by omega)
        omega
      · rw [if_neg e2]; exact h1
section
variable {n : Nat} {s : Nat → Nat}
theorem q2_build {P : St1} {d c : Nat} (hn : 1000 ≤ n) (hR : RP P s) (hW : WF s) (h5 : s 5 < 4) (hd : d ≤ 50) : ∃ P', fX2_build n P (nI d) (nI c) = some (nI (bix s d (s 5)), P') ∧ RP P' (bS (bix s d (s 5)) d c s) := by
  obtain ⟨b1, -, -⟩ := bix_spec s d (s 5)
  obtain ⟨g0, g5, gf, gb, gs⟩ := hR
  have w3 := hW.2.2.2.1
  obtain ⟨⟨x1, P1⟩, e, hx, hk, h67⟩ := kl_while (body := fun (st : Int32 × St1) => fX2_build_b15 n (nI d) st.1 st.2) (fun st => ∃ u, u ≤ s 5 ∧ st.1 = nI u ∧ bix s d u = bix s d (s 5) ∧ (∀ k, k ≠ 6 → k ≠ 7 → st.2 k = P k) ∧ ∀ b, b ≤ s 5 → b ≠ u → st.2 6 b = P 6 (if u < b then b - 1 else b) ∧ st.2 7 b = P 7 (if u < b then b - 1 else b)) (fun r => r.1 = nI (bix s d (s 5)) ∧ (∀ k, k ≠ 6 → k ≠ 7 → r.2 k = P k) ∧ ∀ b, b ≤ s 5 → b ≠ bix s d (s 5) → r.2 6 b = P 6 (if bix s d (s 5) < b then b - 1 else b) ∧ r.2 7 b = P 7 (if bix s d (s 5) < b then b - 1 else b)) (fun st => st.1.toNatClampNeg) (fun st hI => by
    obtain ⟨x1, P1⟩ := st
    obtain ⟨u, hu, rfl, hb, hk, h67⟩ := hI
    dsimp only at hk h67 ⊢
    by_cases c0 : u = 0
    · right
      subst c0
      refine ⟨(nI 0, P1), ?_, by rw [← hb]; rfl, hk, ?_⟩
      · unfold fX2_build_b15
        simp (disch := first | omega | assumption) only [kk_nm, Option.bind_some, kl_0, kl_1, kl_2, kl_3, kl_4, kl_5, kl_6, kl_7, kl_8, kl_9, kl_10, kl_12, kl_14, kl_15, kl_16, kl_20, kl_31, kl_33, kl_48, kl_49, kl_50, kl_57, kl_59, kl_60, kl_62, kl_63, kl_98, kl_99, kl_103, kl_104, kl_126, kl_144, kl_310, kl_372, kl_100000, kl_1000000, kl_neg, kl_mm, kl_am, nI_add, kl_mul, kl_sub, kl_le, kl_lt, kl_eq, kl_eM, kl_Me, kl_ltM, kl_leM, kl_ck, kl_cj, kl_cb, kl_bit, nI_clamp, va_up_self, va_up_ne, pk_us, pk_un, if_pos, if_neg, eq_self, and_true, true_and, and_false, false_and, if_true, if_false, Bool.false_eq_true]
      · rw [← hb]; exact h67
    · have h6 := (h67 (u - 1) (by omega) (by omega)).1
      rw [if_neg (by omega), (gb (u - 1) (by omega)).1] at h6
      have w6 := w3 (u - 1) (by omega)
      have hbu : bix s d u = if s (6 + 2 * (u - 1)) ≤ d then u else bix s d (u - 1) := by
        obtain ⟨v, rfl⟩ : ∃ v, u = v + 1 := ⟨u - 1, by omega⟩
        rfl
      by_cases c1 : s (6 + 2 * (u - 1)) ≤ d
      · right
        rw [if_pos c1] at hbu
        have hbb : bix s d (s 5) = u := by rw [← hb, hbu]
        refine ⟨(nI u, P1), ?_, by rw [hbb], hk, by rw [hbb]; exact h67⟩
        unfold fX2_build_b15
        simp (disch := first | omega | assumption) only [kk_nm, Option.bind_some, kl_0, kl_1, kl_2, kl_3, kl_4, kl_5, kl_6, kl_7, kl_8, kl_9, kl_10, kl_12, kl_14, kl_15, kl_16, kl_20, kl_31, kl_33, kl_48, kl_49, kl_50, kl_57, kl_59, kl_60, kl_62, kl_63, kl_98, kl_99, kl_103, kl_104, kl_126, kl_144, kl_310, kl_372, kl_100000, kl_1000000, kl_neg, kl_mm, kl_am, nI_add, kl_mul, kl_sub, kl_le, kl_lt, kl_eq, kl_eM, kl_Me, kl_ltM, kl_leM, kl_ck, kl_cj, kl_cb, kl_bit, nI_clamp, va_up_self, va_up_ne, pk_us, pk_un, if_pos, if_neg, eq_self, and_true, true_and, and_false, false_and, if_true, if_false, Bool.false_eq_true, h6]
      · left
        rw [if_neg c1] at hbu
        refine ⟨(nI (u - 1), va_up (va_up P1 6 (upd (P1 6) u (P1 6 (u - 1)))) 7 (upd (P1 7) u (P1 7 (u - 1)))), ?_, ⟨u - 1, by omega, rfl, by rw [← hbu, hb], fun k k6 k7 => by dsimp only; rw [va_up_ne _ _ k7, va_up_ne _ _ k6]; exact hk k k6 k7, fun b hb' hbu' => ?_⟩, ?_⟩
        · unfold fX2_build_b15
          simp (disch := first | omega | assumption) only [kk_nm, Option.bind_some, kl_0, kl_1, kl_2, kl_3, kl_4, kl_5, kl_6, kl_7, kl_8, kl_9, kl_10, kl_12, kl_14, kl_15, kl_16, kl_20, kl_31, kl_33, kl_48, kl_49, kl_50, kl_57, kl_59, kl_60, kl_62, kl_63, kl_98, kl_99, kl_103, kl_104, kl_126, kl_144, kl_310, kl_372, kl_100000, kl_1000000, kl_neg, kl_mm, kl_am, nI_add, kl_mul, kl_sub, kl_le, kl_lt, kl_eq, kl_eM, kl_Me, kl_ltM, kl_leM, kl_ck, kl_cj, kl_cb, kl_bit, nI_clamp, va_up_self, va_up_ne, pk_us, pk_un, if_pos, if_neg, eq_self, and_true, true_and, and_false, false_and, if_true, if_false, Bool.false_eq_true, h6]
        · dsimp only
          rw [va_up_ne _ _ (by omega), va_up_self, va_up_self]
          by_cases c2 : b = u
          · rw [c2, pk_us, pk_us, if_pos (by omega)]
            obtain ⟨y1, y2⟩ := h67 (u - 1) (by omega) (by omega)
            rw [if_neg (by omega)] at y1 y2
            exact ⟨y1, y2⟩
          · rw [pk_un c2, pk_un c2]
            obtain ⟨y1, y2⟩ := h67 b hb' c2
            by_cases c3 : u < b
            · rw [if_pos c3] at y1 y2
              rw [if_pos (by omega)]
              exact ⟨y1, y2⟩
            · rw [if_neg c3] at y1 y2
              rw [if_neg (by omega)]
              exact ⟨y1, y2⟩
        · dsimp only
          rw [nI_clamp (by omega), nI_clamp (by omega)]
          omega) n (nI (s 5), P) ⟨s 5, by omega, rfl, rfl, fun _ _ _ => rfl, fun b hb hne => by dsimp only; rw [if_neg (by omega)]; exact ⟨rfl, rfl⟩⟩ (by dsimp only; rw [nI_clamp (by omega)]; omega)
  dsimp only at hx hk h67
  subst hx
  have hk5 := hk 5 (by omega) (by omega)
  refine ⟨va_up (va_up (va_up P1 6 (upd (P1 6) (bix s d (s 5)) (nI d))) 7 (upd (P1 7) (bix s d (s 5)) (nI c))) 5 (fun _ => nI (s 5 + 1)), ?_, ?_⟩
  · unfold fX2_build
    simp (disch := first | omega | assumption) only [kk_nm, Option.bind_some, kl_0, kl_1, kl_2, kl_3, kl_4, kl_5, kl_6, kl_7, kl_8, kl_9, kl_10, kl_12, kl_14, kl_15, kl_16, kl_20, kl_31, kl_33, kl_48, kl_49, kl_50, kl_57, kl_59, kl_60, kl_62, kl_63, kl_98, kl_99, kl_103, kl_104, kl_126, kl_144, kl_310, kl_372, kl_100000, kl_1000000, kl_neg, kl_mm, kl_am, nI_add, kl_mul, kl_sub, kl_le, kl_lt, kl_eq, kl_eM, kl_Me, kl_ltM, kl_leM, kl_ck, kl_cj, kl_cb, kl_bit, nI_clamp, va_up_self, va_up_ne, pk_us, pk_un, if_pos, if_neg, eq_self, and_true, true_and, and_false, false_and, if_true, if_false, Bool.false_eq_true, g5, e, hk5]
  · unfold RP
    rw [bS_fl h5 b1 (by omega), bS_5]
    simp (disch := omega) only [va_up_ne, va_up_self]
    rw [hk 0 (by omega) (by omega), hk 1 (by omega) (by omega), hk 2 (by omega) (by omega), hk 3 (by omega) (by omega), hk 4 (by omega) (by omega), hk 8 (by omega) (by omega)]
    refine ⟨g0, trivial, fun p hp => ?_, fun b hb => ?_, fun i hi => ?_⟩
    · rw [bS_fl h5 b1 (by omega), bS_fl h5 b1 (by omega), bS_fl h5 b1 (by omega), bS_fl h5 b1 (by omega)]
      exact gf p hp
    · rw [bS_6 (by omega), bS_7 (by omega)]
      by_cases c2 : b = bix s d (s 5)
      · rw [if_pos c2, if_pos c2, c2, pk_us, pk_us]; exact ⟨rfl, rfl⟩
      · rw [if_neg c2, if_neg c2, pk_un c2, pk_un c2]
        obtain ⟨y1, y2⟩ := h67 b (by omega) c2
        rw [y1, y2]
        refine gb _ ?_
        by_cases c3 : bix s d (s 5) < b
        · rw [if_pos c3]; omega
        · rw [if_neg c3]; omega
    · rw [bS_fl h5 b1 (by omega)]
      exact gs i hi
theorem q5_bridgeLoop {M : St1} {d : Nat} (hn : 1000 ≤ n) (hR : RM (M 0) s) (hW : WF s) (h5 : s 5 < 4) (hd : d ≤ 50) : ∃ M', kk_it (fun (st : Int32 × St1) => fX5_bridge_b67 n (nI d) st.1 st.2) n (nI (s 5), M) = some (nI (bix s d (s 5)), M') ∧ (∀ i, i ≠ 0 → M' i = M i) ∧ RM (M' 0) (fun k => if 8 + 2 * bix s d (s 5) ≤ k ∧ k < 8 + 2 * s 5 then s (k - 2) else s k) := by
  have w3 := hW.2.2.2.1
  obtain ⟨⟨x1, M1⟩, e, hx, hk, h67⟩ := kl_while (body := fun (st : Int32 × St1) => fX5_bridge_b67 n (nI d) st.1 st.2) (fun st => ∃ u, u ≤ s 5 ∧ st.1 = nI u ∧ bix s d u = bix s d (s 5) ∧ (∀ k, k ≠ 0 → st.2 k = M k) ∧ RM (st.2 0) (fun k => if 8 + 2 * u ≤ k ∧ k < 8 + 2 * s 5 then s (k - 2) else s k)) (fun r => r.1 = nI (bix s d (s 5)) ∧ (∀ k, k ≠ 0 → r.2 k = M k) ∧ RM (r.2 0) (fun k => if 8 + 2 * bix s d (s 5) ≤ k ∧ k < 8 + 2 * s 5 then s (k - 2) else s k)) (fun st => st.1.toNatClampNeg) (fun st hI => by
    obtain ⟨x1, M1⟩ := st
    obtain ⟨u, hu, rfl, hb, hk, hM⟩ := hI
    dsimp only at hk hM ⊢
    have r0 := hM.r
    by_cases c0 : u = 0
    · right
      subst c0
      refine ⟨(nI 0, M1), ?_, by rw [← hb]; rfl, hk, ?_⟩
      · unfold fX5_bridge_b67
        simp (disch := first | omega | assumption) only [kk_nm, Option.bind_some, kl_0, kl_1, kl_2, kl_3, kl_4, kl_5, kl_6, kl_7, kl_8, kl_9, kl_10, kl_12, kl_14, kl_15, kl_16, kl_20, kl_31, kl_33, kl_48, kl_49, kl_50, kl_57, kl_59, kl_60, kl_62, kl_63, kl_98, kl_99, kl_103, kl_104, kl_126, kl_144, kl_310, kl_372, kl_100000, kl_1000000, kl_neg, kl_mm, kl_am, nI_add, kl_mul, kl_sub, kl_le, kl_lt, kl_eq, kl_eM, kl_Me, kl_ltM, kl_leM, kl_ck, kl_cj, kl_cb, kl_bit, nI_clamp, va_up_self, va_up_ne, pk_us, pk_un, if_pos, if_neg, eq_self, and_true, true_and, and_false, false_and, if_true, if_false, Bool.false_eq_true]
      · rw [← hb]; exact hM
    · have w6 := w3 (u - 1) (by omega)
      have e1 : 6 + 2 * u - 2 = 6 + 2 * (u - 1) := by omega
      have e2 : 6 + 2 * u - 1 = 7 + 2 * (u - 1) := by omega
      have hbu : bix s d u = if s (6 + 2 * (u - 1)) ≤ d then u else bix s d (u - 1) := by
        obtain ⟨v, rfl⟩ : ∃ v, u = v + 1 := ⟨u - 1, by omega⟩
        rfl
      by_cases c1 : s (6 + 2 * (u - 1)) ≤ d
      · right
        rw [if_pos c1] at hbu
        have hbb : bix s d (s 5) = u := by rw [← hb, hbu]
        refine ⟨(nI u, M1), ?_, by rw [hbb], hk, by rw [hbb]; exact hM⟩
        unfold fX5_bridge_b67
        simp (disch := first | omega | assumption) only [kk_nm, Option.bind_some, kl_0, kl_1, kl_2, kl_3, kl_4, kl_5, kl_6, kl_7, kl_8, kl_9, kl_10, kl_12, kl_14, kl_15, kl_16, kl_20, kl_31, kl_33, kl_48, kl_49, kl_50, kl_57, kl_59, kl_60, kl_62, kl_63, kl_98, kl_99, kl_103, kl_104, kl_126, kl_144, kl_310, kl_372, kl_100000, kl_1000000, kl_neg, kl_mm, kl_am, nI_add, kl_mul, kl_sub, kl_le, kl_lt, kl_eq, kl_eM, kl_Me, kl_ltM, kl_leM, kl_ck, kl_cj, kl_cb, kl_bit, nI_clamp, va_up_self, va_up_ne, pk_us, pk_un, if_pos, if_neg, eq_self, and_true, true_and, and_false, false_and, if_true, if_false, Bool.false_eq_true, e1, r0]
      · left
        rw [if_neg c1] at hbu
        refine ⟨(nI (u - 1), va_up M1 0 (upd (upd (M1 0) (6 + 2 * u) (nI (s (6 + 2 * (u - 1))))) (6 + 2 * u + 1) (nI (s (7 + 2 * (u - 1)))))), ?_, ⟨u - 1, by omega, rfl, by rw [← hbu, hb], fun k k0 => by dsimp only; rw [va_up_ne _ _ k0]; exact hk k k0, RM_cg (fun k _ => ?_) (RM_up (RM_up hM))⟩, ?_⟩
        · unfold fX5_bridge_b67
          simp (disch := first | omega | assumption) only [kk_nm, Option.bind_some, kl_0, kl_1, kl_2, kl_3, kl_4, kl_5, kl_6, kl_7, kl_8, kl_9, kl_10, kl_12, kl_14, kl_15, kl_16, kl_20, kl_31, kl_33, kl_48, kl_49, kl_50, kl_57, kl_59, kl_60, kl_62, kl_63, kl_98, kl_99, kl_103, kl_104, kl_126, kl_144, kl_310, kl_372, kl_100000, kl_1000000, kl_neg, kl_mm, kl_am, nI_add, kl_mul, kl_sub, kl_le, kl_lt, kl_eq, kl_eM, kl_Me, kl_ltM, kl_leM, kl_ck, kl_cj, kl_cb, kl_bit, nI_clamp, va_up_self, va_up_ne, pk_us, pk_un, if_pos, if_neg, eq_self, and_true, true_and, and_false, false_and, if_true, if_false, Bool.false_eq_true, e1, e2, r0]
          congr 3
          funext k
          unfold va_up
          by_cases k0 : k = 0
          · rw [if_pos k0, if_pos k0]
          · rw [if_neg k0, if_neg k0, if_neg k0]
        · by_cases c2 : k = 6 + 2 * u + 1
          · rw [if_pos c2, if_pos (by omega)]; congr 1; omega
          · rw [if_neg c2]
            by_cases c3 : k = 6 + 2 * u
            · rw [if_pos c3, if_pos (by omega)]; congr 1; omega
            · rw [if_neg c3]
              by_cases c4 : 8 + 2 * u ≤ k ∧ k < 8 + 2 * s 5
              · rw [if_pos c4, if_pos (by omega)]
              · rw [if_neg c4, if_neg (by omega)]
        · dsimp only
          rw [nI_clamp (by omega), nI_clamp (by omega)]
          omega) n (nI (s 5), M) ⟨s 5, by omega, rfl, rfl, fun _ _ => rfl, RM_cg (fun k _ => by rw [if_neg (by omega)]) hR⟩ (by dsimp only; rw [nI_clamp (by omega)]; omega)
  dsimp only at hx hk h67
  subst hx
  exact ⟨M1, e, hk, h67⟩
theorem q2_pullDown {P : St1} {v : Nat} (hn : 1000 ≤ n) (hR : RP P s) (hW : WF s) (hv : v < s 5) : ∃ P', fX2_pullDown n P (nI v) = some P' ∧ RP P' (uS v s) := by
  have w1 := hW.2.1
  obtain ⟨g0, g5, gf, gb, gs⟩ := hR
  obtain ⟨P1, e, hk, h67⟩ := kl_forI (body := fun (st : Int32 × St1) => fX2_pullDown_b4 n st.1 st.2) (fun u st => v + 1 ≤ u ∧ st.1 = nI u ∧ (∀ k, k ≠ 6 → k ≠ 7 → st.2 k = P k) ∧ ∀ b, st.2 6 b = P 6 (if v ≤ b ∧ b + 1 < u then b + 1 else b) ∧ st.2 7 b = P 7 (if v ≤ b ∧ b + 1 < u then b + 1 else b)) (fun P' => (∀ k, k ≠ 6 → k ≠ 7 → P' k = P k) ∧ ∀ b, P' 6 b = P 6 (if v ≤ b ∧ b + 1 < s 5 then b + 1 else b) ∧ P' 7 b = P 7 (if v ≤ b ∧ b + 1 < s 5 then b + 1 else b)) (s 5) (fun u st hu hI => by
    obtain ⟨x1, P1⟩ := st
    obtain ⟨hv1, rfl, hk, h67⟩ := hI
    dsimp only at hk h67 ⊢
    have h5 : P1 5 0 = nI (s 5) := by rw [hk 5 (by omega) (by omega)]; exact g5
    refine ⟨(nI (u + 1), va_up (va_up P1 6 (upd (P1 6) (u - 1) (P1 6 u))) 7 (upd (P1 7) (u - 1) (P1 7 u))), ?_, by omega, rfl, fun k k6 k7 => by dsimp only; rw [va_up_ne _ _ k7, va_up_ne _ _ k6]; exact hk k k6 k7, fun b => ?_⟩
    · unfold fX2_pullDown_b4
      simp (disch := first | omega | assumption) only [kk_nm, Option.bind_some, kl_0, kl_1, kl_2, kl_3, kl_4, kl_5, kl_6, kl_7, kl_8, kl_9, kl_10, kl_12, kl_14, kl_15, kl_16, kl_20, kl_31, kl_33, kl_48, kl_49, kl_50, kl_57, kl_59, kl_60, kl_62, kl_63, kl_98, kl_99, kl_103, kl_104, kl_126, kl_144, kl_310, kl_372, kl_100000, kl_1000000, kl_neg, kl_mm, kl_am, nI_add, kl_mul, kl_sub, kl_le, kl_lt, kl_eq, kl_eM, kl_Me, kl_ltM, kl_leM, kl_ck, kl_cj, kl_cb, kl_bit, nI_clamp, va_up_self, va_up_ne, pk_us, pk_un, if_pos, if_neg, eq_self, and_true, true_and, and_false, false_and, if_true, if_false, Bool.false_eq_true, h5]
    · dsimp only
      rw [va_up_ne _ _ (by omega), va_up_self, va_up_self]
      by_cases c2 : b = u - 1
      · rw [c2, pk_us, pk_us, if_pos (by omega)]
        obtain ⟨y1, y2⟩ := h67 u
        rw [if_neg (by omega)] at y1 y2
        rw [(by omega : u - 1 + 1 = u)]
        exact ⟨y1, y2⟩
      · rw [pk_un c2, pk_un c2]
        obtain ⟨y1, y2⟩ := h67 b
        rw [y1, y2]
        by_cases c3 : v ≤ b ∧ b + 1 < u
        · rw [if_pos c3, if_pos (by omega)]; exact ⟨rfl, rfl⟩
        · rw [if_neg c3, if_neg (by omega)]; exact ⟨rfl, rfl⟩) (fun st hI => by
    obtain ⟨x1, P1⟩ := st
    obtain ⟨hv1, rfl, hk, h67⟩ := hI
    dsimp only at hk h67 ⊢
    have h5 : P1 5 0 = nI (s 5) := by rw [hk 5 (by omega) (by omega)]; exact g5
    refine ⟨P1, ?_, hk, h67⟩
    unfold fX2_pullDown_b4
    simp (disch := first | omega | assumption) only [kk_nm, Option.bind_some, kl_0, kl_1, kl_2, kl_3, kl_4, kl_5, kl_6, kl_7, kl_8, kl_9, kl_10, kl_12, kl_14, kl_15, kl_16, kl_20, kl_31, kl_33, kl_48, kl_49, kl_50, kl_57, kl_59, kl_60, kl_62, kl_63, kl_98, kl_99, kl_103, kl_104, kl_126, kl_144, kl_310, kl_372, kl_100000, kl_1000000, kl_neg, kl_mm, kl_am, nI_add, kl_mul, kl_sub, kl_le, kl_lt, kl_eq, kl_eM, kl_Me, kl_ltM, kl_leM, kl_ck, kl_cj, kl_cb, kl_bit, nI_clamp, va_up_self, va_up_ne, pk_us, pk_un, if_pos, if_neg, eq_self, and_true, true_and, and_false, false_and, if_true, if_false, Bool.false_eq_true, h5]) n (v + 1) (nI (v + 1), P) (by omega) (by omega) ⟨by omega, rfl, fun _ _ _ => rfl, fun b => by dsimp only; rw [if_neg (by omega)]; exact ⟨rfl, rfl⟩⟩
  have h5 : P1 5 0 = nI (s 5) := by rw [hk 5 (by omega) (by omega)]; exact g5
  refine ⟨va_up P1 5 (fun _ => nI (s 5 - 1)), ?_, ?_⟩
  · unfold fX2_pullDown
    simp (disch := first | omega | assumption) only [kk_nm, Option.bind_some, kl_0, kl_1, kl_2, kl_3, kl_4, kl_5, kl_6, kl_7, kl_8, kl_9, kl_10, kl_12, kl_14, kl_15, kl_16, kl_20, kl_31, kl_33, kl_48, kl_49, kl_50, kl_57, kl_59, kl_60, kl_62, kl_63, kl_98, kl_99, kl_103, kl_104, kl_126, kl_144, kl_310, kl_372, kl_100000, kl_1000000, kl_neg, kl_mm, kl_am, nI_add, kl_mul, kl_sub, kl_le, kl_lt, kl_eq, kl_eM, kl_Me, kl_ltM, kl_leM, kl_ck, kl_cj, kl_cb, kl_bit, nI_clamp, va_up_self, va_up_ne, pk_us, pk_un, if_pos, if_neg, eq_self, and_true, true_and, and_false, false_and, if_true, if_false, Bool.false_eq_true, e, h5]
  · unfold RP
    rw [uS_fl w1.2 (by omega), uS_5]
    simp (disch := omega) only [va_up_ne, va_up_self]
    rw [hk 0 (by omega) (by omega), hk 1 (by omega) (by omega), hk 2 (by omega) (by omega), hk 3 (by omega) (by omega), hk 4 (by omega) (by omega), hk 8 (by omega) (by omega)]
    refine ⟨g0, trivial, fun p hp => ?_, fun b hb => ?_, fun i hi => ?_⟩
    · rw [uS_fl w1.2 (by omega), uS_fl w1.2 (by omega), uS_fl w1.2 (by omega), uS_fl w1.2 (by omega)]
      exact gf p hp
    · rw [uS_6 (by omega), uS_7 (by omega)]
      obtain ⟨y1, y2⟩ := h67 b
      rw [y1, y2]
      by_cases c2 : v ≤ b
      · rw [if_pos c2, if_pos (by omega)]; exact gb (b + 1) (by omega)
      · rw [if_neg c2, if_neg (by omega)]; exact gb b (by omega)
    · rw [uS_fl w1.2 (by omega)]
      exact gs i hi
theorem q5_unbridgeLoop {M : St1} {v : Nat} (hn : 1000 ≤ n) (hR : RM (M 0) (fun k => if k = 5 then s 5 - 1 else s k)) (hW : WF s) (hv : v < s 5) : ∃ M', kk_it (fun (st : Int32 × St1) => fX5_unbridge_b52 n st.1 st.2) n (nI (6 + 2 * v), M) = some M' ∧ (∀ i, i ≠ 0 → M' i = M i) ∧ RM (M' 0) (uS v s) := by
  have w1 := hW.2.1
  refine kl_forI (body := fun (st : Int32 × St1) => fX5_unbridge_b52 n st.1 st.2) (fun u st => 6 + 2 * v ≤ u ∧ st.1 = nI u ∧ (∀ i, i ≠ 0 → st.2 i = M i) ∧ RM (st.2 0) (fun k => if k = 5 then s 5 - 1 else if 6 + 2 * v ≤ k ∧ k < u then s (k + 2) else s k)) _ (6 + 2 * (s 5 - 1)) (fun u st hu hI => ?_) (fun st hI => ?_) n (6 + 2 * v) (nI (6 + 2 * v), M) (by omega) (by omega) ⟨by omega, rfl, fun _ _ => rfl, RM_cg (fun k _ => by
      by_cases c : k = 5
      · rw [if_pos c, if_pos c]
      · rw [if_neg c, if_neg c, if_neg (by omega)]) hR⟩
  · obtain ⟨x1, M1⟩ := st
    obtain ⟨hv1, rfl, hk, hM⟩ := hI
    dsimp only at hk hM ⊢
    have r0 := hM.r
    refine ⟨(nI (u + 1), va_up M1 0 (upd (M1 0) u (nI (s (u + 2))))), ?_, by omega, rfl, fun k k0 => by dsimp only; rw [va_up_ne _ _ k0]; exact hk k k0, RM_cg (fun k _ => ?_) (RM_up hM)⟩
    · unfold fX5_unbridge_b52
      simp (disch := first | omega | assumption) only [kk_nm, Option.bind_some, kl_0, kl_1, kl_2, kl_3, kl_4, kl_5, kl_6, kl_7, kl_8, kl_9, kl_10, kl_12, kl_14, kl_15, kl_16, kl_20, kl_31, kl_33, kl_48, kl_49, kl_50, kl_57, kl_59, kl_60, kl_62, kl_63, kl_98, kl_99, kl_103, kl_104, kl_126, kl_144, kl_310, kl_372, kl_100000, kl_1000000, kl_neg, kl_mm, kl_am, nI_add, kl_mul, kl_sub, kl_le, kl_lt, kl_eq, kl_eM, kl_Me, kl_ltM, kl_leM, kl_ck, kl_cj, kl_cb, kl_bit, nI_clamp, va_up_self, va_up_ne, pk_us, pk_un, if_pos, if_neg, eq_self, and_true, true_and, and_false, false_and, if_true, if_false, Bool.false_eq_true, r0]
    · by_cases c2 : k = u
      · rw [if_pos c2, if_neg (by omega), if_pos (by omega), c2]
      · rw [if_neg c2]
        by_cases c : k = 5
        · rw [if_pos c, if_pos c]
        · rw [if_neg c, if_neg c]
          by_cases c4 : 6 + 2 * v ≤ k ∧ k < u
          · rw [if_pos c4, if_pos (by omega)]
          · rw [if_neg c4, if_neg (by omega)]
  · obtain ⟨x1, M1⟩ := st
    obtain ⟨hv1, rfl, hk, hM⟩ := hI
    dsimp only at hk hM ⊢
    have r0 := hM.r
    refine ⟨M1, ?_, hk, hM⟩
    unfold fX5_unbridge_b52
    simp (disch := first | omega | assumption) only [kk_nm, Option.bind_some, kl_0, kl_1, kl_2, kl_3, kl_4, kl_5, kl_6, kl_7, kl_8, kl_9, kl_10, kl_12, kl_14, kl_15, kl_16, kl_20, kl_31, kl_33, kl_48, kl_49, kl_50, kl_57, kl_59, kl_60, kl_62, kl_63, kl_98, kl_99, kl_103, kl_104, kl_126, kl_144, kl_310, kl_372, kl_100000, kl_1000000, kl_neg, kl_mm, kl_am, nI_add, kl_mul, kl_sub, kl_le, kl_lt, kl_eq, kl_eM, kl_Me, kl_ltM, kl_leM, kl_ck, kl_cj, kl_cb, kl_bit, nI_clamp, va_up_self, va_up_ne, pk_us, pk_un, if_pos, if_neg, eq_self, and_true, true_and, and_false, false_and, if_true, if_false, Bool.false_eq_true, r0]
end
