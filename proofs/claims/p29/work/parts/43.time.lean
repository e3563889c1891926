/-! the minutes -/
def t_u (s : Nat → Nat) (L p : Nat) : Nat → Nat
  | 0 => p * s 1
  | b + 1 => t_cm s L p b + t_lo s L p b
def t_dv (s : Nat → Nat) : Nat → Nat
  | 0 => 0
  | b + 1 => t_dst s b
def t_ah (s : Nat → Nat) (L : Nat) : Nat → Nat → Nat
  | 0, _ => 0
  | p + 1, b => t_cm s L p b + t_lo s L p b + s 1
theorem t_cm_eq (s : Nat → Nat) (L p b : Nat) : t_cm s L p b = max (t_u s L p b + (t_dst s b - t_dv s b) * s 2) (t_ah s L p b) := by
  cases p with
  | zero => cases b with
    | zero => rfl
    | succ b => rfl
  | succ p => cases b with
    | zero => rfl
    | succ b => rfl
theorem t_dv_le {s : Nat → Nat} (h : WF s) : ∀ b, t_dv s b ≤ t_dst s b
  | 0 => Nat.zero_le _
  | b + 1 => t_dst_mono h b
/-- nothing waits where nothing is lowered -/
theorem t_cm0 {s : Nat → Nat} (h : WF s) : ∀ p b, t_cm s 0 p b = p * s 1 + t_dst s b * s 2 := by
  have hlo : ∀ p b, t_lo s 0 p b = 0 := fun p b => by have := t_lo_le s 0 p b; omega
  have hrow : ∀ p (ah : Nat → Nat), (∀ b, ah b ≤ p * s 1 + t_dst s b * s 2) → ∀ b, t_row s 0 p ah b = p * s 1 + t_dst s b * s 2 := by
    intro p ah ha b
    induction b with
    | zero =>
      have := ha 0
      show max _ _ = _
      omega
    | succ b ih =>
      have h1 := ha (b + 1)
      have h2 := t_dst_mono h b
      have h3 : (t_dst s (b + 1) - t_dst s b) * s 2 + t_dst s b * s 2 = t_dst s (b + 1) * s 2 := by rw [← Nat.add_mul]; congr 1; omega
      show max (t_row s 0 p ah b + t_lo s 0 p b + _) _ = _
      rw [ih, hlo]
      omega
  intro p
  induction p with
  | zero => exact hrow 0 _ (fun b => Nat.zero_le _)
  | succ p ih =>
    refine hrow (p + 1) _ (fun b => ?_)
    show t_cm s 0 p b + t_lo s 0 p b + s 1 ≤ _
    rw [ih, hlo, Nat.succ_mul]
    omega
theorem RP_cg {P P' : St1} {s : Nat → Nat} (h : ∀ k, k ≤ 8 → P' k = P k) (hR : RP P s) : RP P' s := by
  unfold RP at hR ⊢
  rw [h 0 (by omega), h 1 (by omega), h 2 (by omega), h 3 (by omega), h 4 (by omega), h 5 (by omega), h 6 (by omega), h 7 (by omega), h 8 (by omega)]
  exact hR
section
variable {n : Nat} {s : Nat → Nat}
theorem q2_travel_in {P : St1} {p : Nat} (hn : 1000 ≤ n) (hR : RP P s) (hW : WF s) (hp : p < s 4) (hL : ∀ q, q + 1 = p → ∀ b, b ≤ s 5 → P 10 b = nI (t_cm s (s 3) q b + t_lo s (s 3) q b)) :
    ∃ P', kk_it (fun (st : Int32 × Int32 × Int32 × St1) => fX2_travel_b29 n (nI p) (nI (t_hgt s p)) st.1 st.2.1 st.2.2.1 st.2.2.2) n (nI (p * s 1), nI 0, nI 0, P) = some P' ∧ (RP P' s ∧ ∀ b, b ≤ s 5 → P' 9 b = nI (t_cm s (s 3) p b) ∧ P' 10 b = nI (t_cm s (s 3) p b + t_lo s (s 3) p b)) := by
  have w1 := hW.2.1
  have w0 := hW.1
  refine kl_forI (fun b st => st.1 = nI (t_u s (s 3) p b) ∧ st.2.1 = nI (t_dv s b) ∧ st.2.2.1 = nI b ∧ RP st.2.2.2 s ∧ (∀ q, q + 1 = p → ∀ c, b ≤ c → c ≤ s 5 → st.2.2.2 10 c = nI (t_cm s (s 3) q c + t_lo s (s 3) q c)) ∧ ∀ c, c < b → st.2.2.2 9 c = nI (t_cm s (s 3) p c) ∧ st.2.2.2 10 c = nI (t_cm s (s 3) p c + t_lo s (s 3) p c)) _ (s 5 + 1) (fun b st hb hI => ?_) (fun st hI => ?_) n 0 _ (by omega) (by omega) ⟨rfl, rfl, rfl, hR, fun q e c _ h => hL q e c h, fun c h => by omega⟩
  · obtain ⟨x1, x2, x3, P1⟩ := st
    obtain ⟨rfl, rfl, rfl, hR1, hL1, hD1⟩ := hI
    dsimp only at hR1 hL1 hD1 ⊢
    have e1 := t_cm_eq s (s 3) p b
    have e2 := t_cm_le hW (L := s 3) (p := p) (b := b) (by omega) (by omega) (by omega)
    have e3 := t_dv_le hW b
    have e4 := t_dst_le hW b
    have e5 := t_lo_le s (s 3) p b
    have h5 := hR1.2.1
    have h81 := hR1.2.2.2.2 1 (by omega)
    have h82 := hR1.2.2.2.2 2 (by omega)
    have h83 := hR1.2.2.2.2 3 (by omega)
    have hg := t_hgt_le hW hp
    refine ⟨(nI (t_u s (s 3) p (b + 1)), nI (t_dv s (b + 1)), nI (b + 1), va_up (va_up P1 9 (upd (P1 9) b (nI (t_cm s (s 3) p b)))) 10 (upd (P1 10) b (nI (t_cm s (s 3) p b + t_lo s (s 3) p b)))), ?_, rfl, rfl, rfl, RP_cg (fun k hk => by dsimp only; rw [va_up_ne _ _ (by omega), va_up_ne _ _ (by omega)]) hR1, fun q e c h1 h2 => ?_, fun c h => ?_⟩
    · show fX2_travel_b29 n (nI p) (nI (t_hgt s p)) (nI _) (nI _) (nI b) P1 = some (.inl (nI (t_cm s (s 3) p b + t_lo s (s 3) p b), nI (t_dst s b), nI (b + 1), _))
      have own : (if nI p ≤ 0 then some (nI (t_u s (s 3) p b) + (nI (t_dst s b) - nI (t_dv s b)) * P1 8 (2 : Int32).toNatClampNeg) else kk_ck (nI b) 5 (some (if nI (t_u s (s 3) p b) + (nI (t_dst s b) - nI (t_dv s b)) * P1 8 (2 : Int32).toNatClampNeg < P1 10 (nI b).toNatClampNeg + P1 8 (1 : Int32).toNatClampNeg then P1 10 (nI b).toNatClampNeg + P1 8 (1 : Int32).toNatClampNeg else nI (t_u s (s 3) p b) + (nI (t_dst s b) - nI (t_dv s b)) * P1 8 (2 : Int32).toNatClampNeg))) = some (nI (t_cm s (s 3) p b)) := by
        cases p with
        | zero =>
          have e6 : t_ah s (s 3) 0 b = 0 := rfl
          have e7 : t_u s (s 3) 0 b + (t_dst s b - t_dv s b) * s 2 = t_cm s (s 3) 0 b := by omega
          simp (disch := first | omega | assumption) only [kk_nm, Option.bind_some, kl_0, kl_1, kl_2, kl_3, kl_4, kl_5, kl_6, kl_7, kl_8, kl_9, kl_10, kl_12, kl_14, kl_15, kl_16, kl_20, kl_31, kl_33, kl_48, kl_49, kl_50, kl_57, kl_59, kl_60, kl_62, kl_63, kl_98, kl_99, kl_103, kl_104, kl_126, kl_144, kl_310, kl_372, kl_100000, kl_1000000, kl_neg, kl_mm, kl_am, nI_add, kl_mul, kl_sub, kl_le, kl_lt, kl_eq, kl_eM, kl_Me, kl_ltM, kl_leM, kl_ck, kl_cj, kl_cb, kl_bit, nI_clamp, va_up_self, va_up_ne, pk_us, pk_un, if_pos, if_neg, eq_self, and_true, true_and, and_false, false_and, if_true, if_false, Bool.false_eq_true, h81, h82, e7]
        | succ q =>
          have e6 : t_ah s (s 3) (q + 1) b = t_cm s (s 3) q b + t_lo s (s 3) q b + s 1 := rfl
          have e8 := hL1 q rfl b (by omega) (by omega)
          by_cases c : t_u s (s 3) (q + 1) b + (t_dst s b - t_dv s b) * s 2 < t_cm s (s 3) q b + t_lo s (s 3) q b + s 1
          · have e7 : t_cm s (s 3) q b + t_lo s (s 3) q b + s 1 = t_cm s (s 3) (q + 1) b := by omega
            simp (disch := first | omega | assumption) only [kk_nm, Option.bind_some, kl_0, kl_1, kl_2, kl_3, kl_4, kl_5, kl_6, kl_7, kl_8, kl_9, kl_10, kl_12, kl_14, kl_15, kl_16, kl_20, kl_31, kl_33, kl_48, kl_49, kl_50, kl_57, kl_59, kl_60, kl_62, kl_63, kl_98, kl_99, kl_103, kl_104, kl_126, kl_144, kl_310, kl_372, kl_100000, kl_1000000, kl_neg, kl_mm, kl_am, nI_add, kl_mul, kl_sub, kl_le, kl_lt, kl_eq, kl_eM, kl_Me, kl_ltM, kl_leM, kl_ck, kl_cj, kl_cb, kl_bit, nI_clamp, va_up_self, va_up_ne, pk_us, pk_un, if_pos, if_neg, eq_self, and_true, true_and, and_false, false_and, if_true, if_false, Bool.false_eq_true, h81, h82, e8]
            rw [e7]
          · have e7 : t_u s (s 3) (q + 1) b + (t_dst s b - t_dv s b) * s 2 = t_cm s (s 3) (q + 1) b := by omega
            simp (disch := first | omega | assumption) only [kk_nm, Option.bind_some, kl_0, kl_1, kl_2, kl_3, kl_4, kl_5, kl_6, kl_7, kl_8, kl_9, kl_10, kl_12, kl_14, kl_15, kl_16, kl_20, kl_31, kl_33, kl_48, kl_49, kl_50, kl_57, kl_59, kl_60, kl_62, kl_63, kl_98, kl_99, kl_103, kl_104, kl_126, kl_144, kl_310, kl_372, kl_100000, kl_1000000, kl_neg, kl_mm, kl_am, nI_add, kl_mul, kl_sub, kl_le, kl_lt, kl_eq, kl_eM, kl_Me, kl_ltM, kl_leM, kl_ck, kl_cj, kl_cb, kl_bit, nI_clamp, va_up_self, va_up_ne, pk_us, pk_un, if_pos, if_neg, eq_self, and_true, true_and, and_false, false_and, if_true, if_false, Bool.false_eq_true, h81, h82, e8]
            rw [e7]
      have dst : (if P1 5 0 ≤ nI b then some (60 : Int32) else kk_ck (nI b) 4 (some (P1 6 (nI b).toNatClampNeg))) = some (nI (t_dst s b)) := by
        unfold t_dst
        by_cases c : b < s 5
        · have := (hR1.2.2.2.1 b c).1
          simp (disch := first | omega | assumption) only [kk_nm, Option.bind_some, kl_0, kl_1, kl_2, kl_3, kl_4, kl_5, kl_6, kl_7, kl_8, kl_9, kl_10, kl_12, kl_14, kl_15, kl_16, kl_20, kl_31, kl_33, kl_48, kl_49, kl_50, kl_57, kl_59, kl_60, kl_62, kl_63, kl_98, kl_99, kl_103, kl_104, kl_126, kl_144, kl_310, kl_372, kl_100000, kl_1000000, kl_neg, kl_mm, kl_am, nI_add, kl_mul, kl_sub, kl_le, kl_lt, kl_eq, kl_eM, kl_Me, kl_ltM, kl_leM, kl_ck, kl_cj, kl_cb, kl_bit, nI_clamp, va_up_self, va_up_ne, pk_us, pk_un, if_pos, if_neg, eq_self, and_true, true_and, and_false, false_and, if_true, if_false, Bool.false_eq_true, h5, this]
        · simp (disch := first | omega | assumption) only [kk_nm, Option.bind_some, kl_0, kl_1, kl_2, kl_3, kl_4, kl_5, kl_6, kl_7, kl_8, kl_9, kl_10, kl_12, kl_14, kl_15, kl_16, kl_20, kl_31, kl_33, kl_48, kl_49, kl_50, kl_57, kl_59, kl_60, kl_62, kl_63, kl_98, kl_99, kl_103, kl_104, kl_126, kl_144, kl_310, kl_372, kl_100000, kl_1000000, kl_neg, kl_mm, kl_am, nI_add, kl_mul, kl_sub, kl_le, kl_lt, kl_eq, kl_eM, kl_Me, kl_ltM, kl_leM, kl_ck, kl_cj, kl_cb, kl_bit, nI_clamp, va_up_self, va_up_ne, pk_us, pk_un, if_pos, if_neg, eq_self, and_true, true_and, and_false, false_and, if_true, if_false, Bool.false_eq_true, h5]
      unfold fX2_travel_b29
      rw [dst, h5, if_neg (by rw [kl_lt (by omega) (by omega)]; omega)]
      simp only [Option.bind_some]
      rw [own]
      simp only [Option.bind_some]
      unfold t_lo
      by_cases c : b < s 5
      · have h7 := (hR1.2.2.2.1 b c).2
        have h9 := hW.2.2.2.1 b c
        by_cases c2 : t_hgt s p ≤ s (7 + 2 * b)
        · have c3 : t_low s p b = 0 := by unfold t_low; rw [if_neg (by omega)]
          simp (disch := first | omega | assumption) only [kk_nm, Option.bind_some, kl_0, kl_1, kl_2, kl_3, kl_4, kl_5, kl_6, kl_7, kl_8, kl_9, kl_10, kl_12, kl_14, kl_15, kl_16, kl_20, kl_31, kl_33, kl_48, kl_49, kl_50, kl_57, kl_59, kl_60, kl_62, kl_63, kl_98, kl_99, kl_103, kl_104, kl_126, kl_144, kl_310, kl_372, kl_100000, kl_1000000, kl_neg, kl_mm, kl_am, nI_add, kl_mul, kl_sub, kl_le, kl_lt, kl_eq, kl_eM, kl_Me, kl_ltM, kl_leM, kl_ck, kl_cj, kl_cb, kl_bit, nI_clamp, va_up_self, va_up_ne, pk_us, pk_un, if_pos, if_neg, eq_self, and_true, true_and, and_false, false_and, if_true, if_false, Bool.false_eq_true, h5, h7, h83, c3, Nat.add_zero]
        · have c3 : t_low s p b = 1 := by unfold t_low; rw [if_pos (by omega)]
          simp (disch := first | omega | assumption) only [kk_nm, Option.bind_some, kl_0, kl_1, kl_2, kl_3, kl_4, kl_5, kl_6, kl_7, kl_8, kl_9, kl_10, kl_12, kl_14, kl_15, kl_16, kl_20, kl_31, kl_33, kl_48, kl_49, kl_50, kl_57, kl_59, kl_60, kl_62, kl_63, kl_98, kl_99, kl_103, kl_104, kl_126, kl_144, kl_310, kl_372, kl_100000, kl_1000000, kl_neg, kl_mm, kl_am, nI_add, kl_mul, kl_sub, kl_le, kl_lt, kl_eq, kl_eM, kl_Me, kl_ltM, kl_leM, kl_ck, kl_cj, kl_cb, kl_bit, nI_clamp, va_up_self, va_up_ne, pk_us, pk_un, if_pos, if_neg, eq_self, and_true, true_and, and_false, false_and, if_true, if_false, Bool.false_eq_true, h5, h7, h83, c3, Nat.add_zero]
      · simp (disch := first | omega | assumption) only [kk_nm, Option.bind_some, kl_0, kl_1, kl_2, kl_3, kl_4, kl_5, kl_6, kl_7, kl_8, kl_9, kl_10, kl_12, kl_14, kl_15, kl_16, kl_20, kl_31, kl_33, kl_48, kl_49, kl_50, kl_57, kl_59, kl_60, kl_62, kl_63, kl_98, kl_99, kl_103, kl_104, kl_126, kl_144, kl_310, kl_372, kl_100000, kl_1000000, kl_neg, kl_mm, kl_am, nI_add, kl_mul, kl_sub, kl_le, kl_lt, kl_eq, kl_eM, kl_Me, kl_ltM, kl_leM, kl_ck, kl_cj, kl_cb, kl_bit, nI_clamp, va_up_self, va_up_ne, pk_us, pk_un, if_pos, if_neg, eq_self, and_true, true_and, and_false, false_and, if_true, if_false, Bool.false_eq_true, h5, Nat.add_zero]
    · dsimp only
      rw [va_up_self, pk_un (by omega)]
      exact hL1 q e c (by omega) h2
    · dsimp only
      rw [va_up_self, va_up_ne _ _ (by omega), va_up_self]
      by_cases e : c = b
      · rw [e, pk_us, pk_us]; exact ⟨rfl, rfl⟩
      · rw [pk_un e, pk_un e]; exact hD1 c (by omega)
  · obtain ⟨x1, x2, x3, P1⟩ := st
    obtain ⟨rfl, rfl, rfl, hR1, hL1, hD1⟩ := hI
    dsimp only at hR1 hL1 hD1 ⊢
    refine ⟨P1, ?_, hR1, fun b hb => hD1 b (by omega)⟩
    unfold fX2_travel_b29
    rw [hR1.2.1]
    simp (disch := first | omega | assumption) only [kk_nm, Option.bind_some, kl_0, kl_1, kl_2, kl_3, kl_4, kl_5, kl_6, kl_7, kl_8, kl_9, kl_10, kl_12, kl_14, kl_15, kl_16, kl_20, kl_31, kl_33, kl_48, kl_49, kl_50, kl_57, kl_59, kl_60, kl_62, kl_63, kl_98, kl_99, kl_103, kl_104, kl_126, kl_144, kl_310, kl_372, kl_100000, kl_1000000, kl_neg, kl_mm, kl_am, nI_add, kl_mul, kl_sub, kl_le, kl_lt, kl_eq, kl_eM, kl_Me, kl_ltM, kl_leM, kl_ck, kl_cj, kl_cb, kl_bit, nI_clamp, va_up_self, va_up_ne, pk_us, pk_un, if_pos, if_neg, eq_self, and_true, true_and, and_false, false_and, if_true, if_false, Bool.false_eq_true]
theorem q2_travel {P : St1} {v : Nat} (hn : 1000 ≤ n) (hR : RP P s) (hW : WF s) (hv : v < s 4) : ∃ P', fX2_travel n P (nI v) = some P' ∧ RP P' s ∧ (∀ b, b ≤ s 5 → P' 9 b = nI (t_cm s (s 3) v b)) := by
  have w1 := hW.2.1
  obtain ⟨P', e, hR', hc⟩ := kl_forI (body := fun (st : Int32 × St1) => fX2_travel_b2 n (nI v) st.1 st.2) (fun p st => st.1 = nI p ∧ RP st.2 s ∧ ∀ q, q + 1 = p → ∀ b, b ≤ s 5 → st.2 9 b = nI (t_cm s (s 3) q b) ∧ st.2 10 b = nI (t_cm s (s 3) q b + t_lo s (s 3) q b)) (fun P' => RP P' s ∧ (∀ b, b ≤ s 5 → P' 9 b = nI (t_cm s (s 3) v b))) (v + 1) (fun p st hp hI => by
    obtain ⟨x1, P1⟩ := st
    obtain ⟨rfl, hR1, hL1⟩ := hI
    dsimp only at hR1 hL1 ⊢
    obtain ⟨P2, e2, hR2, h2⟩ := q2_travel_in (p := p) hn hR1 hW (by omega) (fun q e b hb => (hL1 q e b hb).2)
    have h81 := hR1.2.2.2.2 1 (by omega)
    refine ⟨(nI (p + 1), P2), ?_, rfl, hR2, fun q e b hb => ?_⟩
    · unfold fX2_travel_b2
      rw [q2_countedHeight hR1 hW (by omega)]
      simp (disch := first | omega | assumption) only [kk_nm, Option.bind_some, kl_0, kl_1, kl_2, kl_3, kl_4, kl_5, kl_6, kl_7, kl_8, kl_9, kl_10, kl_12, kl_14, kl_15, kl_16, kl_20, kl_31, kl_33, kl_48, kl_49, kl_50, kl_57, kl_59, kl_60, kl_62, kl_63, kl_98, kl_99, kl_103, kl_104, kl_126, kl_144, kl_310, kl_372, kl_100000, kl_1000000, kl_neg, kl_mm, kl_am, nI_add, kl_mul, kl_sub, kl_le, kl_lt, kl_eq, kl_eM, kl_Me, kl_ltM, kl_leM, kl_ck, kl_cj, kl_cb, kl_bit, nI_clamp, va_up_self, va_up_ne, pk_us, pk_un, if_pos, if_neg, eq_self, and_true, true_and, and_false, false_and, if_true, if_false, Bool.false_eq_true, h81, e2]
    · have : q = p := by omega
      subst this
      exact h2 b hb) (fun st hI => by
    obtain ⟨x1, P1⟩ := st
    obtain ⟨rfl, hR1, hL1⟩ := hI
    dsimp only at hR1 hL1 ⊢
    refine ⟨P1, ?_, hR1, fun b hb => (hL1 v rfl b hb).1⟩
    unfold fX2_travel_b2
    simp (disch := first | omega | assumption) only [kk_nm, Option.bind_some, kl_0, kl_1, kl_2, kl_3, kl_4, kl_5, kl_6, kl_7, kl_8, kl_9, kl_10, kl_12, kl_14, kl_15, kl_16, kl_20, kl_31, kl_33, kl_48, kl_49, kl_50, kl_57, kl_59, kl_60, kl_62, kl_63, kl_98, kl_99, kl_103, kl_104, kl_126, kl_144, kl_310, kl_372, kl_100000, kl_1000000, kl_neg, kl_mm, kl_am, nI_add, kl_mul, kl_sub, kl_le, kl_lt, kl_eq, kl_eM, kl_Me, kl_ltM, kl_leM, kl_ck, kl_cj, kl_cb, kl_bit, nI_clamp, va_up_self, va_up_ne, pk_us, pk_un, if_pos, if_neg, eq_self, and_true, true_and, and_false, false_and, if_true, if_false, Bool.false_eq_true]) n 0 (nI 0, P) (by omega) (by omega) ⟨rfl, hR, fun q h => by omega⟩
  refine ⟨P', ?_, hR', hc⟩
  unfold fX2_travel
  simp (disch := first | omega | assumption) only [kk_nm, Option.bind_some, kl_0, kl_1, kl_2, kl_3, kl_4, kl_5, kl_6, kl_7, kl_8, kl_9, kl_10, kl_12, kl_14, kl_15, kl_16, kl_20, kl_31, kl_33, kl_48, kl_49, kl_50, kl_57, kl_59, kl_60, kl_62, kl_63, kl_98, kl_99, kl_103, kl_104, kl_126, kl_144, kl_310, kl_372, kl_100000, kl_1000000, kl_neg, kl_mm, kl_am, nI_add, kl_mul, kl_sub, kl_le, kl_lt, kl_eq, kl_eM, kl_Me, kl_ltM, kl_leM, kl_ck, kl_cj, kl_cb, kl_bit, nI_clamp, va_up_self, va_up_ne, pk_us, pk_un, if_pos, if_neg, eq_self, and_true, true_and, and_false, false_and, if_true, if_false, Bool.false_eq_true, e]
theorem q2_end {P : St1} (hn : 1000 ≤ n) (hR : RP P s) (hW : WF s) : ∃ P', fX2_end n P = some (nI (t_end s (s 3)), P') ∧ RP P' s := by
  have w1 := hW.2.1
  have h0 := hR.1
  unfold fX2_end t_end
  by_cases c : s 4 = 0
  · refine ⟨P, ?_, hR⟩
    simp (disch := first | omega | assumption) only [kk_nm, Option.bind_some, kl_0, kl_1, kl_2, kl_3, kl_4, kl_5, kl_6, kl_7, kl_8, kl_9, kl_10, kl_12, kl_14, kl_15, kl_16, kl_20, kl_31, kl_33, kl_48, kl_49, kl_50, kl_57, kl_59, kl_60, kl_62, kl_63, kl_98, kl_99, kl_103, kl_104, kl_126, kl_144, kl_310, kl_372, kl_100000, kl_1000000, kl_neg, kl_mm, kl_am, nI_add, kl_mul, kl_sub, kl_le, kl_lt, kl_eq, kl_eM, kl_Me, kl_ltM, kl_leM, kl_ck, kl_cj, kl_cb, kl_bit, nI_clamp, va_up_self, va_up_ne, pk_us, pk_un, if_pos, if_neg, eq_self, and_true, true_and, and_false, false_and, if_true, if_false, Bool.false_eq_true, h0]
  · obtain ⟨P', e, hR', h⟩ := q2_travel (v := s 4 - 1) hn hR hW (by omega)
    have h5 := hR'.2.1
    refine ⟨P', ?_, hR'⟩
    simp (disch := first | omega | assumption) only [kk_nm, Option.bind_some, kl_0, kl_1, kl_2, kl_3, kl_4, kl_5, kl_6, kl_7, kl_8, kl_9, kl_10, kl_12, kl_14, kl_15, kl_16, kl_20, kl_31, kl_33, kl_48, kl_49, kl_50, kl_57, kl_59, kl_60, kl_62, kl_63, kl_98, kl_99, kl_103, kl_104, kl_126, kl_144, kl_310, kl_372, kl_100000, kl_1000000, kl_neg, kl_mm, kl_am, nI_add, kl_mul, kl_sub, kl_le, kl_lt, kl_eq, kl_eM, kl_Me, kl_ltM, kl_leM, kl_ck, kl_cj, kl_cb, kl_bit, nI_clamp, va_up_self, va_up_ne, pk_us, pk_un, if_pos, if_neg, eq_self, and_true, true_and, and_false, false_and, if_true, if_false, Bool.false_eq_true, h0, e, h5, h]
theorem kl_ss (a b c : Nat) : nI a - nI b - nI c = nI a - nI (b + c) := by
  rw [← nI_add, Int32.sub_sub]
theorem q2_waiting {P : St1} (hn : 1000 ≤ n) (hR : RP P s) (hW : WF s) : ∃ P', fX2_waiting n P = some (nI (t_end s (s 3)) - nI (t_end s 0), P') ∧ RP P' s := by
  have w1 := hW.2.1
  have h0 := hR.1
  unfold fX2_waiting
  by_cases c : s 4 = 0
  · refine ⟨P, ?_, hR⟩
    have e1 : t_end s (s 3) = 0 := by unfold t_end; rw [if_pos c]
    have e2 : t_end s 0 = 0 := by unfold t_end; rw [if_pos c]
    rw [e1, e2]
    simp (disch := first | omega | assumption) only [kk_nm, Option.bind_some, kl_0, kl_1, kl_2, kl_3, kl_4, kl_5, kl_6, kl_7, kl_8, kl_9, kl_10, kl_12, kl_14, kl_15, kl_16, kl_20, kl_31, kl_33, kl_48, kl_49, kl_50, kl_57, kl_59, kl_60, kl_62, kl_63, kl_98, kl_99, kl_103, kl_104, kl_126, kl_144, kl_310, kl_372, kl_100000, kl_1000000, kl_neg, kl_mm, kl_am, nI_add, kl_mul, kl_sub, kl_le, kl_lt, kl_eq, kl_eM, kl_Me, kl_ltM, kl_leM, kl_ck, kl_cj, kl_cb, kl_bit, nI_clamp, va_up_self, va_up_ne, pk_us, pk_un, if_pos, if_neg, eq_self, and_true, true_and, and_false, false_and, if_true, if_false, Bool.false_eq_true, h0]
  · obtain ⟨P', e, hR'⟩ := q2_end hn hR hW
    have h0' := hR'.1
    have h81 := hR'.2.2.2.2 1 (by omega)
    have h82 := hR'.2.2.2.2 2 (by omega)
    have e2 : t_end s 0 = (s 4 - 1) * s 1 + 60 * s 2 := by
      unfold t_end
      rw [if_neg c, t_cm0 hW]
      unfold t_dst
      rw [if_neg (by omega)]
    refine ⟨P', ?_, hR'⟩
    rw [e2, ← kl_ss]
    simp (disch := omega) only [e, Option.bind_some, kl_1, kl_2, kl_60, h0, h0', h81, h82, nI_clamp, kl_sub, kl_mul, kl_0, kl_lt, if_pos]
theorem q5_goesN {M : St1} {L : Nat} (hn : 1000 ≤ n) (hR : RM (M 0) s) (hW : WF s) (hL : L ≤ 20) : ∃ M', fX5_goesN n M (nI L) = some (nI (t_end s L), M') ∧ (∀ i, i ≠ 11 → M' i = M i) ∧ (∀ p, p < s 4 → ∀ b, b ≤ s 5 → M' 11 (5 * p + b) = nI (t_cm s L p b)) := by
  have w1 := hW.2.1
  have w0 := hW.1
  obtain ⟨M', e, hM', hc⟩ := kl_forI (body := fun (st : Int32 × St1) => fX5_goesN_b7 n M (nI L) st.1 st.2) (fun p st => st.1 = nI p ∧ (∀ i, i ≠ 11 → st.2 i = M i) ∧ ∀ q, q < p → ∀ b, b ≤ s 5 → st.2 11 (5 * q + b) = nI (t_cm s L q b)) (fun M' => (∀ i, i ≠ 11 → M' i = M i) ∧ ∀ p, p < s 4 → ∀ b, b ≤ s 5 → M' 11 (5 * p + b) = nI (t_cm s L p b)) (s 4) (fun p st hp hI => by
    obtain ⟨x1, M1⟩ := st
    obtain ⟨rfl, hM1, hL1⟩ := hI
    dsimp only at hM1 hL1 ⊢
    have m0 := hM1 0 (by omega)
    obtain ⟨M2, e2, hM2, h2⟩ := kl_forI (body := fun (st : Int32 × Int32 × Int32 × St1) => fX5_goesN_b29 n M (nI L) (nI p) st.1 st.2.1 st.2.2.1 st.2.2.2) (fun b st => st.1 = nI (t_u s L p b) ∧ st.2.1 = nI (t_dv s b) ∧ st.2.2.1 = nI b ∧ (∀ i, i ≠ 11 → st.2.2.2 i = M i) ∧ (∀ q, q < p → ∀ c, c ≤ s 5 → st.2.2.2 11 (5 * q + c) = nI (t_cm s L q c)) ∧ ∀ c, c < b → st.2.2.2 11 (5 * p + c) = nI (t_cm s L p c)) (fun M' => (∀ i, i ≠ 11 → M' i = M i) ∧ ∀ q, q < p + 1 → ∀ c, c ≤ s 5 → M' 11 (5 * q + c) = nI (t_cm s L q c)) (s 5 + 1) (fun b st hb hI => by
      obtain ⟨x1, x2, x3, M3⟩ := st
      obtain ⟨rfl, rfl, rfl, hM3, hL3, hD3⟩ := hI
      dsimp only at hM3 hL3 hD3 ⊢
      have m3 := hM3 0 (by omega)
      have e1 := t_cm_eq s L p b
      have e2 := t_cm_le hW (L := L) (p := p) (b := b) (by omega) (by omega) (by omega)
      have e3 := t_dv_le hW b
      have e4 := t_dst_le hW b
      have r0 := hR.r
      refine ⟨(nI (t_u s L p (b + 1)), nI (t_dv s (b + 1)), nI (b + 1), va_up M3 11 (upd (M3 11) (5 * p + b) (nI (t_cm s L p b)))), ?_, rfl, rfl, rfl, fun i hi => by dsimp only; rw [va_up_ne _ _ hi]; exact hM3 i hi, fun q hq c hc => ?_, fun c h => ?_⟩
      · show fX5_goesN_b29 n M (nI L) (nI p) (nI _) (nI _) (nI b) M3 = some (.inl (nI (t_cm s L p b + t_lo s L p b), nI (t_dst s b), nI (b + 1), _))
        have low : ∀ (q : Nat) (M4 : St1), q < s 4 → M4 0 = M 0 → (if M 0 (5 : Int32).toNatClampNeg ≤ nI b then some (0 : Int32) else Option.bind (fX5_isLowered n (M4 0) (nI q) (nI b)) fun (x : Int32) => if x = 0 then some (0 : Int32) else some (nI L)) = some (nI (t_lo s L q b)) := by
          intro q M4 hq e4
          rw [e4]
          unfold t_lo
          by_cases c : b < s 5
          · rw [q5_isLowered hR hW hq c]
            have h1 := t_low_le s q b
            by_cases c2 : t_low s q b = 0
            · simp (disch := first | omega | assumption) only [kk_nm, Option.bind_some, kl_0, kl_1, kl_2, kl_3, kl_4, kl_5, kl_6, kl_7, kl_8, kl_9, kl_10, kl_12, kl_14, kl_15, kl_16, kl_20, kl_31, kl_33, kl_48, kl_49, kl_50, kl_57, kl_59, kl_60, kl_62, kl_63, kl_98, kl_99, kl_103, kl_104, kl_126, kl_144, kl_310, kl_372, kl_100000, kl_1000000, kl_neg, kl_mm, kl_am, nI_add, kl_mul, kl_sub, kl_le, kl_lt, kl_eq, kl_eM, kl_Me, kl_ltM, kl_leM, kl_ck, kl_cj, kl_cb, kl_bit, nI_clamp, va_up_self, va_up_ne, pk_us, pk_un, if_pos, if_neg, eq_self, and_true, true_and, and_false, false_and, if_true, if_false, Bool.false_eq_true, r0, c2]
            · have c3 : t_low s q b = 1 := by omega
              simp (disch := first | omega | assumption) only [kk_nm, Option.bind_some, kl_0, kl_1, kl_2, kl_3, kl_4, kl_5, kl_6, kl_7, kl_8, kl_9, kl_10, kl_12, kl_14, kl_15, kl_16, kl_20, kl_31, kl_33, kl_48, kl_49, kl_50, kl_57, kl_59, kl_60, kl_62, kl_63, kl_98, kl_99, kl_103, kl_104, kl_126, kl_144, kl_310, kl_372, kl_100000, kl_1000000, kl_neg, kl_mm, kl_am, nI_add, kl_mul, kl_sub, kl_le, kl_lt, kl_eq, kl_eM, kl_Me, kl_ltM, kl_leM, kl_ck, kl_cj, kl_cb, kl_bit, nI_clamp, va_up_self, va_up_ne, pk_us, pk_un, if_pos, if_neg, eq_self, and_true, true_and, and_false, false_and, if_true, if_false, Bool.false_eq_true, r0, c3]
          · simp (disch := first | omega | assumption) only [kk_nm, Option.bind_some, kl_0, kl_1, kl_2, kl_3, kl_4, kl_5, kl_6, kl_7, kl_8, kl_9, kl_10, kl_12, kl_14, kl_15, kl_16, kl_20, kl_31, kl_33, kl_48, kl_49, kl_50, kl_57, kl_59, kl_60, kl_62, kl_63, kl_98, kl_99, kl_103, kl_104, kl_126, kl_144, kl_310, kl_372, kl_100000, kl_1000000, kl_neg, kl_mm, kl_am, nI_add, kl_mul, kl_sub, kl_le, kl_lt, kl_eq, kl_eM, kl_Me, kl_ltM, kl_leM, kl_ck, kl_cj, kl_cb, kl_bit, nI_clamp, va_up_self, va_up_ne, pk_us, pk_un, if_pos, if_neg, eq_self, and_true, true_and, and_false, false_and, if_true, if_false, Bool.false_eq_true, r0]
        have dst : (if nI b = M 0 (5 : Int32).toNatClampNeg then some (60 : Int32) else kk_ck (6 + 2 * nI b) 62 (some (M3 0 (6 + 2 * nI b).toNatClampNeg))) = some (nI (t_dst s b)) := by
          rw [m3]
          unfold t_dst
          by_cases c : b < s 5
          · simp (disch := first | omega | assumption) only [kk_nm, Option.bind_some, kl_0, kl_1, kl_2, kl_3, kl_4, kl_5, kl_6, kl_7, kl_8, kl_9, kl_10, kl_12, kl_14, kl_15, kl_16, kl_20, kl_31, kl_33, kl_48, kl_49, kl_50, kl_57, kl_59, kl_60, kl_62, kl_63, kl_98, kl_99, kl_103, kl_104, kl_126, kl_144, kl_310, kl_372, kl_100000, kl_1000000, kl_neg, kl_mm, kl_am, nI_add, kl_mul, kl_sub, kl_le, kl_lt, kl_eq, kl_eM, kl_Me, kl_ltM, kl_leM, kl_ck, kl_cj, kl_cb, kl_bit, nI_clamp, va_up_self, va_up_ne, pk_us, pk_un, if_pos, if_neg, eq_self, and_true, true_and, and_false, false_and, if_true, if_false, Bool.false_eq_true, r0]
          · have c2 : b = s 5 := by omega
            simp (disch := first | omega | assumption) only [kk_nm, Option.bind_some, kl_0, kl_1, kl_2, kl_3, kl_4, kl_5, kl_6, kl_7, kl_8, kl_9, kl_10, kl_12, kl_14, kl_15, kl_16, kl_20, kl_31, kl_33, kl_48, kl_49, kl_50, kl_57, kl_59, kl_60, kl_62, kl_63, kl_98, kl_99, kl_103, kl_104, kl_126, kl_144, kl_310, kl_372, kl_100000, kl_1000000, kl_neg, kl_mm, kl_am, nI_add, kl_mul, kl_sub, kl_le, kl_lt, kl_eq, kl_eM, kl_Me, kl_ltM, kl_leM, kl_ck, kl_cj, kl_cb, kl_bit, nI_clamp, va_up_self, va_up_ne, pk_us, pk_un, if_pos, if_neg, eq_self, and_true, true_and, and_false, false_and, if_true, if_false, Bool.false_eq_true, r0, c2]
        have ah : (if nI p = 0 then some (0 : Int32) else kk_ck (5 * (nI p - 1) + nI b) 60 (Option.bind (if M 0 (5 : Int32).toNatClampNeg ≤ nI b then some (0 : Int32) else Option.bind (fX5_isLowered n (M3 0) (nI p - 1) (nI b)) fun (x : Int32) => if x = 0 then some (0 : Int32) else some (nI L)) fun (x : Int32) => some (M3 11 (5 * (nI p - 1) + nI b).toNatClampNeg + x + M3 0 (1 : Int32).toNatClampNeg))) = some (nI (t_ah s L p b)) := by
          cases p with
          | zero =>
            simp (disch := first | omega | assumption) only [kk_nm, Option.bind_some, kl_0, kl_1, kl_2, kl_3, kl_4, kl_5, kl_6, kl_7, kl_8, kl_9, kl_10, kl_12, kl_14, kl_15, kl_16, kl_20, kl_31, kl_33, kl_48, kl_49, kl_50, kl_57, kl_59, kl_60, kl_62, kl_63, kl_98, kl_99, kl_103, kl_104, kl_126, kl_144, kl_310, kl_372, kl_100000, kl_1000000, kl_neg, kl_mm, kl_am, nI_add, kl_mul, kl_sub, kl_le, kl_lt, kl_eq, kl_eM, kl_Me, kl_ltM, kl_leM, kl_ck, kl_cj, kl_cb, kl_bit, nI_clamp, va_up_self, va_up_ne, pk_us, pk_un, if_pos, if_neg, eq_self, and_true, true_and, and_false, false_and, if_true, if_false, Bool.false_eq_true]
            rfl
          | succ q =>
            have e5 : nI (q + 1) - 1 = nI q := by rw [kl_1, kl_sub (by omega)]; rfl
            have e6 : t_ah s L (q + 1) b = t_cm s L q b + t_lo s L q b + s 1 := rfl
            have e7 := hL3 q (by omega) b (by omega)
            rw [e5, low q M3 (by omega) m3, m3, e6]
            simp (disch := first | omega | assumption) only [kk_nm, Option.bind_some, kl_0, kl_1, kl_2, kl_3, kl_4, kl_5, kl_6, kl_7, kl_8, kl_9, kl_10, kl_12, kl_14, kl_15, kl_16, kl_20, kl_31, kl_33, kl_48, kl_49, kl_50, kl_57, kl_59, kl_60, kl_62, kl_63, kl_98, kl_99, kl_103, kl_104, kl_126, kl_144, kl_310, kl_372, kl_100000, kl_1000000, kl_neg, kl_mm, kl_am, nI_add, kl_mul, kl_sub, kl_le, kl_lt, kl_eq, kl_eM, kl_Me, kl_ltM, kl_leM, kl_ck, kl_cj, kl_cb, kl_bit, nI_clamp, va_up_self, va_up_ne, pk_us, pk_un, if_pos, if_neg, eq_self, and_true, true_and, and_false, false_and, if_true, if_false, Bool.false_eq_true, r0, e7]
        have own : (if nI (t_ah s L p b) ≤ nI (t_u s L p b) + (nI (t_dst s b) - nI (t_dv s b)) * M3 0 (2 : Int32).toNatClampNeg then some (nI (t_u s L p b) + (nI (t_dst s b) - nI (t_dv s b)) * M3 0 (2 : Int32).toNatClampNeg) else some (nI (t_ah s L p b))) = some (nI (t_cm s L p b)) := by
          rw [m3, e1]
          by_cases c : t_ah s L p b ≤ t_u s L p b + (t_dst s b - t_dv s b) * s 2
          · rw [Nat.max_eq_left c]
            simp (disch := first | omega | assumption) only [kk_nm, Option.bind_some, kl_0, kl_1, kl_2, kl_3, kl_4, kl_5, kl_6, kl_7, kl_8, kl_9, kl_10, kl_12, kl_14, kl_15, kl_16, kl_20, kl_31, kl_33, kl_48, kl_49, kl_50, kl_57, kl_59, kl_60, kl_62, kl_63, kl_98, kl_99, kl_103, kl_104, kl_126, kl_144, kl_310, kl_372, kl_100000, kl_1000000, kl_neg, kl_mm, kl_am, nI_add, kl_mul, kl_sub, kl_le, kl_lt, kl_eq, kl_eM, kl_Me, kl_ltM, kl_leM, kl_ck, kl_cj, kl_cb, kl_bit, nI_clamp, va_up_self, va_up_ne, pk_us, pk_un, if_pos, if_neg, eq_self, and_true, true_and, and_false, false_and, if_true, if_false, Bool.false_eq_true, r0]
          · rw [Nat.max_eq_right (by omega)]
            simp (disch := first | omega | assumption) only [kk_nm, Option.bind_some, kl_0, kl_1, kl_2, kl_3, kl_4, kl_5, kl_6, kl_7, kl_8, kl_9, kl_10, kl_12, kl_14, kl_15, kl_16, kl_20, kl_31, kl_33, kl_48, kl_49, kl_50, kl_57, kl_59, kl_60, kl_62, kl_63, kl_98, kl_99, kl_103, kl_104, kl_126, kl_144, kl_310, kl_372, kl_100000, kl_1000000, kl_neg, kl_mm, kl_am, nI_add, kl_mul, kl_sub, kl_le, kl_lt, kl_eq, kl_eM, kl_Me, kl_ltM, kl_leM, kl_ck, kl_cj, kl_cb, kl_bit, nI_clamp, va_up_self, va_up_ne, pk_us, pk_un, if_pos, if_neg, eq_self, and_true, true_and, and_false, false_and, if_true, if_false, Bool.false_eq_true, r0]
        unfold fX5_goesN_b29
        rw [dst, if_neg (by rw [kl_5, nI_clamp (by omega), r0 5 (by omega), kl_lt (by omega) (by omega)]; omega)]
        simp only [Option.bind_some]
        rw [ah]
        simp only [Option.bind_some]
        rw [own]
        simp only [Option.bind_some, kk_nm]
        rw [low p _ hp (by rw [va_up_ne _ _ (by omega)]; exact m3)]
        simp (disch := first | omega | assumption) only [kk_nm, Option.bind_some, kl_0, kl_1, kl_2, kl_3, kl_4, kl_5, kl_6, kl_7, kl_8, kl_9, kl_10, kl_12, kl_14, kl_15, kl_16, kl_20, kl_31, kl_33, kl_48, kl_49, kl_50, kl_57, kl_59, kl_60, kl_62, kl_63, kl_98, kl_99, kl_103, kl_104, kl_126, kl_144, kl_310, kl_372, kl_100000, kl_1000000, kl_neg, kl_mm, kl_am, nI_add, kl_mul, kl_sub, kl_le, kl_lt, kl_eq, kl_eM, kl_Me, kl_ltM, kl_leM, kl_ck, kl_cj, kl_cb, kl_bit, nI_clamp, va_up_self, va_up_ne, pk_us, pk_un, if_pos, if_neg, eq_self, and_true, true_and, and_false, false_and, if_true, if_false, Bool.false_eq_true]
      · dsimp only
        rw [va_up_self, pk_un (by omega)]
        exact hL3 q hq c hc
      · dsimp only
        rw [va_up_self]
        by_cases e : c = b
        · rw [e, pk_us]
        · rw [pk_un (by omega)]; exact hD3 c (by omega)) (fun st hI => by
      obtain ⟨x1, x2, x3, M3⟩ := st
      obtain ⟨rfl, rfl, rfl, hM3, hL3, hD3⟩ := hI
      dsimp only at hM3 hL3 hD3 ⊢
      have r0 := hR.r
      refine ⟨M3, ?_, hM3, fun q hq c hc => ?_⟩
      · unfold fX5_goesN_b29
        simp (disch := first | omega | assumption) only [kk_nm, Option.bind_some, kl_0, kl_1, kl_2, kl_3, kl_4, kl_5, kl_6, kl_7, kl_8, kl_9, kl_10, kl_12, kl_14, kl_15, kl_16, kl_20, kl_31, kl_33, kl_48, kl_49, kl_50, kl_57, kl_59, kl_60, kl_62, kl_63, kl_98, kl_99, kl_103, kl_104, kl_126, kl_144, kl_310, kl_372, kl_100000, kl_1000000, kl_neg, kl_mm, kl_am, nI_add, kl_mul, kl_sub, kl_le, kl_lt, kl_eq, kl_eM, kl_Me, kl_ltM, kl_leM, kl_ck, kl_cj, kl_cb, kl_bit, nI_clamp, va_up_self, va_up_ne, pk_us, pk_un, if_pos, if_neg, eq_self, and_true, true_and, and_false, false_and, if_true, if_false, Bool.false_eq_true, r0]
      · by_cases e : q = p
        · rw [e]; exact hD3 c (by omega)
        · exact hL3 q (by omega) c hc) n 0 (nI (p * s 1), nI 0, nI 0, M1) (by omega) (by omega) ⟨rfl, rfl, rfl, hM1, hL1, fun c h => by omega⟩
    refine ⟨(nI (p + 1), M2), ?_, rfl, hM2, h2⟩
    have r0 := hR.r
    unfold fX5_goesN_b7
    rw [m0]
    simp (disch := first | omega | assumption) only [kk_nm, Option.bind_some, kl_0, kl_1, kl_2, kl_3, kl_4, kl_5, kl_6, kl_7, kl_8, kl_9, kl_10, kl_12, kl_14, kl_15, kl_16, kl_20, kl_31, kl_33, kl_48, kl_49, kl_50, kl_57, kl_59, kl_60, kl_62, kl_63, kl_98, kl_99, kl_103, kl_104, kl_126, kl_144, kl_310, kl_372, kl_100000, kl_1000000, kl_neg, kl_mm, kl_am, nI_add, kl_mul, kl_sub, kl_le, kl_lt, kl_eq, kl_eM, kl_Me, kl_ltM, kl_leM, kl_ck, kl_cj, kl_cb, kl_bit, nI_clamp, va_up_self, va_up_ne, pk_us, pk_un, if_pos, if_neg, eq_self, and_true, true_and, and_false, false_and, if_true, if_false, Bool.false_eq_true, r0, e2]) (fun st hI => by
    obtain ⟨x1, M1⟩ := st
    obtain ⟨rfl, hM1, hL1⟩ := hI
    dsimp only at hM1 hL1 ⊢
    have m0 := hM1 0 (by omega)
    have r0 := hR.r
    refine ⟨M1, ?_, hM1, hL1⟩
    unfold fX5_goesN_b7
    rw [m0]
    simp (disch := first | omega | assumption) only [kk_nm, Option.bind_some, kl_0, kl_1, kl_2, kl_3, kl_4, kl_5, kl_6, kl_7, kl_8, kl_9, kl_10, kl_12, kl_14, kl_15, kl_16, kl_20, kl_31, kl_33, kl_48, kl_49, kl_50, kl_57, kl_59, kl_60, kl_62, kl_63, kl_98, kl_99, kl_103, kl_104, kl_126, kl_144, kl_310, kl_372, kl_100000, kl_1000000, kl_neg, kl_mm, kl_am, nI_add, kl_mul, kl_sub, kl_le, kl_lt, kl_eq, kl_eM, kl_Me, kl_ltM, kl_leM, kl_ck, kl_cj, kl_cb, kl_bit, nI_clamp, va_up_self, va_up_ne, pk_us, pk_un, if_pos, if_neg, eq_self, and_true, true_and, and_false, false_and, if_true, if_false, Bool.false_eq_true, r0]) n 0 (nI 0, M) (by omega) (by omega) ⟨rfl, fun _ _ => rfl, fun q h => by omega⟩
  refine ⟨M', ?_, hM', hc⟩
  have m0 := hM' 0 (by omega)
  have r0 := hR.r
  unfold fX5_goesN t_end
  by_cases c : s 4 = 0
  · simp (disch := first | omega | assumption) only [kk_nm, Option.bind_some, kl_0, kl_1, kl_2, kl_3, kl_4, kl_5, kl_6, kl_7, kl_8, kl_9, kl_10, kl_12, kl_14, kl_15, kl_16, kl_20, kl_31, kl_33, kl_48, kl_49, kl_50, kl_57, kl_59, kl_60, kl_62, kl_63, kl_98, kl_99, kl_103, kl_104, kl_126, kl_144, kl_310, kl_372, kl_100000, kl_1000000, kl_neg, kl_mm, kl_am, nI_add, kl_mul, kl_sub, kl_le, kl_lt, kl_eq, kl_eM, kl_Me, kl_ltM, kl_leM, kl_ck, kl_cj, kl_cb, kl_bit, nI_clamp, va_up_self, va_up_ne, pk_us, pk_un, if_pos, if_neg, eq_self, and_true, true_and, and_false, false_and, if_true, if_false, Bool.false_eq_true, e, m0, r0]
  · simp (disch := first | omega | assumption) only [kk_nm, Option.bind_some, kl_0, kl_1, kl_2, kl_3, kl_4, kl_5, kl_6, kl_7, kl_8, kl_9, kl_10, kl_12, kl_14, kl_15, kl_16, kl_20, kl_31, kl_33, kl_48, kl_49, kl_50, kl_57, kl_59, kl_60, kl_62, kl_63, kl_98, kl_99, kl_103, kl_104, kl_126, kl_144, kl_310, kl_372, kl_100000, kl_1000000, kl_neg, kl_mm, kl_am, nI_add, kl_mul, kl_sub, kl_le, kl_lt, kl_eq, kl_eM, kl_Me, kl_ltM, kl_leM, kl_ck, kl_cj, kl_cb, kl_bit, nI_clamp, va_up_self, va_up_ne, pk_us, pk_un, if_pos, if_neg, eq_self, and_true, true_and, and_false, false_and, if_true, if_false, Bool.false_eq_true, e, m0, r0, hc]
theorem q5_endsN {M : St1} (hn : 1000 ≤ n) (hR : RM (M 0) s) (hW : WF s) : ∃ M', fX5_endsN n M = some (nI (t_end s (s 3)), M') ∧ (∀ i, i ≠ 11 → M' i = M i) ∧ (∀ p, p < s 4 → ∀ b, b ≤ s 5 → M' 11 (5 * p + b) = nI (t_cm s (s 3) p b)) := by
  have w0 := hW.1
  obtain ⟨M', e, h1, h2⟩ := q5_goesN (L := s 3) hn hR hW (by omega)
  refine ⟨M', ?_, h1, h2⟩
  have r0 := hR.r
  unfold fX5_endsN
  simp (disch := first | omega | assumption) only [kk_nm, Option.bind_some, kl_0, kl_1, kl_2, kl_3, kl_4, kl_5, kl_6, kl_7, kl_8, kl_9, kl_10, kl_12, kl_14, kl_15, kl_16, kl_20, kl_31, kl_33, kl_48, kl_49, kl_50, kl_57, kl_59, kl_60, kl_62, kl_63, kl_98, kl_99, kl_103, kl_104, kl_126, kl_144, kl_310, kl_372, kl_100000, kl_1000000, kl_neg, kl_mm, kl_am, nI_add, kl_mul, kl_sub, kl_le, kl_lt, kl_eq, kl_eM, kl_Me, kl_ltM, kl_leM, kl_ck, kl_cj, kl_cb, kl_bit, nI_clamp, va_up_self, va_up_ne, pk_us, pk_un, if_pos, if_neg, eq_self, and_true, true_and, and_false, false_and, if_true, if_false, Bool.false_eq_true, r0, e]
theorem q5_goesT {M : St1} {L : Nat} (hn : 1000 ≤ n) (hR : RM (M 1) s) (hW : WF s) (hL : L ≤ 20) : ∃ M', fX5_goesT n M (nI L) = some (nI (t_end s L), M') ∧ (∀ i, i ≠ 11 → M' i = M i) ∧ (∀ p, p < s 4 → ∀ b, b ≤ s 5 → M' 11 (5 * p + b) = nI (t_cm s L p b)) := by
  have w1 := hW.2.1
  have w0 := hW.1
  obtain ⟨M', e, hM', hc⟩ := kl_forI (body := fun (st : Int32 × St1) => fX5_goesT_b7 n M (nI L) st.1 st.2) (fun p st => st.1 = nI p ∧ (∀ i, i ≠ 11 → st.2 i = M i) ∧ ∀ q, q < p → ∀ b, b ≤ s 5 → st.2 11 (5 * q + b) = nI (t_cm s L q b)) (fun M' => (∀ i, i ≠ 11 → M' i = M i) ∧ ∀ p, p < s 4 → ∀ b, b ≤ s 5 → M' 11 (5 * p + b) = nI (t_cm s L p b)) (s 4) (fun p st hp hI => by
    obtain ⟨x1, M1⟩ := st
    obtain ⟨rfl, hM1, hL1⟩ := hI
    dsimp only at hM1 hL1 ⊢
    have m0 := hM1 1 (by omega)
    obtain ⟨M2, e2, hM2, h2⟩ := kl_forI (body := fun (st : Int32 × Int32 × Int32 × St1) => fX5_goesT_b29 n M (nI L) (nI p) st.1 st.2.1 st.2.2.1 st.2.2.2) (fun b st => st.1 = nI (t_u s L p b) ∧ st.2.1 = nI (t_dv s b) ∧ st.2.2.1 = nI b ∧ (∀ i, i ≠ 11 → st.2.2.2 i = M i) ∧ (∀ q, q < p → ∀ c, c ≤ s 5 → st.2.2.2 11 (5 * q + c) = nI (t_cm s L q c)) ∧ ∀ c, c < b → st.2.2.2 11 (5 * p + c) = nI (t_cm s L p c)) (fun M' => (∀ i, i ≠ 11 → M' i = M i) ∧ ∀ q, q < p + 1 → ∀ c, c ≤ s 5 → M' 11 (5 * q + c) = nI (t_cm s L q c)) (s 5 + 1) (fun b st hb hI => by
      obtain ⟨x1, x2, x3, M3⟩ := st
      obtain ⟨rfl, rfl, rfl, hM3, hL3, hD3⟩ := hI
      dsimp only at hM3 hL3 hD3 ⊢
      have m3 := hM3 1 (by omega)
      have e1 := t_cm_eq s L p b
      have e2 := t_cm_le hW (L := L) (p := p) (b := b) (by omega) (by omega) (by omega)
      have e3 := t_dv_le hW b
      have e4 := t_dst_le hW b
      have r0 := hR.r
      refine ⟨(nI (t_u s L p (b + 1)), nI (t_dv s (b + 1)), nI (b + 1), va_up M3 11 (upd (M3 11) (5 * p + b) (nI (t_cm s L p b)))), ?_, rfl, rfl, rfl, fun i hi => by dsimp only; rw [va_up_ne _ _ hi]; exact hM3 i hi, fun q hq c hc => ?_, fun c h => ?_⟩
      · show fX5_goesT_b29 n M (nI L) (nI p) (nI _) (nI _) (nI b) M3 = some (.inl (nI (t_cm s L p b + t_lo s L p b), nI (t_dst s b), nI (b + 1), _))
        have low : ∀ (q : Nat) (M4 : St1), q < s 4 → M4 1 = M 1 → (if M 1 (5 : Int32).toNatClampNeg ≤ nI b then some (0 : Int32) else Option.bind (fX5_isLowered n (M4 1) (nI q) (nI b)) fun (x : Int32) => if x = 0 then some (0 : Int32) else some (nI L)) = some (nI (t_lo s L q b)) := by
          intro q M4 hq e4
          rw [e4]
          unfold t_lo
          by_cases c : b < s 5
          · rw [q5_isLowered hR hW hq c]
            have h1 := t_low_le s q b
            by_cases c2 : t_low s q b = 0
            · simp (disch := first | omega | assumption) only [kk_nm, Option.bind_some, kl_0, kl_1, kl_2, kl_3, kl_4, kl_5, kl_6, kl_7, kl_8, kl_9, kl_10, kl_12, kl_14, kl_15, kl_16, kl_20, kl_31, kl_33, kl_48, kl_49, kl_50, kl_57, kl_59, kl_60, kl_62, kl_63, kl_98, kl_99, kl_103, kl_104, kl_126, kl_144, kl_310, kl_372, kl_100000, kl_1000000, kl_neg, kl_mm, kl_am, nI_add, kl_mul, kl_sub, kl_le, kl_lt, kl_eq, kl_eM, kl_Me, kl_ltM, kl_leM, kl_ck, kl_cj, kl_cb, kl_bit, nI_clamp, va_up_self, va_up_ne, pk_us, pk_un, if_pos, if_neg, eq_self, and_true, true_and, and_false, false_and, if_true, if_false, Bool.false_eq_true, r0, c2]
            · have c3 : t_low s q b = 1 := by omega
              simp (disch := first | omega | assumption) only [kk_nm, Option.bind_some, kl_0, kl_1, kl_2, kl_3, kl_4, kl_5, kl_6, kl_7, kl_8, kl_9, kl_10, kl_12, kl_14, kl_15, kl_16, kl_20, kl_31, kl_33, kl_48, kl_49, kl_50, kl_57, kl_59, kl_60, kl_62, kl_63, kl_98, kl_99, kl_103, kl_104, kl_126, kl_144, kl_310, kl_372, kl_100000, kl_1000000, kl_neg, kl_mm, kl_am, nI_add, kl_mul, kl_sub, kl_le, kl_lt, kl_eq, kl_eM, kl_Me, kl_ltM, kl_leM, kl_ck, kl_cj, kl_cb, kl_bit, nI_clamp, va_up_self, va_up_ne, pk_us, pk_un, if_pos, if_neg, eq_self, and_true, true_and, and_false, false_and, if_true, if_false, Bool.false_eq_true, r0, c3]
          · simp (disch := first | omega | assumption) only [kk_nm, Option.bind_some, kl_0, kl_1, kl_2, kl_3, kl_4, kl_5, kl_6, kl_7, kl_8, kl_9, kl_10, kl_12, kl_14, kl_15, kl_16, kl_20, kl_31, kl_33, kl_48, kl_49, kl_50, kl_57, kl_59, kl_60, kl_62, kl_63, kl_98, kl_99, kl_103, kl_104, kl_126, kl_144, kl_310, kl_372, kl_100000, kl_1000000, kl_neg, kl_mm, kl_am, nI_add, kl_mul, kl_sub, kl_le, kl_lt, kl_eq, kl_eM, kl_Me, kl_ltM, kl_leM, kl_ck, kl_cj, kl_cb, kl_bit, nI_clamp, va_up_self, va_up_ne, pk_us, pk_un, if_pos, if_neg, eq_self, and_true, true_and, and_false, false_and, if_true, if_false, Bool.false_eq_true, r0]
        have dst : (if nI b = M 1 (5 : Int32).toNatClampNeg then some (60 : Int32) else kk_ck (6 + 2 * nI b) 62 (some (M3 1 (6 + 2 * nI b).toNatClampNeg))) = some (nI (t_dst s b)) := by
          rw [m3]
          unfold t_dst
          by_cases c : b < s 5
          · simp (disch := first | omega | assumption) only [kk_nm, Option.bind_some, kl_0, kl_1, kl_2, kl_3, kl_4, kl_5, kl_6, kl_7, kl_8, kl_9, kl_10, kl_12, kl_14, kl_15, kl_16, kl_20, kl_31, kl_33, kl_48, kl_49, kl_50, kl_57, kl_59, kl_60, kl_62, kl_63, kl_98, kl_99, kl_103, kl_104, kl_126, kl_144, kl_310, kl_372, kl_100000, kl_1000000, kl_neg, kl_mm, kl_am, nI_add, kl_mul, kl_sub, kl_le, kl_lt, kl_eq, kl_eM, kl_Me, kl_ltM, kl_leM, kl_ck, kl_cj, kl_cb, kl_bit, nI_clamp, va_up_self, va_up_ne, pk_us, pk_un, if_pos, if_neg, eq_self, and_true, true_and, and_false, false_and, if_true, if_false, Bool.false_eq_true, r0]
          · have c2 : b = s 5 := by omega
            simp (disch := first | omega | assumption) only [kk_nm, Option.bind_some, kl_0, kl_1, kl_2, kl_3, kl_4, kl_5, kl_6, kl_7, kl_8, kl_9, kl_10, kl_12, kl_14, kl_15, kl_16, kl_20, kl_31, kl_33, kl_48, kl_49, kl_50, kl_57, kl_59, kl_60, kl_62, kl_63, kl_98, kl_99, kl_103, kl_104, kl_126, kl_144, kl_310, kl_372, kl_100000, kl_1000000, kl_neg, kl_mm, kl_am, nI_add, kl_mul, kl_sub, kl_le, kl_lt, kl_eq, kl_eM, kl_Me, kl_ltM, kl_leM, kl_ck, kl_cj, kl_cb, kl_bit, nI_clamp, va_up_self, va_up_ne, pk_us, pk_un, if_pos, if_neg, eq_self, and_true, true_and, and_false, false_and, if_true, if_false, Bool.false_eq_true, r0, c2]
        have ah : (if nI p = 0 then some (0 : Int32) else kk_ck (5 * (nI p - 1) + nI b) 60 (Option.bind (if M 1 (5 : Int32).toNatClampNeg ≤ nI b then some (0 : Int32) else Option.bind (fX5_isLowered n (M3 1) (nI p - 1) (nI b)) fun (x : Int32) => if x = 0 then some (0 : Int32) else some (nI L)) fun (x : Int32) => some (M3 11 (5 * (nI p - 1) + nI b).toNatClampNeg + x + M3 1 (1 : Int32).toNatClampNeg))) = some (nI (t_ah s L p b)) := by
          cases p with
          | zero =>
            simp (disch := first | omega | assumption) only [kk_nm, Option.bind_some, kl_0, kl_1, kl_2, kl_3, kl_4, kl_5, kl_6, kl_7, kl_8, kl_9, kl_10, kl_12, kl_14, kl_15, kl_16, kl_20, kl_31, kl_33, kl_48, kl_49, kl_50, kl_57, kl_59, kl_60, kl_62, kl_63, kl_98, kl_99, kl_103, kl_104, kl_126, kl_144, kl_310, kl_372, kl_100000, kl_1000000, kl_neg, kl_mm, kl_am, nI_add, kl_mul, kl_sub, kl_le, kl_lt, kl_eq, kl_eM, kl_Me, kl_ltM, kl_leM, kl_ck, kl_cj, kl_cb, kl_bit, nI_clamp, va_up_self, va_up_ne, pk_us, pk_un, if_pos, if_neg, eq_self, and_true, true_and, and_false, false_and, if_true, if_false, Bool.false_eq_true]
            rfl
          | succ q =>
            have e5 : nI (q + 1) - 1 = nI q := by rw [kl_1, kl_sub (by omega)]; rfl
            have e6 : t_ah s L (q + 1) b = t_cm s L q b + t_lo s L q b + s 1 := rfl
            have e7 := hL3 q (by omega) b (by omega)
            rw [e5, low q M3 (by omega) m3, m3, e6]
            simp (disch := first | omega | assumption) only [kk_nm, Option.bind_some, kl_0, kl_1, kl_2, kl_3, kl_4, kl_5, kl_6, kl_7, kl_8, kl_9, kl_10, kl_12, kl_14, kl_15, kl_16, kl_20, kl_31, kl_33, kl_48, kl_49, kl_50, kl_57, kl_59, kl_60, kl_62, kl_63, kl_98, kl_99, kl_103, kl_104, kl_126, kl_144, kl_310, kl_372, kl_100000, kl_1000000, kl_neg, kl_mm, kl_am, nI_add, kl_mul, kl_sub, kl_le, kl_lt, kl_eq, kl_eM, kl_Me, kl_ltM, kl_leM, kl_ck, kl_cj, kl_cb, kl_bit, nI_clamp, va_up_self, va_up_ne, pk_us, pk_un, if_pos, if_neg, eq_self, and_true, true_and, and_false, false_and, if_true, if_false, Bool.false_eq_true, r0, e7]
        have own : (if nI (t_ah s L p b) ≤ nI (t_u s L p b) + (nI (t_dst s b) - nI (t_dv s b)) * M3 1 (2 : Int32).toNatClampNeg then some (nI (t_u s L p b) + (nI (t_dst s b) - nI (t_dv s b)) * M3 1 (2 : Int32).toNatClampNeg) else some (nI (t_ah s L p b))) = some (nI (t_cm s L p b)) := by
          rw [m3, e1]
          by_cases c : t_ah s L p b ≤ t_u s L p b + (t_dst s b - t_dv s b) * s 2
          · rw [Nat.max_eq_left c]
            simp (disch := first | omega | assumption) only [kk_nm, Option.bind_some, kl_0, kl_1, kl_2, kl_3, kl_4, kl_5, kl_6, kl_7, kl_8, kl_9, kl_10, kl_12, kl_14, kl_15, kl_16, kl_20, kl_31, kl_33, kl_48, kl_49, kl_50, kl_57, kl_59, kl_60, kl_62, kl_63, kl_98, kl_99, kl_103, kl_104, kl_126, kl_144, kl_310, kl_372, kl_100000, kl_1000000, kl_neg, kl_mm, kl_am, nI_add, kl_mul, kl_sub, kl_le, kl_lt, kl_eq, kl_eM, kl_Me, kl_ltM, kl_leM, kl_ck, kl_cj, kl_cb, kl_bit, nI_clamp, va_up_self, va_up_ne, pk_us, pk_un, if_pos, if_neg, eq_self, and_true, true_and, and_false, false_and, if_true, if_false, Bool.false_eq_true, r0]
          · rw [Nat.max_eq_right (by omega)]
            simp (disch := first | omega | assumption) only [kk_nm, Option.bind_some, kl_0, kl_1, kl_2, kl_3, kl_4, kl_5, kl_6, kl_7, kl_8, kl_9, kl_10, kl_12, kl_14, kl_15, kl_16, kl_20, kl_31, kl_33, kl_48, kl_49, kl_50, kl_57, kl_59, kl_60, kl_62, kl_63, kl_98, kl_99, kl_103, kl_104, kl_126, kl_144, kl_310, kl_372, kl_100000, kl_1000000, kl_neg, kl_mm, kl_am, nI_add, kl_mul, kl_sub, kl_le, kl_lt, kl_eq, kl_eM, kl_Me, kl_ltM, kl_leM, kl_ck, kl_cj, kl_cb, kl_bit, nI_clamp, va_up_self, va_up_ne, pk_us, pk_un, if_pos, if_neg, eq_self, and_true, true_and, and_false, false_and, if_true, if_false, Bool.false_eq_true, r0]
        unfold fX5_goesT_b29
        rw [dst, if_neg (by rw [kl_5, nI_clamp (by omega), r0 5 (by omega), kl_lt (by omega) (by omega)]; omega)]
        simp only [Option.bind_some]
        rw [ah]
        simp only [Option.bind_some]
        rw [own]
        simp only [Option.bind_some, kk_nm]
        rw [low p _ hp (by rw [va_up_ne _ _ (by omega)]; exact m3)]
        simp (disch := first | omega | assumption) only [kk_nm, Option.bind_some, kl_0, kl_1, kl_2, kl_3, kl_4, kl_5, kl_6, kl_7, kl_8, kl_9, kl_10, kl_12, kl_14, kl_15, kl_16, kl_20, kl_31, kl_33, kl_48, kl_49, kl_50, kl_57, kl_59, kl_60, kl_62, kl_63, kl_98, kl_99, kl_103, kl_104, kl_126, kl_144, kl_310, kl_372, kl_100000, kl_1000000, kl_neg, kl_mm, kl_am, nI_add, kl_mul, kl_sub, kl_le, kl_lt, kl_eq, kl_eM, kl_Me, kl_ltM, kl_leM, kl_ck, kl_cj, kl_cb, kl_bit, nI_clamp, va_up_self, va_up_ne, pk_us, pk_un, if_pos, if_neg, eq_self, and_true, true_and, and_false, false_and, if_true, if_false, Bool.false_eq_true]
      · dsimp only
        rw [va_up_self, pk_un (by omega)]
        exact hL3 q hq c hc
      · dsimp only
        rw [va_up_self]
        by_cases e : c = b
        · rw [e, pk_us]
        · rw [pk_un (by omega)]; exact hD3 c (by omega)) (fun st hI => by
      obtain ⟨x1, x2, x3, M3⟩ := st
      obtain ⟨rfl, rfl, rfl, hM3, hL3, hD3⟩ := hI
      dsimp only at hM3 hL3 hD3 ⊢
      have r0 := hR.r
      refine ⟨M3, ?_, hM3, fun q hq c hc => ?_⟩
      · unfold fX5_goesT_b29
        simp (disch := first | omega | assumption) only [kk_nm, Option.bind_some, kl_0, kl_1, kl_2, kl_3, kl_4, kl_5, kl_6, kl_7, kl_8, kl_9, kl_10, kl_12, kl_14, kl_15, kl_16, kl_20, kl_31, kl_33, kl_48, kl_49, kl_50, kl_57, kl_59, kl_60, kl_62, kl_63, kl_98, kl_99, kl_103, kl_104, kl_126, kl_144, kl_310, kl_372, kl_100000, kl_1000000, kl_neg, kl_mm, kl_am, nI_add, kl_mul, kl_sub, kl_le, kl_lt, kl_eq, kl_eM, kl_Me, kl_ltM, kl_leM, kl_ck, kl_cj, kl_cb, kl_bit, nI_clamp, va_up_self, va_up_ne, pk_us, pk_un, if_pos, if_neg, eq_self, and_true, true_and, and_false, false_and, if_true, if_false, Bool.false_eq_true, r0]
      · by_cases e : q = p
        · rw [e]; exact hD3 c (by omega)
        · exact hL3 q (by omega) c hc) n 0 (nI (p * s 1), nI 0, nI 0, M1) (by omega) (by omega) ⟨rfl, rfl, rfl, hM1, hL1, fun c h => by omega⟩
    refine ⟨(nI (p + 1), M2), ?_, rfl, hM2, h2⟩
    have r0 := hR.r
    unfold fX5_goesT_b7
    rw [m0]
    simp (disch := first | omega | assumption) only [kk_nm, Option.bind_some, kl_0, kl_1, kl_2, kl_3, kl_4, kl_5, kl_6, kl_7, kl_8, kl_9, kl_10, kl_12, kl_14, kl_15, kl_16, kl_20, kl_31, kl_33, kl_48, kl_49, kl_50, kl_57, kl_59, kl_60, kl_62, kl_63, kl_98, kl_99, kl_103, kl_104, kl_126, kl_144, kl_310, kl_372, kl_100000, kl_1000000, kl_neg, kl_mm, kl_am, nI_add, kl_mul, kl_sub, kl_le, kl_lt, kl_eq, kl_eM, kl_Me, kl_ltM, kl_leM, kl_ck, kl_cj, kl_cb, kl_bit, nI_clamp, va_up_self, va_up_ne, pk_us, pk_un, if_pos, if_neg, eq_self, and_true, true_and, and_false, false_and, if_true, if_false, Bool.false_eq_true, r0, e2]) (fun st hI => by
    obtain ⟨x1, M1⟩ := st
    obtain ⟨rfl, hM1, hL1⟩ := hI
    dsimp only at hM1 hL1 ⊢
    have m0 := hM1 1 (by omega)
    have r0 := hR.r
    refine ⟨M1, ?_, hM1, hL1⟩
    unfold fX5_goesT_b7
    rw [m0]
    simp (disch := first | omega | assumption) only [kk_nm, Option.bind_some, kl_0, kl_1, kl_2, kl_3, kl_4, kl_5, kl_6, kl_7, kl_8, kl_9, kl_10, kl_12, kl_14, kl_15, kl_16, kl_20, kl_31, kl_33, kl_48, kl_49, kl_50, kl_57, kl_59, kl_60, kl_62, kl_63, kl_98, kl_99, kl_103, kl_104, kl_126, kl_144, kl_310, kl_372, kl_100000, kl_1000000, kl_neg, kl_mm, kl_am, nI_add, kl_mul, kl_sub, kl_le, kl_lt, kl_eq, kl_eM, kl_Me, kl_ltM, kl_leM, kl_ck, kl_cj, kl_cb, kl_bit, nI_clamp, va_up_self, va_up_ne, pk_us, pk_un, if_pos, if_neg, eq_self, and_true, true_and, and_false, false_and, if_true, if_false, Bool.false_eq_true, r0]) n 0 (nI 0, M) (by omega) (by omega) ⟨rfl, fun _ _ => rfl, fun q h => by omega⟩
  refine ⟨M', ?_, hM', hc⟩
  have m0 := hM' 1 (by omega)
  have r0 := hR.r
  unfold fX5_goesT t_end
  by_cases c : s 4 = 0
  · simp (disch := first | omega | assumption) only [kk_nm, Option.bind_some, kl_0, kl_1, kl_2, kl_3, kl_4, kl_5, kl_6, kl_7, kl_8, kl_9, kl_10, kl_12, kl_14, kl_15, kl_16, kl_20, kl_31, kl_33, kl_48, kl_49, kl_50, kl_57, kl_59, kl_60, kl_62, kl_63, kl_98, kl_99, kl_103, kl_104, kl_126, kl_144, kl_310, kl_372, kl_100000, kl_1000000, kl_neg, kl_mm, kl_am, nI_add, kl_mul, kl_sub, kl_le, kl_lt, kl_eq, kl_eM, kl_Me, kl_ltM, kl_leM, kl_ck, kl_cj, kl_cb, kl_bit, nI_clamp, va_up_self, va_up_ne, pk_us, pk_un, if_pos, if_neg, eq_self, and_true, true_and, and_false, false_and, if_true, if_false, Bool.false_eq_true, e, m0, r0]
  · simp (disch := first | omega | assumption) only [kk_nm, Option.bind_some, kl_0, kl_1, kl_2, kl_3, kl_4, kl_5, kl_6, kl_7, kl_8, kl_9, kl_10, kl_12, kl_14, kl_15, kl_16, kl_20, kl_31, kl_33, kl_48, kl_49, kl_50, kl_57, kl_59, kl_60, kl_62, kl_63, kl_98, kl_99, kl_103, kl_104, kl_126, kl_144, kl_310, kl_372, kl_100000, kl_1000000, kl_neg, kl_mm, kl_am, nI_add, kl_mul, kl_sub, kl_le, kl_lt, kl_eq, kl_eM, kl_Me, kl_ltM, kl_leM, kl_ck, kl_cj, kl_cb, kl_bit, nI_clamp, va_up_self, va_up_ne, pk_us, pk_un, if_pos, if_neg, eq_self, and_true, true_and, and_false, false_and, if_true, if_false, Bool.false_eq_true, e, m0, r0, hc]
theorem q5_endsT {M : St1} (hn : 1000 ≤ n) (hR : RM (M 1) s) (hW : WF s) : ∃ M', fX5_endsT n M = some (nI (t_end s (s 3)), M') ∧ (∀ i, i ≠ 11 → M' i = M i) ∧ (∀ p, p < s 4 → ∀ b, b ≤ s 5 → M' 11 (5 * p + b) = nI (t_cm s (s 3) p b)) := by
  have w0 := hW.1
  obtain ⟨M', e, h1, h2⟩ := q5_goesT (L := s 3) hn hR hW (by omega)
  refine ⟨M', ?_, h1, h2⟩
  have r0 := hR.r
  unfold fX5_endsT
  simp (disch := first | omega | assumption) only [kk_nm, Option.bind_some, kl_0, kl_1, kl_2, kl_3, kl_4, kl_5, kl_6, kl_7, kl_8, kl_9, kl_10, kl_12, kl_14, kl_15, kl_16, kl_20, kl_31, kl_33, kl_48, kl_49, kl_50, kl_57, kl_59, kl_60, kl_62, kl_63, kl_98, kl_99, kl_103, kl_104, kl_126, kl_144, kl_310, kl_372, kl_100000, kl_1000000, kl_neg, kl_mm, kl_am, nI_add, kl_mul, kl_sub, kl_le, kl_lt, kl_eq, kl_eM, kl_Me, kl_ltM, kl_leM, kl_ck, kl_cj, kl_cb, kl_bit, nI_clamp, va_up_self, va_up_ne, pk_us, pk_un, if_pos, if_neg, eq_self, and_true, true_and, and_false, false_and, if_true, if_false, Bool.false_eq_true, r0, e]
end
