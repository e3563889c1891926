/-! reading the text: the class's reader -/
def aK (ch : Nat) : Nat := if ch = 98 then 2 else if ch = 99 then 0 else if ch = 103 then 3 else if ch = 104 then 1 else 4
abbrev QT : Type := Nat × Nat × Nat × Nat
def aS (q : QT) (ch : Nat) : Option QT :=
  if q.2.2.2 = 0 then (if aK ch < 4 then some (aK ch, 0, 0, 1) else none)
  else if q.2.2.2 = 1 then (if 49 ≤ ch ∧ ch ≤ 57 then some (q.1, q.2.1 * 10 + (ch - 48), q.2.2.1, 2) else none)
  else if q.2.2.2 = 2 then (if 48 ≤ ch ∧ ch ≤ 57 then some (q.1, q.2.1 * 10 + (ch - 48), q.2.2.1, 3) else none)
  else if q.2.2.2 = 3 then (if ch = 33 then (if q.1 = 1 then some (q.1, q.2.1, q.2.2.1, 4) else none) else if ch = 59 then some (q.1, q.2.1, q.2.2.1, 0) else none)
  else if q.2.2.2 = 4 then (if aK ch < 4 ∧ q.2.2.1 < 2 ^ aK ch then some (q.1, q.2.1, q.2.2.1 + 2 ^ aK ch, 5) else none)
  else (if ch = 59 then some (q.1, q.2.1, q.2.2.1, 0) else if aK ch < 4 ∧ q.2.2.1 < 2 ^ aK ch then some (q.1, q.2.1, q.2.2.1 + 2 ^ aK ch, 5) else none)
def rq (t : Nat → Nat) : Nat → Option QT
  | 0 => some (0, 0, 0, 0)
  | u + 1 => (rq t u).bind fun q => aS q (t u)
def WQ (q : QT) : Prop := q.1 ≤ 3 ∧ q.2.2.1 ≤ 15 ∧ q.2.2.2 ≤ 5 ∧ (q.2.2.2 = 1 → q.2.1 = 0 ∧ q.2.2.1 = 0) ∧ (q.2.2.2 = 2 → 1 ≤ q.2.1 ∧ q.2.1 ≤ 9 ∧ q.2.2.1 = 0) ∧ (3 ≤ q.2.2.2 → 10 ≤ q.2.1 ∧ q.2.1 ≤ 99) ∧ (q.2.2.2 = 3 → q.2.2.1 = 0) ∧ (4 ≤ q.2.2.2 → q.1 = 1) ∧ (q.2.2.2 = 4 → q.2.2.1 = 0)
def RQ (R : St1) (q : QT) : Prop := R 3 0 = nI q.2.2.2 ∧ (q.2.2.2 ≠ 0 → R 0 0 = nI q.1 ∧ R 1 0 = nI q.2.1 ∧ R 2 0 = nI q.2.2.1)
theorem aK_le (ch : Nat) : aK ch ≤ 4 := by
  unfold aK
  by_cases a : ch = 98
  · rw [if_pos a]; omega
  · rw [if_neg a]
    by_cases b : ch = 99
    · rw [if_pos b]; omega
    · rw [if_neg b]
      by_cases c : ch = 103
      · rw [if_pos c]; omega
      · rw [if_neg c]
        by_cases d : ch = 104
        · rw [if_pos d]; omega
        · rw [if_neg d]; omega
theorem kl_shr {m k : Nat} (hm : m < 16) (hk : k < 4) : ((nI m >>> (nI k &&& nI 31)) = nI 0) = (m < 2 ^ k) := by
  have h : ∀ m, m < 16 → ∀ k, k < 4 → (((nI m >>> (nI k &&& nI 31)) = nI 0) ↔ (m < 2 ^ k)) := by decide +kernel
  exact propext (h m hm k hk)
theorem kl_orb {m k : Nat} (hm : m < 16) (hk : k < 4) (hmk : m < 2 ^ k) : nI m ||| (nI 1 <<< (nI k &&& nI 31)) = nI (m + 2 ^ k) ∧ m + 2 ^ k ≤ 15 := by
  have h : ∀ m, m < 16 → ∀ k, k < 4 → m < 2 ^ k → (nI m ||| (nI 1 <<< (nI k &&& nI 31)) = nI (m + 2 ^ k) ∧ m + 2 ^ k ≤ 15) := by decide +kernel
  exact h m hm k hk hmk
theorem kl_d1 {ch : Nat} (h : ch < 128) : (nI ch - nI 48 < nI 1) = (ch < 49) := by
  have k : ∀ ch, ch < 128 → ((nI ch - nI 48 < nI 1) ↔ (ch < 49)) := by decide +kernel
  exact propext (k ch h)
theorem kl_d0 {ch : Nat} (h : ch < 128) : (nI ch - nI 48 < nI 0) = (ch < 48) := by
  have k : ∀ ch, ch < 128 → ((nI ch - nI 48 < nI 0) ↔ (ch < 48)) := by decide +kernel
  exact propext (k ch h)
theorem aS_wq {q q' : QT} {ch : Nat} (hq : WQ q) (h : aS q ch = some q') : WQ q' := by
  obtain ⟨w1, w2, w3, w4, w5, w6, w7, w8, w9⟩ := hq
  have hk := aK_le ch
  obtain ⟨k, h', m, st⟩ := q
  dsimp only at w1 w2 w3 w4 w5 w6 w7 w8 w9
  unfold aS at h
  dsimp only at h
  by_cases c0 : st = 0
  · rw [if_pos c0] at h
    by_cases c : aK ch < 4
    · rw [if_pos c] at h; cases h
      unfold WQ; dsimp only; omega
    · rw [if_neg c] at h; cases h
  · rw [if_neg c0] at h
    by_cases c1 : st = 1
    · rw [if_pos c1] at h
      by_cases c : 49 ≤ ch ∧ ch ≤ 57
      · rw [if_pos c] at h; cases h
        unfold WQ; dsimp only; omega
      · rw [if_neg c] at h; cases h
    · rw [if_neg c1] at h
      by_cases c2 : st = 2
      · rw [if_pos c2] at h
        by_cases c : 48 ≤ ch ∧ ch ≤ 57
        · rw [if_pos c] at h; cases h
          unfold WQ; dsimp only; omega
        · rw [if_neg c] at h; cases h
      · rw [if_neg c2] at h
        by_cases c3 : st = 3
        · rw [if_pos c3] at h
          by_cases c : ch = 33
          · rw [if_pos c] at h
            by_cases d : k = 1
            · rw [if_pos d] at h; cases h
              unfold WQ; dsimp only; omega
            · rw [if_neg d] at h; cases h
          · rw [if_neg c] at h
            by_cases d : ch = 59
            · rw [if_pos d] at h; cases h
              unfold WQ; dsimp only; omega
            · rw [if_neg d] at h; cases h
        · rw [if_neg c3] at h
          by_cases c4 : st = 4
          · rw [if_pos c4] at h
            by_cases c : aK ch < 4 ∧ m < 2 ^ aK ch
            · rw [if_pos c] at h; cases h
              have := (kl_orb (by omega) c.1 c.2).2
              unfold WQ; dsimp only; omega
            · rw [if_neg c] at h; cases h
          · rw [if_neg c4] at h
            by_cases d : ch = 59
            · rw [if_pos d] at h; cases h
              unfold WQ; dsimp only; omega
            · rw [if_neg d] at h
              by_cases c : aK ch < 4 ∧ m < 2 ^ aK ch
              · rw [if_pos c] at h; cases h
                have := (kl_orb (by omega) c.1 c.2).2
                unfold WQ; dsimp only; omega
              · rw [if_neg c] at h; cases h
theorem rq_wq {t : Nat → Nat} : ∀ {u : Nat} {q : QT}, rq t u = some q → WQ q
  | 0, q, h => by
    cases h
    unfold WQ; dsimp only; omega
  | u + 1, q, h => by
    unfold rq at h
    cases e : rq t u with
    | none => rw [e] at h; cases h
    | some q0 => rw [e] at h; exact aS_wq (rq_wq e) h
section
variable {n : Nat}
theorem q3_kindOf {ch : Nat} (hc : ch < 128) : fX3_kindOf n (nI ch) = some (if aK ch < 4 then nI (aK ch) else kM) := by
  unfold fX3_kindOf aK
  by_cases a : ch = 98
  · simp (disch := first | omega | assumption) only [kk_nm, Option.bind_some, kl_0, kl_1, kl_2, kl_3, kl_4, kl_5, kl_6, kl_7, kl_8, kl_9, kl_10, kl_12, kl_14, kl_15, kl_16, kl_20, kl_31, kl_33, kl_48, kl_49, kl_50, kl_57, kl_59, kl_60, kl_62, kl_63, kl_98, kl_99, kl_103, kl_104, kl_126, kl_144, kl_310, kl_372, kl_100000, kl_1000000, kl_neg, kl_mm, kl_am, nI_add, kl_mul, kl_sub, kl_le, kl_lt, kl_eq, kl_eM, kl_Me, kl_ltM, kl_leM, kl_ck, kl_cj, kl_cb, kl_bit, nI_clamp, va_up_self, va_up_ne, pk_us, pk_un, if_pos, if_neg, eq_self, and_true, true_and, and_false, false_and, if_true, if_false, Bool.false_eq_true, a]
  · by_cases b : ch = 99
    · simp (disch := first | omega | assumption) only [kk_nm, Option.bind_some, kl_0, kl_1, kl_2, kl_3, kl_4, kl_5, kl_6, kl_7, kl_8, kl_9, kl_10, kl_12, kl_14, kl_15, kl_16, kl_20, kl_31, kl_33, kl_48, kl_49, kl_50, kl_57, kl_59, kl_60, kl_62, kl_63, kl_98, kl_99, kl_103, kl_104, kl_126, kl_144, kl_310, kl_372, kl_100000, kl_1000000, kl_neg, kl_mm, kl_am, nI_add, kl_mul, kl_sub, kl_le, kl_lt, kl_eq, kl_eM, kl_Me, kl_ltM, kl_leM, kl_ck, kl_cj, kl_cb, kl_bit, nI_clamp, va_up_self, va_up_ne, pk_us, pk_un, if_pos, if_neg, eq_self, and_true, true_and, and_false, false_and, if_true, if_false, Bool.false_eq_true, a, b]
    · by_cases c : ch = 103
      · simp (disch := first | omega | assumption) only [kk_nm, Option.bind_some, kl_0, kl_1, kl_2, kl_3, kl_4, kl_5, kl_6, kl_7, kl_8, kl_9, kl_10, kl_12, kl_14, kl_15, kl_16, kl_20, kl_31, kl_33, kl_48, kl_49, kl_50, kl_57, kl_59, kl_60, kl_62, kl_63, kl_98, kl_99, kl_103, kl_104, kl_126, kl_144, kl_310, kl_372, kl_100000, kl_1000000, kl_neg, kl_mm, kl_am, nI_add, kl_mul, kl_sub, kl_le, kl_lt, kl_eq, kl_eM, kl_Me, kl_ltM, kl_leM, kl_ck, kl_cj, kl_cb, kl_bit, nI_clamp, va_up_self, va_up_ne, pk_us, pk_un, if_pos, if_neg, eq_self, and_true, true_and, and_false, false_and, if_true, if_false, Bool.false_eq_true, a, b, c]
      · by_cases d : ch = 104
        · simp (disch := first | omega | assumption) only [kk_nm, Option.bind_some, kl_0, kl_1, kl_2, kl_3, kl_4, kl_5, kl_6, kl_7, kl_8, kl_9, kl_10, kl_12, kl_14, kl_15, kl_16, kl_20, kl_31, kl_33, kl_48, kl_49, kl_50, kl_57, kl_59, kl_60, kl_62, kl_63, kl_98, kl_99, kl_103, kl_104, kl_126, kl_144, kl_310, kl_372, kl_100000, kl_1000000, kl_neg, kl_mm, kl_am, nI_add, kl_mul, kl_sub, kl_le, kl_lt, kl_eq, kl_eM, kl_Me, kl_ltM, kl_leM, kl_ck, kl_cj, kl_cb, kl_bit, nI_clamp, va_up_self, va_up_ne, pk_us, pk_un, if_pos, if_neg, eq_self, and_true, true_and, and_false, false_and, if_true, if_false, Bool.false_eq_true, a, b, c, d]
        · simp (disch := first | omega | assumption) only [kk_nm, Option.bind_some, kl_0, kl_1, kl_2, kl_3, kl_4, kl_5, kl_6, kl_7, kl_8, kl_9, kl_10, kl_12, kl_14, kl_15, kl_16, kl_20, kl_31, kl_33, kl_48, kl_49, kl_50, kl_57, kl_59, kl_60, kl_62, kl_63, kl_98, kl_99, kl_103, kl_104, kl_126, kl_144, kl_310, kl_372, kl_100000, kl_1000000, kl_neg, kl_mm, kl_am, nI_add, kl_mul, kl_sub, kl_le, kl_lt, kl_eq, kl_eM, kl_Me, kl_ltM, kl_leM, kl_ck, kl_cj, kl_cb, kl_bit, nI_clamp, va_up_self, va_up_ne, pk_us, pk_un, if_pos, if_neg, eq_self, and_true, true_and, and_false, false_and, if_true, if_false, Bool.false_eq_true, a, b, c, d]
theorem q3_shied {R : St1} {q : QT} {ch : Nat} (hR : RQ R q) (hq : WQ q) (hst : 4 ≤ q.2.2.2) (hc : ch < 128) : ∃ R', fX3_acceptsShied n R (nI ch) = some (nI (if aK ch < 4 ∧ q.2.2.1 < 2 ^ aK ch then 1 else 0), R') ∧ RQ R' (if aK ch < 4 ∧ q.2.2.1 < 2 ^ aK ch then (q.1, q.2.1, q.2.2.1 + 2 ^ aK ch, 5) else q) := by
  obtain ⟨h3, h012⟩ := hR
  obtain ⟨h0, h1, h2⟩ := h012 (by omega)
  have hm := hq.2.1
  have ek := q3_kindOf (n := n) hc
  have hk4 := aK_le ch
  by_cases c : aK ch < 4
  · rw [if_pos c] at ek
    have s1 := kl_shr (m := q.2.2.1) (by omega) c
    by_cases d : q.2.2.1 < 2 ^ aK ch
    · obtain ⟨o1, -⟩ := kl_orb (by omega) c d
      have cd : aK ch < 4 ∧ q.2.2.1 < 2 ^ aK ch := ⟨c, d⟩
      rw [if_pos cd, if_pos cd]
      refine ⟨va_up (va_up R 2 (fun _ => nI (q.2.2.1 + 2 ^ aK ch))) 3 (fun _ => nI 5), ?_, rfl, fun _ => ⟨?_, ?_, ?_⟩⟩
      · unfold fX3_acceptsShied
        simp (disch := first | omega | assumption) only [kk_nm, Option.bind_some, kl_0, kl_1, kl_2, kl_3, kl_4, kl_5, kl_6, kl_7, kl_8, kl_9, kl_10, kl_12, kl_14, kl_15, kl_16, kl_20, kl_31, kl_33, kl_48, kl_49, kl_50, kl_57, kl_59, kl_60, kl_62, kl_63, kl_98, kl_99, kl_103, kl_104, kl_126, kl_144, kl_310, kl_372, kl_100000, kl_1000000, kl_neg, kl_mm, kl_am, nI_add, kl_mul, kl_sub, kl_le, kl_lt, kl_eq, kl_eM, kl_Me, kl_ltM, kl_leM, kl_ck, kl_cj, kl_cb, kl_bit, nI_clamp, va_up_self, va_up_ne, pk_us, pk_un, if_pos, if_neg, eq_self, and_true, true_and, and_false, false_and, if_true, if_false, Bool.false_eq_true, ek, h2, s1, o1]
      · simp (disch := omega) only [va_up_ne]; exact h0
      · simp (disch := omega) only [va_up_ne]; exact h1
      · simp (disch := omega) only [va_up_ne, va_up_self]
    · have cd : ¬ (aK ch < 4 ∧ q.2.2.1 < 2 ^ aK ch) := fun h => d h.2
      rw [if_neg cd, if_neg cd]
      refine ⟨R, ?_, h3, h012⟩
      unfold fX3_acceptsShied
      simp (disch := first | omega | assumption) only [kk_nm, Option.bind_some, kl_0, kl_1, kl_2, kl_3, kl_4, kl_5, kl_6, kl_7, kl_8, kl_9, kl_10, kl_12, kl_14, kl_15, kl_16, kl_20, kl_31, kl_33, kl_48, kl_49, kl_50, kl_57, kl_59, kl_60, kl_62, kl_63, kl_98, kl_99, kl_103, kl_104, kl_126, kl_144, kl_310, kl_372, kl_100000, kl_1000000, kl_neg, kl_mm, kl_am, nI_add, kl_mul, kl_sub, kl_le, kl_lt, kl_eq, kl_eM, kl_Me, kl_ltM, kl_leM, kl_ck, kl_cj, kl_cb, kl_bit, nI_clamp, va_up_self, va_up_ne, pk_us, pk_un, if_pos, if_neg, eq_self, and_true, true_and, and_false, false_and, if_true, if_false, Bool.false_eq_true, ek, h2, s1, d]
  · rw [if_neg c] at ek
    have cd : ¬ (aK ch < 4 ∧ q.2.2.1 < 2 ^ aK ch) := fun h => c h.1
    rw [if_neg cd, if_neg cd]
    refine ⟨R, ?_, h3, h012⟩
    unfold fX3_acceptsShied
    simp (disch := first | omega | assumption) only [kk_nm, Option.bind_some, kl_0, kl_1, kl_2, kl_3, kl_4, kl_5, kl_6, kl_7, kl_8, kl_9, kl_10, kl_12, kl_14, kl_15, kl_16, kl_20, kl_31, kl_33, kl_48, kl_49, kl_50, kl_57, kl_59, kl_60, kl_62, kl_63, kl_98, kl_99, kl_103, kl_104, kl_126, kl_144, kl_310, kl_372, kl_100000, kl_1000000, kl_neg, kl_mm, kl_am, nI_add, kl_mul, kl_sub, kl_le, kl_lt, kl_eq, kl_eM, kl_Me, kl_ltM, kl_leM, kl_ck, kl_cj, kl_cb, kl_bit, nI_clamp, va_up_self, va_up_ne, pk_us, pk_un, if_pos, if_neg, eq_self, and_true, true_and, and_false, false_and, if_true, if_false, Bool.false_eq_true, ek]
theorem q3_accepts {R : St1} {q : QT} {ch : Nat} (hR : RQ R q) (hq : WQ q) (hc : ch < 128) : ∃ R', fX3_accepts n R (nI ch) = some (nI (if (aS q ch).isSome then 1 else 0), R') ∧ RQ R' ((aS q ch).getD q) := by
  have hRR := hR
  obtain ⟨h3, h012⟩ := hR
  have w3 := hq.2.2.1
  have hk := aK_le ch
  rcases (by omega : q.2.2.2 = 0 ∨ q.2.2.2 = 1 ∨ q.2.2.2 = 2 ∨ q.2.2.2 = 3 ∨ q.2.2.2 = 4 ∨ q.2.2.2 = 5) with c | c | c | c | c | c
  · have ea : aS q ch = if aK ch < 4 then some (aK ch, 0, 0, 1) else none := by unfold aS; rw [if_pos c]
    rw [c] at h3
    rw [ea]
    by_cases d : aK ch < 4
    · rw [if_pos d]
      refine ⟨va_up (va_up (va_up (va_up R 0 (fun _ => nI (aK ch))) 1 (fun _ => nI 0)) 2 (fun _ => nI 0)) 3 (fun _ => nI 1), ?_, rfl, fun _ => ⟨rfl, rfl, rfl⟩⟩
      unfold fX3_accepts fX3_acceptsKind
      rw [q3_kindOf hc, if_pos d]
      simp (disch := first | omega | assumption) only [kk_nm, Option.bind_some, kl_0, kl_1, kl_2, kl_3, kl_4, kl_5, kl_6, kl_7, kl_8, kl_9, kl_10, kl_12, kl_14, kl_15, kl_16, kl_20, kl_31, kl_33, kl_48, kl_49, kl_50, kl_57, kl_59, kl_60, kl_62, kl_63, kl_98, kl_99, kl_103, kl_104, kl_126, kl_144, kl_310, kl_372, kl_100000, kl_1000000, kl_neg, kl_mm, kl_am, nI_add, kl_mul, kl_sub, kl_le, kl_lt, kl_eq, kl_eM, kl_Me, kl_ltM, kl_leM, kl_ck, kl_cj, kl_cb, kl_bit, nI_clamp, va_up_self, va_up_ne, pk_us, pk_un, if_pos, if_neg, eq_self, and_true, true_and, and_false, false_and, if_true, if_false, Bool.false_eq_true, h3, Option.isSome_some]
    · rw [if_neg d]
      refine ⟨R, ?_, hRR⟩
      unfold fX3_accepts fX3_acceptsKind
      rw [q3_kindOf hc, if_neg d]
      simp (disch := first | omega | assumption) only [kk_nm, Option.bind_some, kl_0, kl_1, kl_2, kl_3, kl_4, kl_5, kl_6, kl_7, kl_8, kl_9, kl_10, kl_12, kl_14, kl_15, kl_16, kl_20, kl_31, kl_33, kl_48, kl_49, kl_50, kl_57, kl_59, kl_60, kl_62, kl_63, kl_98, kl_99, kl_103, kl_104, kl_126, kl_144, kl_310, kl_372, kl_100000, kl_1000000, kl_neg, kl_mm, kl_am, nI_add, kl_mul, kl_sub, kl_le, kl_lt, kl_eq, kl_eM, kl_Me, kl_ltM, kl_leM, kl_ck, kl_cj, kl_cb, kl_bit, nI_clamp, va_up_self, va_up_ne, pk_us, pk_un, if_pos, if_neg, eq_self, and_true, true_and, and_false, false_and, if_true, if_false, Bool.false_eq_true, h3, Option.isSome_none]
  · have ea : aS q ch = if 49 ≤ ch ∧ ch ≤ 57 then some (q.1, q.2.1 * 10 + (ch - 48), q.2.2.1, 2) else none := by unfold aS; rw [if_neg (by omega), if_pos c]
    obtain ⟨h0, h1, h2⟩ := h012 (by omega)
    have k1 := kl_d1 hc
    rw [c] at h3
    rw [ea]
    by_cases d : 49 ≤ ch ∧ ch ≤ 57
    · rw [if_pos d]
      refine ⟨va_up (va_up R 1 (fun _ => nI (q.2.1 * 10 + (ch - 48)))) 3 (fun _ => nI 2), ?_, rfl, fun _ => ⟨?_, rfl, ?_⟩⟩
      · unfold fX3_accepts fX3_acceptsDigit
        simp (disch := first | omega | assumption) only [kk_nm, Option.bind_some, kl_0, kl_1, kl_2, kl_3, kl_4, kl_5, kl_6, kl_7, kl_8, kl_9, kl_10, kl_12, kl_14, kl_15, kl_16, kl_20, kl_31, kl_33, kl_48, kl_49, kl_50, kl_57, kl_59, kl_60, kl_62, kl_63, kl_98, kl_99, kl_103, kl_104, kl_126, kl_144, kl_310, kl_372, kl_100000, kl_1000000, kl_neg, kl_mm, kl_am, nI_add, kl_mul, kl_sub, kl_le, kl_lt, kl_eq, kl_eM, kl_Me, kl_ltM, kl_leM, kl_ck, kl_cj, kl_cb, kl_bit, nI_clamp, va_up_self, va_up_ne, pk_us, pk_un, if_pos, if_neg, eq_self, and_true, true_and, and_false, false_and, if_true, if_false, Bool.false_eq_true, h3, h1, k1, Option.isSome_some]
      · simp (disch := omega) only [va_up_ne]; exact h0
      · simp (disch := omega) only [va_up_ne]; exact h2
    · rw [if_neg d]
      refine ⟨R, ?_, hRR⟩
      unfold fX3_accepts fX3_acceptsDigit
      by_cases e : ch < 49
      · simp (disch := first | omega | assumption) only [kk_nm, Option.bind_some, kl_0, kl_1, kl_2, kl_3, kl_4, kl_5, kl_6, kl_7, kl_8, kl_9, kl_10, kl_12, kl_14, kl_15, kl_16, kl_20, kl_31, kl_33, kl_48, kl_49, kl_50, kl_57, kl_59, kl_60, kl_62, kl_63, kl_98, kl_99, kl_103, kl_104, kl_126, kl_144, kl_310, kl_372, kl_100000, kl_1000000, kl_neg, kl_mm, kl_am, nI_add, kl_mul, kl_sub, kl_le, kl_lt, kl_eq, kl_eM, kl_Me, kl_ltM, kl_leM, kl_ck, kl_cj, kl_cb, kl_bit, nI_clamp, va_up_self, va_up_ne, pk_us, pk_un, if_pos, if_neg, eq_self, and_true, true_and, and_false, false_and, if_true, if_false, Bool.false_eq_true, h3, k1, Option.isSome_none]
      · simp (disch := first | omega | assumption) only [kk_nm, Option.bind_some, kl_0, kl_1, kl_2, kl_3, kl_4, kl_5, kl_6, kl_7, kl_8, kl_9, kl_10, kl_12, kl_14, kl_15, kl_16, kl_20, kl_31, kl_33, kl_48, kl_49, kl_50, kl_57, kl_59, kl_60, kl_62, kl_63, kl_98, kl_99, kl_103, kl_104, kl_126, kl_144, kl_310, kl_372, kl_100000, kl_1000000, kl_neg, kl_mm, kl_am, nI_add, kl_mul, kl_sub, kl_le, kl_lt, kl_eq, kl_eM, kl_Me, kl_ltM, kl_leM, kl_ck, kl_cj, kl_cb, kl_bit, nI_clamp, va_up_self, va_up_ne, pk_us, pk_un, if_pos, if_neg, eq_self, and_true, true_and, and_false, false_and, if_true, if_false, Bool.false_eq_true, h3, k1, Option.isSome_none]
  · have ea : aS q ch = if 48 ≤ ch ∧ ch ≤ 57 then some (q.1, q.2.1 * 10 + (ch - 48), q.2.2.1, 3) else none := by unfold aS; rw [if_neg (by omega), if_neg (by omega), if_pos c]
    obtain ⟨h0, h1, h2⟩ := h012 (by omega)
    have k1 := kl_d0 hc
    rw [c] at h3
    rw [ea]
    by_cases d : 48 ≤ ch ∧ ch ≤ 57
    · rw [if_pos d]
      refine ⟨va_up (va_up R 1 (fun _ => nI (q.2.1 * 10 + (ch - 48)))) 3 (fun _ => nI 3), ?_, rfl, fun _ => ⟨?_, rfl, ?_⟩⟩
      · unfold fX3_accepts fX3_acceptsDigit
        simp (disch := first | omega | assumption) only [kk_nm, Option.bind_some, kl_0, kl_1, kl_2, kl_3, kl_4, kl_5, kl_6, kl_7, kl_8, kl_9, kl_10, kl_12, kl_14, kl_15, kl_16, kl_20, kl_31, kl_33, kl_48, kl_49, kl_50, kl_57, kl_59, kl_60, kl_62, kl_63, kl_98, kl_99, kl_103, kl_104, kl_126, kl_144, kl_310, kl_372, kl_100000, kl_1000000, kl_neg, kl_mm, kl_am, nI_add, kl_mul, kl_sub, kl_le, kl_lt, kl_eq, kl_eM, kl_Me, kl_ltM, kl_leM, kl_ck, kl_cj, kl_cb, kl_bit, nI_clamp, va_up_self, va_up_ne, pk_us, pk_un, if_pos, if_neg, eq_self, and_true, true_and, and_false, false_and, if_true, if_false, Bool.false_eq_true, h3, h1, k1, Option.isSome_some]
      · simp (disch := omega) only [va_up_ne]; exact h0
      · simp (disch := omega) only [va_up_ne]; exact h2
    · rw [if_neg d]
      refine ⟨R, ?_, hRR⟩
      unfold fX3_accepts fX3_acceptsDigit
      by_cases e : ch < 48
      · simp (disch := first | omega | assumption) only [kk_nm, Option.bind_some, kl_0, kl_1, kl_2, kl_3, kl_4, kl_5, kl_6, kl_7, kl_8, kl_9, kl_10, kl_12, kl_14, kl_15, kl_16, kl_20, kl_31, kl_33, kl_48, kl_49, kl_50, kl_57, kl_59, kl_60, kl_62, kl_63, kl_98, kl_99, kl_103, kl_104, kl_126, kl_144, kl_310, kl_372, kl_100000, kl_1000000, kl_neg, kl_mm, kl_am, nI_add, kl_mul, kl_sub, kl_le, kl_lt, kl_eq, kl_eM, kl_Me, kl_ltM, kl_leM, kl_ck, kl_cj, kl_cb, kl_bit, nI_clamp, va_up_self, va_up_ne, pk_us, pk_un, if_pos, if_neg, eq_self, and_true, true_and, and_false, false_and, if_true, if_false, Bool.false_eq_true, h3, k1, Option.isSome_none]
      · simp (disch := first | omega | assumption) only [kk_nm, Option.bind_some, kl_0, kl_1, kl_2, kl_3, kl_4, kl_5, kl_6, kl_7, kl_8, kl_9, kl_10, kl_12, kl_14, kl_15, kl_16, kl_20, kl_31, kl_33, kl_48, kl_49, kl_50, kl_57, kl_59, kl_60, kl_62, kl_63, kl_98, kl_99, kl_103, kl_104, kl_126, kl_144, kl_310, kl_372, kl_100000, kl_1000000, kl_neg, kl_mm, kl_am, nI_add, kl_mul, kl_sub, kl_le, kl_lt, kl_eq, kl_eM, kl_Me, kl_ltM, kl_leM, kl_ck, kl_cj, kl_cb, kl_bit, nI_clamp, va_up_self, va_up_ne, pk_us, pk_un, if_pos, if_neg, eq_self, and_true, true_and, and_false, false_and, if_true, if_false, Bool.false_eq_true, h3, k1, Option.isSome_none]
  · have ea : aS q ch = if ch = 33 then (if q.1 = 1 then some (q.1, q.2.1, q.2.2.1, 4) else none) else if ch = 59 then some (q.1, q.2.1, q.2.2.1, 0) else none := by unfold aS; rw [if_neg (by omega), if_neg (by omega), if_neg (by omega), if_pos c]
    obtain ⟨h0, h1, h2⟩ := h012 (by omega)
    have w1 := hq.1
    rw [c] at h3
    rw [ea]
    by_cases d : ch = 33
    · by_cases e : q.1 = 1
      · rw [if_pos d, if_pos e]
        refine ⟨va_up R 3 (fun _ => nI 4), ?_, rfl, fun _ => ⟨h0, h1, h2⟩⟩
        unfold fX3_accepts
        simp (disch := first | omega | assumption) only [kk_nm, Option.bind_some, kl_0, kl_1, kl_2, kl_3, kl_4, kl_5, kl_6, kl_7, kl_8, kl_9, kl_10, kl_12, kl_14, kl_15, kl_16, kl_20, kl_31, kl_33, kl_48, kl_49, kl_50, kl_57, kl_59, kl_60, kl_62, kl_63, kl_98, kl_99, kl_103, kl_104, kl_126, kl_144, kl_310, kl_372, kl_100000, kl_1000000, kl_neg, kl_mm, kl_am, nI_add, kl_mul, kl_sub, kl_le, kl_lt, kl_eq, kl_eM, kl_Me, kl_ltM, kl_leM, kl_ck, kl_cj, kl_cb, kl_bit, nI_clamp, va_up_self, va_up_ne, pk_us, pk_un, if_pos, if_neg, eq_self, and_true, true_and, and_false, false_and, if_true, if_false, Bool.false_eq_true, h3, h0, d, e, Option.isSome_some]
      · rw [if_pos d, if_neg e]
        refine ⟨R, ?_, hRR⟩
        unfold fX3_accepts fX3_acceptsNextPart
        simp (disch := first | omega | assumption) only [kk_nm, Option.bind_some, kl_0, kl_1, kl_2, kl_3, kl_4, kl_5, kl_6, kl_7, kl_8, kl_9, kl_10, kl_12, kl_14, kl_15, kl_16, kl_20, kl_31, kl_33, kl_48, kl_49, kl_50, kl_57, kl_59, kl_60, kl_62, kl_63, kl_98, kl_99, kl_103, kl_104, kl_126, kl_144, kl_310, kl_372, kl_100000, kl_1000000, kl_neg, kl_mm, kl_am, nI_add, kl_mul, kl_sub, kl_le, kl_lt, kl_eq, kl_eM, kl_Me, kl_ltM, kl_leM, kl_ck, kl_cj, kl_cb, kl_bit, nI_clamp, va_up_self, va_up_ne, pk_us, pk_un, if_pos, if_neg, eq_self, and_true, true_and, and_false, false_and, if_true, if_false, Bool.false_eq_true, h3, h0, d, Option.isSome_none]
    · by_cases e : ch = 59
      · rw [if_neg d, if_pos e]
        refine ⟨va_up R 3 (fun _ => nI 0), ?_, rfl, fun h => absurd rfl h⟩
        unfold fX3_accepts fX3_acceptsNextPart
        simp (disch := first | omega | assumption) only [kk_nm, Option.bind_some, kl_0, kl_1, kl_2, kl_3, kl_4, kl_5, kl_6, kl_7, kl_8, kl_9, kl_10, kl_12, kl_14, kl_15, kl_16, kl_20, kl_31, kl_33, kl_48, kl_49, kl_50, kl_57, kl_59, kl_60, kl_62, kl_63, kl_98, kl_99, kl_103, kl_104, kl_126, kl_144, kl_310, kl_372, kl_100000, kl_1000000, kl_neg, kl_mm, kl_am, nI_add, kl_mul, kl_sub, kl_le, kl_lt, kl_eq, kl_eM, kl_Me, kl_ltM, kl_leM, kl_ck, kl_cj, kl_cb, kl_bit, nI_clamp, va_up_self, va_up_ne, pk_us, pk_un, if_pos, if_neg, eq_self, and_true, true_and, and_false, false_and, if_true, if_false, Bool.false_eq_true, h3, h0, e, Option.isSome_some]
      · rw [if_neg d, if_neg e]
        refine ⟨R, ?_, hRR⟩
        unfold fX3_accepts fX3_acceptsNextPart
        simp (disch := first | omega | assumption) only [kk_nm, Option.bind_some, kl_0, kl_1, kl_2, kl_3, kl_4, kl_5, kl_6, kl_7, kl_8, kl_9, kl_10, kl_12, kl_14, kl_15, kl_16, kl_20, kl_31, kl_33, kl_48, kl_49, kl_50, kl_57, kl_59, kl_60, kl_62, kl_63, kl_98, kl_99, kl_103, kl_104, kl_126, kl_144, kl_310, kl_372, kl_100000, kl_1000000, kl_neg, kl_mm, kl_am, nI_add, kl_mul, kl_sub, kl_le, kl_lt, kl_eq, kl_eM, kl_Me, kl_ltM, kl_leM, kl_ck, kl_cj, kl_cb, kl_bit, nI_clamp, va_up_self, va_up_ne, pk_us, pk_un, if_pos, if_neg, eq_self, and_true, true_and, and_false, false_and, if_true, if_false, Bool.false_eq_true, h3, h0, Option.isSome_none]
  · have ea : aS q ch = if aK ch < 4 ∧ q.2.2.1 < 2 ^ aK ch then some (q.1, q.2.1, q.2.2.1 + 2 ^ aK ch, 5) else none := by unfold aS; rw [if_neg (by omega), if_neg (by omega), if_neg (by omega), if_neg (by omega), if_pos c]
    obtain ⟨R', e1, hR'⟩ := q3_shied (n := n) hRR hq (by omega) hc
    rw [c] at h3
    refine ⟨R', ?_, ?_⟩
    · unfold fX3_accepts
      rw [e1, ea]
      by_cases d : aK ch < 4 ∧ q.2.2.1 < 2 ^ aK ch
      · rw [if_pos d, if_pos d]
        simp (disch := first | omega | assumption) only [kk_nm, Option.bind_some, kl_0, kl_1, kl_2, kl_3, kl_4, kl_5, kl_6, kl_7, kl_8, kl_9, kl_10, kl_12, kl_14, kl_15, kl_16, kl_20, kl_31, kl_33, kl_48, kl_49, kl_50, kl_57, kl_59, kl_60, kl_62, kl_63, kl_98, kl_99, kl_103, kl_104, kl_126, kl_144, kl_310, kl_372, kl_100000, kl_1000000, kl_neg, kl_mm, kl_am, nI_add, kl_mul, kl_sub, kl_le, kl_lt, kl_eq, kl_eM, kl_Me, kl_ltM, kl_leM, kl_ck, kl_cj, kl_cb, kl_bit, nI_clamp, va_up_self, va_up_ne, pk_us, pk_un, if_pos, if_neg, eq_self, and_true, true_and, and_false, false_and, if_true, if_false, Bool.false_eq_true, h3, Option.isSome_some]
      · rw [if_neg d, if_neg d]
        simp (disch := first | omega | assumption) only [kk_nm, Option.bind_some, kl_0, kl_1, kl_2, kl_3, kl_4, kl_5, kl_6, kl_7, kl_8, kl_9, kl_10, kl_12, kl_14, kl_15, kl_16, kl_20, kl_31, kl_33, kl_48, kl_49, kl_50, kl_57, kl_59, kl_60, kl_62, kl_63, kl_98, kl_99, kl_103, kl_104, kl_126, kl_144, kl_310, kl_372, kl_100000, kl_1000000, kl_neg, kl_mm, kl_am, nI_add, kl_mul, kl_sub, kl_le, kl_lt, kl_eq, kl_eM, kl_Me, kl_ltM, kl_leM, kl_ck, kl_cj, kl_cb, kl_bit, nI_clamp, va_up_self, va_up_ne, pk_us, pk_un, if_pos, if_neg, eq_self, and_true, true_and, and_false, false_and, if_true, if_false, Bool.false_eq_true, h3, Option.isSome_none]
    · rw [ea]
      by_cases d : aK ch < 4 ∧ q.2.2.1 < 2 ^ aK ch
      · rw [if_pos d] at hR' ⊢
        exact hR'
      · rw [if_neg d] at hR' ⊢
        exact hR'
  · have ea : aS q ch = if ch = 59 then some (q.1, q.2.1, q.2.2.1, 0) else if aK ch < 4 ∧ q.2.2.1 < 2 ^ aK ch then some (q.1, q.2.1, q.2.2.1 + 2 ^ aK ch, 5) else none := by unfold aS; rw [if_neg (by omega), if_neg (by omega), if_neg (by omega), if_neg (by omega), if_neg (by omega)]
    obtain ⟨R', e1, hR'⟩ := q3_shied (n := n) hRR hq (by omega) hc
    rw [c] at h3
    rw [ea]
    by_cases e : ch = 59
    · rw [if_pos e]
      refine ⟨va_up R 3 (fun _ => nI 0), ?_, rfl, fun h => absurd rfl h⟩
      unfold fX3_accepts fX3_acceptsNextPart
      simp (disch := first | omega | assumption) only [kk_nm, Option.bind_some, kl_0, kl_1, kl_2, kl_3, kl_4, kl_5, kl_6, kl_7, kl_8, kl_9, kl_10, kl_12, kl_14, kl_15, kl_16, kl_20, kl_31, kl_33, kl_48, kl_49, kl_50, kl_57, kl_59, kl_60, kl_62, kl_63, kl_98, kl_99, kl_103, kl_104, kl_126, kl_144, kl_310, kl_372, kl_100000, kl_1000000, kl_neg, kl_mm, kl_am, nI_add, kl_mul, kl_sub, kl_le, kl_lt, kl_eq, kl_eM, kl_Me, kl_ltM, kl_leM, kl_ck, kl_cj, kl_cb, kl_bit, nI_clamp, va_up_self, va_up_ne, pk_us, pk_un, if_pos, if_neg, eq_self, and_true, true_and, and_false, false_and, if_true, if_false, Bool.false_eq_true, h3, e, Option.isSome_some]
    · rw [if_neg e]
      refine ⟨R', ?_, ?_⟩
      · unfold fX3_accepts fX3_acceptsNextPart
        by_cases d : aK ch < 4 ∧ q.2.2.1 < 2 ^ aK ch
        · rw [if_pos d] at e1 ⊢
          simp (disch := first | omega | assumption) only [kk_nm, Option.bind_some, kl_0, kl_1, kl_2, kl_3, kl_4, kl_5, kl_6, kl_7, kl_8, kl_9, kl_10, kl_12, kl_14, kl_15, kl_16, kl_20, kl_31, kl_33, kl_48, kl_49, kl_50, kl_57, kl_59, kl_60, kl_62, kl_63, kl_98, kl_99, kl_103, kl_104, kl_126, kl_144, kl_310, kl_372, kl_100000, kl_1000000, kl_neg, kl_mm, kl_am, nI_add, kl_mul, kl_sub, kl_le, kl_lt, kl_eq, kl_eM, kl_Me, kl_ltM, kl_leM, kl_ck, kl_cj, kl_cb, kl_bit, nI_clamp, va_up_self, va_up_ne, pk_us, pk_un, if_pos, if_neg, eq_self, and_true, true_and, and_false, false_and, if_true, if_false, Bool.false_eq_true, h3, e1, Option.isSome_some]
        · rw [if_neg d] at e1 ⊢
          simp (disch := first | omega | assumption) only [kk_nm, Option.bind_some, kl_0, kl_1, kl_2, kl_3, kl_4, kl_5, kl_6, kl_7, kl_8, kl_9, kl_10, kl_12, kl_14, kl_15, kl_16, kl_20, kl_31, kl_33, kl_48, kl_49, kl_50, kl_57, kl_59, kl_60, kl_62, kl_63, kl_98, kl_99, kl_103, kl_104, kl_126, kl_144, kl_310, kl_372, kl_100000, kl_1000000, kl_neg, kl_mm, kl_am, nI_add, kl_mul, kl_sub, kl_le, kl_lt, kl_eq, kl_eM, kl_Me, kl_ltM, kl_leM, kl_ck, kl_cj, kl_cb, kl_bit, nI_clamp, va_up_self, va_up_ne, pk_us, pk_un, if_pos, if_neg, eq_self, and_true, true_and, and_false, false_and, if_true, if_false, Bool.false_eq_true, h3, e1, Option.isSome_none]
      · by_cases d : aK ch < 4 ∧ q.2.2.1 < 2 ^ aK ch
        · rw [if_pos d] at hR' ⊢
          exact hR'
        · rw [if_neg d] at hR' ⊢
          exact hR'
/-- how far the text is read -/
def EQ (t : Nat → Nat) (c e : Nat) (q : QT) : Prop := e ≤ c ∧ rq t e = some q ∧ (e < c → rq t (e + 1) = none)
theorem rq_none {t : Nat → Nat} {a : Nat} (h : rq t a = none) : ∀ b, a ≤ b → rq t b = none
  | 0, hb => by
    have : a = 0 := by omega
    rw [this] at h; exact h
  | b + 1, hb => by
    by_cases e : a = b + 1
    · rw [← e]; exact h
    · show (rq t b).bind _ = none
      rw [rq_none h b (by omega)]; rfl
theorem EQ_uniq {t : Nat → Nat} {c e e' : Nat} {q q' : QT} (h : EQ t c e q) (h' : EQ t c e' q') : e = e' ∧ q = q' := by
  obtain ⟨a1, a2, a3⟩ := h
  obtain ⟨b1, b2, b3⟩ := h'
  have : e = e' := by
    rcases Nat.lt_trichotomy e e' with h | h | h
    · have := rq_none (a3 (by omega)) e' (by omega)
      rw [b2] at this; cases this
    · exact h
    · have := rq_none (b3 (by omega)) e (by omega)
      rw [a2] at this; cases this
  subst this
  rw [a2] at b2
  exact ⟨rfl, Option.some.inj b2⟩
theorem q4_readBuffer {G : St2} {t : Nat → Nat} {c : Nat} (hn : 1000 ≤ n) (hl : G 0 6 0 = nI c) (hc : c ≤ 60) (ht : ∀ k, k < c → G 0 5 k = nI (t k) ∧ t k < 128) : ∃ e q G', fX4_readBuffer n G = some (nI e, G') ∧ EQ t c e q ∧ RQ (G' 4) q ∧ ∀ k, k ≠ 4 → G' k = G k := by
  obtain ⟨⟨x, G1⟩, e1, e, q, hx, hE, hR, hk⟩ := kl_while (body := fun (st : Int32 × St2) => fX4_readBuffer_b9 n st.1 st.2) (fun st => ∃ u q, u ≤ c ∧ st.1 = nI u ∧ rq t u = some q ∧ RQ (st.2 4) q ∧ ∀ k, k ≠ 4 → st.2 k = G k) (fun r => ∃ e q, r.1 = nI e ∧ EQ t c e q ∧ RQ (r.2 4) q ∧ ∀ k, k ≠ 4 → r.2 k = G k) (fun st => 60 - st.1.toNatClampNeg) (fun st hI => by
    obtain ⟨x, G1⟩ := st
    obtain ⟨u, q, hu, rfl, hq, hR, hk⟩ := hI
    dsimp only at hR hk ⊢
    have h0 := hk 0 (by omega)
    have l1 : G1 0 6 0 = nI c := by rw [h0]; exact hl
    by_cases d : u = c
    · right
      refine ⟨(nI c, G1), ?_, c, q, rfl, ⟨by omega, by rw [← d]; exact hq, fun h => by omega⟩, hR, hk⟩
      unfold fX4_readBuffer_b9
      simp (disch := first | omega | assumption) only [kk_nm, Option.bind_some, kl_0, kl_1, kl_2, kl_3, kl_4, kl_5, kl_6, kl_7, kl_8, kl_9, kl_10, kl_12, kl_14, kl_15, kl_16, kl_20, kl_31, kl_33, kl_48, kl_49, kl_50, kl_57, kl_59, kl_60, kl_62, kl_63, kl_98, kl_99, kl_103, kl_104, kl_126, kl_144, kl_310, kl_372, kl_100000, kl_1000000, kl_neg, kl_mm, kl_am, nI_add, kl_mul, kl_sub, kl_le, kl_lt, kl_eq, kl_eM, kl_Me, kl_ltM, kl_leM, kl_ck, kl_cj, kl_cb, kl_bit, nI_clamp, va_up_self, va_up_ne, pk_us, pk_un, if_pos, if_neg, eq_self, and_true, true_and, and_false, false_and, if_true, if_false, Bool.false_eq_true, l1]
    · obtain ⟨t1, t2⟩ := ht u (by omega)
      have t1' : G1 0 5 u = nI (t u) := by rw [h0]; exact t1
      obtain ⟨R', e2, hR'⟩ := q3_accepts (n := n) hR (rq_wq hq) t2
      have hs : rq t (u + 1) = aS q (t u) := by show (rq t u).bind _ = _; rw [hq]; rfl
      cases ha : aS q (t u) with
      | none =>
        right
        rw [ha] at e2 hR'
        have e2' : fX3_accepts n (G1 4) (nI (t u)) = some (nI 0, R') := e2
        refine ⟨(nI u, va_up G1 4 R'), ?_, u, q, rfl, ⟨hu, hq, fun _ => by rw [hs, ha]⟩, by dsimp only; rw [va_up_self]; exact hR', fun k k4 => by dsimp only; rw [va_up_ne _ _ k4]; exact hk k k4⟩
        unfold fX4_readBuffer_b9
        simp (disch := first | omega | assumption) only [kk_nm, Option.bind_some, kl_0, kl_1, kl_2, kl_3, kl_4, kl_5, kl_6, kl_7, kl_8, kl_9, kl_10, kl_12, kl_14, kl_15, kl_16, kl_20, kl_31, kl_33, kl_48, kl_49, kl_50, kl_57, kl_59, kl_60, kl_62, kl_63, kl_98, kl_99, kl_103, kl_104, kl_126, kl_144, kl_310, kl_372, kl_100000, kl_1000000, kl_neg, kl_mm, kl_am, nI_add, kl_mul, kl_sub, kl_le, kl_lt, kl_eq, kl_eM, kl_Me, kl_ltM, kl_leM, kl_ck, kl_cj, kl_cb, kl_bit, nI_clamp, va_up_self, va_up_ne, pk_us, pk_un, if_pos, if_neg, eq_self, and_true, true_and, and_false, false_and, if_true, if_false, Bool.false_eq_true, l1, t1', e2']
      | some q' =>
        left
        rw [ha] at e2 hR'
        have e2' : fX3_accepts n (G1 4) (nI (t u)) = some (nI 1, R') := e2
        refine ⟨(nI (u + 1), va_up G1 4 R'), ?_, ⟨u + 1, q', by omega, rfl, by rw [hs, ha], by dsimp only; rw [va_up_self]; exact hR', fun k k4 => by dsimp only; rw [va_up_ne _ _ k4]; exact hk k k4⟩, ?_⟩
        · unfold fX4_readBuffer_b9
          simp (disch := first | omega | assumption) only [kk_nm, Option.bind_some, kl_0, kl_1, kl_2, kl_3, kl_4, kl_5, kl_6, kl_7, kl_8, kl_9, kl_10, kl_12, kl_14, kl_15, kl_16, kl_20, kl_31, kl_33, kl_48, kl_49, kl_50, kl_57, kl_59, kl_60, kl_62, kl_63, kl_98, kl_99, kl_103, kl_104, kl_126, kl_144, kl_310, kl_372, kl_100000, kl_1000000, kl_neg, kl_mm, kl_am, nI_add, kl_mul, kl_sub, kl_le, kl_lt, kl_eq, kl_eM, kl_Me, kl_ltM, kl_leM, kl_ck, kl_cj, kl_cb, kl_bit, nI_clamp, va_up_self, va_up_ne, pk_us, pk_un, if_pos, if_neg, eq_self, and_true, true_and, and_false, false_and, if_true, if_false, Bool.false_eq_true, l1, t1', e2']
        · dsimp only
          rw [nI_clamp (by omega), nI_clamp (by omega)]
          omega) n (nI 0, va_up G 4 (va_up (G 4) 3 (fun _ => nI 0))) ⟨0, (0, 0, 0, 0), by omega, rfl, rfl, ⟨rfl, fun h => absurd rfl h⟩, fun k k4 => by dsimp only; rw [va_up_ne _ _ k4]⟩ (by dsimp only; rw [nI_clamp (by omega)]; omega)
  dsimp only at hx hR hk
  subst hx
  refine ⟨e, q, G1, ?_, hE, hR, hk⟩
  unfold fX4_readBuffer fX3_start
  simp (disch := first | omega | assumption) only [kk_nm, Option.bind_some, kl_0, kl_1, kl_2, kl_3, kl_4, kl_5, kl_6, kl_7, kl_8, kl_9, kl_10, kl_12, kl_14, kl_15, kl_16, kl_20, kl_31, kl_33, kl_48, kl_49, kl_50, kl_57, kl_59, kl_60, kl_62, kl_63, kl_98, kl_99, kl_103, kl_104, kl_126, kl_144, kl_310, kl_372, kl_100000, kl_1000000, kl_neg, kl_mm, kl_am, nI_add, kl_mul, kl_sub, kl_le, kl_lt, kl_eq, kl_eM, kl_Me, kl_ltM, kl_leM, kl_ck, kl_cj, kl_cb, kl_bit, nI_clamp, va_up_self, va_up_ne, pk_us, pk_un, if_pos, if_neg, eq_self, and_true, true_and, and_false, false_and, if_true, if_false, Bool.false_eq_true, e1]
end
