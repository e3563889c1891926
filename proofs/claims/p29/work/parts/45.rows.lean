/-! the reference's ways with a row; taking away, adding, copying -/
def gO (v : Nat) (s : Nat → Nat) : Nat → Nat := fun k => if k = 4 then s 4 - 1 else if 14 + 4 * v ≤ k ∧ k < 14 + 4 * (s 4 - 1) then s (k + 4) else s k
def pT (v a b c d : Nat) (s : Nat → Nat) : Nat → Nat := fun k => if k = 4 then s 4 + 1 else if k = 14 + 4 * v then a else if k = 15 + 4 * v then b else if k = 16 + 4 * v then c else if k = 17 + 4 * v then d else if 18 + 4 * v ≤ k ∧ k < 18 + 4 * s 4 then s (k - 4) else s k
theorem RM_up {f : Nat → Int32} {s : Nat → Nat} {i x : Nat} (hR : RM f s) : RM (upd f i (nI x)) (fun k => if k = i then x else s k) := by
  intro k hk
  unfold upd
  by_cases c : k = i
  · rw [if_pos c]; dsimp only; rw [if_pos c]
  · rw [if_neg c]; dsimp only; rw [if_neg c]; exact hR k hk
theorem RM_cg {f : Nat → Int32} {s t : Nat → Nat} (h : ∀ k, k < 62 → s k = t k) (hR : RM f s) : RM f t := fun k hk => by rw [hR k hk, h k hk]
section
variable {n : Nat} {f : Nat → Int32} {s : Nat → Nat}
theorem q5_goesOut {v : Nat} (hn : 1000 ≤ n) (hR : RM f s) (h4 : s 4 ≤ 12) (hv : v < s 4) : ∃ f', fX5_goesOut n f (nI v) = some f' ∧ RM f' (gO v s) := by
  have hR1 : RM (upd f 4 (nI (s 4 - 1))) (fun k => if k = 4 then s 4 - 1 else s k) := RM_up hR
  obtain ⟨f', e, hR'⟩ := kl_forI (body := fun (st : Int32 × (Nat → Int32)) => fX5_goesOut_b14 n st.1 st.2) (fun u st => 14 + 4 * v ≤ u ∧ st.1 = nI u ∧ RM st.2 (fun k => if k = 4 then s 4 - 1 else if 14 + 4 * v ≤ k ∧ k < u then s (k + 4) else s k)) (fun f' => RM f' (gO v s)) (14 + 4 * (s 4 - 1)) (fun u st hu hI => by
    obtain ⟨x1, g⟩ := st
    obtain ⟨hu0, rfl, hg⟩ := hI
    dsimp only at hg ⊢
    have r0 := hg.r
    refine ⟨(nI (u + 1), upd g u (nI (s (u + 4)))), ?_, by omega, rfl, RM_cg (fun k hk => ?_) (RM_up hg)⟩
    · unfold fX5_goesOut_b14
      simp (disch := first | omega | assumption) only [kk_nm, Option.bind_some, kl_0, kl_1, kl_2, kl_3, kl_4, kl_5, kl_6, kl_7, kl_8, kl_9, kl_10, kl_12, kl_14, kl_15, kl_16, kl_20, kl_31, kl_33, kl_48, kl_49, kl_50, kl_57, kl_59, kl_60, kl_62, kl_63, kl_98, kl_99, kl_103, kl_104, kl_126, kl_144, kl_310, kl_372, kl_100000, kl_1000000, kl_neg, kl_mm, kl_am, nI_add, kl_mul, kl_sub, kl_le, kl_lt, kl_eq, kl_eM, kl_Me, kl_ltM, kl_leM, kl_ck, kl_cj, kl_cb, kl_bit, nI_clamp, va_up_self, va_up_ne, pk_us, pk_un, if_pos, if_neg, eq_self, and_true, true_and, and_false, false_and, if_true, if_false, Bool.false_eq_true, r0]
    · by_cases c1 : k = u
      · rw [if_pos c1, if_neg (by omega), if_pos (by omega), c1]
      · rw [if_neg c1]
        by_cases c2 : k = 4
        · rw [if_pos c2, if_pos c2]
        · rw [if_neg c2, if_neg c2]
          by_cases c3 : 14 + 4 * v ≤ k ∧ k < u
          · rw [if_pos c3, if_pos (by omega)]
          · rw [if_neg c3, if_neg (by omega)]) (fun st hI => by
    obtain ⟨x1, g⟩ := st
    obtain ⟨hu0, rfl, hg⟩ := hI
    dsimp only at hg ⊢
    have r0 := hg.r
    refine ⟨g, ?_, hg⟩
    unfold fX5_goesOut_b14
    simp (disch := first | omega | assumption) only [kk_nm, Option.bind_some, kl_0, kl_1, kl_2, kl_3, kl_4, kl_5, kl_6, kl_7, kl_8, kl_9, kl_10, kl_12, kl_14, kl_15, kl_16, kl_20, kl_31, kl_33, kl_48, kl_49, kl_50, kl_57, kl_59, kl_60, kl_62, kl_63, kl_98, kl_99, kl_103, kl_104, kl_126, kl_144, kl_310, kl_372, kl_100000, kl_1000000, kl_neg, kl_mm, kl_am, nI_add, kl_mul, kl_sub, kl_le, kl_lt, kl_eq, kl_eM, kl_Me, kl_ltM, kl_leM, kl_ck, kl_cj, kl_cb, kl_bit, nI_clamp, va_up_self, va_up_ne, pk_us, pk_un, if_pos, if_neg, eq_self, and_true, true_and, and_false, false_and, if_true, if_false, Bool.false_eq_true, r0]) n (14 + 4 * v) (nI (14 + 4 * v), upd f 4 (nI (s 4 - 1))) (by omega) (by omega) ⟨by omega, rfl, RM_cg (fun k hk => by
      by_cases c : k = 4
      · rw [if_pos c, if_pos c]
      · rw [if_neg c, if_neg c, if_neg (by omega)]) hR1⟩
  refine ⟨f', ?_, hR'⟩
  unfold fX5_goesOut
  simp (disch := first | omega | assumption) only [kk_nm, Option.bind_some, kl_0, kl_1, kl_2, kl_3, kl_4, kl_5, kl_6, kl_7, kl_8, kl_9, kl_10, kl_12, kl_14, kl_15, kl_16, kl_20, kl_31, kl_33, kl_48, kl_49, kl_50, kl_57, kl_59, kl_60, kl_62, kl_63, kl_98, kl_99, kl_103, kl_104, kl_126, kl_144, kl_310, kl_372, kl_100000, kl_1000000, kl_neg, kl_mm, kl_am, nI_add, kl_mul, kl_sub, kl_le, kl_lt, kl_eq, kl_eM, kl_Me, kl_ltM, kl_leM, kl_ck, kl_cj, kl_cb, kl_bit, nI_clamp, va_up_self, va_up_ne, pk_us, pk_un, if_pos, if_neg, eq_self, and_true, true_and, and_false, false_and, if_true, if_false, Bool.false_eq_true, hR.r, e]
theorem q5_puts {v a b c d : Nat} (hn : 1000 ≤ n) (hR : RM f s) (h4 : s 4 ≤ 11) (hv : v ≤ s 4) : ∃ f', fX5_puts n f (nI v) (nI a) (nI b) (nI c) (nI d) = some f' ∧ RM f' (pT v a b c d s) := by
  obtain ⟨f', e, hR'⟩ := kl_while (body := fun (st : Int32 × (Nat → Int32)) => fX5_puts_b12 n (nI v) st.1 st.2) (fun st => ∃ u, 13 + 4 * v ≤ u ∧ u ≤ 13 + 4 * s 4 ∧ st.1 = nI u ∧ RM st.2 (fun k => if u + 5 ≤ k ∧ k < 18 + 4 * s 4 then s (k - 4) else s k)) (fun f' => RM f' (fun k => if 18 + 4 * v ≤ k ∧ k < 18 + 4 * s 4 then s (k - 4) else s k)) (fun st => st.1.toNatClampNeg) (fun st hI => by
    obtain ⟨x1, g⟩ := st
    obtain ⟨u, hu1, hu2, rfl, hg⟩ := hI
    dsimp only at hg ⊢
    have r0 := hg.r
    by_cases c1 : u < 14 + 4 * v
    · right
      have : u = 13 + 4 * v := by omega
      subst this
      refine ⟨g, ?_, RM_cg (fun k _ => by rw [(by omega : 13 + 4 * v + 5 = 18 + 4 * v)]) hg⟩
      unfold fX5_puts_b12
      simp (disch := first | omega | assumption) only [kk_nm, Option.bind_some, kl_0, kl_1, kl_2, kl_3, kl_4, kl_5, kl_6, kl_7, kl_8, kl_9, kl_10, kl_12, kl_14, kl_15, kl_16, kl_20, kl_31, kl_33, kl_48, kl_49, kl_50, kl_57, kl_59, kl_60, kl_62, kl_63, kl_98, kl_99, kl_103, kl_104, kl_126, kl_144, kl_310, kl_372, kl_100000, kl_1000000, kl_neg, kl_mm, kl_am, nI_add, kl_mul, kl_sub, kl_le, kl_lt, kl_eq, kl_eM, kl_Me, kl_ltM, kl_leM, kl_ck, kl_cj, kl_cb, kl_bit, nI_clamp, va_up_self, va_up_ne, pk_us, pk_un, if_pos, if_neg, eq_self, and_true, true_and, and_false, false_and, if_true, if_false, Bool.false_eq_true]
    · left
      refine ⟨(nI (u - 1), upd g (u + 4) (nI (s u))), ?_, ⟨u - 1, by omega, by omega, rfl, RM_cg (fun k hk => ?_) (RM_up hg)⟩, ?_⟩
      · unfold fX5_puts_b12
        simp (disch := first | omega | assumption) only [kk_nm, Option.bind_some, kl_0, kl_1, kl_2, kl_3, kl_4, kl_5, kl_6, kl_7, kl_8, kl_9, kl_10, kl_12, kl_14, kl_15, kl_16, kl_20, kl_31, kl_33, kl_48, kl_49, kl_50, kl_57, kl_59, kl_60, kl_62, kl_63, kl_98, kl_99, kl_103, kl_104, kl_126, kl_144, kl_310, kl_372, kl_100000, kl_1000000, kl_neg, kl_mm, kl_am, nI_add, kl_mul, kl_sub, kl_le, kl_lt, kl_eq, kl_eM, kl_Me, kl_ltM, kl_leM, kl_ck, kl_cj, kl_cb, kl_bit, nI_clamp, va_up_self, va_up_ne, pk_us, pk_un, if_pos, if_neg, eq_self, and_true, true_and, and_false, false_and, if_true, if_false, Bool.false_eq_true, r0]
      · by_cases c2 : k = u + 4
        · rw [if_pos c2, if_pos (by omega), c2]; congr 1
        · rw [if_neg c2]
          by_cases c3 : u + 5 ≤ k ∧ k < 18 + 4 * s 4
          · rw [if_pos c3, if_pos (by omega)]
          · rw [if_neg c3, if_neg (by omega)]
      · dsimp only
        rw [nI_clamp (by omega), nI_clamp (by omega)]
        omega) n (nI (13 + 4 * s 4), f) ⟨13 + 4 * s 4, by omega, by omega, rfl, RM_cg (fun k _ => by rw [if_neg (by omega)]) hR⟩ (by dsimp only; rw [nI_clamp (by omega)]; omega)
  have h0 := RM_up (i := 14 + 4 * v) (x := a) hR'
  have h1 := RM_up (i := 14 + 4 * v + 1) (x := b) h0
  have h2 := RM_up (i := 14 + 4 * v + 2) (x := c) h1
  have h3 := RM_up (i := 14 + 4 * v + 3) (x := d) h2
  have h4' := RM_up (i := 4) (x := s 4 + 1) h3
  refine ⟨_, ?_, RM_cg (fun k hk => ?_) h4'⟩
  · have e0 : 14 + 4 * s 4 - 1 = 13 + 4 * s 4 := by omega
    have e4 := hR'.r 4 (by omega)
    rw [if_neg (by omega)] at e4
    unfold fX5_puts
    simp (disch := first | omega | assumption) only [kk_nm, Option.bind_some, kl_0, kl_1, kl_2, kl_3, kl_4, kl_5, kl_6, kl_7, kl_8, kl_9, kl_10, kl_12, kl_14, kl_15, kl_16, kl_20, kl_31, kl_33, kl_48, kl_49, kl_50, kl_57, kl_59, kl_60, kl_62, kl_63, kl_98, kl_99, kl_103, kl_104, kl_126, kl_144, kl_310, kl_372, kl_100000, kl_1000000, kl_neg, kl_mm, kl_am, nI_add, kl_mul, kl_sub, kl_le, kl_lt, kl_eq, kl_eM, kl_Me, kl_ltM, kl_leM, kl_ck, kl_cj, kl_cb, kl_bit, nI_clamp, va_up_self, va_up_ne, pk_us, pk_un, if_pos, if_neg, eq_self, and_true, true_and, and_false, false_and, if_true, if_false, Bool.false_eq_true, hR.r, e0, e, e4]
  · unfold pT
    by_cases c0 : k = 4
    · rw [if_pos c0, if_pos c0]
    · rw [if_neg c0, if_neg c0]
      by_cases c1 : k = 14 + 4 * v + 3
      · rw [if_pos c1, if_neg (by omega), if_neg (by omega), if_neg (by omega), if_pos (by omega)]
      · rw [if_neg c1]
        by_cases c2 : k = 14 + 4 * v + 2
        · rw [if_pos c2, if_neg (by omega), if_neg (by omega), if_pos (by omega)]
        · rw [if_neg c2]
          by_cases c3 : k = 14 + 4 * v + 1
          · rw [if_pos c3, if_neg (by omega), if_pos (by omega)]
          · rw [if_neg c3]
            by_cases c4 : k = 14 + 4 * v
            · rw [if_pos c4, if_pos c4]
            · rw [if_neg c4, if_neg c4, if_neg (show ¬ k = 15 + 4 * v by omega), if_neg (show ¬ k = 16 + 4 * v by omega), if_neg (show ¬ k = 17 + 4 * v by omega)]
/-- moved: out, and in again -/
theorem pT_gO {v w : Nat} (h4 : s 4 ≤ 12) (hv : v < s 4) (hw : w < s 4) {k : Nat} (hk : k < 62) : pT w (s (14 + 4 * v)) (s (15 + 4 * v)) (s (16 + 4 * v)) (s (17 + 4 * v)) (gO v s) k = pS (mv v w) s k := by
  have g4 : gO v s 4 = s 4 - 1 := by unfold gO; rw [if_pos rfl]
  by_cases c0 : k < 14
  · rw [pS_lo c0]
    unfold pT
    by_cases c1 : k = 4
    · rw [if_pos c1, g4, c1]; omega
    · rw [if_neg c1, if_neg (by omega), if_neg (by omega), if_neg (by omega), if_neg (by omega), if_neg (by omega)]
      unfold gO
      rw [if_neg c1, if_neg (by omega)]
  · have e : k = 14 + 4 * ((k - 14) / 4) + (k - 14) % 4 := by omega
    have hr : (k - 14) % 4 < 4 := by omega
    generalize (k - 14) / 4 = q at e
    generalize (k - 14) % 4 = r at e hr
    subst e
    rw [pS_at hr]
    unfold pT
    rw [if_neg (by omega), g4]
    by_cases c1 : q = w
    · have m1 : mv v w q = v := by unfold mv; rw [if_pos c1]
      rw [m1]
      rcases (by omega : r = 0 ∨ r = 1 ∨ r = 2 ∨ r = 3) with rfl | rfl | rfl | rfl
      · rw [if_pos (by omega)]; congr 1
      · rw [if_neg (by omega), if_pos (by omega)]; congr 1; omega
      · rw [if_neg (by omega), if_neg (by omega), if_pos (by omega)]; congr 1; omega
      · rw [if_neg (by omega), if_neg (by omega), if_neg (by omega), if_pos (by omega)]; congr 1; omega
    · rw [if_neg (by omega), if_neg (by omega), if_neg (by omega), if_neg (by omega)]
      have gg : ∀ x, ¬ x = 4 → gO v s x = if 14 + 4 * v ≤ x ∧ x < 14 + 4 * (s 4 - 1) then s (x + 4) else s x := fun x hx => by unfold gO; rw [if_neg hx]
      by_cases c2 : 18 + 4 * w ≤ 14 + 4 * q + r ∧ 14 + 4 * q + r < 18 + 4 * (s 4 - 1)
      · rw [if_pos c2, gg _ (by omega)]
        by_cases c3 : w < q ∧ q ≤ v
        · have m1 : mv v w q = q - 1 := by unfold mv; rw [if_neg c1, if_neg (by omega), if_pos c3]
          rw [m1, if_neg (by omega)]; congr 1; omega
        · have m1 : mv v w q = q := by unfold mv; rw [if_neg c1, if_neg (by omega), if_neg c3]
          rw [m1, if_pos (by omega)]; congr 1; omega
      · rw [if_neg c2, gg _ (by omega)]
        by_cases c3 : v ≤ q ∧ q < w
        · have m1 : mv v w q = q + 1 := by unfold mv; rw [if_neg c1, if_pos c3]
          rw [m1, if_pos (by omega)]; congr 1; omega
        · have m1 : mv v w q = q := by unfold mv; rw [if_neg c1, if_neg c3, if_neg (by omega)]
          rw [m1, if_neg (by omega)]
theorem q5_moves {v w : Nat} (hn : 1000 ≤ n) (hR : RM f s) (h4 : s 4 ≤ 12) (hv : v < s 4) (hw : w < s 4) : ∃ f', fX5_moves n f (nI v) (nI w) = some f' ∧ RM f' (pS (mv v w) s) := by
  have o0 := q5_of0 (n := n) (p := v) hR (by omega)
  have o1 := q5_of1 (n := n) (p := v) hR (by omega)
  have o2 := q5_of2 (n := n) (p := v) hR (by omega)
  have o3 := q5_of3 (n := n) (p := v) hR (by omega)
  have g4 : gO v s 4 = s 4 - 1 := by unfold gO; rw [if_pos rfl]
  obtain ⟨f1, e1, hR1⟩ := q5_goesOut hn hR h4 hv
  obtain ⟨f2, e2, hR2⟩ := q5_puts (v := w) (a := s (14 + 4 * v)) (b := s (15 + 4 * v)) (c := s (16 + 4 * v)) (d := s (17 + 4 * v)) hn hR1 (by omega) (by omega)
  refine ⟨f2, ?_, RM_cg (fun k hk => pT_gO h4 hv hw hk) hR2⟩
  unfold fX5_moves
  simp (disch := first | omega | assumption) only [kk_nm, Option.bind_some, kl_0, kl_1, kl_2, kl_3, kl_4, kl_5, kl_6, kl_7, kl_8, kl_9, kl_10, kl_12, kl_14, kl_15, kl_16, kl_20, kl_31, kl_33, kl_48, kl_49, kl_50, kl_57, kl_59, kl_60, kl_62, kl_63, kl_98, kl_99, kl_103, kl_104, kl_126, kl_144, kl_310, kl_372, kl_100000, kl_1000000, kl_neg, kl_mm, kl_am, nI_add, kl_mul, kl_sub, kl_le, kl_lt, kl_eq, kl_eM, kl_Me, kl_ltM, kl_leM, kl_ck, kl_cj, kl_cb, kl_bit, nI_clamp, va_up_self, va_up_ne, pk_us, pk_un, if_pos, if_neg, eq_self, and_true, true_and, and_false, false_and, if_true, if_false, Bool.false_eq_true, o0, o1, o2, o3, e1, e2]
theorem q5_exchanges {i j : Nat} (hn : 1000 ≤ n) (hR : RM f s) (hi : i < 12) (hj : j < 12) : ∃ f', fX5_exchanges n f (nI i) (nI j) = some f' ∧ RM f' (pS (sw i j) s) := by
  obtain ⟨f', e, hR'⟩ := kl_forI (body := fun (st : Int32 × (Nat → Int32)) => fX5_exchanges_b2 n (nI i) (nI j) st.1 st.2) (fun r st => st.1 = nI r ∧ RM st.2 (fun k => if 14 ≤ k ∧ (k - 14) % 4 < r then pS (sw i j) s k else s k)) (fun f' => RM f' (pS (sw i j) s)) 4 (fun r st hr hI => by
    obtain ⟨x1, g⟩ := st
    obtain ⟨rfl, hg⟩ := hI
    dsimp only at hg ⊢
    have gi := hg.r (14 + 4 * i + r) (by omega)
    have gj := hg.r (14 + 4 * j + r) (by omega)
    rw [if_neg (by omega)] at gi gj
    refine ⟨(nI (r + 1), upd (upd g (14 + 4 * i + r) (nI (s (14 + 4 * j + r)))) (14 + 4 * j + r) (nI (s (14 + 4 * i + r)))), ?_, rfl, RM_cg (fun k hk => ?_) (RM_up (RM_up hg))⟩
    · unfold fX5_exchanges_b2 fX5_of
      simp (disch := first | omega | assumption) only [kk_nm, Option.bind_some, kl_0, kl_1, kl_2, kl_3, kl_4, kl_5, kl_6, kl_7, kl_8, kl_9, kl_10, kl_12, kl_14, kl_15, kl_16, kl_20, kl_31, kl_33, kl_48, kl_49, kl_50, kl_57, kl_59, kl_60, kl_62, kl_63, kl_98, kl_99, kl_103, kl_104, kl_126, kl_144, kl_310, kl_372, kl_100000, kl_1000000, kl_neg, kl_mm, kl_am, nI_add, kl_mul, kl_sub, kl_le, kl_lt, kl_eq, kl_eM, kl_Me, kl_ltM, kl_leM, kl_ck, kl_cj, kl_cb, kl_bit, nI_clamp, va_up_self, va_up_ne, pk_us, pk_un, if_pos, if_neg, eq_self, and_true, true_and, and_false, false_and, if_true, if_false, Bool.false_eq_true, gi, gj]
    · by_cases c0 : 14 ≤ k
      · have e : k = 14 + 4 * ((k - 14) / 4) + (k - 14) % 4 := by omega
        have ht : (k - 14) % 4 < 4 := by omega
        generalize (k - 14) / 4 = q at e
        generalize hm : (k - 14) % 4 = t at e ht
        subst e
        rw [pS_at ht]
        by_cases c1 : t = r
        · subst c1
          rw [if_pos (show 14 ≤ 14 + 4 * q + t ∧ t < t + 1 by omega)]
          by_cases b : q = j
          · rw [if_pos (show 14 + 4 * q + t = 14 + 4 * j + t by omega)]
            unfold sw
            by_cases a : q = i
            · rw [if_pos a]; congr 1; omega
            · rw [if_neg a, if_pos b]
          · rw [if_neg (show ¬ 14 + 4 * q + t = 14 + 4 * j + t by omega)]
            unfold sw
            by_cases a : q = i
            · rw [if_pos (show 14 + 4 * q + t = 14 + 4 * i + t by omega), if_pos a]
            · rw [if_neg (show ¬ 14 + 4 * q + t = 14 + 4 * i + t by omega), if_neg a, if_neg b, if_neg (show ¬ (14 ≤ 14 + 4 * q + t ∧ t < t) by omega)]
        · rw [if_neg (by omega), if_neg (by omega)]
          by_cases c2 : t < r
          · rw [if_pos (by omega), if_pos (by omega)]
          · rw [if_neg (by omega), if_neg (by omega)]
      · rw [if_neg (by omega), if_neg (by omega), if_neg (by omega), if_neg (by omega)]) (fun st hI => by
    obtain ⟨x1, g⟩ := st
    obtain ⟨rfl, hg⟩ := hI
    dsimp only at hg ⊢
    refine ⟨g, ?_, RM_cg (fun k hk => ?_) hg⟩
    · unfold fX5_exchanges_b2
      simp (disch := first | omega | assumption) only [kk_nm, Option.bind_some, kl_0, kl_1, kl_2, kl_3, kl_4, kl_5, kl_6, kl_7, kl_8, kl_9, kl_10, kl_12, kl_14, kl_15, kl_16, kl_20, kl_31, kl_33, kl_48, kl_49, kl_50, kl_57, kl_59, kl_60, kl_62, kl_63, kl_98, kl_99, kl_103, kl_104, kl_126, kl_144, kl_310, kl_372, kl_100000, kl_1000000, kl_neg, kl_mm, kl_am, nI_add, kl_mul, kl_sub, kl_le, kl_lt, kl_eq, kl_eM, kl_Me, kl_ltM, kl_leM, kl_ck, kl_cj, kl_cb, kl_bit, nI_clamp, va_up_self, va_up_ne, pk_us, pk_un, if_pos, if_neg, eq_self, and_true, true_and, and_false, false_and, if_true, if_false, Bool.false_eq_true]
    · by_cases c0 : 14 ≤ k
      · rw [if_pos (by omega)]
      · rw [if_neg (by omega), pS_lo (by omega)]) n 0 (nI 0, f) (by omega) (by omega) ⟨rfl, RM_cg (fun k _ => by rw [if_neg (by omega)]) hR⟩
  refine ⟨f', ?_, hR'⟩
  unfold fX5_exchanges
  simp (disch := first | omega | assumption) only [kk_nm, Option.bind_some, kl_0, kl_1, kl_2, kl_3, kl_4, kl_5, kl_6, kl_7, kl_8, kl_9, kl_10, kl_12, kl_14, kl_15, kl_16, kl_20, kl_31, kl_33, kl_48, kl_49, kl_50, kl_57, kl_59, kl_60, kl_62, kl_63, kl_98, kl_99, kl_103, kl_104, kl_126, kl_144, kl_310, kl_372, kl_100000, kl_1000000, kl_neg, kl_mm, kl_am, nI_add, kl_mul, kl_sub, kl_le, kl_lt, kl_eq, kl_eM, kl_Me, kl_ltM, kl_leM, kl_ck, kl_cj, kl_cb, kl_bit, nI_clamp, va_up_self, va_up_ne, pk_us, pk_un, if_pos, if_neg, eq_self, and_true, true_and, and_false, false_and, if_true, if_false, Bool.false_eq_true, e]
theorem q5_copies {h : Nat → Int32} {kx ky a c : Nat} (hn : 1000 ≤ n) (ha : a + 62 ≤ kx) (hx : kx ≤ 372) (hc : c + 62 ≤ ky) (hy : ky ≤ 372) : fX5_copies n kx ky f h (nI a) (nI c) = some (fun k => if c ≤ k ∧ k < c + 62 then f (a + (k - c)) else h k) := by
  have e : kk_it (fun (st : Int32 × (Nat → Int32)) => fX5_copies_b3 n f kx ky (nI a) (nI c) st.1 st.2) n (nI 0, h) = some (fun k => if c ≤ k ∧ k < c + 62 then f (a + (k - c)) else h k) := by
    have := kl_for (body := fun (st : Int32 × (Nat → Int32)) => fX5_copies_b3 n f kx ky (nI a) (nI c) st.1 st.2) (fun u => (nI u, fun k => if c ≤ k ∧ k < c + u then f (a + (k - c)) else h k)) (fun k => if c ≤ k ∧ k < c + 62 then f (a + (k - c)) else h k) 62 (fun u hu => by
      show fX5_copies_b3 n f kx ky (nI a) (nI c) (nI u) _ = _
      unfold fX5_copies_b3
      simp (disch := first | omega | assumption) only [kk_nm, Option.bind_some, kl_0, kl_1, kl_2, kl_3, kl_4, kl_5, kl_6, kl_7, kl_8, kl_9, kl_10, kl_12, kl_14, kl_15, kl_16, kl_20, kl_31, kl_33, kl_48, kl_49, kl_50, kl_57, kl_59, kl_60, kl_62, kl_63, kl_98, kl_99, kl_103, kl_104, kl_126, kl_144, kl_310, kl_372, kl_100000, kl_1000000, kl_neg, kl_mm, kl_am, nI_add, kl_mul, kl_sub, kl_le, kl_lt, kl_eq, kl_eM, kl_Me, kl_ltM, kl_leM, kl_ck, kl_cj, kl_cb, kl_bit, nI_clamp, va_up_self, va_up_ne, pk_us, pk_un, if_pos, if_neg, eq_self, and_true, true_and, and_false, false_and, if_true, if_false, Bool.false_eq_true]
      congr 3
      funext k
      unfold upd
      by_cases c1 : k = c + u
      · rw [if_pos c1, if_pos (by omega)]; congr 1; omega
      · rw [if_neg c1]
        by_cases c2 : c ≤ k ∧ k < c + u
        · dsimp only; rw [if_pos c2, if_pos (by omega)]
        · dsimp only; rw [if_neg c2, if_neg (by omega)]) (by
      show fX5_copies_b3 n f kx ky (nI a) (nI c) (nI 62) _ = _
      unfold fX5_copies_b3
      simp (disch := first | omega | assumption) only [kk_nm, Option.bind_some, kl_0, kl_1, kl_2, kl_3, kl_4, kl_5, kl_6, kl_7, kl_8, kl_9, kl_10, kl_12, kl_14, kl_15, kl_16, kl_20, kl_31, kl_33, kl_48, kl_49, kl_50, kl_57, kl_59, kl_60, kl_62, kl_63, kl_98, kl_99, kl_103, kl_104, kl_126, kl_144, kl_310, kl_372, kl_100000, kl_1000000, kl_neg, kl_mm, kl_am, nI_add, kl_mul, kl_sub, kl_le, kl_lt, kl_eq, kl_eM, kl_Me, kl_ltM, kl_leM, kl_ck, kl_cj, kl_cb, kl_bit, nI_clamp, va_up_self, va_up_ne, pk_us, pk_un, if_pos, if_neg, eq_self, and_true, true_and, and_false, false_and, if_true, if_false, Bool.false_eq_true]) n 0 (by omega) (by omega)
    have e0 : (fun k => if c ≤ k ∧ k < c + 0 then f (a + (k - c)) else h k) = h := by funext k; rw [if_neg (by omega)]
    rw [e0] at this
    exact this
  unfold fX5_copies
  simp (disch := first | omega | assumption) only [kk_nm, Option.bind_some, kl_0, kl_1, kl_2, kl_3, kl_4, kl_5, kl_6, kl_7, kl_8, kl_9, kl_10, kl_12, kl_14, kl_15, kl_16, kl_20, kl_31, kl_33, kl_48, kl_49, kl_50, kl_57, kl_59, kl_60, kl_62, kl_63, kl_98, kl_99, kl_103, kl_104, kl_126, kl_144, kl_310, kl_372, kl_100000, kl_1000000, kl_neg, kl_mm, kl_am, nI_add, kl_mul, kl_sub, kl_le, kl_lt, kl_eq, kl_eM, kl_Me, kl_ltM, kl_leM, kl_ck, kl_cj, kl_cb, kl_bit, nI_clamp, va_up_self, va_up_ne, pk_us, pk_un, if_pos, if_neg, eq_self, and_true, true_and, and_false, false_and, if_true, if_false, Bool.false_eq_true, e]
theorem q5_copy {h : Nat → Int32} (hn : 1000 ≤ n) (hR : RM f s) : ∃ f', fX5_copies n 62 62 f h 0 0 = some f' ∧ RM f' s := by
  refine ⟨_, q5_copies (a := 0) (c := 0) hn (by omega) (by omega) (by omega) (by omega), fun k hk => ?_⟩
  rw [if_pos (by omega)]
  rw [← hR k hk]; congr 1; omega
end
