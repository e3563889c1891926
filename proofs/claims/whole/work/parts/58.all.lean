/-! the whole text; its parts put -/
def khm (f : Nat → Int32) (i : Nat) (q : QT) : Prop := f (3 * i) = nI q.1 ∧ f (3 * i + 1) = nI q.2.1 ∧ f (3 * i + 2) = nI q.2.2.1
theorem nsm_mono {t : Nat → Nat} {a b : Nat} (h : a ≤ b) : nsm t a ≤ nsm t b := by
  induction b with
  | zero =>
    have : a = 0 := by omega
    rw [this]; exact Nat.le_refl _
  | succ b ih =>
    by_cases e : a = b + 1
    · rw [e]; exact Nat.le_refl _
    · have := ih (by omega)
      rw [nsm_succ]
      omega
theorem aS_59 {q : QT} (h : q.2.2.2 = 3 ∨ q.2.2.2 = 5) : aS q 59 = some (q.1, q.2.1, q.2.2.1, 0) := by
  unfold aS
  rcases h with h | h
  · rw [if_neg (by omega), if_neg (by omega), if_neg (by omega), if_pos h, if_neg (by omega), if_pos rfl]
  · rw [if_neg (by omega), if_neg (by omega), if_neg (by omega), if_neg (by omega), if_neg (by omega), if_pos rfl]
theorem aS_59n {q : QT} (h : (aS q 59).isSome = true) : q.2.2.2 = 3 ∨ 5 ≤ q.2.2.2 := by
  by_cases c3 : q.2.2.2 = 3
  · exact .inl c3
  · by_cases c5 : 5 ≤ q.2.2.2
    · exact .inr c5
    · have k59 : ¬ aK 59 < 4 := by decide
      have hn : aS q 59 = none := by
        unfold aS
        rcases (by omega : q.2.2.2 = 0 ∨ q.2.2.2 = 1 ∨ q.2.2.2 = 2 ∨ q.2.2.2 = 4) with c | c | c | c
        · rw [if_pos c, if_neg k59]
        · rw [if_neg (by omega), if_pos c, if_neg (by omega)]
        · rw [if_neg (by omega), if_neg (by omega), if_pos c, if_neg (by omega)]
        · rw [if_neg (by omega), if_neg (by omega), if_neg (by omega), if_neg (by omega), if_pos c, if_neg (fun h => k59 h.1)]
      rw [hn] at h; cases h
section
variable {n : Nat} {t : Nat → Nat} {c : Nat}
theorem q5_isText {M : St1} (hn : 1000 ≤ n) (h5 : M 5 0 = nI c) (hc : c ≤ 60) (ht : ∀ k, k < c → M 4 k = nI (t k) ∧ t k < 128) :
    ∃ r M' e q, fX5_isText n M = some (nI r, M') ∧ EQ t c e q ∧ (∀ j, j ≠ 7 → j ≠ 8 → j ≠ 9 → j ≠ 10 → M' j = M j) ∧
      ((r = 0 ∧ ¬ (e = c ∧ (q.2.2.2 = 3 ∨ q.2.2.2 = 5)) ∧ M' 8 0 = nI (if e < c then 1 else 0) ∧ M' 7 0 = nI e) ∨
       (r = 1 ∧ e = c ∧ (q.2.2.2 = 3 ∨ q.2.2.2 = 5) ∧ M' 10 0 = nI (nsm t c + 1) ∧ nsm t c ≤ 19 ∧ (∀ u, u < c → t u = 59 → ∀ q', rq t u = some q' → khm (M' 9) (nsm t u) q') ∧ khm (M' 9) (nsm t c) q)) := by
  obtain ⟨⟨x, M1⟩, e1, r, hx, e, q, hE, hfr, hcase⟩ := kl_while (body := fun (st : Int32 × St1) => fX5_isText_b17 n st.1 st.2) (fun st => ∃ a q b, st.1 = nI b ∧ b ≤ 1 ∧ st.2 7 0 = nI a ∧ a ≤ c ∧ rq t a = some q ∧ (∀ j, j ≠ 7 → j ≠ 8 → j ≠ 9 → j ≠ 10 → st.2 j = M j) ∧ (∀ u, u < a → t u = 59 → ∀ q', rq t u = some q' → khm (st.2 9) (nsm t u) q') ∧
      ((b = 1 ∧ q.2.2.2 = 0 ∧ st.2 10 0 = nI (nsm t a) ∧ 4 * nsm t a ≤ a) ∨ (b = 0 ∧ (q.2.2.2 = 3 ∨ q.2.2.2 = 5) ∧ st.2 10 0 = nI (nsm t a + 1) ∧ 4 * nsm t a ≤ a ∧ (a < c → aS q (t a) = none) ∧ khm (st.2 9) (nsm t a) q)))
    (fun st => ∃ r, st.1 = nI r ∧ ∃ e q, EQ t c e q ∧ (∀ j, j ≠ 7 → j ≠ 8 → j ≠ 9 → j ≠ 10 → st.2 j = M j) ∧
      ((r = 0 ∧ ¬ (e = c ∧ (q.2.2.2 = 3 ∨ q.2.2.2 = 5)) ∧ st.2 8 0 = nI (if e < c then 1 else 0) ∧ st.2 7 0 = nI e) ∨
       (r = 1 ∧ e = c ∧ (q.2.2.2 = 3 ∨ q.2.2.2 = 5) ∧ st.2 10 0 = nI (nsm t c + 1) ∧ nsm t c ≤ 19 ∧ (∀ u, u < c → t u = 59 → ∀ q', rq t u = some q' → khm (st.2 9) (nsm t u) q') ∧ khm (st.2 9) (nsm t c) q)))
    (fun st => 2 * (60 - (st.2 7 0).toNatClampNeg) + st.1.toNatClampNeg) (fun st hI => by
    obtain ⟨x, M1⟩ := st
    obtain ⟨a, q, b, rfl, hb1, h7, ha, hq, hfr, htold, hcase⟩ := hI
    dsimp only at h7 hfr htold hcase ⊢
    have h51 : M1 5 0 = nI c := by rw [hfr 5 (by omega) (by omega) (by omega) (by omega)]; exact h5
    have ht1 : ∀ k, k < c → M1 4 k = nI (t k) ∧ t k < 128 := by rw [hfr 4 (by omega) (by omega) (by omega) (by omega)]; exact ht
    rcases hcase with ⟨rfl, hst, h10, h4⟩ | ⟨rfl, hst, h10, h4, hno, hkh⟩
    · obtain ⟨r, M2, p, q2, e2, hap, hpc, hqp, h72, hfr2, h59, hcs⟩ := q5_isPart (n := n) hn h51 hc ht1 h7 ha h10 (by omega) hq hst
      have hns : nsm t p = nsm t a := nsm_eq hap h59
      have hfr3 : ∀ j, j ≠ 7 → j ≠ 8 → j ≠ 9 → j ≠ 10 → M2 j = M j := fun j j7 j8 j9 j10 => by rw [hfr2 j j7 j8 j9]; exact hfr j j7 j8 j9 j10
      have hsu : ∀ ch, t p = ch → rq t (p + 1) = aS q2 ch := fun ch hh => by show (rq t p).bind _ = _; rw [hqp, ← hh]; rfl
      rcases hcs with ⟨rfl, n3, n5, h8, hno⟩ | ⟨rfl, hp3, hst2, hno, k0, k1, k2, kx⟩
      · right
        refine ⟨(nI 0, M2), ?_, 0, rfl, p, q2, ⟨hpc, hqp, fun hp => by rw [hsu _ rfl]; exact hno hp⟩, hfr3, .inl ⟨rfl, fun h => by rcases h.2 with h | h <;> omega, h8, h72⟩⟩
        unfold fX5_isText_b17
        simp (disch := first | omega | assumption) only [kk_nm, Option.bind_some, kl_0, kl_1, kl_2, kl_3, kl_4, kl_5, kl_6, kl_7, kl_8, kl_9, kl_10, kl_12, kl_14, kl_15, kl_16, kl_20, kl_31, kl_33, kl_48, kl_49, kl_50, kl_57, kl_59, kl_60, kl_62, kl_63, kl_98, kl_99, kl_103, kl_104, kl_126, kl_144, kl_310, kl_372, kl_100000, kl_1000000, kl_neg, kl_mm, kl_am, nI_add, kl_mul, kl_sub, kl_le, kl_lt, kl_eq, kl_eM, kl_Me, kl_ltM, kl_leM, kl_ck, kl_cj, kl_cb, kl_bit, nI_clamp, va_up_self, va_up_ne, pk_us, pk_un, if_pos, if_neg, eq_self, and_true, true_and, and_false, false_and, if_true, if_false, Bool.false_eq_true, e2]
      · have h102 : M2 10 0 = nI (nsm t a) := by rw [hfr2 10 (by omega) (by omega) (by omega)]; exact h10
        have h52 : M2 5 0 = nI c := by rw [hfr3 5 (by omega) (by omega) (by omega) (by omega)]; exact h5
        have ht2 : ∀ k, k < c → M2 4 k = nI (t k) ∧ t k < 128 := by rw [hfr3 4 (by omega) (by omega) (by omega) (by omega)]; exact ht
        have hold : ∀ u, u < p → t u = 59 → ∀ q', rq t u = some q' → khm (M2 9) (nsm t u) q' := by
          intro u hu hu59 q' hq'
          by_cases d : u < a
          · have h1 := htold u d hu59 q' hq'
            have h2 : nsm t u + 1 ≤ nsm t a := by
              have h3 := nsm_mono (t := t) (a := u + 1) (b := a) (by omega)
              rw [nsm_succ, if_pos hu59] at h3
              exact h3
            obtain ⟨x0, x1, x2⟩ := h1
            exact ⟨by rw [kx _ (by omega)]; exact x0, by rw [kx _ (by omega)]; exact x1, by rw [kx _ (by omega)]; exact x2⟩
          · exact absurd hu59 (h59 u (by omega) hu)
        have hat := q5_isAt (n := n) (M := va_up M2 10 (fun _ => nI (nsm t a + 1))) (t := t) (c := c) (a := p) (x := 59) (y := 59) h52 hc ht2 h72 hpc (by omega) (by omega)
        left
        by_cases d : p < c ∧ 59 ≤ t p ∧ t p ≤ 59
        · rw [if_pos d] at hat
          have d59 : t p = 59 := by omega
          refine ⟨(nI 1, va_up (va_up M2 10 (fun _ => nI (nsm t a + 1))) 7 (fun _ => nI (p + 1))), ?_, ⟨p + 1, (q2.1, q2.2.1, q2.2.2.1, 0), 1, rfl, by omega, rfl, by omega, by rw [hsu 59 d59, aS_59 hst2], fun j j7 j8 j9 j10 => by dsimp only; rw [va_up_ne _ _ j7, va_up_ne _ _ j10]; exact hfr3 j j7 j8 j9 j10, fun u hu hu59 q' hq' => ?_, .inl ⟨rfl, rfl, ?_, ?_⟩⟩, ?_⟩
          · unfold fX5_isText_b17
            simp (disch := first | omega | assumption) only [kk_nm, Option.bind_some, kl_0, kl_1, kl_2, kl_3, kl_4, kl_5, kl_6, kl_7, kl_8, kl_9, kl_10, kl_12, kl_14, kl_15, kl_16, kl_20, kl_31, kl_33, kl_48, kl_49, kl_50, kl_57, kl_59, kl_60, kl_62, kl_63, kl_98, kl_99, kl_103, kl_104, kl_126, kl_144, kl_310, kl_372, kl_100000, kl_1000000, kl_neg, kl_mm, kl_am, nI_add, kl_mul, kl_sub, kl_le, kl_lt, kl_eq, kl_eM, kl_Me, kl_ltM, kl_leM, kl_ck, kl_cj, kl_cb, kl_bit, nI_clamp, va_up_self, va_up_ne, pk_us, pk_un, if_pos, if_neg, eq_self, and_true, true_and, and_false, false_and, if_true, if_false, Bool.false_eq_true, e2, h102, hat, h72]
          · dsimp only
            rw [va_up_ne _ _ (by omega), va_up_ne _ _ (by omega)]
            by_cases d2 : u = p
            · subst d2
              rw [hqp] at hq'
              cases hq'
              rw [hns]
              exact ⟨k0, k1, k2⟩
            · exact hold u (by omega) hu59 q' hq'
          · dsimp only
            rw [va_up_ne _ _ (by omega), va_up_self, nsm_succ, if_pos d59, hns]
          · rw [nsm_succ, if_pos d59, hns]; omega
          · dsimp only
            rw [va_up_self, h7, nI_clamp (by omega), nI_clamp (by omega), nI_clamp (by omega)]
            omega
        · rw [if_neg d] at hat
          refine ⟨(nI 0, va_up (va_up M2 10 (fun _ => nI (nsm t a + 1))) 7 (fun _ => nI p)), ?_, ⟨p, q2, 0, rfl, by omega, rfl, hpc, hqp, fun j j7 j8 j9 j10 => by dsimp only; rw [va_up_ne _ _ j7, va_up_ne _ _ j10]; exact hfr3 j j7 j8 j9 j10, fun u hu hu59 q' hq' => ?_, .inr ⟨rfl, hst2, ?_, ?_, fun hp => hno hp (fun h => d ⟨hp, by omega, by omega⟩), ?_⟩⟩, ?_⟩
          · unfold fX5_isText_b17
            simp (disch := first | omega | assumption) only [kk_nm, Option.bind_some, kl_0, kl_1, kl_2, kl_3, kl_4, kl_5, kl_6, kl_7, kl_8, kl_9, kl_10, kl_12, kl_14, kl_15, kl_16, kl_20, kl_31, kl_33, kl_48, kl_49, kl_50, kl_57, kl_59, kl_60, kl_62, kl_63, kl_98, kl_99, kl_103, kl_104, kl_126, kl_144, kl_310, kl_372, kl_100000, kl_1000000, kl_neg, kl_mm, kl_am, nI_add, kl_mul, kl_sub, kl_le, kl_lt, kl_eq, kl_eM, kl_Me, kl_ltM, kl_leM, kl_ck, kl_cj, kl_cb, kl_bit, nI_clamp, va_up_self, va_up_ne, pk_us, pk_un, if_pos, if_neg, eq_self, and_true, true_and, and_false, false_and, if_true, if_false, Bool.false_eq_true, e2, h102, hat, h72, Nat.add_zero]
          · dsimp only
            rw [va_up_ne _ _ (by omega), va_up_ne _ _ (by omega)]
            exact hold u hu hu59 q' hq'
          · dsimp only
            rw [va_up_ne _ _ (by omega), va_up_self, hns]
          · rw [hns]; omega
          · dsimp only
            rw [va_up_ne _ _ (by omega), va_up_ne _ _ (by omega), hns]
            exact ⟨k0, k1, k2⟩
          · dsimp only
            rw [va_up_self, h7, nI_clamp (by omega), nI_clamp (by omega), nI_clamp (by omega), nI_clamp (by omega)]
            omega
    · right
      have hE : EQ t c a q := ⟨ha, hq, fun hp => by show (rq t a).bind _ = _; rw [hq]; exact hno hp⟩
      by_cases d : a < c
      · refine ⟨(nI 0, va_up M1 8 (fun _ => nI 1)), ?_, 0, rfl, a, q, hE, fun j j7 j8 j9 j10 => by dsimp only; rw [va_up_ne _ _ j8]; exact hfr j j7 j8 j9 j10, .inl ⟨rfl, fun h => by omega, by rw [if_pos d]; rfl, h7⟩⟩
        unfold fX5_isText_b17
        simp (disch := first | omega | assumption) only [kk_nm, Option.bind_some, kl_0, kl_1, kl_2, kl_3, kl_4, kl_5, kl_6, kl_7, kl_8, kl_9, kl_10, kl_12, kl_14, kl_15, kl_16, kl_20, kl_31, kl_33, kl_48, kl_49, kl_50, kl_57, kl_59, kl_60, kl_62, kl_63, kl_98, kl_99, kl_103, kl_104, kl_126, kl_144, kl_310, kl_372, kl_100000, kl_1000000, kl_neg, kl_mm, kl_am, nI_add, kl_mul, kl_sub, kl_le, kl_lt, kl_eq, kl_eM, kl_Me, kl_ltM, kl_leM, kl_ck, kl_cj, kl_cb, kl_bit, nI_clamp, va_up_self, va_up_ne, pk_us, pk_un, if_pos, if_neg, eq_self, and_true, true_and, and_false, false_and, if_true, if_false, Bool.false_eq_true, h51, h7]
      · have : a = c := by omega
        subst this
        refine ⟨(nI 1, va_up M1 8 (fun _ => nI 0)), ?_, 1, rfl, a, q, hE, fun j j7 j8 j9 j10 => by dsimp only; rw [va_up_ne _ _ j8]; exact hfr j j7 j8 j9 j10, .inr ⟨rfl, rfl, hst, h10, by omega, htold, hkh⟩⟩
        unfold fX5_isText_b17
        simp (disch := first | omega | assumption) only [kk_nm, Option.bind_some, kl_0, kl_1, kl_2, kl_3, kl_4, kl_5, kl_6, kl_7, kl_8, kl_9, kl_10, kl_12, kl_14, kl_15, kl_16, kl_20, kl_31, kl_33, kl_48, kl_49, kl_50, kl_57, kl_59, kl_60, kl_62, kl_63, kl_98, kl_99, kl_103, kl_104, kl_126, kl_144, kl_310, kl_372, kl_100000, kl_1000000, kl_neg, kl_mm, kl_am, nI_add, kl_mul, kl_sub, kl_le, kl_lt, kl_eq, kl_eM, kl_Me, kl_ltM, kl_leM, kl_ck, kl_cj, kl_cb, kl_bit, nI_clamp, va_up_self, va_up_ne, pk_us, pk_un, if_pos, if_neg, eq_self, and_true, true_and, and_false, false_and, if_true, if_false, Bool.false_eq_true, h51, h7]) n (nI 1, va_up (va_up (va_up M 7 (fun _ => nI 0)) 10 (fun _ => nI 0)) 8 (fun _ => nI 0)) ⟨0, (0, 0, 0, 0), 1, rfl, by omega, rfl, by omega, rfl, fun j j7 j8 j9 j10 => by dsimp only; rw [va_up_ne _ _ j8, va_up_ne _ _ j10, va_up_ne _ _ j7], fun u hu => by omega, .inl ⟨rfl, rfl, rfl, by show 4 * 0 ≤ 0; omega⟩⟩ (by
      have e7 : (nI 1, va_up (va_up (va_up M 7 (fun _ => nI 0)) 10 (fun _ => nI 0)) 8 (fun _ => nI 0)).2 7 0 = nI 0 := rfl
      rw [e7]
      dsimp only
      rw [nI_clamp (by omega), nI_clamp (by omega)]
      omega)
  dsimp only at hx hfr hcase
  subst hx
  refine ⟨r, M1, e, q, ?_, hE, hfr, hcase⟩
  unfold fX5_isText
  simp (disch := first | omega | assumption) only [kk_nm, Option.bind_some, kl_0, kl_1, kl_2, kl_3, kl_4, kl_5, kl_6, kl_7, kl_8, kl_9, kl_10, kl_12, kl_14, kl_15, kl_16, kl_20, kl_31, kl_33, kl_48, kl_49, kl_50, kl_57, kl_59, kl_60, kl_62, kl_63, kl_98, kl_99, kl_103, kl_104, kl_126, kl_144, kl_310, kl_372, kl_100000, kl_1000000, kl_neg, kl_mm, kl_am, nI_add, kl_mul, kl_sub, kl_le, kl_lt, kl_eq, kl_eM, kl_Me, kl_ltM, kl_leM, kl_ck, kl_cj, kl_cb, kl_bit, nI_clamp, va_up_self, va_up_ne, pk_us, pk_un, if_pos, if_neg, eq_self, and_true, true_and, and_false, false_and, if_true, if_false, Bool.false_eq_true, e1]
/-- the parts put last, one after the other -/
def aSt (pk : Nat → QT) (s : Nat → Nat) : Nat → Nat → Nat
  | 0 => s
  | j + 1 => pT (aSt pk s j 4) (pk j).1 (pk j).2.1 (pk j).2.2.1 0 (aSt pk s j)
theorem aSt_4 (pk : Nat → QT) (s : Nat → Nat) : ∀ j, aSt pk s j 4 = s 4 + j
  | 0 => rfl
  | j + 1 => by
    show pT _ _ _ _ _ _ 4 = _
    rw [pT_4, aSt_4 pk s j]; omega
theorem aSt_wf {pk : Nat → QT} {s : Nat → Nat} (hW : WF s) : ∀ j, s 4 + j ≤ 12 → (∀ i, i < j → WQ (pk i) ∧ 3 ≤ (pk i).2.2.2) → WF (aSt pk s j)
  | 0, _, _ => hW
  | j + 1, h, hp => by
    obtain ⟨h1, h2⟩ := hp j (by omega)
    have h4 := aSt_4 pk s j
    have h6 := h1.2.2.2.2.2.1 h2
    exact WF_pT (aSt_wf hW j (by omega) (fun i hi => hp i (by omega))) (by omega) h1.1 h6.1 h6.2 h1.2.1 (by omega) (by omega)
theorem q4_partsIn {G : St2} (hn : 1000 ≤ n) (hl : G 0 6 0 = nI c) (hc : c ≤ 60) (ht : ∀ k, k < c → G 0 5 k = nI (t k) ∧ t k < 128) : fX4_partsInBuffer n G = some (nI (nsm t c + 1)) := by
  have e : kk_it (fun (st : Int32 × Int32) => fX4_partsInBuffer_b4 n G st.1 st.2) n (nI 1, nI 0) = some (nI (nsm t c + 1)) := by
    have h1 := kl_for (body := fun (st : Int32 × Int32) => fX4_partsInBuffer_b4 n G st.1 st.2) (fun k => (nI (nsm t k + 1), nI k)) (nI (nsm t c + 1)) c (fun k hk => by
      obtain ⟨t1, t2⟩ := ht k hk
      show fX4_partsInBuffer_b4 n G (nI (nsm t k + 1)) (nI k) = some (.inl (nI (nsm t (k + 1) + 1), nI (k + 1)))
      rw [nsm_succ]
      unfold fX4_partsInBuffer_b4
      by_cases d : t k = 59
      · rw [if_pos d]
        simp (disch := first | omega | assumption) only [kk_nm, Option.bind_some, kl_0, kl_1, kl_2, kl_3, kl_4, kl_5, kl_6, kl_7, kl_8, kl_9, kl_10, kl_12, kl_14, kl_15, kl_16, kl_20, kl_31, kl_33, kl_48, kl_49, kl_50, kl_57, kl_59, kl_60, kl_62, kl_63, kl_98, kl_99, kl_103, kl_104, kl_126, kl_144, kl_310, kl_372, kl_100000, kl_1000000, kl_neg, kl_mm, kl_am, nI_add, kl_mul, kl_sub, kl_le, kl_lt, kl_eq, kl_eM, kl_Me, kl_ltM, kl_leM, kl_ck, kl_cj, kl_cb, kl_bit, nI_clamp, va_up_self, va_up_ne, pk_us, pk_un, if_pos, if_neg, eq_self, and_true, true_and, and_false, false_and, if_true, if_false, Bool.false_eq_true, hl, t1, d]
      · rw [if_neg d]
        simp (disch := first | omega | assumption) only [kk_nm, Option.bind_some, kl_0, kl_1, kl_2, kl_3, kl_4, kl_5, kl_6, kl_7, kl_8, kl_9, kl_10, kl_12, kl_14, kl_15, kl_16, kl_20, kl_31, kl_33, kl_48, kl_49, kl_50, kl_57, kl_59, kl_60, kl_62, kl_63, kl_98, kl_99, kl_103, kl_104, kl_126, kl_144, kl_310, kl_372, kl_100000, kl_1000000, kl_neg, kl_mm, kl_am, nI_add, kl_mul, kl_sub, kl_le, kl_lt, kl_eq, kl_eM, kl_Me, kl_ltM, kl_leM, kl_ck, kl_cj, kl_cb, kl_bit, nI_clamp, va_up_self, va_up_ne, pk_us, pk_un, if_pos, if_neg, eq_self, and_true, true_and, and_false, false_and, if_true, if_false, Bool.false_eq_true, hl, t1, Nat.add_zero]) (by
      show fX4_partsInBuffer_b4 n G (nI _) (nI c) = _
      unfold fX4_partsInBuffer_b4
      simp (disch := first | omega | assumption) only [kk_nm, Option.bind_some, kl_0, kl_1, kl_2, kl_3, kl_4, kl_5, kl_6, kl_7, kl_8, kl_9, kl_10, kl_12, kl_14, kl_15, kl_16, kl_20, kl_31, kl_33, kl_48, kl_49, kl_50, kl_57, kl_59, kl_60, kl_62, kl_63, kl_98, kl_99, kl_103, kl_104, kl_126, kl_144, kl_310, kl_372, kl_100000, kl_1000000, kl_neg, kl_mm, kl_am, nI_add, kl_mul, kl_sub, kl_le, kl_lt, kl_eq, kl_eM, kl_Me, kl_ltM, kl_leM, kl_ck, kl_cj, kl_cb, kl_bit, nI_clamp, va_up_self, va_up_ne, pk_us, pk_un, if_pos, if_neg, eq_self, and_true, true_and, and_false, false_and, if_true, if_false, Bool.false_eq_true, hl]) n 0 (by omega) (by omega)
    exact h1
  unfold fX4_partsInBuffer
  simp (disch := first | omega | assumption) only [kk_nm, Option.bind_some, kl_0, kl_1, kl_2, kl_3, kl_4, kl_5, kl_6, kl_7, kl_8, kl_9, kl_10, kl_12, kl_14, kl_15, kl_16, kl_20, kl_31, kl_33, kl_48, kl_49, kl_50, kl_57, kl_59, kl_60, kl_62, kl_63, kl_98, kl_99, kl_103, kl_104, kl_126, kl_144, kl_310, kl_372, kl_100000, kl_1000000, kl_neg, kl_mm, kl_am, nI_add, kl_mul, kl_sub, kl_le, kl_lt, kl_eq, kl_eM, kl_Me, kl_ltM, kl_leM, kl_ck, kl_cj, kl_cb, kl_bit, nI_clamp, va_up_self, va_up_ne, pk_us, pk_un, if_pos, if_neg, eq_self, and_true, true_and, and_false, false_and, if_true, if_false, Bool.false_eq_true, e]
theorem q4_addParts {G : St2} {s : Nat → Nat} {pk : Nat → QT} {q : QT} (hn : 1000 ≤ n) (hl : G 0 6 0 = nI c) (hc : c ≤ 60) (ht : ∀ k, k < c → G 0 5 k = nI (t k) ∧ t k < 128) (hR : RP (G 1) s) (hW : WF s) (hq : rq t c = some q) (hq3 : q.2.2.2 = 3 ∨ q.2.2.2 = 5) (h12 : s 4 + (nsm t c + 1) ≤ 12)
    (hpk : ∀ u, u < c → t u = 59 → ∀ q', rq t u = some q' → pk (nsm t u) = q') (hpc : pk (nsm t c) = q) (hpw : ∀ i, i < nsm t c + 1 → WQ (pk i) ∧ 3 ≤ (pk i).2.2.2) :
    ∃ G', fX4_addParts n G = some G' ∧ RP (G' 1) (aSt pk s (nsm t c + 1)) ∧ ∀ k, k ≠ 1 → k ≠ 4 → G' k = G k := by
  have hsome : ∀ u, u ≤ c → ∃ q', rq t u = some q' := by
    intro u hu
    cases h : rq t u with
    | none => have := rq_none h c hu; rw [hq] at this; cases this
    | some q' => exact ⟨q', rfl⟩
  have add : ∀ (P : St1) (R : St1) (j : Nat) (q' : QT), j < nsm t c + 1 → pk j = q' → q'.2.2.2 ≠ 0 → RQ R q' → RP P (aSt pk s j) → ∃ P', fX2_addLast n P (R 0 0) (R 1 0) (R 2 0) = some P' ∧ RP P' (aSt pk s (j + 1)) := by
    intro P R j q' hj hpj hst hRQ hRP
    obtain ⟨r0, r1, r2⟩ := hRQ.2 hst
    have h4 := aSt_4 pk s j
    rw [r0, r1, r2, ← hpj]
    exact q2_addLast hRP (aSt_wf hW j (by omega) (fun i hi => hpw i (by omega))) (by omega)
  obtain ⟨G1, e1, hRP1, hRQ1, hk1⟩ := kl_forI (body := fun (st : Int32 × St2) => fX4_addParts_b9 n st.1 st.2) (fun u st => u ≤ c ∧ st.1 = nI u ∧ RP (st.2 1) (aSt pk s (nsm t u)) ∧ (∀ q', rq t u = some q' → RQ (st.2 4) q') ∧ ∀ k, k ≠ 1 → k ≠ 4 → st.2 k = G k) (fun G' => RP (G' 1) (aSt pk s (nsm t c)) ∧ RQ (G' 4) q ∧ ∀ k, k ≠ 1 → k ≠ 4 → G' k = G k) c (fun u st hu hI => by
    obtain ⟨x, G1⟩ := st
    obtain ⟨huc, rfl, hRP, hRQ, hk⟩ := hI
    dsimp only at hRP hRQ hk ⊢
    have h0 := hk 0 (by omega) (by omega)
    have l1 : G1 0 6 0 = nI c := by rw [h0]; exact hl
    obtain ⟨t1, t2⟩ := ht u hu
    have t1' : G1 0 5 u = nI (t u) := by rw [h0]; exact t1
    obtain ⟨q1, hq1⟩ := hsome u (by omega)
    obtain ⟨q2, hq2⟩ := hsome (u + 1) (by omega)
    have hs : rq t (u + 1) = aS q1 (t u) := by show (rq t u).bind _ = _; rw [hq1]; rfl
    obtain ⟨R', e2, hR'⟩ := q3_accepts (n := n) (hRQ q1 hq1) (rq_wq hq1) t2
    rw [← hs, hq2] at e2 hR'
    have e2' : fX3_accepts n (G1 4) (nI (t u)) = some (nI 1, R') := e2
    by_cases d : t u = 59
    · have h35 := aS_59n (q := q1) (by rw [← d, ← hs, hq2]; rfl)
      have hjj : nsm t u + 1 ≤ nsm t c := by
        have h3 := nsm_mono (t := t) (a := u + 1) (b := c) (by omega)
        rw [nsm_succ, if_pos d] at h3
        exact h3
      obtain ⟨P', e3, hP'⟩ := add (G1 1) (G1 4) (nsm t u) q1 (by omega) (hpk u hu d q1 hq1) (by omega) (hRQ q1 hq1) hRP
      refine ⟨(nI (u + 1), va_up (va_up G1 1 P') 4 R'), ?_, by omega, rfl, ?_, fun q' hq' => ?_, fun k k1 k4 => by dsimp only; rw [va_up_ne _ _ k4, va_up_ne _ _ k1]; exact hk k k1 k4⟩
      · rw [d] at t1' e2'
        unfold fX4_addParts_b9
        simp (disch := first | omega | assumption) only [kk_nm, Option.bind_some, kl_0, kl_1, kl_2, kl_3, kl_4, kl_5, kl_6, kl_7, kl_8, kl_9, kl_10, kl_12, kl_14, kl_15, kl_16, kl_20, kl_31, kl_33, kl_48, kl_49, kl_50, kl_57, kl_59, kl_60, kl_62, kl_63, kl_98, kl_99, kl_103, kl_104, kl_126, kl_144, kl_310, kl_372, kl_100000, kl_1000000, kl_neg, kl_mm, kl_am, nI_add, kl_mul, kl_sub, kl_le, kl_lt, kl_eq, kl_eM, kl_Me, kl_ltM, kl_leM, kl_ck, kl_cj, kl_cb, kl_bit, nI_clamp, va_up_self, va_up_ne, pk_us, pk_un, if_pos, if_neg, eq_self, and_true, true_and, and_false, false_and, if_true, if_false, Bool.false_eq_true, l1, t1', e3, e2']
      · dsimp only
        rw [va_up_ne _ _ (by omega), va_up_self, nsm_succ, if_pos d]
        exact hP'
      · dsimp only
        rw [va_up_self]
        rw [hq2] at hq'; cases hq'
        exact hR'
    · refine ⟨(nI (u + 1), va_up G1 4 R'), ?_, by omega, rfl, ?_, fun q' hq' => ?_, fun k k1 k4 => by dsimp only; rw [va_up_ne _ _ k4]; exact hk k k1 k4⟩
      · unfold fX4_addParts_b9
        simp (disch := first | omega | assumption) only [kk_nm, Option.bind_some, kl_0, kl_1, kl_2, kl_3, kl_4, kl_5, kl_6, kl_7, kl_8, kl_9, kl_10, kl_12, kl_14, kl_15, kl_16, kl_20, kl_31, kl_33, kl_48, kl_49, kl_50, kl_57, kl_59, kl_60, kl_62, kl_63, kl_98, kl_99, kl_103, kl_104, kl_126, kl_144, kl_310, kl_372, kl_100000, kl_1000000, kl_neg, kl_mm, kl_am, nI_add, kl_mul, kl_sub, kl_le, kl_lt, kl_eq, kl_eM, kl_Me, kl_ltM, kl_leM, kl_ck, kl_cj, kl_cb, kl_bit, nI_clamp, va_up_self, va_up_ne, pk_us, pk_un, if_pos, if_neg, eq_self, and_true, true_and, and_false, false_and, if_true, if_false, Bool.false_eq_true, l1, t1', e2']
      · dsimp only
        rw [va_up_ne _ _ (by omega), nsm_succ, if_neg d]
        exact hRP
      · dsimp only
        rw [va_up_self]
        rw [hq2] at hq'; cases hq'
        exact hR') (fun st hI => by
    obtain ⟨x, G1⟩ := st
    obtain ⟨huc, rfl, hRP, hRQ, hk⟩ := hI
    dsimp only at hRP hRQ hk ⊢
    have h0 := hk 0 (by omega) (by omega)
    have l1 : G1 0 6 0 = nI c := by rw [h0]; exact hl
    refine ⟨G1, ?_, hRP, hRQ q hq, hk⟩
    unfold fX4_addParts_b9
    simp (disch := first | omega | assumption) only [kk_nm, Option.bind_some, kl_0, kl_1, kl_2, kl_3, kl_4, kl_5, kl_6, kl_7, kl_8, kl_9, kl_10, kl_12, kl_14, kl_15, kl_16, kl_20, kl_31, kl_33, kl_48, kl_49, kl_50, kl_57, kl_59, kl_60, kl_62, kl_63, kl_98, kl_99, kl_103, kl_104, kl_126, kl_144, kl_310, kl_372, kl_100000, kl_1000000, kl_neg, kl_mm, kl_am, nI_add, kl_mul, kl_sub, kl_le, kl_lt, kl_eq, kl_eM, kl_Me, kl_ltM, kl_leM, kl_ck, kl_cj, kl_cb, kl_bit, nI_clamp, va_up_self, va_up_ne, pk_us, pk_un, if_pos, if_neg, eq_self, and_true, true_and, and_false, false_and, if_true, if_false, Bool.false_eq_true, l1]) n 0 (nI 0, va_up G 4 (va_up (G 4) 3 (fun _ => nI 0))) (by omega) (by omega) ⟨by omega, rfl, by dsimp only; rw [va_up_ne _ _ (by omega)]; exact hR, fun q' hq' => by cases hq'; exact ⟨rfl, fun h => absurd rfl h⟩, fun k k1 k4 => by dsimp only; rw [va_up_ne _ _ k4]⟩
  obtain ⟨P', e3, hP'⟩ := add (G1 1) (G1 4) (nsm t c) q (by omega) hpc (by omega) hRQ1 hRP1
  refine ⟨va_up G1 1 P', ?_, by rw [va_up_self]; exact hP', fun k k1 k4 => by rw [va_up_ne _ _ k1]; exact hk1 k k1 k4⟩
  unfold fX4_addParts fX3_start
  simp (disch := first | omega | assumption) only [kk_nm, Option.bind_some, kl_0, kl_1, kl_2, kl_3, kl_4, kl_5, kl_6, kl_7, kl_8, kl_9, kl_10, kl_12, kl_14, kl_15, kl_16, kl_20, kl_31, kl_33, kl_48, kl_49, kl_50, kl_57, kl_59, kl_60, kl_62, kl_63, kl_98, kl_99, kl_103, kl_104, kl_126, kl_144, kl_310, kl_372, kl_100000, kl_1000000, kl_neg, kl_mm, kl_am, nI_add, kl_mul, kl_sub, kl_le, kl_lt, kl_eq, kl_eM, kl_Me, kl_ltM, kl_leM, kl_ck, kl_cj, kl_cb, kl_bit, nI_clamp, va_up_self, va_up_ne, pk_us, pk_un, if_pos, if_neg, eq_self, and_true, true_and, and_false, false_and, if_true, if_false, Bool.false_eq_true, e1, e3]
theorem q5_putLoop {M : St1} {s : Nat → Nat} {pk : Nat → QT} {k : Nat} (hn : 1000 ≤ n) (hR : RM (M 0) s) (hk : M 10 0 = nI k) (h12 : s 4 + k ≤ 12) (hpk : ∀ i, i < k → khm (M 9) i (pk i)) : ∃ M', kk_it (fun (st : Int32 × St1) => fX5_putAll_b51 n st.1 st.2) n (nI 0, M) = some M' ∧ RM (M' 0) (aSt pk s k) ∧ ∀ j, j ≠ 0 → M' j = M j := by
  refine kl_forI (body := fun (st : Int32 × St1) => fX5_putAll_b51 n st.1 st.2) (fun u st => st.1 = nI u ∧ RM (st.2 0) (aSt pk s u) ∧ ∀ j, j ≠ 0 → st.2 j = M j) _ k (fun u st hu hI => ?_) (fun st hI => ?_) n 0 (nI 0, M) (by omega) (by omega) ⟨rfl, hR, fun _ _ => rfl⟩
  · obtain ⟨x, M1⟩ := st
    obtain ⟨rfl, hR1, hfr⟩ := hI
    dsimp only at hR1 hfr ⊢
    have h10 : M1 10 0 = nI k := by rw [hfr 10 (by omega)]; exact hk
    obtain ⟨k0, k1, k2⟩ := hpk u hu
    have h4 := aSt_4 pk s u
    have k0' : M1 9 (3 * u) = nI (pk u).1 := by rw [hfr 9 (by omega)]; exact k0
    have k1' : M1 9 (3 * u + 1) = nI (pk u).2.1 := by rw [hfr 9 (by omega)]; exact k1
    have k2' : M1 9 (3 * u + 2) = nI (pk u).2.2.1 := by rw [hfr 9 (by omega)]; exact k2
    have m4 := hR1.r 4 (by omega)
    obtain ⟨f', e, hf⟩ := q5_puts (v := aSt pk s u 4) (a := (pk u).1) (b := (pk u).2.1) (c := (pk u).2.2.1) (d := 0) hn hR1 (by omega) (by omega)
    refine ⟨(nI (u + 1), va_up M1 0 f'), ?_, rfl, by dsimp only; rw [va_up_self]; exact hf, fun j j0 => by dsimp only; rw [va_up_ne _ _ j0]; exact hfr j j0⟩
    unfold fX5_putAll_b51
    simp (disch := first | omega | assumption) only [kk_nm, Option.bind_some, kl_0, kl_1, kl_2, kl_3, kl_4, kl_5, kl_6, kl_7, kl_8, kl_9, kl_10, kl_12, kl_14, kl_15, kl_16, kl_20, kl_31, kl_33, kl_48, kl_49, kl_50, kl_57, kl_59, kl_60, kl_62, kl_63, kl_98, kl_99, kl_103, kl_104, kl_126, kl_144, kl_310, kl_372, kl_100000, kl_1000000, kl_neg, kl_mm, kl_am, nI_add, kl_mul, kl_sub, kl_le, kl_lt, kl_eq, kl_eM, kl_Me, kl_ltM, kl_leM, kl_ck, kl_cj, kl_cb, kl_bit, nI_clamp, va_up_self, va_up_ne, pk_us, pk_un, if_pos, if_neg, eq_self, and_true, true_and, and_false, false_and, if_true, if_false, Bool.false_eq_true, h10, k0', k1', k2', m4, e]
  · obtain ⟨x, M1⟩ := st
    obtain ⟨rfl, hR1, hfr⟩ := hI
    dsimp only at hR1 hfr ⊢
    have h10 : M1 10 0 = nI k := by rw [hfr 10 (by omega)]; exact hk
    refine ⟨M1, ?_, hR1, hfr⟩
    unfold fX5_putAll_b51
    simp (disch := first | omega | assumption) only [kk_nm, Option.bind_some, kl_0, kl_1, kl_2, kl_3, kl_4, kl_5, kl_6, kl_7, kl_8, kl_9, kl_10, kl_12, kl_14, kl_15, kl_16, kl_20, kl_31, kl_33, kl_48, kl_49, kl_50, kl_57, kl_59, kl_60, kl_62, kl_63, kl_98, kl_99, kl_103, kl_104, kl_126, kl_144, kl_310, kl_372, kl_100000, kl_1000000, kl_neg, kl_mm, kl_am, nI_add, kl_mul, kl_sub, kl_le, kl_lt, kl_eq, kl_eM, kl_Me, kl_ltM, kl_leM, kl_ck, kl_cj, kl_cb, kl_bit, nI_clamp, va_up_self, va_up_ne, pk_us, pk_un, if_pos, if_neg, eq_self, and_true, true_and, and_false, false_and, if_true, if_false, Bool.false_eq_true, h10]
end
