/-! the history: c states kept, ps i the i-th of them -/
def RH (V : St2) (M : St1) (c : Nat) (ps : Nat → Nat → Nat) : Prop :=
  c ≤ 6 ∧ V 0 0 0 = nI c ∧ M 3 0 = nI c ∧ (∃ o : Nat → Nat, (∀ i, i < 6 → V 0 1 i = nI (o i) ∧ o i < 6) ∧ (∀ i j, i < 6 → j < 6 → o i = o j → i = j) ∧ ∀ i, i < c → RP (V (1 + o i)) (ps i)) ∧ (∀ i, i < c → (∀ k, k < 62 → M 2 (62 * i + k) = nI (ps i k)) ∧ WF (ps i))
theorem RH_cg {V : St2} {M M' : St1} {c : Nat} {ps : Nat → Nat → Nat} (h2 : M' 2 = M 2) (h3 : M' 3 = M 3) (h : RH V M c ps) : RH V M' c ps := by
  unfold RH at h ⊢
  rw [h2, h3]
  exact h
section
variable {n : Nat} {s : Nat → Nat} {V : St2} {M : St1} {c : Nat} {ps : Nat → Nat → Nat}
theorem q_drop (hn : 1000 ≤ n) (h : RH V M 6 ps) : ∃ V' M1, fX1_dropOldest n V = some V' ∧ kk_it (fun (st : Int32 × St1) => fX5_saves_b11 n st.1 st.2) n (nI 0, M) = some M1 ∧ (∀ i, i ≠ 2 → M1 i = M i) ∧ RH V' (va_up M1 3 (fun _ => nI 5)) 5 (fun i => ps (i + 1)) := by
  obtain ⟨-, v0, m3, ⟨o, ho, hinj, hps⟩, hpast⟩ := h
  obtain ⟨V1, e1, hk1, hr1, ho1⟩ := kl_forI (body := fun (st : Int32 × St2) => fX1_dropOldest_b9 n st.1 st.2) (fun u st => 1 ≤ u ∧ st.1 = nI u ∧ (∀ k, k ≠ 0 → st.2 k = V k) ∧ (∀ k, k ≠ 1 → st.2 0 k = V 0 k) ∧ ∀ i, st.2 0 1 i = V 0 1 (if i + 1 < u then i + 1 else i)) (fun V' => (∀ k, k ≠ 0 → V' k = V k) ∧ (∀ k, k ≠ 1 → V' 0 k = V 0 k) ∧ ∀ i, V' 0 1 i = V 0 1 (if i + 1 < 6 then i + 1 else i)) 6 (fun u st hu hI => by
    obtain ⟨x1, V1⟩ := st
    obtain ⟨hu1, rfl, hk, hr, hi⟩ := hI
    dsimp only at hk hr hi ⊢
    have h1 := hi u
    rw [if_neg (by omega), (ho u hu).1] at h1
    have h2 := (ho u hu).2
    refine ⟨(nI (u + 1), va_up V1 0 (va_up (V1 0) 1 (upd (V1 0 1) (u - 1) (nI (o u))))), ?_, by omega, rfl, fun k k0 => by dsimp only; rw [va_up_ne _ _ k0]; exact hk k k0, fun k k1 => by dsimp only; rw [va_up_self, va_up_ne _ _ k1]; exact hr k k1, fun i => ?_⟩
    · unfold fX1_dropOldest_b9
      simp (disch := first | omega | assumption) only [kk_nm, Option.bind_some, kl_0, kl_1, kl_2, kl_3, kl_4, kl_5, kl_6, kl_7, kl_8, kl_9, kl_10, kl_12, kl_14, kl_15, kl_16, kl_20, kl_31, kl_33, kl_48, kl_49, kl_50, kl_57, kl_59, kl_60, kl_62, kl_63, kl_98, kl_99, kl_103, kl_104, kl_126, kl_144, kl_310, kl_372, kl_100000, kl_1000000, kl_neg, kl_mm, kl_am, nI_add, kl_mul, kl_sub, kl_le, kl_lt, kl_eq, kl_eM, kl_Me, kl_ltM, kl_leM, kl_ck, kl_cj, kl_cb, kl_bit, nI_clamp, va_up_self, va_up_ne, pk_us, pk_un, if_pos, if_neg, eq_self, and_true, true_and, and_false, false_and, if_true, if_false, Bool.false_eq_true, h1]
    · dsimp only
      rw [va_up_self, va_up_self]
      by_cases c2 : i = u - 1
      · rw [c2, pk_us, if_pos (by omega), (by omega : u - 1 + 1 = u), (ho u hu).1]
      · rw [pk_un c2, hi i]
        by_cases c3 : i + 1 < u
        · rw [if_pos c3, if_pos (by omega)]
        · rw [if_neg c3, if_neg (by omega)]) (fun st hI => by
    obtain ⟨x1, V1⟩ := st
    obtain ⟨hu1, rfl, hk, hr, hi⟩ := hI
    dsimp only at hk hr hi ⊢
    refine ⟨V1, ?_, hk, hr, hi⟩
    unfold fX1_dropOldest_b9
    simp (disch := first | omega | assumption) only [kk_nm, Option.bind_some, kl_0, kl_1, kl_2, kl_3, kl_4, kl_5, kl_6, kl_7, kl_8, kl_9, kl_10, kl_12, kl_14, kl_15, kl_16, kl_20, kl_31, kl_33, kl_48, kl_49, kl_50, kl_57, kl_59, kl_60, kl_62, kl_63, kl_98, kl_99, kl_103, kl_104, kl_126, kl_144, kl_310, kl_372, kl_100000, kl_1000000, kl_neg, kl_mm, kl_am, nI_add, kl_mul, kl_sub, kl_le, kl_lt, kl_eq, kl_eM, kl_Me, kl_ltM, kl_leM, kl_ck, kl_cj, kl_cb, kl_bit, nI_clamp, va_up_self, va_up_ne, pk_us, pk_un, if_pos, if_neg, eq_self, and_true, true_and, and_false, false_and, if_true, if_false, Bool.false_eq_true]) n 1 (nI 1, V) (by omega) (by omega) ⟨by omega, rfl, fun _ _ => rfl, fun _ _ => rfl, fun i => by dsimp only; rw [if_neg (by omega)]⟩
  obtain ⟨M1, e2, hm1, hm2⟩ := kl_forI (body := fun (st : Int32 × St1) => fX5_saves_b11 n st.1 st.2) (fun u st => st.1 = nI u ∧ (∀ i, i ≠ 2 → st.2 i = M i) ∧ ∀ k, st.2 2 k = M 2 (if k < u then k + 62 else k)) (fun M' => (∀ i, i ≠ 2 → M' i = M i) ∧ ∀ k, M' 2 k = M 2 (if k < 310 then k + 62 else k)) 310 (fun u st hu hI => by
    obtain ⟨x1, M1⟩ := st
    obtain ⟨rfl, hk, h2⟩ := hI
    dsimp only at hk h2 ⊢
    refine ⟨(nI (u + 1), va_up M1 2 (upd (M1 2) u (M1 2 (u + 62)))), ?_, rfl, fun k k0 => by dsimp only; rw [va_up_ne _ _ k0]; exact hk k k0, fun k => ?_⟩
    · unfold fX5_saves_b11
      simp (disch := first | omega | assumption) only [kk_nm, Option.bind_some, kl_0, kl_1, kl_2, kl_3, kl_4, kl_5, kl_6, kl_7, kl_8, kl_9, kl_10, kl_12, kl_14, kl_15, kl_16, kl_20, kl_31, kl_33, kl_48, kl_49, kl_50, kl_57, kl_59, kl_60, kl_62, kl_63, kl_98, kl_99, kl_103, kl_104, kl_126, kl_144, kl_310, kl_372, kl_100000, kl_1000000, kl_neg, kl_mm, kl_am, nI_add, kl_mul, kl_sub, kl_le, kl_lt, kl_eq, kl_eM, kl_Me, kl_ltM, kl_leM, kl_ck, kl_cj, kl_cb, kl_bit, nI_clamp, va_up_self, va_up_ne, pk_us, pk_un, if_pos, if_neg, eq_self, and_true, true_and, and_false, false_and, if_true, if_false, Bool.false_eq_true]
    · dsimp only
      rw [va_up_self]
      by_cases c2 : k = u
      · rw [c2, pk_us, h2, if_neg (by omega), if_pos (by omega)]
      · rw [pk_un c2, h2]
        by_cases c3 : k < u
        · rw [if_pos c3, if_pos (by omega)]
        · rw [if_neg c3, if_neg (by omega)]) (fun st hI => by
    obtain ⟨x1, M1⟩ := st
    obtain ⟨rfl, hk, h2⟩ := hI
    dsimp only at hk h2 ⊢
    refine ⟨M1, ?_, hk, h2⟩
    unfold fX5_saves_b11
    simp (disch := first | omega | assumption) only [kk_nm, Option.bind_some, kl_0, kl_1, kl_2, kl_3, kl_4, kl_5, kl_6, kl_7, kl_8, kl_9, kl_10, kl_12, kl_14, kl_15, kl_16, kl_20, kl_31, kl_33, kl_48, kl_49, kl_50, kl_57, kl_59, kl_60, kl_62, kl_63, kl_98, kl_99, kl_103, kl_104, kl_126, kl_144, kl_310, kl_372, kl_100000, kl_1000000, kl_neg, kl_mm, kl_am, nI_add, kl_mul, kl_sub, kl_le, kl_lt, kl_eq, kl_eM, kl_Me, kl_ltM, kl_leM, kl_ck, kl_cj, kl_cb, kl_bit, nI_clamp, va_up_self, va_up_ne, pk_us, pk_un, if_pos, if_neg, eq_self, and_true, true_and, and_false, false_and, if_true, if_false, Bool.false_eq_true]) n 0 (nI 0, M) (by omega) (by omega) ⟨rfl, fun _ _ => rfl, fun i => by dsimp only; rw [if_neg (by omega)]⟩
  have o0 := (ho 0 (by omega)).1
  have o0' := (ho 0 (by omega)).2
  have v00 : V1 0 0 0 = nI 6 := by rw [hr1 0 (by omega)]; exact v0
  refine ⟨va_up (va_up V1 0 (va_up (V1 0) 1 (upd (V1 0 1) 5 (nI (o 0))))) 0 (va_up (va_up (V1 0) 1 (upd (V1 0 1) 5 (nI (o 0)))) 0 (fun _ => nI 5)), M1, ?_, e2, hm1, ?_⟩
  · have e5 : nI 6 - nI 1 = nI 5 := rfl
    unfold fX1_dropOldest
    simp (disch := first | omega | assumption) only [kk_nm, Option.bind_some, kl_0, kl_1, kl_2, kl_3, kl_4, kl_5, kl_6, kl_7, kl_8, kl_9, kl_10, kl_12, kl_14, kl_15, kl_16, kl_20, kl_31, kl_33, kl_48, kl_49, kl_50, kl_57, kl_59, kl_60, kl_62, kl_63, kl_98, kl_99, kl_103, kl_104, kl_126, kl_144, kl_310, kl_372, kl_100000, kl_1000000, kl_neg, kl_mm, kl_am, nI_add, kl_mul, kl_sub, kl_le, kl_lt, kl_eq, kl_eM, kl_Me, kl_ltM, kl_leM, kl_ck, kl_cj, kl_cb, kl_bit, nI_clamp, va_up_self, va_up_ne, pk_us, pk_un, if_pos, if_neg, eq_self, and_true, true_and, and_false, false_and, if_true, if_false, Bool.false_eq_true, o0, e1, v0, v00, e5]
  · unfold RH
    refine ⟨by omega, ?_, ?_, ⟨fun i => o (if i + 1 < 6 then i + 1 else 0), fun i hi => ?_, fun i j hi hj hij => ?_, fun i hi => ?_⟩, fun i hi => ⟨fun k hk => ?_, (hpast (i + 1) (by omega)).2⟩⟩
    · rw [va_up_self, va_up_self]
    · rw [va_up_self]
    · rw [va_up_self, va_up_ne _ _ (by omega), va_up_self]
      by_cases c : i = 5
      · dsimp only; rw [c, pk_us, if_neg (show ¬ 5 + 1 < 6 by omega)]; exact ⟨rfl, o0'⟩
      · dsimp only; rw [pk_un c, ho1, if_pos (show i + 1 < 6 by omega), if_pos (show i + 1 < 6 by omega)]
        exact ho (i + 1) (by omega)
    · have h2 : (if i + 1 < 6 then i + 1 else 0) = (if j + 1 < 6 then j + 1 else 0) := hinj _ _ (by split <;> omega) (by split <;> omega) hij
      by_cases a : i + 1 < 6
      · by_cases b : j + 1 < 6
        · rw [if_pos a, if_pos b] at h2; omega
        · rw [if_pos a, if_neg b] at h2; omega
      · by_cases b : j + 1 < 6
        · rw [if_neg a, if_pos b] at h2; omega
        · omega
    · dsimp only
      rw [if_pos (by omega), va_up_ne _ _ (by omega), va_up_ne _ _ (by omega), hk1 _ (by omega)]
      exact hps (i + 1) (by omega)
    · rw [va_up_ne _ _ (by omega), hm2, if_pos (by omega), ← (hpast (i + 1) (by omega)).1 k hk]
      congr 1; omega
theorem q_push {P : St1} (hn : 1000 ≤ n) (h : RH V M c ps) (hc : c < 6) (hR : RP P s) (hW : WF s) (hM : RM (M 0) s) : ∃ P' V' f', (V 0 0 0 = nI c) ∧ (∃ j, j < 6 ∧ V 0 1 c = nI j ∧ fX2_copyFrom n (V (1 + j)) P = some P' ∧ V' = va_up (va_up V (1 + j) P') 0 (va_up (V 0) 0 (fun _ => nI (c + 1)))) ∧ fX5_copies n 62 372 (M 0) (M 2) (nI 0) (nI (62 * c)) = some f' ∧ RH V' (va_up (va_up M 2 f') 3 (fun _ => nI (c + 1))) (c + 1) (fun i => if i = c then s else ps i) := by
  obtain ⟨-, v0, m3, ⟨o, ho, hinj, hps⟩, hpast⟩ := h
  obtain ⟨P', e, hR'⟩ := q2_copyFrom (n := n) (P := V (1 + o c)) hn hR hW
  refine ⟨P', _, _, v0, ⟨o c, (ho c hc).2, (ho c hc).1, e, rfl⟩, q5_copies hn (by omega) (by omega) (by omega) (by omega), ?_⟩
  unfold RH
  refine ⟨by omega, ?_, ?_, ⟨o, fun i hi => ?_, hinj, fun i hi => ?_⟩, fun i hi => ⟨fun k hk => ?_, ?_⟩⟩
  · rw [va_up_self, va_up_self]
  · rw [va_up_self]
  · rw [va_up_self, va_up_ne _ _ (by omega)]
    exact ho i hi
  · rw [va_up_ne _ _ (by omega)]
    by_cases e2 : i = c
    · rw [e2, va_up_self]; dsimp only; rw [if_pos rfl]; exact hR'
    · have : 1 + o i ≠ 1 + o c := fun h => e2 (hinj i c (by omega) hc (by omega))
      rw [va_up_ne _ _ this]
      dsimp only
      rw [if_neg e2]
      exact hps i (by omega)
  · rw [va_up_ne _ _ (by omega), va_up_self]
    by_cases e2 : i = c
    · dsimp only; rw [if_pos (by omega), if_pos e2, ← hM k hk]; congr 1; omega
    · dsimp only; rw [if_neg (by omega), if_neg e2]; exact (hpast i (by omega)).1 k hk
  · by_cases e2 : i = c
    · dsimp only; rw [if_pos e2]; exact hW
    · dsimp only; rw [if_neg e2]; exact (hpast i (by omega)).2
/-- saving -/
theorem q_save {P : St1} (hn : 1000 ≤ n) (h : RH V M c ps) (hR : RP P s) (hW : WF s) (hM : RM (M 0) s) : ∃ V' M' c' ps', fX1_save n V P = some V' ∧ fX5_saves n M = some M' ∧ (∀ i, i ≠ 2 → i ≠ 3 → M' i = M i) ∧ RH V' M' c' ps' := by
  have hc6 := h.1
  by_cases c6 : c = 6
  · subst c6
    have v0 := h.2.1
    have m3 := h.2.2.1
    obtain ⟨V1, M1, e1, e2, hm1, hH1⟩ := q_drop hn h
    have m13 : M1 3 0 = nI 6 := by rw [hm1 3 (by omega)]; exact m3
    obtain ⟨P', V', f', v1, ⟨j, hj, hoj, ec, rfl⟩, ecp, hH⟩ := q_push hn hH1 (by omega) hR hW (by rw [va_up_ne _ _ (by omega), hm1 0 (by omega)]; exact hM)
    refine ⟨_, va_up (va_up (va_up M1 3 (fun _ => nI 5)) 2 f') 3 (fun _ => nI 6), _, _, ?_, ?_, fun i i2 i3 => ?_, hH⟩
    · unfold fX1_save
      simp (disch := first | omega | assumption) only [kk_nm, Option.bind_some, kl_0, kl_1, kl_2, kl_3, kl_4, kl_5, kl_6, kl_7, kl_8, kl_9, kl_10, kl_12, kl_14, kl_15, kl_16, kl_20, kl_31, kl_33, kl_48, kl_49, kl_50, kl_57, kl_59, kl_60, kl_62, kl_63, kl_98, kl_99, kl_103, kl_104, kl_126, kl_144, kl_310, kl_372, kl_100000, kl_1000000, kl_neg, kl_mm, kl_am, nI_add, kl_mul, kl_sub, kl_le, kl_lt, kl_eq, kl_eM, kl_Me, kl_ltM, kl_leM, kl_ck, kl_cj, kl_cb, kl_bit, nI_clamp, va_up_self, va_up_ne, pk_us, pk_un, if_pos, if_neg, eq_self, and_true, true_and, and_false, false_and, if_true, if_false, Bool.false_eq_true, v0, e1, v1, hoj, ec]
    · rw [va_up_ne _ _ (by omega), va_up_ne _ _ (by omega)] at ecp
      unfold fX5_saves
      simp (disch := first | omega | assumption) only [kk_nm, Option.bind_some, kl_0, kl_1, kl_2, kl_3, kl_4, kl_5, kl_6, kl_7, kl_8, kl_9, kl_10, kl_12, kl_14, kl_15, kl_16, kl_20, kl_31, kl_33, kl_48, kl_49, kl_50, kl_57, kl_59, kl_60, kl_62, kl_63, kl_98, kl_99, kl_103, kl_104, kl_126, kl_144, kl_310, kl_372, kl_100000, kl_1000000, kl_neg, kl_mm, kl_am, nI_add, kl_mul, kl_sub, kl_le, kl_lt, kl_eq, kl_eM, kl_Me, kl_ltM, kl_leM, kl_ck, kl_cj, kl_cb, kl_bit, nI_clamp, va_up_self, va_up_ne, pk_us, pk_un, if_pos, if_neg, eq_self, and_true, true_and, and_false, false_and, if_true, if_false, Bool.false_eq_true, m3, e2, m13, ecp]
    · rw [va_up_ne _ _ i3, va_up_ne _ _ i2, va_up_ne _ _ i3]
      exact hm1 i i2
  · have v0 := h.2.1
    have m3 := h.2.2.1
    obtain ⟨P', V', f', v1, ⟨j, hj, hoj, ec, rfl⟩, ecp, hH⟩ := q_push hn h (by omega) hR hW hM
    refine ⟨_, va_up (va_up M 2 f') 3 (fun _ => nI (c + 1)), _, _, ?_, ?_, fun i i2 i3 => ?_, hH⟩
    · unfold fX1_save
      simp (disch := first | omega | assumption) only [kk_nm, Option.bind_some, kl_0, kl_1, kl_2, kl_3, kl_4, kl_5, kl_6, kl_7, kl_8, kl_9, kl_10, kl_12, kl_14, kl_15, kl_16, kl_20, kl_31, kl_33, kl_48, kl_49, kl_50, kl_57, kl_59, kl_60, kl_62, kl_63, kl_98, kl_99, kl_103, kl_104, kl_126, kl_144, kl_310, kl_372, kl_100000, kl_1000000, kl_neg, kl_mm, kl_am, nI_add, kl_mul, kl_sub, kl_le, kl_lt, kl_eq, kl_eM, kl_Me, kl_ltM, kl_leM, kl_ck, kl_cj, kl_cb, kl_bit, nI_clamp, va_up_self, va_up_ne, pk_us, pk_un, if_pos, if_neg, eq_self, and_true, true_and, and_false, false_and, if_true, if_false, Bool.false_eq_true, v0, hoj, ec]
    · unfold fX5_saves
      simp (disch := first | omega | assumption) only [kk_nm, Option.bind_some, kl_0, kl_1, kl_2, kl_3, kl_4, kl_5, kl_6, kl_7, kl_8, kl_9, kl_10, kl_12, kl_14, kl_15, kl_16, kl_20, kl_31, kl_33, kl_48, kl_49, kl_50, kl_57, kl_59, kl_60, kl_62, kl_63, kl_98, kl_99, kl_103, kl_104, kl_126, kl_144, kl_310, kl_372, kl_100000, kl_1000000, kl_neg, kl_mm, kl_am, nI_add, kl_mul, kl_sub, kl_le, kl_lt, kl_eq, kl_eM, kl_Me, kl_ltM, kl_leM, kl_ck, kl_cj, kl_cb, kl_bit, nI_clamp, va_up_self, va_up_ne, pk_us, pk_un, if_pos, if_neg, eq_self, and_true, true_and, and_false, false_and, if_true, if_false, Bool.false_eq_true, m3, ecp]
    · rw [va_up_ne _ _ i3, va_up_ne _ _ i2]
/-- taking the latest back -/
theorem q_restore {P : St1} (hn : 1000 ≤ n) (h : RH V M c ps) (hc : 0 < c) : ∃ V' P' f', fX1_restoreLatest n V P = some (V', P') ∧ V' 0 0 0 = nI (c - 1) ∧ RP P' (ps (c - 1)) ∧ WF (ps (c - 1)) ∧ fX5_copies n 372 62 (M 2) (M 0) (nI (62 * (c - 1))) (nI 0) = some f' ∧ RM f' (ps (c - 1)) ∧ RH V' (va_up (va_up M 3 (fun _ => nI (c - 1))) 0 f') (c - 1) ps := by
  obtain ⟨hc6, v0, m3, ⟨o, ho, hinj, hps⟩, hpast⟩ := h
  obtain ⟨hp1, hW⟩ := hpast (c - 1) (by omega)
  obtain ⟨P', e, hR'⟩ := q2_copyFrom (n := n) (P := P) hn (hps (c - 1) (by omega)) hW
  obtain ⟨h1, h2⟩ := ho (c - 1) (by omega)
  refine ⟨va_up V 0 (va_up (V 0) 0 (fun _ => nI (c - 1))), P', _, ?_, by rw [va_up_self, va_up_self], hR', hW, q5_copies hn (by omega) (by omega) (by omega) (by omega), fun k hk => ?_, ?_⟩
  · unfold fX1_restoreLatest
    simp (disch := first | omega | assumption) only [kk_nm, Option.bind_some, kl_0, kl_1, kl_2, kl_3, kl_4, kl_5, kl_6, kl_7, kl_8, kl_9, kl_10, kl_12, kl_14, kl_15, kl_16, kl_20, kl_31, kl_33, kl_48, kl_49, kl_50, kl_57, kl_59, kl_60, kl_62, kl_63, kl_98, kl_99, kl_103, kl_104, kl_126, kl_144, kl_310, kl_372, kl_100000, kl_1000000, kl_neg, kl_mm, kl_am, nI_add, kl_mul, kl_sub, kl_le, kl_lt, kl_eq, kl_eM, kl_Me, kl_ltM, kl_leM, kl_ck, kl_cj, kl_cb, kl_bit, nI_clamp, va_up_self, va_up_ne, pk_us, pk_un, if_pos, if_neg, eq_self, and_true, true_and, and_false, false_and, if_true, if_false, Bool.false_eq_true, v0, h1, e]
  · dsimp only; rw [if_pos (by omega)]
    exact hp1 k hk
  · unfold RH
    refine ⟨by omega, ?_, ?_, ⟨o, fun i hi => ?_, hinj, fun i hi => ?_⟩, fun i hi => ⟨fun k hk => ?_, ?_⟩⟩
    · rw [va_up_self, va_up_self]
    · rw [va_up_ne _ _ (by omega), va_up_self]
    · rw [va_up_self, va_up_ne _ _ (by omega)]
      exact ho i hi
    · rw [va_up_ne _ _ (by omega)]
      exact hps i (by omega)
    · rw [va_up_ne _ _ (by omega), va_up_ne _ _ (by omega)]
      exact (hpast i (by omega)).1 k hk
    · exact (hpast i (by omega)).2
end
