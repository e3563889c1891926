/-! p29: what the law asks of a state, over the flat state s -/
def Zx (s : Nat → Nat) : Prop := (∀ p, p < s 4 → s (14 + 4 * p) ≠ 1 → s (16 + 4 * p) = 0) ∧ ∀ b, b + 1 < s 5 → s (6 + 2 * b) < s (6 + 2 * (b + 1))
theorem Zx_pS {π : Nat → Nat} {s : Nat → Nat} (h : ∀ q, q < s 4 → π q < s 4) (hW : WF s) (hZ : Zx s) : Zx (pS π s) := by
  have w1 := hW.2.1
  unfold Zx
  rw [pS_lo (k := 4) (by omega), pS_lo (k := 5) (by omega)]
  refine ⟨fun p hp hk => ?_, fun b hb => ?_⟩
  · rw [pS_0] at hk
    rw [pS_2]
    exact hZ.1 _ (h p hp) hk
  · rw [pS_lo (k := 6 + 2 * b) (by omega), pS_lo (k := 6 + 2 * (b + 1)) (by omega)]
    exact hZ.2 b hb
theorem Zx_gO {v : Nat} {s : Nat → Nat} (hW : WF s) (hv : v < s 4) (hZ : Zx s) : Zx (gO v s) := by
  have w1 := hW.2.1
  unfold Zx
  rw [gO_4, gO_lo (k := 5) (by omega) (by omega)]
  refine ⟨fun q hq hk => ?_, fun b hb => ?_⟩
  · have x0 := gO_at (v := v) (s := s) (r := 0) (by omega) hq
    have x2 := gO_at (v := v) (s := s) (r := 2) (by omega) hq
    have hz : (if v ≤ q then q + 1 else q) < s 4 := by split <;> omega
    generalize (if v ≤ q then q + 1 else q) = z at x0 x2 hz
    rw [(by omega : 16 + 4 * q = 14 + 4 * q + 2), x2, (by omega : 14 + 4 * z + 2 = 16 + 4 * z)]
    refine hZ.1 z hz (fun e => hk ?_)
    exact (show gO v s (14 + 4 * q) = s (14 + 4 * z) from x0).trans e
  · rw [gO_lo (k := 6 + 2 * b) (by omega) (by omega), gO_lo (k := 6 + 2 * (b + 1)) (by omega) (by omega)]
    exact hZ.2 b hb
theorem Zx_pT {v a b c d : Nat} {s : Nat → Nat} (hW : WF s) (hv : v ≤ s 4) (hm : a ≠ 1 → c = 0) (hZ : Zx s) : Zx (pT v a b c d s) := by
  have w1 := hW.2.1
  unfold Zx
  rw [pT_4, pT_lo (k := 5) (by omega) (by omega)]
  refine ⟨fun q hq hk => ?_, fun b hb => ?_⟩
  · have x0 := pT_at (v := v) (a := a) (b := b) (c := c) (d := d) (s := s) (q := q) (r := 0) (by omega) (by omega)
    have x2 := pT_at (v := v) (a := a) (b := b) (c := c) (d := d) (s := s) (q := q) (r := 2) (by omega) (by omega)
    rw [if_pos rfl] at x0
    rw [if_neg (by omega : ¬ 2 = 0), if_neg (by omega : ¬ 2 = 1), if_pos rfl] at x2
    rw [(by omega : 16 + 4 * q = 14 + 4 * q + 2), x2]
    have x0 : pT v a b c d s (14 + 4 * q) = if q = v then a else s (14 + 4 * (if v < q then q - 1 else q)) := x0
    rw [x0] at hk
    by_cases e : q = v
    · rw [if_pos e] at hk ⊢
      exact hm hk
    · rw [if_neg e] at hk ⊢
      have hz : (if v < q then q - 1 else q) < s 4 := by split <;> omega
      generalize (if v < q then q - 1 else q) = z at hk hz
      rw [(by omega : 14 + 4 * z + 2 = 16 + 4 * z)]
      exact hZ.1 z hz hk
  · rw [pT_lo (k := 6 + 2 * b) (by omega) (by omega), pT_lo (k := 6 + 2 * (b + 1)) (by omega) (by omega)]
    exact hZ.2 b hb
theorem Zx_fS {u x : Nat} {s : Nat → Nat} (hW : WF s) (hZ : Zx s) : Zx (fS u x s) := by
  have w1 := hW.2.1
  unfold Zx
  rw [fS_lo (k := 4) (by omega), fS_lo (k := 5) (by omega)]
  refine ⟨fun q hq hk => ?_, fun b hb => ?_⟩
  · obtain ⟨f0, -, f2, -⟩ := fS_at (u := u) (x := x) (q := q) (s := s)
    rw [f0] at hk
    rw [f2]
    exact hZ.1 q hq hk
  · rw [fS_lo (k := 6 + 2 * b) (by omega), fS_lo (k := 6 + 2 * (b + 1)) (by omega)]
    exact hZ.2 b hb
theorem t_hb_no {s : Nat → Nat} {d m : Nat} (h : t_hb s d m = 0) {b : Nat} (hb : b < m) : s (6 + 2 * b) ≠ d := by
  intro e
  have h1 : t_hb s d (b + 1) = 1 := by
    unfold t_hb
    rw [if_pos (.inr e)]
  have h2 := t_hb_up s d h1 m (by omega)
  omega
theorem Zx_bS {s : Nat → Nat} {d c : Nat} (hW : WF s) (h5 : s 5 < 4) (hd : t_hb s d (s 5) = 0) (hZ : Zx s) : Zx (bS (bix s d (s 5)) d c s) := by
  obtain ⟨b1, b2, b3⟩ := bix_spec s d (s 5)
  generalize bix s d (s 5) = i at b1 b2 b3
  unfold Zx
  rw [bS_fl h5 b1 (k := 4) (by omega), bS_5]
  refine ⟨fun q hq hk => ?_, fun b hb => ?_⟩
  · rw [bS_fl h5 b1 (k := 14 + 4 * q) (by omega)] at hk
    rw [bS_fl h5 b1 (k := 16 + 4 * q) (by omega)]
    exact hZ.1 q hq hk
  · rw [bS_6 (b := b) (by omega), bS_6 (b := b + 1) (by omega)]
    by_cases e1 : b = i
    · rw [if_pos e1, if_neg (show ¬ b + 1 = i by omega), if_pos (show i < b + 1 by omega), Nat.add_sub_cancel, e1]
      exact b3 (by omega)
    · rw [if_neg e1]
      by_cases e2 : b + 1 = i
      · rw [if_pos e2, if_neg (show ¬ i < b by omega)]
        have h1 := b2 (by omega)
        rw [(by omega : i - 1 = b)] at h1
        have h2 := t_hb_no hd (b := b) (by omega)
        omega
      · rw [if_neg e2]
        by_cases e3 : i < b
        · rw [if_pos e3, if_pos (show i < b + 1 by omega), Nat.add_sub_cancel]
          have h1 := hZ.2 (b - 1) (by omega)
          rw [(by omega : b - 1 + 1 = b)] at h1
          exact h1
        · rw [if_neg e3, if_neg (show ¬ i < b + 1 by omega)]
          exact hZ.2 b (by omega)
theorem Zx_uS {s : Nat → Nat} {v : Nat} (hW : WF s) (hv : v < s 5) (hZ : Zx s) : Zx (uS v s) := by
  have w1 := hW.2.1
  unfold Zx
  rw [uS_fl (k := 4) (by omega) (by omega), uS_5]
  refine ⟨fun q hq hk => ?_, fun b hb => ?_⟩
  · rw [uS_fl (k := 14 + 4 * q) (by omega) (by omega)] at hk
    rw [uS_fl (k := 16 + 4 * q) (by omega) (by omega)]
    exact hZ.1 q hq hk
  · rw [uS_6 (b := b) (by omega), uS_6 (b := b + 1) (by omega)]
    by_cases e1 : v ≤ b
    · rw [if_pos e1, if_pos (show v ≤ b + 1 by omega)]
      exact hZ.2 (b + 1) (by omega)
    · rw [if_neg e1]
      have h1 := hZ.2 b (by omega)
      by_cases e2 : v ≤ b + 1
      · rw [if_pos e2]
        have h2 := hZ.2 (b + 1) (by omega)
        omega
      · rw [if_neg e2]
        exact h1
theorem sm_zero {f : Nat → Nat} : ∀ {n : Nat}, sm f n = 0 → ∀ i, i < n → f i = 0
  | 0, _, i, h => absurd h (Nat.not_lt_zero i)
  | n + 1, e, i, h => by
    have e : sm f n + f n = 0 := e
    by_cases c : i = n
    · rw [c]; omega
    · exact sm_zero (n := n) (by omega) i (by omega)
theorem t_cm_ge {s : Nat → Nat} (hW : WF s) (L p : Nat) : ∀ b, p * s 1 + t_dst s b * s 2 ≤ t_cm s L p b
  | 0 => by
    have h := t_cm_eq s L p 0
    have h1 : t_u s L p 0 = p * s 1 := rfl
    have h2 : t_dv s 0 = 0 := rfl
    rw [h1, h2, Nat.sub_zero] at h
    omega
  | b + 1 => by
    have ih := t_cm_ge hW L p b
    have h := t_cm_eq s L p (b + 1)
    have h1 : t_u s L p (b + 1) = t_cm s L p b + t_lo s L p b := rfl
    have h2 : t_dv s (b + 1) = t_dst s b := rfl
    have h3 := Nat.mul_le_mul_right (s 2) (t_dst_mono hW b)
    rw [h1, h2, Nat.sub_mul] at h
    omega
theorem t_cm_lo0 {s : Nat → Nat} {L : Nat} (h : ∀ p, p < s 4 → ∀ b, t_lo s L p b = 0) : ∀ p, p < s 4 → ∀ b, t_cm s L p b = t_cm s 0 p b := by
  have hl0 : ∀ p b, t_lo s 0 p b = 0 := fun p b => by unfold t_lo; split <;> rfl
  intro p
  induction p with
  | zero =>
    intro hp b
    induction b with
    | zero => rw [t_cm_eq, t_cm_eq s 0]; rfl
    | succ b ihb =>
      rw [t_cm_eq, t_cm_eq s 0]
      show max (t_cm s L 0 b + t_lo s L 0 b + _) (t_ah s L 0 (b + 1)) = max (t_cm s 0 0 b + t_lo s 0 0 b + _) (t_ah s 0 0 (b + 1))
      rw [ihb, h 0 hp, hl0]
      rfl
  | succ p ih =>
    intro hp b
    have ih := ih (by omega)
    have hah : ∀ b, t_ah s L (p + 1) b = t_ah s 0 (p + 1) b := fun b => by
      show t_cm s L p b + t_lo s L p b + s 1 = t_cm s 0 p b + t_lo s 0 p b + s 1
      rw [ih b, h p (by omega), hl0]
    induction b with
    | zero => rw [t_cm_eq, t_cm_eq s 0, hah]; rfl
    | succ b ihb =>
      rw [t_cm_eq, t_cm_eq s 0, hah]
      show max (t_cm s L (p + 1) b + t_lo s L (p + 1) b + _) _ = max (t_cm s 0 (p + 1) b + t_lo s 0 (p + 1) b + _) _
      rw [ihb, h (p + 1) hp, hl0]
/-- nothing waits where no float is lowered -/
theorem t_end_ge {s : Nat → Nat} (hW : WF s) : t_end s 0 ≤ t_end s (s 3) := by
  unfold t_end
  by_cases c : s 4 = 0
  · rw [if_pos c, if_pos c]; exact Nat.le_refl _
  · rw [if_neg c, if_neg c, t_cm0 hW]
    exact t_cm_ge hW _ _ _
theorem t_wait {s : Nat → Nat} (hW : WF s) : t_end s (s 3) = t_end s 0 ∨ (1 ≤ sm (t_lwd s) (s 4) ∧ 1 ≤ s 3) := by
  by_cases c3 : s 3 = 0
  · left; rw [c3]
  · by_cases cs : sm (t_lwd s) (s 4) = 0
    · left
      have hz := sm_zero cs
      have hlo : ∀ p, p < s 4 → ∀ b, t_lo s (s 3) p b = 0 := by
        intro p hp b
        have h1 := hz p hp
        unfold t_lwd at h1
        have h2 : t_nl s p = 0 := by
          by_cases c : t_nl s p = 0
          · exact c
          · rw [if_neg c] at h1; omega
        unfold t_nl at h2
        unfold t_lo
        by_cases cb : b < s 5 ∧ t_low s p b = 1
        · have := sm_zero h2 b cb.1
          omega
        · rw [if_neg cb]
      unfold t_end
      by_cases c : s 4 = 0
      · rw [if_pos c, if_pos c]
      · rw [if_neg c, if_neg c]
        exact t_cm_lo0 hlo _ (by omega) _
    · right; omega
theorem t_hgt_gh {s : Nat → Nat} : ∀ {k p : Nat}, p < k → t_hgt s p ≤ t_gh s k
  | 0, p, h => absurd h (Nat.not_lt_zero p)
  | k + 1, p, h => by
    by_cases c : p = k
    · rw [c]; unfold t_gh; omega
    · have := t_hgt_gh (s := s) (k := k) (p := p) (by omega)
      unfold t_gh; omega
theorem t_hgt_h {s : Nat → Nat} {p : Nat} (hW : WF s) (hp : p < s 4) : 10 ≤ t_hgt s p ∧ t_hgt s p ≤ s (15 + 4 * p) := by
  have := (hW.2.2.1 p hp).2.1
  unfold t_hgt
  omega
theorem t_shy0 {s : Nat → Nat} {p : Nat} (h : s (16 + 4 * p) = 0) : t_shy s p = 0 := by
  unfold t_shy
  rw [h]
  simp
theorem t_cm_b0 {s : Nat → Nat} (L p : Nat) : p * s 1 + (t_dst s 0 - 0) * s 2 ≤ t_cm s L p 0 := by
  have h := t_cm_eq s L p 0
  have h1 : t_u s L p 0 = p * s 1 := rfl
  have h2 : t_dv s 0 = 0 := rfl
  rw [h1, h2] at h
  omega
theorem t_cm_bs {s : Nat → Nat} (L p b : Nat) : t_cm s L p b + (t_dst s (b + 1) - t_dst s b) * s 2 ≤ t_cm s L p (b + 1) := by
  have h := t_cm_eq s L p (b + 1)
  have h1 : t_u s L p (b + 1) = t_cm s L p b + t_lo s L p b := rfl
  have h2 : t_dv s (b + 1) = t_dst s b := rfl
  rw [h1, h2] at h
  omega
theorem t_cm_ah {s : Nat → Nat} (L p b : Nat) : t_cm s L p b + s 1 + t_lo s L p b ≤ t_cm s L (p + 1) b := by
  have h := t_cm_eq s L (p + 1) b
  have h1 : t_ah s L (p + 1) b = t_cm s L p b + t_lo s L p b + s 1 := rfl
  rw [h1] at h
  omega
theorem kY_lex {s t : Nat → Nat} (hs : WF s) (ht : WF t) (h : kY t ≤ kY s) : t_all t < t_all s ∨ (t_all t = t_all s ∧ t_end t (t 3) ≤ t_end s (s 3)) := by
  have h1 := t_end_le hs (L := s 3) hs.1.2.2.2.2.2.2
  have h2 := t_end_le ht (L := t 3) ht.1.2.2.2.2.2.2
  unfold kY at h
  omega
def shck (x : UInt64) : Bool := decide (¬ (Op.cmpValue (FP.dcmp x FP.dconst0) .l < 0)) && decide (¬ (0 < Op.cmpValue (FP.dcmp x FP.dconst1) .g))
theorem shck_all : ∀ m, m < 13 → ∀ k, k < 13 → k ≤ m → 1 ≤ m → shck (shv m k) = true := by decide +kernel
theorem shck_one : shck FP.dconst1 = true := by decide +kernel
theorem t_sh_ck {s : Nat → Nat} (hW : WF s) : ¬ (Op.cmpValue (FP.dcmp (t_sh s) FP.dconst0) .l < 0) ∧ ¬ (0 < Op.cmpValue (FP.dcmp (t_sh s) FP.dconst1) .g) := by
  have w1 := hW.2.1
  have h := sm_le (f := t_trd s) (c := 1) (n := s 4) (fun i _ => by unfold t_trd; split <;> omega)
  have h2 : shck (t_sh s) = true := by
    unfold t_sh
    by_cases c : s 4 = 0
    · rw [if_pos c]; exact shck_one
    · rw [if_neg c]; exact shck_all _ (by omega) _ (by omega) (by omega) (by omega)
  unfold shck at h2
  simp only [Bool.and_eq_true, decide_eq_true_eq] at h2
  exact h2
