/-! the least trouble of all orders -/
def mn (f : Nat → Nat) : Nat → Nat
  | 0 => f 0
  | k + 1 => min (mn f k) (f (k + 1))
theorem mn_le (f : Nat → Nat) {i : Nat} : ∀ {k : Nat}, i ≤ k → mn f k ≤ f i
  | 0, h => by
    have : i = 0 := by omega
    rw [this]; exact Nat.le_refl _
  | k + 1, h => by
    show min _ _ ≤ _
    by_cases e : i = k + 1
    · rw [e]; omega
    · have := mn_le f (i := i) (k := k) (by omega)
      omega
theorem mn_at (f : Nat → Nat) : ∀ k : Nat, ∃ i, i ≤ k ∧ mn f k = f i
  | 0 => ⟨0, Nat.le_refl _, rfl⟩
  | k + 1 => by
    obtain ⟨i, hi, e⟩ := mn_at f k
    by_cases c : mn f k ≤ f (k + 1)
    · exact ⟨i, by omega, by show min _ _ = _; omega⟩
    · exact ⟨k + 1, by omega, by show min _ _ = _; omega⟩
def mI (b : Nat) (f : Nat → Nat) : Nat → Nat
  | 0 => b
  | k + 1 => min (mI b f k) (f k)
theorem mI_mn (b a : Nat) (f : Nat → Nat) : ∀ k : Nat, mI b (fun r => a + f r) (k + 1) = min b (a + mn f k)
  | 0 => rfl
  | k + 1 => by
    show min (mI b (fun r => a + f r) (k + 1)) (a + f (k + 1)) = min b (a + min (mn f k) (f (k + 1)))
    rw [mI_mn b a f k]
    omega
theorem mI_le (b : Nat) (f : Nat → Nat) : ∀ k : Nat, mI b f k ≤ b
  | 0 => Nat.le_refl _
  | k + 1 => by
    have := mI_le b f k
    show min _ _ ≤ _
    omega
theorem mI_of {b x : Nat} {f : Nat → Nat} {m : Nat} (h1 : ∀ k, k < m → x ≤ f k) (h2 : ∃ k, k < m ∧ f k = x) : mI b f m = min b x := by
  have hge : ∀ k, k ≤ m → min b x ≤ mI b f k := by
    intro k
    induction k with
    | zero => intro _; show _ ≤ b; omega
    | succ k ih =>
      intro h
      have := ih (by omega)
      have := h1 k (by omega)
      show _ ≤ min _ _
      omega
  obtain ⟨i, hi, e⟩ := h2
  have hle : ∀ k, i < k → mI b f k ≤ x := by
    intro k
    induction k with
    | zero => intro h; omega
    | succ k ih =>
      intro h
      show min _ _ ≤ _
      by_cases c : i = k
      · rw [← c, e]; omega
      · have := ih (by omega); omega
  have := hge m (Nat.le_refl _)
  have := hle m hi
  have := mI_le b f m
  omega
def tT (d : Nat) (s : Nat → Nat) (p : Nat) : Nat := sm (fun i => t_at s (p + i)) d
theorem tT_succ (d : Nat) (s : Nat → Nat) (p : Nat) : tT (d + 1) s p = t_at s p + tT d s (p + 1) := by
  unfold tT
  rw [sm_shift]
  show t_at s (p + 0) + _ = _
  rw [Nat.add_zero]
  congr 1
  exact sm_congr (fun i _ => by congr 1; omega)
def lT : Nat → (Nat → Nat) → Nat → Nat
  | 0, _, _ => 0
  | d + 1, s, p => mn (fun r => t_at (pS (sw p (p + r)) s) p + lT d (pS (sw p (p + r)) s) (p + 1)) d
def od : Nat → (Nat → Nat) → Nat → Nat → Nat → Nat
  | 0, s, _, _ => s
  | d + 1, s, p, k => od d (pS (mv (p + k % (d + 1)) p) s) (p + 1) (k / (d + 1))
def fac : Nat → Nat
  | 0 => 1
  | d + 1 => fac d * (d + 1)
/-- an order of the places from p on, before m -/
def Pm (p m : Nat) (π : Nat → Nat) : Prop := (∀ q, q < p ∨ m ≤ q → π q = q) ∧ (∀ q, p ≤ q → q < m → p ≤ π q ∧ π q < m) ∧ ∀ q q', p ≤ q → q < m → p ≤ q' → q' < m → π q = π q' → q = q'
theorem t_at_cg {s t : Nat → Nat} {p : Nat} (h0 : s 0 = t 0) (h : ∀ q, q ≤ p → s (14 + 4 * q) = t (14 + 4 * q)) (h2 : s (16 + 4 * p) = t (16 + 4 * p)) : t_at s p = t_at t p := by
  unfold t_at t_shy t_hear t_meet
  rw [h2, h p (by omega), h (p - 1) (by omega), h (p - 2) (by omega)]
  have e : sm (t_h1 s p) p = sm (t_h1 t p) p := sm_congr (fun i hi => by unfold t_h1; rw [h i (by omega), h0])
  rw [e]
theorem t_at_fix {π : Nat → Nat} {s : Nat → Nat} {p : Nat} (h : ∀ q, q ≤ p → π q = q) : t_at (pS π s) p = t_at s p := by
  refine t_at_cg (pS_lo (by omega)) (fun q hq => ?_) ?_
  · rw [pS_0, h q hq]
  · rw [pS_2, h p (by omega)]
theorem Pm_swap {p m j : Nat} {π : Nat → Nat} (h : Pm p m π) (hp : p < m) (hj : π p = j) : Pm (p + 1) m (fun q => sw p j (π q)) := by
  obtain ⟨h1, h2, h3⟩ := h
  have hj2 := h2 p (by omega) hp
  rw [hj] at hj2
  have key : ∀ q, p + 1 ≤ q → q < m → p + 1 ≤ sw p j (π q) ∧ sw p j (π q) < m := by
    intro q hq hm
    have a := h2 q (by omega) hm
    have b : π q ≠ j := fun e => by have := h3 q p (by omega) hm (by omega) hp (by rw [e, hj]); omega
    unfold sw
    by_cases c : π q = p
    · rw [if_pos c]; omega
    · rw [if_neg c, if_neg b]; omega
  refine ⟨fun q hq => ?_, key, fun q q' a b c d e => h3 q q' (by omega) b (by omega) d ?_⟩
  · by_cases c : q = p
    · dsimp only; rw [c, hj]; unfold sw
      by_cases c2 : j = p
      · rw [if_pos c2]; omega
      · rw [if_neg c2, if_pos rfl]
    · dsimp only; rw [h1 q (by omega)]; unfold sw; rw [if_neg c, if_neg (by omega)]
  · have := congrArg (sw p j) e
    dsimp only at this
    rw [sw_sw, sw_sw] at this
    exact this
theorem mv_mv (p j q : Nat) : mv j p (mv p j q) = q := by
  unfold mv
  by_cases a : q = j
  · rw [if_pos a, if_pos rfl]; omega
  · rw [if_neg a]
    by_cases b : p ≤ q ∧ q < j
    · rw [if_pos b, if_neg (by omega), if_neg (by omega), if_pos (by omega)]; omega
    · rw [if_neg b]
      by_cases c : j < q ∧ q ≤ p
      · rw [if_pos c]
        by_cases d : q - 1 = p
        · omega
        · rw [if_neg d, if_pos (by omega)]; omega
      · rw [if_neg c]
        by_cases d : q = p
        · omega
        · rw [if_neg d, if_neg (by omega), if_neg (by omega)]
theorem Pm_mv {p m j : Nat} {π : Nat → Nat} (h : Pm p m π) (hp : p < m) (hj : π p = j) : Pm (p + 1) m (fun q => mv p j (π q)) := by
  obtain ⟨h1, h2, h3⟩ := h
  have hj2 := h2 p (by omega) hp
  rw [hj] at hj2
  have key : ∀ q, p + 1 ≤ q → q < m → p + 1 ≤ mv p j (π q) ∧ mv p j (π q) < m := by
    intro q hq hm
    have a := h2 q (by omega) hm
    have b : π q ≠ j := fun e => by have := h3 q p (by omega) hm (by omega) hp (by rw [e, hj]); omega
    unfold mv
    rw [if_neg b]
    by_cases c : p ≤ π q ∧ π q < j
    · rw [if_pos c]; omega
    · rw [if_neg c, if_neg (by omega)]; omega
  refine ⟨fun q hq => ?_, key, fun q q' a b c d e => h3 q q' (by omega) b (by omega) d ?_⟩
  · by_cases c : q = p
    · dsimp only; rw [c, hj]; unfold mv
      rw [if_pos rfl]
    · dsimp only; rw [h1 q (by omega)]; unfold mv; rw [if_neg (by omega), if_neg (by omega), if_neg (by omega)]
  · have := congrArg (mv j p) e
    dsimp only at this
    rw [mv_mv, mv_mv] at this
    exact this
theorem Pm_comp {p m : Nat} {σ ρ : Nat → Nat} (hσ : Pm p m σ) (hρ : Pm (p + 1) m ρ) (hp : p < m) : Pm p m (fun q => σ (ρ q)) := by
  obtain ⟨h1, h2, h3⟩ := hσ
  obtain ⟨g1, g2, g3⟩ := hρ
  have r : ∀ q, p ≤ q → q < m → p ≤ ρ q ∧ ρ q < m := by
    intro q hq hm
    by_cases c : q = p
    · rw [g1 q (by omega)]; omega
    · have := g2 q (by omega) hm; omega
  have ri : ∀ q q', p ≤ q → q < m → p ≤ q' → q' < m → ρ q = ρ q' → q = q' := by
    intro q q' a b c d e
    by_cases x : q = p
    · by_cases y : q' = p
      · omega
      · rw [g1 q (by omega)] at e
        have := g2 q' (by omega) d; omega
    · by_cases y : q' = p
      · rw [g1 q' (by omega)] at e
        have := g2 q (by omega) b; omega
      · exact g3 q q' (by omega) b (by omega) d e
  refine ⟨fun q hq => ?_, fun q hq hm => ?_, fun q q' a b c d e => ?_⟩
  · show σ (ρ q) = q
    rw [g1 q (by omega), h1 q hq]
  · have := r q hq hm
    exact h2 (ρ q) this.1 this.2
  · have x := r q a b
    have y := r q' c d
    exact ri q q' a b c d (h3 (ρ q) (ρ q') x.1 x.2 y.1 y.2 e)
theorem Pm_sw {p m j : Nat} (h1 : p ≤ j) (h2 : j < m) : Pm p m (sw p j) := by
  refine ⟨fun q hq => ?_, fun q hq hm => ?_, fun q q' a b c d e => ?_⟩
  · unfold sw
    by_cases c : q = p
    · omega
    · rw [if_neg c, if_neg (by omega)]
  · unfold sw
    by_cases c : q = p
    · rw [if_pos c]; omega
    · rw [if_neg c]
      by_cases c2 : q = j
      · rw [if_pos c2]; omega
      · rw [if_neg c2]; omega
  · have := congrArg (sw p j) e
    rw [sw_sw, sw_sw] at this
    exact this
theorem Pm_mvp {p m j : Nat} (h1 : p ≤ j) (h2 : j < m) : Pm p m (mv j p) := by
  have key : ∀ q, p ≤ q → q < m → p ≤ mv j p q ∧ mv j p q < m := by
    intro q hq hm
    unfold mv
    by_cases c : q = p
    · rw [if_pos c]; omega
    · rw [if_neg c]
      by_cases c2 : j ≤ q ∧ q < p
      · omega
      · rw [if_neg c2]
        by_cases c3 : p < q ∧ q ≤ j
        · rw [if_pos c3]; omega
        · rw [if_neg c3]; omega
  refine ⟨fun q hq => ?_, key, fun q q' a b c d e => ?_⟩
  · unfold mv
    rw [if_neg (by omega), if_neg (by omega), if_neg (by omega)]
  · have := congrArg (mv p j) e
    rw [mv_mv, mv_mv] at this
    exact this
/-- no order has less -/
theorem lT_le : ∀ (d : Nat) (s : Nat → Nat) (p : Nat) (π : Nat → Nat), Pm p (p + d) π → lT d s p ≤ tT d (pS π s) p
  | 0, _, _, _, _ => Nat.zero_le _
  | d + 1, s, p, π, h => by
    have hj := h.2.1 p (by omega) (by omega)
    have hP := Pm_swap h (by omega) (rfl : π p = π p)
    have e : pS π s = pS (fun q => sw p (π p) (π q)) (pS (sw p (π p)) s) := by
      rw [pS_pS]
      exact pS_cg (fun q => (sw_sw p (π p) (π q)).symm) s
    rw [tT_succ, e, t_at_fix (fun q hq => hP.1 q (by omega))]
    have ih := lT_le d (pS (sw p (π p)) s) (p + 1) _ (by rw [(by omega : p + 1 + d = p + (d + 1))]; exact hP)
    have h1 := mn_le (fun r => t_at (pS (sw p (p + r)) s) p + lT d (pS (sw p (p + r)) s) (p + 1)) (i := π p - p) (k := d) (by omega)
    rw [(by omega : p + (π p - p) = π p)] at h1
    show mn _ d ≤ _
    omega
/-- one order has as little -/
theorem lT_at : ∀ (d : Nat) (s : Nat → Nat) (p : Nat), ∃ π, Pm p (p + d) π ∧ tT d (pS π s) p = lT d s p
  | 0, s, p => ⟨fun q => q, ⟨fun _ _ => rfl, fun q h1 h2 => ⟨h1, h2⟩, fun _ _ _ _ _ _ e => e⟩, rfl⟩
  | d + 1, s, p => by
    obtain ⟨r, hr, e⟩ := mn_at (fun r => t_at (pS (sw p (p + r)) s) p + lT d (pS (sw p (p + r)) s) (p + 1)) d
    obtain ⟨ρ, hρ, e2⟩ := lT_at d (pS (sw p (p + r)) s) (p + 1)
    rw [(by omega : p + 1 + d = p + (d + 1))] at hρ
    refine ⟨fun q => sw p (p + r) (ρ q), Pm_comp (Pm_sw (by omega) (by omega)) hρ (by omega), ?_⟩
    rw [tT_succ, ← pS_pS, t_at_fix (fun q hq => hρ.1 q (by omega)), e2]
    exact e.symm
theorem od_pm : ∀ (d : Nat) (s : Nat → Nat) (p k : Nat), ∃ π, Pm p (p + d) π ∧ od d s p k = pS π s
  | 0, s, p, k => ⟨fun q => q, ⟨fun _ _ => rfl, fun q h1 h2 => ⟨h1, h2⟩, fun _ _ _ _ _ _ e => e⟩, (pS_id (fun _ => rfl) s).symm⟩
  | d + 1, s, p, k => by
    have hm : k % (d + 1) < d + 1 := Nat.mod_lt _ (by omega)
    obtain ⟨ρ, hρ, e2⟩ := od_pm d (pS (mv (p + k % (d + 1)) p) s) (p + 1) (k / (d + 1))
    rw [(by omega : p + 1 + d = p + (d + 1))] at hρ
    refine ⟨fun q => mv (p + k % (d + 1)) p (ρ q), Pm_comp (Pm_mvp (by omega) (by omega)) hρ (by omega), ?_⟩
    show od d _ _ _ = _
    rw [e2, pS_pS]
theorem od_all : ∀ (d : Nat) (s : Nat → Nat) (p : Nat) (π : Nat → Nat), Pm p (p + d) π → ∃ k, k < fac d ∧ od d s p k = pS π s
  | 0, s, p, π, h => ⟨0, Nat.lt_succ_self 0, (pS_id (fun q => h.1 q (by omega)) s).symm⟩
  | d + 1, s, p, π, h => by
    have hj := h.2.1 p (by omega) (by omega)
    have hP := Pm_mv h (by omega) (rfl : π p = π p)
    obtain ⟨k, hk, e⟩ := od_all d (pS (mv (π p) p) s) (p + 1) _ (by rw [(by omega : p + 1 + d = p + (d + 1))]; exact hP)
    refine ⟨(π p - p) + (d + 1) * k, ?_, ?_⟩
    · show _ < fac d * (d + 1)
      have h1 : (d + 1) * (k + 1) ≤ (d + 1) * fac d := Nat.mul_le_mul_left _ hk
      rw [Nat.mul_succ] at h1
      rw [Nat.mul_comm (fac d)]
      omega
    · have m1 : ((π p - p) + (d + 1) * k) % (d + 1) = π p - p := by rw [Nat.add_mul_mod_self_left, Nat.mod_eq_of_lt (by omega)]
      have m2 : ((π p - p) + (d + 1) * k) / (d + 1) = k := by rw [Nat.add_mul_div_left _ _ (by omega), Nat.div_eq_of_lt (by omega)]; omega
      show od d (pS (mv (p + ((π p - p) + (d + 1) * k) % (d + 1)) p) s) (p + 1) (((π p - p) + (d + 1) * k) / (d + 1)) = _
      rw [m1, m2, (by omega : p + (π p - p) = π p), e, pS_pS]
      exact pS_cg (fun q => mv_mv p (π p) (π q)) s
theorem least_eq (s : Nat → Nat) : mI (t_all s) (fun k => t_all (od (s 4) s 0 k)) (fac (s 4)) = min (t_all s) (lT (s 4) s 0) := by
  have ta : ∀ π, t_all (pS π s) = tT (s 4) (pS π s) 0 := by
    intro π
    unfold t_all tT
    rw [pS_lo (by omega)]
    exact sm_congr (fun i _ => by rw [Nat.zero_add])
  refine mI_of (fun k _ => ?_) ?_
  · obtain ⟨π, hπ, e⟩ := od_pm (s 4) s 0 k
    rw [e, ta]
    exact lT_le (s 4) s 0 π hπ
  · obtain ⟨π, hπ, e⟩ := lT_at (s 4) s 0
    obtain ⟨k, hk, e2⟩ := od_all (s 4) s 0 π hπ
    refine ⟨k, hk, ?_⟩
    rw [e2, ta, e]
