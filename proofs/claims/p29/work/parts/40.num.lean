/-! PURE LEVEL: numbers, loops, the flat state and what is asked of it -/
def kM : Int32 := -1
theorem kl_0 : (0 : Int32) = nI 0 := rfl
theorem kl_1 : (1 : Int32) = nI 1 := rfl
theorem kl_2 : (2 : Int32) = nI 2 := rfl
theorem kl_3 : (3 : Int32) = nI 3 := rfl
theorem kl_4 : (4 : Int32) = nI 4 := rfl
theorem kl_5 : (5 : Int32) = nI 5 := rfl
theorem kl_6 : (6 : Int32) = nI 6 := rfl
theorem kl_7 : (7 : Int32) = nI 7 := rfl
theorem kl_8 : (8 : Int32) = nI 8 := rfl
theorem kl_9 : (9 : Int32) = nI 9 := rfl
theorem kl_10 : (10 : Int32) = nI 10 := rfl
theorem kl_12 : (12 : Int32) = nI 12 := rfl
theorem kl_14 : (14 : Int32) = nI 14 := rfl
theorem kl_15 : (15 : Int32) = nI 15 := rfl
theorem kl_16 : (16 : Int32) = nI 16 := rfl
theorem kl_20 : (20 : Int32) = nI 20 := rfl
theorem kl_31 : (31 : Int32) = nI 31 := rfl
theorem kl_33 : (33 : Int32) = nI 33 := rfl
theorem kl_48 : (48 : Int32) = nI 48 := rfl
theorem kl_49 : (49 : Int32) = nI 49 := rfl
theorem kl_50 : (50 : Int32) = nI 50 := rfl
theorem kl_57 : (57 : Int32) = nI 57 := rfl
theorem kl_59 : (59 : Int32) = nI 59 := rfl
theorem kl_60 : (60 : Int32) = nI 60 := rfl
theorem kl_62 : (62 : Int32) = nI 62 := rfl
theorem kl_63 : (63 : Int32) = nI 63 := rfl
theorem kl_98 : (98 : Int32) = nI 98 := rfl
theorem kl_99 : (99 : Int32) = nI 99 := rfl
theorem kl_103 : (103 : Int32) = nI 103 := rfl
theorem kl_104 : (104 : Int32) = nI 104 := rfl
theorem kl_126 : (126 : Int32) = nI 126 := rfl
theorem kl_144 : (144 : Int32) = nI 144 := rfl
theorem kl_310 : (310 : Int32) = nI 310 := rfl
theorem kl_372 : (372 : Int32) = nI 372 := rfl
theorem kl_100000 : (100000 : Int32) = nI 100000 := rfl
theorem kl_1000000 : (1000000 : Int32) = nI 1000000 := rfl
theorem kl_neg : -(nI 1) = kM := rfl
theorem kl_sub {a b : Nat} (h : b ≤ a) : nI a - nI b = nI (a - b) := by
  have e : nI a = nI (a - b) + nI b := by rw [nI_add]; congr 1; omega
  rw [e, Int32.add_sub_cancel]
theorem kl_mul (a b : Nat) : nI a * nI b = nI (a * b) := by
  apply Int32.toBitVec_inj.1
  show BitVec.ofNat 32 a * BitVec.ofNat 32 b = BitVec.ofNat 32 (a * b)
  rw [BitVec.ofNat_mul]
theorem kl_mm : kM + nI 1 = nI 0 := rfl
theorem kl_am {a : Nat} (h : 0 < a) : nI a + kM = nI (a - 1) := by
  have e : nI a = nI (a - 1) + nI 1 := by rw [nI_add]; congr 1; omega
  rw [e, Int32.add_assoc]
  show nI (a - 1) + nI 0 = _
  rw [nI_add]; rfl
theorem kl_le {a b : Nat} (ha : a < 2147483648) (hb : b < 2147483648) : (nI a ≤ nI b) = (a ≤ b) := propext (nI_leI ha hb)
theorem kl_lt {a b : Nat} (ha : a < 2147483648) (hb : b < 2147483648) : (nI a < nI b) = (a < b) := propext (nI_ltI ha hb)
theorem kl_eq {a b : Nat} (ha : a < 2147483648) (hb : b < 2147483648) : (nI a = nI b) = (a = b) := propext (nI_eq ha hb)
theorem kl_Mi : kM.toInt = -1 := by decide
theorem kl_eM {a : Nat} (ha : a < 2147483648) : (nI a = kM) = False := by
  refine eq_false (fun h => ?_)
  have h1 := congrArg Int32.toInt h
  rw [nI_toInt ha, kl_Mi] at h1
  omega
theorem kl_Me {a : Nat} (ha : a < 2147483648) : (kM = nI a) = False := by
  refine eq_false (fun h => ?_)
  have h1 := congrArg Int32.toInt h
  rw [nI_toInt ha, kl_Mi] at h1
  omega
theorem kl_ltM {a : Nat} (ha : a < 2147483648) : (kM < nI a) = True := by
  refine eq_true ?_
  rw [Int32.lt_iff_toInt_lt, nI_toInt ha, kl_Mi]
  omega
theorem kl_leM {a : Nat} (ha : a < 2147483648) : (nI a ≤ kM) = False := by
  refine eq_false ?_
  rw [Int32.le_iff_toInt_le, nI_toInt ha, kl_Mi]
  omega
theorem kl_ck {α : Type} {i n : Nat} {x : Option α} (h : i < n) (hn : n < 2147483648) : kk_ck (nI i) n x = x := by
  unfold kk_ck
  rw [if_neg (nI_in h hn)]
theorem kl_cb {α : Type} {i : Nat} {x : Option α} (h : i ≤ 1) : kk_cb (nI i) x = x := by
  unfold kk_cb
  have : i = 0 ∨ i = 1 := by omega
  rcases this with rfl | rfl
  · rfl
  · rfl
theorem kl_cj {α : Type} {i : Nat} {x : Option α} (h : i < 6) : kk_cj i x = x := by
  unfold kk_cj
  rw [if_pos h]
theorem kl_cd {α : Type} {i : Nat} {x : Option α} (h : 0 < i) (hn : i < 2147483648) : kk_cd (nI i) x = x := by
  unfold kk_cd
  rw [if_neg (nI_ne0 h hn)]
/-! loops -/
theorem kl_mono {σ ρ : Type} {body : σ → Option (σ ⊕ ρ)} {r : ρ} : ∀ {k : Nat} {n : Nat} {s : σ}, k ≤ n → kk_it body k s = some r → kk_it body n s = some r := by
  intro k
  induction k with
  | zero => intro n s _ h; cases h
  | succ k ih =>
    intro n s hkn h
    cases n with
    | zero => omega
    | succ n =>
      rw [kk_it] at h ⊢
      cases hb : body s with
      | none => rw [hb] at h; cases h
      | some x =>
        rw [hb] at h
        cases x with
        | inl s' => exact ih (by omega) h
        | inr r' => exact h
theorem kl_stepL {σ ρ : Type} {body : σ → Option (σ ⊕ ρ)} {n : Nat} {s s' : σ} (h : body s = some (.inl s')) : kk_it body (n + 1) s = kk_it body n s' := by
  rw [kk_it, h]; rfl
theorem kl_stepR {σ ρ : Type} {body : σ → Option (σ ⊕ ρ)} {n : Nat} {s : σ} {r : ρ} (h : body s = some (.inr r)) : kk_it body (n + 1) s = some r := by
  rw [kk_it, h]; rfl
theorem kl_while {σ ρ : Type} {body : σ → Option (σ ⊕ ρ)} (I : σ → Prop) (Q : ρ → Prop) (μ : σ → Nat) (hs : ∀ s, I s → (∃ s', body s = some (.inl s') ∧ I s' ∧ μ s' < μ s) ∨ ∃ r, body s = some (.inr r) ∧ Q r) : ∀ (n : Nat) (s : σ), I s → μ s < n → ∃ r, kk_it body n s = some r ∧ Q r := by
  intro n
  induction n with
  | zero => intro s _ h; omega
  | succ n ih =>
    intro s hI hμ
    rcases hs s hI with ⟨s', e, hI', hl⟩ | ⟨r, e, hQ⟩
    · rw [kl_stepL e]
      exact ih s' hI' (by omega)
    · exact ⟨r, kl_stepR e, hQ⟩
theorem kl_forI {σ ρ : Type} {body : σ → Option (σ ⊕ ρ)} (I : Nat → σ → Prop) (Q : ρ → Prop) (b : Nat) (hs : ∀ k s, k < b → I k s → ∃ s', body s = some (.inl s') ∧ I (k + 1) s') (hf : ∀ s, I b s → ∃ r, body s = some (.inr r) ∧ Q r) : ∀ (n a : Nat) (s : σ), a ≤ b → b - a < n → I a s → ∃ r, kk_it body n s = some r ∧ Q r := by
  intro n
  induction n with
  | zero => intro a s _ h; omega
  | succ n ih =>
    intro a s hab hn hI
    by_cases h : a = b
    · subst h
      obtain ⟨r, e, hQ⟩ := hf s hI
      exact ⟨r, kl_stepR e, hQ⟩
    · obtain ⟨s', e, hI'⟩ := hs a s (by omega) hI
      rw [kl_stepL e]
      exact ih (a + 1) s' (by omega) (by omega) hI'
theorem kl_for {σ ρ : Type} {body : σ → Option (σ ⊕ ρ)} (S : Nat → σ) (r : ρ) (b : Nat) (hs : ∀ k, k < b → body (S k) = some (.inl (S (k + 1)))) (hf : body (S b) = some (.inr r)) : ∀ (n a : Nat), a ≤ b → b - a < n → kk_it body n (S a) = some r := by
  intro n a hab hn
  obtain ⟨r', e, hQ⟩ := kl_forI (body := body) (fun k s => s = S k) (fun r' => r' = r) b (fun k s hk e => ⟨_, by rw [e]; exact hs k hk, rfl⟩) (fun s e => ⟨r, by rw [e]; exact hf, rfl⟩) n a (S a) hab hn rfl
  rw [e, hQ]
/-! sums -/
def sm (f : Nat → Nat) : Nat → Nat
  | 0 => 0
  | n + 1 => sm f n + f n
theorem sm_congr {f g : Nat → Nat} : ∀ {n : Nat}, (∀ i, i < n → f i = g i) → sm f n = sm g n
  | 0, _ => rfl
  | n + 1, h => by
    show sm f n + f n = sm g n + g n
    rw [sm_congr (fun i hi => h i (by omega)), h n (by omega)]
theorem sm_le {f : Nat → Nat} {c : Nat} : ∀ {n : Nat}, (∀ i, i < n → f i ≤ c) → sm f n ≤ c * n
  | 0, _ => Nat.zero_le _
  | n + 1, h => by
    have h1 := sm_le (f := f) (c := c) (n := n) (fun i hi => h i (by omega))
    have h2 := h n (by omega)
    show sm f n + f n ≤ c * (n + 1)
    rw [Nat.mul_succ]
    omega
theorem sm_tail {f : Nat → Nat} {m : Nat} : ∀ {n : Nat}, m ≤ n → (∀ i, m ≤ i → i < n → f i = 0) → sm f n = sm f m
  | 0, h, _ => by
    have : m = 0 := by omega
    rw [this]
  | n + 1, h, hz => by
    by_cases e : m = n + 1
    · rw [e]
    · show sm f n + f n = _
      rw [hz n (by omega) (by omega), sm_tail (n := n) (by omega) (fun i h1 h2 => hz i h1 (by omega))]
      rfl
theorem sm_shift (f : Nat → Nat) : ∀ n, sm f (n + 1) = f 0 + sm (fun i => f (i + 1)) n
  | 0 => by show 0 + f 0 = f 0 + 0; omega
  | n + 1 => by
    show sm f (n + 1) + f (n + 1) = f 0 + (sm (fun i => f (i + 1)) n + f (n + 1))
    rw [sm_shift f n]; omega
theorem sm_rev (f : Nat → Nat) : ∀ n, sm (fun i => f (n - 1 - i)) n = sm f n
  | 0 => rfl
  | n + 1 => by
    rw [sm_shift]
    show f (n + 1 - 1 - 0) + sm (fun i => f (n + 1 - 1 - (i + 1))) n = sm f n + f n
    have e : sm (fun i => f (n + 1 - 1 - (i + 1))) n = sm (fun i => f (n - 1 - i)) n := sm_congr (fun i _ => by congr 1; omega)
    rw [e, sm_rev f n]
    show f n + sm f n = sm f n + f n
    omega
/-! the flat state s: 0 hearing, 1 gap, 2 pace, 3 lowering, 4 floats, 5 bridges, 6+2b 7+2b a bridge, 14+4p .. 17+4p a float -/
def t_shy (s : Nat → Nat) (p : Nat) : Nat := (if 1 ≤ p ∧ (s (16 + 4 * p)).testBit (s (14 + 4 * (p - 1))) = true then 3 else 0) + (if 2 ≤ p ∧ (s (16 + 4 * p)).testBit (s (14 + 4 * (p - 2))) = true then 1 else 0)
def t_h1 (s : Nat → Nat) (p q : Nat) : Nat := if s (14 + 4 * q) = 2 ∧ p - q < s 0 then 1 else 0
def t_hear (s : Nat → Nat) (p : Nat) : Nat := if s (14 + 4 * p) = 2 then sm (t_h1 s p) p else 0
def t_meet (s : Nat → Nat) (p : Nat) : Nat := if 1 ≤ p ∧ s (14 + 4 * p) = 3 ∧ s (14 + 4 * (p - 1)) = 3 then 2 else 0
def t_at (s : Nat → Nat) (p : Nat) : Nat := t_shy s p + t_hear s p + t_meet s p
def t_all (s : Nat → Nat) : Nat := sm (t_at s) (s 4)
def t_hgt (s : Nat → Nat) (p : Nat) : Nat := max 10 (s (15 + 4 * p) - 20 * s (17 + 4 * p))
def t_low (s : Nat → Nat) (p b : Nat) : Nat := if s (7 + 2 * b) < t_hgt s p then 1 else 0
def t_dst (s : Nat → Nat) (b : Nat) : Nat := if b < s 5 then s (6 + 2 * b) else 60
def t_lo (s : Nat → Nat) (L p b : Nat) : Nat := if b < s 5 ∧ t_low s p b = 1 then L else 0
def t_row (s : Nat → Nat) (L p : Nat) (ah : Nat → Nat) : Nat → Nat
  | 0 => max (p * s 1 + t_dst s 0 * s 2) (ah 0)
  | b + 1 => max (t_row s L p ah b + t_lo s L p b + (t_dst s (b + 1) - t_dst s b) * s 2) (ah (b + 1))
def t_cm (s : Nat → Nat) (L : Nat) : Nat → Nat → Nat
  | 0 => t_row s L 0 (fun _ => 0)
  | p + 1 => t_row s L (p + 1) (fun b => t_cm s L p b + t_lo s L p b + s 1)
def t_end (s : Nat → Nat) (L : Nat) : Nat := if s 4 = 0 then 0 else t_cm s L (s 4 - 1) (s 5)
/-- bounds -/
def WF (s : Nat → Nat) : Prop :=
  (1 ≤ s 0 ∧ s 0 ≤ 6 ∧ 1 ≤ s 1 ∧ s 1 ≤ 9 ∧ 1 ≤ s 2 ∧ s 2 ≤ 9 ∧ s 3 ≤ 20) ∧ (s 4 ≤ 12 ∧ s 5 ≤ 4) ∧ (∀ p, p < s 4 → s (14 + 4 * p) ≤ 3 ∧ 10 ≤ s (15 + 4 * p) ∧ s (15 + 4 * p) ≤ 99 ∧ s (16 + 4 * p) ≤ 15 ∧ s (17 + 4 * p) ≤ 1) ∧ (∀ b, b < s 5 → 1 ≤ s (6 + 2 * b) ∧ s (6 + 2 * b) ≤ 50 ∧ 10 ≤ s (7 + 2 * b) ∧ s (7 + 2 * b) ≤ 99) ∧ (∀ b, b + 1 < s 5 → s (6 + 2 * b) ≤ s (6 + 2 * (b + 1)))
/-- a parade of the class shows the state -/
def RP (P : St1) (s : Nat → Nat) : Prop :=
  P 0 0 = nI (s 4) ∧ P 5 0 = nI (s 5) ∧ (∀ p, p < s 4 → P 1 p = nI (s (14 + 4 * p)) ∧ P 2 p = nI (s (15 + 4 * p)) ∧ P 3 p = nI (s (16 + 4 * p)) ∧ P 4 p = nI (s (17 + 4 * p))) ∧ (∀ b, b < s 5 → P 6 b = nI (s (6 + 2 * b)) ∧ P 7 b = nI (s (7 + 2 * b))) ∧ (∀ i, i < 4 → P 8 i = nI (s i))
/-- a row of the reference shows it -/
def RM (f : Nat → Int32) (s : Nat → Nat) : Prop := ∀ k, k < 62 → f k = nI (s k)
theorem t_low_le (s : Nat → Nat) (p b : Nat) : t_low s p b ≤ 1 := by unfold t_low; split <;> omega
theorem t_shy_le (s : Nat → Nat) (p : Nat) : t_shy s p ≤ 4 := by unfold t_shy; split <;> split <;> omega
theorem t_meet_le (s : Nat → Nat) (p : Nat) : t_meet s p ≤ 2 := by unfold t_meet; split <;> omega
theorem t_hear_le (s : Nat → Nat) (p : Nat) : t_hear s p ≤ p := by
  unfold t_hear
  split
  · have := sm_le (f := t_h1 s p) (c := 1) (n := p) (fun i _ => by unfold t_h1; split <;> omega)
    omega
  · omega
theorem t_at_le (s : Nat → Nat) (p : Nat) (hp : p < 12) : t_at s p ≤ 17 := by
  unfold t_at
  have := t_shy_le s p
  have := t_meet_le s p
  have := t_hear_le s p
  omega
theorem t_all_le (s : Nat → Nat) (h : s 4 ≤ 12) : t_all s ≤ 204 := by
  have := sm_le (f := t_at s) (c := 17) (n := s 4) (fun i hi => t_at_le s i (by omega))
  unfold t_all
  omega
theorem t_hgt_le {s : Nat → Nat} {p : Nat} (h : WF s) (hp : p < s 4) : t_hgt s p ≤ 99 := by
  obtain ⟨-, -, h3, -⟩ := h
  have := h3 p hp
  unfold t_hgt
  omega
theorem t_lo_le (s : Nat → Nat) (L p b : Nat) : t_lo s L p b ≤ L := by unfold t_lo; split <;> omega
theorem t_dst_le {s : Nat → Nat} (h : WF s) (b : Nat) : t_dst s b ≤ 60 := by
  obtain ⟨-, -, -, h4, -⟩ := h
  unfold t_dst
  split
  · have := h4 b (by assumption); omega
  · omega
theorem t_dst_mono {s : Nat → Nat} (h : WF s) (b : Nat) : t_dst s b ≤ t_dst s (b + 1) := by
  obtain ⟨-, -, -, h4, h5⟩ := h
  unfold t_dst
  split <;> split
  · exact h5 b (by assumption)
  · have := h4 b (by assumption); omega
  · omega
  · omega
theorem t_row_le {s : Nat → Nat} (h : WF s) {L p : Nat} (hL : L ≤ 20) {ah : Nat → Nat} (ha : ∀ b, ah b ≤ 9 * p + 9 * t_dst s b + 20 * (p + b)) : ∀ b, t_row s L p ah b ≤ 9 * p + 9 * t_dst s b + 20 * (p + b)
  | 0 => by
    have h0 := ha 0
    have h1 : s 1 ≤ 9 := h.1.2.2.2.1
    have h2 : s 2 ≤ 9 := h.1.2.2.2.2.2.1
    have m1 : p * s 1 ≤ p * 9 := Nat.mul_le_mul_left p h1
    have m2 : t_dst s 0 * s 2 ≤ t_dst s 0 * 9 := Nat.mul_le_mul_left _ h2
    show max _ _ ≤ _
    omega
  | b + 1 => by
    have h0 := ha (b + 1)
    have h2 : s 2 ≤ 9 := h.1.2.2.2.2.2.1
    have hd := t_dst_mono h b
    have m2 : (t_dst s (b + 1) - t_dst s b) * s 2 ≤ (t_dst s (b + 1) - t_dst s b) * 9 := Nat.mul_le_mul_left _ h2
    have hl := t_lo_le s L p b
    have ih := t_row_le h hL ha b
    show max _ _ ≤ _
    omega
theorem t_cm_le' {s : Nat → Nat} (h : WF s) {L : Nat} (hL : L ≤ 20) : ∀ p b, t_cm s L p b ≤ 9 * p + 9 * t_dst s b + 20 * (p + b)
  | 0 => fun b => t_row_le h hL (fun _ => Nat.zero_le _) b
  | p + 1 => fun b => t_row_le h hL (fun b => by
      have h1 : s 1 ≤ 9 := h.1.2.2.2.1
      have hl := t_lo_le s L p b
      have ih := t_cm_le' h hL p b
      omega) b
theorem t_cm_le {s : Nat → Nat} (h : WF s) {L : Nat} (hL : L ≤ 20) {p b : Nat} (hp : p < 12) (hb : b ≤ 4) : t_cm s L p b ≤ 999 := by
  have := t_cm_le' h hL p b
  have := t_dst_le h b
  omega
theorem t_end_le {s : Nat → Nat} (h : WF s) {L : Nat} (hL : L ≤ 20) : t_end s L ≤ 999 := by
  have h4 := h.2.1
  unfold t_end
  split
  · omega
  · exact t_cm_le h hL (by omega) (by omega)
