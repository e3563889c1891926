/-! p29: the law's parade: every look is known, so that each branch goes one way -/
theorem l_c0 {n : Nat} {G V : St2} {s : Nat → Nat} {c : Nat} (hn : 1000 ≤ n) (h : RS G V s c) : ∃ G', fX4_count n G V (nI 0) = some (.inr (nI (s 4), G')) ∧ RS G' V s c := l_count hn h (k := 0) (by omega)
theorem l_c1 {n : Nat} {G V : St2} {s : Nat → Nat} {c : Nat} (hn : 1000 ≤ n) (h : RS G V s c) : ∃ G', fX4_count n G V (nI 1) = some (.inr (nI (s 5), G')) ∧ RS G' V s c := l_count hn h (k := 1) (by omega)
theorem l_c2 {n : Nat} {G V : St2} {s : Nat → Nat} {c : Nat} (hn : 1000 ≤ n) (h : RS G V s c) : ∃ G', fX4_count n G V (nI 2) = some (.inr (nI (t_all s), G')) ∧ RS G' V s c := l_count hn h (k := 2) (by omega)
theorem l_c3 {n : Nat} {G V : St2} {s : Nat → Nat} {c : Nat} (hn : 1000 ≤ n) (h : RS G V s c) : ∃ G', fX4_count n G V (nI 3) = some (.inr (nI (t_end s (s 3)), G')) ∧ RS G' V s c := l_count hn h (k := 3) (by omega)
theorem l_c4 {n : Nat} {G V : St2} {s : Nat → Nat} {c : Nat} (hn : 1000 ≤ n) (h : RS G V s c) : ∃ G', fX4_count n G V (nI 4) = some (.inr (nI (sm (t_lwd s) (s 4)), G')) ∧ RS G' V s c := l_count hn h (k := 4) (by omega)
theorem l_c6 {n : Nat} {G V : St2} {s : Nat → Nat} {c : Nat} (hn : 1000 ≤ n) (h : RS G V s c) : ∃ G', fX4_count n G V (nI 6) = some (.inr (nI (t_end s (s 3) - t_end s 0), G')) ∧ RS G' V s c := by
  have e : t_nk s c 6 = nI (t_end s (s 3) - t_end s 0) := kl_sub (t_end_ge (RS_W h).1)
  rw [← e]
  exact l_count hn h (k := 6) (by omega)
theorem l_c7 {n : Nat} {G V : St2} {s : Nat → Nat} {c : Nat} (hn : 1000 ≤ n) (h : RS G V s c) : ∃ G', fX4_count n G V (nI 7) = some (.inr (nI (t_gh s (s 4)), G')) ∧ RS G' V s c := l_count hn h (k := 7) (by omega)
theorem l_c8 {n : Nat} {G V : St2} {s : Nat → Nat} {c : Nat} (hn : 1000 ≤ n) (h : RS G V s c) : ∃ G', fX4_count n G V (nI 8) = some (.inr (nI c, G')) ∧ RS G' V s c := l_count hn h (k := 8) (by omega)
def t_ls (s : Nat → Nat) (p : Nat) : Nat → Nat
  | 0 => p * s 1
  | b + 1 => t_cm s (s 3) p b
theorem t_ls_le {s : Nat → Nat} (p : Nat) : ∀ b, t_ls s p b + (t_dst s b - t_dv s b) * s 2 ≤ t_cm s (s 3) p b
  | 0 => t_cm_b0 _ _
  | b + 1 => t_cm_bs _ _ _
abbrev rmP : Room := ({ frames := 17, cells := 0, slots := 0, locals := 1045 } : Room)
/-- a continuation at a place of parade -/
def kP_J (p : Program) (l : Launch) (e : Env) (s : State) (m : MethodId) (args : Array Value) (below : List Frame) (meth : Method) (c : Code) (Q : State → Prop) (g : kG) (A : Nat → Prop) (a h : Nat → Nat → Nat) (V : St2) (s9 : Nat → Nat) (c9 pc : Nat) (lv : List (Nat × Value)) (st : List Value) : Prop :=
  ∀ (G : St2) (H : Heap) (locs : List Loc) (ls : Array Slot), RS G V s9 c9 → va_P g.1 vwCl (w_F g a G ++ w_H g (a 0 2) h V) H → va_D A (w_F g a G ++ w_H g (a 0 2) h V) → va_S A s.heap H locs → lv_has ls 12 lv → W p l e rmP s m args below meth c H locs 0 0 Q (F0 m pc ls st)
section KPar
variable {p : Program} {l : Launch} {e : Env} {s : State} {m : MethodId} {args : Array Value} {below : List Frame} {meth : Method} {c : Code} {Q : State → Prop} {g : kG} {A : Nat → Prop} {a h : Nat → Nat → Nat} {V : St2} {s9 : Nat → Nat} {c9 n : Nat}
set_option maxHeartbeats 8000000 in
set_option maxRecDepth 100000 in
theorem kP_in (hn : 1000 ≤ n) (hC : CallFix p m c cL_parade 12 s args wsL_parade RL) (hK : va_K g.1 vwCl (kT g) s) (hA : ∀ q, s.heap.size ≤ q → A q) (hW : WF s9) (hZ : Zx s9) {q9 T : Nat} (hp : q9 < s9 4) (JX : kP_J p l e s m args below meth c Q g A a h V s9 c9 459 [(7, .int (nI (t_cm s9 (s9 3) q9 (s9 5)))), (4, .int (nI 1)), (5, .int (nI q9)), (3, .int (nI T)), (2, .int (nI (s9 5))), (1, .int (nI (s9 4))), (0, .ref (a 0 0))] []) : ∀ d b, d + b = s9 5 + 1 → kP_J p l e s m args below meth c Q g A a h V s9 c9 279 [(9, .int (nI b)), (8, .int (nI (t_dv s9 b))), (7, .int (nI (t_ls s9 q9 b))), (4, .int (nI 1)), (5, .int (nI q9)), (3, .int (nI T)), (2, .int (nI (s9 5))), (1, .int (nI (s9 4))), (0, .ref (a 0 0))] [] := by
  obtain ⟨hx, hb, hml, hown, hts⟩ := id hC
  have w0 := hW.1
  have w1 := hW.2.1
  intro d
  induction d with
  | zero =>
    intro b hb9
    have eb : b = s9 5 + 1 := by omega
    subst eb
    intro G H locs ls hRS hP hD hS hl
    refine lv_iload hx hb dL_parade_279 (lv_at hl 0 rfl) ?_
    refine lv_iload_n hx hb dL_parade_281 rfl (lv_at hl 6 rfl) ?_
    refine lv_icmp_gt (tgt := 459) hx hb dL_parade_282 (by decide) (fun c9 => ?_) (fun c9 => absurd (show nI (s9 5) < nI (s9 5 + 1) from (by rw [kl_lt (by omega) (by omega)]; omega)) c9)
    exact JX G H locs ls hRS hP hD hS (lv_sub hl [2, 3, 4, 5, 6, 7, 8] rfl)
  | succ d ih =>
    intro b hb9
    have hbs : b ≤ s9 5 := by omega
    have hdv := t_dv_le hW b
    have hdd := t_dst_le hW b
    have hls := t_ls_le (s := s9) q9 b
    have hcm := t_cm_le hW (L := s9 3) (p := q9) (b := b) (by omega) (by omega) (by omega)
    have hb1 : (9 : Nat) = 9 := rfl
    have J438 : kP_J p l e s m args below meth c Q g A a h V s9 c9 438 [(11, .int (nI (t_cm s9 (s9 3) q9 b))), (10, .int (nI (t_dst s9 b))), (9, .int (nI b)), (8, .int (nI (t_dv s9 b))), (7, .int (nI (t_ls s9 q9 b))), (4, .int (nI 1)), (5, .int (nI q9)), (3, .int (nI T)), (2, .int (nI (s9 5))), (1, .int (nI (s9 4))), (0, .ref (a 0 0))] [] := by
      intro G H locs ls hRS hP hD hS hl
      refine lv_iconst (v := nI 1) hx hb dL_parade_438 (by decide) ?_
      refine lv_goto (tgt := 443) hx hb dL_parade_439 (by decide) ?_
      refine lv_istore (i := 4) (lv' := [(4, .int (nI 1)), (11, .int (nI (t_cm s9 (s9 3) q9 b))), (10, .int (nI (t_dst s9 b))), (9, .int (nI b)), (8, .int (nI (t_dv s9 b))), (7, .int (nI (t_ls s9 q9 b))), (5, .int (nI q9)), (3, .int (nI T)), (2, .int (nI (s9 5))), (1, .int (nI (s9 4))), (0, .ref (a 0 0))]) hx hb dL_parade_443 hl (by decide) rfl (fun ls hl => ?_)
      refine lv_iload hx hb dL_parade_445 (lv_at hl 1 rfl) ?_
      refine lv_istore (i := 7) (lv' := [(7, .int (nI (t_cm s9 (s9 3) q9 b))), (4, .int (nI 1)), (11, .int (nI (t_cm s9 (s9 3) q9 b))), (10, .int (nI (t_dst s9 b))), (9, .int (nI b)), (8, .int (nI (t_dv s9 b))), (5, .int (nI q9)), (3, .int (nI T)), (2, .int (nI (s9 5))), (1, .int (nI (s9 4))), (0, .ref (a 0 0))]) hx hb dL_parade_447 hl (by decide) rfl (fun ls hl => ?_)
      refine lv_iload hx hb dL_parade_449 (lv_at hl 3 rfl) ?_
      refine lv_istore (i := 8) (lv' := [(8, .int (nI (t_dst s9 b))), (7, .int (nI (t_cm s9 (s9 3) q9 b))), (4, .int (nI 1)), (11, .int (nI (t_cm s9 (s9 3) q9 b))), (10, .int (nI (t_dst s9 b))), (9, .int (nI b)), (5, .int (nI q9)), (3, .int (nI T)), (2, .int (nI (s9 5))), (1, .int (nI (s9 4))), (0, .ref (a 0 0))]) hx hb dL_parade_451 hl (by decide) rfl (fun ls hl => ?_)
      refine lv_iinc (v := nI (b + 1)) (lv' := [(9, .int (nI (b + 1))), (8, .int (nI (t_dst s9 b))), (7, .int (nI (t_cm s9 (s9 3) q9 b))), (4, .int (nI 1)), (11, .int (nI (t_cm s9 (s9 3) q9 b))), (10, .int (nI (t_dst s9 b))), (5, .int (nI q9)), (3, .int (nI T)), (2, .int (nI (s9 5))), (1, .int (nI (s9 4))), (0, .ref (a 0 0))]) hx hb dL_parade_453 hl (k := 5) rfl (nI_add _ _) (by decide) rfl (fun ls hl => ?_)
      refine lv_goto (tgt := 279) hx hb dL_parade_456 (by decide) ?_
      exact ih (b + 1) (by omega) G H locs ls hRS hP hD hS (lv_sub hl [0, 1, 2, 3, 6, 7, 8, 9, 10] rfl)
    have J420 : kP_J p l e s m args below meth c Q g A a h V s9 c9 420 [(11, .int (nI (t_cm s9 (s9 3) q9 b))), (10, .int (nI (t_dst s9 b))), (9, .int (nI b)), (8, .int (nI (t_dv s9 b))), (7, .int (nI (t_ls s9 q9 b))), (4, .int (nI 1)), (5, .int (nI q9)), (3, .int (nI T)), (2, .int (nI (s9 5))), (1, .int (nI (s9 4))), (0, .ref (a 0 0))] [] := by
      intro G H locs ls hRS hP hD hS hl
      refine lv_iload hx hb dL_parade_420 (lv_at hl 2 rfl) ?_
      refine lv_iload_n hx hb dL_parade_422 rfl (lv_at hl 8 rfl) ?_
      refine lv_icmp_eq (tgt := 438) hx hb dL_parade_423 (by decide) (fun c9 => ?_) (fun c9 => ?_)
      · replace c9 : nI (b) = nI (s9 5) := c9
        rw [kl_eq (by omega) (by omega)] at c9
        exact J438 G H locs ls hRS hP hD hS (lv_sub hl [0, 1, 2, 3, 4, 5, 6, 7, 8, 9, 10] rfl)
      · replace c9 : ¬ nI (b) = nI (s9 5) := c9
        rw [kl_eq (by omega) (by omega)] at c9
        refine lv_iload hx hb dL_parade_426 (lv_at hl 2 rfl) ?_
        refine lv_if_eq (tgt := 438) hx hb dL_parade_428 (by decide) (fun c8 => ?_) (fun c8 => ?_)
        · replace c8 : nI (b) = nI (0) := c8
          rw [kl_eq (by omega) (by omega)] at c8
          exact J438 G H locs ls hRS hP hD hS (lv_sub hl [0, 1, 2, 3, 4, 5, 6, 7, 8, 9, 10] rfl)
        · replace c8 : ¬ nI (b) = nI (0) := c8
          rw [kl_eq (by omega) (by omega)] at c8
          have hst : t_dv s9 b < t_dst s9 b := by
            obtain ⟨b1, rfl⟩ : ∃ b1, b = b1 + 1 := ⟨b - 1, by omega⟩
            show t_dst s9 b1 < t_dst s9 (b1 + 1)
            unfold t_dst
            rw [if_pos (by omega), if_pos (by omega)]
            exact hZ.2 b1 (by omega)
          refine lv_iload hx hb dL_parade_431 (lv_at hl 1 rfl) ?_
          refine lv_iload hx hb dL_parade_433 (lv_at hl 3 rfl) ?_
          refine lv_icmp_le (tgt := 442) hx hb dL_parade_435 (by decide) (fun c9 => absurd (show nI (t_dst s9 b) ≤ nI (t_dv s9 b) from c9) (by rw [kl_le (by omega) (by omega)]; omega)) (fun c9 => ?_)
          exact J438 G H locs ls hRS hP hD hS (lv_sub hl [0, 1, 2, 3, 4, 5, 6, 7, 8, 9, 10] rfl)
    by_cases q0 : q9 = 0
    · skip
      have J328 : kP_J p l e s m args below meth c Q g A a h V s9 c9 328 [(10, .int (nI (t_dst s9 b))), (9, .int (nI b)), (8, .int (nI (t_dv s9 b))), (7, .int (nI (t_ls s9 q9 b))), (4, .int (nI 1)), (5, .int (nI q9)), (3, .int (nI T)), (2, .int (nI (s9 5))), (1, .int (nI (s9 4))), (0, .ref (a 0 0))] [.int (nI (t_cm s9 (s9 3) q9 b))] := by
        intro G H locs ls hRS hP hD hS hl
        refine lv_istore (i := 11) (lv' := [(11, .int (nI (t_cm s9 (s9 3) q9 b))), (10, .int (nI (t_dst s9 b))), (9, .int (nI b)), (8, .int (nI (t_dv s9 b))), (7, .int (nI (t_ls s9 q9 b))), (4, .int (nI 1)), (5, .int (nI q9)), (3, .int (nI T)), (2, .int (nI (s9 5))), (1, .int (nI (s9 4))), (0, .ref (a 0 0))]) hx hb dL_parade_328 hl (by decide) rfl (fun ls hl => ?_)
        refine lv_iload hx hb dL_parade_330 (lv_at hl 0 rfl) ?_
        refine lv_iload hx hb dL_parade_332 (lv_at hl 4 rfl) ?_
        refine lv_iload hx hb dL_parade_334 (lv_at hl 1 rfl) ?_
        refine lv_iload hx hb dL_parade_336 (lv_at hl 3 rfl) ?_
        refine lv_isub hx hb dL_parade_338 ?_
        refine kk_nmi (x := nI ((t_dst s9 b) - (t_dv s9 b))) ((kl_sub (by omega)).symm) ?_
        refine lv_aload_n hx hb dL_parade_339 rfl (lv_at hl 10 rfl) ?_
        refine lv_iconst (v := nI 2) hx hb dL_parade_340 (by decide) ?_
        have e1 := l_setting (n := n) hRS (k := 2) (by omega)
        refine kk_call_Vi (w' := (w_F g a G ++ w_H g (a 0 2) h V)) (As := [.int (nI 2)]) (rest := [.int (nI ((t_dst s9 b) - (t_dv s9 b))), .int (nI (t_ls s9 q9 b)), .int (nI (t_cm s9 (s9 3) q9 b))]) 0 4 hC (sX4_setting l g n a G (nI 2) (nI (s9 2)) e1) (cwV 1 hts gL_parade_X4_setting rfl rfl rfl (by decide +kernel) ⟨Nat.le_of_ble_eq_true rfl, Nat.le_of_ble_eq_true rfl⟩) hK hP hD hS hA (List.range 24) (kk_ml 24 rfl (by decide +kernel) (kk_m0 24 rfl rfl)) (by decide +kernel) rfl (kk_sl 24 rfl (by decide +kernel) (kk_s0 24 rfl rfl rfl)) rfl rfl rfl rfl rfl hl.1 (Nat.le_of_ble_eq_true rfl) dL_parade_341 (fun H locs hP hD hS => ?_)
        refine lv_imul hx hb dL_parade_344 ?_
        refine kk_nmi (x := nI (((t_dst s9 b) - (t_dv s9 b)) * (s9 2))) ((kl_mul _ _).symm) ?_
        refine lv_iadd hx hb dL_parade_345 ?_
        refine kk_nmi (x := nI ((t_ls s9 q9 b) + (((t_dst s9 b) - (t_dv s9 b)) * (s9 2)))) ((nI_add _ _).symm) ?_
        refine lv_icmp_lt (tgt := 442) hx hb dL_parade_346 (by decide) (fun c9 => absurd (show nI (t_cm s9 (s9 3) q9 b) < nI ((t_ls s9 q9 b) + (((t_dst s9 b) - (t_dv s9 b)) * (s9 2))) from c9) (by rw [kl_lt (by omega) (by omega)]; omega)) (fun c9 => ?_)
        refine lv_iload hx hb dL_parade_349 (lv_at hl 6 rfl) ?_
        refine lv_if_eq (tgt := 420) hx hb dL_parade_351 (by decide) (fun c9 => ?_) (fun c9 => absurd (show nI (q9) = nI (0) from (by rw [kl_eq (by omega) (by omega)]; omega)) c9)
        exact J420 G H locs ls hRS hP hD hS (lv_sub hl [0, 1, 2, 3, 4, 5, 6, 7, 8, 9, 10] rfl)
      have J308 : kP_J p l e s m args below meth c Q g A a h V s9 c9 308 [(9, .int (nI b)), (8, .int (nI (t_dv s9 b))), (7, .int (nI (t_ls s9 q9 b))), (4, .int (nI 1)), (5, .int (nI q9)), (3, .int (nI T)), (2, .int (nI (s9 5))), (1, .int (nI (s9 4))), (0, .ref (a 0 0))] [.int (nI (t_dst s9 b))] := by
        intro G H locs ls hRS hP hD hS hl
        refine lv_istore (i := 10) (lv' := [(10, .int (nI (t_dst s9 b))), (9, .int (nI b)), (8, .int (nI (t_dv s9 b))), (7, .int (nI (t_ls s9 q9 b))), (4, .int (nI 1)), (5, .int (nI q9)), (3, .int (nI T)), (2, .int (nI (s9 5))), (1, .int (nI (s9 4))), (0, .ref (a 0 0))]) hx hb dL_parade_308 hl (by decide) rfl (fun ls hl => ?_)
        refine lv_aload_n hx hb dL_parade_310 rfl (lv_at hl 9 rfl) ?_
        refine lv_iload hx hb dL_parade_311 (lv_at hl 5 rfl) ?_
        refine lv_iload hx hb dL_parade_313 (lv_at hl 1 rfl) ?_
        refine lv_iload_n hx hb dL_parade_315 rfl (lv_at hl 7 rfl) ?_
        refine lv_icmp_ne (tgt := 323) hx hb dL_parade_316 (by decide) (fun c9 => ?_) (fun c9 => ?_)
        · replace c9 : ¬ nI (b) = nI (s9 5) := c9
          rw [kl_eq (by omega) (by omega)] at c9
          refine lv_iload hx hb dL_parade_323 (lv_at hl 1 rfl) ?_
          obtain ⟨G1, e2, hRS⟩ := l_comes hn hRS (j := q9) (b := b) (by omega) (by omega)
          refine kk_call_Vi (w' := (w_F g a G1 ++ w_H g (a 0 2) h V)) (As := [.int (nI q9), .int (nI b)]) (rest := []) 0 4 hC (sX4_comes l g n a G (nI q9) (nI b) (nI (t_cm s9 (s9 3) q9 b), G1) e2) (cwV 2 hts gL_parade_X4_comes rfl rfl rfl (by decide +kernel) ⟨Nat.le_of_ble_eq_true rfl, Nat.le_of_ble_eq_true rfl⟩) hK hP hD hS hA (List.range 24) (kk_ml 24 rfl (by decide +kernel) (kk_m0 24 rfl rfl)) (by decide +kernel) rfl (kk_sl 24 rfl (by decide +kernel) (kk_s0 24 rfl rfl rfl)) rfl rfl rfl rfl rfl hl.1 (Nat.le_of_ble_eq_true rfl) dL_parade_325 (fun H locs hP hD hS => ?_)
          exact J328 G1 H locs ls hRS hP hD hS (lv_sub hl [0, 1, 2, 3, 4, 5, 6, 7, 8, 9] rfl)
        · replace c9 : nI (b) = nI (s9 5) := c9
          rw [kl_eq (by omega) (by omega)] at c9
          refine lv_iconst (v := kM) hx hb dL_parade_319 (by decide) ?_
          refine lv_goto (tgt := 325) hx hb dL_parade_320 (by decide) ?_
          have eb : b = s9 5 := by omega
          obtain ⟨G1, e2, hRS⟩ := l_comesM hn hRS (j := q9) (by omega)
          refine kk_call_Vi (w' := (w_F g a G1 ++ w_H g (a 0 2) h V)) (As := [.int (nI q9), .int (kM)]) (rest := []) 0 4 hC (sX4_comes l g n a G (nI q9) kM (nI (t_cm s9 (s9 3) q9 (s9 5)), G1) e2) (cwV 2 hts gL_parade_X4_comes rfl rfl rfl (by decide +kernel) ⟨Nat.le_of_ble_eq_true rfl, Nat.le_of_ble_eq_true rfl⟩) hK hP hD hS hA (List.range 24) (kk_ml 24 rfl (by decide +kernel) (kk_m0 24 rfl rfl)) (by decide +kernel) rfl (kk_sl 24 rfl (by decide +kernel) (kk_s0 24 rfl rfl rfl)) rfl rfl rfl rfl rfl hl.1 (Nat.le_of_ble_eq_true rfl) dL_parade_325 (fun H locs hP hD hS => ?_)
          refine kk_nmi (x := nI (t_cm s9 (s9 3) q9 b)) (by rw [eb]) ?_
          exact J328 G1 H locs ls hRS hP hD hS (lv_sub hl [0, 1, 2, 3, 4, 5, 6, 7, 8, 9] rfl)
      intro G H locs ls hRS hP hD hS hl
      refine lv_iload hx hb dL_parade_279 (lv_at hl 0 rfl) ?_
      refine lv_iload_n hx hb dL_parade_281 rfl (lv_at hl 6 rfl) ?_
      refine lv_icmp_gt (tgt := 459) hx hb dL_parade_282 (by decide) (fun c9 => absurd (show nI (s9 5) < nI (b) from c9) (by rw [kl_lt (by omega) (by omega)]; omega)) (fun c9 => ?_)
      refine lv_iload hx hb dL_parade_285 (lv_at hl 3 rfl) ?_
      refine lv_if_eq (tgt := 459) hx hb dL_parade_287 (by decide) (fun c9 => absurd (show nI (1) = nI (0) from c9) (by rw [kl_eq (by omega) (by omega)]; omega)) (fun c9 => ?_)
      refine lv_iload hx hb dL_parade_290 (lv_at hl 0 rfl) ?_
      refine lv_iload_n hx hb dL_parade_292 rfl (lv_at hl 6 rfl) ?_
      refine lv_icmp_ne (tgt := 301) hx hb dL_parade_293 (by decide) (fun c9 => ?_) (fun c9 => ?_)
      · replace c9 : ¬ nI (b) = nI (s9 5) := c9
        rw [kl_eq (by omega) (by omega)] at c9
        refine lv_aload_n hx hb dL_parade_301 rfl (lv_at hl 8 rfl) ?_
        refine lv_iload hx hb dL_parade_302 (lv_at hl 0 rfl) ?_
        refine lv_iconst (v := nI 0) hx hb dL_parade_304 (by decide) ?_
        have e1 := l_bridgeOf hn hRS (j := b) (k := 0) (by omega) (by omega)
        refine kk_call_Vi (w' := (w_F g a G ++ w_H g (a 0 2) h V)) (As := [.int (nI b), .int (nI 0)]) (rest := []) 0 4 hC (sX4_bridgeOf l g n a G (nI b) (nI 0) (nI (t_bp s9 b 0)) e1) (cwV 2 hts gL_parade_X4_bridgeOf rfl rfl rfl (by decide +kernel) ⟨Nat.le_of_ble_eq_true rfl, Nat.le_of_ble_eq_true rfl⟩) hK hP hD hS hA (List.range 24) (kk_ml 24 rfl (by decide +kernel) (kk_m0 24 rfl rfl)) (by decide +kernel) rfl (kk_sl 24 rfl (by decide +kernel) (kk_s0 24 rfl rfl rfl)) rfl rfl rfl rfl rfl hl.1 (Nat.le_of_ble_eq_true rfl) dL_parade_305 (fun H locs hP hD hS => ?_)
        refine kk_nmi (x := nI (t_dst s9 b)) (by unfold t_dst t_bp; rw [if_pos (by omega), if_pos rfl]) ?_
        exact J308 G H locs ls hRS hP hD hS (lv_sub hl [0, 1, 2, 3, 4, 5, 6, 7, 8] rfl)
      · replace c9 : nI (b) = nI (s9 5) := c9
        rw [kl_eq (by omega) (by omega)] at c9
        refine lv_bipush (v := nI 60) hx hb dL_parade_296 (by decide) ?_
        refine lv_goto (tgt := 308) hx hb dL_parade_298 (by decide) ?_
        refine kk_nmi (x := nI (t_dst s9 b)) (by unfold t_dst; rw [if_neg (by omega)]) ?_
        exact J308 G H locs ls hRS hP hD hS (lv_sub hl [0, 1, 2, 3, 4, 5, 6, 7, 8] rfl)
    · skip
      have J416 : kP_J p l e s m args below meth c Q g A a h V s9 c9 416 [(11, .int (nI (t_cm s9 (s9 3) q9 b))), (10, .int (nI (t_dst s9 b))), (9, .int (nI b)), (8, .int (nI (t_dv s9 b))), (7, .int (nI (t_ls s9 q9 b))), (4, .int (nI 1)), (5, .int (nI q9)), (3, .int (nI T)), (2, .int (nI (s9 5))), (1, .int (nI (s9 4))), (0, .ref (a 0 0))] [.int (nI (t_lo s9 (s9 3) (q9 - 1) b)), .int (nI ((t_cm s9 (s9 3) (q9 - 1) b) + s9 1)), .int (nI (t_cm s9 (s9 3) q9 b))] := by
        intro G H locs ls hRS hP hD hS hl
        have hah := t_cm_ah (s := s9) (s9 3) (q9 - 1) b
        rw [(by omega : q9 - 1 + 1 = q9)] at hah
        refine lv_iadd hx hb dL_parade_416 ?_
        refine kk_nmi (x := nI (((t_cm s9 (s9 3) (q9 - 1) b) + s9 1) + (t_lo s9 (s9 3) (q9 - 1) b))) ((nI_add _ _).symm) ?_
        refine lv_icmp_lt (tgt := 442) hx hb dL_parade_417 (by decide) (fun c9 => absurd (show nI (t_cm s9 (s9 3) q9 b) < nI (((t_cm s9 (s9 3) (q9 - 1) b) + s9 1) + (t_lo s9 (s9 3) (q9 - 1) b)) from c9) (by rw [kl_lt (by omega) (by omega)]; omega)) (fun c9 => ?_)
        exact J420 G H locs ls hRS hP hD hS (lv_sub hl [0, 1, 2, 3, 4, 5, 6, 7, 8, 9, 10] rfl)
      have J376 : kP_J p l e s m args below meth c Q g A a h V s9 c9 376 [(11, .int (nI (t_cm s9 (s9 3) q9 b))), (10, .int (nI (t_dst s9 b))), (9, .int (nI b)), (8, .int (nI (t_dv s9 b))), (7, .int (nI (t_ls s9 q9 b))), (4, .int (nI 1)), (5, .int (nI q9)), (3, .int (nI T)), (2, .int (nI (s9 5))), (1, .int (nI (s9 4))), (0, .ref (a 0 0))] [.int (nI (t_cm s9 (s9 3) (q9 - 1) b)), .int (nI (t_cm s9 (s9 3) q9 b))] := by
        intro G H locs ls hRS hP hD hS hl
        refine lv_aload_n hx hb dL_parade_376 rfl (lv_at hl 10 rfl) ?_
        refine lv_iconst (v := nI 1) hx hb dL_parade_377 (by decide) ?_
        have e1 := l_setting (n := n) hRS (k := 1) (by omega)
        refine kk_call_Vi (w' := (w_F g a G ++ w_H g (a 0 2) h V)) (As := [.int (nI 1)]) (rest := [.int (nI (t_cm s9 (s9 3) (q9 - 1) b)), .int (nI (t_cm s9 (s9 3) q9 b))]) 0 4 hC (sX4_setting l g n a G (nI 1) (nI (s9 1)) e1) (cwV 1 hts gL_parade_X4_setting rfl rfl rfl (by decide +kernel) ⟨Nat.le_of_ble_eq_true rfl, Nat.le_of_ble_eq_true rfl⟩) hK hP hD hS hA (List.range 24) (kk_ml 24 rfl (by decide +kernel) (kk_m0 24 rfl rfl)) (by decide +kernel) rfl (kk_sl 24 rfl (by decide +kernel) (kk_s0 24 rfl rfl rfl)) rfl rfl rfl rfl rfl hl.1 (Nat.le_of_ble_eq_true rfl) dL_parade_378 (fun H locs hP hD hS => ?_)
        refine lv_iadd hx hb dL_parade_381 ?_
        refine kk_nmi (x := nI ((t_cm s9 (s9 3) (q9 - 1) b) + (s9 1))) ((nI_add _ _).symm) ?_
        refine lv_iload hx hb dL_parade_382 (lv_at hl 2 rfl) ?_
        refine lv_iload_n hx hb dL_parade_384 rfl (lv_at hl 8 rfl) ?_
        refine lv_icmp_ge (tgt := 415) hx hb dL_parade_385 (by decide) (fun c9 => ?_) (fun c9 => ?_)
        · replace c9 : nI (s9 5) ≤ nI (b) := c9
          rw [kl_le (by omega) (by omega)] at c9
          refine lv_iconst (v := nI 0) hx hb dL_parade_415 (by decide) ?_
          refine kk_nmi (x := nI (t_lo s9 (s9 3) (q9 - 1) b)) (by unfold t_lo; rw [if_neg (by omega)]) ?_
          exact J416 G H locs ls hRS hP hD hS (lv_sub hl [0, 1, 2, 3, 4, 5, 6, 7, 8, 9, 10] rfl)
        · replace c9 : ¬ nI (s9 5) ≤ nI (b) := c9
          rw [kl_le (by omega) (by omega)] at c9
          refine lv_aload_n hx hb dL_parade_388 rfl (lv_at hl 10 rfl) ?_
          refine lv_iload hx hb dL_parade_389 (lv_at hl 6 rfl) ?_
          refine lv_iconst (v := nI 1) hx hb dL_parade_391 (by decide) ?_
          refine lv_isub hx hb dL_parade_392 ?_
          refine kk_nmi (x := nI (q9 - 1)) ((kl_sub (by omega)).symm) ?_
          refine lv_iconst (v := nI 4) hx hb dL_parade_393 (by decide) ?_
          have e2 := l_floatAt hn hRS (j := (q9 - 1)) (k := 4) (by omega) (by omega)
          refine kk_call_Vi (w' := (w_F g a G ++ w_H g (a 0 2) h V)) (As := [.int (nI (q9 - 1)), .int (nI 4)]) (rest := [.int (nI ((t_cm s9 (s9 3) (q9 - 1) b) + (s9 1))), .int (nI (t_cm s9 (s9 3) q9 b))]) 0 4 hC (sX4_floatAt l g n a G (nI (q9 - 1)) (nI 4) (nI (t_hgt s9 (q9 - 1))) e2) (cwV 2 hts gL_parade_X4_floatAt rfl rfl rfl (by decide +kernel) ⟨Nat.le_of_ble_eq_true rfl, Nat.le_of_ble_eq_true rfl⟩) hK hP hD hS hA (List.range 24) (kk_ml 24 rfl (by decide +kernel) (kk_m0 24 rfl rfl)) (by decide +kernel) rfl (kk_sl 24 rfl (by decide +kernel) (kk_s0 24 rfl rfl rfl)) rfl rfl rfl rfl rfl hl.1 (Nat.le_of_ble_eq_true rfl) dL_parade_394 (fun H locs hP hD hS => ?_)
          refine lv_aload_n hx hb dL_parade_397 rfl (lv_at hl 10 rfl) ?_
          refine lv_iload hx hb dL_parade_398 (lv_at hl 2 rfl) ?_
          refine lv_iconst (v := nI 1) hx hb dL_parade_400 (by decide) ?_
          have e3 := l_bridgeOf hn hRS (j := b) (k := 1) (by omega) (by omega)
          refine kk_call_Vi (w' := (w_F g a G ++ w_H g (a 0 2) h V)) (As := [.int (nI b), .int (nI 1)]) (rest := [.int (nI (t_hgt s9 (q9 - 1))), .int (nI ((t_cm s9 (s9 3) (q9 - 1) b) + (s9 1))), .int (nI (t_cm s9 (s9 3) q9 b))]) 0 4 hC (sX4_bridgeOf l g n a G (nI b) (nI 1) (nI (s9 (7 + 2 * b))) e3) (cwV 2 hts gL_parade_X4_bridgeOf rfl rfl rfl (by decide +kernel) ⟨Nat.le_of_ble_eq_true rfl, Nat.le_of_ble_eq_true rfl⟩) hK hP hD hS hA (List.range 24) (kk_ml 24 rfl (by decide +kernel) (kk_m0 24 rfl rfl)) (by decide +kernel) rfl (kk_sl 24 rfl (by decide +kernel) (kk_s0 24 rfl rfl rfl)) rfl rfl rfl rfl rfl hl.1 (Nat.le_of_ble_eq_true rfl) dL_parade_401 (fun H locs hP hD hS => ?_)
          have hh9 := t_hgt_le hW (p := q9 - 1) (by omega)
          have hb9 := (hW.2.2.2.1 b (by omega)).2.2.2
          refine lv_icmp_le (tgt := 415) hx hb dL_parade_404 (by decide) (fun c8 => ?_) (fun c8 => ?_)
          · replace c8 : nI (t_hgt s9 (q9 - 1)) ≤ nI (s9 (7 + 2 * b)) := c8
            rw [kl_le (by omega) (by omega)] at c8
            refine lv_iconst (v := nI 0) hx hb dL_parade_415 (by decide) ?_
            refine kk_nmi (x := nI (t_lo s9 (s9 3) (q9 - 1) b)) (by unfold t_lo t_low; rw [if_neg (fun z => by have z2 := z.2; rw [if_neg (by omega)] at z2; omega)]) ?_
            exact J416 G H locs ls hRS hP hD hS (lv_sub hl [0, 1, 2, 3, 4, 5, 6, 7, 8, 9, 10] rfl)
          · replace c8 : ¬ nI (t_hgt s9 (q9 - 1)) ≤ nI (s9 (7 + 2 * b)) := c8
            rw [kl_le (by omega) (by omega)] at c8
            refine lv_aload_n hx hb dL_parade_407 rfl (lv_at hl 10 rfl) ?_
            refine lv_iconst (v := nI 3) hx hb dL_parade_408 (by decide) ?_
            have e4 := l_setting (n := n) hRS (k := 3) (by omega)
            refine kk_call_Vi (w' := (w_F g a G ++ w_H g (a 0 2) h V)) (As := [.int (nI 3)]) (rest := [.int (nI ((t_cm s9 (s9 3) (q9 - 1) b) + (s9 1))), .int (nI (t_cm s9 (s9 3) q9 b))]) 0 4 hC (sX4_setting l g n a G (nI 3) (nI (s9 3)) e4) (cwV 1 hts gL_parade_X4_setting rfl rfl rfl (by decide +kernel) ⟨Nat.le_of_ble_eq_true rfl, Nat.le_of_ble_eq_true rfl⟩) hK hP hD hS hA (List.range 24) (kk_ml 24 rfl (by decide +kernel) (kk_m0 24 rfl rfl)) (by decide +kernel) rfl (kk_sl 24 rfl (by decide +kernel) (kk_s0 24 rfl rfl rfl)) rfl rfl rfl rfl rfl hl.1 (Nat.le_of_ble_eq_true rfl) dL_parade_409 (fun H locs hP hD hS => ?_)
            refine lv_goto (tgt := 416) hx hb dL_parade_412 (by decide) ?_
            refine kk_nmi (x := nI (t_lo s9 (s9 3) (q9 - 1) b)) (by unfold t_lo t_low; rw [if_pos ⟨by omega, if_pos (by omega)⟩]) ?_
            exact J416 G H locs ls hRS hP hD hS (lv_sub hl [0, 1, 2, 3, 4, 5, 6, 7, 8, 9, 10] rfl)
      have J328 : kP_J p l e s m args below meth c Q g A a h V s9 c9 328 [(10, .int (nI (t_dst s9 b))), (9, .int (nI b)), (8, .int (nI (t_dv s9 b))), (7, .int (nI (t_ls s9 q9 b))), (4, .int (nI 1)), (5, .int (nI q9)), (3, .int (nI T)), (2, .int (nI (s9 5))), (1, .int (nI (s9 4))), (0, .ref (a 0 0))] [.int (nI (t_cm s9 (s9 3) q9 b))] := by
        intro G H locs ls hRS hP hD hS hl
        refine lv_istore (i := 11) (lv' := [(11, .int (nI (t_cm s9 (s9 3) q9 b))), (10, .int (nI (t_dst s9 b))), (9, .int (nI b)), (8, .int (nI (t_dv s9 b))), (7, .int (nI (t_ls s9 q9 b))), (4, .int (nI 1)), (5, .int (nI q9)), (3, .int (nI T)), (2, .int (nI (s9 5))), (1, .int (nI (s9 4))), (0, .ref (a 0 0))]) hx hb dL_parade_328 hl (by decide) rfl (fun ls hl => ?_)
        refine lv_iload hx hb dL_parade_330 (lv_at hl 0 rfl) ?_
        refine lv_iload hx hb dL_parade_332 (lv_at hl 4 rfl) ?_
        refine lv_iload hx hb dL_parade_334 (lv_at hl 1 rfl) ?_
        refine lv_iload hx hb dL_parade_336 (lv_at hl 3 rfl) ?_
        refine lv_isub hx hb dL_parade_338 ?_
        refine kk_nmi (x := nI ((t_dst s9 b) - (t_dv s9 b))) ((kl_sub (by omega)).symm) ?_
        refine lv_aload_n hx hb dL_parade_339 rfl (lv_at hl 10 rfl) ?_
        refine lv_iconst (v := nI 2) hx hb dL_parade_340 (by decide) ?_
        have e1 := l_setting (n := n) hRS (k := 2) (by omega)
        refine kk_call_Vi (w' := (w_F g a G ++ w_H g (a 0 2) h V)) (As := [.int (nI 2)]) (rest := [.int (nI ((t_dst s9 b) - (t_dv s9 b))), .int (nI (t_ls s9 q9 b)), .int (nI (t_cm s9 (s9 3) q9 b))]) 0 4 hC (sX4_setting l g n a G (nI 2) (nI (s9 2)) e1) (cwV 1 hts gL_parade_X4_setting rfl rfl rfl (by decide +kernel) ⟨Nat.le_of_ble_eq_true rfl, Nat.le_of_ble_eq_true rfl⟩) hK hP hD hS hA (List.range 24) (kk_ml 24 rfl (by decide +kernel) (kk_m0 24 rfl rfl)) (by decide +kernel) rfl (kk_sl 24 rfl (by decide +kernel) (kk_s0 24 rfl rfl rfl)) rfl rfl rfl rfl rfl hl.1 (Nat.le_of_ble_eq_true rfl) dL_parade_341 (fun H locs hP hD hS => ?_)
        refine lv_imul hx hb dL_parade_344 ?_
        refine kk_nmi (x := nI (((t_dst s9 b) - (t_dv s9 b)) * (s9 2))) ((kl_mul _ _).symm) ?_
        refine lv_iadd hx hb dL_parade_345 ?_
        refine kk_nmi (x := nI ((t_ls s9 q9 b) + (((t_dst s9 b) - (t_dv s9 b)) * (s9 2)))) ((nI_add _ _).symm) ?_
        refine lv_icmp_lt (tgt := 442) hx hb dL_parade_346 (by decide) (fun c9 => absurd (show nI (t_cm s9 (s9 3) q9 b) < nI ((t_ls s9 q9 b) + (((t_dst s9 b) - (t_dv s9 b)) * (s9 2))) from c9) (by rw [kl_lt (by omega) (by omega)]; omega)) (fun c9 => ?_)
        refine lv_iload hx hb dL_parade_349 (lv_at hl 6 rfl) ?_
        refine lv_if_eq (tgt := 420) hx hb dL_parade_351 (by decide) (fun c9 => absurd (show nI (q9) = nI (0) from c9) (by rw [kl_eq (by omega) (by omega)]; omega)) (fun c9 => ?_)
        refine lv_iload hx hb dL_parade_354 (lv_at hl 0 rfl) ?_
        refine lv_aload_n hx hb dL_parade_356 rfl (lv_at hl 10 rfl) ?_
        refine lv_iload hx hb dL_parade_357 (lv_at hl 6 rfl) ?_
        refine lv_iconst (v := nI 1) hx hb dL_parade_359 (by decide) ?_
        refine lv_isub hx hb dL_parade_360 ?_
        refine kk_nmi (x := nI (q9 - 1)) ((kl_sub (by omega)).symm) ?_
        refine lv_iload hx hb dL_parade_361 (lv_at hl 2 rfl) ?_
        refine lv_iload_n hx hb dL_parade_363 rfl (lv_at hl 8 rfl) ?_
        refine lv_icmp_ne (tgt := 371) hx hb dL_parade_364 (by decide) (fun c9 => ?_) (fun c9 => ?_)
        · replace c9 : ¬ nI (b) = nI (s9 5) := c9
          rw [kl_eq (by omega) (by omega)] at c9
          refine lv_iload hx hb dL_parade_371 (lv_at hl 2 rfl) ?_
          obtain ⟨G2, e3, hRS⟩ := l_comes hn hRS (j := (q9 - 1)) (b := b) (by omega) (by omega)
          refine kk_call_Vi (w' := (w_F g a G2 ++ w_H g (a 0 2) h V)) (As := [.int (nI (q9 - 1)), .int (nI b)]) (rest := [.int (nI (t_cm s9 (s9 3) q9 b))]) 0 4 hC (sX4_comes l g n a G (nI (q9 - 1)) (nI b) (nI (t_cm s9 (s9 3) (q9 - 1) b), G2) e3) (cwV 2 hts gL_parade_X4_comes rfl rfl rfl (by decide +kernel) ⟨Nat.le_of_ble_eq_true rfl, Nat.le_of_ble_eq_true rfl⟩) hK hP hD hS hA (List.range 24) (kk_ml 24 rfl (by decide +kernel) (kk_m0 24 rfl rfl)) (by decide +kernel) rfl (kk_sl 24 rfl (by decide +kernel) (kk_s0 24 rfl rfl rfl)) rfl rfl rfl rfl rfl hl.1 (Nat.le_of_ble_eq_true rfl) dL_parade_373 (fun H locs hP hD hS => ?_)
          exact J376 G2 H locs ls hRS hP hD hS (lv_sub hl [0, 1, 2, 3, 4, 5, 6, 7, 8, 9, 10] rfl)
        · replace c9 : nI (b) = nI (s9 5) := c9
          rw [kl_eq (by omega) (by omega)] at c9
          refine lv_iconst (v := kM) hx hb dL_parade_367 (by decide) ?_
          refine lv_goto (tgt := 373) hx hb dL_parade_368 (by decide) ?_
          have eb : b = s9 5 := by omega
          obtain ⟨G2, e3, hRS⟩ := l_comesM hn hRS (j := (q9 - 1)) (by omega)
          refine kk_call_Vi (w' := (w_F g a G2 ++ w_H g (a 0 2) h V)) (As := [.int (nI (q9 - 1)), .int (kM)]) (rest := [.int (nI (t_cm s9 (s9 3) q9 b))]) 0 4 hC (sX4_comes l g n a G (nI (q9 - 1)) kM (nI (t_cm s9 (s9 3) (q9 - 1) (s9 5)), G2) e3) (cwV 2 hts gL_parade_X4_comes rfl rfl rfl (by decide +kernel) ⟨Nat.le_of_ble_eq_true rfl, Nat.le_of_ble_eq_true rfl⟩) hK hP hD hS hA (List.range 24) (kk_ml 24 rfl (by decide +kernel) (kk_m0 24 rfl rfl)) (by decide +kernel) rfl (kk_sl 24 rfl (by decide +kernel) (kk_s0 24 rfl rfl rfl)) rfl rfl rfl rfl rfl hl.1 (Nat.le_of_ble_eq_true rfl) dL_parade_373 (fun H locs hP hD hS => ?_)
          refine kk_nmi (x := nI (t_cm s9 (s9 3) (q9 - 1) b)) (by rw [eb]) ?_
          exact J376 G2 H locs ls hRS hP hD hS (lv_sub hl [0, 1, 2, 3, 4, 5, 6, 7, 8, 9, 10] rfl)
      have J308 : kP_J p l e s m args below meth c Q g A a h V s9 c9 308 [(9, .int (nI b)), (8, .int (nI (t_dv s9 b))), (7, .int (nI (t_ls s9 q9 b))), (4, .int (nI 1)), (5, .int (nI q9)), (3, .int (nI T)), (2, .int (nI (s9 5))), (1, .int (nI (s9 4))), (0, .ref (a 0 0))] [.int (nI (t_dst s9 b))] := by
        intro G H locs ls hRS hP hD hS hl
        refine lv_istore (i := 10) (lv' := [(10, .int (nI (t_dst s9 b))), (9, .int (nI b)), (8, .int (nI (t_dv s9 b))), (7, .int (nI (t_ls s9 q9 b))), (4, .int (nI 1)), (5, .int (nI q9)), (3, .int (nI T)), (2, .int (nI (s9 5))), (1, .int (nI (s9 4))), (0, .ref (a 0 0))]) hx hb dL_parade_308 hl (by decide) rfl (fun ls hl => ?_)
        refine lv_aload_n hx hb dL_parade_310 rfl (lv_at hl 9 rfl) ?_
        refine lv_iload hx hb dL_parade_311 (lv_at hl 5 rfl) ?_
        refine lv_iload hx hb dL_parade_313 (lv_at hl 1 rfl) ?_
        refine lv_iload_n hx hb dL_parade_315 rfl (lv_at hl 7 rfl) ?_
        refine lv_icmp_ne (tgt := 323) hx hb dL_parade_316 (by decide) (fun c9 => ?_) (fun c9 => ?_)
        · replace c9 : ¬ nI (b) = nI (s9 5) := c9
          rw [kl_eq (by omega) (by omega)] at c9
          refine lv_iload hx hb dL_parade_323 (lv_at hl 1 rfl) ?_
          obtain ⟨G1, e2, hRS⟩ := l_comes hn hRS (j := q9) (b := b) (by omega) (by omega)
          refine kk_call_Vi (w' := (w_F g a G1 ++ w_H g (a 0 2) h V)) (As := [.int (nI q9), .int (nI b)]) (rest := []) 0 4 hC (sX4_comes l g n a G (nI q9) (nI b) (nI (t_cm s9 (s9 3) q9 b), G1) e2) (cwV 2 hts gL_parade_X4_comes rfl rfl rfl (by decide +kernel) ⟨Nat.le_of_ble_eq_true rfl, Nat.le_of_ble_eq_true rfl⟩) hK hP hD hS hA (List.range 24) (kk_ml 24 rfl (by decide +kernel) (kk_m0 24 rfl rfl)) (by decide +kernel) rfl (kk_sl 24 rfl (by decide +kernel) (kk_s0 24 rfl rfl rfl)) rfl rfl rfl rfl rfl hl.1 (Nat.le_of_ble_eq_true rfl) dL_parade_325 (fun H locs hP hD hS => ?_)
          exact J328 G1 H locs ls hRS hP hD hS (lv_sub hl [0, 1, 2, 3, 4, 5, 6, 7, 8, 9] rfl)
        · replace c9 : nI (b) = nI (s9 5) := c9
          rw [kl_eq (by omega) (by omega)] at c9
          refine lv_iconst (v := kM) hx hb dL_parade_319 (by decide) ?_
          refine lv_goto (tgt := 325) hx hb dL_parade_320 (by decide) ?_
          have eb : b = s9 5 := by omega
          obtain ⟨G1, e2, hRS⟩ := l_comesM hn hRS (j := q9) (by omega)
          refine kk_call_Vi (w' := (w_F g a G1 ++ w_H g (a 0 2) h V)) (As := [.int (nI q9), .int (kM)]) (rest := []) 0 4 hC (sX4_comes l g n a G (nI q9) kM (nI (t_cm s9 (s9 3) q9 (s9 5)), G1) e2) (cwV 2 hts gL_parade_X4_comes rfl rfl rfl (by decide +kernel) ⟨Nat.le_of_ble_eq_true rfl, Nat.le_of_ble_eq_true rfl⟩) hK hP hD hS hA (List.range 24) (kk_ml 24 rfl (by decide +kernel) (kk_m0 24 rfl rfl)) (by decide +kernel) rfl (kk_sl 24 rfl (by decide +kernel) (kk_s0 24 rfl rfl rfl)) rfl rfl rfl rfl rfl hl.1 (Nat.le_of_ble_eq_true rfl) dL_parade_325 (fun H locs hP hD hS => ?_)
          refine kk_nmi (x := nI (t_cm s9 (s9 3) q9 b)) (by rw [eb]) ?_
          exact J328 G1 H locs ls hRS hP hD hS (lv_sub hl [0, 1, 2, 3, 4, 5, 6, 7, 8, 9] rfl)
      intro G H locs ls hRS hP hD hS hl
      refine lv_iload hx hb dL_parade_279 (lv_at hl 0 rfl) ?_
      refine lv_iload_n hx hb dL_parade_281 rfl (lv_at hl 6 rfl) ?_
      refine lv_icmp_gt (tgt := 459) hx hb dL_parade_282 (by decide) (fun c9 => absurd (show nI (s9 5) < nI (b) from c9) (by rw [kl_lt (by omega) (by omega)]; omega)) (fun c9 => ?_)
      refine lv_iload hx hb dL_parade_285 (lv_at hl 3 rfl) ?_
      refine lv_if_eq (tgt := 459) hx hb dL_parade_287 (by decide) (fun c9 => absurd (show nI (1) = nI (0) from c9) (by rw [kl_eq (by omega) (by omega)]; omega)) (fun c9 => ?_)
      refine lv_iload hx hb dL_parade_290 (lv_at hl 0 rfl) ?_
      refine lv_iload_n hx hb dL_parade_292 rfl (lv_at hl 6 rfl) ?_
      refine lv_icmp_ne (tgt := 301) hx hb dL_parade_293 (by decide) (fun c9 => ?_) (fun c9 => ?_)
      · replace c9 : ¬ nI (b) = nI (s9 5) := c9
        rw [kl_eq (by omega) (by omega)] at c9
        refine lv_aload_n hx hb dL_parade_301 rfl (lv_at hl 8 rfl) ?_
        refine lv_iload hx hb dL_parade_302 (lv_at hl 0 rfl) ?_
        refine lv_iconst (v := nI 0) hx hb dL_parade_304 (by decide) ?_
        have e1 := l_bridgeOf hn hRS (j := b) (k := 0) (by omega) (by omega)
        refine kk_call_Vi (w' := (w_F g a G ++ w_H g (a 0 2) h V)) (As := [.int (nI b), .int (nI 0)]) (rest := []) 0 4 hC (sX4_bridgeOf l g n a G (nI b) (nI 0) (nI (t_bp s9 b 0)) e1) (cwV 2 hts gL_parade_X4_bridgeOf rfl rfl rfl (by decide +kernel) ⟨Nat.le_of_ble_eq_true rfl, Nat.le_of_ble_eq_true rfl⟩) hK hP hD hS hA (List.range 24) (kk_ml 24 rfl (by decide +kernel) (kk_m0 24 rfl rfl)) (by decide +kernel) rfl (kk_sl 24 rfl (by decide +kernel) (kk_s0 24 rfl rfl rfl)) rfl rfl rfl rfl rfl hl.1 (Nat.le_of_ble_eq_true rfl) dL_parade_305 (fun H locs hP hD hS => ?_)
        refine kk_nmi (x := nI (t_dst s9 b)) (by unfold t_dst t_bp; rw [if_pos (by omega), if_pos rfl]) ?_
        exact J308 G H locs ls hRS hP hD hS (lv_sub hl [0, 1, 2, 3, 4, 5, 6, 7, 8] rfl)
      · replace c9 : nI (b) = nI (s9 5) := c9
        rw [kl_eq (by omega) (by omega)] at c9
        refine lv_bipush (v := nI 60) hx hb dL_parade_296 (by decide) ?_
        refine lv_goto (tgt := 308) hx hb dL_parade_298 (by decide) ?_
        refine kk_nmi (x := nI (t_dst s9 b)) (by unfold t_dst; rw [if_neg (by omega)]) ?_
        exact J308 G H locs ls hRS hP hD hS (lv_sub hl [0, 1, 2, 3, 4, 5, 6, 7, 8] rfl)
set_option maxHeartbeats 8000000 in
set_option maxRecDepth 100000 in
theorem kP_row (hn : 1000 ≤ n) (hC : CallFix p m c cL_parade 12 s args wsL_parade RL) (hK : va_K g.1 vwCl (kT g) s) (hA : ∀ q, s.heap.size ≤ q → A q) (hW : WF s9) (hZ : Zx s9) {q9 : Nat} (hp : q9 < s9 4) (JN : kP_J p l e s m args below meth c Q g A a h V s9 c9 98 [(5, .int (nI (q9 + 1))), (4, .int (nI 1)), (3, .int (nI (sm (t_at s9) q9 + t_at s9 q9))), (2, .int (nI (s9 5))), (1, .int (nI (s9 4))), (0, .ref (a 0 0))] []) : kP_J p l e s m args below meth c Q g A a h V s9 c9 98 [(5, .int (nI q9)), (4, .int (nI 1)), (3, .int (nI (sm (t_at s9) q9))), (2, .int (nI (s9 5))), (1, .int (nI (s9 4))), (0, .ref (a 0 0))] [] := by
  obtain ⟨hx, hb, hml, hown, hts⟩ := id hC
  have w0 := hW.1
  have w1 := hW.2.1
  have hall := t_all_le s9 w1.1
  have hat := t_at_le s9 q9 (by omega)
  have hsh := t_shy_le s9 q9
  have hsm : sm (t_at s9) q9 ≤ 17 * q9 := sm_le (fun i hi => t_at_le s9 i (by omega))
  have hhg := t_hgt_h hW hp
  have hhl := t_hgt_le hW hp
  have hgg := t_hgt_gh (s := s9) (k := s9 4) hp
  have hgl := t_gh_le hW (k := s9 4) (Nat.le_refl _)
  have hnl := t_nl_le s9 q9
  have hf9 := hW.2.2.1 q9 hp
  have hcm := t_cm_le hW (L := s9 3) (p := q9) (b := s9 5) (by omega) (by omega) (by omega)
  have hend := t_end_le hW (L := s9 3) (by omega)
  have hat2 : t_shy s9 q9 + t_hear s9 q9 + t_meet s9 q9 = t_at s9 q9 := rfl
  have J482 : kP_J p l e s m args below meth c Q g A a h V s9 c9 482 [(7, .int (nI (t_cm s9 (s9 3) q9 (s9 5)))), (4, .int (nI 1)), (5, .int (nI q9)), (3, .int (nI (sm (t_at s9) q9 + t_at s9 q9))), (2, .int (nI (s9 5))), (1, .int (nI (s9 4))), (0, .ref (a 0 0))] [] := by
    intro G H locs ls hRS hP hD hS hl
    refine lv_iconst (v := nI 1) hx hb dL_parade_482 (by decide) ?_
    refine lv_goto (tgt := 487) hx hb dL_parade_483 (by decide) ?_
    refine lv_istore (i := 4) (lv' := [(4, .int (nI 1)), (7, .int (nI (t_cm s9 (s9 3) q9 (s9 5)))), (5, .int (nI q9)), (3, .int (nI (sm (t_at s9) q9 + t_at s9 q9))), (2, .int (nI (s9 5))), (1, .int (nI (s9 4))), (0, .ref (a 0 0))]) hx hb dL_parade_487 hl (by decide) rfl (fun ls hl => ?_)
    refine lv_iinc (v := nI (q9 + 1)) (lv' := [(5, .int (nI (q9 + 1))), (4, .int (nI 1)), (7, .int (nI (t_cm s9 (s9 3) q9 (s9 5)))), (3, .int (nI (sm (t_at s9) q9 + t_at s9 q9))), (2, .int (nI (s9 5))), (1, .int (nI (s9 4))), (0, .ref (a 0 0))]) hx hb dL_parade_489 hl (k := 2) rfl (nI_add _ _) (by decide) rfl (fun ls hl => ?_)
    refine lv_goto (tgt := 98) hx hb dL_parade_492 (by decide) ?_
    exact JN G H locs ls hRS hP hD hS (lv_sub hl [0, 1, 3, 4, 5, 6] rfl)
  have J459 : kP_J p l e s m args below meth c Q g A a h V s9 c9 459 [(7, .int (nI (t_cm s9 (s9 3) q9 (s9 5)))), (4, .int (nI 1)), (5, .int (nI q9)), (3, .int (nI (sm (t_at s9) q9 + t_at s9 q9))), (2, .int (nI (s9 5))), (1, .int (nI (s9 4))), (0, .ref (a 0 0))] [] := by
    intro G H locs ls hRS hP hD hS hl
    refine lv_iload hx hb dL_parade_459 (lv_at hl 1 rfl) ?_
    refine lv_if_eq (tgt := 486) hx hb dL_parade_461 (by decide) (fun c9 => absurd (show nI (1) = nI (0) from c9) (by rw [kl_eq (by omega) (by omega)]; omega)) (fun c9 => ?_)
    refine lv_iload hx hb dL_parade_464 (lv_at hl 2 rfl) ?_
    refine lv_iconst (v := nI 1) hx hb dL_parade_466 (by decide) ?_
    refine lv_iadd hx hb dL_parade_467 ?_
    refine kk_nmi (x := nI (q9 + 1)) ((nI_add _ _).symm) ?_
    refine lv_iload_n hx hb dL_parade_468 rfl (lv_at hl 5 rfl) ?_
    refine lv_icmp_lt (tgt := 482) hx hb dL_parade_469 (by decide) (fun c9 => ?_) (fun c9 => ?_)
    · replace c9 : nI (q9 + 1) < nI (s9 4) := c9
      rw [kl_lt (by omega) (by omega)] at c9
      exact J482 G H locs ls hRS hP hD hS (lv_sub hl [0, 1, 2, 3, 4, 5, 6] rfl)
    · replace c9 : ¬ nI (q9 + 1) < nI (s9 4) := c9
      rw [kl_lt (by omega) (by omega)] at c9
      have eq9 : t_end s9 (s9 3) = t_cm s9 (s9 3) q9 (s9 5) := by
        unfold t_end
        rw [if_neg (by omega), (by omega : s9 4 - 1 = q9)]
      refine lv_iload hx hb dL_parade_472 (lv_at hl 0 rfl) ?_
      refine lv_aload_n hx hb dL_parade_474 rfl (lv_at hl 6 rfl) ?_
      refine lv_iconst (v := nI 3) hx hb dL_parade_475 (by decide) ?_
      obtain ⟨G1, e2, hRS⟩ := l_c3 hn hRS
      refine kk_call_Vi (w' := (w_F g a G1 ++ w_H g (a 0 2) h V)) (As := [.int (nI 3)]) (rest := [.int (nI (t_cm s9 (s9 3) q9 (s9 5)))]) 0 4 hC (sX4_count l g n a h G V (nI 3) (nI (t_end s9 (s9 3)), G1) e2) (cwV 1 hts gL_parade_X4_count rfl rfl rfl (by decide +kernel) ⟨Nat.le_of_ble_eq_true rfl, Nat.le_of_ble_eq_true rfl⟩) hK hP hD hS hA (List.range 86) (kk_m0 86 rfl rfl) (by decide +kernel) rfl (kk_s0 86 rfl rfl rfl) rfl rfl rfl rfl rfl hl.1 (Nat.le_of_ble_eq_true rfl) dL_parade_476 (fun H locs hP hD hS => ?_)
      refine lv_icmp_ne (tgt := 486) hx hb dL_parade_479 (by decide) (fun c9 => absurd (show nI (t_cm s9 (s9 3) q9 (s9 5)) = nI (t_end s9 (s9 3)) from (by rw [kl_eq (by omega) (by omega)]; omega)) c9) (fun c9 => ?_)
      exact J482 G1 H locs ls hRS hP hD hS (lv_sub hl [0, 1, 2, 3, 4, 5, 6] rfl)
  have J263 : kP_J p l e s m args below meth c Q g A a h V s9 c9 263 [(4, .int (nI 1)), (6, .int (nI (t_at s9 q9))), (5, .int (nI q9)), (3, .int (nI (sm (t_at s9) q9 + t_at s9 q9))), (2, .int (nI (s9 5))), (1, .int (nI (s9 4))), (0, .ref (a 0 0))] [] := by
    intro G H locs ls hRS hP hD hS hl
    refine lv_iload hx hb dL_parade_263 (lv_at hl 2 rfl) ?_
    refine lv_aload_n hx hb dL_parade_265 rfl (lv_at hl 6 rfl) ?_
    refine lv_iconst (v := nI 1) hx hb dL_parade_266 (by decide) ?_
    have e1 := l_setting (n := n) hRS (k := 1) (by omega)
    refine kk_call_Vi (w' := (w_F g a G ++ w_H g (a 0 2) h V)) (As := [.int (nI 1)]) (rest := [.int (nI q9)]) 0 4 hC (sX4_setting l g n a G (nI 1) (nI (s9 1)) e1) (cwV 1 hts gL_parade_X4_setting rfl rfl rfl (by decide +kernel) ⟨Nat.le_of_ble_eq_true rfl, Nat.le_of_ble_eq_true rfl⟩) hK hP hD hS hA (List.range 24) (kk_ml 24 rfl (by decide +kernel) (kk_m0 24 rfl rfl)) (by decide +kernel) rfl (kk_sl 24 rfl (by decide +kernel) (kk_s0 24 rfl rfl rfl)) rfl rfl rfl rfl rfl hl.1 (Nat.le_of_ble_eq_true rfl) dL_parade_267 (fun H locs hP hD hS => ?_)
    refine lv_imul hx hb dL_parade_270 ?_
    refine kk_nmi (x := nI (q9 * (s9 1))) ((kl_mul _ _).symm) ?_
    refine lv_istore (i := 7) (lv' := [(7, .int (nI (q9 * (s9 1)))), (4, .int (nI 1)), (6, .int (nI (t_at s9 q9))), (5, .int (nI q9)), (3, .int (nI (sm (t_at s9) q9 + t_at s9 q9))), (2, .int (nI (s9 5))), (1, .int (nI (s9 4))), (0, .ref (a 0 0))]) hx hb dL_parade_271 hl (by decide) rfl (fun ls hl => ?_)
    refine lv_iconst (v := nI 0) hx hb dL_parade_273 (by decide) ?_
    refine lv_istore (i := 8) (lv' := [(8, .int (nI 0)), (7, .int (nI (q9 * (s9 1)))), (4, .int (nI 1)), (6, .int (nI (t_at s9 q9))), (5, .int (nI q9)), (3, .int (nI (sm (t_at s9) q9 + t_at s9 q9))), (2, .int (nI (s9 5))), (1, .int (nI (s9 4))), (0, .ref (a 0 0))]) hx hb dL_parade_274 hl (by decide) rfl (fun ls hl => ?_)
    refine lv_iconst (v := nI 0) hx hb dL_parade_276 (by decide) ?_
    refine lv_istore (i := 9) (lv' := [(9, .int (nI 0)), (8, .int (nI 0)), (7, .int (nI (q9 * (s9 1)))), (4, .int (nI 1)), (6, .int (nI (t_at s9 q9))), (5, .int (nI q9)), (3, .int (nI (sm (t_at s9) q9 + t_at s9 q9))), (2, .int (nI (s9 5))), (1, .int (nI (s9 4))), (0, .ref (a 0 0))]) hx hb dL_parade_277 hl (by decide) rfl (fun ls hl => ?_)
    exact kP_in hn hC hK hA hW hZ hp J459 (s9 5 + 1) 0 rfl G H locs ls hRS hP hD hS (lv_sub hl [0, 1, 2, 3, 5, 6, 7, 8, 9] rfl)
  have J200 : kP_J p l e s m args below meth c Q g A a h V s9 c9 200 [(6, .int (nI (t_at s9 q9))), (3, .int (nI (sm (t_at s9) q9 + t_at s9 q9))), (5, .int (nI q9)), (2, .int (nI (s9 5))), (1, .int (nI (s9 4))), (0, .ref (a 0 0))] [] := by
    intro G H locs ls hRS hP hD hS hl
    refine lv_aload_n hx hb dL_parade_200 rfl (lv_at hl 5 rfl) ?_
    refine lv_iload hx hb dL_parade_201 (lv_at hl 2 rfl) ?_
    refine lv_iconst (v := nI 4) hx hb dL_parade_203 (by decide) ?_
    have e1 := l_floatAt hn hRS (j := q9) (k := 4) (by omega) (by omega)
    refine kk_call_Vi (w' := (w_F g a G ++ w_H g (a 0 2) h V)) (As := [.int (nI q9), .int (nI 4)]) (rest := []) 0 4 hC (sX4_floatAt l g n a G (nI q9) (nI 4) (nI (t_hgt s9 q9)) e1) (cwV 2 hts gL_parade_X4_floatAt rfl rfl rfl (by decide +kernel) ⟨Nat.le_of_ble_eq_true rfl, Nat.le_of_ble_eq_true rfl⟩) hK hP hD hS hA (List.range 24) (kk_ml 24 rfl (by decide +kernel) (kk_m0 24 rfl rfl)) (by decide +kernel) rfl (kk_sl 24 rfl (by decide +kernel) (kk_s0 24 rfl rfl rfl)) rfl rfl rfl rfl rfl hl.1 (Nat.le_of_ble_eq_true rfl) dL_parade_204 (fun H locs hP hD hS => ?_)
    refine lv_bipush (v := nI 10) hx hb dL_parade_207 (by decide) ?_
    refine lv_icmp_lt (tgt := 260) hx hb dL_parade_209 (by decide) (fun c9 => absurd (show nI (t_hgt s9 q9) < nI (10) from c9) (by rw [kl_lt (by omega) (by omega)]; omega)) (fun c9 => ?_)
    refine lv_aload_n hx hb dL_parade_212 rfl (lv_at hl 5 rfl) ?_
    refine lv_iload hx hb dL_parade_213 (lv_at hl 2 rfl) ?_
    refine lv_iconst (v := nI 4) hx hb dL_parade_215 (by decide) ?_
    have e2 := l_floatAt hn hRS (j := q9) (k := 4) (by omega) (by omega)
    refine kk_call_Vi (w' := (w_F g a G ++ w_H g (a 0 2) h V)) (As := [.int (nI q9), .int (nI 4)]) (rest := []) 0 4 hC (sX4_floatAt l g n a G (nI q9) (nI 4) (nI (t_hgt s9 q9)) e2) (cwV 2 hts gL_parade_X4_floatAt rfl rfl rfl (by decide +kernel) ⟨Nat.le_of_ble_eq_true rfl, Nat.le_of_ble_eq_true rfl⟩) hK hP hD hS hA (List.range 24) (kk_ml 24 rfl (by decide +kernel) (kk_m0 24 rfl rfl)) (by decide +kernel) rfl (kk_sl 24 rfl (by decide +kernel) (kk_s0 24 rfl rfl rfl)) rfl rfl rfl rfl rfl hl.1 (Nat.le_of_ble_eq_true rfl) dL_parade_216 (fun H locs hP hD hS => ?_)
    refine lv_aload_n hx hb dL_parade_219 rfl (lv_at hl 5 rfl) ?_
    refine lv_iload hx hb dL_parade_220 (lv_at hl 2 rfl) ?_
    refine lv_iconst (v := nI 1) hx hb dL_parade_222 (by decide) ?_
    have e3 := l_floatAt hn hRS (j := q9) (k := 1) (by omega) (by omega)
    refine kk_call_Vi (w' := (w_F g a G ++ w_H g (a 0 2) h V)) (As := [.int (nI q9), .int (nI 1)]) (rest := [.int (nI (t_hgt s9 q9))]) 0 4 hC (sX4_floatAt l g n a G (nI q9) (nI 1) (nI (s9 (15 + 4 * q9))) e3) (cwV 2 hts gL_parade_X4_floatAt rfl rfl rfl (by decide +kernel) ⟨Nat.le_of_ble_eq_true rfl, Nat.le_of_ble_eq_true rfl⟩) hK hP hD hS hA (List.range 24) (kk_ml 24 rfl (by decide +kernel) (kk_m0 24 rfl rfl)) (by decide +kernel) rfl (kk_sl 24 rfl (by decide +kernel) (kk_s0 24 rfl rfl rfl)) rfl rfl rfl rfl rfl hl.1 (Nat.le_of_ble_eq_true rfl) dL_parade_223 (fun H locs hP hD hS => ?_)
    refine lv_icmp_gt (tgt := 260) hx hb dL_parade_226 (by decide) (fun c9 => absurd (show nI (s9 (15 + 4 * q9)) < nI (t_hgt s9 q9) from c9) (by rw [kl_lt (by omega) (by omega)]; omega)) (fun c9 => ?_)
    refine lv_aload_n hx hb dL_parade_229 rfl (lv_at hl 5 rfl) ?_
    refine lv_iload hx hb dL_parade_230 (lv_at hl 2 rfl) ?_
    refine lv_iconst (v := nI 4) hx hb dL_parade_232 (by decide) ?_
    have e4 := l_floatAt hn hRS (j := q9) (k := 4) (by omega) (by omega)
    refine kk_call_Vi (w' := (w_F g a G ++ w_H g (a 0 2) h V)) (As := [.int (nI q9), .int (nI 4)]) (rest := []) 0 4 hC (sX4_floatAt l g n a G (nI q9) (nI 4) (nI (t_hgt s9 q9)) e4) (cwV 2 hts gL_parade_X4_floatAt rfl rfl rfl (by decide +kernel) ⟨Nat.le_of_ble_eq_true rfl, Nat.le_of_ble_eq_true rfl⟩) hK hP hD hS hA (List.range 24) (kk_ml 24 rfl (by decide +kernel) (kk_m0 24 rfl rfl)) (by decide +kernel) rfl (kk_sl 24 rfl (by decide +kernel) (kk_s0 24 rfl rfl rfl)) rfl rfl rfl rfl rfl hl.1 (Nat.le_of_ble_eq_true rfl) dL_parade_233 (fun H locs hP hD hS => ?_)
    refine lv_aload_n hx hb dL_parade_236 rfl (lv_at hl 5 rfl) ?_
    refine lv_bipush (v := nI 7) hx hb dL_parade_237 (by decide) ?_
    obtain ⟨G5, e6, hRS⟩ := l_c7 hn hRS
    refine kk_call_Vi (w' := (w_F g a G5 ++ w_H g (a 0 2) h V)) (As := [.int (nI 7)]) (rest := [.int (nI (t_hgt s9 q9))]) 0 4 hC (sX4_count l g n a h G V (nI 7) (nI (t_gh s9 (s9 4)), G5) e6) (cwV 1 hts gL_parade_X4_count rfl rfl rfl (by decide +kernel) ⟨Nat.le_of_ble_eq_true rfl, Nat.le_of_ble_eq_true rfl⟩) hK hP hD hS hA (List.range 86) (kk_m0 86 rfl rfl) (by decide +kernel) rfl (kk_s0 86 rfl rfl rfl) rfl rfl rfl rfl rfl hl.1 (Nat.le_of_ble_eq_true rfl) dL_parade_239 (fun H locs hP hD hS => ?_)
    refine lv_icmp_gt (tgt := 260) hx hb dL_parade_242 (by decide) (fun c9 => absurd (show nI (t_gh s9 (s9 4)) < nI (t_hgt s9 q9) from c9) (by rw [kl_lt (by omega) (by omega)]; omega)) (fun c9 => ?_)
    refine lv_aload_n hx hb dL_parade_245 rfl (lv_at hl 5 rfl) ?_
    refine lv_iload hx hb dL_parade_246 (lv_at hl 2 rfl) ?_
    refine lv_iconst (v := nI 5) hx hb dL_parade_248 (by decide) ?_
    have e7 := l_floatAt hn hRS (j := q9) (k := 5) (by omega) (by omega)
    refine kk_call_Vi (w' := (w_F g a G5 ++ w_H g (a 0 2) h V)) (As := [.int (nI q9), .int (nI 5)]) (rest := []) 0 4 hC (sX4_floatAt l g n a G5 (nI q9) (nI 5) (nI (t_nl s9 q9)) e7) (cwV 2 hts gL_parade_X4_floatAt rfl rfl rfl (by decide +kernel) ⟨Nat.le_of_ble_eq_true rfl, Nat.le_of_ble_eq_true rfl⟩) hK hP hD hS hA (List.range 24) (kk_ml 24 rfl (by decide +kernel) (kk_m0 24 rfl rfl)) (by decide +kernel) rfl (kk_sl 24 rfl (by decide +kernel) (kk_s0 24 rfl rfl rfl)) rfl rfl rfl rfl rfl hl.1 (Nat.le_of_ble_eq_true rfl) dL_parade_249 (fun H locs hP hD hS => ?_)
    refine lv_iload_n hx hb dL_parade_252 rfl (lv_at hl 3 rfl) ?_
    refine lv_icmp_gt (tgt := 260) hx hb dL_parade_253 (by decide) (fun c9 => absurd (show nI (s9 5) < nI (t_nl s9 q9) from c9) (by rw [kl_lt (by omega) (by omega)]; omega)) (fun c9 => ?_)
    refine lv_iconst (v := nI 1) hx hb dL_parade_256 (by decide) ?_
    refine lv_goto (tgt := 261) hx hb dL_parade_257 (by decide) ?_
    refine lv_istore (i := 4) (lv' := [(4, .int (nI 1)), (6, .int (nI (t_at s9 q9))), (3, .int (nI (sm (t_at s9) q9 + t_at s9 q9))), (5, .int (nI q9)), (2, .int (nI (s9 5))), (1, .int (nI (s9 4))), (0, .ref (a 0 0))]) hx hb dL_parade_261 hl (by decide) rfl (fun ls hl => ?_)
    exact J263 G5 H locs ls hRS hP hD hS (lv_sub hl [0, 1, 3, 2, 4, 5, 6] rfl)
  intro G H locs ls hRS hP hD hS hl
  refine lv_iload hx hb dL_parade_98 (lv_at hl 0 rfl) ?_
  refine lv_iload_n hx hb dL_parade_100 rfl (lv_at hl 4 rfl) ?_
  refine lv_icmp_ge (tgt := 495) hx hb dL_parade_101 (by decide) (fun c9 => absurd (show nI (s9 4) ≤ nI (q9) from c9) (by rw [kl_le (by omega) (by omega)]; omega)) (fun c9 => ?_)
  refine lv_iload hx hb dL_parade_104 (lv_at hl 1 rfl) ?_
  refine lv_if_eq (tgt := 495) hx hb dL_parade_106 (by decide) (fun c9 => absurd (show nI (1) = nI (0) from c9) (by rw [kl_eq (by omega) (by omega)]; omega)) (fun c9 => ?_)
  refine lv_iconst (v := nI 0) hx hb dL_parade_109 (by decide) ?_
  refine lv_istore (i := 6) (lv' := [(6, .int (nI 0)), (5, .int (nI q9)), (4, .int (nI 1)), (3, .int (nI (sm (t_at s9) q9))), (2, .int (nI (s9 5))), (1, .int (nI (s9 4))), (0, .ref (a 0 0))]) hx hb dL_parade_110 hl (by decide) rfl (fun ls hl => ?_)
  refine lv_iconst (v := nI 0) hx hb dL_parade_112 (by decide) ?_
  refine lv_istore (i := 7) (lv' := [(7, .int (nI 0)), (6, .int (nI 0)), (5, .int (nI q9)), (4, .int (nI 1)), (3, .int (nI (sm (t_at s9) q9))), (2, .int (nI (s9 5))), (1, .int (nI (s9 4))), (0, .ref (a 0 0))]) hx hb dL_parade_113 hl (by decide) rfl (fun ls hl => ?_)
  refine lv_iload hx hb dL_parade_115 (lv_at hl 0 rfl) ?_
  refine lv_iconst (v := nI 3) hx hb dL_parade_117 (by decide) ?_
  refine lv_icmp_ge (tgt := 140) hx hb dL_parade_118 (by decide) (fun c9 => absurd (show nI (3) ≤ nI (0) from c9) (by rw [kl_le (by omega) (by omega)]; omega)) (fun c9 => ?_)
  refine lv_iload hx hb dL_parade_121 (lv_at hl 1 rfl) ?_
  refine lv_aload_n hx hb dL_parade_123 rfl (lv_at hl 7 rfl) ?_
  refine lv_iload hx hb dL_parade_124 (lv_at hl 2 rfl) ?_
  refine lv_iload hx hb dL_parade_126 (lv_at hl 0 rfl) ?_
  have e1 := l_trouble hn hRS (j := q9) (k := 0) (by omega) (by omega)
  refine kk_call_Vi (w' := (w_F g a G ++ w_H g (a 0 2) h V)) (As := [.int (nI q9), .int (nI 0)]) (rest := [.int (nI 0)]) 0 4 hC (sX4_trouble l g n a G (nI q9) (nI 0) (nI (t_shy s9 q9)) e1) (cwV 2 hts gL_parade_X4_trouble rfl rfl rfl (by decide +kernel) ⟨Nat.le_of_ble_eq_true rfl, Nat.le_of_ble_eq_true rfl⟩) hK hP hD hS hA (List.range 24) (kk_ml 24 rfl (by decide +kernel) (kk_m0 24 rfl rfl)) (by decide +kernel) rfl (kk_sl 24 rfl (by decide +kernel) (kk_s0 24 rfl rfl rfl)) rfl rfl rfl rfl rfl hl.1 (Nat.le_of_ble_eq_true rfl) dL_parade_128 (fun H locs hP hD hS => ?_)
  refine lv_iadd hx hb dL_parade_131 ?_
  refine kk_nmi (x := nI (0 + (t_shy s9 q9))) ((nI_add _ _).symm) ?_
  refine lv_istore (i := 6) (lv' := [(6, .int (nI (0 + (t_shy s9 q9)))), (7, .int (nI 0)), (5, .int (nI q9)), (4, .int (nI 1)), (3, .int (nI (sm (t_at s9) q9))), (2, .int (nI (s9 5))), (1, .int (nI (s9 4))), (0, .ref (a 0 0))]) hx hb dL_parade_132 hl (by decide) rfl (fun ls hl => ?_)
  refine lv_iinc (v := nI (0 + 1)) (lv' := [(7, .int (nI (0 + 1))), (6, .int (nI (0 + (t_shy s9 q9)))), (5, .int (nI q9)), (4, .int (nI 1)), (3, .int (nI (sm (t_at s9) q9))), (2, .int (nI (s9 5))), (1, .int (nI (s9 4))), (0, .ref (a 0 0))]) hx hb dL_parade_134 hl (k := 1) rfl (nI_add _ _) (by decide) rfl (fun ls hl => ?_)
  refine lv_goto (tgt := 115) hx hb dL_parade_137 (by decide) ?_
  refine lv_iload hx hb dL_parade_115 (lv_at hl 0 rfl) ?_
  refine lv_iconst (v := nI 3) hx hb dL_parade_117 (by decide) ?_
  refine lv_icmp_ge (tgt := 140) hx hb dL_parade_118 (by decide) (fun c9 => absurd (show nI (3) ≤ nI (0 + 1) from c9) (by rw [kl_le (by omega) (by omega)]; omega)) (fun c9 => ?_)
  refine lv_iload hx hb dL_parade_121 (lv_at hl 1 rfl) ?_
  refine lv_aload_n hx hb dL_parade_123 rfl (lv_at hl 7 rfl) ?_
  refine lv_iload hx hb dL_parade_124 (lv_at hl 2 rfl) ?_
  refine lv_iload hx hb dL_parade_126 (lv_at hl 0 rfl) ?_
  have e2 := l_trouble hn hRS (j := q9) (k := 1) (by omega) (by omega)
  refine kk_call_Vi (w' := (w_F g a G ++ w_H g (a 0 2) h V)) (As := [.int (nI q9), .int (nI (0 + 1))]) (rest := [.int (nI (0 + (t_shy s9 q9)))]) 0 4 hC (sX4_trouble l g n a G (nI q9) (nI (0 + 1)) (nI (t_hear s9 q9)) e2) (cwV 2 hts gL_parade_X4_trouble rfl rfl rfl (by decide +kernel) ⟨Nat.le_of_ble_eq_true rfl, Nat.le_of_ble_eq_true rfl⟩) hK hP hD hS hA (List.range 24) (kk_ml 24 rfl (by decide +kernel) (kk_m0 24 rfl rfl)) (by decide +kernel) rfl (kk_sl 24 rfl (by decide +kernel) (kk_s0 24 rfl rfl rfl)) rfl rfl rfl rfl rfl hl.1 (Nat.le_of_ble_eq_true rfl) dL_parade_128 (fun H locs hP hD hS => ?_)
  refine lv_iadd hx hb dL_parade_131 ?_
  refine kk_nmi (x := nI ((0 + (t_shy s9 q9)) + (t_hear s9 q9))) ((nI_add _ _).symm) ?_
  refine lv_istore (i := 6) (lv' := [(6, .int (nI ((0 + (t_shy s9 q9)) + (t_hear s9 q9)))), (7, .int (nI (0 + 1))), (5, .int (nI q9)), (4, .int (nI 1)), (3, .int (nI (sm (t_at s9) q9))), (2, .int (nI (s9 5))), (1, .int (nI (s9 4))), (0, .ref (a 0 0))]) hx hb dL_parade_132 hl (by decide) rfl (fun ls hl => ?_)
  refine lv_iinc (v := nI (0 + 1 + 1)) (lv' := [(7, .int (nI (0 + 1 + 1))), (6, .int (nI ((0 + (t_shy s9 q9)) + (t_hear s9 q9)))), (5, .int (nI q9)), (4, .int (nI 1)), (3, .int (nI (sm (t_at s9) q9))), (2, .int (nI (s9 5))), (1, .int (nI (s9 4))), (0, .ref (a 0 0))]) hx hb dL_parade_134 hl (k := 1) rfl (nI_add _ _) (by decide) rfl (fun ls hl => ?_)
  refine lv_goto (tgt := 115) hx hb dL_parade_137 (by decide) ?_
  refine lv_iload hx hb dL_parade_115 (lv_at hl 0 rfl) ?_
  refine lv_iconst (v := nI 3) hx hb dL_parade_117 (by decide) ?_
  refine lv_icmp_ge (tgt := 140) hx hb dL_parade_118 (by decide) (fun c9 => absurd (show nI (3) ≤ nI (0 + 1 + 1) from c9) (by rw [kl_le (by omega) (by omega)]; omega)) (fun c9 => ?_)
  refine lv_iload hx hb dL_parade_121 (lv_at hl 1 rfl) ?_
  refine lv_aload_n hx hb dL_parade_123 rfl (lv_at hl 7 rfl) ?_
  refine lv_iload hx hb dL_parade_124 (lv_at hl 2 rfl) ?_
  refine lv_iload hx hb dL_parade_126 (lv_at hl 0 rfl) ?_
  have e3 := l_trouble hn hRS (j := q9) (k := 2) (by omega) (by omega)
  refine kk_call_Vi (w' := (w_F g a G ++ w_H g (a 0 2) h V)) (As := [.int (nI q9), .int (nI (0 + 1 + 1))]) (rest := [.int (nI ((0 + (t_shy s9 q9)) + (t_hear s9 q9)))]) 0 4 hC (sX4_trouble l g n a G (nI q9) (nI (0 + 1 + 1)) (nI (t_meet s9 q9)) e3) (cwV 2 hts gL_parade_X4_trouble rfl rfl rfl (by decide +kernel) ⟨Nat.le_of_ble_eq_true rfl, Nat.le_of_ble_eq_true rfl⟩) hK hP hD hS hA (List.range 24) (kk_ml 24 rfl (by decide +kernel) (kk_m0 24 rfl rfl)) (by decide +kernel) rfl (kk_sl 24 rfl (by decide +kernel) (kk_s0 24 rfl rfl rfl)) rfl rfl rfl rfl rfl hl.1 (Nat.le_of_ble_eq_true rfl) dL_parade_128 (fun H locs hP hD hS => ?_)
  refine lv_iadd hx hb dL_parade_131 ?_
  refine kk_nmi (x := nI (((0 + (t_shy s9 q9)) + (t_hear s9 q9)) + (t_meet s9 q9))) ((nI_add _ _).symm) ?_
  refine lv_istore (i := 6) (lv' := [(6, .int (nI (((0 + (t_shy s9 q9)) + (t_hear s9 q9)) + (t_meet s9 q9)))), (7, .int (nI (0 + 1 + 1))), (5, .int (nI q9)), (4, .int (nI 1)), (3, .int (nI (sm (t_at s9) q9))), (2, .int (nI (s9 5))), (1, .int (nI (s9 4))), (0, .ref (a 0 0))]) hx hb dL_parade_132 hl (by decide) rfl (fun ls hl => ?_)
  refine lv_iinc (v := nI (0 + 1 + 1 + 1)) (lv' := [(7, .int (nI (0 + 1 + 1 + 1))), (6, .int (nI (((0 + (t_shy s9 q9)) + (t_hear s9 q9)) + (t_meet s9 q9)))), (5, .int (nI q9)), (4, .int (nI 1)), (3, .int (nI (sm (t_at s9) q9))), (2, .int (nI (s9 5))), (1, .int (nI (s9 4))), (0, .ref (a 0 0))]) hx hb dL_parade_134 hl (k := 1) rfl (nI_add _ _) (by decide) rfl (fun ls hl => ?_)
  refine lv_goto (tgt := 115) hx hb dL_parade_137 (by decide) ?_
  refine lv_iload hx hb dL_parade_115 (lv_at hl 0 rfl) ?_
  refine lv_iconst (v := nI 3) hx hb dL_parade_117 (by decide) ?_
  refine lv_icmp_ge (tgt := 140) hx hb dL_parade_118 (by decide) (fun c9 => ?_) (fun c9 => absurd (show nI (3) ≤ nI (0 + 1 + 1 + 1) from (by rw [kl_le (by omega) (by omega)]; omega)) c9)
  refine lv_iload_n hx hb dL_parade_140 rfl (lv_at hl 4 rfl) ?_
  refine lv_iload hx hb dL_parade_141 (lv_at hl 1 rfl) ?_
  refine lv_iadd hx hb dL_parade_143 ?_
  refine kk_nmi (x := nI ((sm (t_at s9) q9) + (((0 + (t_shy s9 q9)) + (t_hear s9 q9)) + (t_meet s9 q9)))) ((nI_add _ _).symm) ?_
  refine lv_istore_n (i := 3) (lv' := [(3, .int (nI ((sm (t_at s9) q9) + (((0 + (t_shy s9 q9)) + (t_hear s9 q9)) + (t_meet s9 q9))))), (7, .int (nI (0 + 1 + 1 + 1))), (6, .int (nI (((0 + (t_shy s9 q9)) + (t_hear s9 q9)) + (t_meet s9 q9)))), (5, .int (nI q9)), (4, .int (nI 1)), (2, .int (nI (s9 5))), (1, .int (nI (s9 4))), (0, .ref (a 0 0))]) hx hb dL_parade_144 rfl hl (by decide) rfl (fun ls hl => ?_)
  have e6 : ((0 + (t_shy s9 q9)) + (t_hear s9 q9)) + (t_meet s9 q9) = t_at s9 q9 := by omega
  rw [e6] at hl
  refine lv_aload_n hx hb dL_parade_145 rfl (lv_at hl 7 rfl) ?_
  refine lv_iload hx hb dL_parade_146 (lv_at hl 3 rfl) ?_
  refine lv_bipush (v := nI 6) hx hb dL_parade_148 (by decide) ?_
  have e4 := l_floatAt hn hRS (j := q9) (k := 6) (by omega) (by omega)
  refine kk_call_Vi (w' := (w_F g a G ++ w_H g (a 0 2) h V)) (As := [.int (nI q9), .int (nI 6)]) (rest := []) 0 4 hC (sX4_floatAt l g n a G (nI q9) (nI 6) (nI (t_at s9 q9)) e4) (cwV 2 hts gL_parade_X4_floatAt rfl rfl rfl (by decide +kernel) ⟨Nat.le_of_ble_eq_true rfl, Nat.le_of_ble_eq_true rfl⟩) hK hP hD hS hA (List.range 24) (kk_ml 24 rfl (by decide +kernel) (kk_m0 24 rfl rfl)) (by decide +kernel) rfl (kk_sl 24 rfl (by decide +kernel) (kk_s0 24 rfl rfl rfl)) rfl rfl rfl rfl rfl hl.1 (Nat.le_of_ble_eq_true rfl) dL_parade_150 (fun H locs hP hD hS => ?_)
  refine lv_iload hx hb dL_parade_153 (lv_at hl 2 rfl) ?_
  refine lv_icmp_ne (tgt := 260) hx hb dL_parade_155 (by decide) (fun c9 => absurd (show nI (t_at s9 q9) = nI (t_at s9 q9) from rfl) c9) (fun c9 => ?_)
  refine lv_aload_n hx hb dL_parade_158 rfl (lv_at hl 7 rfl) ?_
  refine lv_iload hx hb dL_parade_159 (lv_at hl 3 rfl) ?_
  refine lv_iconst (v := nI 0) hx hb dL_parade_161 (by decide) ?_
  have e5 := l_trouble hn hRS (j := q9) (k := 0) (by omega) (by omega)
  refine kk_call_Vi (w' := (w_F g a G ++ w_H g (a 0 2) h V)) (As := [.int (nI q9), .int (nI 0)]) (rest := []) 0 4 hC (sX4_trouble l g n a G (nI q9) (nI 0) (nI (t_shy s9 q9)) e5) (cwV 2 hts gL_parade_X4_trouble rfl rfl rfl (by decide +kernel) ⟨Nat.le_of_ble_eq_true rfl, Nat.le_of_ble_eq_true rfl⟩) hK hP hD hS hA (List.range 24) (kk_ml 24 rfl (by decide +kernel) (kk_m0 24 rfl rfl)) (by decide +kernel) rfl (kk_sl 24 rfl (by decide +kernel) (kk_s0 24 rfl rfl rfl)) rfl rfl rfl rfl rfl hl.1 (Nat.le_of_ble_eq_true rfl) dL_parade_162 (fun H locs hP hD hS => ?_)
  refine lv_iconst (v := nI 4) hx hb dL_parade_165 (by decide) ?_
  refine lv_icmp_gt (tgt := 260) hx hb dL_parade_166 (by decide) (fun c9 => absurd (show nI (4) < nI (t_shy s9 q9) from c9) (by rw [kl_lt (by omega) (by omega)]; omega)) (fun c9 => ?_)
  refine lv_aload_n hx hb dL_parade_169 rfl (lv_at hl 7 rfl) ?_
  refine lv_iload hx hb dL_parade_170 (lv_at hl 3 rfl) ?_
  refine lv_iconst (v := nI 0) hx hb dL_parade_172 (by decide) ?_
  have e6 := l_floatAt hn hRS (j := q9) (k := 0) (by omega) (by omega)
  refine kk_call_Vi (w' := (w_F g a G ++ w_H g (a 0 2) h V)) (As := [.int (nI q9), .int (nI 0)]) (rest := []) 0 4 hC (sX4_floatAt l g n a G (nI q9) (nI 0) (nI (s9 (14 + 4 * q9))) e6) (cwV 2 hts gL_parade_X4_floatAt rfl rfl rfl (by decide +kernel) ⟨Nat.le_of_ble_eq_true rfl, Nat.le_of_ble_eq_true rfl⟩) hK hP hD hS hA (List.range 24) (kk_ml 24 rfl (by decide +kernel) (kk_m0 24 rfl rfl)) (by decide +kernel) rfl (kk_sl 24 rfl (by decide +kernel) (kk_s0 24 rfl rfl rfl)) rfl rfl rfl rfl rfl hl.1 (Nat.le_of_ble_eq_true rfl) dL_parade_173 (fun H locs hP hD hS => ?_)
  refine lv_iconst (v := nI 1) hx hb dL_parade_176 (by decide) ?_
  refine lv_icmp_eq (tgt := 200) hx hb dL_parade_177 (by decide) (fun c9 => ?_) (fun c9 => ?_)
  · replace c9 : nI (s9 (14 + 4 * q9)) = nI (1) := c9
    rw [kl_eq (by omega) (by omega)] at c9
    exact J200 G H locs ls hRS hP hD hS (lv_sub hl [2, 0, 3, 5, 6, 7] rfl)
  · replace c9 : ¬ nI (s9 (14 + 4 * q9)) = nI (1) := c9
    rw [kl_eq (by omega) (by omega)] at c9
    have hm0 := hZ.1 q9 hp c9
    have hs0 := t_shy0 hm0
    refine lv_aload_n hx hb dL_parade_180 rfl (lv_at hl 7 rfl) ?_
    refine lv_iload hx hb dL_parade_181 (lv_at hl 3 rfl) ?_
    refine lv_iconst (v := nI 0) hx hb dL_parade_183 (by decide) ?_
    have e7 := l_trouble hn hRS (j := q9) (k := 0) (by omega) (by omega)
    refine kk_call_Vi (w' := (w_F g a G ++ w_H g (a 0 2) h V)) (As := [.int (nI q9), .int (nI 0)]) (rest := []) 0 4 hC (sX4_trouble l g n a G (nI q9) (nI 0) (nI (t_shy s9 q9)) e7) (cwV 2 hts gL_parade_X4_trouble rfl rfl rfl (by decide +kernel) ⟨Nat.le_of_ble_eq_true rfl, Nat.le_of_ble_eq_true rfl⟩) hK hP hD hS hA (List.range 24) (kk_ml 24 rfl (by decide +kernel) (kk_m0 24 rfl rfl)) (by decide +kernel) rfl (kk_sl 24 rfl (by decide +kernel) (kk_s0 24 rfl rfl rfl)) rfl rfl rfl rfl rfl hl.1 (Nat.le_of_ble_eq_true rfl) dL_parade_184 (fun H locs hP hD hS => ?_)
    refine lv_if_ne (tgt := 260) hx hb dL_parade_187 (by decide) (fun c9 => absurd (show nI (t_shy s9 q9) = nI (0) from (by rw [kl_eq (by omega) (by omega)]; omega)) c9) (fun c9 => ?_)
    refine lv_aload_n hx hb dL_parade_190 rfl (lv_at hl 7 rfl) ?_
    refine lv_iload hx hb dL_parade_191 (lv_at hl 3 rfl) ?_
    refine lv_iconst (v := nI 2) hx hb dL_parade_193 (by decide) ?_
    have e8 := l_floatAt hn hRS (j := q9) (k := 2) (by omega) (by omega)
    refine kk_call_Vi (w' := (w_F g a G ++ w_H g (a 0 2) h V)) (As := [.int (nI q9), .int (nI 2)]) (rest := []) 0 4 hC (sX4_floatAt l g n a G (nI q9) (nI 2) (nI (s9 (16 + 4 * q9))) e8) (cwV 2 hts gL_parade_X4_floatAt rfl rfl rfl (by decide +kernel) ⟨Nat.le_of_ble_eq_true rfl, Nat.le_of_ble_eq_true rfl⟩) hK hP hD hS hA (List.range 24) (kk_ml 24 rfl (by decide +kernel) (kk_m0 24 rfl rfl)) (by decide +kernel) rfl (kk_sl 24 rfl (by decide +kernel) (kk_s0 24 rfl rfl rfl)) rfl rfl rfl rfl rfl hl.1 (Nat.le_of_ble_eq_true rfl) dL_parade_194 (fun H locs hP hD hS => ?_)
    refine lv_if_ne (tgt := 260) hx hb dL_parade_197 (by decide) (fun c9 => absurd (show nI (s9 (16 + 4 * q9)) = nI (0) from (by rw [kl_eq (by omega) (by omega)]; omega)) c9) (fun c9 => ?_)
    exact J200 G H locs ls hRS hP hD hS (lv_sub hl [2, 0, 3, 5, 6, 7] rfl)
set_option maxHeartbeats 8000000 in
set_option maxRecDepth 100000 in
theorem kP_end (hn : 1000 ≤ n) (hC : CallFix p m c cL_parade 12 s args wsL_parade RL) (hK : va_K g.1 vwCl (kT g) s) (hA : ∀ q, s.heap.size ≤ q → A q) (hW : WF s9) (hZ : Zx s9) (hQ : Q = MQ below (kQe g (fun u : St2 => w_F g a u ++ w_H g (a 0 2) h V) (fun r u => r = 1 ∧ RS u V s9 c9) A) args s 0 0 A) (hr : meth.sig.returnType = some .boolean) (hlocks : meth.locks = false) : kP_J p l e s m args below meth c Q g A a h V s9 c9 495 [(4, .int (nI 1)), (3, .int (nI (t_all s9))), (2, .int (nI (s9 5))), (1, .int (nI (s9 4))), (0, .ref (a 0 0))] [] := by
  obtain ⟨hx, hb, hml, hown, hts⟩ := id hC
  have w0 := hW.1
  have w1 := hW.2.1
  subst hQ
  have hall := t_all_le s9 w1.1
  have hck := t_sh_ck hW
  have J554 : kP_J p l e s m args below meth c (MQ below (kQe g (fun u : St2 => w_F g a u ++ w_H g (a 0 2) h V) (fun r u => r = 1 ∧ RS u V s9 c9) A) args s 0 0 A) g A a h V s9 c9 554 [(3, .int (nI (t_all s9))), (2, .int (nI (s9 5))), (1, .int (nI (s9 4))), (0, .ref (a 0 0))] [] := by
    intro G H locs ls hRS hP hD hS hl
    refine lv_iconst (v := nI 1) hx hb dL_parade_554 (by decide) ?_
    refine lv_goto (tgt := 559) hx hb dL_parade_555 (by decide) ?_
    exact kz_ret (wf := fun u : St2 => w_F g a u ++ w_H g (a 0 2) h V) (post := fun r u => r = 1 ∧ RS u V s9 c9) G hC hr hlocks hK hP hD hS dL_parade_559 (Or.inr rfl) ⟨rfl, hRS⟩
  have J540 : kP_J p l e s m args below meth c (MQ below (kQe g (fun u : St2 => w_F g a u ++ w_H g (a 0 2) h V) (fun r u => r = 1 ∧ RS u V s9 c9) A) args s 0 0 A) g A a h V s9 c9 540 [(3, .int (nI (t_all s9))), (2, .int (nI (s9 5))), (1, .int (nI (s9 4))), (0, .ref (a 0 0))] [] := by
    intro G H locs ls hRS hP hD hS hl
    refine lv_iload_n hx hb dL_parade_540 rfl (lv_at hl 2 rfl) ?_
    refine lv_bipush (v := nI 7) hx hb dL_parade_541 (by decide) ?_
    refine lv_icmp_lt (tgt := 554) hx hb dL_parade_543 (by decide) (fun c9 => ?_) (fun c9 => ?_)
    · replace c9 : nI (s9 4) < nI (7) := c9
      rw [kl_lt (by omega) (by omega)] at c9
      exact J554 G H locs ls hRS hP hD hS (lv_sub hl [0, 1, 2, 3] rfl)
    · replace c9 : ¬ nI (s9 4) < nI (7) := c9
      rw [kl_lt (by omega) (by omega)] at c9
      refine lv_aload_n hx hb dL_parade_546 rfl (lv_at hl 3 rfl) ?_
      obtain ⟨G1, e2, hRS⟩ := l_least hn hRS
      refine kk_call_Vi (w' := (w_F g a G1 ++ w_H g (a 0 2) h V)) (As := []) (rest := []) 0 4 hC (sX4_leastTrouble l g n a G ((if s9 4 ≤ 6 then nI (t_lst s9) else kM), G1) e2) (cwV 0 hts gL_parade_X4_leastTrouble rfl rfl rfl (by decide +kernel) ⟨Nat.le_of_ble_eq_true rfl, Nat.le_of_ble_eq_true rfl⟩) hK hP hD hS hA (List.range 24) (kk_ml 24 rfl (by decide +kernel) (kk_m0 24 rfl rfl)) (by decide +kernel) rfl (kk_sl 24 rfl (by decide +kernel) (kk_s0 24 rfl rfl rfl)) rfl rfl rfl rfl rfl hl.1 (Nat.le_of_ble_eq_true rfl) dL_parade_547 (fun H locs hP hD hS => ?_)
      refine kk_nmi (x := kM) ((if_neg (by omega)).symm) ?_
      refine lv_iconst (v := kM) hx hb dL_parade_550 (by decide) ?_
      refine lv_icmp_ne (tgt := 558) hx hb dL_parade_551 (by decide) (fun c9 => absurd rfl c9) (fun c9 => ?_)
      exact J554 G1 H locs ls hRS hP hD hS (lv_sub hl [0, 1, 2, 3] rfl)
  intro G H locs ls hRS hP hD hS hl
  refine lv_iload hx hb dL_parade_495 (lv_at hl 0 rfl) ?_
  refine lv_if_eq (tgt := 558) hx hb dL_parade_497 (by decide) (fun c9 => absurd (show nI (1) = nI (0) from c9) (by rw [kl_eq (by omega) (by omega)]; omega)) (fun c9 => ?_)
  refine lv_iload_n hx hb dL_parade_500 rfl (lv_at hl 1 rfl) ?_
  refine lv_aload_n hx hb dL_parade_501 rfl (lv_at hl 4 rfl) ?_
  refine lv_iconst (v := nI 2) hx hb dL_parade_502 (by decide) ?_
  obtain ⟨G1, e2, hRS⟩ := l_c2 hn hRS
  refine kk_call_Vi (w' := (w_F g a G1 ++ w_H g (a 0 2) h V)) (As := [.int (nI 2)]) (rest := [.int (nI (t_all s9))]) 0 4 hC (sX4_count l g n a h G V (nI 2) (nI (t_all s9), G1) e2) (cwV 1 hts gL_parade_X4_count rfl rfl rfl (by decide +kernel) ⟨Nat.le_of_ble_eq_true rfl, Nat.le_of_ble_eq_true rfl⟩) hK hP hD hS hA (List.range 86) (kk_m0 86 rfl rfl) (by decide +kernel) rfl (kk_s0 86 rfl rfl rfl) rfl rfl rfl rfl rfl hl.1 (Nat.le_of_ble_eq_true rfl) dL_parade_503 (fun H locs hP hD hS => ?_)
  refine lv_icmp_ne (tgt := 558) hx hb dL_parade_506 (by decide) (fun c9 => absurd (show nI (t_all s9) = nI (t_all s9) from rfl) c9) (fun c9 => ?_)
  refine lv_aload_n hx hb dL_parade_509 rfl (lv_at hl 4 rfl) ?_
  have e3 := l_smooth hn hRS
  refine kk_call_Vd (w' := (w_F g a G1 ++ w_H g (a 0 2) h V)) (As := []) (rest := []) 0 4 hC (sX4_smoothness l g n a G1 (t_sh s9) e3) (cwV 0 hts gL_parade_X4_smoothness rfl rfl rfl (by decide +kernel) ⟨Nat.le_of_ble_eq_true rfl, Nat.le_of_ble_eq_true rfl⟩) hK hP hD hS hA (List.range 24) (kk_ml 24 rfl (by decide +kernel) (kk_m0 24 rfl rfl)) (by decide +kernel) rfl (kk_sl 24 rfl (by decide +kernel) (kk_s0 24 rfl rfl rfl)) rfl rfl rfl rfl rfl hl.1 (Nat.le_of_ble_eq_true rfl) dL_parade_510 (fun H locs hP hD hS => ?_)
  refine lv_dconst0 hx hb dL_parade_513 ?_
  refine lv_dcmp hx hb dL_parade_514 ?_
  refine lv_if_lt (tgt := 558) hx hb dL_parade_515 (by decide) (fun c9 => absurd c9 hck.1) (fun c9 => ?_)
  refine lv_aload_n hx hb dL_parade_518 rfl (lv_at hl 4 rfl) ?_
  have e4 := l_smooth hn hRS
  refine kk_call_Vd (w' := (w_F g a G1 ++ w_H g (a 0 2) h V)) (As := []) (rest := []) 0 4 hC (sX4_smoothness l g n a G1 (t_sh s9) e4) (cwV 0 hts gL_parade_X4_smoothness rfl rfl rfl (by decide +kernel) ⟨Nat.le_of_ble_eq_true rfl, Nat.le_of_ble_eq_true rfl⟩) hK hP hD hS hA (List.range 24) (kk_ml 24 rfl (by decide +kernel) (kk_m0 24 rfl rfl)) (by decide +kernel) rfl (kk_sl 24 rfl (by decide +kernel) (kk_s0 24 rfl rfl rfl)) rfl rfl rfl rfl rfl hl.1 (Nat.le_of_ble_eq_true rfl) dL_parade_519 (fun H locs hP hD hS => ?_)
  refine lv_dconst1 hx hb dL_parade_522 ?_
  refine lv_dcmp hx hb dL_parade_523 ?_
  refine lv_if_gt (tgt := 558) hx hb dL_parade_524 (by decide) (fun c9 => absurd c9 hck.2) (fun c9 => ?_)
  refine lv_iload_n hx hb dL_parade_527 rfl (lv_at hl 3 rfl) ?_
  refine lv_iconst (v := nI 5) hx hb dL_parade_528 (by decide) ?_
  refine lv_icmp_gt (tgt := 540) hx hb dL_parade_529 (by decide) (fun c9 => ?_) (fun c9 => ?_)
  · replace c9 : nI (5) < nI (s9 4) := c9
    rw [kl_lt (by omega) (by omega)] at c9
    exact J540 G1 H locs ls hRS hP hD hS (lv_sub hl [1, 2, 3, 4] rfl)
  · replace c9 : ¬ nI (5) < nI (s9 4) := c9
    rw [kl_lt (by omega) (by omega)] at c9
    refine lv_aload_n hx hb dL_parade_532 rfl (lv_at hl 4 rfl) ?_
    obtain ⟨G5, e6, hRS⟩ := l_least hn hRS
    refine kk_call_Vi (w' := (w_F g a G5 ++ w_H g (a 0 2) h V)) (As := []) (rest := []) 0 4 hC (sX4_leastTrouble l g n a G1 ((if s9 4 ≤ 6 then nI (t_lst s9) else kM), G5) e6) (cwV 0 hts gL_parade_X4_leastTrouble rfl rfl rfl (by decide +kernel) ⟨Nat.le_of_ble_eq_true rfl, Nat.le_of_ble_eq_true rfl⟩) hK hP hD hS hA (List.range 24) (kk_ml 24 rfl (by decide +kernel) (kk_m0 24 rfl rfl)) (by decide +kernel) rfl (kk_sl 24 rfl (by decide +kernel) (kk_s0 24 rfl rfl rfl)) rfl rfl rfl rfl rfl hl.1 (Nat.le_of_ble_eq_true rfl) dL_parade_533 (fun H locs hP hD hS => ?_)
    refine kk_nmi (x := nI (t_lst s9)) ((if_pos (by omega)).symm) ?_
    have hl9 : t_lst s9 ≤ t_all s9 := Nat.min_le_left _ _
    refine lv_iload_n hx hb dL_parade_536 rfl (lv_at hl 1 rfl) ?_
    refine lv_icmp_gt (tgt := 558) hx hb dL_parade_537 (by decide) (fun c9 => absurd (show nI (t_all s9) < nI (t_lst s9) from c9) (by rw [kl_lt (by omega) (by omega)]; omega)) (fun c9 => ?_)
    exact J540 G5 H locs ls hRS hP hD hS (lv_sub hl [1, 2, 3, 4] rfl)
theorem kP_loop (hn : 1000 ≤ n) (hC : CallFix p m c cL_parade 12 s args wsL_parade RL) (hK : va_K g.1 vwCl (kT g) s) (hA : ∀ q, s.heap.size ≤ q → A q) (hW : WF s9) (hZ : Zx s9) (JE : kP_J p l e s m args below meth c Q g A a h V s9 c9 495 [(4, .int (nI 1)), (3, .int (nI (t_all s9))), (2, .int (nI (s9 5))), (1, .int (nI (s9 4))), (0, .ref (a 0 0))] []) : ∀ d q9, d + q9 = s9 4 → kP_J p l e s m args below meth c Q g A a h V s9 c9 98 [(5, .int (nI q9)), (4, .int (nI 1)), (3, .int (nI (sm (t_at s9) q9))), (2, .int (nI (s9 5))), (1, .int (nI (s9 4))), (0, .ref (a 0 0))] [] := by
  obtain ⟨hx, hb, hml, hown, hts⟩ := id hC
  have w0 := hW.1
  have w1 := hW.2.1
  intro d
  induction d with
  | zero =>
    intro q9 hq
    have eq : q9 = s9 4 := by omega
    subst eq
    intro G H locs ls hRS hP hD hS hl
    refine lv_iload hx hb dL_parade_98 (lv_at hl 0 rfl) ?_
    refine lv_iload_n hx hb dL_parade_100 rfl (lv_at hl 4 rfl) ?_
    refine lv_icmp_ge (tgt := 495) hx hb dL_parade_101 (by decide) (fun c9 => ?_) (fun c9 => absurd (show nI (s9 4) ≤ nI (s9 4) from (by rw [kl_le (by omega) (by omega)]; omega)) c9)
    exact JE G H locs ls hRS hP hD hS (lv_sub hl [1, 2, 3, 4, 5] rfl)
  | succ d ih =>
    intro q9 hq
    exact kP_row hn hC hK hA hW hZ (by omega) (ih (q9 + 1) (by omega))
end KPar
set_option maxHeartbeats 8000000 in
set_option maxRecDepth 100000 in
theorem sL_parade (l : Launch) (g : kG) (n : Nat) (hn : 1000 ≤ n) (a h : Nat → Nat → Nat) (G V : St2) (s9 : Nat → Nat) (c9 : Nat) (hRS : RS G V s9 c9) : kSp l g yL_parade wsL_parade rmP [.ref (a 0 0)] (w_F g a G ++ w_H g (a 0 2) h V) (kQe g (fun u : St2 => w_F g a u ++ w_H g (a 0 2) h V) (fun r u => r = 1 ∧ RS u V s9 c9)) := by
  refine kSp.of (cc := cL_parade) (maxL := 12) (ret := some .boolean) (by decide) rfl (Nat.le_of_ble_eq_true rfl) ?_
  intro p e s m args below meth c ls A hC hr hlocks hA hK hl hP hD hS
  replace hC : CallFix p m c cL_parade 12 s args wsL_parade RL := hC
  replace hl : lv_has ls 12 [(0, .ref (a 0 0))] := hl
  obtain ⟨hW, hZ, -⟩ := RS_W hRS
  obtain ⟨hx, hb, hml, hown, hts⟩ := id hC
  have w0 := hW.1
  have w1 := hW.2.1
  have hend := t_end_le hW (L := s9 3) (by omega)
  have hge := t_end_ge hW
  have hwt := t_wait hW
  have hlw : sm (t_lwd s9) (s9 4) ≤ 1 * s9 4 := sm_le (fun i _ => by unfold t_lwd; split <;> omega)
  have JE := kP_end (l := l) (e := e) (Q := (MQ below (kQe g (fun u : St2 => w_F g a u ++ w_H g (a 0 2) h V) (fun r u => r = 1 ∧ RS u V s9 c9) A) args s 0 0 A)) (V := V) (h := h) (a := a) (c9 := c9) hn hC hK hA hW hZ rfl hr hlocks
  have J88 : kP_J p l e s m args below meth c (MQ below (kQe g (fun u : St2 => w_F g a u ++ w_H g (a 0 2) h V) (fun r u => r = 1 ∧ RS u V s9 c9) A) args s 0 0 A) g A a h V s9 c9 88 [(3, .int (nI 0)), (2, .int (nI (s9 5))), (1, .int (nI (s9 4))), (0, .ref (a 0 0))] [] := by
    intro G H locs ls hRS hP hD hS hl
    refine lv_iconst (v := nI 1) hx hb dL_parade_88 (by decide) ?_
    refine lv_goto (tgt := 93) hx hb dL_parade_89 (by decide) ?_
    refine lv_istore (i := 4) (lv' := [(4, .int (nI 1)), (3, .int (nI 0)), (2, .int (nI (s9 5))), (1, .int (nI (s9 4))), (0, .ref (a 0 0))]) hx hb dL_parade_93 hl (by decide) rfl (fun ls hl => ?_)
    refine lv_iconst (v := nI 0) hx hb dL_parade_95 (by decide) ?_
    refine lv_istore (i := 5) (lv' := [(5, .int (nI 0)), (4, .int (nI 1)), (3, .int (nI 0)), (2, .int (nI (s9 5))), (1, .int (nI (s9 4))), (0, .ref (a 0 0))]) hx hb dL_parade_96 hl (by decide) rfl (fun ls hl => ?_)
    exact kP_loop hn hC hK hA hW hZ JE (s9 4) 0 rfl G H locs ls hRS hP hD hS (lv_sub hl [0, 1, 2, 3, 4, 5] rfl)
  have J59 : kP_J p l e s m args below meth c (MQ below (kQe g (fun u : St2 => w_F g a u ++ w_H g (a 0 2) h V) (fun r u => r = 1 ∧ RS u V s9 c9) A) args s 0 0 A) g A a h V s9 c9 59 [(3, .int (nI 0)), (2, .int (nI (s9 5))), (1, .int (nI (s9 4))), (0, .ref (a 0 0))] [] := by
    intro G H locs ls hRS hP hD hS hl
    refine lv_iload_n hx hb dL_parade_59 rfl (lv_at hl 2 rfl) ?_
    refine lv_if_gt (tgt := 88) hx hb dL_parade_60 (by decide) (fun c9 => ?_) (fun c9 => ?_)
    · replace c9 : nI (0) < nI (s9 4) := c9
      rw [kl_lt (by omega) (by omega)] at c9
      exact J88 G H locs ls hRS hP hD hS (lv_sub hl [0, 1, 2, 3] rfl)
    · replace c9 : ¬ nI (0) < nI (s9 4) := c9
      rw [kl_lt (by omega) (by omega)] at c9
      have h4 : s9 4 = 0 := by omega
      have he0 : t_end s9 (s9 3) = 0 := by unfold t_end; rw [if_pos h4]
      have hg0 : t_gh s9 (s9 4) = 0 := by rw [h4]; rfl
      refine lv_aload_n hx hb dL_parade_63 rfl (lv_at hl 3 rfl) ?_
      refine lv_iconst (v := nI 3) hx hb dL_parade_64 (by decide) ?_
      obtain ⟨G1, e2, hRS⟩ := l_c3 hn hRS
      refine kk_call_Vi (w' := (w_F g a G1 ++ w_H g (a 0 2) h V)) (As := [.int (nI 3)]) (rest := []) 0 4 hC (sX4_count l g n a h G V (nI 3) (nI (t_end s9 (s9 3)), G1) e2) (cwV 1 hts gL_parade_X4_count rfl rfl rfl (by decide +kernel) ⟨Nat.le_of_ble_eq_true rfl, Nat.le_of_ble_eq_true rfl⟩) hK hP hD hS hA (List.range 86) (kk_m0 86 rfl rfl) (by decide +kernel) rfl (kk_s0 86 rfl rfl rfl) rfl rfl rfl rfl rfl hl.1 (Nat.le_of_ble_eq_true rfl) dL_parade_65 (fun H locs hP hD hS => ?_)
      refine lv_if_ne (tgt := 92) hx hb dL_parade_68 (by decide) (fun c9 => absurd (show nI (t_end s9 (s9 3)) = nI (0) from (by rw [kl_eq (by omega) (by omega)]; omega)) c9) (fun c9 => ?_)
      refine lv_aload_n hx hb dL_parade_71 rfl (lv_at hl 3 rfl) ?_
      refine lv_bipush (v := nI 7) hx hb dL_parade_72 (by decide) ?_
      obtain ⟨G3, e4, hRS⟩ := l_c7 hn hRS
      refine kk_call_Vi (w' := (w_F g a G3 ++ w_H g (a 0 2) h V)) (As := [.int (nI 7)]) (rest := []) 0 4 hC (sX4_count l g n a h G1 V (nI 7) (nI (t_gh s9 (s9 4)), G3) e4) (cwV 1 hts gL_parade_X4_count rfl rfl rfl (by decide +kernel) ⟨Nat.le_of_ble_eq_true rfl, Nat.le_of_ble_eq_true rfl⟩) hK hP hD hS hA (List.range 86) (kk_m0 86 rfl rfl) (by decide +kernel) rfl (kk_s0 86 rfl rfl rfl) rfl rfl rfl rfl rfl hl.1 (Nat.le_of_ble_eq_true rfl) dL_parade_74 (fun H locs hP hD hS => ?_)
      refine lv_if_ne (tgt := 92) hx hb dL_parade_77 (by decide) (fun c9 => absurd (show nI (t_gh s9 (s9 4)) = nI (0) from (by rw [kl_eq (by omega) (by omega)]; omega)) c9) (fun c9 => ?_)
      refine lv_aload_n hx hb dL_parade_80 rfl (lv_at hl 3 rfl) ?_
      obtain ⟨G5, e6, hRS⟩ := l_bestFold hn hRS h4
      refine kk_call_Vi (w' := (w_F g a G5 ++ w_H g (a 0 2) h V)) (As := []) (rest := []) 0 4 hC (sX4_bestFold l g n a G3 (kM, G5) e6) (cwV 0 hts gL_parade_X4_bestFold rfl rfl rfl (by decide +kernel) ⟨Nat.le_of_ble_eq_true rfl, Nat.le_of_ble_eq_true rfl⟩) hK hP hD hS hA (List.range 24) (kk_ml 24 rfl (by decide +kernel) (kk_m0 24 rfl rfl)) (by decide +kernel) rfl (kk_sl 24 rfl (by decide +kernel) (kk_s0 24 rfl rfl rfl)) rfl rfl rfl rfl rfl hl.1 (Nat.le_of_ble_eq_true rfl) dL_parade_81 (fun H locs hP hD hS => ?_)
      refine lv_iconst (v := kM) hx hb dL_parade_84 (by decide) ?_
      refine lv_icmp_ne (tgt := 92) hx hb dL_parade_85 (by decide) (fun c9 => absurd rfl c9) (fun c9 => ?_)
      exact J88 G5 H locs ls hRS hP hD hS (lv_sub hl [0, 1, 2, 3] rfl)
  refine lv_aload_n hx hb dL_parade_0 rfl (lv_at hl 0 rfl) ?_
  refine lv_iconst (v := nI 0) hx hb dL_parade_1 (by decide) ?_
  obtain ⟨G1, e2, hRS⟩ := l_c0 hn hRS
  refine kk_call_Vi (w' := (w_F g a G1 ++ w_H g (a 0 2) h V)) (As := [.int (nI 0)]) (rest := []) 0 4 hC (sX4_count l g n a h G V (nI 0) (nI (s9 4), G1) e2) (cwV 1 hts gL_parade_X4_count rfl rfl rfl (by decide +kernel) ⟨Nat.le_of_ble_eq_true rfl, Nat.le_of_ble_eq_true rfl⟩) hK hP hD hS hA (List.range 86) (kk_m0 86 rfl rfl) (by decide +kernel) rfl (kk_s0 86 rfl rfl rfl) rfl rfl rfl rfl rfl hl.1 (Nat.le_of_ble_eq_true rfl) dL_parade_2 (fun H locs hP hD hS => ?_)
  refine lv_istore_n (i := 1) (lv' := [(1, .int (nI (s9 4))), (0, .ref (a 0 0))]) hx hb dL_parade_5 rfl hl (by decide) rfl (fun ls hl => ?_)
  refine lv_aload_n hx hb dL_parade_6 rfl (lv_at hl 1 rfl) ?_
  refine lv_iconst (v := nI 1) hx hb dL_parade_7 (by decide) ?_
  obtain ⟨G3, e4, hRS⟩ := l_c1 hn hRS
  refine kk_call_Vi (w' := (w_F g a G3 ++ w_H g (a 0 2) h V)) (As := [.int (nI 1)]) (rest := []) 0 4 hC (sX4_count l g n a h G1 V (nI 1) (nI (s9 5), G3) e4) (cwV 1 hts gL_parade_X4_count rfl rfl rfl (by decide +kernel) ⟨Nat.le_of_ble_eq_true rfl, Nat.le_of_ble_eq_true rfl⟩) hK hP hD hS hA (List.range 86) (kk_m0 86 rfl rfl) (by decide +kernel) rfl (kk_s0 86 rfl rfl rfl) rfl rfl rfl rfl rfl hl.1 (Nat.le_of_ble_eq_true rfl) dL_parade_8 (fun H locs hP hD hS => ?_)
  refine lv_istore_n (i := 2) (lv' := [(2, .int (nI (s9 5))), (1, .int (nI (s9 4))), (0, .ref (a 0 0))]) hx hb dL_parade_11 rfl hl (by decide) rfl (fun ls hl => ?_)
  refine lv_iconst (v := nI 0) hx hb dL_parade_12 (by decide) ?_
  refine lv_istore_n (i := 3) (lv' := [(3, .int (nI 0)), (2, .int (nI (s9 5))), (1, .int (nI (s9 4))), (0, .ref (a 0 0))]) hx hb dL_parade_13 rfl hl (by decide) rfl (fun ls hl => ?_)
  refine lv_iload_n hx hb dL_parade_14 rfl (lv_at hl 2 rfl) ?_
  refine lv_bipush (v := nI 12) hx hb dL_parade_15 (by decide) ?_
  refine lv_icmp_gt (tgt := 92) hx hb dL_parade_17 (by decide) (fun c9 => absurd (show nI (12) < nI (s9 4) from c9) (by rw [kl_lt (by omega) (by omega)]; omega)) (fun c9 => ?_)
  refine lv_iload_n hx hb dL_parade_20 rfl (lv_at hl 1 rfl) ?_
  refine lv_iconst (v := nI 4) hx hb dL_parade_21 (by decide) ?_
  refine lv_icmp_gt (tgt := 92) hx hb dL_parade_22 (by decide) (fun c9 => absurd (show nI (4) < nI (s9 5) from c9) (by rw [kl_lt (by omega) (by omega)]; omega)) (fun c9 => ?_)
  refine lv_aload_n hx hb dL_parade_25 rfl (lv_at hl 3 rfl) ?_
  refine lv_bipush (v := nI 6) hx hb dL_parade_26 (by decide) ?_
  obtain ⟨G5, e6, hRS⟩ := l_c6 hn hRS
  refine kk_call_Vi (w' := (w_F g a G5 ++ w_H g (a 0 2) h V)) (As := [.int (nI 6)]) (rest := []) 0 4 hC (sX4_count l g n a h G3 V (nI 6) (nI (t_end s9 (s9 3) - t_end s9 0), G5) e6) (cwV 1 hts gL_parade_X4_count rfl rfl rfl (by decide +kernel) ⟨Nat.le_of_ble_eq_true rfl, Nat.le_of_ble_eq_true rfl⟩) hK hP hD hS hA (List.range 86) (kk_m0 86 rfl rfl) (by decide +kernel) rfl (kk_s0 86 rfl rfl rfl) rfl rfl rfl rfl rfl hl.1 (Nat.le_of_ble_eq_true rfl) dL_parade_28 (fun H locs hP hD hS => ?_)
  refine lv_if_lt (tgt := 92) hx hb dL_parade_31 (by decide) (fun c9 => absurd (show nI (t_end s9 (s9 3) - t_end s9 0) < nI (0) from c9) (by rw [kl_lt (by omega) (by omega)]; omega)) (fun c9 => ?_)
  refine lv_aload_n hx hb dL_parade_34 rfl (lv_at hl 3 rfl) ?_
  refine lv_bipush (v := nI 6) hx hb dL_parade_35 (by decide) ?_
  obtain ⟨G7, e8, hRS⟩ := l_c6 hn hRS
  refine kk_call_Vi (w' := (w_F g a G7 ++ w_H g (a 0 2) h V)) (As := [.int (nI 6)]) (rest := []) 0 4 hC (sX4_count l g n a h G5 V (nI 6) (nI (t_end s9 (s9 3) - t_end s9 0), G7) e8) (cwV 1 hts gL_parade_X4_count rfl rfl rfl (by decide +kernel) ⟨Nat.le_of_ble_eq_true rfl, Nat.le_of_ble_eq_true rfl⟩) hK hP hD hS hA (List.range 86) (kk_m0 86 rfl rfl) (by decide +kernel) rfl (kk_s0 86 rfl rfl rfl) rfl rfl rfl rfl rfl hl.1 (Nat.le_of_ble_eq_true rfl) dL_parade_37 (fun H locs hP hD hS => ?_)
  refine lv_if_eq (tgt := 59) hx hb dL_parade_40 (by decide) (fun c9 => ?_) (fun c9 => ?_)
  · replace c9 : nI (t_end s9 (s9 3) - t_end s9 0) = nI (0) := c9
    rw [kl_eq (by omega) (by omega)] at c9
    exact J59 G7 H locs ls hRS hP hD hS (lv_sub hl [0, 1, 2, 3] rfl)
  · replace c9 : ¬ nI (t_end s9 (s9 3) - t_end s9 0) = nI (0) := c9
    rw [kl_eq (by omega) (by omega)] at c9
    refine lv_aload_n hx hb dL_parade_43 rfl (lv_at hl 3 rfl) ?_
    refine lv_iconst (v := nI 4) hx hb dL_parade_44 (by decide) ?_
    obtain ⟨G9, e10, hRS⟩ := l_c4 hn hRS
    refine kk_call_Vi (w' := (w_F g a G9 ++ w_H g (a 0 2) h V)) (As := [.int (nI 4)]) (rest := []) 0 4 hC (sX4_count l g n a h G7 V (nI 4) (nI (sm (t_lwd s9) (s9 4)), G9) e10) (cwV 1 hts gL_parade_X4_count rfl rfl rfl (by decide +kernel) ⟨Nat.le_of_ble_eq_true rfl, Nat.le_of_ble_eq_true rfl⟩) hK hP hD hS hA (List.range 86) (kk_m0 86 rfl rfl) (by decide +kernel) rfl (kk_s0 86 rfl rfl rfl) rfl rfl rfl rfl rfl hl.1 (Nat.le_of_ble_eq_true rfl) dL_parade_45 (fun H locs hP hD hS => ?_)
    refine lv_if_le (tgt := 92) hx hb dL_parade_48 (by decide) (fun c9 => absurd (show nI (sm (t_lwd s9) (s9 4)) ≤ nI (0) from c9) (by rw [kl_le (by omega) (by omega)]; omega)) (fun c9 => ?_)
    refine lv_aload_n hx hb dL_parade_51 rfl (lv_at hl 3 rfl) ?_
    refine lv_iconst (v := nI 3) hx hb dL_parade_52 (by decide) ?_
    have e11 := l_setting (n := n) hRS (k := 3) (by omega)
    refine kk_call_Vi (w' := (w_F g a G9 ++ w_H g (a 0 2) h V)) (As := [.int (nI 3)]) (rest := []) 0 4 hC (sX4_setting l g n a G9 (nI 3) (nI (s9 3)) e11) (cwV 1 hts gL_parade_X4_setting rfl rfl rfl (by decide +kernel) ⟨Nat.le_of_ble_eq_true rfl, Nat.le_of_ble_eq_true rfl⟩) hK hP hD hS hA (List.range 24) (kk_ml 24 rfl (by decide +kernel) (kk_m0 24 rfl rfl)) (by decide +kernel) rfl (kk_sl 24 rfl (by decide +kernel) (kk_s0 24 rfl rfl rfl)) rfl rfl rfl rfl rfl hl.1 (Nat.le_of_ble_eq_true rfl) dL_parade_53 (fun H locs hP hD hS => ?_)
    refine lv_if_le (tgt := 92) hx hb dL_parade_56 (by decide) (fun c9 => absurd (show nI (s9 3) ≤ nI (0) from c9) (by rw [kl_le (by omega) (by omega)]; omega)) (fun c9 => ?_)
    exact J59 G9 H locs ls hRS hP hD hS (lv_sub hl [0, 1, 2, 3] rfl)
