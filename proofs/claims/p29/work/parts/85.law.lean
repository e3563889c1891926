/-! p29: the law's loop -/
/-- a continuation at a place of the law -/
def kL_J (p : Program) (l : Launch) (e : Env) (s : State) (m : MethodId) (args : Array Value) (below : List Frame) (meth : Method) (c : Code) (Q : State → Prop) (g : kG) (A : Nat → Prop) (a h : Nat → Nat → Nat) (s9 : Nat → Nat) (c9 pc cells slots : Nat) (lv : List (Nat × Value)) : Prop :=
  ∀ (G V : St2) (H : Heap) (locs : List Loc) (ls : Array Slot), RS G V s9 c9 → va_P g.1 vwCl (w_F g a G ++ w_H g (a 0 2) h V) H → va_D A (w_F g a G ++ w_H g (a 0 2) h V) → va_S A s.heap H locs → lv_has ls 12 lv → W p l e room_1 s m args below meth c H locs cells slots Q (F0 m pc ls [])
section KLaw
variable {p : Program} {l : Launch} {e : Env} {s : State} {m : MethodId} {args : Array Value} {below : List Frame} {meth : Method} {c : Code} {Q : State → Prop} {g : kG} {A : Nat → Prop} {a h : Nat → Nat → Nat} {n b L : Nat} {xs : Nat → Int32}
set_option maxHeartbeats 800000 in
set_option maxRecDepth 100000 in
theorem kL_tail (hn : 300000 ≤ n) (hst : l.stackTraces = false) (hC : CallFix p m c cL_law 12 s args wsL_law RL) (hK : va_K g.1 vwCl (kT g) s) (hG : k_Gs A s s.heap) (hA : ∀ q, s.heap.size ≤ q → A q) (hX : va_X b L xs s s.heap) (hbl : b < s.heap.size) (hbA : ¬ A b) (hL : L ≤ 260) {r9 : Int32} {T9 k9 c9 c' : Nat} {s9 s' : Nat → Nat} (hk : k9 < 40) (hT : T9 ≤ 40) (hf : 86 + (k9 + 1) ≤ 600104 ∧ 729 + 6 * (k9 + 1) ≤ 7301314) (hW : WF s9) (hW' : WF s') (hr9 : (r9 = -3 ∧ s' = s9 ∧ c' = c9) ∨ ∃ z, z < 2000000 ∧ r9 = nI z ∧ (7 ≤ (kLow (kCell xs L (3 * k9)) 18) → (kLow (kCell xs L (3 * k9)) 18) ≤ 9 → t_all s' = z) ∧ ((kLow (kCell xs L (3 * k9)) 18) = 12 → kY s' ≤ kY s9)) (JN : kL_J p l e s m args below meth c Q g A a h s' c' 32 (86 + (k9 + 1)) (729 + 6 * (k9 + 1)) [(4, .int (nI (k9 + 1))), (2, .int (nI 1)), (3, .int (nI T9)), (1, .ref (a 0 0)), (0, .ref b)]) : kL_J p l e s m args below meth c Q g A a h s' c' 160 (86 + (k9 + 1)) (729 + 6 * (k9 + 1)) [(11, .int (r9)), (10, .int (nI (kLow (kCell xs L (3 * k9)) 18))), (9, .int (nI (t_end s9 (s9 3)))), (8, .int (nI (t_all s9))), (7, .int (nI (s9 5))), (6, .int (nI (s9 4))), (5, .int (nI c9)), (4, .int (nI k9)), (3, .int (nI T9)), (1, .ref (a 0 0)), (0, .ref b)] := by
  obtain ⟨hx, hb, hml, hown, hts⟩ := id hC
  have hn1 : 1000 ≤ n := by omega
  have w1 := hW.2.1
  have w1' := hW'.2.1
  have hall := t_all_le s9 w1.1
  have hall' := t_all_le s' w1'.1
  have hend := t_end_le hW (L := s9 3) hW.1.2.2.2.2.2.2
  have hend' := t_end_le hW' (L := s' 3) hW'.1.2.2.2.2.2.2
  have htk := kLow_lt (kCell xs L (3 * k9)) (m := 18) (by omega)
  have J236 : kL_J p l e s m args below meth c Q g A a h s' c' 236 (86 + (k9 + 1)) (729 + 6 * (k9 + 1)) [(11, .int (r9)), (10, .int (nI (kLow (kCell xs L (3 * k9)) 18))), (9, .int (nI (t_end s9 (s9 3)))), (8, .int (nI (t_all s9))), (7, .int (nI (s9 5))), (6, .int (nI (s9 4))), (5, .int (nI c9)), (4, .int (nI k9)), (3, .int (nI T9)), (1, .ref (a 0 0)), (0, .ref b)] := by
    intro G V H locs ls hRS hP hD hS hl
    refine lv_aload_n hx hb dL_law_236 rfl (lv_at hl 9 rfl) ?_
    refine kr_S (w' := fun u : St2 => (w_F g a u ++ w_H g (a 0 2) h V)) (As := [.ref (a 0 0)]) (rest := []) hC (sL_parade l g n hn1 a h G V s' c' hRS) (va_cwS 1 hts gL_law_L_parade rfl rfl rfl (by decide +kernel) ⟨Nat.le_of_ble_eq_true rfl, Nat.le_of_ble_eq_true rfl⟩) hK hP hD hS hA (List.range 86) (kk_m0 86 rfl rfl) (by decide +kernel) (fun _ => rfl) (fun _ => kk_s0 86 rfl rfl rfl) rfl rfl hl.1 (Nat.le_of_ble_eq_true rfl) dL_law_237 hf (fun r8 u8 H locs hr8 hP hD hS => ?_)
    obtain ⟨rfl, hRS⟩ := hr8
    refine kr_nmi (x := nI 1) rfl ?_
    refine lv_if_eq (tgt := 247) hx hb dL_law_240 (by decide) (fun y9 => absurd (show nI (1) = nI (0) from y9) (by rw [kl_eq (by omega) (by omega)]; omega)) (fun y9 => ?_)
    refine lv_iconst (v := nI 1) hx hb dL_law_243 (by decide) ?_
    refine lv_goto (tgt := 248) hx hb dL_law_244 (by decide) ?_
    refine lv_istore_n (i := 2) (lv' := [(2, .int (nI 1)), (11, .int (r9)), (10, .int (nI (kLow (kCell xs L (3 * k9)) 18))), (9, .int (nI (t_end s9 (s9 3)))), (8, .int (nI (t_all s9))), (7, .int (nI (s9 5))), (6, .int (nI (s9 4))), (5, .int (nI c9)), (4, .int (nI k9)), (3, .int (nI T9)), (1, .ref (a 0 0)), (0, .ref b)]) hx hb dL_law_248 rfl hl (by decide) rfl (fun ls hl => ?_)
    refine lv_iinc (v := nI (k9 + 1)) (lv' := [(4, .int (nI (k9 + 1))), (2, .int (nI 1)), (11, .int (r9)), (10, .int (nI (kLow (kCell xs L (3 * k9)) 18))), (9, .int (nI (t_end s9 (s9 3)))), (8, .int (nI (t_all s9))), (7, .int (nI (s9 5))), (6, .int (nI (s9 4))), (5, .int (nI c9)), (3, .int (nI T9)), (1, .ref (a 0 0)), (0, .ref b)]) hx hb dL_law_249 hl (k := 8) rfl (nI_add _ _) (by decide) rfl (fun ls hl => ?_)
    refine lv_goto (tgt := 32) hx hb dL_law_252 (by decide) ?_
    exact JN u8 V H locs ls hRS hP hD hS (lv_sub hl [0, 1, 9, 10, 11] rfl)
  have J199 : kL_J p l e s m args below meth c Q g A a h s' c' 199 (86 + (k9 + 1)) (729 + 6 * (k9 + 1)) [(11, .int (r9)), (10, .int (nI (kLow (kCell xs L (3 * k9)) 18))), (9, .int (nI (t_end s9 (s9 3)))), (8, .int (nI (t_all s9))), (7, .int (nI (s9 5))), (6, .int (nI (s9 4))), (5, .int (nI c9)), (4, .int (nI k9)), (3, .int (nI T9)), (1, .ref (a 0 0)), (0, .ref b)] := by
    intro G V H locs ls hRS hP hD hS hl
    refine lv_iload hx hb dL_law_199 (lv_at hl 1 rfl) ?_
    refine lv_bipush (v := nI 12) hx hb dL_law_201 (by decide) ?_
    refine lv_icmp_ne (tgt := 236) hx hb dL_law_203 (by decide) (fun y9 => ?_) (fun y9 => ?_)
    · replace y9 : ¬ nI (kLow (kCell xs L (3 * k9)) 18) = nI (12) := y9
      rw [kl_eq (by omega) (by omega)] at y9
      exact J236 G V H locs ls hRS hP hD hS (lv_sub hl [0, 1, 2, 3, 4, 5, 6, 7, 8, 9, 10] rfl)
    · replace y9 : nI (kLow (kCell xs L (3 * k9)) 18) = nI (12) := y9
      rw [kl_eq (by omega) (by omega)] at y9
      have hlex : t_all s' < t_all s9 ∨ (t_all s' = t_all s9 ∧ t_end s' (s' 3) ≤ t_end s9 (s9 3)) := by
        rcases hr9 with ⟨-, e9, -⟩ | ⟨z, hz, -, -, h12⟩
        · rw [e9]; exact Or.inr ⟨rfl, Nat.le_refl _⟩
        · exact kY_lex hW hW' (h12 y9)
      refine lv_aload_n hx hb dL_law_206 rfl (lv_at hl 9 rfl) ?_
      refine lv_iconst (v := nI 2) hx hb dL_law_207 (by decide) ?_
      obtain ⟨G1, e2, hRS⟩ := l_c2 hn1 hRS
      refine kr_Vi (w' := (w_F g a G1 ++ w_H g (a 0 2) h V)) (As := [.int (nI 2)]) (rest := []) 0 4 hC (sX4_count l g n a h G V (nI 2) (nI (t_all s'), G1) e2) (cwV 1 hts gL_law_X4_count rfl rfl rfl (by decide +kernel) ⟨Nat.le_of_ble_eq_true rfl, Nat.le_of_ble_eq_true rfl⟩) hK hP hD hS hA (List.range 86) (kk_m0 86 rfl rfl) (by decide +kernel) rfl (kk_s0 86 rfl rfl rfl) rfl rfl rfl rfl rfl hl.1 (Nat.le_of_ble_eq_true rfl) dL_law_208 hf (fun H locs hP hD hS => ?_)
      refine lv_iload hx hb dL_law_211 (lv_at hl 3 rfl) ?_
      refine lv_icmp_lt (tgt := 236) hx hb dL_law_213 (by decide) (fun k8 => ?_) (fun k8 => ?_)
      · replace k8 : nI (t_all s') < nI (t_all s9) := k8
        rw [kl_lt (by omega) (by omega)] at k8
        exact J236 G1 V H locs ls hRS hP hD hS (lv_sub hl [0, 1, 2, 3, 4, 5, 6, 7, 8, 9, 10] rfl)
      · replace k8 : ¬ nI (t_all s') < nI (t_all s9) := k8
        rw [kl_lt (by omega) (by omega)] at k8
        refine lv_aload_n hx hb dL_law_216 rfl (lv_at hl 9 rfl) ?_
        refine lv_iconst (v := nI 2) hx hb dL_law_217 (by decide) ?_
        obtain ⟨G3, e4, hRS⟩ := l_c2 hn1 hRS
        refine kr_Vi (w' := (w_F g a G3 ++ w_H g (a 0 2) h V)) (As := [.int (nI 2)]) (rest := []) 0 4 hC (sX4_count l g n a h G1 V (nI 2) (nI (t_all s'), G3) e4) (cwV 1 hts gL_law_X4_count rfl rfl rfl (by decide +kernel) ⟨Nat.le_of_ble_eq_true rfl, Nat.le_of_ble_eq_true rfl⟩) hK hP hD hS hA (List.range 86) (kk_m0 86 rfl rfl) (by decide +kernel) rfl (kk_s0 86 rfl rfl rfl) rfl rfl rfl rfl rfl hl.1 (Nat.le_of_ble_eq_true rfl) dL_law_218 hf (fun H locs hP hD hS => ?_)
        refine lv_iload hx hb dL_law_221 (lv_at hl 3 rfl) ?_
        refine lv_icmp_ne (tgt := 247) hx hb dL_law_223 (by decide) (fun y9 => absurd (show nI (t_all s') = nI (t_all s9) from (by rw [kl_eq (by omega) (by omega)]; omega)) y9) (fun y9 => ?_)
        refine lv_aload_n hx hb dL_law_226 rfl (lv_at hl 9 rfl) ?_
        refine lv_iconst (v := nI 3) hx hb dL_law_227 (by decide) ?_
        obtain ⟨G5, e6, hRS⟩ := l_c3 hn1 hRS
        refine kr_Vi (w' := (w_F g a G5 ++ w_H g (a 0 2) h V)) (As := [.int (nI 3)]) (rest := []) 0 4 hC (sX4_count l g n a h G3 V (nI 3) (nI (t_end s' (s' 3)), G5) e6) (cwV 1 hts gL_law_X4_count rfl rfl rfl (by decide +kernel) ⟨Nat.le_of_ble_eq_true rfl, Nat.le_of_ble_eq_true rfl⟩) hK hP hD hS hA (List.range 86) (kk_m0 86 rfl rfl) (by decide +kernel) rfl (kk_s0 86 rfl rfl rfl) rfl rfl rfl rfl rfl hl.1 (Nat.le_of_ble_eq_true rfl) dL_law_228 hf (fun H locs hP hD hS => ?_)
        refine lv_iload hx hb dL_law_231 (lv_at hl 2 rfl) ?_
        refine lv_icmp_gt (tgt := 247) hx hb dL_law_233 (by decide) (fun y9 => absurd (show nI (t_end s9 (s9 3)) < nI (t_end s' (s' 3)) from y9) (by rw [kl_lt (by omega) (by omega)]; omega)) (fun y9 => ?_)
        exact J236 G5 V H locs ls hRS hP hD hS (lv_sub hl [0, 1, 2, 3, 4, 5, 6, 7, 8, 9, 10] rfl)
  intro G V H locs ls hRS hP hD hS hl
  refine lv_iconst (v := nI 1) hx hb dL_law_160 (by decide) ?_
  refine lv_goto (tgt := 165) hx hb dL_law_161 (by decide) ?_
  refine lv_istore_n (i := 2) (lv' := [(2, .int (nI 1)), (11, .int (r9)), (10, .int (nI (kLow (kCell xs L (3 * k9)) 18))), (9, .int (nI (t_end s9 (s9 3)))), (8, .int (nI (t_all s9))), (7, .int (nI (s9 5))), (6, .int (nI (s9 4))), (5, .int (nI c9)), (4, .int (nI k9)), (3, .int (nI T9)), (1, .ref (a 0 0)), (0, .ref b)]) hx hb dL_law_165 rfl hl (by decide) rfl (fun ls hl => ?_)
  refine lv_iload_n hx hb dL_law_166 rfl (lv_at hl 0 rfl) ?_
  refine lv_if_eq (tgt := 247) hx hb dL_law_167 (by decide) (fun y9 => absurd (show nI (1) = nI (0) from y9) (by rw [kl_eq (by omega) (by omega)]; omega)) (fun y9 => ?_)
  refine lv_iload hx hb dL_law_170 (lv_at hl 2 rfl) ?_
  refine lv_bipush (v := nI 7) hx hb dL_law_172 (by decide) ?_
  refine lv_icmp_lt (tgt := 199) hx hb dL_law_174 (by decide) (fun y9 => ?_) (fun y9 => ?_)
  · replace y9 : nI (kLow (kCell xs L (3 * k9)) 18) < nI (7) := y9
    rw [kl_lt (by omega) (by omega)] at y9
    exact J199 G V H locs ls hRS hP hD hS (lv_sub hl [1, 2, 3, 4, 5, 6, 7, 8, 9, 10, 11] rfl)
  · replace y9 : ¬ nI (kLow (kCell xs L (3 * k9)) 18) < nI (7) := y9
    rw [kl_lt (by omega) (by omega)] at y9
    refine lv_iload hx hb dL_law_177 (lv_at hl 2 rfl) ?_
    refine lv_bipush (v := nI 9) hx hb dL_law_179 (by decide) ?_
    refine lv_icmp_gt (tgt := 199) hx hb dL_law_181 (by decide) (fun k8 => ?_) (fun k8 => ?_)
    · replace k8 : nI (9) < nI (kLow (kCell xs L (3 * k9)) 18) := k8
      rw [kl_lt (by omega) (by omega)] at k8
      exact J199 G V H locs ls hRS hP hD hS (lv_sub hl [1, 2, 3, 4, 5, 6, 7, 8, 9, 10, 11] rfl)
    · replace k8 : ¬ nI (9) < nI (kLow (kCell xs L (3 * k9)) 18) := k8
      rw [kl_lt (by omega) (by omega)] at k8
      rcases hr9 with ⟨e9, -, -⟩ | ⟨z, hz, e9, h79, -⟩
      · subst e9
        refine lv_iload hx hb dL_law_184 (lv_at hl 1 rfl) ?_
        refine lv_if_lt (tgt := 199) hx hb dL_law_186 (by decide) (fun k7 => ?_) (fun k7 => absurd (by decide) k7)
        exact J199 G V H locs ls hRS hP hD hS (lv_sub hl [1, 2, 3, 4, 5, 6, 7, 8, 9, 10, 11] rfl)
      · subst e9
        refine lv_iload hx hb dL_law_184 (lv_at hl 1 rfl) ?_
        refine lv_if_lt (tgt := 199) hx hb dL_law_186 (by decide) (fun y9 => absurd (show nI (z) < nI (0) from y9) (by rw [kl_lt (by omega) (by omega)]; omega)) (fun y9 => ?_)
        have ha9 := h79 (by omega) (by omega)
        refine lv_aload_n hx hb dL_law_189 rfl (lv_at hl 10 rfl) ?_
        refine lv_iconst (v := nI 2) hx hb dL_law_190 (by decide) ?_
        obtain ⟨G1, e2, hRS⟩ := l_c2 hn1 hRS
        refine kr_Vi (w' := (w_F g a G1 ++ w_H g (a 0 2) h V)) (As := [.int (nI 2)]) (rest := []) 0 4 hC (sX4_count l g n a h G V (nI 2) (nI (t_all s'), G1) e2) (cwV 1 hts gL_law_X4_count rfl rfl rfl (by decide +kernel) ⟨Nat.le_of_ble_eq_true rfl, Nat.le_of_ble_eq_true rfl⟩) hK hP hD hS hA (List.range 86) (kk_m0 86 rfl rfl) (by decide +kernel) rfl (kk_s0 86 rfl rfl rfl) rfl rfl rfl rfl rfl hl.1 (Nat.le_of_ble_eq_true rfl) dL_law_191 hf (fun H locs hP hD hS => ?_)
        refine lv_iload hx hb dL_law_194 (lv_at hl 1 rfl) ?_
        refine lv_icmp_ne (tgt := 247) hx hb dL_law_196 (by decide) (fun y9 => absurd (show nI (t_all s') = nI (z) from (by rw [kl_eq (by omega) (by omega)]; omega)) y9) (fun y9 => ?_)
        exact J199 G1 V H locs ls hRS hP hD hS (lv_sub hl [1, 2, 3, 4, 5, 6, 7, 8, 9, 10, 11] rfl)
set_option maxHeartbeats 800000 in
set_option maxRecDepth 100000 in
theorem kL_turn (hn : 300000 ≤ n) (hst : l.stackTraces = false) (hC : CallFix p m c cL_law 12 s args wsL_law RL) (hK : va_K g.1 vwCl (kT g) s) (hG : k_Gs A s s.heap) (hA : ∀ q, s.heap.size ≤ q → A q) (hX : va_X b L xs s s.heap) (hbl : b < s.heap.size) (hbA : ¬ A b) (hL : L ≤ 260) {T9 k9 c9 : Nat} {s9 : Nat → Nat} (hk : k9 < T9) (hT : T9 ≤ 40) (JN : ∀ (s' : Nat → Nat) (c' : Nat), kL_J p l e s m args below meth c Q g A a h s' c' 32 (86 + (k9 + 1)) (729 + 6 * (k9 + 1)) [(4, .int (nI (k9 + 1))), (2, .int (nI 1)), (3, .int (nI T9)), (1, .ref (a 0 0)), (0, .ref b)]) : kL_J p l e s m args below meth c Q g A a h s9 c9 32 (86 + k9) (729 + 6 * k9) [(4, .int (nI k9)), (2, .int (nI 1)), (3, .int (nI T9)), (1, .ref (a 0 0)), (0, .ref b)] := by
  intro G V H locs ls hRS hP hD hS hl
  obtain ⟨hW, -, hc6⟩ := RS_W hRS
  obtain ⟨hx, hb, hml, hown, hts⟩ := id hC
  have hn1 : 1000 ≤ n := by omega
  have w1 := hW.2.1
  have hall := t_all_le s9 w1.1
  have hend := t_end_le hW (L := s9 3) hW.1.2.2.2.2.2.2
  have hf : 86 + k9 ≤ 600104 ∧ 729 + 6 * k9 ≤ 7301314 := by omega
  have hf1 : 86 + k9 + 1 ≤ 600104 ∧ 729 + 6 * k9 + 6 ≤ 7301314 := by omega
  have hf2 : 86 + (k9 + 1) ≤ 600104 ∧ 729 + 6 * (k9 + 1) ≤ 7301314 := by omega
  refine lv_iload hx hb dL_law_32 (lv_at hl 0 rfl) ?_
  refine lv_iload_n hx hb dL_law_34 rfl (lv_at hl 2 rfl) ?_
  refine lv_icmp_ge (tgt := 255) hx hb dL_law_35 (by decide) (fun y9 => absurd (show nI (T9) ≤ nI (k9) from y9) (by rw [kl_le (by omega) (by omega)]; omega)) (fun y9 => ?_)
  refine lv_iload_n hx hb dL_law_38 rfl (lv_at hl 1 rfl) ?_
  refine lv_if_eq (tgt := 255) hx hb dL_law_39 (by decide) (fun y9 => absurd (show nI (1) = nI (0) from y9) (by rw [kl_eq (by omega) (by omega)]; omega)) (fun y9 => ?_)
  refine lv_aload_n hx hb dL_law_42 rfl (lv_at hl 3 rfl) ?_
  refine lv_bipush (v := nI 8) hx hb dL_law_43 (by decide) ?_
  obtain ⟨G1, e2, hRS⟩ := l_c8 hn1 hRS
  refine kr_Vi (w' := (w_F g a G1 ++ w_H g (a 0 2) h V)) (As := [.int (nI 8)]) (rest := []) 0 4 hC (sX4_count l g n a h G V (nI 8) (nI c9, G1) e2) (cwV 1 hts gL_law_X4_count rfl rfl rfl (by decide +kernel) ⟨Nat.le_of_ble_eq_true rfl, Nat.le_of_ble_eq_true rfl⟩) hK hP hD hS hA (List.range 86) (kk_m0 86 rfl rfl) (by decide +kernel) rfl (kk_s0 86 rfl rfl rfl) rfl rfl rfl rfl rfl hl.1 (Nat.le_of_ble_eq_true rfl) dL_law_45 hf (fun H locs hP hD hS => ?_)
  refine lv_istore (i := 5) (lv' := [(5, .int (nI c9)), (4, .int (nI k9)), (2, .int (nI 1)), (3, .int (nI T9)), (1, .ref (a 0 0)), (0, .ref b)]) hx hb dL_law_48 hl (by decide) rfl (fun ls hl => ?_)
  refine lv_aload_n hx hb dL_law_50 rfl (lv_at hl 4 rfl) ?_
  refine lv_iconst (v := nI 0) hx hb dL_law_51 (by decide) ?_
  obtain ⟨G3, e4, hRS⟩ := l_c0 hn1 hRS
  refine kr_Vi (w' := (w_F g a G3 ++ w_H g (a 0 2) h V)) (As := [.int (nI 0)]) (rest := []) 0 4 hC (sX4_count l g n a h G1 V (nI 0) (nI (s9 4), G3) e4) (cwV 1 hts gL_law_X4_count rfl rfl rfl (by decide +kernel) ⟨Nat.le_of_ble_eq_true rfl, Nat.le_of_ble_eq_true rfl⟩) hK hP hD hS hA (List.range 86) (kk_m0 86 rfl rfl) (by decide +kernel) rfl (kk_s0 86 rfl rfl rfl) rfl rfl rfl rfl rfl hl.1 (Nat.le_of_ble_eq_true rfl) dL_law_52 hf (fun H locs hP hD hS => ?_)
  refine lv_istore (i := 6) (lv' := [(6, .int (nI (s9 4))), (5, .int (nI c9)), (4, .int (nI k9)), (2, .int (nI 1)), (3, .int (nI T9)), (1, .ref (a 0 0)), (0, .ref b)]) hx hb dL_law_55 hl (by decide) rfl (fun ls hl => ?_)
  refine lv_aload_n hx hb dL_law_57 rfl (lv_at hl 5 rfl) ?_
  refine lv_iconst (v := nI 1) hx hb dL_law_58 (by decide) ?_
  obtain ⟨G5, e6, hRS⟩ := l_c1 hn1 hRS
  refine kr_Vi (w' := (w_F g a G5 ++ w_H g (a 0 2) h V)) (As := [.int (nI 1)]) (rest := []) 0 4 hC (sX4_count l g n a h G3 V (nI 1) (nI (s9 5), G5) e6) (cwV 1 hts gL_law_X4_count rfl rfl rfl (by decide +kernel) ⟨Nat.le_of_ble_eq_true rfl, Nat.le_of_ble_eq_true rfl⟩) hK hP hD hS hA (List.range 86) (kk_m0 86 rfl rfl) (by decide +kernel) rfl (kk_s0 86 rfl rfl rfl) rfl rfl rfl rfl rfl hl.1 (Nat.le_of_ble_eq_true rfl) dL_law_59 hf (fun H locs hP hD hS => ?_)
  refine lv_istore (i := 7) (lv' := [(7, .int (nI (s9 5))), (6, .int (nI (s9 4))), (5, .int (nI c9)), (4, .int (nI k9)), (2, .int (nI 1)), (3, .int (nI T9)), (1, .ref (a 0 0)), (0, .ref b)]) hx hb dL_law_62 hl (by decide) rfl (fun ls hl => ?_)
  refine lv_aload_n hx hb dL_law_64 rfl (lv_at hl 6 rfl) ?_
  refine lv_iconst (v := nI 2) hx hb dL_law_65 (by decide) ?_
  obtain ⟨G7, e8, hRS⟩ := l_c2 hn1 hRS
  refine kr_Vi (w' := (w_F g a G7 ++ w_H g (a 0 2) h V)) (As := [.int (nI 2)]) (rest := []) 0 4 hC (sX4_count l g n a h G5 V (nI 2) (nI (t_all s9), G7) e8) (cwV 1 hts gL_law_X4_count rfl rfl rfl (by decide +kernel) ⟨Nat.le_of_ble_eq_true rfl, Nat.le_of_ble_eq_true rfl⟩) hK hP hD hS hA (List.range 86) (kk_m0 86 rfl rfl) (by decide +kernel) rfl (kk_s0 86 rfl rfl rfl) rfl rfl rfl rfl rfl hl.1 (Nat.le_of_ble_eq_true rfl) dL_law_66 hf (fun H locs hP hD hS => ?_)
  refine lv_istore (i := 8) (lv' := [(8, .int (nI (t_all s9))), (7, .int (nI (s9 5))), (6, .int (nI (s9 4))), (5, .int (nI c9)), (4, .int (nI k9)), (2, .int (nI 1)), (3, .int (nI T9)), (1, .ref (a 0 0)), (0, .ref b)]) hx hb dL_law_69 hl (by decide) rfl (fun ls hl => ?_)
  refine lv_aload_n hx hb dL_law_71 rfl (lv_at hl 7 rfl) ?_
  refine lv_iconst (v := nI 3) hx hb dL_law_72 (by decide) ?_
  obtain ⟨G9, e10, hRS⟩ := l_c3 hn1 hRS
  refine kr_Vi (w' := (w_F g a G9 ++ w_H g (a 0 2) h V)) (As := [.int (nI 3)]) (rest := []) 0 4 hC (sX4_count l g n a h G7 V (nI 3) (nI (t_end s9 (s9 3)), G9) e10) (cwV 1 hts gL_law_X4_count rfl rfl rfl (by decide +kernel) ⟨Nat.le_of_ble_eq_true rfl, Nat.le_of_ble_eq_true rfl⟩) hK hP hD hS hA (List.range 86) (kk_m0 86 rfl rfl) (by decide +kernel) rfl (kk_s0 86 rfl rfl rfl) rfl rfl rfl rfl rfl hl.1 (Nat.le_of_ble_eq_true rfl) dL_law_73 hf (fun H locs hP hD hS => ?_)
  refine lv_istore (i := 9) (lv' := [(9, .int (nI (t_end s9 (s9 3)))), (8, .int (nI (t_all s9))), (7, .int (nI (s9 5))), (6, .int (nI (s9 4))), (5, .int (nI c9)), (4, .int (nI k9)), (2, .int (nI 1)), (3, .int (nI T9)), (1, .ref (a 0 0)), (0, .ref b)]) hx hb dL_law_76 hl (by decide) rfl (fun ls hl => ?_)
  refine lv_aload_n hx hb dL_law_78 rfl (lv_at hl 9 rfl) ?_
  refine lv_iconst (v := nI 3) hx hb dL_law_79 (by decide) ?_
  refine lv_iload hx hb dL_law_80 (lv_at hl 5 rfl) ?_
  refine lv_imul hx hb dL_law_82 ?_
  refine kr_nmi (x := nI (3 * k9)) ((kl_mul _ _).symm) ?_
  refine ks_call (w' := fun _ : Unit => (w_F g a G9 ++ w_H g (a 0 2) h V)) (As := [.ref b, .int (nI (3 * k9))]) (rest := []) hC (sL_cell l g b L xs (3 * k9) (by omega) hL) (va_cwS 2 hts gL_law_L_cell rfl rfl rfl (by decide +kernel) ⟨Nat.le_of_ble_eq_true rfl, Nat.le_of_ble_eq_true rfl⟩) hK hG hX hbl hbA hP hD hS hA [] rfl rfl (fun _ => rfl) (fun _ => rfl) rfl rfl hl.1 (Nat.le_of_ble_eq_true rfl) dL_law_83 hf (fun r9 u9 H locs hr9 hP hD hS => ?_)
  obtain rfl : r9 = kCell xs L (3 * k9) := hr9
  refine lv_bipush (v := nI 18) hx hb dL_law_86 (by decide) ?_
  refine kr_S (w' := fun _ : Unit => (w_F g a G9 ++ w_H g (a 0 2) h V)) (As := [.int (kCell xs L (3 * k9)), .int (nI 18)]) (rest := []) hC (sL_low l g (kCell xs L (3 * k9)) 18 (by omega) (by omega)) (va_cwS 2 hts gL_law_L_low rfl rfl rfl (by decide +kernel) ⟨Nat.le_of_ble_eq_true rfl, Nat.le_of_ble_eq_true rfl⟩) hK hP hD hS hA [] rfl rfl (fun _ => rfl) (fun _ => rfl) rfl rfl hl.1 (Nat.le_of_ble_eq_true rfl) dL_law_88 hf (fun r9 u9 H locs hr9 hP hD hS => ?_)
  obtain rfl : r9 = nI (kLow (kCell xs L (3 * k9)) 18) := hr9
  have hk91 := kLow_lt (kCell xs L (3 * k9)) (m := 18) (by omega)
  refine lv_istore (i := 10) (lv' := [(10, .int (nI (kLow (kCell xs L (3 * k9)) 18))), (9, .int (nI (t_end s9 (s9 3)))), (8, .int (nI (t_all s9))), (7, .int (nI (s9 5))), (6, .int (nI (s9 4))), (5, .int (nI c9)), (4, .int (nI k9)), (2, .int (nI 1)), (3, .int (nI T9)), (1, .ref (a 0 0)), (0, .ref b)]) hx hb dL_law_91 hl (by decide) rfl (fun ls hl => ?_)
  refine lv_aload_n hx hb dL_law_93 rfl (lv_at hl 9 rfl) ?_
  refine lv_aload_n hx hb dL_law_94 rfl (lv_at hl 10 rfl) ?_
  refine lv_iconst (v := nI 3) hx hb dL_law_95 (by decide) ?_
  refine lv_iload hx hb dL_law_96 (lv_at hl 6 rfl) ?_
  refine lv_imul hx hb dL_law_98 ?_
  refine kr_nmi (x := nI (3 * k9)) ((kl_mul _ _).symm) ?_
  refine ks_callX (w' := wfA g a h) (As := [.ref (a 0 0), .ref b, .int (nI (3 * k9))]) (rest := []) hC (sL_act l hst g n hn a h G9 V s9 c9 hRS b L xs hL (3 * k9) (by omega)) (va_cwS 3 hts gL_law_L_act rfl rfl rfl (by decide +kernel) ⟨Nat.le_of_ble_eq_true rfl, Nat.le_of_ble_eq_true rfl⟩) hK hG hX hbl hbA hP hD hS hA (List.range 86) (kk_m0 86 rfl rfl) (by decide +kernel) (fun _ => rfl) (fun _ => kk_s0 86 rfl rfl rfl) rfl rfl hl.1 (Nat.le_of_ble_eq_true rfl) dL_law_99 hf1 (fun r9 u9 H locs hr9 hP hD hS => ?_)
  obtain ⟨G9, V9⟩ := u9
  obtain ⟨s', c', hRS, hr9⟩ := hr9
  replace hRS : RS G9 V9 s' c' := hRS
  replace hP : va_P g.1 vwCl (w_F g a G9 ++ w_H g (a 0 2) h V9) H := hP
  replace hD : va_D A (w_F g a G9 ++ w_H g (a 0 2) h V9) := hD
  obtain ⟨hW', -, hc6'⟩ := RS_W hRS
  have w1' := hW'.2.1
  have hall' := t_all_le s' w1'.1
  have hend' := t_end_le hW' (L := s' 3) hW'.1.2.2.2.2.2.2
  refine kw_widen (k := 86 + (k9 + 1)) (j := 729 + 6 * (k9 + 1)) (by omega) (by omega) ?_
  have JT := kL_tail hn hst hC hK hG hA hX hbl hbA hL (by omega) hT hf2 hW hW' hr9 (JN s' c')
  clear hf hf1
  have hf := hf2
  refine lv_istore (i := 11) (lv' := [(11, .int (r9)), (10, .int (nI (kLow (kCell xs L (3 * k9)) 18))), (9, .int (nI (t_end s9 (s9 3)))), (8, .int (nI (t_all s9))), (7, .int (nI (s9 5))), (6, .int (nI (s9 4))), (5, .int (nI c9)), (4, .int (nI k9)), (2, .int (nI 1)), (3, .int (nI T9)), (1, .ref (a 0 0)), (0, .ref b)]) hx hb dL_law_102 hl (by decide) rfl (fun ls hl => ?_)
  refine lv_iload hx hb dL_law_104 (lv_at hl 0 rfl) ?_
  rcases id hr9 with ⟨e9, es, ec⟩ | ⟨z, hz, e9, -, -⟩
  · subst e9
    refine lv_if_ge (tgt := 160) hx hb dL_law_106 (by decide) (fun k7 => absurd k7 (by decide)) (fun k7 => ?_)
    replace es := es.symm
    subst es
    replace ec := ec.symm
    subst ec
    refine lv_aload_n hx hb dL_law_109 rfl (lv_at hl 10 rfl) ?_
    refine lv_bipush (v := nI 8) hx hb dL_law_110 (by decide) ?_
    obtain ⟨G11, e12, hRS⟩ := l_c8 hn1 hRS
    refine kr_Vi (w' := (w_F g a G11 ++ w_H g (a 0 2) h V9)) (As := [.int (nI 8)]) (rest := []) 0 4 hC (sX4_count l g n a h G9 V9 (nI 8) (nI c9, G11) e12) (cwV 1 hts gL_law_X4_count rfl rfl rfl (by decide +kernel) ⟨Nat.le_of_ble_eq_true rfl, Nat.le_of_ble_eq_true rfl⟩) hK hP hD hS hA (List.range 86) (kk_m0 86 rfl rfl) (by decide +kernel) rfl (kk_s0 86 rfl rfl rfl) rfl rfl rfl rfl rfl hl.1 (Nat.le_of_ble_eq_true rfl) dL_law_112 hf (fun H locs hP hD hS => ?_)
    refine lv_iload hx hb dL_law_115 (lv_at hl 6 rfl) ?_
    refine lv_icmp_ne (tgt := 164) hx hb dL_law_117 (by decide) (fun y9 => absurd (show nI (c9) = nI (c9) from rfl) y9) (fun y9 => ?_)
    refine lv_aload_n hx hb dL_law_120 rfl (lv_at hl 10 rfl) ?_
    refine lv_iconst (v := nI 0) hx hb dL_law_121 (by decide) ?_
    obtain ⟨G13, e14, hRS⟩ := l_c0 hn1 hRS
    refine kr_Vi (w' := (w_F g a G13 ++ w_H g (a 0 2) h V9)) (As := [.int (nI 0)]) (rest := []) 0 4 hC (sX4_count l g n a h G11 V9 (nI 0) (nI (s9 4), G13) e14) (cwV 1 hts gL_law_X4_count rfl rfl rfl (by decide +kernel) ⟨Nat.le_of_ble_eq_true rfl, Nat.le_of_ble_eq_true rfl⟩) hK hP hD hS hA (List.range 86) (kk_m0 86 rfl rfl) (by decide +kernel) rfl (kk_s0 86 rfl rfl rfl) rfl rfl rfl rfl rfl hl.1 (Nat.le_of_ble_eq_true rfl) dL_law_122 hf (fun H locs hP hD hS => ?_)
    refine lv_iload hx hb dL_law_125 (lv_at hl 5 rfl) ?_
    refine lv_icmp_ne (tgt := 164) hx hb dL_law_127 (by decide) (fun y9 => absurd (show nI (s9 4) = nI (s9 4) from rfl) y9) (fun y9 => ?_)
    refine lv_aload_n hx hb dL_law_130 rfl (lv_at hl 10 rfl) ?_
    refine lv_iconst (v := nI 1) hx hb dL_law_131 (by decide) ?_
    obtain ⟨G15, e16, hRS⟩ := l_c1 hn1 hRS
    refine kr_Vi (w' := (w_F g a G15 ++ w_H g (a 0 2) h V9)) (As := [.int (nI 1)]) (rest := []) 0 4 hC (sX4_count l g n a h G13 V9 (nI 1) (nI (s9 5), G15) e16) (cwV 1 hts gL_law_X4_count rfl rfl rfl (by decide +kernel) ⟨Nat.le_of_ble_eq_true rfl, Nat.le_of_ble_eq_true rfl⟩) hK hP hD hS hA (List.range 86) (kk_m0 86 rfl rfl) (by decide +kernel) rfl (kk_s0 86 rfl rfl rfl) rfl rfl rfl rfl rfl hl.1 (Nat.le_of_ble_eq_true rfl) dL_law_132 hf (fun H locs hP hD hS => ?_)
    refine lv_iload hx hb dL_law_135 (lv_at hl 4 rfl) ?_
    refine lv_icmp_ne (tgt := 164) hx hb dL_law_137 (by decide) (fun y9 => absurd (show nI (s9 5) = nI (s9 5) from rfl) y9) (fun y9 => ?_)
    refine lv_aload_n hx hb dL_law_140 rfl (lv_at hl 10 rfl) ?_
    refine lv_iconst (v := nI 2) hx hb dL_law_141 (by decide) ?_
    obtain ⟨G17, e18, hRS⟩ := l_c2 hn1 hRS
    refine kr_Vi (w' := (w_F g a G17 ++ w_H g (a 0 2) h V9)) (As := [.int (nI 2)]) (rest := []) 0 4 hC (sX4_count l g n a h G15 V9 (nI 2) (nI (t_all s9), G17) e18) (cwV 1 hts gL_law_X4_count rfl rfl rfl (by decide +kernel) ⟨Nat.le_of_ble_eq_true rfl, Nat.le_of_ble_eq_true rfl⟩) hK hP hD hS hA (List.range 86) (kk_m0 86 rfl rfl) (by decide +kernel) rfl (kk_s0 86 rfl rfl rfl) rfl rfl rfl rfl rfl hl.1 (Nat.le_of_ble_eq_true rfl) dL_law_142 hf (fun H locs hP hD hS => ?_)
    refine lv_iload hx hb dL_law_145 (lv_at hl 3 rfl) ?_
    refine lv_icmp_ne (tgt := 164) hx hb dL_law_147 (by decide) (fun y9 => absurd (show nI (t_all s9) = nI (t_all s9) from rfl) y9) (fun y9 => ?_)
    refine lv_aload_n hx hb dL_law_150 rfl (lv_at hl 10 rfl) ?_
    refine lv_iconst (v := nI 3) hx hb dL_law_151 (by decide) ?_
    obtain ⟨G19, e20, hRS⟩ := l_c3 hn1 hRS
    refine kr_Vi (w' := (w_F g a G19 ++ w_H g (a 0 2) h V9)) (As := [.int (nI 3)]) (rest := []) 0 4 hC (sX4_count l g n a h G17 V9 (nI 3) (nI (t_end s9 (s9 3)), G19) e20) (cwV 1 hts gL_law_X4_count rfl rfl rfl (by decide +kernel) ⟨Nat.le_of_ble_eq_true rfl, Nat.le_of_ble_eq_true rfl⟩) hK hP hD hS hA (List.range 86) (kk_m0 86 rfl rfl) (by decide +kernel) rfl (kk_s0 86 rfl rfl rfl) rfl rfl rfl rfl rfl hl.1 (Nat.le_of_ble_eq_true rfl) dL_law_152 hf (fun H locs hP hD hS => ?_)
    refine lv_iload hx hb dL_law_155 (lv_at hl 2 rfl) ?_
    refine lv_icmp_ne (tgt := 164) hx hb dL_law_157 (by decide) (fun y9 => absurd (show nI (t_end s9 (s9 3)) = nI (t_end s9 (s9 3)) from rfl) y9) (fun y9 => ?_)
    exact JT G19 V9 H locs ls hRS hP hD hS (lv_sub hl [0, 1, 2, 3, 4, 5, 6, 7, 9, 10, 11] rfl)
  · subst e9
    refine lv_if_ge (tgt := 160) hx hb dL_law_106 (by decide) (fun y9 => ?_) (fun y9 => absurd (show nI (0) ≤ nI (z) from (by rw [kl_le (by omega) (by omega)]; omega)) y9)
    exact JT G9 V9 H locs ls hRS hP hD hS (lv_sub hl [0, 1, 2, 3, 4, 5, 6, 7, 9, 10, 11] rfl)
theorem kL_loop (hn : 300000 ≤ n) (hst : l.stackTraces = false) (hC : CallFix p m c cL_law 12 s args wsL_law RL) (hK : va_K g.1 vwCl (kT g) s) (hG : k_Gs A s s.heap) (hA : ∀ q, s.heap.size ≤ q → A q) (hX : va_X b L xs s s.heap) (hbl : b < s.heap.size) (hbA : ¬ A b) (hL : L ≤ 260) {T9 : Nat} (hT : T9 ≤ 40) (JE : ∀ (s9 : Nat → Nat) (c9 : Nat), kL_J p l e s m args below meth c Q g A a h s9 c9 255 (86 + T9) (729 + 6 * T9) [(4, .int (nI T9)), (2, .int (nI 1)), (3, .int (nI T9)), (1, .ref (a 0 0)), (0, .ref b)]) : ∀ d k9, d + k9 = T9 → ∀ (s9 : Nat → Nat) (c9 : Nat), kL_J p l e s m args below meth c Q g A a h s9 c9 32 (86 + k9) (729 + 6 * k9) [(4, .int (nI k9)), (2, .int (nI 1)), (3, .int (nI T9)), (1, .ref (a 0 0)), (0, .ref b)] := by
  obtain ⟨hx, hb, hml, hown, hts⟩ := id hC
  intro d
  induction d with
  | zero =>
    intro k9 hk s9 c9
    have ek : k9 = T9 := by omega
    subst ek
    intro G V H locs ls hRS hP hD hS hl
    refine lv_iload hx hb dL_law_32 (lv_at hl 0 rfl) ?_
    refine lv_iload_n hx hb dL_law_34 rfl (lv_at hl 2 rfl) ?_
    refine lv_icmp_ge (tgt := 255) hx hb dL_law_35 (by decide) (fun y9 => ?_) (fun y9 => absurd (show nI (k9) ≤ nI (k9) from (by rw [kl_le (by omega) (by omega)]; omega)) y9)
    exact JE s9 c9 G V H locs ls hRS hP hD hS (lv_sub hl [0, 1, 2, 3, 4] rfl)
  | succ d ih =>
    intro k9 hk s9 c9
    exact kL_turn hn hst hC hK hG hA hX hbl hbA hL (by omega) hT (fun s' c' => ih (k9 + 1) (by omega) s' c')
end KLaw
