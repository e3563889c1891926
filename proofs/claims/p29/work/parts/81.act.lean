/-! p29: the law's act -/
def actP (t : Nat) (s9 : Nat → Nat) (c9 : Nat) (r : Int32) (u : St2 × St2) : Prop := ∃ s' c', RS u.1 u.2 s' c' ∧ ((r = -3 ∧ s' = s9 ∧ c' = c9) ∨ ∃ z, z < 2000000 ∧ r = nI z ∧ (7 ≤ t → t ≤ 9 → t_all s' = z) ∧ (t = 12 → kY s' ≤ kY s9))
abbrev rmA : Room := ({ frames := 8, cells := 1, slots := 6, locals := 139 } : Room)
abbrev wfA (g : kG) (a h : Nat → Nat → Nat) : St2 × St2 → va_W := fun u => w_F g a u.1 ++ w_H g (a 0 2) h u.2
/-- a continuation at a place of act -/
def kA_J (p : Program) (l : Launch) (e : Env) (s : State) (m : MethodId) (args : Array Value) (below : List Frame) (meth : Method) (c : Code) (Q : State → Prop) (g : kG) (A : Nat → Prop) (a h : Nat → Nat → Nat) (s9 : Nat → Nat) (c9 pc : Nat) (lv : List (Nat × Value)) : Prop :=
  ∀ (G V : St2) (H : Heap) (locs : List Loc) (ls : Array Slot), RS G V s9 c9 → va_P g.1 vwCl (w_F g a G ++ w_H g (a 0 2) h V) H → va_D A (w_F g a G ++ w_H g (a 0 2) h V) → va_S A s.heap H locs → lv_has ls 7 lv → W p l e rmA s m args below meth c H locs 0 0 Q (F0 m pc ls [])
section KAct
variable {p : Program} {l : Launch} {e : Env} {s : State} {m : MethodId} {args : Array Value} {below : List Frame} {meth : Method} {c : Code} {Q : State → Prop} {g : kG} {A : Nat → Prop} {a h : Nat → Nat → Nat} {s9 : Nat → Nat} {c9 n b L q9 : Nat} {xs : Nat → Int32}
set_option maxHeartbeats 8000000 in
set_option maxRecDepth 100000 in
theorem kA_put (hn : 300000 ≤ n) (hst : l.stackTraces = false) (hC : CallFix p m c cL_act 7 s args wsL_act RL) (hr : meth.sig.returnType = some .int) (hlocks : meth.locks = false) (hK : va_K g.1 vwCl (kT g) s) (hG : k_Gs A s s.heap) (hA : ∀ q, s.heap.size ≤ q → A q) (hQ : Q = vx_MQ below (kQe g (wfA g a h) (actP (kLow (kCell xs L q9) 18) s9 c9) A) kXN args s 1 6 A) (hW : WF s9) (ht : kLow (kCell xs L q9) 18 ≤ 5) : kA_J p l e s m args below meth c Q g A a h s9 c9 124 [(6, .int (nI (kLow (kCell xs L (q9 + 2)) 4))), (5, .int (nI (s9 4))), (4, .int (kCell xs L (q9 + 2))), (3, .int (kCell xs L (q9 + 1))), (0, .ref (a 0 0))] := by
  subst hQ
  obtain ⟨hx, hb, hml, hown, hts⟩ := id hC
  have w1 := hW.2.1
  have hn1 : 1000 ≤ n := by omega
  intro G V H locs ls hRS hP hD hS hl
  have hk4 := kLow_lt (kCell xs L (q9 + 2)) (m := 4) (by omega)
  refine lv_aload_n hx hb dL_act_124 rfl (lv_at hl 4 rfl) ?_
  refine lv_iload_n hx hb dL_act_125 rfl (lv_at hl 3 rfl) ?_
  refine lv_iload hx hb dL_act_126 (lv_at hl 1 rfl) ?_
  refine lv_iconst (v := nI 1) hx hb dL_act_128 (by decide) ?_
  refine lv_iadd hx hb dL_act_129 ?_
  refine kk_nmi (x := nI ((s9 4) + 1)) ((nI_add _ _).symm) ?_
  refine kr_S (w' := fun _ : Unit => (w_F g a G ++ w_H g (a 0 2) h V)) (As := [.int (kCell xs L (q9 + 1)), .int (nI ((s9 4) + 1))]) (rest := [.ref (a 0 0)]) hC (sL_low l g (kCell xs L (q9 + 1)) ((s9 4) + 1) (by omega) (by omega)) (va_cwS 2 hts gL_act_L_low rfl rfl rfl (by decide +kernel) ⟨Nat.le_of_ble_eq_true rfl, Nat.le_of_ble_eq_true rfl⟩) hK hP hD hS hA [] rfl rfl (fun _ => rfl) (fun _ => rfl) rfl rfl hl.1 (Nat.le_of_ble_eq_true rfl) dL_act_130 ⟨Nat.le_of_ble_eq_true rfl, Nat.le_of_ble_eq_true rfl⟩ (fun r9 u9 H locs hr9 hP hD hS => ?_)
  obtain rfl : r9 = nI (kLow (kCell xs L (q9 + 1)) ((s9 4) + 1)) := hr9
  have hk133 := kLow_lt (kCell xs L (q9 + 1)) (m := (s9 4) + 1) (by omega)
  refine lv_iload hx hb dL_act_133 (lv_at hl 0 rfl) ?_
  refine lv_bipush (v := nI 10) hx hb dL_act_135 (by decide) ?_
  refine lv_iload_n hx hb dL_act_137 rfl (lv_at hl 3 rfl) ?_
  refine lv_iload hx hb dL_act_138 (lv_at hl 2 rfl) ?_
  refine lv_iadd hx hb dL_act_140 ?_
  refine lv_bipush (v := nI 90) hx hb dL_act_141 (by decide) ?_
  refine kr_S (w' := fun _ : Unit => (w_F g a G ++ w_H g (a 0 2) h V)) (As := [.int (kCell xs L (q9 + 1) + kCell xs L (q9 + 2)), .int (nI 90)]) (rest := [.int (nI 10), .int (nI (kLow (kCell xs L (q9 + 2)) 4)), .int (nI (kLow (kCell xs L (q9 + 1)) ((s9 4) + 1))), .ref (a 0 0)]) hC (sL_low l g (kCell xs L (q9 + 1) + kCell xs L (q9 + 2)) 90 (by omega) (by omega)) (va_cwS 2 hts gL_act_L_low rfl rfl rfl (by decide +kernel) ⟨Nat.le_of_ble_eq_true rfl, Nat.le_of_ble_eq_true rfl⟩) hK hP hD hS hA [] rfl rfl (fun _ => rfl) (fun _ => rfl) rfl rfl hl.1 (Nat.le_of_ble_eq_true rfl) dL_act_143 ⟨Nat.le_of_ble_eq_true rfl, Nat.le_of_ble_eq_true rfl⟩ (fun r9 u9 H locs hr9 hP hD hS => ?_)
  obtain rfl : r9 = nI (kLow (kCell xs L (q9 + 1) + kCell xs L (q9 + 2)) 90) := hr9
  have hk146 := kLow_lt (kCell xs L (q9 + 1) + kCell xs L (q9 + 2)) (m := 90) (by omega)
  refine lv_iadd hx hb dL_act_146 ?_
  refine kk_nmi (x := nI (10 + (kLow (kCell xs L (q9 + 1) + kCell xs L (q9 + 2)) 90))) ((nI_add _ _).symm) ?_
  refine lv_iload hx hb dL_act_147 (lv_at hl 0 rfl) ?_
  refine lv_iconst (v := nI 1) hx hb dL_act_149 (by decide) ?_
  refine lv_icmp_ne (tgt := 162) hx hb dL_act_150 (by decide) (fun k9 => ?_) (fun k9 => ?_)
  · replace k9 : ¬ nI (kLow (kCell xs L (q9 + 2)) 4) = nI (1) := k9
    rw [kl_eq (by omega) (by omega)] at k9
    refine lv_iconst (v := nI 0) hx hb dL_act_162 (by decide) ?_
    rcases a_put (j := kLow (kCell xs L (q9 + 1)) ((s9 4) + 1)) (a := kLow (kCell xs L (q9 + 2)) 4) (b := 10 + (kLow (kCell xs L (q9 + 1) + kCell xs L (q9 + 2)) 90)) (m := 0) hn1 hRS (by omega) (by omega) (by omega) (by omega) (by omega) (fun h9 => rfl) with e1 | ⟨z1, G1, V1, s1, c1, e1, hz1, hRS1, -⟩
    · refine kr_wrap (w' := fun _ : Unit => (w_F g a G ++ w_H g (a 0 2) h V)) (As := [.ref (a 0 0), .int (nI (kLow (kCell xs L (q9 + 1)) ((s9 4) + 1))), .int (nI (kLow (kCell xs L (q9 + 2)) 4)), .int (nI (10 + (kLow (kCell xs L (q9 + 1) + kCell xs L (q9 + 2)) 90))), .int (nI 0)]) (rest := []) hC (sL_put_t l hst g n a h G V (nI (kLow (kCell xs L (q9 + 1)) ((s9 4) + 1))) (nI (kLow (kCell xs L (q9 + 2)) 4)) (nI (10 + (kLow (kCell xs L (q9 + 1) + kCell xs L (q9 + 2)) 90))) (nI 0) e1) (vx_cwSW 5 hts gL_act_L_put rfl rfl rfl (by decide +kernel) ⟨Nat.le_of_ble_eq_true rfl, Nat.le_of_ble_eq_true rfl⟩) hK hG hP hD hS hA (List.range 86) (kk_m0 86 rfl rfl) (by decide +kernel) (fun _ => rfl) (fun _ => kk_s0 86 rfl rfl rfl) rfl rfl hl.1 (Nat.le_of_ble_eq_true rfl) dL_act_163 ⟨Nat.le_of_ble_eq_true rfl, Nat.le_of_ble_eq_true rfl⟩ (fun r9 u9 H locs hr9 hP hD hS => ?_)
      obtain rfl : r9 = -3 := hr9
      exact ka_ret (wf := wfA g a h) (post := actP (kLow (kCell xs L q9) 18) s9 c9) (G, V) hC hr hlocks hK hP hD hS (by decide) (by decide) dL_act_166 ⟨s9, c9, hRS, .inl ⟨rfl, rfl, rfl⟩⟩
    · refine kr_wrap (w' := fun _ : Unit => (w_F g a G1 ++ w_H g (a 0 2) h V1)) (As := [.ref (a 0 0), .int (nI (kLow (kCell xs L (q9 + 1)) ((s9 4) + 1))), .int (nI (kLow (kCell xs L (q9 + 2)) 4)), .int (nI (10 + (kLow (kCell xs L (q9 + 1) + kCell xs L (q9 + 2)) 90))), .int (nI 0)]) (rest := []) hC (sL_put l hst g n a h G V (nI (kLow (kCell xs L (q9 + 1)) ((s9 4) + 1))) (nI (kLow (kCell xs L (q9 + 2)) 4)) (nI (10 + (kLow (kCell xs L (q9 + 1) + kCell xs L (q9 + 2)) 90))) (nI 0) (nI z1, G1, V1) e1) (vx_cwSW 5 hts gL_act_L_put rfl rfl rfl (by decide +kernel) ⟨Nat.le_of_ble_eq_true rfl, Nat.le_of_ble_eq_true rfl⟩) hK hG hP hD hS hA (List.range 86) (kk_m0 86 rfl rfl) (by decide +kernel) (fun _ => rfl) (fun _ => kk_s0 86 rfl rfl rfl) rfl rfl hl.1 (Nat.le_of_ble_eq_true rfl) dL_act_163 ⟨Nat.le_of_ble_eq_true rfl, Nat.le_of_ble_eq_true rfl⟩ (fun r9 u9 H locs hr9 hP hD hS => ?_)
      obtain rfl : r9 = nI z1 := hr9
      exact ka_ret (wf := wfA g a h) (post := actP (kLow (kCell xs L q9) 18) s9 c9) (G1, V1) hC hr hlocks hK hP hD hS (by decide) (by decide) dL_act_166 ⟨s1, c1, hRS1, .inr ⟨z1, hz1, rfl, fun h7 h8 => absurd h7 (by omega), fun h7 => absurd h7 (by omega)⟩⟩
  · replace k9 : nI (kLow (kCell xs L (q9 + 2)) 4) = nI (1) := k9
    rw [kl_eq (by omega) (by omega)] at k9
    refine lv_iload_n hx hb dL_act_153 rfl (lv_at hl 3 rfl) ?_
    refine lv_bipush (v := nI 16) hx hb dL_act_154 (by decide) ?_
    refine kr_S (w' := fun _ : Unit => (w_F g a G ++ w_H g (a 0 2) h V)) (As := [.int (kCell xs L (q9 + 1)), .int (nI 16)]) (rest := [.int (nI (10 + (kLow (kCell xs L (q9 + 1) + kCell xs L (q9 + 2)) 90))), .int (nI (kLow (kCell xs L (q9 + 2)) 4)), .int (nI (kLow (kCell xs L (q9 + 1)) ((s9 4) + 1))), .ref (a 0 0)]) hC (sL_low l g (kCell xs L (q9 + 1)) 16 (by omega) (by omega)) (va_cwS 2 hts gL_act_L_low rfl rfl rfl (by decide +kernel) ⟨Nat.le_of_ble_eq_true rfl, Nat.le_of_ble_eq_true rfl⟩) hK hP hD hS hA [] rfl rfl (fun _ => rfl) (fun _ => rfl) rfl rfl hl.1 (Nat.le_of_ble_eq_true rfl) dL_act_156 ⟨Nat.le_of_ble_eq_true rfl, Nat.le_of_ble_eq_true rfl⟩ (fun r9 u9 H locs hr9 hP hD hS => ?_)
    obtain rfl : r9 = nI (kLow (kCell xs L (q9 + 1)) 16) := hr9
    have hk159 := kLow_lt (kCell xs L (q9 + 1)) (m := 16) (by omega)
    refine lv_goto (tgt := 163) hx hb dL_act_159 (by decide) ?_
    rcases a_put (j := kLow (kCell xs L (q9 + 1)) ((s9 4) + 1)) (a := kLow (kCell xs L (q9 + 2)) 4) (b := 10 + (kLow (kCell xs L (q9 + 1) + kCell xs L (q9 + 2)) 90)) (m := kLow (kCell xs L (q9 + 1)) 16) hn1 hRS (by omega) (by omega) (by omega) (by omega) (by omega) (fun h9 => absurd k9 h9) with e1 | ⟨z1, G1, V1, s1, c1, e1, hz1, hRS1, -⟩
    · refine kr_wrap (w' := fun _ : Unit => (w_F g a G ++ w_H g (a 0 2) h V)) (As := [.ref (a 0 0), .int (nI (kLow (kCell xs L (q9 + 1)) ((s9 4) + 1))), .int (nI (kLow (kCell xs L (q9 + 2)) 4)), .int (nI (10 + (kLow (kCell xs L (q9 + 1) + kCell xs L (q9 + 2)) 90))), .int (nI (kLow (kCell xs L (q9 + 1)) 16))]) (rest := []) hC (sL_put_t l hst g n a h G V (nI (kLow (kCell xs L (q9 + 1)) ((s9 4) + 1))) (nI (kLow (kCell xs L (q9 + 2)) 4)) (nI (10 + (kLow (kCell xs L (q9 + 1) + kCell xs L (q9 + 2)) 90))) (nI (kLow (kCell xs L (q9 + 1)) 16)) e1) (vx_cwSW 5 hts gL_act_L_put rfl rfl rfl (by decide +kernel) ⟨Nat.le_of_ble_eq_true rfl, Nat.le_of_ble_eq_true rfl⟩) hK hG hP hD hS hA (List.range 86) (kk_m0 86 rfl rfl) (by decide +kernel) (fun _ => rfl) (fun _ => kk_s0 86 rfl rfl rfl) rfl rfl hl.1 (Nat.le_of_ble_eq_true rfl) dL_act_163 ⟨Nat.le_of_ble_eq_true rfl, Nat.le_of_ble_eq_true rfl⟩ (fun r9 u9 H locs hr9 hP hD hS => ?_)
      obtain rfl : r9 = -3 := hr9
      exact ka_ret (wf := wfA g a h) (post := actP (kLow (kCell xs L q9) 18) s9 c9) (G, V) hC hr hlocks hK hP hD hS (by decide) (by decide) dL_act_166 ⟨s9, c9, hRS, .inl ⟨rfl, rfl, rfl⟩⟩
    · refine kr_wrap (w' := fun _ : Unit => (w_F g a G1 ++ w_H g (a 0 2) h V1)) (As := [.ref (a 0 0), .int (nI (kLow (kCell xs L (q9 + 1)) ((s9 4) + 1))), .int (nI (kLow (kCell xs L (q9 + 2)) 4)), .int (nI (10 + (kLow (kCell xs L (q9 + 1) + kCell xs L (q9 + 2)) 90))), .int (nI (kLow (kCell xs L (q9 + 1)) 16))]) (rest := []) hC (sL_put l hst g n a h G V (nI (kLow (kCell xs L (q9 + 1)) ((s9 4) + 1))) (nI (kLow (kCell xs L (q9 + 2)) 4)) (nI (10 + (kLow (kCell xs L (q9 + 1) + kCell xs L (q9 + 2)) 90))) (nI (kLow (kCell xs L (q9 + 1)) 16)) (nI z1, G1, V1) e1) (vx_cwSW 5 hts gL_act_L_put rfl rfl rfl (by decide +kernel) ⟨Nat.le_of_ble_eq_true rfl, Nat.le_of_ble_eq_true rfl⟩) hK hG hP hD hS hA (List.range 86) (kk_m0 86 rfl rfl) (by decide +kernel) (fun _ => rfl) (fun _ => kk_s0 86 rfl rfl rfl) rfl rfl hl.1 (Nat.le_of_ble_eq_true rfl) dL_act_163 ⟨Nat.le_of_ble_eq_true rfl, Nat.le_of_ble_eq_true rfl⟩ (fun r9 u9 H locs hr9 hP hD hS => ?_)
      obtain rfl : r9 = nI z1 := hr9
      exact ka_ret (wf := wfA g a h) (post := actP (kLow (kCell xs L q9) 18) s9 c9) (G1, V1) hC hr hlocks hK hP hD hS (by decide) (by decide) dL_act_166 ⟨s1, c1, hRS1, .inr ⟨z1, hz1, rfl, fun h7 h8 => absurd h7 (by omega), fun h7 => absurd h7 (by omega)⟩⟩
set_option maxHeartbeats 8000000 in
set_option maxRecDepth 100000 in
theorem kA_remove (hn : 300000 ≤ n) (hst : l.stackTraces = false) (hC : CallFix p m c cL_act 7 s args wsL_act RL) (hr : meth.sig.returnType = some .int) (hlocks : meth.locks = false) (hK : va_K g.1 vwCl (kT g) s) (hG : k_Gs A s s.heap) (hA : ∀ q, s.heap.size ≤ q → A q) (hQ : Q = vx_MQ below (kQe g (wfA g a h) (actP (kLow (kCell xs L q9) 18) s9 c9) A) kXN args s 1 6 A) (hW : WF s9) (ht : kLow (kCell xs L q9) 18 = 6) : kA_J p l e s m args below meth c Q g A a h s9 c9 167 [(6, .int (nI (kLow (kCell xs L (q9 + 2)) 4))), (5, .int (nI (s9 4))), (4, .int (kCell xs L (q9 + 2))), (3, .int (kCell xs L (q9 + 1))), (0, .ref (a 0 0))] := by
  subst hQ
  obtain ⟨hx, hb, hml, hown, hts⟩ := id hC
  have w1 := hW.2.1
  have hn1 : 1000 ≤ n := by omega
  intro G V H locs ls hRS hP hD hS hl
  refine lv_iload hx hb dL_act_167 (lv_at hl 1 rfl) ?_
  refine lv_if_ne (tgt := 177) hx hb dL_act_169 (by decide) (fun k9 => ?_) (fun k9 => ?_)
  · replace k9 : ¬ nI (s9 4) = nI 0 := k9
    rw [kl_eq (by omega) (by omega)] at k9
    refine lv_aload_n hx hb dL_act_177 rfl (lv_at hl 4 rfl) ?_
    refine lv_iload_n hx hb dL_act_178 rfl (lv_at hl 3 rfl) ?_
    refine lv_iload hx hb dL_act_179 (lv_at hl 1 rfl) ?_
    refine kr_S (w' := fun _ : Unit => (w_F g a G ++ w_H g (a 0 2) h V)) (As := [.int (kCell xs L (q9 + 1)), .int (nI (s9 4))]) (rest := [.ref (a 0 0)]) hC (sL_low l g (kCell xs L (q9 + 1)) (s9 4) (by omega) (by omega)) (va_cwS 2 hts gL_act_L_low rfl rfl rfl (by decide +kernel) ⟨Nat.le_of_ble_eq_true rfl, Nat.le_of_ble_eq_true rfl⟩) hK hP hD hS hA [] rfl rfl (fun _ => rfl) (fun _ => rfl) rfl rfl hl.1 (Nat.le_of_ble_eq_true rfl) dL_act_181 ⟨Nat.le_of_ble_eq_true rfl, Nat.le_of_ble_eq_true rfl⟩ (fun r9 u9 H locs hr9 hP hD hS => ?_)
    obtain rfl : r9 = nI (kLow (kCell xs L (q9 + 1)) (s9 4)) := hr9
    have hk184 := kLow_lt (kCell xs L (q9 + 1)) (m := s9 4) (by omega)
    obtain ⟨z1, G1, V2, s1, c1, e3, hz1, hRS1, hk1⟩ := a_remove hn1 hRS (j := kLow (kCell xs L (q9 + 1)) (s9 4)) (by omega)
    refine kk_call_Vi (w' := (w_F g a G1 ++ w_H g (a 0 2) h V2)) (As := [.int (nI (kLow (kCell xs L (q9 + 1)) (s9 4)))]) (rest := []) 0 4 hC (sX4_remove l g n a h G V (nI (kLow (kCell xs L (q9 + 1)) (s9 4))) (nI z1, G1, V2) e3) (cwV 1 hts gL_act_X4_remove rfl rfl rfl (by decide +kernel) ⟨Nat.le_of_ble_eq_true rfl, Nat.le_of_ble_eq_true rfl⟩) hK hP hD hS hA (List.range 86) (kk_m0 86 rfl rfl) (by decide +kernel) rfl (kk_s0 86 rfl rfl rfl) rfl rfl rfl rfl rfl hl.1 (Nat.le_of_ble_eq_true rfl) dL_act_184 (fun H locs hP hD hS => ?_)
    exact ka_ret (wf := wfA g a h) (post := actP (kLow (kCell xs L q9) 18) s9 c9) (G1, V2) hC hr hlocks hK hP hD hS (by decide) (by decide) dL_act_187 ⟨s1, c1, hRS1, .inr ⟨z1, hz1, rfl, fun h7 h8 => absurd h7 (by omega), fun h7 => absurd h7 (by omega)⟩⟩
  · skip
    refine lv_bipush (v := (-3 : Int32)) hx hb dL_act_172 (by decide) ?_
    refine lv_goto (tgt := 187) hx hb dL_act_174 (by decide) ?_
    exact ka_ret (wf := wfA g a h) (post := actP (kLow (kCell xs L q9) 18) s9 c9) (G, V) hC hr hlocks hK hP hD hS (by decide) (by decide) dL_act_187 ⟨s9, c9, hRS, .inl ⟨rfl, rfl, rfl⟩⟩
set_option maxHeartbeats 8000000 in
set_option maxRecDepth 100000 in
theorem kA_move (hn : 300000 ≤ n) (hst : l.stackTraces = false) (hC : CallFix p m c cL_act 7 s args wsL_act RL) (hr : meth.sig.returnType = some .int) (hlocks : meth.locks = false) (hK : va_K g.1 vwCl (kT g) s) (hG : k_Gs A s s.heap) (hA : ∀ q, s.heap.size ≤ q → A q) (hQ : Q = vx_MQ below (kQe g (wfA g a h) (actP (kLow (kCell xs L q9) 18) s9 c9) A) kXN args s 1 6 A) (hW : WF s9) (ht : 7 ≤ kLow (kCell xs L q9) 18 ∧ kLow (kCell xs L q9) 18 ≤ 8) : kA_J p l e s m args below meth c Q g A a h s9 c9 188 [(6, .int (nI (kLow (kCell xs L (q9 + 2)) 4))), (5, .int (nI (s9 4))), (4, .int (kCell xs L (q9 + 2))), (3, .int (kCell xs L (q9 + 1))), (0, .ref (a 0 0))] := by
  subst hQ
  obtain ⟨hx, hb, hml, hown, hts⟩ := id hC
  have w1 := hW.2.1
  have hn1 : 1000 ≤ n := by omega
  intro G V H locs ls hRS hP hD hS hl
  refine lv_iload hx hb dL_act_188 (lv_at hl 1 rfl) ?_
  refine lv_if_ne (tgt := 198) hx hb dL_act_190 (by decide) (fun k9 => ?_) (fun k9 => ?_)
  · replace k9 : ¬ nI (s9 4) = nI 0 := k9
    rw [kl_eq (by omega) (by omega)] at k9
    refine lv_aload_n hx hb dL_act_198 rfl (lv_at hl 4 rfl) ?_
    refine lv_iload_n hx hb dL_act_199 rfl (lv_at hl 3 rfl) ?_
    refine lv_iload hx hb dL_act_200 (lv_at hl 1 rfl) ?_
    refine kr_S (w' := fun _ : Unit => (w_F g a G ++ w_H g (a 0 2) h V)) (As := [.int (kCell xs L (q9 + 1)), .int (nI (s9 4))]) (rest := [.ref (a 0 0)]) hC (sL_low l g (kCell xs L (q9 + 1)) (s9 4) (by omega) (by omega)) (va_cwS 2 hts gL_act_L_low rfl rfl rfl (by decide +kernel) ⟨Nat.le_of_ble_eq_true rfl, Nat.le_of_ble_eq_true rfl⟩) hK hP hD hS hA [] rfl rfl (fun _ => rfl) (fun _ => rfl) rfl rfl hl.1 (Nat.le_of_ble_eq_true rfl) dL_act_202 ⟨Nat.le_of_ble_eq_true rfl, Nat.le_of_ble_eq_true rfl⟩ (fun r9 u9 H locs hr9 hP hD hS => ?_)
    obtain rfl : r9 = nI (kLow (kCell xs L (q9 + 1)) (s9 4)) := hr9
    have hk205 := kLow_lt (kCell xs L (q9 + 1)) (m := s9 4) (by omega)
    refine lv_iload hx hb dL_act_205 (lv_at hl 2 rfl) ?_
    refine lv_iload hx hb dL_act_207 (lv_at hl 1 rfl) ?_
    refine kr_S (w' := fun _ : Unit => (w_F g a G ++ w_H g (a 0 2) h V)) (As := [.int (kCell xs L (q9 + 2)), .int (nI (s9 4))]) (rest := [.int (nI (kLow (kCell xs L (q9 + 1)) (s9 4))), .ref (a 0 0)]) hC (sL_low l g (kCell xs L (q9 + 2)) (s9 4) (by omega) (by omega)) (va_cwS 2 hts gL_act_L_low rfl rfl rfl (by decide +kernel) ⟨Nat.le_of_ble_eq_true rfl, Nat.le_of_ble_eq_true rfl⟩) hK hP hD hS hA [] rfl rfl (fun _ => rfl) (fun _ => rfl) rfl rfl hl.1 (Nat.le_of_ble_eq_true rfl) dL_act_209 ⟨Nat.le_of_ble_eq_true rfl, Nat.le_of_ble_eq_true rfl⟩ (fun r9 u9 H locs hr9 hP hD hS => ?_)
    obtain rfl : r9 = nI (kLow (kCell xs L (q9 + 2)) (s9 4)) := hr9
    have hk212 := kLow_lt (kCell xs L (q9 + 2)) (m := s9 4) (by omega)
    obtain ⟨z1, G1, V2, s1, c1, e3, hz1, hRS1, hk1⟩ := a_move hn1 hRS (j := kLow (kCell xs L (q9 + 1)) (s9 4)) (k := kLow (kCell xs L (q9 + 2)) (s9 4)) (by omega) (by omega)
    refine kk_call_Vi (w' := (w_F g a G1 ++ w_H g (a 0 2) h V2)) (As := [.int (nI (kLow (kCell xs L (q9 + 1)) (s9 4))), .int (nI (kLow (kCell xs L (q9 + 2)) (s9 4)))]) (rest := []) 0 4 hC (sX4_move l g n a h G V (nI (kLow (kCell xs L (q9 + 1)) (s9 4))) (nI (kLow (kCell xs L (q9 + 2)) (s9 4))) (nI z1, G1, V2) e3) (cwV 2 hts gL_act_X4_move rfl rfl rfl (by decide +kernel) ⟨Nat.le_of_ble_eq_true rfl, Nat.le_of_ble_eq_true rfl⟩) hK hP hD hS hA (List.range 86) (kk_m0 86 rfl rfl) (by decide +kernel) rfl (kk_s0 86 rfl rfl rfl) rfl rfl rfl rfl rfl hl.1 (Nat.le_of_ble_eq_true rfl) dL_act_212 (fun H locs hP hD hS => ?_)
    exact ka_ret (wf := wfA g a h) (post := actP (kLow (kCell xs L q9) 18) s9 c9) (G1, V2) hC hr hlocks hK hP hD hS (by decide) (by decide) dL_act_215 ⟨s1, c1, hRS1, .inr ⟨z1, hz1, rfl, fun _ _ => hk1, fun h7 => absurd h7 (by omega)⟩⟩
  · skip
    refine lv_bipush (v := (-3 : Int32)) hx hb dL_act_193 (by decide) ?_
    refine lv_goto (tgt := 215) hx hb dL_act_195 (by decide) ?_
    exact ka_ret (wf := wfA g a h) (post := actP (kLow (kCell xs L q9) 18) s9 c9) (G, V) hC hr hlocks hK hP hD hS (by decide) (by decide) dL_act_215 ⟨s9, c9, hRS, .inl ⟨rfl, rfl, rfl⟩⟩
set_option maxHeartbeats 8000000 in
set_option maxRecDepth 100000 in
theorem kA_exchange (hn : 300000 ≤ n) (hst : l.stackTraces = false) (hC : CallFix p m c cL_act 7 s args wsL_act RL) (hr : meth.sig.returnType = some .int) (hlocks : meth.locks = false) (hK : va_K g.1 vwCl (kT g) s) (hG : k_Gs A s s.heap) (hA : ∀ q, s.heap.size ≤ q → A q) (hQ : Q = vx_MQ below (kQe g (wfA g a h) (actP (kLow (kCell xs L q9) 18) s9 c9) A) kXN args s 1 6 A) (hW : WF s9) (ht : kLow (kCell xs L q9) 18 = 9) : kA_J p l e s m args below meth c Q g A a h s9 c9 216 [(6, .int (nI (kLow (kCell xs L (q9 + 2)) 4))), (5, .int (nI (s9 4))), (4, .int (kCell xs L (q9 + 2))), (3, .int (kCell xs L (q9 + 1))), (0, .ref (a 0 0))] := by
  subst hQ
  obtain ⟨hx, hb, hml, hown, hts⟩ := id hC
  have w1 := hW.2.1
  have hn1 : 1000 ≤ n := by omega
  intro G V H locs ls hRS hP hD hS hl
  refine lv_iload hx hb dL_act_216 (lv_at hl 1 rfl) ?_
  refine lv_if_ne (tgt := 226) hx hb dL_act_218 (by decide) (fun k9 => ?_) (fun k9 => ?_)
  · replace k9 : ¬ nI (s9 4) = nI 0 := k9
    rw [kl_eq (by omega) (by omega)] at k9
    refine lv_aload_n hx hb dL_act_226 rfl (lv_at hl 4 rfl) ?_
    refine lv_iload_n hx hb dL_act_227 rfl (lv_at hl 3 rfl) ?_
    refine lv_iload hx hb dL_act_228 (lv_at hl 1 rfl) ?_
    refine kr_S (w' := fun _ : Unit => (w_F g a G ++ w_H g (a 0 2) h V)) (As := [.int (kCell xs L (q9 + 1)), .int (nI (s9 4))]) (rest := [.ref (a 0 0)]) hC (sL_low l g (kCell xs L (q9 + 1)) (s9 4) (by omega) (by omega)) (va_cwS 2 hts gL_act_L_low rfl rfl rfl (by decide +kernel) ⟨Nat.le_of_ble_eq_true rfl, Nat.le_of_ble_eq_true rfl⟩) hK hP hD hS hA [] rfl rfl (fun _ => rfl) (fun _ => rfl) rfl rfl hl.1 (Nat.le_of_ble_eq_true rfl) dL_act_230 ⟨Nat.le_of_ble_eq_true rfl, Nat.le_of_ble_eq_true rfl⟩ (fun r9 u9 H locs hr9 hP hD hS => ?_)
    obtain rfl : r9 = nI (kLow (kCell xs L (q9 + 1)) (s9 4)) := hr9
    have hk233 := kLow_lt (kCell xs L (q9 + 1)) (m := s9 4) (by omega)
    refine lv_iload hx hb dL_act_233 (lv_at hl 2 rfl) ?_
    refine lv_iload hx hb dL_act_235 (lv_at hl 1 rfl) ?_
    refine kr_S (w' := fun _ : Unit => (w_F g a G ++ w_H g (a 0 2) h V)) (As := [.int (kCell xs L (q9 + 2)), .int (nI (s9 4))]) (rest := [.int (nI (kLow (kCell xs L (q9 + 1)) (s9 4))), .ref (a 0 0)]) hC (sL_low l g (kCell xs L (q9 + 2)) (s9 4) (by omega) (by omega)) (va_cwS 2 hts gL_act_L_low rfl rfl rfl (by decide +kernel) ⟨Nat.le_of_ble_eq_true rfl, Nat.le_of_ble_eq_true rfl⟩) hK hP hD hS hA [] rfl rfl (fun _ => rfl) (fun _ => rfl) rfl rfl hl.1 (Nat.le_of_ble_eq_true rfl) dL_act_237 ⟨Nat.le_of_ble_eq_true rfl, Nat.le_of_ble_eq_true rfl⟩ (fun r9 u9 H locs hr9 hP hD hS => ?_)
    obtain rfl : r9 = nI (kLow (kCell xs L (q9 + 2)) (s9 4)) := hr9
    have hk240 := kLow_lt (kCell xs L (q9 + 2)) (m := s9 4) (by omega)
    obtain ⟨z1, G1, V2, s1, c1, e3, hz1, hRS1, hk1⟩ := a_exchange hn1 hRS (j := kLow (kCell xs L (q9 + 1)) (s9 4)) (k := kLow (kCell xs L (q9 + 2)) (s9 4)) (by omega) (by omega)
    refine kk_call_Vi (w' := (w_F g a G1 ++ w_H g (a 0 2) h V2)) (As := [.int (nI (kLow (kCell xs L (q9 + 1)) (s9 4))), .int (nI (kLow (kCell xs L (q9 + 2)) (s9 4)))]) (rest := []) 0 4 hC (sX4_exchange l g n a h G V (nI (kLow (kCell xs L (q9 + 1)) (s9 4))) (nI (kLow (kCell xs L (q9 + 2)) (s9 4))) (nI z1, G1, V2) e3) (cwV 2 hts gL_act_X4_exchange rfl rfl rfl (by decide +kernel) ⟨Nat.le_of_ble_eq_true rfl, Nat.le_of_ble_eq_true rfl⟩) hK hP hD hS hA (List.range 86) (kk_m0 86 rfl rfl) (by decide +kernel) rfl (kk_s0 86 rfl rfl rfl) rfl rfl rfl rfl rfl hl.1 (Nat.le_of_ble_eq_true rfl) dL_act_240 (fun H locs hP hD hS => ?_)
    exact ka_ret (wf := wfA g a h) (post := actP (kLow (kCell xs L q9) 18) s9 c9) (G1, V2) hC hr hlocks hK hP hD hS (by decide) (by decide) dL_act_243 ⟨s1, c1, hRS1, .inr ⟨z1, hz1, rfl, fun _ _ => hk1, fun h7 => absurd h7 (by omega)⟩⟩
  · skip
    refine lv_bipush (v := (-3 : Int32)) hx hb dL_act_221 (by decide) ?_
    refine lv_goto (tgt := 243) hx hb dL_act_223 (by decide) ?_
    exact ka_ret (wf := wfA g a h) (post := actP (kLow (kCell xs L q9) 18) s9 c9) (G, V) hC hr hlocks hK hP hD hS (by decide) (by decide) dL_act_243 ⟨s9, c9, hRS, .inl ⟨rfl, rfl, rfl⟩⟩
set_option maxHeartbeats 8000000 in
set_option maxRecDepth 100000 in
theorem kA_fold (hn : 300000 ≤ n) (hst : l.stackTraces = false) (hC : CallFix p m c cL_act 7 s args wsL_act RL) (hr : meth.sig.returnType = some .int) (hlocks : meth.locks = false) (hK : va_K g.1 vwCl (kT g) s) (hG : k_Gs A s s.heap) (hA : ∀ q, s.heap.size ≤ q → A q) (hQ : Q = vx_MQ below (kQe g (wfA g a h) (actP (kLow (kCell xs L q9) 18) s9 c9) A) kXN args s 1 6 A) (hW : WF s9) (ht : 10 ≤ kLow (kCell xs L q9) 18 ∧ kLow (kCell xs L q9) 18 ≤ 11) : kA_J p l e s m args below meth c Q g A a h s9 c9 244 [(6, .int (nI (kLow (kCell xs L (q9 + 2)) 4))), (5, .int (nI (s9 4))), (4, .int (kCell xs L (q9 + 2))), (3, .int (kCell xs L (q9 + 1))), (0, .ref (a 0 0))] := by
  subst hQ
  obtain ⟨hx, hb, hml, hown, hts⟩ := id hC
  have w1 := hW.2.1
  have hn1 : 1000 ≤ n := by omega
  intro G V H locs ls hRS hP hD hS hl
  refine lv_iload hx hb dL_act_244 (lv_at hl 1 rfl) ?_
  refine lv_if_ne (tgt := 254) hx hb dL_act_246 (by decide) (fun k9 => ?_) (fun k9 => ?_)
  · replace k9 : ¬ nI (s9 4) = nI 0 := k9
    rw [kl_eq (by omega) (by omega)] at k9
    refine lv_aload_n hx hb dL_act_254 rfl (lv_at hl 4 rfl) ?_
    refine lv_iload_n hx hb dL_act_255 rfl (lv_at hl 3 rfl) ?_
    refine lv_iload hx hb dL_act_256 (lv_at hl 1 rfl) ?_
    refine kr_S (w' := fun _ : Unit => (w_F g a G ++ w_H g (a 0 2) h V)) (As := [.int (kCell xs L (q9 + 1)), .int (nI (s9 4))]) (rest := [.ref (a 0 0)]) hC (sL_low l g (kCell xs L (q9 + 1)) (s9 4) (by omega) (by omega)) (va_cwS 2 hts gL_act_L_low rfl rfl rfl (by decide +kernel) ⟨Nat.le_of_ble_eq_true rfl, Nat.le_of_ble_eq_true rfl⟩) hK hP hD hS hA [] rfl rfl (fun _ => rfl) (fun _ => rfl) rfl rfl hl.1 (Nat.le_of_ble_eq_true rfl) dL_act_258 ⟨Nat.le_of_ble_eq_true rfl, Nat.le_of_ble_eq_true rfl⟩ (fun r9 u9 H locs hr9 hP hD hS => ?_)
    obtain rfl : r9 = nI (kLow (kCell xs L (q9 + 1)) (s9 4)) := hr9
    have hk261 := kLow_lt (kCell xs L (q9 + 1)) (m := s9 4) (by omega)
    refine lv_iload hx hb dL_act_261 (lv_at hl 2 rfl) ?_
    refine lv_iconst (v := nI 3) hx hb dL_act_263 (by decide) ?_
    refine kr_S (w' := fun _ : Unit => (w_F g a G ++ w_H g (a 0 2) h V)) (As := [.int (kCell xs L (q9 + 2)), .int (nI 3)]) (rest := [.int (nI (kLow (kCell xs L (q9 + 1)) (s9 4))), .ref (a 0 0)]) hC (sL_low l g (kCell xs L (q9 + 2)) 3 (by omega) (by omega)) (va_cwS 2 hts gL_act_L_low rfl rfl rfl (by decide +kernel) ⟨Nat.le_of_ble_eq_true rfl, Nat.le_of_ble_eq_true rfl⟩) hK hP hD hS hA [] rfl rfl (fun _ => rfl) (fun _ => rfl) rfl rfl hl.1 (Nat.le_of_ble_eq_true rfl) dL_act_264 ⟨Nat.le_of_ble_eq_true rfl, Nat.le_of_ble_eq_true rfl⟩ (fun r9 u9 H locs hr9 hP hD hS => ?_)
    obtain rfl : r9 = nI (kLow (kCell xs L (q9 + 2)) 3) := hr9
    have hk267 := kLow_lt (kCell xs L (q9 + 2)) (m := 3) (by omega)
    refine lv_if_le (tgt := 274) hx hb dL_act_267 (by decide) (fun c8 => ?_) (fun c8 => ?_)
    · replace c8 : nI (kLow (kCell xs L (q9 + 2)) 3) ≤ nI (0) := c8
      rw [kl_le (by omega) (by omega)] at c8
      refine lv_iconst (v := nI 0) hx hb dL_act_274 (by decide) ?_
      obtain ⟨z1, G1, V2, s1, c1, e3, hz1, hRS1, hk1⟩ := a_fold (x := 0) (by omega) hn1 hRS (j := kLow (kCell xs L (q9 + 1)) (s9 4)) (by omega)
      refine kk_call_Vi (w' := (w_F g a G1 ++ w_H g (a 0 2) h V2)) (As := [.int (nI (kLow (kCell xs L (q9 + 1)) (s9 4))), .int (nI 0)]) (rest := []) 0 4 hC (sX4_fold l g n a h G V (nI (kLow (kCell xs L (q9 + 1)) (s9 4))) (nI 0) (nI z1, G1, V2) e3) (cwV 2 hts gL_act_X4_fold rfl rfl rfl (by decide +kernel) ⟨Nat.le_of_ble_eq_true rfl, Nat.le_of_ble_eq_true rfl⟩) hK hP hD hS hA (List.range 86) (kk_m0 86 rfl rfl) (by decide +kernel) rfl (kk_s0 86 rfl rfl rfl) rfl rfl rfl rfl rfl hl.1 (Nat.le_of_ble_eq_true rfl) dL_act_275 (fun H locs hP hD hS => ?_)
      exact ka_ret (wf := wfA g a h) (post := actP (kLow (kCell xs L q9) 18) s9 c9) (G1, V2) hC hr hlocks hK hP hD hS (by decide) (by decide) dL_act_278 ⟨s1, c1, hRS1, .inr ⟨z1, hz1, rfl, fun h7 h8 => absurd h8 (by omega), fun h7 => absurd h7 (by omega)⟩⟩
    · replace c8 : ¬ nI (kLow (kCell xs L (q9 + 2)) 3) ≤ nI (0) := c8
      rw [kl_le (by omega) (by omega)] at c8
      refine lv_iconst (v := nI 1) hx hb dL_act_270 (by decide) ?_
      refine lv_goto (tgt := 275) hx hb dL_act_271 (by decide) ?_
      obtain ⟨z1, G1, V2, s1, c1, e3, hz1, hRS1, hk1⟩ := a_fold (x := 1) (by omega) hn1 hRS (j := kLow (kCell xs L (q9 + 1)) (s9 4)) (by omega)
      refine kk_call_Vi (w' := (w_F g a G1 ++ w_H g (a 0 2) h V2)) (As := [.int (nI (kLow (kCell xs L (q9 + 1)) (s9 4))), .int (nI 1)]) (rest := []) 0 4 hC (sX4_fold l g n a h G V (nI (kLow (kCell xs L (q9 + 1)) (s9 4))) (nI 1) (nI z1, G1, V2) e3) (cwV 2 hts gL_act_X4_fold rfl rfl rfl (by decide +kernel) ⟨Nat.le_of_ble_eq_true rfl, Nat.le_of_ble_eq_true rfl⟩) hK hP hD hS hA (List.range 86) (kk_m0 86 rfl rfl) (by decide +kernel) rfl (kk_s0 86 rfl rfl rfl) rfl rfl rfl rfl rfl hl.1 (Nat.le_of_ble_eq_true rfl) dL_act_275 (fun H locs hP hD hS => ?_)
      exact ka_ret (wf := wfA g a h) (post := actP (kLow (kCell xs L q9) 18) s9 c9) (G1, V2) hC hr hlocks hK hP hD hS (by decide) (by decide) dL_act_278 ⟨s1, c1, hRS1, .inr ⟨z1, hz1, rfl, fun h7 h8 => absurd h8 (by omega), fun h7 => absurd h7 (by omega)⟩⟩
  · skip
    refine lv_bipush (v := (-3 : Int32)) hx hb dL_act_249 (by decide) ?_
    refine lv_goto (tgt := 278) hx hb dL_act_251 (by decide) ?_
    exact ka_ret (wf := wfA g a h) (post := actP (kLow (kCell xs L q9) 18) s9 c9) (G, V) hC hr hlocks hK hP hD hS (by decide) (by decide) dL_act_278 ⟨s9, c9, hRS, .inl ⟨rfl, rfl, rfl⟩⟩
set_option maxHeartbeats 8000000 in
set_option maxRecDepth 100000 in
theorem kA_arrange (hn : 300000 ≤ n) (hst : l.stackTraces = false) (hC : CallFix p m c cL_act 7 s args wsL_act RL) (hr : meth.sig.returnType = some .int) (hlocks : meth.locks = false) (hK : va_K g.1 vwCl (kT g) s) (hG : k_Gs A s s.heap) (hA : ∀ q, s.heap.size ≤ q → A q) (hQ : Q = vx_MQ below (kQe g (wfA g a h) (actP (kLow (kCell xs L q9) 18) s9 c9) A) kXN args s 1 6 A) (hW : WF s9) (ht : kLow (kCell xs L q9) 18 = 12) : kA_J p l e s m args below meth c Q g A a h s9 c9 279 [(6, .int (nI (kLow (kCell xs L (q9 + 2)) 4))), (5, .int (nI (s9 4))), (4, .int (kCell xs L (q9 + 2))), (3, .int (kCell xs L (q9 + 1))), (0, .ref (a 0 0))] := by
  subst hQ
  obtain ⟨hx, hb, hml, hown, hts⟩ := id hC
  have w1 := hW.2.1
  have hn1 : 1000 ≤ n := by omega
  intro G V H locs ls hRS hP hD hS hl
  refine lv_iload_n hx hb dL_act_279 rfl (lv_at hl 3 rfl) ?_
  refine lv_iconst (v := nI 3) hx hb dL_act_280 (by decide) ?_
  refine kr_S (w' := fun _ : Unit => (w_F g a G ++ w_H g (a 0 2) h V)) (As := [.int (kCell xs L (q9 + 1)), .int (nI 3)]) (rest := []) hC (sL_low l g (kCell xs L (q9 + 1)) 3 (by omega) (by omega)) (va_cwS 2 hts gL_act_L_low rfl rfl rfl (by decide +kernel) ⟨Nat.le_of_ble_eq_true rfl, Nat.le_of_ble_eq_true rfl⟩) hK hP hD hS hA [] rfl rfl (fun _ => rfl) (fun _ => rfl) rfl rfl hl.1 (Nat.le_of_ble_eq_true rfl) dL_act_281 ⟨Nat.le_of_ble_eq_true rfl, Nat.le_of_ble_eq_true rfl⟩ (fun r9 u9 H locs hr9 hP hD hS => ?_)
  obtain rfl : r9 = nI (kLow (kCell xs L (q9 + 1)) 3) := hr9
  have hk284 := kLow_lt (kCell xs L (q9 + 1)) (m := 3) (by omega)
  refine lv_if_ne (tgt := 294) hx hb dL_act_284 (by decide) (fun k9 => ?_) (fun k9 => ?_)
  · replace k9 : ¬ nI (kLow (kCell xs L (q9 + 1)) 3) = nI (0) := k9
    rw [kl_eq (by omega) (by omega)] at k9
    refine lv_iconst (v := nI 0) hx hb dL_act_294 (by decide) ?_
    exact ka_ret (wf := wfA g a h) (post := actP (kLow (kCell xs L q9) 18) s9 c9) (G, V) hC hr hlocks hK hP hD hS (by decide) (by decide) dL_act_295 ⟨s9, c9, hRS, .inr ⟨0, by omega, rfl, fun h7 h8 => absurd h8 (by omega), fun _ => Nat.le_refl _⟩⟩
  · replace k9 : nI (kLow (kCell xs L (q9 + 1)) 3) = nI (0) := k9
    rw [kl_eq (by omega) (by omega)] at k9
    refine lv_aload_n hx hb dL_act_287 rfl (lv_at hl 4 rfl) ?_
    obtain ⟨z1, G1, V2, s1, c1, e3, hz0, hRS1, hk1⟩ := a_arrange hn hRS
    refine kk_call_Vi (w' := (w_F g a G1 ++ w_H g (a 0 2) h V2)) (As := []) (rest := []) 0 4 hC (sX4_arrange l g n a h G V (nI z1, G1, V2) e3) (cwV 0 hts gL_act_X4_arrange rfl rfl rfl (by decide +kernel) ⟨Nat.le_of_ble_eq_true rfl, Nat.le_of_ble_eq_true rfl⟩) hK hP hD hS hA (List.range 86) (kk_m0 86 rfl rfl) (by decide +kernel) rfl (kk_s0 86 rfl rfl rfl) rfl rfl rfl rfl rfl hl.1 (Nat.le_of_ble_eq_true rfl) dL_act_288 (fun H locs hP hD hS => ?_)
    have hz1 : z1 < 2000000 := by omega
    refine lv_goto (tgt := 295) hx hb dL_act_291 (by decide) ?_
    exact ka_ret (wf := wfA g a h) (post := actP (kLow (kCell xs L q9) 18) s9 c9) (G1, V2) hC hr hlocks hK hP hD hS (by decide) (by decide) dL_act_295 ⟨s1, c1, hRS1, .inr ⟨z1, hz1, rfl, fun h7 h8 => absurd h8 (by omega), fun _ => hk1⟩⟩
set_option maxHeartbeats 8000000 in
set_option maxRecDepth 100000 in
theorem kA_bridge (hn : 300000 ≤ n) (hst : l.stackTraces = false) (hC : CallFix p m c cL_act 7 s args wsL_act RL) (hr : meth.sig.returnType = some .int) (hlocks : meth.locks = false) (hK : va_K g.1 vwCl (kT g) s) (hG : k_Gs A s s.heap) (hA : ∀ q, s.heap.size ≤ q → A q) (hQ : Q = vx_MQ below (kQe g (wfA g a h) (actP (kLow (kCell xs L q9) 18) s9 c9) A) kXN args s 1 6 A) (hW : WF s9) (ht : 13 ≤ kLow (kCell xs L q9) 18 ∧ kLow (kCell xs L q9) 18 ≤ 14) : kA_J p l e s m args below meth c Q g A a h s9 c9 296 [(6, .int (nI (kLow (kCell xs L (q9 + 2)) 4))), (5, .int (nI (s9 4))), (4, .int (kCell xs L (q9 + 2))), (3, .int (kCell xs L (q9 + 1))), (0, .ref (a 0 0))] := by
  subst hQ
  obtain ⟨hx, hb, hml, hown, hts⟩ := id hC
  have w1 := hW.2.1
  have hn1 : 1000 ≤ n := by omega
  intro G V H locs ls hRS hP hD hS hl
  refine lv_aload_n hx hb dL_act_296 rfl (lv_at hl 4 rfl) ?_
  refine lv_iconst (v := nI 1) hx hb dL_act_297 (by decide) ?_
  refine lv_iload_n hx hb dL_act_298 rfl (lv_at hl 3 rfl) ?_
  refine lv_bipush (v := nI 50) hx hb dL_act_299 (by decide) ?_
  refine kr_S (w' := fun _ : Unit => (w_F g a G ++ w_H g (a 0 2) h V)) (As := [.int (kCell xs L (q9 + 1)), .int (nI 50)]) (rest := [.int (nI 1), .ref (a 0 0)]) hC (sL_low l g (kCell xs L (q9 + 1)) 50 (by omega) (by omega)) (va_cwS 2 hts gL_act_L_low rfl rfl rfl (by decide +kernel) ⟨Nat.le_of_ble_eq_true rfl, Nat.le_of_ble_eq_true rfl⟩) hK hP hD hS hA [] rfl rfl (fun _ => rfl) (fun _ => rfl) rfl rfl hl.1 (Nat.le_of_ble_eq_true rfl) dL_act_301 ⟨Nat.le_of_ble_eq_true rfl, Nat.le_of_ble_eq_true rfl⟩ (fun r9 u9 H locs hr9 hP hD hS => ?_)
  obtain rfl : r9 = nI (kLow (kCell xs L (q9 + 1)) 50) := hr9
  have hk304 := kLow_lt (kCell xs L (q9 + 1)) (m := 50) (by omega)
  refine lv_iadd hx hb dL_act_304 ?_
  refine kk_nmi (x := nI (1 + (kLow (kCell xs L (q9 + 1)) 50))) ((nI_add _ _).symm) ?_
  refine lv_bipush (v := nI 10) hx hb dL_act_305 (by decide) ?_
  refine lv_iload hx hb dL_act_307 (lv_at hl 2 rfl) ?_
  refine lv_bipush (v := nI 90) hx hb dL_act_309 (by decide) ?_
  refine kr_S (w' := fun _ : Unit => (w_F g a G ++ w_H g (a 0 2) h V)) (As := [.int (kCell xs L (q9 + 2)), .int (nI 90)]) (rest := [.int (nI 10), .int (nI (1 + (kLow (kCell xs L (q9 + 1)) 50))), .ref (a 0 0)]) hC (sL_low l g (kCell xs L (q9 + 2)) 90 (by omega) (by omega)) (va_cwS 2 hts gL_act_L_low rfl rfl rfl (by decide +kernel) ⟨Nat.le_of_ble_eq_true rfl, Nat.le_of_ble_eq_true rfl⟩) hK hP hD hS hA [] rfl rfl (fun _ => rfl) (fun _ => rfl) rfl rfl hl.1 (Nat.le_of_ble_eq_true rfl) dL_act_311 ⟨Nat.le_of_ble_eq_true rfl, Nat.le_of_ble_eq_true rfl⟩ (fun r9 u9 H locs hr9 hP hD hS => ?_)
  obtain rfl : r9 = nI (kLow (kCell xs L (q9 + 2)) 90) := hr9
  have hk314 := kLow_lt (kCell xs L (q9 + 2)) (m := 90) (by omega)
  refine lv_iadd hx hb dL_act_314 ?_
  refine kk_nmi (x := nI (10 + (kLow (kCell xs L (q9 + 2)) 90))) ((nI_add _ _).symm) ?_
  rcases a_bridge (d := 1 + (kLow (kCell xs L (q9 + 1)) 50)) (b := 10 + (kLow (kCell xs L (q9 + 2)) 90)) hn1 hRS (by omega) (by omega) (by omega) (by omega) with e1 | ⟨z1, G1, V1, s1, c1, e1, hz1, hRS1, -⟩
  · refine kr_wrap (w' := fun _ : Unit => (w_F g a G ++ w_H g (a 0 2) h V)) (As := [.ref (a 0 0), .int (nI (1 + (kLow (kCell xs L (q9 + 1)) 50))), .int (nI (10 + (kLow (kCell xs L (q9 + 2)) 90)))]) (rest := []) hC (sL_bridge_t l hst g n a h G V (nI (1 + (kLow (kCell xs L (q9 + 1)) 50))) (nI (10 + (kLow (kCell xs L (q9 + 2)) 90))) e1) (vx_cwSW 3 hts gL_act_L_bridge rfl rfl rfl (by decide +kernel) ⟨Nat.le_of_ble_eq_true rfl, Nat.le_of_ble_eq_true rfl⟩) hK hG hP hD hS hA (List.range 86) (kk_m0 86 rfl rfl) (by decide +kernel) (fun _ => rfl) (fun _ => kk_s0 86 rfl rfl rfl) rfl rfl hl.1 (Nat.le_of_ble_eq_true rfl) dL_act_315 ⟨Nat.le_of_ble_eq_true rfl, Nat.le_of_ble_eq_true rfl⟩ (fun r9 u9 H locs hr9 hP hD hS => ?_)
    obtain rfl : r9 = -3 := hr9
    exact ka_ret (wf := wfA g a h) (post := actP (kLow (kCell xs L q9) 18) s9 c9) (G, V) hC hr hlocks hK hP hD hS (by decide) (by decide) dL_act_318 ⟨s9, c9, hRS, .inl ⟨rfl, rfl, rfl⟩⟩
  · refine kr_wrap (w' := fun _ : Unit => (w_F g a G1 ++ w_H g (a 0 2) h V1)) (As := [.ref (a 0 0), .int (nI (1 + (kLow (kCell xs L (q9 + 1)) 50))), .int (nI (10 + (kLow (kCell xs L (q9 + 2)) 90)))]) (rest := []) hC (sL_bridge l hst g n a h G V (nI (1 + (kLow (kCell xs L (q9 + 1)) 50))) (nI (10 + (kLow (kCell xs L (q9 + 2)) 90))) (nI z1, G1, V1) e1) (vx_cwSW 3 hts gL_act_L_bridge rfl rfl rfl (by decide +kernel) ⟨Nat.le_of_ble_eq_true rfl, Nat.le_of_ble_eq_true rfl⟩) hK hG hP hD hS hA (List.range 86) (kk_m0 86 rfl rfl) (by decide +kernel) (fun _ => rfl) (fun _ => kk_s0 86 rfl rfl rfl) rfl rfl hl.1 (Nat.le_of_ble_eq_true rfl) dL_act_315 ⟨Nat.le_of_ble_eq_true rfl, Nat.le_of_ble_eq_true rfl⟩ (fun r9 u9 H locs hr9 hP hD hS => ?_)
    obtain rfl : r9 = nI z1 := hr9
    exact ka_ret (wf := wfA g a h) (post := actP (kLow (kCell xs L q9) 18) s9 c9) (G1, V1) hC hr hlocks hK hP hD hS (by decide) (by decide) dL_act_318 ⟨s1, c1, hRS1, .inr ⟨z1, hz1, rfl, fun h7 h8 => absurd h8 (by omega), fun h7 => absurd h7 (by omega)⟩⟩
set_option maxHeartbeats 8000000 in
set_option maxRecDepth 100000 in
theorem kA_unbridge (hn : 300000 ≤ n) (hst : l.stackTraces = false) (hC : CallFix p m c cL_act 7 s args wsL_act RL) (hr : meth.sig.returnType = some .int) (hlocks : meth.locks = false) (hK : va_K g.1 vwCl (kT g) s) (hG : k_Gs A s s.heap) (hA : ∀ q, s.heap.size ≤ q → A q) (hQ : Q = vx_MQ below (kQe g (wfA g a h) (actP (kLow (kCell xs L q9) 18) s9 c9) A) kXN args s 1 6 A) (hW : WF s9) (ht : kLow (kCell xs L q9) 18 = 15) : kA_J p l e s m args below meth c Q g A a h s9 c9 319 [(6, .int (nI (kLow (kCell xs L (q9 + 2)) 4))), (5, .int (nI (s9 4))), (4, .int (kCell xs L (q9 + 2))), (3, .int (kCell xs L (q9 + 1))), (0, .ref (a 0 0))] := by
  subst hQ
  obtain ⟨hx, hb, hml, hown, hts⟩ := id hC
  have w1 := hW.2.1
  have hn1 : 1000 ≤ n := by omega
  intro G V H locs ls hRS hP hD hS hl
  refine lv_aload_n hx hb dL_act_319 rfl (lv_at hl 4 rfl) ?_
  refine lv_iconst (v := nI 1) hx hb dL_act_320 (by decide) ?_
  obtain ⟨G1, e2, hRS⟩ := l_c1 hn1 hRS
  refine kk_call_Vi (w' := (w_F g a G1 ++ w_H g (a 0 2) h V)) (As := [.int (nI 1)]) (rest := []) 0 4 hC (sX4_count l g n a h G V (nI 1) (nI (s9 5), G1) e2) (cwV 1 hts gL_act_X4_count rfl rfl rfl (by decide +kernel) ⟨Nat.le_of_ble_eq_true rfl, Nat.le_of_ble_eq_true rfl⟩) hK hP hD hS hA (List.range 86) (kk_m0 86 rfl rfl) (by decide +kernel) rfl (kk_s0 86 rfl rfl rfl) rfl rfl rfl rfl rfl hl.1 (Nat.le_of_ble_eq_true rfl) dL_act_321 (fun H locs hP hD hS => ?_)
  refine lv_if_ne (tgt := 332) hx hb dL_act_324 (by decide) (fun k9 => ?_) (fun k9 => ?_)
  · replace k9 : ¬ nI (s9 5) = nI 0 := k9
    rw [kl_eq (by omega) (by omega)] at k9
    refine lv_aload_n hx hb dL_act_332 rfl (lv_at hl 4 rfl) ?_
    refine lv_iload_n hx hb dL_act_333 rfl (lv_at hl 3 rfl) ?_
    refine lv_aload_n hx hb dL_act_334 rfl (lv_at hl 4 rfl) ?_
    refine lv_iconst (v := nI 1) hx hb dL_act_335 (by decide) ?_
    obtain ⟨G3, e4, hRS⟩ := l_c1 hn1 hRS
    refine kk_call_Vi (w' := (w_F g a G3 ++ w_H g (a 0 2) h V)) (As := [.int (nI 1)]) (rest := [.int (kCell xs L (q9 + 1)), .ref (a 0 0)]) 0 4 hC (sX4_count l g n a h G1 V (nI 1) (nI (s9 5), G3) e4) (cwV 1 hts gL_act_X4_count rfl rfl rfl (by decide +kernel) ⟨Nat.le_of_ble_eq_true rfl, Nat.le_of_ble_eq_true rfl⟩) hK hP hD hS hA (List.range 86) (kk_m0 86 rfl rfl) (by decide +kernel) rfl (kk_s0 86 rfl rfl rfl) rfl rfl rfl rfl rfl hl.1 (Nat.le_of_ble_eq_true rfl) dL_act_336 (fun H locs hP hD hS => ?_)
    refine kr_S (w' := fun _ : Unit => (w_F g a G3 ++ w_H g (a 0 2) h V)) (As := [.int (kCell xs L (q9 + 1)), .int (nI (s9 5))]) (rest := [.ref (a 0 0)]) hC (sL_low l g (kCell xs L (q9 + 1)) (s9 5) (by omega) (by omega)) (va_cwS 2 hts gL_act_L_low rfl rfl rfl (by decide +kernel) ⟨Nat.le_of_ble_eq_true rfl, Nat.le_of_ble_eq_true rfl⟩) hK hP hD hS hA [] rfl rfl (fun _ => rfl) (fun _ => rfl) rfl rfl hl.1 (Nat.le_of_ble_eq_true rfl) dL_act_339 ⟨Nat.le_of_ble_eq_true rfl, Nat.le_of_ble_eq_true rfl⟩ (fun r9 u9 H locs hr9 hP hD hS => ?_)
    obtain rfl : r9 = nI (kLow (kCell xs L (q9 + 1)) (s9 5)) := hr9
    have hk342 := kLow_lt (kCell xs L (q9 + 1)) (m := s9 5) (by omega)
    obtain ⟨z1, G5, V6, s1, c1, e7, hz1, hRS1, hk1⟩ := a_unbridge hn1 hRS (j := kLow (kCell xs L (q9 + 1)) (s9 5)) (by omega)
    refine kk_call_Vi (w' := (w_F g a G5 ++ w_H g (a 0 2) h V6)) (As := [.int (nI (kLow (kCell xs L (q9 + 1)) (s9 5)))]) (rest := []) 0 4 hC (sX4_unbridge l g n a h G3 V (nI (kLow (kCell xs L (q9 + 1)) (s9 5))) (nI z1, G5, V6) e7) (cwV 1 hts gL_act_X4_unbridge rfl rfl rfl (by decide +kernel) ⟨Nat.le_of_ble_eq_true rfl, Nat.le_of_ble_eq_true rfl⟩) hK hP hD hS hA (List.range 86) (kk_m0 86 rfl rfl) (by decide +kernel) rfl (kk_s0 86 rfl rfl rfl) rfl rfl rfl rfl rfl hl.1 (Nat.le_of_ble_eq_true rfl) dL_act_342 (fun H locs hP hD hS => ?_)
    exact ka_ret (wf := wfA g a h) (post := actP (kLow (kCell xs L q9) 18) s9 c9) (G5, V6) hC hr hlocks hK hP hD hS (by decide) (by decide) dL_act_345 ⟨s1, c1, hRS1, .inr ⟨z1, hz1, rfl, fun h7 h8 => absurd h8 (by omega), fun h7 => absurd h7 (by omega)⟩⟩
  · skip
    refine lv_bipush (v := (-3 : Int32)) hx hb dL_act_327 (by decide) ?_
    refine lv_goto (tgt := 345) hx hb dL_act_329 (by decide) ?_
    exact ka_ret (wf := wfA g a h) (post := actP (kLow (kCell xs L q9) 18) s9 c9) (G1, V) hC hr hlocks hK hP hD hS (by decide) (by decide) dL_act_345 ⟨s9, c9, hRS, .inl ⟨rfl, rfl, rfl⟩⟩
set_option maxHeartbeats 8000000 in
set_option maxRecDepth 100000 in
theorem kA_set (hn : 300000 ≤ n) (hst : l.stackTraces = false) (hC : CallFix p m c cL_act 7 s args wsL_act RL) (hr : meth.sig.returnType = some .int) (hlocks : meth.locks = false) (hK : va_K g.1 vwCl (kT g) s) (hG : k_Gs A s s.heap) (hA : ∀ q, s.heap.size ≤ q → A q) (hQ : Q = vx_MQ below (kQe g (wfA g a h) (actP (kLow (kCell xs L q9) 18) s9 c9) A) kXN args s 1 6 A) (hW : WF s9) (ht : kLow (kCell xs L q9) 18 = 16) : kA_J p l e s m args below meth c Q g A a h s9 c9 346 [(6, .int (nI (kLow (kCell xs L (q9 + 2)) 4))), (5, .int (nI (s9 4))), (4, .int (kCell xs L (q9 + 2))), (3, .int (kCell xs L (q9 + 1))), (0, .ref (a 0 0))] := by
  subst hQ
  obtain ⟨hx, hb, hml, hown, hts⟩ := id hC
  have w1 := hW.2.1
  have hn1 : 1000 ≤ n := by omega
  intro G V H locs ls hRS hP hD hS hl
  refine lv_aload_n hx hb dL_act_346 rfl (lv_at hl 4 rfl) ?_
  refine lv_iload_n hx hb dL_act_347 rfl (lv_at hl 3 rfl) ?_
  refine lv_iconst (v := nI 4) hx hb dL_act_348 (by decide) ?_
  refine kr_S (w' := fun _ : Unit => (w_F g a G ++ w_H g (a 0 2) h V)) (As := [.int (kCell xs L (q9 + 1)), .int (nI 4)]) (rest := [.ref (a 0 0)]) hC (sL_low l g (kCell xs L (q9 + 1)) 4 (by omega) (by omega)) (va_cwS 2 hts gL_act_L_low rfl rfl rfl (by decide +kernel) ⟨Nat.le_of_ble_eq_true rfl, Nat.le_of_ble_eq_true rfl⟩) hK hP hD hS hA [] rfl rfl (fun _ => rfl) (fun _ => rfl) rfl rfl hl.1 (Nat.le_of_ble_eq_true rfl) dL_act_349 ⟨Nat.le_of_ble_eq_true rfl, Nat.le_of_ble_eq_true rfl⟩ (fun r9 u9 H locs hr9 hP hD hS => ?_)
  obtain rfl : r9 = nI (kLow (kCell xs L (q9 + 1)) 4) := hr9
  have hk352 := kLow_lt (kCell xs L (q9 + 1)) (m := 4) (by omega)
  refine lv_iconst (v := nI 1) hx hb dL_act_352 (by decide) ?_
  refine lv_iload hx hb dL_act_353 (lv_at hl 2 rfl) ?_
  refine lv_bipush (v := nI 6) hx hb dL_act_355 (by decide) ?_
  refine kr_S (w' := fun _ : Unit => (w_F g a G ++ w_H g (a 0 2) h V)) (As := [.int (kCell xs L (q9 + 2)), .int (nI 6)]) (rest := [.int (nI 1), .int (nI (kLow (kCell xs L (q9 + 1)) 4)), .ref (a 0 0)]) hC (sL_low l g (kCell xs L (q9 + 2)) 6 (by omega) (by omega)) (va_cwS 2 hts gL_act_L_low rfl rfl rfl (by decide +kernel) ⟨Nat.le_of_ble_eq_true rfl, Nat.le_of_ble_eq_true rfl⟩) hK hP hD hS hA [] rfl rfl (fun _ => rfl) (fun _ => rfl) rfl rfl hl.1 (Nat.le_of_ble_eq_true rfl) dL_act_357 ⟨Nat.le_of_ble_eq_true rfl, Nat.le_of_ble_eq_true rfl⟩ (fun r9 u9 H locs hr9 hP hD hS => ?_)
  obtain rfl : r9 = nI (kLow (kCell xs L (q9 + 2)) 6) := hr9
  have hk360 := kLow_lt (kCell xs L (q9 + 2)) (m := 6) (by omega)
  refine lv_iadd hx hb dL_act_360 ?_
  refine kk_nmi (x := nI (1 + (kLow (kCell xs L (q9 + 2)) 6))) ((nI_add _ _).symm) ?_
  obtain ⟨z1, G1, V2, s1, c1, e3, hz1, hRS1, hk1⟩ := a_set (j := kLow (kCell xs L (q9 + 1)) 4) (x := 1 + (kLow (kCell xs L (q9 + 2)) 6)) hn1 hRS (by omega) (by omega) (by omega)
  refine kk_call_Vg (w' := (w_F g a G1 ++ w_H g (a 0 2) h V2)) (As := [.int (nI (kLow (kCell xs L (q9 + 1)) 4)), .int (nI (1 + (kLow (kCell xs L (q9 + 2)) 6)))]) (rest := []) 0 4 hC (sX4_set l g n a h G V (nI (kLow (kCell xs L (q9 + 1)) 4)) (nI (1 + (kLow (kCell xs L (q9 + 2)) 6))) (nI z1, G1, V2) e3) (cwV 2 hts gL_act_X4_set rfl rfl rfl (by decide +kernel) ⟨Nat.le_of_ble_eq_true rfl, Nat.le_of_ble_eq_true rfl⟩) hK hG hP hD hS hA (List.range 86) (kk_m0 86 rfl rfl) (by decide +kernel) rfl (kk_s0 86 rfl rfl rfl) rfl rfl rfl rfl rfl hl.1 (Nat.le_of_ble_eq_true rfl) dL_act_361 (fun H locs hP hD hS => ?_)
  exact ka_ret (wf := wfA g a h) (post := actP (kLow (kCell xs L q9) 18) s9 c9) (G1, V2) hC hr hlocks hK hP hD hS (by decide) (by decide) dL_act_364 ⟨s1, c1, hRS1, .inr ⟨z1, hz1, rfl, fun h7 h8 => absurd h8 (by omega), fun h7 => absurd h7 (by omega)⟩⟩
set_option maxHeartbeats 8000000 in
set_option maxRecDepth 100000 in
theorem kA_undo (hn : 300000 ≤ n) (hst : l.stackTraces = false) (hC : CallFix p m c cL_act 7 s args wsL_act RL) (hr : meth.sig.returnType = some .int) (hlocks : meth.locks = false) (hK : va_K g.1 vwCl (kT g) s) (hG : k_Gs A s s.heap) (hA : ∀ q, s.heap.size ≤ q → A q) (hQ : Q = vx_MQ below (kQe g (wfA g a h) (actP (kLow (kCell xs L q9) 18) s9 c9) A) kXN args s 1 6 A) (hW : WF s9) (ht : kLow (kCell xs L q9) 18 = 17) : kA_J p l e s m args below meth c Q g A a h s9 c9 365 [(6, .int (nI (kLow (kCell xs L (q9 + 2)) 4))), (5, .int (nI (s9 4))), (4, .int (kCell xs L (q9 + 2))), (3, .int (kCell xs L (q9 + 1))), (0, .ref (a 0 0))] := by
  subst hQ
  obtain ⟨hx, hb, hml, hown, hts⟩ := id hC
  have w1 := hW.2.1
  have hn1 : 1000 ≤ n := by omega
  intro G V H locs ls hRS hP hD hS hl
  refine lv_aload_n hx hb dL_act_365 rfl (lv_at hl 4 rfl) ?_
  rcases a_undo hn1 hRS with e1 | ⟨z1, G1, V1, s1, c1, e1, hz1, hRS1, -⟩
  · refine kr_wrap (w' := fun _ : Unit => (w_F g a G ++ w_H g (a 0 2) h V)) (As := [.ref (a 0 0)]) (rest := []) hC (sL_undo_t l hst g n a h G V e1) (vx_cwSW 1 hts gL_act_L_undo rfl rfl rfl (by decide +kernel) ⟨Nat.le_of_ble_eq_true rfl, Nat.le_of_ble_eq_true rfl⟩) hK hG hP hD hS hA (List.range 86) (kk_m0 86 rfl rfl) (by decide +kernel) (fun _ => rfl) (fun _ => kk_s0 86 rfl rfl rfl) rfl rfl hl.1 (Nat.le_of_ble_eq_true rfl) dL_act_366 ⟨Nat.le_of_ble_eq_true rfl, Nat.le_of_ble_eq_true rfl⟩ (fun r9 u9 H locs hr9 hP hD hS => ?_)
    obtain rfl : r9 = -3 := hr9
    exact ka_ret (wf := wfA g a h) (post := actP (kLow (kCell xs L q9) 18) s9 c9) (G, V) hC hr hlocks hK hP hD hS (by decide) (by decide) dL_act_369 ⟨s9, c9, hRS, .inl ⟨rfl, rfl, rfl⟩⟩
  · refine kr_wrap (w' := fun _ : Unit => (w_F g a G1 ++ w_H g (a 0 2) h V1)) (As := [.ref (a 0 0)]) (rest := []) hC (sL_undo l hst g n a h G V (nI z1, G1, V1) e1) (vx_cwSW 1 hts gL_act_L_undo rfl rfl rfl (by decide +kernel) ⟨Nat.le_of_ble_eq_true rfl, Nat.le_of_ble_eq_true rfl⟩) hK hG hP hD hS hA (List.range 86) (kk_m0 86 rfl rfl) (by decide +kernel) (fun _ => rfl) (fun _ => kk_s0 86 rfl rfl rfl) rfl rfl hl.1 (Nat.le_of_ble_eq_true rfl) dL_act_366 ⟨Nat.le_of_ble_eq_true rfl, Nat.le_of_ble_eq_true rfl⟩ (fun r9 u9 H locs hr9 hP hD hS => ?_)
    obtain rfl : r9 = nI z1 := hr9
    exact ka_ret (wf := wfA g a h) (post := actP (kLow (kCell xs L q9) 18) s9 c9) (G1, V1) hC hr hlocks hK hP hD hS (by decide) (by decide) dL_act_369 ⟨s1, c1, hRS1, .inr ⟨z1, hz1, rfl, fun h7 h8 => absurd h8 (by omega), fun h7 => absurd h7 (by omega)⟩⟩
set_option maxHeartbeats 8000000 in
set_option maxRecDepth 100000 in
theorem kA_go (hn : 300000 ≤ n) (hst : l.stackTraces = false) (hC : CallFix p m c cL_act 7 s args wsL_act RL) (hr : meth.sig.returnType = some .int) (hlocks : meth.locks = false) (hK : va_K g.1 vwCl (kT g) s) (hG : k_Gs A s s.heap) (hA : ∀ q, s.heap.size ≤ q → A q) (hQ : Q = vx_MQ below (kQe g (wfA g a h) (actP (kLow (kCell xs L q9) 18) s9 c9) A) kXN args s 1 6 A) (hW : WF s9) (hX : va_X b L xs s s.heap) (hbl : b < s.heap.size) (hbA : ¬ A b) (hL : L ≤ 260) (hq : q9 ≤ 900) : kA_J p l e s m args below meth c Q g A a h s9 c9 0 [(0, .ref (a 0 0)), (1, .ref b), (2, .int (nI q9))] := by
  obtain ⟨hx, hb, hml, hown, hts⟩ := id hC
  have w1 := hW.2.1
  have hn1 : 1000 ≤ n := by omega
  intro G V H locs ls hRS hP hD hS hl
  refine lv_aload_n hx hb dL_act_0 rfl (lv_at hl 1 rfl) ?_
  refine lv_iload_n hx hb dL_act_1 rfl (lv_at hl 2 rfl) ?_
  refine lv_iconst (v := nI 1) hx hb dL_act_2 (by decide) ?_
  refine lv_iadd hx hb dL_act_3 ?_
  refine kk_nmi (x := nI (q9 + 1)) ((nI_add _ _).symm) ?_
  refine ks_call (w' := fun _ : Unit => (w_F g a G ++ w_H g (a 0 2) h V)) (As := [.ref b, .int (nI (q9 + 1))]) (rest := []) hC (sL_cell l g b L xs (q9 + 1) (by omega) hL) (va_cwS 2 hts gL_act_L_cell rfl rfl rfl (by decide +kernel) ⟨Nat.le_of_ble_eq_true rfl, Nat.le_of_ble_eq_true rfl⟩) hK hG hX hbl hbA hP hD hS hA [] rfl rfl (fun _ => rfl) (fun _ => rfl) rfl rfl hl.1 (Nat.le_of_ble_eq_true rfl) dL_act_4 ⟨Nat.le_of_ble_eq_true rfl, Nat.le_of_ble_eq_true rfl⟩ (fun r9 u9 H locs hr9 hP hD hS => ?_)
  obtain rfl : r9 = kCell xs L (q9 + 1) := hr9
  refine lv_istore_n (i := 3) (lv' := [(3, .int (kCell xs L (q9 + 1))), (0, .ref (a 0 0)), (1, .ref b), (2, .int (nI q9))]) hx hb dL_act_7 rfl hl (by decide) rfl (fun ls hl => ?_)
  refine lv_aload_n hx hb dL_act_8 rfl (lv_at hl 2 rfl) ?_
  refine lv_iload_n hx hb dL_act_9 rfl (lv_at hl 3 rfl) ?_
  refine lv_iconst (v := nI 2) hx hb dL_act_10 (by decide) ?_
  refine lv_iadd hx hb dL_act_11 ?_
  refine kk_nmi (x := nI (q9 + 2)) ((nI_add _ _).symm) ?_
  refine ks_call (w' := fun _ : Unit => (w_F g a G ++ w_H g (a 0 2) h V)) (As := [.ref b, .int (nI (q9 + 2))]) (rest := []) hC (sL_cell l g b L xs (q9 + 2) (by omega) hL) (va_cwS 2 hts gL_act_L_cell rfl rfl rfl (by decide +kernel) ⟨Nat.le_of_ble_eq_true rfl, Nat.le_of_ble_eq_true rfl⟩) hK hG hX hbl hbA hP hD hS hA [] rfl rfl (fun _ => rfl) (fun _ => rfl) rfl rfl hl.1 (Nat.le_of_ble_eq_true rfl) dL_act_12 ⟨Nat.le_of_ble_eq_true rfl, Nat.le_of_ble_eq_true rfl⟩ (fun r9 u9 H locs hr9 hP hD hS => ?_)
  obtain rfl : r9 = kCell xs L (q9 + 2) := hr9
  refine lv_istore (i := 4) (lv' := [(4, .int (kCell xs L (q9 + 2))), (3, .int (kCell xs L (q9 + 1))), (0, .ref (a 0 0)), (1, .ref b), (2, .int (nI q9))]) hx hb dL_act_15 hl (by decide) rfl (fun ls hl => ?_)
  refine lv_aload_n hx hb dL_act_17 rfl (lv_at hl 2 rfl) ?_
  refine lv_iconst (v := nI 0) hx hb dL_act_18 (by decide) ?_
  obtain ⟨G1, e2, hRS⟩ := l_c0 hn1 hRS
  refine kk_call_Vi (w' := (w_F g a G1 ++ w_H g (a 0 2) h V)) (As := [.int (nI 0)]) (rest := []) 0 4 hC (sX4_count l g n a h G V (nI 0) (nI (s9 4), G1) e2) (cwV 1 hts gL_act_X4_count rfl rfl rfl (by decide +kernel) ⟨Nat.le_of_ble_eq_true rfl, Nat.le_of_ble_eq_true rfl⟩) hK hP hD hS hA (List.range 86) (kk_m0 86 rfl rfl) (by decide +kernel) rfl (kk_s0 86 rfl rfl rfl) rfl rfl rfl rfl rfl hl.1 (Nat.le_of_ble_eq_true rfl) dL_act_19 (fun H locs hP hD hS => ?_)
  refine lv_istore (i := 5) (lv' := [(5, .int (nI (s9 4))), (4, .int (kCell xs L (q9 + 2))), (3, .int (kCell xs L (q9 + 1))), (0, .ref (a 0 0)), (1, .ref b), (2, .int (nI q9))]) hx hb dL_act_22 hl (by decide) rfl (fun ls hl => ?_)
  refine lv_iload hx hb dL_act_24 (lv_at hl 1 rfl) ?_
  refine lv_iconst (v := nI 4) hx hb dL_act_26 (by decide) ?_
  refine kr_S (w' := fun _ : Unit => (w_F g a G1 ++ w_H g (a 0 2) h V)) (As := [.int (kCell xs L (q9 + 2)), .int (nI 4)]) (rest := []) hC (sL_low l g (kCell xs L (q9 + 2)) 4 (by omega) (by omega)) (va_cwS 2 hts gL_act_L_low rfl rfl rfl (by decide +kernel) ⟨Nat.le_of_ble_eq_true rfl, Nat.le_of_ble_eq_true rfl⟩) hK hP hD hS hA [] rfl rfl (fun _ => rfl) (fun _ => rfl) rfl rfl hl.1 (Nat.le_of_ble_eq_true rfl) dL_act_27 ⟨Nat.le_of_ble_eq_true rfl, Nat.le_of_ble_eq_true rfl⟩ (fun r9 u9 H locs hr9 hP hD hS => ?_)
  obtain rfl : r9 = nI (kLow (kCell xs L (q9 + 2)) 4) := hr9
  have hk30 := kLow_lt (kCell xs L (q9 + 2)) (m := 4) (by omega)
  refine lv_istore (i := 6) (lv' := [(6, .int (nI (kLow (kCell xs L (q9 + 2)) 4))), (5, .int (nI (s9 4))), (4, .int (kCell xs L (q9 + 2))), (3, .int (kCell xs L (q9 + 1))), (0, .ref (a 0 0)), (1, .ref b), (2, .int (nI q9))]) hx hb dL_act_30 hl (by decide) rfl (fun ls hl => ?_)
  refine lv_aload_n hx hb dL_act_32 rfl (lv_at hl 5 rfl) ?_
  refine lv_iload_n hx hb dL_act_33 rfl (lv_at hl 6 rfl) ?_
  refine ks_call (w' := fun _ : Unit => (w_F g a G1 ++ w_H g (a 0 2) h V)) (As := [.ref b, .int (nI q9)]) (rest := []) hC (sL_cell l g b L xs q9 (by omega) hL) (va_cwS 2 hts gL_act_L_cell rfl rfl rfl (by decide +kernel) ⟨Nat.le_of_ble_eq_true rfl, Nat.le_of_ble_eq_true rfl⟩) hK hG hX hbl hbA hP hD hS hA [] rfl rfl (fun _ => rfl) (fun _ => rfl) rfl rfl hl.1 (Nat.le_of_ble_eq_true rfl) dL_act_34 ⟨Nat.le_of_ble_eq_true rfl, Nat.le_of_ble_eq_true rfl⟩ (fun r9 u9 H locs hr9 hP hD hS => ?_)
  obtain rfl : r9 = kCell xs L q9 := hr9
  refine lv_bipush (v := nI 18) hx hb dL_act_37 (by decide) ?_
  refine kr_S (w' := fun _ : Unit => (w_F g a G1 ++ w_H g (a 0 2) h V)) (As := [.int (kCell xs L q9), .int (nI 18)]) (rest := []) hC (sL_low l g (kCell xs L q9) 18 (by omega) (by omega)) (va_cwS 2 hts gL_act_L_low rfl rfl rfl (by decide +kernel) ⟨Nat.le_of_ble_eq_true rfl, Nat.le_of_ble_eq_true rfl⟩) hK hP hD hS hA [] rfl rfl (fun _ => rfl) (fun _ => rfl) rfl rfl hl.1 (Nat.le_of_ble_eq_true rfl) dL_act_39 ⟨Nat.le_of_ble_eq_true rfl, Nat.le_of_ble_eq_true rfl⟩ (fun r9 u9 H locs hr9 hP hD hS => ?_)
  obtain rfl : r9 = nI (kLow (kCell xs L q9) 18) := hr9
  have hk42 := kLow_lt (kCell xs L q9) (m := 18) (by omega)
  have et : (nI (kLow (kCell xs L q9) 18)).toInt = ((kLow (kCell xs L q9) 18 : Nat) : Int) := nI_toInt (by omega)
  have q1 : ¬ (nI (kLow (kCell xs L q9) 18)).toInt < 0 := by rw [et]; omega
  rcases (show kLow (kCell xs L q9) 18 = 0 ∨ kLow (kCell xs L q9) 18 = 1 ∨ kLow (kCell xs L q9) 18 = 2 ∨ kLow (kCell xs L q9) 18 = 3 ∨ kLow (kCell xs L q9) 18 = 4 ∨ kLow (kCell xs L q9) 18 = 5 ∨ kLow (kCell xs L q9) 18 = 6 ∨ kLow (kCell xs L q9) 18 = 7 ∨ kLow (kCell xs L q9) 18 = 8 ∨ kLow (kCell xs L q9) 18 = 9 ∨ kLow (kCell xs L q9) 18 = 10 ∨ kLow (kCell xs L q9) 18 = 11 ∨ kLow (kCell xs L q9) 18 = 12 ∨ kLow (kCell xs L q9) 18 = 13 ∨ kLow (kCell xs L q9) 18 = 14 ∨ kLow (kCell xs L q9) 18 = 15 ∨ kLow (kCell xs L q9) 18 = 16 ∨ kLow (kCell xs L q9) 18 = 17 by omega) with tk | tk | tk | tk | tk | tk | tk | tk | tk | tk | tk | tk | tk | tk | tk | tk | tk | tk
  · exact lv_tableIn (off := 82) (tgt := 124) hx hb dL_act_42 q1 (by rw [et]; omega) (by rw [et, tk]; rfl) (by decide) (kA_put hn hst hC hr hlocks hK hG hA hQ hW (by omega) G1 V H locs ls hRS hP hD hS (lv_sub hl [0, 1, 2, 3, 4] rfl))
  · exact lv_tableIn (off := 82) (tgt := 124) hx hb dL_act_42 q1 (by rw [et]; omega) (by rw [et, tk]; rfl) (by decide) (kA_put hn hst hC hr hlocks hK hG hA hQ hW (by omega) G1 V H locs ls hRS hP hD hS (lv_sub hl [0, 1, 2, 3, 4] rfl))
  · exact lv_tableIn (off := 82) (tgt := 124) hx hb dL_act_42 q1 (by rw [et]; omega) (by rw [et, tk]; rfl) (by decide) (kA_put hn hst hC hr hlocks hK hG hA hQ hW (by omega) G1 V H locs ls hRS hP hD hS (lv_sub hl [0, 1, 2, 3, 4] rfl))
  · exact lv_tableIn (off := 82) (tgt := 124) hx hb dL_act_42 q1 (by rw [et]; omega) (by rw [et, tk]; rfl) (by decide) (kA_put hn hst hC hr hlocks hK hG hA hQ hW (by omega) G1 V H locs ls hRS hP hD hS (lv_sub hl [0, 1, 2, 3, 4] rfl))
  · exact lv_tableIn (off := 82) (tgt := 124) hx hb dL_act_42 q1 (by rw [et]; omega) (by rw [et, tk]; rfl) (by decide) (kA_put hn hst hC hr hlocks hK hG hA hQ hW (by omega) G1 V H locs ls hRS hP hD hS (lv_sub hl [0, 1, 2, 3, 4] rfl))
  · exact lv_tableIn (off := 82) (tgt := 124) hx hb dL_act_42 q1 (by rw [et]; omega) (by rw [et, tk]; rfl) (by decide) (kA_put hn hst hC hr hlocks hK hG hA hQ hW (by omega) G1 V H locs ls hRS hP hD hS (lv_sub hl [0, 1, 2, 3, 4] rfl))
  · exact lv_tableIn (off := 125) (tgt := 167) hx hb dL_act_42 q1 (by rw [et]; omega) (by rw [et, tk]; rfl) (by decide) (kA_remove hn hst hC hr hlocks hK hG hA hQ hW tk G1 V H locs ls hRS hP hD hS (lv_sub hl [0, 1, 2, 3, 4] rfl))
  · exact lv_tableIn (off := 146) (tgt := 188) hx hb dL_act_42 q1 (by rw [et]; omega) (by rw [et, tk]; rfl) (by decide) (kA_move hn hst hC hr hlocks hK hG hA hQ hW ⟨by omega, by omega⟩ G1 V H locs ls hRS hP hD hS (lv_sub hl [0, 1, 2, 3, 4] rfl))
  · exact lv_tableIn (off := 146) (tgt := 188) hx hb dL_act_42 q1 (by rw [et]; omega) (by rw [et, tk]; rfl) (by decide) (kA_move hn hst hC hr hlocks hK hG hA hQ hW ⟨by omega, by omega⟩ G1 V H locs ls hRS hP hD hS (lv_sub hl [0, 1, 2, 3, 4] rfl))
  · exact lv_tableIn (off := 174) (tgt := 216) hx hb dL_act_42 q1 (by rw [et]; omega) (by rw [et, tk]; rfl) (by decide) (kA_exchange hn hst hC hr hlocks hK hG hA hQ hW tk G1 V H locs ls hRS hP hD hS (lv_sub hl [0, 1, 2, 3, 4] rfl))
  · exact lv_tableIn (off := 202) (tgt := 244) hx hb dL_act_42 q1 (by rw [et]; omega) (by rw [et, tk]; rfl) (by decide) (kA_fold hn hst hC hr hlocks hK hG hA hQ hW ⟨by omega, by omega⟩ G1 V H locs ls hRS hP hD hS (lv_sub hl [0, 1, 2, 3, 4] rfl))
  · exact lv_tableIn (off := 202) (tgt := 244) hx hb dL_act_42 q1 (by rw [et]; omega) (by rw [et, tk]; rfl) (by decide) (kA_fold hn hst hC hr hlocks hK hG hA hQ hW ⟨by omega, by omega⟩ G1 V H locs ls hRS hP hD hS (lv_sub hl [0, 1, 2, 3, 4] rfl))
  · exact lv_tableIn (off := 237) (tgt := 279) hx hb dL_act_42 q1 (by rw [et]; omega) (by rw [et, tk]; rfl) (by decide) (kA_arrange hn hst hC hr hlocks hK hG hA hQ hW tk G1 V H locs ls hRS hP hD hS (lv_sub hl [0, 1, 2, 3, 4] rfl))
  · exact lv_tableIn (off := 254) (tgt := 296) hx hb dL_act_42 q1 (by rw [et]; omega) (by rw [et, tk]; rfl) (by decide) (kA_bridge hn hst hC hr hlocks hK hG hA hQ hW ⟨by omega, by omega⟩ G1 V H locs ls hRS hP hD hS (lv_sub hl [0, 1, 2, 3, 4] rfl))
  · exact lv_tableIn (off := 254) (tgt := 296) hx hb dL_act_42 q1 (by rw [et]; omega) (by rw [et, tk]; rfl) (by decide) (kA_bridge hn hst hC hr hlocks hK hG hA hQ hW ⟨by omega, by omega⟩ G1 V H locs ls hRS hP hD hS (lv_sub hl [0, 1, 2, 3, 4] rfl))
  · exact lv_tableIn (off := 277) (tgt := 319) hx hb dL_act_42 q1 (by rw [et]; omega) (by rw [et, tk]; rfl) (by decide) (kA_unbridge hn hst hC hr hlocks hK hG hA hQ hW tk G1 V H locs ls hRS hP hD hS (lv_sub hl [0, 1, 2, 3, 4] rfl))
  · exact lv_tableIn (off := 304) (tgt := 346) hx hb dL_act_42 q1 (by rw [et]; omega) (by rw [et, tk]; rfl) (by decide) (kA_set hn hst hC hr hlocks hK hG hA hQ hW tk G1 V H locs ls hRS hP hD hS (lv_sub hl [0, 1, 2, 3, 4] rfl))
  · exact lv_tableOut (tgt := 365) hx hb dL_act_42 (Or.inr (by rw [et]; omega)) (by decide) (kA_undo hn hst hC hr hlocks hK hG hA hQ hW tk G1 V H locs ls hRS hP hD hS (lv_sub hl [0, 1, 2, 3, 4] rfl))
end KAct
set_option maxHeartbeats 8000000 in
set_option maxRecDepth 100000 in
theorem sL_act (l : Launch) (hst : l.stackTraces = false) (g : kG) (n : Nat) (hn : 300000 ≤ n) (a h : Nat → Nat → Nat) (G V : St2) (s9 : Nat → Nat) (c9 : Nat) (hRS : RS G V s9 c9) (b L : Nat) (xs : Nat → Int32) (hL : L ≤ 260) (q9 : Nat) (hq : q9 ≤ 900) : kAs l g yL_act wsL_act rmA [.ref (a 0 0), .ref b, .int (nI q9)] (w_F g a G ++ w_H g (a 0 2) h V) b L xs (kQe g (wfA g a h) (actP (kLow (kCell xs L q9) 18) s9 c9)) := by
  refine kAs.of (cc := cL_act) (maxL := 7) (ret := some .int) (by decide) rfl (Nat.le_of_ble_eq_true rfl) ?_
  intro p e s m args below meth c ls A hC hr hlocks hA hK hG hX hbl hbA hl hP hD hS
  exact kA_go hn hst hC hr hlocks hK hG hA rfl (RS_W hRS).1 hX hbl hbA hL hq G V s.heap [] ls hRS hP hD hS hl
