/-! the constructor of History -/
abbrev k_w1 (g : kG) (h0 x : Nat) (f : Nat → Option Nat) : va_W := [(h0, .inr (1, [.ref x, .int 0])), (x, .inl (g.2.2.2, 6, .inr (.inr (.inr (.inr f)))))]
def k_ad2 (L : List (Nat → Nat)) : Nat → Nat → Nat := fun k => L.getD k (fun _ => 0)
theorem kn_arrc {cA : ClassId} {n : Nat} {f f' : Nat → Value} (h : ∀ i, i < n → f i = f' i) : arrV cA n f = arrV cA n f' := by
  unfold arrV
  congr 1
  apply Array.ext
  · simp
  · intro i h1 h2
    simp at h1 ⊢
    exact h i (by omega)
theorem kn_last {α : Type} {L T : List α} {x y : α} {n : Nat} (h : L.length = n) : (L ++ [x]).set n y ++ T = L ++ (y :: T) := by
  subst h
  rw [List.set_append_right _ _ (Nat.le_refl _), Nat.sub_self]
  simp
theorem kn_lastg {α : Type} {L : List α} {x : α} {n : Nat} (h : L.length = n) : (L ++ [x])[n]? = some x := by
  subst h
  simp
abbrev k_O2 : va_E := .inr (2, [.int 0, .null, .null, .null, .null, .int 0, .null, .null, .null, .null, .null])
theorem k_O2f : ∀ j, j < 11 → defaultValue (tyX2 j) = vp_V [.int 0, .null, .null, .null, .null, .int 0, .null, .null, .null, .null, .null] j := fun j hj => by
  rcases (show j = 0 ∨ j = 1 ∨ j = 2 ∨ j = 3 ∨ j = 4 ∨ j = 5 ∨ j = 6 ∨ j = 7 ∨ j = 8 ∨ j = 9 ∨ j = 10 by omega) with rfl | rfl | rfl | rfl | rfl | rfl | rfl | rfl | rfl | rfl | rfl <;> rfl
theorem k_wfP {g : kG} {b : Nat} {u : Nat → Nat} (h : u 0 = b) : w_P g u k_P0 = (b, .inr (2, [.int (k_P0 0 0), .ref (u 1), .ref (u 2), .ref (u 3), .ref (u 4), .int (k_P0 5 0), .ref (u 6), .ref (u 7), .ref (u 8), .ref (u 9), .ref (u 10)])) :: (w_P g u k_P0).tail := by rw [← h]; rfl
set_option maxHeartbeats 8000000 in
set_option maxRecDepth 100000 in
theorem sX1_init (l : Launch) (g : kG) (h0 : Nat) : kSc l g yX1_init wsX1_init ({ frames := 2, cells := 61, slots := 492, locals := 32 }) [.ref h0] [(h0, .inr (1, [.null, .int 0]))] 61 492 (fun u : Nat → Nat → Nat => u 0 0 = h0) (fun u => k_w1 g (u 0 0) (u 0 1) (fun i => if i < 6 then some (u (1 + i) 0) else none) ++ w_P g (u 1) k_P0 ++ w_P g (u 2) k_P0 ++ w_P g (u 3) k_P0 ++ w_P g (u 4) k_P0 ++ w_P g (u 5) k_P0 ++ w_P g (u 6) k_P0) := by
  refine kSc.of (cc := cX1_init) (maxL := 2) (by decide) rfl rfl (Nat.le_of_ble_eq_true rfl) ?_
  intro p e s m args below meth c ls A hC hr hlocks hin2 hA hK hN hl hP hD hS
  replace hC : CallFix p m c cX1_init 2 s args wsX1_init RX1 := hC
  obtain ⟨hx, hb, hml, hown, hts⟩ := id hC
  replace hl : lv_has ls 2 [(0, .ref h0)] := hl
  have hw1 : ∀ w ∈ wsX10, w ∈ wsX1_init := by decide +kernel
  have hw2 : ∀ w ∈ wsX20, w ∈ wsX1_init := by decide +kernel
  have hcl := hts (.classLink RX1 9 RX2) (by decide +kernel)
  have hinst := hts (.instantiable RX2 11) (by decide +kernel)
  have hini := hts (.initialized RX2) (by decide +kernel)
  have hinm := hts (.instanceMethod yX2_init) (by decide +kernel)
  have hf11 := hts (.fieldLink RX1 11 "FloatOrder$History" "saved" "[LFloatOrder$Parade;") (by decide +kernel)
  have hf17 := hts (.fieldLink RX1 17 "FloatOrder$History" "size" "I") (by decide +kernel)
  refine lv_aload_n hx hb dX1_init_0 rfl (lv_at hl 0 rfl) ?_
  refine W.objInit hx hb hown (hts (.methodLink RX1 3 objectInit) (by decide +kernel)) (hts (.instanceMethod objectInit) (by decide +kernel)) (hts _ (List.mem_cons_of_mem _ (List.mem_append_left _ (List.mem_append_left _ (List.mem_of_getElem? (i := 2) rfl))))) rfl (by rw [hml]; exact hl.1) rfl dX1_init_1 (Nat.le_of_ble_eq_true rfl) (Nat.le_of_ble_eq_true rfl) ?_
  refine W.eq (g2 := F0 m 4 ls []) rfl ?_
  refine lv_aload_n hx hb dX1_init_4 rfl (lv_at hl 0 rfl) ?_
  refine lv_bipush (v := (6 : Int32)) hx hb dX1_init_5 (by decide) ?_
  refine kn_newq (N := 6) (w' := fun x => [(h0, .inr (1, [.null, .int 0])), (x, .inl (g.2.2.2, 6, .inr (.inr (.inr (.inr fun _ => none)))))]) hC hcl hN hK hP hD hS hA (by decide) (by decide) (Nat.le_of_ble_eq_true rfl) (Nat.le_of_ble_eq_true rfl) (Nat.le_of_ble_eq_true rfl) (fun _ => rfl) dX1_init_7 (fun x H hP hD hS => ?_)
  refine kn_putF (w' := [(h0, .inr (1, [.ref x, .int 0])), (x, .inl (g.2.2.2, 6, .inr (.inr (.inr (.inr fun _ => none)))))]) (C := RX1) (ci := 1) (T := TX1) (N := 2) (ty := .array (.object "FloatOrder$Parade")) (v := .ref x) hC hin2 hw1 tyX1 tyX1_ok nmX1 hK hP hD hS 0 rfl rfl 0 (by decide) hf11 rfl (by decide +kernel) rfl rfl (Nat.le_of_ble_eq_true rfl) rfl dX1_init_10 rfl rfl (fun H locs hP hD hS => ?_)
  refine lv_aload_n hx hb dX1_init_13 rfl (lv_at hl 0 rfl) ?_
  refine lv_iconst (v := (0 : Int32)) hx hb dX1_init_14 (by decide) ?_
  refine kn_put (w' := k_w1 g h0 x (fun _ => none)) (C := RX1) (ci := 1) (T := TX1) (N := 2) (ty := .int) (v := .int (0 : Int32)) hC hw1 tyX1 tyX1_ok nmX1 hK hP hD hS 0 rfl rfl 1 (by decide) hf17 rfl (by decide +kernel) rfl rfl (Nat.le_of_ble_eq_true rfl) rfl dX1_init_15 rfl (fun H locs hP hD hS => ?_)
  refine lv_iconst (v := (0 : Int32)) hx hb dX1_init_18 (by decide) ?_
  refine lv_istore_n (i := 1) (lv' := [(1, .int (0 : Int32)), (0, .ref h0)]) hx hb dX1_init_19 rfl hl (by decide) rfl (fun ls hl => ?_)
  refine lv_iload_n hx hb dX1_init_20 rfl (lv_at hl 0 rfl) ?_
  refine lv_bipush (v := (6 : Int32)) hx hb dX1_init_21 (by decide) ?_
  refine lv_icmp_ge (tgt := 45) hx hb dX1_init_23 (by decide) (fun h9 => absurd h9 (by decide)) (fun _ => ?_)
  refine lv_aload_n hx hb dX1_init_26 rfl (lv_at hl 1 rfl) ?_
  refine va_get (ci := 1) (C := RX1) (T := TX1) (N := 2) hx hb hts hw1 hown hK hP 0 rfl rfl 0 (by decide) hf11 (fun _ h9 => h9) rfl dX1_init_27 ?_
  refine lv_iload_n hx hb dX1_init_30 rfl (lv_at hl 0 rfl) ?_
  refine va_new (ci := 2) (fs := [.int 0, .null, .null, .null, .null, .int 0, .null, .null, .null, .null, .null]) (C := RX2) (T := TX2) (N := 11) hx hb hts hw2 tyX2 tyX2_ok hown hcl hinst hini hK hP hD hS hA rfl k_O2f (Nat.le_of_ble_eq_true rfl) (Nat.le_of_ble_eq_true rfl) dX1_init_31 (fun q0 H hPa hDa hSa => ?_)
  refine lv_dup hx hb dX1_init_34 rfl ?_
  refine kn_callN (host := RX4) (e0 := k_O2) (T := fun u => (w_P g u k_P0).tail) (w' := fun u0 => k_w1 g h0 x (fun _ => none) ++ w_P g u0 k_P0) 2 hC (sX2_init l g q0) ⟨va_cnB 0 hts gX1_init_X2_init_n21 rfl rfl rfl hN.2.1 hini (by decide +kernel) ⟨Nat.le_of_ble_eq_true rfl, Nat.le_of_ble_eq_true rfl⟩, rfl, hinm⟩ hK hN hPa hDa hSa hA (kn_lastg rfl) (fun u hu => k_wfP hu) (fun u hu => (kn_last rfl).trans (congrArg _ (k_wfP hu).symm)) hl.1 (Nat.le_of_ble_eq_true rfl) dX1_init_35 ⟨Nat.le_of_ble_eq_true rfl, Nat.le_of_ble_eq_true rfl⟩ (fun u0 H locs hu0 hP hD hS => ?_)
  clear hPa hDa hSa
  obtain rfl := hu0
  refine kn_astq (w' := k_w1 g h0 x (va_up (fun _ => none) (0 : Int32).toNatClampNeg (some (u0 0))) ++ w_P g u0 k_P0) 2 hC hK hP hD hS 1 rfl rfl (kk_in 0 6 (by decide) (by decide) rfl) rfl dX1_init_38 (fun H locs hP hD hS => ?_)
  refine lv_iinc (v := (1 : Int32)) (lv' := [(1, .int (1 : Int32)), (0, .ref h0)]) hx hb dX1_init_39 hl (k := 0) rfl (by decide) (by decide) rfl (fun ls hl => ?_)
  refine lv_goto (tgt := 20) hx hb dX1_init_42 (by decide) ?_
  refine lv_iload_n hx hb dX1_init_20 rfl (lv_at hl 0 rfl) ?_
  refine lv_bipush (v := (6 : Int32)) hx hb dX1_init_21 (by decide) ?_
  refine lv_icmp_ge (tgt := 45) hx hb dX1_init_23 (by decide) (fun h9 => absurd h9 (by decide)) (fun _ => ?_)
  refine lv_aload_n hx hb dX1_init_26 rfl (lv_at hl 1 rfl) ?_
  refine va_get (ci := 1) (C := RX1) (T := TX1) (N := 2) hx hb hts hw1 hown hK hP 0 rfl rfl 0 (by decide) hf11 (fun _ h9 => h9) rfl dX1_init_27 ?_
  refine lv_iload_n hx hb dX1_init_30 rfl (lv_at hl 0 rfl) ?_
  refine va_new (ci := 2) (fs := [.int 0, .null, .null, .null, .null, .int 0, .null, .null, .null, .null, .null]) (C := RX2) (T := TX2) (N := 11) hx hb hts hw2 tyX2 tyX2_ok hown hcl hinst hini hK hP hD hS hA rfl k_O2f (Nat.le_of_ble_eq_true rfl) (Nat.le_of_ble_eq_true rfl) dX1_init_31 (fun q1 H hPa hDa hSa => ?_)
  refine lv_dup hx hb dX1_init_34 rfl ?_
  refine kn_callN (host := RX4) (e0 := k_O2) (T := fun u => (w_P g u k_P0).tail) (w' := fun u1 => k_w1 g h0 x (va_up (fun _ => none) (0 : Int32).toNatClampNeg (some (u0 0))) ++ w_P g u0 k_P0 ++ w_P g u1 k_P0) 12 hC (sX2_init l g q1) ⟨va_cnB 0 hts gX1_init_X2_init_n21 rfl rfl rfl hN.2.1 hini (by decide +kernel) ⟨Nat.le_of_ble_eq_true rfl, Nat.le_of_ble_eq_true rfl⟩, rfl, hinm⟩ hK hN hPa hDa hSa hA (kn_lastg rfl) (fun u hu => k_wfP hu) (fun u hu => (kn_last rfl).trans (congrArg _ (k_wfP hu).symm)) hl.1 (Nat.le_of_ble_eq_true rfl) dX1_init_35 ⟨Nat.le_of_ble_eq_true rfl, Nat.le_of_ble_eq_true rfl⟩ (fun u1 H locs hu1 hP hD hS => ?_)
  clear hPa hDa hSa
  obtain rfl := hu1
  refine kn_astq (w' := k_w1 g h0 x (va_up (va_up (fun _ => none) (0 : Int32).toNatClampNeg (some (u0 0))) (1 : Int32).toNatClampNeg (some (u1 0))) ++ w_P g u0 k_P0 ++ w_P g u1 k_P0) 12 hC hK hP hD hS 1 rfl rfl (kk_in 1 6 (by decide) (by decide) rfl) rfl dX1_init_38 (fun H locs hP hD hS => ?_)
  refine lv_iinc (v := (2 : Int32)) (lv' := [(1, .int (2 : Int32)), (0, .ref h0)]) hx hb dX1_init_39 hl (k := 0) rfl (by decide) (by decide) rfl (fun ls hl => ?_)
  refine lv_goto (tgt := 20) hx hb dX1_init_42 (by decide) ?_
  refine lv_iload_n hx hb dX1_init_20 rfl (lv_at hl 0 rfl) ?_
  refine lv_bipush (v := (6 : Int32)) hx hb dX1_init_21 (by decide) ?_
  refine lv_icmp_ge (tgt := 45) hx hb dX1_init_23 (by decide) (fun h9 => absurd h9 (by decide)) (fun _ => ?_)
  refine lv_aload_n hx hb dX1_init_26 rfl (lv_at hl 1 rfl) ?_
  refine va_get (ci := 1) (C := RX1) (T := TX1) (N := 2) hx hb hts hw1 hown hK hP 0 rfl rfl 0 (by decide) hf11 (fun _ h9 => h9) rfl dX1_init_27 ?_
  refine lv_iload_n hx hb dX1_init_30 rfl (lv_at hl 0 rfl) ?_
  refine va_new (ci := 2) (fs := [.int 0, .null, .null, .null, .null, .int 0, .null, .null, .null, .null, .null]) (C := RX2) (T := TX2) (N := 11) hx hb hts hw2 tyX2 tyX2_ok hown hcl hinst hini hK hP hD hS hA rfl k_O2f (Nat.le_of_ble_eq_true rfl) (Nat.le_of_ble_eq_true rfl) dX1_init_31 (fun q2 H hPa hDa hSa => ?_)
  refine lv_dup hx hb dX1_init_34 rfl ?_
  refine kn_callN (host := RX4) (e0 := k_O2) (T := fun u => (w_P g u k_P0).tail) (w' := fun u2 => k_w1 g h0 x (va_up (va_up (fun _ => none) (0 : Int32).toNatClampNeg (some (u0 0))) (1 : Int32).toNatClampNeg (some (u1 0))) ++ w_P g u0 k_P0 ++ w_P g u1 k_P0 ++ w_P g u2 k_P0) 22 hC (sX2_init l g q2) ⟨va_cnB 0 hts gX1_init_X2_init_n21 rfl rfl rfl hN.2.1 hini (by decide +kernel) ⟨Nat.le_of_ble_eq_true rfl, Nat.le_of_ble_eq_true rfl⟩, rfl, hinm⟩ hK hN hPa hDa hSa hA (kn_lastg rfl) (fun u hu => k_wfP hu) (fun u hu => (kn_last rfl).trans (congrArg _ (k_wfP hu).symm)) hl.1 (Nat.le_of_ble_eq_true rfl) dX1_init_35 ⟨Nat.le_of_ble_eq_true rfl, Nat.le_of_ble_eq_true rfl⟩ (fun u2 H locs hu2 hP hD hS => ?_)
  clear hPa hDa hSa
  obtain rfl := hu2
  refine kn_astq (w' := k_w1 g h0 x (va_up (va_up (va_up (fun _ => none) (0 : Int32).toNatClampNeg (some (u0 0))) (1 : Int32).toNatClampNeg (some (u1 0))) (2 : Int32).toNatClampNeg (some (u2 0))) ++ w_P g u0 k_P0 ++ w_P g u1 k_P0 ++ w_P g u2 k_P0) 22 hC hK hP hD hS 1 rfl rfl (kk_in 2 6 (by decide) (by decide) rfl) rfl dX1_init_38 (fun H locs hP hD hS => ?_)
  refine lv_iinc (v := (3 : Int32)) (lv' := [(1, .int (3 : Int32)), (0, .ref h0)]) hx hb dX1_init_39 hl (k := 0) rfl (by decide) (by decide) rfl (fun ls hl => ?_)
  refine lv_goto (tgt := 20) hx hb dX1_init_42 (by decide) ?_
  refine lv_iload_n hx hb dX1_init_20 rfl (lv_at hl 0 rfl) ?_
  refine lv_bipush (v := (6 : Int32)) hx hb dX1_init_21 (by decide) ?_
  refine lv_icmp_ge (tgt := 45) hx hb dX1_init_23 (by decide) (fun h9 => absurd h9 (by decide)) (fun _ => ?_)
  refine lv_aload_n hx hb dX1_init_26 rfl (lv_at hl 1 rfl) ?_
  refine va_get (ci := 1) (C := RX1) (T := TX1) (N := 2) hx hb hts hw1 hown hK hP 0 rfl rfl 0 (by decide) hf11 (fun _ h9 => h9) rfl dX1_init_27 ?_
  refine lv_iload_n hx hb dX1_init_30 rfl (lv_at hl 0 rfl) ?_
  refine va_new (ci := 2) (fs := [.int 0, .null, .null, .null, .null, .int 0, .null, .null, .null, .null, .null]) (C := RX2) (T := TX2) (N := 11) hx hb hts hw2 tyX2 tyX2_ok hown hcl hinst hini hK hP hD hS hA rfl k_O2f (Nat.le_of_ble_eq_true rfl) (Nat.le_of_ble_eq_true rfl) dX1_init_31 (fun q3 H hPa hDa hSa => ?_)
  refine lv_dup hx hb dX1_init_34 rfl ?_
  refine kn_callN (host := RX4) (e0 := k_O2) (T := fun u => (w_P g u k_P0).tail) (w' := fun u3 => k_w1 g h0 x (va_up (va_up (va_up (fun _ => none) (0 : Int32).toNatClampNeg (some (u0 0))) (1 : Int32).toNatClampNeg (some (u1 0))) (2 : Int32).toNatClampNeg (some (u2 0))) ++ w_P g u0 k_P0 ++ w_P g u1 k_P0 ++ w_P g u2 k_P0 ++ w_P g u3 k_P0) 32 hC (sX2_init l g q3) ⟨va_cnB 0 hts gX1_init_X2_init_n21 rfl rfl rfl hN.2.1 hini (by decide +kernel) ⟨Nat.le_of_ble_eq_true rfl, Nat.le_of_ble_eq_true rfl⟩, rfl, hinm⟩ hK hN hPa hDa hSa hA (kn_lastg rfl) (fun u hu => k_wfP hu) (fun u hu => (kn_last rfl).trans (congrArg _ (k_wfP hu).symm)) hl.1 (Nat.le_of_ble_eq_true rfl) dX1_init_35 ⟨Nat.le_of_ble_eq_true rfl, Nat.le_of_ble_eq_true rfl⟩ (fun u3 H locs hu3 hP hD hS => ?_)
  clear hPa hDa hSa
  obtain rfl := hu3
  refine kn_astq (w' := k_w1 g h0 x (va_up (va_up (va_up (va_up (fun _ => none) (0 : Int32).toNatClampNeg (some (u0 0))) (1 : Int32).toNatClampNeg (some (u1 0))) (2 : Int32).toNatClampNeg (some (u2 0))) (3 : Int32).toNatClampNeg (some (u3 0))) ++ w_P g u0 k_P0 ++ w_P g u1 k_P0 ++ w_P g u2 k_P0 ++ w_P g u3 k_P0) 32 hC hK hP hD hS 1 rfl rfl (kk_in 3 6 (by decide) (by decide) rfl) rfl dX1_init_38 (fun H locs hP hD hS => ?_)
  refine lv_iinc (v := (4 : Int32)) (lv' := [(1, .int (4 : Int32)), (0, .ref h0)]) hx hb dX1_init_39 hl (k := 0) rfl (by decide) (by decide) rfl (fun ls hl => ?_)
  refine lv_goto (tgt := 20) hx hb dX1_init_42 (by decide) ?_
  refine lv_iload_n hx hb dX1_init_20 rfl (lv_at hl 0 rfl) ?_
  refine lv_bipush (v := (6 : Int32)) hx hb dX1_init_21 (by decide) ?_
  refine lv_icmp_ge (tgt := 45) hx hb dX1_init_23 (by decide) (fun h9 => absurd h9 (by decide)) (fun _ => ?_)
  refine lv_aload_n hx hb dX1_init_26 rfl (lv_at hl 1 rfl) ?_
  refine va_get (ci := 1) (C := RX1) (T := TX1) (N := 2) hx hb hts hw1 hown hK hP 0 rfl rfl 0 (by decide) hf11 (fun _ h9 => h9) rfl dX1_init_27 ?_
  refine lv_iload_n hx hb dX1_init_30 rfl (lv_at hl 0 rfl) ?_
  refine va_new (ci := 2) (fs := [.int 0, .null, .null, .null, .null, .int 0, .null, .null, .null, .null, .null]) (C := RX2) (T := TX2) (N := 11) hx hb hts hw2 tyX2 tyX2_ok hown hcl hinst hini hK hP hD hS hA rfl k_O2f (Nat.le_of_ble_eq_true rfl) (Nat.le_of_ble_eq_true rfl) dX1_init_31 (fun q4 H hPa hDa hSa => ?_)
  refine lv_dup hx hb dX1_init_34 rfl ?_
  refine kn_callN (host := RX4) (e0 := k_O2) (T := fun u => (w_P g u k_P0).tail) (w' := fun u4 => k_w1 g h0 x (va_up (va_up (va_up (va_up (fun _ => none) (0 : Int32).toNatClampNeg (some (u0 0))) (1 : Int32).toNatClampNeg (some (u1 0))) (2 : Int32).toNatClampNeg (some (u2 0))) (3 : Int32).toNatClampNeg (some (u3 0))) ++ w_P g u0 k_P0 ++ w_P g u1 k_P0 ++ w_P g u2 k_P0 ++ w_P g u3 k_P0 ++ w_P g u4 k_P0) 42 hC (sX2_init l g q4) ⟨va_cnB 0 hts gX1_init_X2_init_n21 rfl rfl rfl hN.2.1 hini (by decide +kernel) ⟨Nat.le_of_ble_eq_true rfl, Nat.le_of_ble_eq_true rfl⟩, rfl, hinm⟩ hK hN hPa hDa hSa hA (kn_lastg rfl) (fun u hu => k_wfP hu) (fun u hu => (kn_last rfl).trans (congrArg _ (k_wfP hu).symm)) hl.1 (Nat.le_of_ble_eq_true rfl) dX1_init_35 ⟨Nat.le_of_ble_eq_true rfl, Nat.le_of_ble_eq_true rfl⟩ (fun u4 H locs hu4 hP hD hS => ?_)
  clear hPa hDa hSa
  obtain rfl := hu4
  refine kn_astq (w' := k_w1 g h0 x (va_up (va_up (va_up (va_up (va_up (fun _ => none) (0 : Int32).toNatClampNeg (some (u0 0))) (1 : Int32).toNatClampNeg (some (u1 0))) (2 : Int32).toNatClampNeg (some (u2 0))) (3 : Int32).toNatClampNeg (some (u3 0))) (4 : Int32).toNatClampNeg (some (u4 0))) ++ w_P g u0 k_P0 ++ w_P g u1 k_P0 ++ w_P g u2 k_P0 ++ w_P g u3 k_P0 ++ w_P g u4 k_P0) 42 hC hK hP hD hS 1 rfl rfl (kk_in 4 6 (by decide) (by decide) rfl) rfl dX1_init_38 (fun H locs hP hD hS => ?_)
  refine lv_iinc (v := (5 : Int32)) (lv' := [(1, .int (5 : Int32)), (0, .ref h0)]) hx hb dX1_init_39 hl (k := 0) rfl (by decide) (by decide) rfl (fun ls hl => ?_)
  refine lv_goto (tgt := 20) hx hb dX1_init_42 (by decide) ?_
  refine lv_iload_n hx hb dX1_init_20 rfl (lv_at hl 0 rfl) ?_
  refine lv_bipush (v := (6 : Int32)) hx hb dX1_init_21 (by decide) ?_
  refine lv_icmp_ge (tgt := 45) hx hb dX1_init_23 (by decide) (fun h9 => absurd h9 (by decide)) (fun _ => ?_)
  refine lv_aload_n hx hb dX1_init_26 rfl (lv_at hl 1 rfl) ?_
  refine va_get (ci := 1) (C := RX1) (T := TX1) (N := 2) hx hb hts hw1 hown hK hP 0 rfl rfl 0 (by decide) hf11 (fun _ h9 => h9) rfl dX1_init_27 ?_
  refine lv_iload_n hx hb dX1_init_30 rfl (lv_at hl 0 rfl) ?_
  refine va_new (ci := 2) (fs := [.int 0, .null, .null, .null, .null, .int 0, .null, .null, .null, .null, .null]) (C := RX2) (T := TX2) (N := 11) hx hb hts hw2 tyX2 tyX2_ok hown hcl hinst hini hK hP hD hS hA rfl k_O2f (Nat.le_of_ble_eq_true rfl) (Nat.le_of_ble_eq_true rfl) dX1_init_31 (fun q5 H hPa hDa hSa => ?_)
  refine lv_dup hx hb dX1_init_34 rfl ?_
  refine kn_callN (host := RX4) (e0 := k_O2) (T := fun u => (w_P g u k_P0).tail) (w' := fun u5 => k_w1 g h0 x (va_up (va_up (va_up (va_up (va_up (fun _ => none) (0 : Int32).toNatClampNeg (some (u0 0))) (1 : Int32).toNatClampNeg (some (u1 0))) (2 : Int32).toNatClampNeg (some (u2 0))) (3 : Int32).toNatClampNeg (some (u3 0))) (4 : Int32).toNatClampNeg (some (u4 0))) ++ w_P g u0 k_P0 ++ w_P g u1 k_P0 ++ w_P g u2 k_P0 ++ w_P g u3 k_P0 ++ w_P g u4 k_P0 ++ w_P g u5 k_P0) 52 hC (sX2_init l g q5) ⟨va_cnB 0 hts gX1_init_X2_init_n21 rfl rfl rfl hN.2.1 hini (by decide +kernel) ⟨Nat.le_of_ble_eq_true rfl, Nat.le_of_ble_eq_true rfl⟩, rfl, hinm⟩ hK hN hPa hDa hSa hA (kn_lastg rfl) (fun u hu => k_wfP hu) (fun u hu => (kn_last rfl).trans (congrArg _ (k_wfP hu).symm)) hl.1 (Nat.le_of_ble_eq_true rfl) dX1_init_35 ⟨Nat.le_of_ble_eq_true rfl, Nat.le_of_ble_eq_true rfl⟩ (fun u5 H locs hu5 hP hD hS => ?_)
  clear hPa hDa hSa
  obtain rfl := hu5
  refine kn_astq (w' := k_w1 g h0 x (va_up (va_up (va_up (va_up (va_up (va_up (fun _ => none) (0 : Int32).toNatClampNeg (some (u0 0))) (1 : Int32).toNatClampNeg (some (u1 0))) (2 : Int32).toNatClampNeg (some (u2 0))) (3 : Int32).toNatClampNeg (some (u3 0))) (4 : Int32).toNatClampNeg (some (u4 0))) (5 : Int32).toNatClampNeg (some (u5 0))) ++ w_P g u0 k_P0 ++ w_P g u1 k_P0 ++ w_P g u2 k_P0 ++ w_P g u3 k_P0 ++ w_P g u4 k_P0 ++ w_P g u5 k_P0) 52 hC hK hP hD hS 1 rfl rfl (kk_in 5 6 (by decide) (by decide) rfl) rfl dX1_init_38 (fun H locs hP hD hS => ?_)
  refine lv_iinc (v := (6 : Int32)) (lv' := [(1, .int (6 : Int32)), (0, .ref h0)]) hx hb dX1_init_39 hl (k := 0) rfl (by decide) (by decide) rfl (fun ls hl => ?_)
  refine lv_goto (tgt := 20) hx hb dX1_init_42 (by decide) ?_
  refine lv_iload_n hx hb dX1_init_20 rfl (lv_at hl 0 rfl) ?_
  refine lv_bipush (v := (6 : Int32)) hx hb dX1_init_21 (by decide) ?_
  refine lv_icmp_ge (tgt := 45) hx hb dX1_init_23 (by decide) (fun _ => ?_) (fun h9 => absurd (by decide) h9)
  have ef : (va_up (va_up (va_up (va_up (va_up (va_up (fun _ => none) (0 : Int32).toNatClampNeg (some (u0 0))) (1 : Int32).toNatClampNeg (some (u1 0))) (2 : Int32).toNatClampNeg (some (u2 0))) (3 : Int32).toNatClampNeg (some (u3 0))) (4 : Int32).toNatClampNeg (some (u4 0))) (5 : Int32).toNatClampNeg (some (u5 0))) = fun i => if i < 6 then some (k_ad2 [k_ad [h0, x], u0, u1, u2, u3, u4, u5] (1 + i) 0) else none := by
    funext i
    by_cases c : i < 6
    · rw [if_pos c]
      rcases (show i = 0 ∨ i = 1 ∨ i = 2 ∨ i = 3 ∨ i = 4 ∨ i = 5 by omega) with rfl | rfl | rfl | rfl | rfl | rfl <;> rfl
    · have t0 : (0 : Int32).toNatClampNeg = 0 := rfl
      have t1 : (1 : Int32).toNatClampNeg = 1 := rfl
      have t2 : (2 : Int32).toNatClampNeg = 2 := rfl
      have t3 : (3 : Int32).toNatClampNeg = 3 := rfl
      have t4 : (4 : Int32).toNatClampNeg = 4 := rfl
      have t5 : (5 : Int32).toNatClampNeg = 5 := rfl
      rw [if_neg c, t0, t1, t2, t3, t4, t5, va_up_ne _ _ (by omega), va_up_ne _ _ (by omega), va_up_ne _ _ (by omega), va_up_ne _ _ (by omega), va_up_ne _ _ (by omega), va_up_ne _ _ (by omega)]
  exact kn_ret (u := k_ad2 [k_ad [h0, x], u0, u1, u2, u3, u4, u5]) hC hr hlocks hK hP hD hS rfl (by rw [ef]; rfl) dX1_init_45
