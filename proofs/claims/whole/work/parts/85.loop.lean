/-! the law's loop -/
theorem kL_31 (x : Int32) : ∃ t : Nat, t ≤ 31 ∧ (x &&& 31).toInt = (t : Int) := by
  refine ⟨(x.toBitVec &&& 31#32).toNat, ?_, ?_⟩
  · rw [BitVec.toNat_and]; exact Nat.and_le_right
  · show (x.toBitVec &&& 31#32).toInt = _
    rw [BitVec.toInt_eq_toNat_cond, if_pos]
    have h1 : (x.toBitVec &&& 31#32).toNat ≤ 31 := by rw [BitVec.toNat_and]; exact Nat.and_le_right
    omega
theorem kL_gd {k L : Nat} (hL : L ≤ 2560) (h5 : 5 * k ≤ 2560) (c : ¬ (Int32.ofNat L - 5 < nI (5 * k))) : 5 * k + 5 ≤ L := by
  by_cases c5 : 5 ≤ L
  · obtain ⟨d, rfl⟩ : ∃ d, L = d + 5 := ⟨L - 5, by omega⟩
    have e : Int32.ofNat (d + 5) - 5 = nI d := by
      show nI (d + 5) - nI 5 = nI d
      rw [kl_sub (by omega), Nat.add_sub_cancel]
    rw [e] at c
    by_cases q : 5 * k ≤ d
    · omega
    · exact absurd (nI_lt (by omega) (by omega)) c
  · exfalso
    apply c
    rw [Int32.lt_iff_toInt_lt, nI_toInt (by omega)]
    rcases (show L = 0 ∨ L = 1 ∨ L = 2 ∨ L = 3 ∨ L = 4 by omega) with rfl | rfl | rfl | rfl | rfl
    all_goals exact Int.lt_of_lt_of_le (show (_ : Int) < 0 by decide) (by omega)
section KBody
variable {p : Program} {l : Launch} {e : Env} {s : State} {m : MethodId} {args : Array Value} {below : List Frame} {meth : Method} {c : Code} {Q : State → Prop} {g : kG} {cL : ClassId} {A : Nat → Prop} {b L : Nat} {xs : Nat → Int32} {a h : Nat → Nat → Nat} {mb : Nat → Nat} {o k n : Nat}

set_option maxHeartbeats 8000000 in
set_option maxRecDepth 100000 in
theorem kB_go (E : kL_E p l s m args c g cL A b L xs) (hk : 5 * k + 5 ≤ L) (hn : 300000 ≤ n) (h5 : 5 * k ≤ 2560) {c0 s0 : Nat} (hf : c0 + 1 ≤ 617796 ∧ s0 + 6 ≤ 7242715) (J : kL_J p l e s m args below meth c Q g cL A b a h mb o k 1500 (c0 + 1) (s0 + 6)) {G V : St2} {M : St1} {f : Nat → Int64} (hRR : RR G V M) {H : Heap} {locs : List Loc} {ls : Array Slot} (hP : va_P g.1 vwCl (kL_w g cL a h mb o G V M f) H) (hD : va_D A (kL_w g cL a h mb o G V M f)) (hS : va_S A s.heap H locs) (hl : lv_has ls 9 (kL_l b a mb o k)) : W p l e room_1 s m args below meth c H locs c0 s0 Q (F0 m 32 ls []) := by
  obtain ⟨hC, hst, hK4, hG, hNx, hA, hX, hbl, hbA, hL⟩ := id E
  obtain ⟨hx, hb, hml, hown, hts⟩ := id hC
  have hK := kT4_sub hK4
  obtain ⟨h_0, h_1, h_2, h_3, h_4⟩ := kL_in hk hL
  refine lv_aload_n hx hb dL_law_32 rfl (lv_at hl 0 rfl) ?_
  refine lv_iload hx hb dL_law_33 (lv_at hl 4 rfl) ?_
  refine va_sld hx hb hX hbl hbA hS h_0 dL_law_35 ?_
  refine lv_bipush (v := (31 : Int32)) hx hb dL_law_36 (by decide) ?_
  refine lv_iand hx hb dL_law_38 ?_
  obtain ⟨t, ht, et⟩ := kL_31 (xs (nI (5 * k)).toNatClampNeg)
  by_cases c26 : 26 ≤ t
  · refine lv_tableOut (tgt := 1500) hx hb dL_law_39 (Or.inr (by rw [et]; omega)) (by decide) ?_
    exact kw_widen (k := c0 + 1) (j := s0 + 6) (Nat.le_add_right _ _) (Nat.le_add_right _ _) (J G V M f H locs ls hP hD hS hRR hl)
  · have q1 : ¬ (xs (nI (5 * k)).toNatClampNeg &&& 31).toInt < 0 := by rw [et]; omega
    have q2 : ¬ 25 < (xs (nI (5 * k)).toNatClampNeg &&& 31).toInt := by rw [et]; omega
    rcases (show t = 0 ∨ t = 1 ∨ t = 2 ∨ t = 3 ∨ t = 4 ∨ t = 5 ∨ t = 6 ∨ t = 7 ∨ t = 8 ∨ t = 9 ∨ t = 10 ∨ t = 11 ∨ t = 12 ∨ t = 13 ∨ t = 14 ∨ t = 15 ∨ t = 16 ∨ t = 17 ∨ t = 18 ∨ t = 19 ∨ t = 20 ∨ t = 21 ∨ t = 22 ∨ t = 23 ∨ t = 24 ∨ t = 25 by omega) with rfl | rfl | rfl | rfl | rfl | rfl | rfl | rfl | rfl | rfl | rfl | rfl | rfl | rfl | rfl | rfl | rfl | rfl | rfl | rfl | rfl | rfl | rfl | rfl | rfl | rfl
    · exact lv_tableIn (off := 117) (tgt := 156) hx hb dL_law_39 q1 q2 (by rw [et]; rfl) (by decide) (kB_put E hk hn hf J hRR hP hD hS hl)
    · exact lv_tableIn (off := 209) (tgt := 248) hx hb dL_law_39 q1 q2 (by rw [et]; rfl) (by decide) (kB_remove E hk hn hf J hRR hP hD hS hl)
    · exact lv_tableIn (off := 265) (tgt := 304) hx hb dL_law_39 q1 q2 (by rw [et]; rfl) (by decide) (kB_move E hk hn hf J hRR hP hD hS hl)
    · exact lv_tableIn (off := 333) (tgt := 372) hx hb dL_law_39 q1 q2 (by rw [et]; rfl) (by decide) (kB_exchange E hk hn hf J hRR hP hD hS hl)
    · by_cases hz : kL_x xs k 2 = 0
      · exact lv_tableIn (off := 401) (tgt := 440) hx hb dL_law_39 q1 q2 (by rw [et]; rfl) (by decide) (kB_fold0 E hk hz hn hf J hRR hP hD hS hl)
      · exact lv_tableIn (off := 401) (tgt := 440) hx hb dL_law_39 q1 q2 (by rw [et]; rfl) (by decide) (kB_fold1 E hk hz hn hf J hRR hP hD hS hl)
    · exact lv_tableIn (off := 485) (tgt := 524) hx hb dL_law_39 q1 q2 (by rw [et]; rfl) (by decide) (kB_arrange E hk hn hf J hRR hP hD hS hl)
    · exact lv_tableIn (off := 498) (tgt := 537) hx hb dL_law_39 q1 q2 (by rw [et]; rfl) (by decide) (kB_bridge E hk hn hf J hRR hP hD hS hl)
    · exact lv_tableIn (off := 566) (tgt := 605) hx hb dL_law_39 q1 q2 (by rw [et]; rfl) (by decide) (kB_unbridge E hk hn hf J hRR hP hD hS hl)
    · exact lv_tableIn (off := 622) (tgt := 661) hx hb dL_law_39 q1 q2 (by rw [et]; rfl) (by decide) (kB_set E hk hn hf J hRR hP hD hS hl)
    · exact lv_tableIn (off := 690) (tgt := 729) hx hb dL_law_39 q1 q2 (by rw [et]; rfl) (by decide) (kB_append E hk hn hf J hRR hP hD hS hl)
    · exact lv_tableIn (off := 746) (tgt := 785) hx hb dL_law_39 q1 q2 (by rw [et]; rfl) (by decide) (kB_clearBuffer E hk hn hf J hRR hP hD hS hl)
    · exact lv_tableIn (off := 759) (tgt := 798) hx hb dL_law_39 q1 q2 (by rw [et]; rfl) (by decide) (kB_firstError E hk hn hf J hRR hP hD hS hl)
    · exact lv_tableIn (off := 772) (tgt := 811) hx hb dL_law_39 q1 q2 (by rw [et]; rfl) (by decide) (kB_putAll E hk hn hf J hRR hP hD hS hl)
    · exact lv_tableIn (off := 816) (tgt := 855) hx hb dL_law_39 q1 q2 (by rw [et]; rfl) (by decide) (kB_undo E hk hn hf J hRR hP hD hS hl)
    · exact lv_tableIn (off := 860) (tgt := 899) hx hb dL_law_39 q1 q2 (by rw [et]; rfl) (by decide) (kB_floatAt E hk hn hf J hRR hP hD hS hl)
    · exact lv_tableIn (off := 928) (tgt := 967) hx hb dL_law_39 q1 q2 (by rw [et]; rfl) (by decide) (kB_trouble E hk hn hf J hRR hP hD hS hl)
    · exact lv_tableIn (off := 996) (tgt := 1035) hx hb dL_law_39 q1 q2 (by rw [et]; rfl) (by decide) (kB_comes E hk hn hf J hRR hP hD hS hl)
    · exact lv_tableIn (off := 1064) (tgt := 1103) hx hb dL_law_39 q1 q2 (by rw [et]; rfl) (by decide) (kB_bridgeOf E hk hn hf J hRR hP hD hS hl)
    · exact lv_tableIn (off := 1132) (tgt := 1171) hx hb dL_law_39 q1 q2 (by rw [et]; rfl) (by decide) (kB_count E hk hn hf J hRR hP hD hS hl)
    · exact lv_tableIn (off := 1188) (tgt := 1227) hx hb dL_law_39 q1 q2 (by rw [et]; rfl) (by decide) (kB_setting E hk hn hf J hRR hP hD hS hl)
    · exact lv_tableIn (off := 1244) (tgt := 1283) hx hb dL_law_39 q1 q2 (by rw [et]; rfl) (by decide) (kB_ifMoved E hk hn hf J hRR hP hD hS hl)
    · exact lv_tableIn (off := 1324) (tgt := 1363) hx hb dL_law_39 q1 q2 (by rw [et]; rfl) (by decide) (kB_bestPlace E hk hn hf J hRR hP hD hS hl)
    · exact lv_tableIn (off := 1380) (tgt := 1419) hx hb dL_law_39 q1 q2 (by rw [et]; rfl) (by decide) (kB_bestFold E hk hn hf J hRR hP hD hS hl)
    · exact lv_tableIn (off := 1393) (tgt := 1432) hx hb dL_law_39 q1 q2 (by rw [et]; rfl) (by decide) (kB_leastTrouble E hk hn hf J hRR hP hD hS hl)
    · exact lv_tableIn (off := 1406) (tgt := 1445) hx hb dL_law_39 q1 q2 (by rw [et]; rfl) (by decide) (kB_smoothness E hk hn hf J hRR hP hD hS hl)
    · exact lv_tableIn (off := 1447) (tgt := 1486) hx hb dL_law_39 q1 q2 (by rw [et]; rfl) (by decide) (kB_digest E hk hn hf J hRR hP hD hS hl)
set_option maxHeartbeats 8000000 in
set_option maxRecDepth 100000 in
theorem kB_loop (E : kL_E p l s m args c g cL A b L xs) (hn : 300000 ≤ n) (X : ∀ k : Nat, k ≤ 512 → kL_J p l e s m args below meth c Q g cL A b a h mb o k 1506 (94 + k) (1421 + 6 * k)) :
    ∀ (j k : Nat), j + k = 512 → 5 * k ≤ L → kL_J p l e s m args below meth c Q g cL A b a h mb o k 23 (94 + k) (1421 + 6 * k) := by
  obtain ⟨hC, hst, hK4, hG, hNx, hA, hX, hbl, hbA, hL⟩ := id E
  obtain ⟨hx, hb, hml, hown, hts⟩ := id hC
  intro j
  induction j with
  | zero =>
    intro k hj h5 G V M f H locs ls hP hD hS hRR hl
    refine lv_iload hx hb dL_law_23 (lv_at hl 4 rfl) ?_
    refine lv_aload_n hx hb dL_law_25 rfl (lv_at hl 0 rfl) ?_
    refine va_slen hx hb hX hbl hbA hS dL_law_26 ?_
    refine lv_iconst (v := (5 : Int32)) hx hb dL_law_27 (by decide) ?_
    refine lv_isub hx hb dL_law_28 ?_
    refine lv_icmp_gt (tgt := 1506) hx hb dL_law_29 (by decide) (fun _ => X k (by omega) G V M f H locs ls hP hD hS hRR hl) (fun c9 => ?_)
    exact absurd (kL_gd hL (by omega) c9) (by omega)
  | succ j ih =>
    intro k hj h5 G V M f H locs ls hP hD hS hRR hl
    refine lv_iload hx hb dL_law_23 (lv_at hl 4 rfl) ?_
    refine lv_aload_n hx hb dL_law_25 rfl (lv_at hl 0 rfl) ?_
    refine va_slen hx hb hX hbl hbA hS dL_law_26 ?_
    refine lv_iconst (v := (5 : Int32)) hx hb dL_law_27 (by decide) ?_
    refine lv_isub hx hb dL_law_28 ?_
    refine lv_icmp_gt (tgt := 1506) hx hb dL_law_29 (by decide) (fun _ => X k (by omega) G V M f H locs ls hP hD hS hRR hl) (fun c9 => ?_)
    have hk := kL_gd hL (by omega) c9
    refine kB_go E hk hn (by omega) ⟨by omega, by omega⟩ (fun G V M f H locs ls hP hD hS hRR hl => ?_) hRR hP hD hS hl
    refine lv_iinc (v := nI (5 * (k + 1))) (lv' := [(4, .int (nI (5 * (k + 1)))), (0, .ref b), (1, .ref (a 0 0)), (2, .ref (mb 0)), (3, .ref o)]) hx hb dL_law_1500 hl (k := 4) rfl (by rw [show 5 * (k + 1) = 5 * k + 5 by omega]; exact nI_add (5 * k) 5) (by decide) rfl (fun ls hl => ?_)
    refine lv_goto (tgt := 23) hx hb dL_law_1503 (by decide) ?_
    refine kw_widen (k := 94 + (k + 1)) (j := 1421 + 6 * (k + 1)) (by omega) (by omega) ?_
    exact ih (k + 1) (by omega) (by omega) G V M f H locs ls hP hD hS hRR (lv_sub hl [1, 2, 3, 4, 0] rfl)
end KBody
