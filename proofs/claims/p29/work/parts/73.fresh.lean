/-! the fresh object in the walks' order -/
def k_G0 : St2 := fun k => if k = 1 then k_P0 else if k = 2 then k_P0 else k_Z0
def k_V0 : St2 := fun k => if k = 0 then va_up k_Z0 1 nI else k_P0
abbrev dj (X Y : va_W) : Prop := ∀ (i j : Nat) (p q : Nat × va_E), X[i]? = some p → Y[j]? = some q → p.1 ≠ q.1
theorem va_P_l {D : va_G} {cl : List vw_C} {X Y : va_W} {H : Heap} (h : va_P D cl (X ++ Y) H) : va_P D cl X H := fun k q hk => h k q (by rw [List.getElem?_append_left (List.getElem?_eq_some_iff.mp hk).1]; exact hk)
theorem va_P_r {D : va_G} {cl : List vw_C} {X Y : va_W} {H : Heap} (h : va_P D cl (X ++ Y) H) : va_P D cl Y H := fun k q hk => h (X.length + k) q (by rw [List.getElem?_append_right (by omega), Nat.add_sub_cancel_left]; exact hk)
theorem va_D_l {A : Nat → Prop} {X Y : va_W} (h : va_D A (X ++ Y)) : va_D A X :=
  ⟨fun i j p q hi hj e => h.1 i j p q (by rw [List.getElem?_append_left (List.getElem?_eq_some_iff.mp hi).1]; exact hi) (by rw [List.getElem?_append_left (List.getElem?_eq_some_iff.mp hj).1]; exact hj) e, fun k q hk => h.2 k q (by rw [List.getElem?_append_left (List.getElem?_eq_some_iff.mp hk).1]; exact hk)⟩
theorem va_D_r {A : Nat → Prop} {X Y : va_W} (h : va_D A (X ++ Y)) : va_D A Y :=
  ⟨fun i j p q hi hj e => by
    have h1 := h.1 (X.length + i) (X.length + j) p q (by rw [List.getElem?_append_right (by omega), Nat.add_sub_cancel_left]; exact hi) (by rw [List.getElem?_append_right (by omega), Nat.add_sub_cancel_left]; exact hj) e
    omega, fun k q hk => h.2 (X.length + k) q (by rw [List.getElem?_append_right (by omega), Nat.add_sub_cancel_left]; exact hk)⟩
theorem va_D_x {A : Nat → Prop} {X Y : va_W} (h : va_D A (X ++ Y)) : dj X Y := fun i j p q hi hj e => by
  have hl := (List.getElem?_eq_some_iff.mp hi).1
  have h1 := h.1 i (X.length + j) p q (by rw [List.getElem?_append_left hl]; exact hi) (by rw [List.getElem?_append_right (by omega), Nat.add_sub_cancel_left]; exact hj) e
  omega
theorem dj_s {X Y : va_W} (h : dj X Y) : dj Y X := fun i j p q hi hj e => h j i q p hj hi e.symm
theorem dj_l {X Y Z : va_W} (h : dj (X ++ Y) Z) : dj X Z := fun i j p q hi hj => h i j p q (by rw [List.getElem?_append_left (List.getElem?_eq_some_iff.mp hi).1]; exact hi) hj
theorem dj_r {X Y Z : va_W} (h : dj (X ++ Y) Z) : dj Y Z := fun i j p q hi hj => h (X.length + i) j p q (by rw [List.getElem?_append_right (by omega), Nat.add_sub_cancel_left]; exact hi) hj
theorem dj_a {X Y Z : va_W} (h1 : dj X Z) (h2 : dj Y Z) : dj (X ++ Y) Z := fun i j p q hi hj => by
  by_cases c : i < X.length
  · rw [List.getElem?_append_left c] at hi; exact h1 i j p q hi hj
  · rw [List.getElem?_append_right (by omega)] at hi; exact h2 _ j p q hi hj
theorem kn_fixH {D : va_G} {cl : List vw_C} {A : Nat → Prop} {g : kG} {h : Nat → Nat → Nat} {H : Heap} (hP : va_P D cl (k_wH g h) H) (hD : va_D A (k_wH g h)) : va_P D cl (w_H g (h 0 0) h k_V0) H ∧ va_D A (w_H g (h 0 0) h k_V0) := by
  have hi : (k_wH g h)[1]? = some (h 0 1, .inl (g.2.2.2, 6, .inr (.inr (.inr (.inr fun i => if i < 6 then some (h (1 + i) 0) else none))))) := rfl
  have hc : vp_cell g.2.2.2 (6, .inr (.inr (.inr (.inr (k_ord h (k_V0 0 1)))))) = vp_cell g.2.2.2 (6, .inr (.inr (.inr (.inr fun i => if i < 6 then some (h (1 + i) 0) else none)))) := by
    rw [vp_cell_q, vp_cell_q]
    refine kn_arrc (fun i hi => ?_)
    have e1 : k_V0 0 1 i = nI i := rfl
    rw [if_pos hi]
    show va_rf (some (h (1 + (k_V0 0 1 i).toNatClampNeg) 0)) = _
    rw [e1, nI_clamp (by omega)]
  have ha : va_at D cl (h 0 1, .inl (g.2.2.2, 6, .inr (.inr (.inr (.inr (k_ord h (k_V0 0 1))))))) H := by
    have h1 : H[h 0 1]? = some (vp_cell g.2.2.2 (6, .inr (.inr (.inr (.inr fun i => if i < 6 then some (h (1 + i) 0) else none))))) := hP 1 _ hi
    show H[h 0 1]? = some (vp_cell g.2.2.2 (6, .inr (.inr (.inr (.inr (k_ord h (k_V0 0 1)))))))
    rw [hc]
    exact h1
  exact ⟨hP.set hD hi ha (fun _ _ => rfl), hD.set hi⟩
theorem kn_order {D : va_G} {cl : List vw_C} {A : Nat → Prop} {g : kG} {a h : Nat → Nat → Nat} {H : Heap} (e : a 0 2 = h 0 0) (hP : va_P D cl (k_wN g a h) H) (hD : va_D A (k_wN g a h)) : va_P D cl (w_F g a k_G0 ++ w_H g (a 0 2) h k_V0) H ∧ va_D A (w_F g a k_G0 ++ w_H g (a 0 2) h k_V0) := by
  rw [e]
  have pU := va_P_r hP
  have p6 := va_P_l hP
  have pR := va_P_r p6
  have p5 := va_P_l p6
  have pB := va_P_r p5
  have p4 := va_P_l p5
  have pH := va_P_r p4
  have p3 := va_P_l p4
  have p2 := va_P_r p3
  have p02 := va_P_l p3
  have p1 := va_P_r p02
  have p0 := va_P_l p02
  have dU := va_D_r hD
  have xU := va_D_x hD
  have d6 := va_D_l hD
  have dR := va_D_r d6
  have xR := va_D_x d6
  have d5 := va_D_l d6
  have dB := va_D_r d5
  have xB := va_D_x d5
  have d4 := va_D_l d5
  have dH := va_D_r d4
  have xH := va_D_x d4
  have d3 := va_D_l d4
  have d2 := va_D_r d3
  have x2 := va_D_x d3
  have d02 := va_D_l d3
  have d1 := va_D_r d02
  have x1 := va_D_x d02
  have d0 := va_D_l d02
  obtain ⟨pH', dH'⟩ := kn_fixH pH dH
  have xHa : ∀ (Z : va_W), dj Z (k_wH g h) → dj Z (w_H g (h 0 0) h k_V0) := by
    intro Z hz i j p q hi hj heq
    have hm : (w_H g (h 0 0) h k_V0).map Prod.fst = (k_wH g h).map Prod.fst := by
      show ((k_wH g h).set 1 (h 0 1, .inl (g.2.2.2, 6, .inr (.inr (.inr (.inr (k_ord h (k_V0 0 1)))))))).map Prod.fst = _
      rw [List.map_set]
      exact List.set_getElem_self (i := 1) (by rw [List.length_map]; exact Nat.le_of_ble_eq_true rfl)
    have h1 : ((w_H g (h 0 0) h k_V0).map Prod.fst)[j]? = some q.1 := by rw [List.getElem?_map, hj]; rfl
    rw [hm, List.getElem?_map] at h1
    cases hq : (k_wH g h)[j]? with
    | none => rw [hq] at h1; cases h1
    | some q' =>
      rw [hq] at h1
      have h2 : q'.1 = q.1 := Option.some.inj h1
      exact hz i j p q' hi hq (heq.trans h2.symm)
  have pF0 : va_P D cl (k_wF (a 0 0) [.ref (a 1 0), .ref (a 2 0), .ref (a 0 2), .ref (a 3 0), .ref (a 4 0), .ref (a 0 5), .int (k_G0 0 6 0)] ++ [(a 0 5, .inl (g.2.1, 60, .inl (k_G0 0 5)))]) H := by
    rw [e]
    exact p0.app pU
  have xU0 := dj_l (dj_l (dj_l (dj_l (dj_l xU))))
  have dF0 : va_D A (k_wF (a 0 0) [.ref (a 1 0), .ref (a 2 0), .ref (a 0 2), .ref (a 3 0), .ref (a 4 0), .ref (a 0 5), .int (k_G0 0 6 0)] ++ [(a 0 5, .inl (g.2.1, 60, .inl (k_G0 0 5)))]) := by
    rw [e]
    exact d0.app dU xU0
  refine ⟨((((pF0.app p1).app p2).app pB).app pR).app pH', ?_⟩
  have y1 := dj_r (dj_l (dj_l (dj_l (dj_l xU))))
  have y2 := dj_r (dj_l (dj_l (dj_l xU)))
  have yH := dj_r (dj_l (dj_l xU))
  have yB := dj_r (dj_l xU)
  have yR := dj_r xU
  have zF : ∀ (Z : va_W), dj (k_wF (a 0 0) [.ref (a 1 0), .ref (a 2 0), .ref (h 0 0), .ref (a 3 0), .ref (a 4 0), .ref (a 0 5), .int 0]) Z → dj [(a 0 5, .inl (g.2.1, 60, .inl fun _ => 0))] Z → dj (k_wF (a 0 0) [.ref (a 1 0), .ref (a 2 0), .ref (a 0 2), .ref (a 3 0), .ref (a 4 0), .ref (a 0 5), .int (k_G0 0 6 0)] ++ [(a 0 5, .inl (g.2.1, 60, .inl (k_G0 0 5)))]) Z := by
    intro Z h1 h2
    rw [e]
    exact dj_a h1 h2
  have c1 := zF _ x1 (dj_s y1)
  have c2 := zF _ (dj_l x2) (dj_s y2)
  have cB := zF _ (dj_l (dj_l (dj_l xB))) (dj_s yB)
  have cR := zF _ (dj_l (dj_l (dj_l (dj_l xR)))) (dj_s yR)
  have cH := zF _ (xHa _ (dj_l (dj_l xH))) (xHa _ (dj_s yH))
  refine ((((dF0.app d1 c1).app d2 (dj_a c2 (dj_r x2))).app dB (dj_a (dj_a cB (dj_r (dj_l (dj_l xB)))) (dj_r (dj_l xB)))).app dR (dj_a (dj_a (dj_a cR (dj_r (dj_l (dj_l (dj_l xR))))) (dj_r (dj_l (dj_l xR)))) (dj_r xR))).app dH' ?_
  refine dj_a (dj_a (dj_a (dj_a cH ?_) ?_) ?_) ?_
  · exact xHa _ (dj_r (dj_l xH))
  · exact xHa _ (dj_r xH)
  · exact xHa _ (dj_s (dj_r xB))
  · exact xHa _ (dj_s (dj_r (dj_l xR)))
theorem RR_fresh : RR k_G0 k_V0 k_M0 := by
  refine RR_new rfl rfl (fun i hi => ?_) rfl rfl (fun i hi => rfl) (fun k hk => ?_) rfl rfl
  · rcases (show i = 0 ∨ i = 1 ∨ i = 2 ∨ i = 3 by omega) with rfl | rfl | rfl | rfl <;> rfl
  · have t0 : (0 : Int32).toNatClampNeg = 0 := rfl
    have t1 : (1 : Int32).toNatClampNeg = 1 := rfl
    have t2 : (2 : Int32).toNatClampNeg = 2 := rfl
    have t3 : (3 : Int32).toNatClampNeg = 3 := rfl
    by_cases c : k < 4
    · rcases (show k = 0 ∨ k = 1 ∨ k = 2 ∨ k = 3 by omega) with rfl | rfl | rfl | rfl <;> rfl
    · show k_S0 k = _
      unfold k_S0 s_new
      rw [t0, t1, t2, t3, pk_un (by omega), pk_un (by omega), pk_un (by omega), pk_un (by omega), if_neg (by omega), if_neg (by omega), if_neg (by omega), if_neg (by omega)]
      rfl
