/-! the law's body: its world and its calls at any room -/
def kL_w (g : kG) (cL : ClassId) (a h : Nat → Nat → Nat) (b : Nat → Nat) (o : Nat) (G V : St2) (M : St1) (f : Nat → Int64) : va_W := w_F g a G ++ w_H g (a 0 2) h V ++ w_M g b M ++ [(o, .inl (cL, 1, .inr (.inl f)))]
abbrev kL_l (b : Nat) (a : Nat → Nat → Nat) (mb : Nat → Nat) (o k : Nat) : List (Nat × Value) := [(0, .ref b), (1, .ref (a 0 0)), (2, .ref (mb 0)), (3, .ref o), (4, .int (nI (5 * k)))]
abbrev kL_iF : List Nat := List.range 86 ++ [93]
abbrev kL_iG : List Nat := List.range 24 ++ [93]
abbrev kL_iM : List Nat := (List.range 7).map (fun i => i + 86)
abbrev kL_iA : List Nat := List.range 86
abbrev kL_iB : List Nat := List.range 24
theorem kL_gl {α : Type} {X Y : List α} {i : Nat} (n : Nat) (hn : X.length = n) (h : i < n) : (X ++ Y)[i]? = X[i]? := List.getElem?_append_left (by omega)
theorem kL_gr {α : Type} {X Y : List α} (n : Nat) (hn : X.length = n) (j : Nat) : (X ++ Y)[n + j]? = Y[j]? := by
  rw [List.getElem?_append_right (by omega)]
  congr 1
  omega
section KLw
variable {g : kG} {cL : ClassId} {a h : Nat → Nat → Nat} {b : Nat → Nat} {o : Nat} {G V G' V' : St2} {M M' : St1} {f f' : Nat → Int64}
theorem kL_mA : kL_iA.map (fun i => (kL_w g cL a h b o G V M f)[i]?) = (w_F g a G ++ w_H g (a 0 2) h V).map some := kk_ml 93 rfl (by decide +kernel) (kk_ml 86 rfl (by decide +kernel) (kk_m0 86 rfl rfl))
theorem kL_mB : kL_iB.map (fun i => (kL_w g cL a h b o G V M f)[i]?) = (w_F g a G).map some := kk_ml 93 rfl (by decide +kernel) (kk_ml 86 rfl (by decide +kernel) (kk_ml 24 rfl (by decide +kernel) (kk_m0 24 rfl rfl)))
theorem kL_mM : kL_iM.map (fun i => (kL_w g cL a h b o G V M f)[i]?) = (w_M g b M).map some := kk_ml 93 rfl (by decide +kernel) (kk_mr (js := List.range 7) 86 rfl rfl (kk_m0 7 rfl rfl))
theorem kL_mO : [93].map (fun i => (kL_w g cL a h b o G V M f)[i]?) = ([(o, .inl (cL, 1, .inr (.inl f)))] : va_W).map some := kk_mr (js := [0]) 93 rfl rfl rfl
theorem kL_mF : kL_iF.map (fun i => (kL_w g cL a h b o G V M f)[i]?) = (w_F g a G ++ w_H g (a 0 2) h V ++ [(o, .inl (cL, 1, .inr (.inl f)))] : va_W).map some := kk_m2 (is1 := kL_iA) (is2 := [93]) rfl kL_mA kL_mO
theorem kL_mG : kL_iG.map (fun i => (kL_w g cL a h b o G V M f)[i]?) = (w_F g a G ++ [(o, .inl (cL, 1, .inr (.inl f)))] : va_W).map some := kk_m2 (is1 := kL_iB) (is2 := [93]) rfl kL_mB kL_mO
theorem kL_sA : kk_set (kL_w g cL a h b o G V M f) kL_iA (w_F g a G' ++ w_H g (a 0 2) h V') = kL_w g cL a h b o G' V' M f := kk_sl 93 rfl (by decide +kernel) (kk_sl 86 rfl (by decide +kernel) (kk_s0 86 rfl rfl rfl))
theorem kL_sB : kk_set (kL_w g cL a h b o G V M f) kL_iB (w_F g a G') = kL_w g cL a h b o G' V M f := kk_sl 93 rfl (by decide +kernel) (kk_sl 86 rfl (by decide +kernel) (kk_sl 24 rfl (by decide +kernel) (kk_s0 24 rfl rfl rfl)))
theorem kL_sM : kk_set (kL_w g cL a h b o G V M f) kL_iM (w_M g b M') = kL_w g cL a h b o G V M' f := kk_sl 93 rfl (by decide +kernel) (kk_sr (js := List.range 7) 86 rfl rfl (kk_s0 7 rfl rfl rfl))
theorem kL_sO : kk_set (kL_w g cL a h b o G V M f) [93] [(o, .inl (cL, 1, .inr (.inl f')))] = kL_w g cL a h b o G V M f' := kk_sr (js := [0]) 93 rfl rfl rfl
theorem kL_sF : kk_set (kL_w g cL a h b o G V M f) kL_iF (w_F g a G' ++ w_H g (a 0 2) h V' ++ [(o, .inl (cL, 1, .inr (.inl f')))]) = kL_w g cL a h b o G' V' M f' := kk_set2 (is1 := kL_iA) (is2 := [93]) rfl rfl kL_sA kL_sO
theorem kL_sG : kk_set (kL_w g cL a h b o G V M f) kL_iG (w_F g a G' ++ [(o, .inl (cL, 1, .inr (.inl f')))]) = kL_w g cL a h b o G' V M f' := kk_set2 (is1 := kL_iB) (is2 := [93]) rfl rfl kL_sB kL_sO
theorem kL_0 : ∃ fs, (kL_w g cL a h b o G V M f)[0]? = some (a 0 0, .inr (4, fs)) := ⟨_, rfl⟩
theorem kL_86 : ∃ fs, (kL_w g cL a h b o G V M f)[86]? = some (b 0, .inr (5, fs)) := ⟨_, ((kL_gl 93 rfl (by decide)).trans (kL_gr 86 rfl 0)).trans rfl⟩
theorem kL_93 : (kL_w g cL a h b o G V M f)[93]? = some (o, .inl (cL, 1, .inr (.inl f))) := (kL_gr 93 rfl 0).trans rfl
end KLw
theorem kL_nF : va_nd kL_iF = true := by decide +kernel
theorem kL_nG : va_nd kL_iG = true := by decide +kernel
theorem kL_nM : va_nd kL_iM = true := by decide +kernel
theorem kL_nA : va_nd kL_iA = true := by decide +kernel
theorem kL_nB : va_nd kL_iB = true := by decide +kernel
/-- what stands all through the law's run -/
def kL_E (p : Program) (l : Launch) (s : State) (m : MethodId) (args : Array Value) (c : Code) (g : kG) (cL : ClassId) (A : Nat → Prop) (b L : Nat) (xs : Nat → Int32) : Prop :=
  CallFix p m c cL_law 9 s args wsL_law RL ∧ l.stackTraces = false ∧ va_K g.1 vwCl (kT4 g cL) s ∧ k_Gs A s s.heap ∧ k_Nx s ∧ (∀ q, s.heap.size ≤ q → A q) ∧ va_X b L xs s s.heap ∧ b < s.heap.size ∧ ¬ A b ∧ L ≤ 2560
/-- a continuation at a place of the law -/
def kL_J (p : Program) (l : Launch) (e : Env) (s : State) (m : MethodId) (args : Array Value) (below : List Frame) (meth : Method) (c : Code) (Q : State → Prop) (g : kG) (cL : ClassId) (A : Nat → Prop) (b : Nat) (a h : Nat → Nat → Nat) (mb : Nat → Nat) (o k pc c1 s1 : Nat) : Prop :=
  ∀ (G V : St2) (M : St1) (f : Nat → Int64) (H : Heap) (locs : List Loc) (ls : Array Slot), va_P g.1 vwCl (kL_w g cL a h mb o G V M f) H → va_D A (kL_w g cL a h mb o G V M f) → va_S A s.heap H locs → RR G V M → lv_has ls 9 (kL_l b a mb o k) → W p l e room_1 s m args below meth c H locs c1 s1 Q (F0 m pc ls [])
theorem kL_in {k L : Nat} (hk : 5 * k + 5 ≤ L) (hL : L ≤ 2560) : vp_in (nI (5 * k)) L ∧ vp_in (nI (5 * k) + 1) L ∧ vp_in (nI (5 * k) + 2) L ∧ vp_in (nI (5 * k) + 3) L ∧ vp_in (nI (5 * k) + 4) L := by
  rw [kl_1, kl_2, kl_3, kl_4, nI_add, nI_add, nI_add, nI_add]
  exact ⟨vp_in_nI (by omega) (by omega), vp_in_nI (by omega) (by omega), vp_in_nI (by omega) (by omega), vp_in_nI (by omega) (by omega), vp_in_nI (by omega) (by omega)⟩
theorem kL_u0 {f : Nat → Int64} {x : Int64} : (vp_updL f (0 : Int32).toNatClampNeg x) (0 : Int32).toNatClampNeg = x := by simp [vp_updL]
theorem kL_cmp (x : Int64) : lg_cmp x x = 0 := (lg_cmp_eq x x).mpr rfl
theorem kL_cm {x y : Int64} (h : x = y) : lg_cmp x y = 0 := (lg_cmp_eq x y).mpr h
abbrev kL_x (xs : Nat → Int32) (k : Nat) (j : Int32) : Int32 := xs (nI (5 * k) + j).toNatClampNeg
section KRc
variable {p : Program} {l : Launch} {e : Env} {R : Room} {s : State} {m : MethodId} {args : Array Value} {below : List Frame} {meth : Method} {c : Code} {H : Heap} {locs : List Loc} {Q : State → Prop}
variable {y : MethodName} {bytes cc : ByteArray} {maxL nL n index pc cells slots : Nat} {ret : Option FieldType} {ws : List Cond} {rm : Room} {Ts : List Cond} {own C : String} {b : Addr} {As rest st0 : List Value} {ls : Array Slot} {g : kG} {w wc w1 w' : va_W} {A : Nat → Prop}
theorem kr_Vi {r : Int32} {q : vw_C} {fs : List Value} (q0 ci : Nat) (S : CallFix p m c cc nL s args Ts own) (hSp : kSp l g y ws rm (.ref b :: As) wc (kQi g w1 r)) (cw : CallW R s args own C index y bytes maxL ret ws rm 0 0 n)
    (hK : va_K g.1 vwCl (kT g) s) (hP : va_P g.1 vwCl w H) (hD : va_D A w) (hS : va_S A s.heap H locs) (hA : ∀ q, s.heap.size ≤ q → A q) (is : List Nat) (hC : is.map (fun i => w[i]?) = wc.map some) (hnd : va_nd is = true) (hadr : w1.map Prod.fst = wc.map Prod.fst) (hw : kk_set w is w1 = w')
    (hcl : vwCl[ci]? = some q) (he : w[q0]? = some (b, .inr (ci, fs))) (hCn : q.1 = C) (hst : st0 = As.reverse ++ .ref b :: rest) (hn : As.length = n) (hsz : ls.size = nL) (hroom : (rest.map fun v => v.category).sum ≤ 8) (hdg : decode cc pc = .ok (.invokevirtual index, 3)) (hf : cells ≤ R.cells ∧ slots ≤ R.slots)
    (kk : ∀ (H1 : Heap) (locs1 : List Loc), va_P g.1 vwCl w' H1 → va_D A w' → va_S A s.heap H1 locs1 → W p l e R s m args below meth c H1 locs1 cells slots Q (F0 m (pc + 3) ls (.int r :: rest))) : W p l e R s m args below meth c H locs cells slots Q (F0 m pc ls st0) := by
  have hpre := kk_preV (wc := wc) (av := .ref b :: As) hK hP hD is hnd hC
  have hFc := kk_free hD hS hA is hC
  subst hCn
  refine va_calli (va_runV S (hSp H.size) cw ⟨hpre.1, va_recv hK hP hcl he, hpre.2⟩ rfl hn hsz hst (lv_room hroom) hdg hf) hS (fun q _ h => hFc q h) hFc (fun r1 u t H1 locs1 ht hvm hp hB hz1 hk1 hS1 => ?_)
  obtain ⟨hP1, -, -⟩ := hB
  rw [ht] at hP1
  obtain ⟨h1, h2⟩ := kk_join hP hD is hC hnd hadr hk1 hP1
  rw [hw] at h1 h2
  subst hp
  exact kk H1 locs1 h1 h2 hS1
theorem kr_Vl {r : Int64} {q : vw_C} {fs : List Value} (q0 ci : Nat) (S : CallFix p m c cc nL s args Ts own) (hSp : kSp l g y ws rm (.ref b :: As) wc (kQl g w1 r)) (cw : CallW R s args own C index y bytes maxL ret ws rm 0 0 n)
    (hK : va_K g.1 vwCl (kT g) s) (hP : va_P g.1 vwCl w H) (hD : va_D A w) (hS : va_S A s.heap H locs) (hA : ∀ q, s.heap.size ≤ q → A q) (is : List Nat) (hC : is.map (fun i => w[i]?) = wc.map some) (hnd : va_nd is = true) (hadr : w1.map Prod.fst = wc.map Prod.fst) (hw : kk_set w is w1 = w')
    (hcl : vwCl[ci]? = some q) (he : w[q0]? = some (b, .inr (ci, fs))) (hCn : q.1 = C) (hst : st0 = As.reverse ++ .ref b :: rest) (hn : As.length = n) (hsz : ls.size = nL) (hroom : (rest.map fun v => v.category).sum ≤ 8) (hdg : decode cc pc = .ok (.invokevirtual index, 3)) (hf : cells ≤ R.cells ∧ slots ≤ R.slots)
    (kk : ∀ (H1 : Heap) (locs1 : List Loc), va_P g.1 vwCl w' H1 → va_D A w' → va_S A s.heap H1 locs1 → W p l e R s m args below meth c H1 locs1 cells slots Q (F0 m (pc + 3) ls (.long r :: rest))) : W p l e R s m args below meth c H locs cells slots Q (F0 m pc ls st0) := by
  have hpre := kk_preV (wc := wc) (av := .ref b :: As) hK hP hD is hnd hC
  have hFc := kk_free hD hS hA is hC
  subst hCn
  refine va_calll (va_runV S (hSp H.size) cw ⟨hpre.1, va_recv hK hP hcl he, hpre.2⟩ rfl hn hsz hst (lv_room hroom) hdg hf) hS (fun q _ h => hFc q h) hFc (fun r1 u t H1 locs1 ht hvm hp hB hz1 hk1 hS1 => ?_)
  obtain ⟨hP1, -, -⟩ := hB
  rw [ht] at hP1
  obtain ⟨h1, h2⟩ := kk_join hP hD is hC hnd hadr hk1 hP1
  rw [hw] at h1 h2
  subst hp
  exact kk H1 locs1 h1 h2 hS1
theorem kr_Vd {r : UInt64} {q : vw_C} {fs : List Value} (q0 ci : Nat) (S : CallFix p m c cc nL s args Ts own) (hSp : kSp l g y ws rm (.ref b :: As) wc (kQd g w1 r)) (cw : CallW R s args own C index y bytes maxL ret ws rm 0 0 n)
    (hK : va_K g.1 vwCl (kT g) s) (hP : va_P g.1 vwCl w H) (hD : va_D A w) (hS : va_S A s.heap H locs) (hA : ∀ q, s.heap.size ≤ q → A q) (is : List Nat) (hC : is.map (fun i => w[i]?) = wc.map some) (hnd : va_nd is = true) (hadr : w1.map Prod.fst = wc.map Prod.fst) (hw : kk_set w is w1 = w')
    (hcl : vwCl[ci]? = some q) (he : w[q0]? = some (b, .inr (ci, fs))) (hCn : q.1 = C) (hst : st0 = As.reverse ++ .ref b :: rest) (hn : As.length = n) (hsz : ls.size = nL) (hroom : (rest.map fun v => v.category).sum ≤ 8) (hdg : decode cc pc = .ok (.invokevirtual index, 3)) (hf : cells ≤ R.cells ∧ slots ≤ R.slots)
    (kk : ∀ (H1 : Heap) (locs1 : List Loc), va_P g.1 vwCl w' H1 → va_D A w' → va_S A s.heap H1 locs1 → W p l e R s m args below meth c H1 locs1 cells slots Q (F0 m (pc + 3) ls (.double r :: rest))) : W p l e R s m args below meth c H locs cells slots Q (F0 m pc ls st0) := by
  have hpre := kk_preV (wc := wc) (av := .ref b :: As) hK hP hD is hnd hC
  have hFc := kk_free hD hS hA is hC
  subst hCn
  refine va_calld (va_runV S (hSp H.size) cw ⟨hpre.1, va_recv hK hP hcl he, hpre.2⟩ rfl hn hsz hst (lv_room hroom) hdg hf) hS (fun q _ h => hFc q h) hFc (fun r1 u t H1 locs1 ht hvm hp hB hz1 hk1 hS1 => ?_)
  obtain ⟨hP1, -, -⟩ := hB
  rw [ht] at hP1
  obtain ⟨h1, h2⟩ := kk_join hP hD is hC hnd hadr hk1 hP1
  rw [hw] at h1 h2
  subst hp
  exact kk H1 locs1 h1 h2 hS1
end KRc
