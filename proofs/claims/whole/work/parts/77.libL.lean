/-! the law: calls of its wrappers, at any room -/
section KLaw
variable {p : Program} {l : Launch} {e : Env} {R : Room} {s : State} {m : MethodId} {args : Array Value} {below : List Frame} {meth : Method} {c : Code} {H : Heap} {locs : List Loc} {Q : State → Prop}
variable {y : MethodName} {bytes cc : ByteArray} {maxL nL n index pc cells slots : Nat} {ret : Option FieldType} {ws : List Cond} {rm : Room} {Ts : List Cond} {own C : String} {b : Nat} {As rest st0 : List Value} {ls : Array Slot} {g : kG} {cL : ClassId} {w wc w1 w' : va_W} {A : Nat → Prop}
theorem kr_pre (hK4 : va_K g.1 vwCl (kT4 g cL) s) (hG : k_Gs A s s.heap) (hNx : k_Nx s) (hP : va_P g.1 vwCl w H) (hD : va_D A w) (hS : va_S A s.heap H locs) (hA : ∀ q, s.heap.size ≤ q → A q) (is : List Nat) (hn : va_nd is = true) (hC : is.map (fun i => w[i]?) = wc.map some) {av : List Value} : PreS s H (kPW g cL wc av H.size) av := by
  refine ⟨kPW_blind, fun U hU hW => ?_⟩
  obtain ⟨q0, q1, q2, q3, q4, q5⟩ := (kk_preX (wc := wc) (av := av) (kT4_sub hK4) hG hP hD hS hA is hn hC).2 U hU hW
  exact ⟨q0, q1, q2, va_K.moved hW.alike hK4, q4, q5, hNx.moved hW.alike⟩
theorem kr_wrap {r : Int32} {hh : List (Nat × Nat × Nat × Nat)} (S : CallFix p m c cc nL s args Ts own) (hWr : kWr l g cL y ws rm As wc w1 r) (cw : vx_CSW R s args own index y bytes maxL ret hh ws rm 1 6 n)
    (hK4 : va_K g.1 vwCl (kT4 g cL) s) (hG : k_Gs A s s.heap) (hNx : k_Nx s) (hP : va_P g.1 vwCl w H) (hD : va_D A w) (hS : va_S A s.heap H locs) (hA : ∀ q, s.heap.size ≤ q → A q) (is : List Nat) (hC : is.map (fun i => w[i]?) = wc.map some) (hnd : va_nd is = true) (hadr : w1.map Prod.fst = wc.map Prod.fst) (hw : kk_set w is w1 = w')
    (hst : st0 = As.reverse ++ rest) (hn : As.length = n) (hsz : ls.size = nL) (hroom : (rest.map fun v => v.category).sum ≤ 8) (hdg : decode cc pc = .ok (.invokestatic index, 3)) (hf : cells + 1 ≤ R.cells ∧ slots + 6 ≤ R.slots)
    (kk : ∀ (H1 : Heap) (locs1 : List Loc), va_P g.1 vwCl w' H1 → va_D A w' → va_S A s.heap H1 locs1 → W p l e R s m args below meth c H1 locs1 (cells + 1) (slots + 6) Q (F0 m (pc + 3) ls (.int r :: rest))) : W p l e R s m args below meth c H locs cells slots Q (F0 m pc ls st0) := by
  have hpre := kr_pre (wc := wc) (av := As) hK4 hG hNx hP hD hS hA is hnd hC
  have hFc := kk_free hD hS hA is hC
  have hrun := vx_runSX (p := p) (l := l) (e := e) (R := R) (below := below) (meth := meth) (locs := locs) (cells := cells) (slots := slots) (rest := rest) (g := F0 m pc ls st0) S (hWr H.size) cw hpre rfl hn hsz hst (lv_room hroom) hdg hf
  have hr : va_Run p l e R s m args below meth c H locs cells slots 1 6 (F0 m pc ls st0) rest (kQW g cL w1 r (va_A wc H.size) As.toArray) (va_A wc H.size) := by
    intro T hT X
    rcases hrun T hT X with h | ⟨q9, st₀, t, T', L, E, ce, h0, X', hL, e1, e2, hq, -⟩
    · exact h
    · exact hq.elim
  refine va_calli hr hS (fun q _ h => hFc q h) hFc (fun r1 u t H1 locs1 ht hvm hp hB hz1 hk1 hS1 => ?_)
  obtain ⟨hP1, -, -⟩ := hB
  rw [ht] at hP1
  obtain ⟨h1, h2⟩ := kk_join hP hD is hC hnd hadr hk1 hP1
  rw [hw] at h1 h2
  subst hp
  exact kk H1 locs1 h1 h2 hS1
end KLaw
