/-! the law's wrappers: they catch what the class throws -/
abbrev kT4 (g : kG) (cL : ClassId) : List (ClassId × FieldType) := kT g ++ [(cL, .long)]
def k_Nx (U : State) : Prop := va_Nc (k_cls 2) (k_cls 1) U ∧ va_Nc (k_cls 3) (k_cls 1) U ∧ va_Nc (k_cls 3) (k_cls 2) U
theorem k_Nx.moved {u U : State} (hvm : u.vm.Alike U.vm) (h : k_Nx u) : k_Nx U := ⟨h.1.moved hvm, h.2.1.moved hvm, h.2.2.moved hvm⟩
def kPW (g : kG) (cL : ClassId) (w : va_W) (av : List Value) (sz : Nat) : Array Value → State → Prop := va_Pc av (fun U => U.heap.size = sz ∧ va_P g.1 vwCl w U.heap ∧ va_K g.1 vwCl (kT4 g cL) U ∧ va_D (fun _ => True) w ∧ k_Gs (va_A w sz) U U.heap ∧ k_Nx U)
def kQW (g : kG) (cL : ClassId) (w : va_W) (r : Int32) (A : Nat → Prop) : Array Value → State → Outcome → State → Prop := va_Qi (fun r' (_ : Unit) => r' = r) (fun _ t => va_P g.1 vwCl w t.heap ∧ va_K g.1 vwCl (kT4 g cL) t ∧ va_D A w) A
def kXN : String → State → State → Prop := fun _ _ _ => False
def kWr (l : Launch) (g : kG) (cL : ClassId) (y : MethodName) (ws : List Cond) (rm : Room) (av : List Value) (w w' : va_W) (r : Int32) : Prop :=
  ∀ sz : Nat, vx_Met l y ws rm (kPW g cL w av sz) (kQW g cL w' r (va_A w sz)) kXN 1 6 (va_A w sz)
theorem kPW_blind {g : kG} {cL : ClassId} {w : va_W} {av : List Value} {sz : Nat} : FrameBlind (kPW g cL w av sz) := fun a U f mk q => by
  obtain ⟨q0, q1, qP, qK, qD, qG, qN⟩ := q
  exact ⟨q0, q1, qP, va_K.moved (u := U) (U := U.calling f mk a) (Vm.Alike.refl U.vm) qK, qD, k_Gs.moved (u := U) (U := U.calling f mk a) (State.WarmedH.refl U) (fun _ _ _ => rfl) (fun _ h => h) qG, k_Nx.moved (u := U) (U := U.calling f mk a) (Vm.Alike.refl U.vm) qN⟩
theorem kT4_sub {g : kG} {cL : ClassId} {s : State} (h : va_K g.1 vwCl (kT4 g cL) s) : va_K g.1 vwCl (kT g) s := h.sub [0, 1, 2] rfl
theorem kWr.of {l : Launch} {g : kG} {cL : ClassId} {y : MethodName} {ws ws' : List Cond} {rm : Room} {av : List Value} {w w' : va_W} {r : Int32} {cc : ByteArray} {maxL : Nat} {hh : List (Nat × Nat × Nat × Nat)}
    (hy : plainName y.cls = true) (hw : ws = Cond.codeWith y cc maxL (some .int) hh :: ws') (hlen : (lg_sl av).length ≤ maxL)
    (body : ∀ (p : Program) (e : Env) (s : State) (m : MethodId) (args : Array Value) (below : List Frame) (meth : Method) (c : Code) (ls : Array Slot) (A : Nat → Prop),
      CallFix p m c cc maxL s args ws y.cls → meth.sig.returnType = some .int → meth.locks = false → c.exceptionTable.toList = tableOf hh → (∀ q, s.heap.size ≤ q → A q) → va_K g.1 vwCl (kT4 g cL) s → k_Gs A s s.heap → k_Nx s → lv_has ls maxL (lv_args 0 av) → va_P g.1 vwCl w s.heap → va_D A w → va_S A s.heap s.heap [] →
      W p l e rm s m args below meth c s.heap [] 0 0 (vx_MQ below (kQW g cL w' r A) kXN args s 1 6 A) (F0 m 0 ls [])) : kWr l g cL y ws rm av w w' r := by
  intro sz
  refine vx_ofWH (cc := cc) (maxL := maxL) (ret := some .int) (hh := hh) hy hw ?_
  intro p e s m args below meth c s₁ B hml hv
  obtain ⟨rfl, hsz, hP, hK, hD0, hG, hN⟩ := hv
  subst hsz
  rw [lg_entry_eq]
  have hts := atoms_spec (ws := ws) B.pre
  have htab := vx_table (x := y) B (hts _ (by rw [hw]; exact List.mem_cons_self))
  exact body p e s m _ below meth c _ _ ⟨B.exec, B.bytes, hml, findClass_of_methodNamed B.named, hts⟩ B.returns B.notSynchronized htab (fun q h => Or.inr h) hK hG hN (lv_entry av hlen) hP hD0.self va_S.rf
section KWr
variable {p : Program} {l : Launch} {e : Env} {R : Room} {s : State} {m : MethodId} {args : Array Value} {below : List Frame} {meth : Method} {c : Code} {H : Heap} {locs : List Loc} {Q : State → Prop}
variable {y : MethodName} {bytes cc : ByteArray} {maxL nL n index pc cells slots : Nat} {ret : Option FieldType} {ws : List Cond} {rm : Room} {Ts : List Cond} {own C : String} {b : Nat} {As rest st0 : List Value} {ls : Array Slot} {g : kG} {cL : ClassId} {w wc w1 w' : va_W} {A : Nat → Prop}
theorem kw_widen {gf : JFrame} {k j : Nat} (h1 : cells ≤ k) (h2 : slots ≤ j) (kk : W p l e R s m args below meth c H locs k j Q gf) : W p l e R s m args below meth c H locs cells slots Q gf := fun T hT X => kk T hT (stand_widen X h1 h2)
/-- the end of a wrapper -/
theorem kw_ret {r r' : Int32} (S : CallFix p m c cc nL s args Ts own) (hr : meth.sig.returnType = some .int) (hlocks : meth.locks = false) (hK : va_K g.1 vwCl (kT4 g cL) s) (hP : va_P g.1 vwCl w H) (hD : va_D A w) (hS : va_S A s.heap H locs) (hc : cells ≤ 1) (hs : slots ≤ 6) (hdg : decode cc pc = .ok (.ireturn, 1)) (er : r' = r) :
    W p l e R s m args below meth c H locs cells slots (vx_MQ below (kQW g cL w r A) kXN args s 1 6 A) (F0 m pc ls [.int r']) := by
  refine vx_ret ?_
  refine kw_widen hc hs ?_
  exact W.iret (hlocks := hlocks) S.1 S.2.1 hr (fun t ht hW => ⟨⟨r', (), rfl, er, by rw [ht]; exact hP, va_K.moved hW.alike hK, hD⟩, hS.F ht⟩) hS.2.2 hdg
/-- a call that throws, caught here -/
theorem kw_callC {q : vw_C} {fs : List Value} {k : Nat} (q0 ci : Nat) (S : CallFix p m c cc nL s args Ts own) (hSp : kSt l g y ws rm (.ref b :: As) wc w1 k) (cw : CallW R s args own C index y bytes maxL ret ws rm 1 6 n)
    (hK : va_K g.1 vwCl (kT g) s) (hG : k_Gs A s s.heap) (hP : va_P g.1 vwCl w H) (hD : va_D A w) (hS : va_S A s.heap H locs) (hA : ∀ q, s.heap.size ≤ q → A q) (is : List Nat) (hC : is.map (fun i => w[i]?) = wc.map some) (hnd : va_nd is = true) (hadr : w1.map Prod.fst = wc.map Prod.fst) (hw : kk_set w is w1 = w')
    (hcl : vwCl[ci]? = some q) (he : w[q0]? = some (b, .inr (ci, fs))) (hCn : q.1 = C) (hst : st0 = As.reverse ++ .ref b :: rest) (hn : As.length = n) (hsz : ls.size = nL) (hroom : (rest.map fun v => v.category).sum ≤ 8) (hdg : decode cc pc = .ok (.invokevirtual index, 3)) (hR : 1 ≤ R.cells ∧ 6 ≤ R.slots)
    (kk : ∀ (H1 : Heap) (locs1 : List Loc) (q9 : Addr) (ce : Cell), H1[q9]? = some ce → ce.vm = .none → s.vm.findClass (k_cls k) = some ce.cls → va_P g.1 vwCl w' H1 → va_D A w' → va_S A s.heap H1 locs1 → vx_W p l e R s m args below meth c H1 locs1 1 6 Q (F0 m pc ls rest) q9) :
    W p l e R s m args below meth c H locs 0 0 Q (F0 m pc ls st0) := by
  have hpre := kk_preX (wc := wc) (av := .ref b :: As) hK hG hP hD hS hA is hnd hC
  have hFc := kk_free hD hS hA is hC
  subst hCn
  intro T hT X
  rcases vx_runV S (hSp H.size) cw ⟨hpre.1, va_recv hK hP hcl he, hpre.2⟩ rfl hn hsz hst (lv_room hroom) hdg ⟨by omega, by omega⟩ T hT X with ⟨v, st₀, t, T', L, h0, X', hL, e1, e2, hq, st⟩ | ⟨q9, st₀, t, T', L, E, ce, h0, X', hL, e1, e2, ⟨u, hp, ⟨hE, hP1, hK1, hD1⟩, hF⟩, hce, hcv, hcl9, st⟩
  · exact hq.elim
  · obtain ⟨k1, k2, k3⟩ := vx_keep h0 e1 hS (fun q _ h => hFc q h) hFc hL hF
    rw [← e1] at hP1
    obtain ⟨h1, h2⟩ := kk_join hP hD is hC hnd hadr k2 hP1
    rw [hw] at h1 h2
    subst hE
    obtain ⟨t2, a1, b1⟩ := kk T'.heap (locs ++ L) q9 ce (by rw [e1]; exact hce) hcv hcl9 h1 h2 k3 T' rfl X'
    exact ⟨t2, st.trans a1, b1⟩
/-- a call of a method that reads statics -/
theorem kk_call_Vg {r : Int32} {q : vw_C} {fs : List Value} (q0 ci : Nat) (S : CallFix p m c cc nL s args Ts own) (hSp : kSg l g y ws rm (.ref b :: As) wc (kQi g w1 r)) (cw : CallW R s args own C index y bytes maxL ret ws rm 0 0 n)
    (hK : va_K g.1 vwCl (kT g) s) (hG : k_Gs A s s.heap) (hP : va_P g.1 vwCl w H) (hD : va_D A w) (hS : va_S A s.heap H locs) (hA : ∀ q, s.heap.size ≤ q → A q) (is : List Nat) (hC : is.map (fun i => w[i]?) = wc.map some) (hnd : va_nd is = true) (hadr : w1.map Prod.fst = wc.map Prod.fst) (hw : kk_set w is w1 = w')
    (hcl : vwCl[ci]? = some q) (he : w[q0]? = some (b, .inr (ci, fs))) (hCn : q.1 = C) (hst : st0 = As.reverse ++ .ref b :: rest) (hn : As.length = n) (hsz : ls.size = nL) (hroom : (rest.map fun v => v.category).sum ≤ 8) (hdg : decode cc pc = .ok (.invokevirtual index, 3))
    (kk : ∀ (H1 : Heap) (locs1 : List Loc), va_P g.1 vwCl w' H1 → va_D A w' → va_S A s.heap H1 locs1 → W p l e R s m args below meth c H1 locs1 0 0 Q (F0 m (pc + 3) ls (.int r :: rest))) : W p l e R s m args below meth c H locs 0 0 Q (F0 m pc ls st0) := by
  have hpre := kk_preX (wc := wc) (av := .ref b :: As) hK hG hP hD hS hA is hnd hC
  have hFc := kk_free hD hS hA is hC
  subst hCn
  refine va_calli (va_runV S (hSp H.size) cw ⟨hpre.1, va_recv hK hP hcl he, hpre.2⟩ rfl hn hsz hst (lv_room hroom) hdg ⟨Nat.zero_le _, Nat.zero_le _⟩) hS (fun q _ h => hFc q h) hFc (fun r1 u t H1 locs1 ht hvm hp hB hz1 hk1 hS1 => ?_)
  obtain ⟨hP1, -, -⟩ := hB
  rw [ht] at hP1
  obtain ⟨h1, h2⟩ := kk_join hP hD is hC hnd hadr hk1 hP1
  rw [hw] at h1 h2
  subst hp
  exact kk H1 locs1 h1 h2 hS1
end KWr
