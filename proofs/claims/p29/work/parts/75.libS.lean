/-! p29: the law's own methods: contracts whose state behind is named by u; calls of them at any room -/
def kXN : String → State → State → Prop := fun _ _ _ => False
def kQe {σ : Type} (g : kG) (wf : σ → va_W) (post : Int32 → σ → Prop) (A : Nat → Prop) : Array Value → State → Outcome → State → Prop := va_Qi post (fun u t => va_P g.1 vwCl (wf u) t.heap ∧ va_K g.1 vwCl (kT g) t ∧ va_D A (wf u)) A
def kWr (l : Launch) (g : kG) (y : MethodName) (ws : List Cond) (rm : Room) (av : List Value) (w : va_W) (Q : (Nat → Prop) → Array Value → State → Outcome → State → Prop) : Prop :=
  ∀ sz : Nat, vx_Met l y ws rm (kPx g w av sz) (Q (va_A w sz)) kXN 1 6 (va_A w sz)
theorem kWr.of {l : Launch} {g : kG} {y : MethodName} {ws ws' : List Cond} {rm : Room} {av : List Value} {w : va_W} {Q : (Nat → Prop) → Array Value → State → Outcome → State → Prop} {cc : ByteArray} {maxL : Nat} {hh : List (Nat × Nat × Nat × Nat)}
    (hy : plainName y.cls = true) (hw : ws = Cond.codeWith y cc maxL (some .int) hh :: ws') (hlen : (lg_sl av).length ≤ maxL)
    (body : ∀ (p : Program) (e : Env) (s : State) (m : MethodId) (args : Array Value) (below : List Frame) (meth : Method) (c : Code) (ls : Array Slot) (A : Nat → Prop),
      CallFix p m c cc maxL s args ws y.cls → meth.sig.returnType = some .int → meth.locks = false → c.exceptionTable.toList = tableOf hh → (∀ q, s.heap.size ≤ q → A q) → va_K g.1 vwCl (kT g) s → k_Gs A s s.heap → lv_has ls maxL (lv_args 0 av) → va_P g.1 vwCl w s.heap → va_D A w → va_S A s.heap s.heap [] →
      W p l e rm s m args below meth c s.heap [] 0 0 (vx_MQ below (Q A) kXN args s 1 6 A) (F0 m 0 ls [])) : kWr l g y ws rm av w Q := by
  intro sz
  refine vx_ofWH (cc := cc) (maxL := maxL) (ret := some .int) (hh := hh) hy hw ?_
  intro p e s m args below meth c s₁ B hml hv
  obtain ⟨rfl, hsz, hP, hK, hD0, hG⟩ := hv
  subst hsz
  rw [lg_entry_eq]
  have hts := atoms_spec (ws := ws) B.pre
  have htab := vx_table (x := y) B (hts _ (by rw [hw]; exact List.mem_cons_self))
  exact body p e s m _ below meth c _ _ ⟨B.exec, B.bytes, hml, findClass_of_methodNamed B.named, hts⟩ B.returns B.notSynchronized htab (fun q h => Or.inr h) hK hG (lv_entry av hlen) hP hD0.self va_S.rf
/-- a start with the script beside the world -/
def kPS (g : kG) (w : va_W) (av : List Value) (b L : Nat) (xs : Nat → Int32) (sz : Nat) : Array Value → State → Prop := va_Pc av (fun U => U.heap.size = sz ∧ va_P g.1 vwCl w U.heap ∧ va_K g.1 vwCl (kT g) U ∧ va_D (fun _ => True) w ∧ k_Gs (va_A w sz) U U.heap ∧ va_X b L xs U U.heap ∧ b < sz ∧ ¬ va_A w sz b)
theorem kPS_blind {g : kG} {w : va_W} {av : List Value} {b L : Nat} {xs : Nat → Int32} {sz : Nat} : FrameBlind (kPS g w av b L xs sz) := fun a U f mk q => by
  obtain ⟨q0, q1, qP, qK, qD, qG, qX, q7, q8⟩ := q
  exact ⟨q0, q1, qP, va_K.moved (u := U) (U := U.calling f mk a) (Vm.Alike.refl U.vm) qK, qD, k_Gs.moved (u := U) (U := U.calling f mk a) (State.WarmedH.refl U) (fun _ _ _ => rfl) (fun _ h => h) qG, va_X.moved (u := U) (U := U.calling f mk a) (Vm.Alike.refl U.vm) qX, q7, q8⟩
def kSs (l : Launch) (g : kG) (y : MethodName) (ws : List Cond) (rm : Room) (av : List Value) (w : va_W) (b L : Nat) (xs : Nat → Int32) (Q : (Nat → Prop) → Array Value → State → Outcome → State → Prop) : Prop :=
  ∀ sz : Nat, Met l y ws rm (kPS g w av b L xs sz) (Q (va_A w sz)) 0 0 (va_A w sz)
def kAs (l : Launch) (g : kG) (y : MethodName) (ws : List Cond) (rm : Room) (av : List Value) (w : va_W) (b L : Nat) (xs : Nat → Int32) (Q : (Nat → Prop) → Array Value → State → Outcome → State → Prop) : Prop :=
  ∀ sz : Nat, vx_Met l y ws rm (kPS g w av b L xs sz) (Q (va_A w sz)) kXN 1 6 (va_A w sz)
theorem kSs.of {l : Launch} {g : kG} {y : MethodName} {ws ws' : List Cond} {rm : Room} {av : List Value} {w : va_W} {b L : Nat} {xs : Nat → Int32} {Q : (Nat → Prop) → Array Value → State → Outcome → State → Prop} {cc : ByteArray} {maxL : Nat} {ret : Option FieldType}
    (hy : plainName y.cls = true) (hw : ws = Cond.code y cc maxL ret :: ws') (hlen : (lg_sl av).length ≤ maxL)
    (body : ∀ (p : Program) (e : Env) (s : State) (m : MethodId) (args : Array Value) (below : List Frame) (meth : Method) (c : Code) (ls : Array Slot) (A : Nat → Prop),
      CallFix p m c cc maxL s args ws y.cls → meth.sig.returnType = ret → meth.locks = false → (∀ q, s.heap.size ≤ q → A q) → va_K g.1 vwCl (kT g) s → va_X b L xs s s.heap → b < s.heap.size → ¬ A b → lv_has ls maxL (lv_args 0 av) → va_P g.1 vwCl w s.heap → va_D A w → va_S A s.heap s.heap [] →
      W p l e rm s m args below meth c s.heap [] 0 0 (MQ below (Q A) args s 0 0 A) (F0 m 0 ls [])) : kSs l g y ws rm av w b L xs Q := by
  intro sz
  refine Met.ofW (cc := cc) (maxL := maxL) (ret := ret) hy hw ?_
  intro p e s m args below meth c s₁ B hml hv
  obtain ⟨rfl, hsz, hP, hK, hD0, hG, hX, hbl, hbA⟩ := hv
  subst hsz
  rw [lg_entry_eq]
  exact body p e s m _ below meth c _ _ ⟨B.exec, B.bytes, hml, findClass_of_methodNamed B.named, atoms_spec B.pre⟩ B.returns B.notSynchronized (fun q h => Or.inr h) hK hX hbl hbA (lv_entry av hlen) hP hD0.self va_S.rf
theorem kAs.of {l : Launch} {g : kG} {y : MethodName} {ws ws' : List Cond} {rm : Room} {av : List Value} {w : va_W} {b L : Nat} {xs : Nat → Int32} {Q : (Nat → Prop) → Array Value → State → Outcome → State → Prop} {cc : ByteArray} {maxL : Nat} {ret : Option FieldType}
    (hy : plainName y.cls = true) (hw : ws = Cond.code y cc maxL ret :: ws') (hlen : (lg_sl av).length ≤ maxL)
    (body : ∀ (p : Program) (e : Env) (s : State) (m : MethodId) (args : Array Value) (below : List Frame) (meth : Method) (c : Code) (ls : Array Slot) (A : Nat → Prop),
      CallFix p m c cc maxL s args ws y.cls → meth.sig.returnType = ret → meth.locks = false → (∀ q, s.heap.size ≤ q → A q) → va_K g.1 vwCl (kT g) s → k_Gs A s s.heap → va_X b L xs s s.heap → b < s.heap.size → ¬ A b → lv_has ls maxL (lv_args 0 av) → va_P g.1 vwCl w s.heap → va_D A w → va_S A s.heap s.heap [] →
      W p l e rm s m args below meth c s.heap [] 0 0 (vx_MQ below (Q A) kXN args s 1 6 A) (F0 m 0 ls [])) : kAs l g y ws rm av w b L xs Q := by
  intro sz
  refine vx_ofW (cc := cc) (maxL := maxL) (ret := ret) hy hw ?_
  intro p e s m args below meth c s₁ B hml ht hv
  obtain ⟨rfl, hsz, hP, hK, hD0, hG, hX, hbl, hbA⟩ := hv
  subst hsz
  rw [lg_entry_eq]
  exact body p e s m _ below meth c _ _ ⟨B.exec, B.bytes, hml, findClass_of_methodNamed B.named, atoms_spec B.pre⟩ B.returns B.notSynchronized (fun q h => Or.inr h) hK hG hX hbl hbA (lv_entry av hlen) hP hD0.self va_S.rf
section KRun
variable {p : Program} {l : Launch} {e : Env} {R : Room} {s : State} {m : MethodId} {args : Array Value} {below : List Frame} {meth : Method} {c : Code} {H : Heap} {locs : List Loc} {Q : State → Prop}
variable {y : MethodName} {bytes cc : ByteArray} {maxL nL n index pc cells slots mc ms : Nat} {ret : Option FieldType} {ws : List Cond} {rm : Room} {Ts : List Cond} {own C : String} {b : Nat} {As rest st0 : List Value} {ls : Array Slot} {g : kG} {w wc w1 w' : va_W} {A : Nat → Prop} {L : Nat} {xs : Nat → Int32} {bb : Nat}
theorem kw_widen {gf : JFrame} {k j : Nat} (h1 : cells ≤ k) (h2 : slots ≤ j) (kk : W p l e R s m args below meth c H locs k j Q gf) : W p l e R s m args below meth c H locs cells slots Q gf := fun T hT X => kk T hT (stand_widen X h1 h2)
theorem kr_nmi {x z : Int32} (ex : x = z) (k : W p l e R s m args below meth c H locs cells slots Q (F0 m pc ls (.int x :: rest))) : W p l e R s m args below meth c H locs cells slots Q (F0 m pc ls (.int z :: rest)) := by subst ex; exact k
/-- the end of a method that answers an int -/
theorem ka_ret {σ : Type} {wf : σ → va_W} {post : Int32 → σ → Prop} {r : Int32} (u : σ) (S : CallFix p m c cc nL s args Ts own) (hr : meth.sig.returnType = some .int) (hlocks : meth.locks = false) (hK : va_K g.1 vwCl (kT g) s) (hP : va_P g.1 vwCl (wf u) H) (hD : va_D A (wf u)) (hS : va_S A s.heap H locs) (hc : cells ≤ 1) (hs : slots ≤ 6) (hdg : decode cc pc = .ok (.ireturn, 1)) (hp : post r u) :
    W p l e R s m args below meth c H locs cells slots (vx_MQ below (kQe g wf post A) kXN args s 1 6 A) (F0 m pc ls [.int r]) := by
  refine vx_ret ?_
  refine kw_widen hc hs ?_
  exact W.iret (hlocks := hlocks) S.1 S.2.1 hr (fun t ht hW => ⟨⟨r, u, rfl, hp, by rw [ht]; exact hP, va_K.moved hW.alike hK, hD⟩, hS.F ht⟩) hS.2.2 hdg
/-- the end of a method that answers a boolean -/
theorem kz_ret {σ : Type} {wf : σ → va_W} {post : Int32 → σ → Prop} {r : Int32} (u : σ) (S : CallFix p m c cc nL s args Ts own) (hr : meth.sig.returnType = some .boolean) (hlocks : meth.locks = false) (hK : va_K g.1 vwCl (kT g) s) (hP : va_P g.1 vwCl (wf u) H) (hD : va_D A (wf u)) (hS : va_S A s.heap H locs) (hdg : decode cc pc = .ok (.ireturn, 1)) (hz : r = 0 ∨ r = 1) (hp : post r u) :
    W p l e R s m args below meth c H locs 0 0 (MQ below (kQe g wf post A) args s 0 0 A) (F0 m pc ls [.int r]) :=
  W.zret (hlocks := hlocks) S.1 S.2.1 hr (kk_nz hz) (fun t ht hW => ⟨⟨r, u, rfl, hp, by rw [ht]; exact hP, va_K.moved hW.alike hK, hD⟩, hS.F ht⟩) hS.2.2 hdg
theorem ki_ret {σ : Type} {wf : σ → va_W} {post : Int32 → σ → Prop} {r : Int32} (u : σ) (S : CallFix p m c cc nL s args Ts own) (hr : meth.sig.returnType = some .int) (hlocks : meth.locks = false) (hK : va_K g.1 vwCl (kT g) s) (hP : va_P g.1 vwCl (wf u) H) (hD : va_D A (wf u)) (hS : va_S A s.heap H locs) (hdg : decode cc pc = .ok (.ireturn, 1)) (hp : post r u) :
    W p l e R s m args below meth c H locs 0 0 (MQ below (kQe g wf post A) args s 0 0 A) (F0 m pc ls [.int r]) :=
  W.iret (hlocks := hlocks) S.1 S.2.1 hr (fun t ht hW => ⟨⟨r, u, rfl, hp, by rw [ht]; exact hP, va_K.moved hW.alike hK, hD⟩, hS.F ht⟩) hS.2.2 hdg
/-- behind a call whose state is named -/
theorem kr_run {σ : Type} {wf w' : σ → va_W} {post : Int32 → σ → Prop} {av : Array Value} (hrun : va_Run p l e R s m args below meth c H locs cells slots mc ms (F0 m pc ls st0) rest (kQe g wf post (va_A wc H.size) av) (va_A wc H.size))
    (hP : va_P g.1 vwCl w H) (hD : va_D A w) (hS : va_S A s.heap H locs) (hA : ∀ q, s.heap.size ≤ q → A q) (is : List Nat) (hC : is.map (fun i => w[i]?) = wc.map some) (hnd : va_nd is = true) (hadr : ∀ u, (wf u).map Prod.fst = wc.map Prod.fst) (hw : ∀ u, kk_set w is (wf u) = w' u)
    (kk : ∀ (r : Int32) (u : σ) (H1 : Heap) (locs1 : List Loc), post r u → va_P g.1 vwCl (w' u) H1 → va_D A (w' u) → va_S A s.heap H1 locs1 → W p l e R s m args below meth c H1 locs1 (cells + mc) (slots + ms) Q (F0 m (pc + 3) ls (.int r :: rest))) : W p l e R s m args below meth c H locs cells slots Q (F0 m pc ls st0) := by
  have hFc := kk_free hD hS hA is hC
  refine va_calli hrun hS (fun q _ h => hFc q h) hFc (fun r u t H1 locs1 ht hvm hp hB hz1 hk1 hS1 => ?_)
  obtain ⟨hP1, -, -⟩ := hB
  rw [ht] at hP1
  obtain ⟨h1, h2⟩ := kk_join hP hD is hC hnd (hadr u) hk1 hP1
  rw [hw u] at h1 h2
  exact kk r u H1 locs1 hp h1 h2 hS1
/-- a method that throws nothing -/
theorem kr_noX {Qa : State → Outcome → State → Prop} {free : Nat → Prop} {gf : JFrame} (h : vx_Run p l e R s m args below meth c H locs cells slots mc ms gf rest Qa kXN free) : va_Run p l e R s m args below meth c H locs cells slots mc ms gf rest Qa free := by
  intro T hT X
  rcases h T hT X with h | ⟨q9, st₀, t, T', L, E, ce, h0, X', hL, e1, e2, hq, -⟩
  · exact h
  · exact hq.elim
theorem ks_pre (hK : va_K g.1 vwCl (kT g) s) (hG : k_Gs A s s.heap) (hX : va_X bb L xs s s.heap) (hbl : bb < s.heap.size) (hbA : ¬ A bb) (hP : va_P g.1 vwCl w H) (hD : va_D A w) (hS : va_S A s.heap H locs) (hA : ∀ q, s.heap.size ≤ q → A q) (is : List Nat) (hn : va_nd is = true) (hC : is.map (fun i => w[i]?) = wc.map some) {av : List Value} : PreS s H (kPS g wc av bb L xs H.size) av := by
  refine ⟨kPS_blind, fun U hU hW => ?_⟩
  obtain ⟨q0, q1, q2, q3, q4, q5⟩ := (kk_preX (wc := wc) (av := av) hK hG hP hD hS hA is hn hC).2 U hU hW
  refine ⟨q0, q1, q2, q3, q4, q5, ?_, Nat.lt_of_lt_of_le hbl hS.1, fun h => hbA (kk_free hD hS hA is hC _ h)⟩
  rw [hU]
  exact (hX.kept (hS.2.1 bb hbl hbA)).moved hW.alike
/-- a static call of a method that reads the script -/
theorem ks_call {σ : Type} {wf w' : σ → va_W} {post : Int32 → σ → Prop} (S : CallFix p m c cc nL s args Ts own) (hSp : kSs l g y ws rm As wc bb L xs (kQe g wf post)) (cw : CallB R s args own index y bytes maxL ret ws rm 0 0 n ∧ (Cond.static y).before args s = true)
    (hK : va_K g.1 vwCl (kT g) s) (hG : k_Gs A s s.heap) (hX : va_X bb L xs s s.heap) (hbl : bb < s.heap.size) (hbA : ¬ A bb) (hP : va_P g.1 vwCl w H) (hD : va_D A w) (hS : va_S A s.heap H locs) (hA : ∀ q, s.heap.size ≤ q → A q) (is : List Nat) (hC : is.map (fun i => w[i]?) = wc.map some) (hnd : va_nd is = true) (hadr : ∀ u, (wf u).map Prod.fst = wc.map Prod.fst) (hw : ∀ u, kk_set w is (wf u) = w' u)
    (hst : st0 = As.reverse ++ rest) (hn : As.length = n) (hsz : ls.size = nL) (hroom : (rest.map fun v => v.category).sum ≤ 8) (hdg : decode cc pc = .ok (.invokestatic index, 3)) (hf : cells ≤ R.cells ∧ slots ≤ R.slots)
    (kk : ∀ (r : Int32) (u : σ) (H1 : Heap) (locs1 : List Loc), post r u → va_P g.1 vwCl (w' u) H1 → va_D A (w' u) → va_S A s.heap H1 locs1 → W p l e R s m args below meth c H1 locs1 cells slots Q (F0 m (pc + 3) ls (.int r :: rest))) : W p l e R s m args below meth c H locs cells slots Q (F0 m pc ls st0) :=
  kr_run (va_runS S (hSp H.size) cw (ks_pre hK hG hX hbl hbA hP hD hS hA is hnd hC) rfl hn hsz hst (lv_room hroom) hdg hf) hP hD hS hA is hC hnd hadr hw kk
/-- a static call of 'act' -/
theorem ks_callX {σ : Type} {wf w' : σ → va_W} {post : Int32 → σ → Prop} (S : CallFix p m c cc nL s args Ts own) (hSp : kAs l g y ws rm As wc bb L xs (kQe g wf post)) (cw : CallB R s args own index y bytes maxL ret ws rm 1 6 n ∧ (Cond.static y).before args s = true)
    (hK : va_K g.1 vwCl (kT g) s) (hG : k_Gs A s s.heap) (hX : va_X bb L xs s s.heap) (hbl : bb < s.heap.size) (hbA : ¬ A bb) (hP : va_P g.1 vwCl w H) (hD : va_D A w) (hS : va_S A s.heap H locs) (hA : ∀ q, s.heap.size ≤ q → A q) (is : List Nat) (hC : is.map (fun i => w[i]?) = wc.map some) (hnd : va_nd is = true) (hadr : ∀ u, (wf u).map Prod.fst = wc.map Prod.fst) (hw : ∀ u, kk_set w is (wf u) = w' u)
    (hst : st0 = As.reverse ++ rest) (hn : As.length = n) (hsz : ls.size = nL) (hroom : (rest.map fun v => v.category).sum ≤ 8) (hdg : decode cc pc = .ok (.invokestatic index, 3)) (hf : cells + 1 ≤ R.cells ∧ slots + 6 ≤ R.slots)
    (kk : ∀ (r : Int32) (u : σ) (H1 : Heap) (locs1 : List Loc), post r u → va_P g.1 vwCl (w' u) H1 → va_D A (w' u) → va_S A s.heap H1 locs1 → W p l e R s m args below meth c H1 locs1 (cells + 1) (slots + 6) Q (F0 m (pc + 3) ls (.int r :: rest))) : W p l e R s m args below meth c H locs cells slots Q (F0 m pc ls st0) :=
  kr_run (kr_noX (vx_runS S (hSp H.size) cw (ks_pre hK hG hX hbl hbA hP hD hS hA is hnd hC) rfl hn hsz hst (lv_room hroom) hdg hf)) hP hD hS hA is hC hnd hadr hw kk
/-- a static call of a wrapper that catches -/
theorem kr_wrap {σ : Type} {wf w' : σ → va_W} {post : Int32 → σ → Prop} {hh : List (Nat × Nat × Nat × Nat)} (S : CallFix p m c cc nL s args Ts own) (hSp : kWr l g y ws rm As wc (kQe g wf post)) (cw : vx_CSW R s args own index y bytes maxL ret hh ws rm 1 6 n)
    (hK : va_K g.1 vwCl (kT g) s) (hG : k_Gs A s s.heap) (hP : va_P g.1 vwCl w H) (hD : va_D A w) (hS : va_S A s.heap H locs) (hA : ∀ q, s.heap.size ≤ q → A q) (is : List Nat) (hC : is.map (fun i => w[i]?) = wc.map some) (hnd : va_nd is = true) (hadr : ∀ u, (wf u).map Prod.fst = wc.map Prod.fst) (hw : ∀ u, kk_set w is (wf u) = w' u)
    (hst : st0 = As.reverse ++ rest) (hn : As.length = n) (hsz : ls.size = nL) (hroom : (rest.map fun v => v.category).sum ≤ 8) (hdg : decode cc pc = .ok (.invokestatic index, 3)) (hf : cells + 1 ≤ R.cells ∧ slots + 6 ≤ R.slots)
    (kk : ∀ (r : Int32) (u : σ) (H1 : Heap) (locs1 : List Loc), post r u → va_P g.1 vwCl (w' u) H1 → va_D A (w' u) → va_S A s.heap H1 locs1 → W p l e R s m args below meth c H1 locs1 (cells + 1) (slots + 6) Q (F0 m (pc + 3) ls (.int r :: rest))) : W p l e R s m args below meth c H locs cells slots Q (F0 m pc ls st0) :=
  kr_run (kr_noX (vx_runSX (p := p) (l := l) (e := e) (R := R) (below := below) (meth := meth) (locs := locs) (cells := cells) (slots := slots) (rest := rest) (g := F0 m pc ls st0) S (hSp H.size) cw (kk_preX hK hG hP hD hS hA is hnd hC) rfl hn hsz hst (lv_room hroom) hdg hf)) hP hD hS hA is hC hnd hadr hw kk
/-- a static call of a plain method, at any room -/
theorem kr_S {σ : Type} {wf w' : σ → va_W} {post : Int32 → σ → Prop} (S : CallFix p m c cc nL s args Ts own) (hSp : kSp l g y ws rm As wc (kQe g wf post)) (cw : CallB R s args own index y bytes maxL ret ws rm 0 0 n ∧ (Cond.static y).before args s = true)
    (hK : va_K g.1 vwCl (kT g) s) (hP : va_P g.1 vwCl w H) (hD : va_D A w) (hS : va_S A s.heap H locs) (hA : ∀ q, s.heap.size ≤ q → A q) (is : List Nat) (hC : is.map (fun i => w[i]?) = wc.map some) (hnd : va_nd is = true) (hadr : ∀ u, (wf u).map Prod.fst = wc.map Prod.fst) (hw : ∀ u, kk_set w is (wf u) = w' u)
    (hst : st0 = As.reverse ++ rest) (hn : As.length = n) (hsz : ls.size = nL) (hroom : (rest.map fun v => v.category).sum ≤ 8) (hdg : decode cc pc = .ok (.invokestatic index, 3)) (hf : cells ≤ R.cells ∧ slots ≤ R.slots)
    (kk : ∀ (r : Int32) (u : σ) (H1 : Heap) (locs1 : List Loc), post r u → va_P g.1 vwCl (w' u) H1 → va_D A (w' u) → va_S A s.heap H1 locs1 → W p l e R s m args below meth c H1 locs1 cells slots Q (F0 m (pc + 3) ls (.int r :: rest))) : W p l e R s m args below meth c H locs cells slots Q (F0 m pc ls st0) :=
  kr_run (va_runS S (hSp H.size) cw (kk_preV hK hP hD is hnd hC) rfl hn hsz hst (lv_room hroom) hdg hf) hP hD hS hA is hC hnd hadr hw kk
/-- a virtual call at any room -/
theorem kr_Vi {r : Int32} {q : vw_C} {fs : List Value} (q0 ci : Nat) (S : CallFix p m c cc nL s args Ts own) (hSp : kSp l g y ws rm (.ref b :: As) wc (kQi g w1 r)) (cw : CallW R s args own C index y bytes maxL ret ws rm 0 0 n)
    (hK : va_K g.1 vwCl (kT g) s) (hP : va_P g.1 vwCl w H) (hD : va_D A w) (hS : va_S A s.heap H locs) (hA : ∀ q, s.heap.size ≤ q → A q) (is : List Nat) (hC : is.map (fun i => w[i]?) = wc.map some) (hnd : va_nd is = true) (hadr : w1.map Prod.fst = wc.map Prod.fst) (hw : kk_set w is w1 = w')
    (hcl : vwCl[ci]? = some q) (he : w[q0]? = some (b, .inr (ci, fs))) (hCn : q.1 = C) (hst : st0 = As.reverse ++ .ref b :: rest) (hn : As.length = n) (hsz : ls.size = nL) (hroom : (rest.map fun v => v.category).sum ≤ 8) (hdg : decode cc pc = .ok (.invokevirtual index, 3)) (hf : cells ≤ R.cells ∧ slots ≤ R.slots)
    (kk : ∀ (H1 : Heap) (locs1 : List Loc), va_P g.1 vwCl w' H1 → va_D A w' → va_S A s.heap H1 locs1 → W p l e R s m args below meth c H1 locs1 cells slots Q (F0 m (pc + 3) ls (.int r :: rest))) : W p l e R s m args below meth c H locs cells slots Q (F0 m pc ls st0) := by
  have hpre := kk_preV (wc := wc) (av := .ref b :: As) hK hP hD is hnd hC
  have hFc := kk_free hD hS hA is hC
  subst hCn
  refine va_calli (va_runV S (hSp H.size) cw ⟨hpre.1, va_recv hK hP hcl he, hpre.2⟩ rfl hn hsz hst (lv_room hroom) hdg hf) hS (fun q _ h => hFc q h) hFc (fun r1 u t H1 locs1 ht hvm hp hB hz1 hk1 hS1 => ?_)
  obtain ⟨hP1, -, -⟩ := hB
  rw [ht] at hP1
  obtain ⟨h1, h2⟩ := kk_join hP hD is hC hnd hadr hk1 hP1
  rw [hw] at h1 h2
  subst hp
  exact kk H1 locs1 h1 h2 hS1
/-- a call that throws, caught here -/
theorem kw_callC {q : vw_C} {fs : List Value} {k : Nat} (q0 ci : Nat) (S : CallFix p m c cc nL s args Ts own) (hSp : kSt l g y ws rm (.ref b :: As) wc w1 k) (cw : CallW R s args own C index y bytes maxL ret ws rm 1 6 n)
    (hK : va_K g.1 vwCl (kT g) s) (hG : k_Gs A s s.heap) (hP : va_P g.1 vwCl w H) (hD : va_D A w) (hS : va_S A s.heap H locs) (hA : ∀ q, s.heap.size ≤ q → A q) (is : List Nat) (hC : is.map (fun i => w[i]?) = wc.map some) (hnd : va_nd is = true) (hadr : w1.map Prod.fst = wc.map Prod.fst) (hw : kk_set w is w1 = w')
    (hcl : vwCl[ci]? = some q) (he : w[q0]? = some (b, .inr (ci, fs))) (hCn : q.1 = C) (hst : st0 = As.reverse ++ .ref b :: rest) (hn : As.length = n) (hsz : ls.size = nL) (hroom : (rest.map fun v => v.category).sum ≤ 8) (hdg : decode cc pc = .ok (.invokevirtual index, 3)) (hR : 1 ≤ R.cells ∧ 6 ≤ R.slots)
    (kk : ∀ (H1 : Heap) (locs1 : List Loc) (q9 : Addr) (ce : Cell), H1[q9]? = some ce → ce.vm = .none → s.vm.findClass (k_cls k) = some ce.cls → va_P g.1 vwCl w' H1 → va_D A w' → va_S A s.heap H1 locs1 → vx_W p l e R s m args below meth c H1 locs1 1 6 Q (F0 m pc ls rest) q9) :
    W p l e R s m args below meth c H locs 0 0 Q (F0 m pc ls st0) := by
  have hpre := kk_preX (wc := wc) (av := .ref b :: As) hK hG hP hD hS hA is hnd hC
  have hFc := kk_free hD hS hA is hC
  subst hCn
  intro T hT X
  rcases vx_runV S (hSp H.size) cw ⟨hpre.1, va_recv hK hP hcl he, hpre.2⟩ rfl hn hsz hst (lv_room hroom) hdg ⟨by omega, by omega⟩ T hT X with ⟨v, st₀, t, T', L, h0, X', hL, e1, e2, hq, st⟩ | ⟨q9, st₀, t, T', L, E, ce, h0, X', hL, e1, e2, ⟨u, hp, ⟨hE, hP1, hK1, hD1⟩, hF⟩, hce, hcv, hcl9, st⟩
  · exact hq.elim
  · obtain ⟨k1, k2, k3⟩ := vx_keep h0 e1 hS (fun q _ h => hFc q h) hFc hL hF
    rw [← e1] at hP1
    obtain ⟨h1, h2⟩ := kk_join hP hD is hC hnd hadr k2 hP1
    rw [hw] at h1 h2
    subst hE
    obtain ⟨t2, a1, b1⟩ := kk T'.heap (locs ++ L) q9 ce (by rw [e1]; exact hce) hcv hcl9 h1 h2 k3 T' rfl X'
    exact ⟨t2, st.trans a1, b1⟩
/-- a call of a method that reads statics -/
theorem kk_call_Vg {r : Int32} {q : vw_C} {fs : List Value} (q0 ci : Nat) (S : CallFix p m c cc nL s args Ts own) (hSp : kSg l g y ws rm (.ref b :: As) wc (kQi g w1 r)) (cw : CallW R s args own C index y bytes maxL ret ws rm 0 0 n)
    (hK : va_K g.1 vwCl (kT g) s) (hG : k_Gs A s s.heap) (hP : va_P g.1 vwCl w H) (hD : va_D A w) (hS : va_S A s.heap H locs) (hA : ∀ q, s.heap.size ≤ q → A q) (is : List Nat) (hC : is.map (fun i => w[i]?) = wc.map some) (hnd : va_nd is = true) (hadr : w1.map Prod.fst = wc.map Prod.fst) (hw : kk_set w is w1 = w')
    (hcl : vwCl[ci]? = some q) (he : w[q0]? = some (b, .inr (ci, fs))) (hCn : q.1 = C) (hst : st0 = As.reverse ++ .ref b :: rest) (hn : As.length = n) (hsz : ls.size = nL) (hroom : (rest.map fun v => v.category).sum ≤ 8) (hdg : decode cc pc = .ok (.invokevirtual index, 3))
    (kk : ∀ (H1 : Heap) (locs1 : List Loc), va_P g.1 vwCl w' H1 → va_D A w' → va_S A s.heap H1 locs1 → W p l e R s m args below meth c H1 locs1 0 0 Q (F0 m (pc + 3) ls (.int r :: rest))) : W p l e R s m args below meth c H locs 0 0 Q (F0 m pc ls st0) := by
  have hpre := kk_preX (wc := wc) (av := .ref b :: As) hK hG hP hD hS hA is hnd hC
  have hFc := kk_free hD hS hA is hC
  subst hCn
  refine va_calli (va_runV S (hSp H.size) cw ⟨hpre.1, va_recv hK hP hcl he, hpre.2⟩ rfl hn hsz hst (lv_room hroom) hdg ⟨Nat.zero_le _, Nat.zero_le _⟩) hS (fun q _ h => hFc q h) hFc (fun r1 u t H1 locs1 ht hvm hp hB hz1 hk1 hS1 => ?_)
  obtain ⟨hP1, -, -⟩ := hB
  rw [ht] at hP1
  obtain ⟨h1, h2⟩ := kk_join hP hD is hC hnd hadr hk1 hP1
  rw [hw] at h1 h2
  subst hp
  exact kk H1 locs1 h1 h2 hS1
end KRun
/-! low and cell, over numbers -/
def kLow (v : Int32) (m : Nat) : Nat := (v &&& 2147483647).toNatClampNeg % m
theorem kLow_lt (v : Int32) {m : Nat} (h : 0 < m) : kLow v m < m := Nat.mod_lt _ h
theorem k_and (v : Int32) : ∃ t, t < 2147483648 ∧ v &&& 2147483647 = nI t := by
  refine nI_of (fun h => ?_)
  rw [Int32.lt_iff_toInt_lt] at h
  have h0 : (0 : Int32).toInt = 0 := rfl
  have h2 : (v &&& 2147483647).toInt = (v.toBitVec &&& 2147483647#32).toInt := rfl
  rw [h0, h2, BitVec.toInt_eq_toNat_cond, if_pos (by
    have h1 : (v.toBitVec &&& 2147483647#32).toNat ≤ 2147483647 := by rw [BitVec.toNat_and]; exact Nat.and_le_right
    omega)] at h
  omega
theorem kLow_eq (v : Int32) {m : Nat} (h : 0 < m) (h2 : m < 2147483648) : (v &&& 2147483647) - (v &&& 2147483647) / nI m * nI m = nI (kLow v m) := by
  obtain ⟨t, ht, e⟩ := k_and v
  unfold kLow
  rw [e, pk_div ht h h2, kl_mul, kl_sub (Nat.div_mul_le_self t m), nI_clamp ht]
  congr 1
  have := Nat.mod_add_div t m
  rw [Nat.mul_comm] at this
  omega
def kCell (xs : Nat → Int32) (L q : Nat) : Int32 := if q < L then xs q else 40503 * nI q + 977
