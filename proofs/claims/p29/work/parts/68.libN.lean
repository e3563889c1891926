/-! constructors: worlds that grow -/
def k_Ns (U : State) : Prop := va_AO "FloatOrder$Parade" U ∧ va_Nw (.methodLinkNest RX1 21 yX2_init RX4) U ∧ va_Nw (.methodLinkNest RX4 9 yX2_init RX4) U ∧ va_Nw (.methodLinkNest RX4 28 yX0_init RX4) U ∧ va_Nw (.methodLinkNest RX4 35 yX3_init RX4) U
theorem k_Ns.warm {s U : State} (hW : s.WarmedH U.vm) (h : k_Ns s) : k_Ns U := by
  obtain ⟨h1, h2, h3, h4, h5⟩ := h
  exact ⟨h1.moved hW.alike, va_Nw.warmM hW h2, va_Nw.warmM hW h3, va_Nw.warmM hW h4, va_Nw.warmM hW h5⟩
def kPn (g : kG) (w : va_W) (av : List Value) (sz : Nat) : Array Value → State → Prop := va_Pc av (fun U => U.heap.size = sz ∧ va_P g.1 vwCl w U.heap ∧ va_K g.1 vwCl (kT g) U ∧ va_D (fun _ => True) w ∧ k_Ns U)
def kQu {S : Type} (g : kG) (post : S → Prop) (wf : S → va_W) (A : Nat → Prop) : Array Value → State → Outcome → State → Prop := va_Qv post (fun u t => va_P g.1 vwCl (wf u) t.heap ∧ va_K g.1 vwCl (kT g) t ∧ va_D A (wf u)) A
def kSc {S : Type} (l : Launch) (g : kG) (y : MethodName) (ws : List Cond) (rm : Room) (av : List Value) (w : va_W) (mc ms : Nat) (post : S → Prop) (wf : S → va_W) : Prop :=
  ∀ sz : Nat, Met l y ws rm (kPn g w av sz) (kQu g post wf (va_A w sz)) mc ms (va_A w sz)
theorem kPn_blind {g : kG} {w : va_W} {av : List Value} {sz : Nat} : FrameBlind (kPn g w av sz) := fun a U f mk q => by
  obtain ⟨q0, q1, qP, qK, qD, qN⟩ := q
  exact ⟨q0, q1, qP, va_K.moved (u := U) (U := U.calling f mk a) (Vm.Alike.refl U.vm) qK, qD, k_Ns.warm (s := U) (U := U.calling f mk a) (State.WarmedH.refl U) qN⟩
theorem kSc.of {S : Type} {post : S → Prop} {wf : S → va_W} {l : Launch} {g : kG} {y : MethodName} {ws ws' : List Cond} {rm : Room} {av : List Value} {w : va_W} {mc ms : Nat} {cc : ByteArray} {maxL : Nat}
    (hy : plainName y.cls = true) (hi : y.name = "<init>") (hw : ws = Cond.code y cc maxL none :: ws') (hlen : (lg_sl av).length ≤ maxL)
    (body : ∀ (p : Program) (e : Env) (s : State) (m : MethodId) (args : Array Value) (below : List Frame) (meth : Method) (c : Code) (ls : Array Slot) (A : Nat → Prop),
      CallFix p m c cc maxL s args ws y.cls → meth.sig.returnType = none → meth.locks = false → meth.name = "<init>" → (∀ q, s.heap.size ≤ q → A q) → va_K g.1 vwCl (kT g) s → k_Ns s → lv_has ls maxL (lv_args 0 av) → va_P g.1 vwCl w s.heap → va_D A w → va_S A s.heap s.heap [] →
      W p l e rm s m args below meth c s.heap [] 0 0 (MQ below (kQu g post wf A) args s mc ms A) (F0 m 0 ls [])) : kSc l g y ws rm av w mc ms post wf := by
  intro sz
  refine Met.ofW (cc := cc) (maxL := maxL) (ret := none) hy hw ?_
  intro p e s m args below meth c s₁ B hml hv
  obtain ⟨rfl, hsz, hP, hK, hD0, hN⟩ := hv
  subst hsz
  rw [lg_entry_eq]
  exact body p e s m _ below meth c _ _ ⟨B.exec, B.bytes, hml, findClass_of_methodNamed B.named, atoms_spec B.pre⟩ B.returns B.notSynchronized ((name_of_methodNamed B.named B.method).1.trans hi) (fun q h => Or.inr h) hK hN (lv_entry av hlen) hP hD0.self va_S.rf
section KNew
variable {p : Program} {l : Launch} {e : Env} {R : Room} {s : State} {m : MethodId} {args : Array Value} {below : List Frame} {meth : Method} {c : Code} {H : Heap} {locs : List Loc} {Q : State → Prop}
variable {y : MethodName} {bytes cc : ByteArray} {maxL nL n index pc cells slots mc ms : Nat} {ret : Option FieldType} {ws : List Cond} {rm : Room} {Ts : List Cond} {own C : String} {b : Addr} {As rest st0 : List Value} {ls : Array Slot} {g : kG} {w wc w1 w2 : va_W} {A : Nat → Prop}
theorem kn_newI {N : Nat} {x : Int32} {w' : Nat → va_W} (S : CallFix p m c cc nL s args Ts own) (harr : (Cond.arrayClass .int).before args s = true) (hK : va_K g.1 vwCl (kT g) s) (hP : va_P g.1 vwCl w H) (hD : va_D A w) (hS : va_S A s.heap H locs) (hA : ∀ q, s.heap.size ≤ q → A q)
    (hn : ¬ x < 0) (hN : x.toNatClampNeg = N) (hbytes : N * componentBytes .int ≤ 536870912) (hcells : cells + 1 ≤ R.cells) (hslots : slots + N ≤ R.slots) (hw : ∀ q, w ++ [(q, .inl (g.2.1, N, .inl fun _ => 0))] = w' q) (hdg : decode cc pc = .ok (.newarray .int, 2))
    (kk : ∀ (q : Nat) (H1 : Heap), va_P g.1 vwCl (w' q) H1 → va_D A (w' q) → va_S A s.heap H1 locs → W p l e R s m args below meth c H1 locs (cells + 1) (slots + N) Q (F0 m (pc + 2) ls (.ref q :: rest))) : W p l e R s m args below meth c H locs cells slots Q (F0 m pc ls (.int x :: rest)) := by
  refine va_newa (a0 := (N, .inl fun _ => 0)) (atype := .int) S.1 S.2.1 harr rfl hK hP hD hS hA (fun _ => rfl) hn hN hbytes hcells hslots hdg (fun q cA H1 hK1 hP1 hD1 hS1 => ?_)
  have h1 : va_RA s cA .int := (hK1.2 3 _ rfl).2
  have h2 : va_RA s g.2.1 .int := (hK.2 0 _ rfl).2
  have e : cA = g.2.1 := Option.some.inj (h1.symm.trans h2)
  subst e
  rw [hw] at hP1 hD1
  exact kk q H1 hP1 hD1 hS1
theorem kn_newZ {N : Nat} {x : Int32} {w' : Nat → va_W} (S : CallFix p m c cc nL s args Ts own) (harr : (Cond.arrayClass .boolean).before args s = true) (hK : va_K g.1 vwCl (kT g) s) (hP : va_P g.1 vwCl w H) (hD : va_D A w) (hS : va_S A s.heap H locs) (hA : ∀ q, s.heap.size ≤ q → A q)
    (hn : ¬ x < 0) (hN : x.toNatClampNeg = N) (hbytes : N * componentBytes .boolean ≤ 536870912) (hcells : cells + 1 ≤ R.cells) (hslots : slots + N ≤ R.slots) (hw : ∀ q, w ++ [(q, .inl (g.2.2.1, N, .inl fun _ => 0))] = w' q) (hdg : decode cc pc = .ok (.newarray .boolean, 2))
    (kk : ∀ (q : Nat) (H1 : Heap), va_P g.1 vwCl (w' q) H1 → va_D A (w' q) → va_S A s.heap H1 locs → W p l e R s m args below meth c H1 locs (cells + 1) (slots + N) Q (F0 m (pc + 2) ls (.ref q :: rest))) : W p l e R s m args below meth c H locs cells slots Q (F0 m pc ls (.int x :: rest)) := by
  refine va_newa (a0 := (N, .inl fun _ => 0)) (atype := .boolean) S.1 S.2.1 harr rfl hK hP hD hS hA (fun _ => rfl) hn hN hbytes hcells hslots hdg (fun q cA H1 hK1 hP1 hD1 hS1 => ?_)
  have h1 : va_RA s cA .boolean := (hK1.2 3 _ rfl).2
  have h2 : va_RA s g.2.2.1 .boolean := (hK.2 1 _ rfl).2
  have e : cA = g.2.2.1 := Option.some.inj (h1.symm.trans h2)
  subst e
  rw [hw] at hP1 hD1
  exact kk q H1 hP1 hD1 hS1
theorem kn_putF {T : u_T} {N ci a : Nat} {w' : va_W} (S : CallFix p m c cc nL s args Ts own) (hin2 : meth.name = "<init>") (hin : ∀ w ∈ u_ws C T N, w ∈ Ts) (ty0 : Nat → FieldType) (hty : ∀ k, k < N → parseFieldDescriptor (T k).2.2.1 = some (ty0 k)) (hnm : ∀ a, a < N → ∀ b, b < N → a ≠ b → (T a).2.1 ≠ (T b).2.1)
    (hK : va_K g.1 vwCl (kT g) s) (hP : va_P g.1 vwCl w H) (hD : va_D A w) (hS : va_S A s.heap H locs) (q0 : Nat) {fs : List Value} (he : w[q0]? = some (a, .inr (ci, fs))) (hc : vwCl[ci]? = some (C, T, N)) (k : Nat) (hk : k < N) (hlink : (Cond.fieldLink own index C (T k).2.1 (T k).2.2.1).before args s = true)
    (hfin : (T k).2.2.2 = true) {ty : FieldType} {v : Value} (hd : parseFieldDescriptor (T k).2.2.1 = some ty) (hn : narrow ty v = v) (hfit : fits ty v = true) (hl : k < fs.length) (hw : w.set q0 (a, .inr (ci, fs.set k v)) = w') (hdg : decode cc pc = .ok (.putfield index, 3)) (hO : (T k).1 = C) (hCo : C = own)
    (kk : ∀ (H1 : Heap) (locs1 : List Loc), va_P g.1 vwCl w' H1 → va_D A w' → va_S A s.heap H1 locs1 → W p l e R s m args below meth c H1 locs1 cells slots Q (F0 m (pc + 3) ls rest)) : W p l e R s m args below meth c H locs cells slots Q (F0 m pc ls (v :: .ref a :: rest)) := by
  subst hw
  exact va_putF (ref := C) S.1 S.2.1 S.2.2.2.2 hin ty0 hty hnm S.2.2.2.1 hK hP hD hS q0 he hc k hk hlink (fun x h => by rw [hO] at h; exact h) hfin hin2 (hO.trans hCo) hd hn hfit hl hdg kk
theorem kn_put {T : u_T} {N ci a : Nat} {w' : va_W} (S : CallFix p m c cc nL s args Ts own) (hin : ∀ w ∈ u_ws C T N, w ∈ Ts) (ty0 : Nat → FieldType) (hty : ∀ k, k < N → parseFieldDescriptor (T k).2.2.1 = some (ty0 k)) (hnm : ∀ a, a < N → ∀ b, b < N → a ≠ b → (T a).2.1 ≠ (T b).2.1)
    (hK : va_K g.1 vwCl (kT g) s) (hP : va_P g.1 vwCl w H) (hD : va_D A w) (hS : va_S A s.heap H locs) (q0 : Nat) {fs : List Value} (he : w[q0]? = some (a, .inr (ci, fs))) (hc : vwCl[ci]? = some (C, T, N)) (k : Nat) (hk : k < N) (hlink : (Cond.fieldLink own index C (T k).2.1 (T k).2.2.1).before args s = true)
    (hfin : (T k).2.2.2 = false) {ty : FieldType} {v : Value} (hd : parseFieldDescriptor (T k).2.2.1 = some ty) (hn : narrow ty v = v) (hfit : fits ty v = true) (hl : k < fs.length) (hw : w.set q0 (a, .inr (ci, fs.set k v)) = w') (hdg : decode cc pc = .ok (.putfield index, 3)) (hO : (T k).1 = C)
    (kk : ∀ (H1 : Heap) (locs1 : List Loc), va_P g.1 vwCl w' H1 → va_D A w' → va_S A s.heap H1 locs1 → W p l e R s m args below meth c H1 locs1 cells slots Q (F0 m (pc + 3) ls rest)) : W p l e R s m args below meth c H locs cells slots Q (F0 m pc ls (v :: .ref a :: rest)) := by
  subst hw
  exact va_put (ref := C) S.1 S.2.1 S.2.2.2.2 hin ty0 hty hnm S.2.2.2.1 hK hP hD hS q0 he hc k hk hlink (fun x h => by rw [hO] at h; exact h) hfin hd hn hfit hl hdg kk
theorem kn_iast {a n : Nat} {f : Nat → Int32} {i x : Int32} {w' : va_W} (S : CallFix p m c cc nL s args Ts own) (hK : va_K g.1 vwCl (kT g) s) (hP : va_P g.1 vwCl w H) (hD : va_D A w) (hS : va_S A s.heap H locs) (q0 : Nat) (ha : w[q0]? = some (a, .inl (g.2.1, n, .inl f))) (hin : vp_in i n)
    (hw : w.set q0 (a, .inl (g.2.1, n, .inl (upd f i.toNatClampNeg x))) = w') (hdg : decode cc pc = .ok (.iastore, 1))
    (kk : ∀ (H1 : Heap) (locs1 : List Loc), va_P g.1 vwCl w' H1 → va_D A w' → va_S A s.heap H1 locs1 → W p l e R s m args below meth c H1 locs1 cells slots Q (F0 m (pc + 1) ls rest)) : W p l e R s m args below meth c H locs cells slots Q (F0 m pc ls (.int x :: .int i :: .ref a :: rest)) := by
  subst hw
  exact va_iast S.1 S.2.1 hK hP hD hS q0 0 ha rfl hin hdg kk
theorem kn_ret {Sg : Type} {post : Sg → Prop} {wf : Sg → va_W} {u : Sg} (S : CallFix p m c cc nL s args Ts own) (hr : meth.sig.returnType = none) (hlocks : meth.locks = false) (hK : va_K g.1 vwCl (kT g) s) (hP : va_P g.1 vwCl w H) (hD : va_D A w) (hS : va_S A s.heap H locs) (hpost : post u) (hw : w = wf u) (hdg : decode cc pc = .ok (.return_, 1)) :
    W p l e R s m args below meth c H locs cells slots (MQ below (kQu g post wf A) args s cells slots A) (F0 m pc ls []) := by
  subst hw
  exact W.vret (hlocks := hlocks) S.1 S.2.1 hr (fun t ht hW => ⟨⟨u, rfl, hpost, by rw [ht]; exact hP, va_K.moved hW.alike hK, hD⟩, hS.F ht⟩) hS.2.2 hdg
end KNew
