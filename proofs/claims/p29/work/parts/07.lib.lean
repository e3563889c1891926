/-! My library: states as functions, guarded steps, loops, contracts that speak of one pure answer. -/
abbrev kG : Type := va_G × ClassId × ClassId × ClassId
abbrev St1 : Type := Nat → Nat → Int32
abbrev St2 : Type := Nat → Nat → Nat → Int32
abbrev kT (g : kG) : List (ClassId × FieldType) := [(g.2.1, .int), (g.2.2.1, .boolean), (g.2.2.2, .object "FloatOrder$Parade")]
/-- an index that lies in its row, else no answer -/
def kk_ck {α : Type} (i : Int32) (n : Nat) (x : Option α) : Option α := if i < 0 ∨ n ≤ i.toNatClampNeg then none else x
/-- a truth value -/
def kk_cb {α : Type} (i : Int32) (x : Option α) : Option α := if i = 0 ∨ i = 1 then x else none
/-- a divisor -/
def kk_cd {α : Type} (i : Int32) (x : Option α) : Option α := if i = 0 then none else x
def kk_nm {α β : Type} (e : α) (f : α → β) : β := f e
/-- a loop: its body goes on with a state, or ends with an answer -/
def kk_it {σ ρ : Type} (body : σ → Option (σ ⊕ ρ)) : Nat → σ → Option ρ
  | 0, _ => none
  | k + 1, s => (body s).bind fun x => match x with
    | .inl s' => kk_it body k s'
    | .inr r => some r
theorem kk_ck_el {α : Type} {i : Int32} {n : Nat} {x : Option α} {r : α} (h : kk_ck i n x = some r) : vp_in i n ∧ x = some r := by
  unfold kk_ck at h
  split at h
  · cases h
  · exact ⟨by assumption, h⟩
theorem kk_cb_el {α : Type} {i : Int32} {x : Option α} {r : α} (h : kk_cb i x = some r) : (i = 0 ∨ i = 1) ∧ x = some r := by
  unfold kk_cb at h
  split at h
  · exact ⟨by assumption, h⟩
  · cases h
theorem kk_cd_el {α : Type} {i : Int32} {x : Option α} {r : α} (h : kk_cd i x = some r) : ¬ i = 0 ∧ x = some r := by
  unfold kk_cd at h
  split at h
  · cases h
  · exact ⟨by assumption, h⟩
theorem kk_nm_el {α β : Type} {e : α} {f : α → β} {r : β} (h : kk_nm e f = r) : ∃ x, x = e ∧ f x = r := ⟨e, rfl, h⟩
theorem kk_bd_el {α β : Type} {o : Option α} {f : α → Option β} {r : β} (h : o.bind f = some r) : ∃ x, o = some x ∧ f x = some r := by
  cases o with
  | none => cases h
  | some x => exact ⟨x, rfl, h⟩
theorem kk_it_W {σ ρ : Type} {body : σ → Option (σ ⊕ ρ)} (Wh : σ → Prop) (r : ρ) (hs : ∀ s x, body s = some x → (∀ s', x = .inl s' → Wh s') → (∀ r', x = .inr r' → r' = r) → Wh s) : ∀ (k : Nat) (s : σ), kk_it body k s = some r → Wh s := by
  intro k
  induction k with
  | zero => intro s h; cases h
  | succ k ih =>
    intro s h
    rw [kk_it] at h
    obtain ⟨x, hx, h⟩ := kk_bd_el h
    refine hs s x hx (fun s' e => ?_) (fun r' e => ?_)
    · subst e
      exact ih s' h
    · subst e
      exact Option.some.inj h
theorem kk_in (k n : Nat) (hk : k < n) (hn : n < 2 ^ 31) {i : Int32} (hi : i = nI k) : vp_in i n := by
  rw [hi]; exact vp_in_nI hk hn
/-! worlds: a part of a world put back at its places -/
def kk_set : va_W → List Nat → va_W → va_W
  | w, i :: is, q :: qs => kk_set (w.set i q) is qs
  | w, _, _ => w
theorem kk_set_fst : ∀ (is : List Nat) (w v : va_W), is.map (fun i => (w.map Prod.fst)[i]?) = (v.map Prod.fst).map some → (kk_set w is v).map Prod.fst = w.map Prod.fst := by
  intro is
  induction is with
  | nil => intro w v _; cases v <;> rfl
  | cons i is ih =>
    intro w v h
    cases v with
    | nil => rfl
    | cons q qs =>
      simp only [List.map_cons, List.cons.injEq] at h
      obtain ⟨h1, h2⟩ := h
      have e : (w.set i q).map Prod.fst = w.map Prod.fst := by
        rw [List.map_set]
        have hi : i < (w.map Prod.fst).length := (List.getElem?_eq_some_iff.mp h1).1
        have hg : (w.map Prod.fst)[i] = q.1 := (List.getElem?_eq_some_iff.mp h1).2
        rw [← hg]
        exact List.set_getElem_self hi
      show (kk_set (w.set i q) is qs).map Prod.fst = _
      rw [ih (w.set i q) qs (by rw [e]; exact h2), e]
theorem kk_set_out : ∀ (is : List Nat) (w v : va_W) (j : Nat), j ∉ is → (kk_set w is v)[j]? = w[j]? := by
  intro is
  induction is with
  | nil => intro w v j _; cases v <;> rfl
  | cons i is ih =>
    intro w v j hj
    cases v with
    | nil => rfl
    | cons q qs =>
      show (kk_set (w.set i q) is qs)[j]? = _
      rw [ih _ _ _ (fun h => hj (List.mem_cons_of_mem _ h)), List.getElem?_set_ne (fun h => hj (by rw [h]; exact List.mem_cons_self))]
theorem kk_set_in : ∀ (is : List Nat) (w v : va_W), va_nd is = true → is.length = v.length → (∀ i ∈ is, i < w.length) → ∀ (t i : Nat), is[t]? = some i → (kk_set w is v)[i]? = v[t]? := by
  intro is
  induction is with
  | nil => intro w v _ _ _ t i h; simp at h
  | cons j is ih =>
    intro w v hn hl hw t i ht
    cases v with
    | nil => simp at hl
    | cons q qs =>
      simp only [va_nd, Bool.and_eq_true, decide_eq_true_eq] at hn
      show (kk_set (w.set j q) is qs)[i]? = _
      cases t with
      | zero =>
        simp only [List.getElem?_cons_zero, Option.some.injEq] at ht
        subst ht
        rw [kk_set_out _ _ _ _ hn.1, List.getElem?_cons_zero, List.getElem?_set_self (hw _ List.mem_cons_self)]
      | succ t =>
        rw [List.getElem?_cons_succ] at ht ⊢
        refine ih _ _ hn.2 (by simpa using hl) (fun k hk => ?_) t i ht
        rw [List.length_set]
        exact hw k (List.mem_cons_of_mem _ hk)
theorem kk_D_fst {A : Nat → Prop} {w v : va_W} (h : v.map Prod.fst = w.map Prod.fst) (hD : va_D A w) : va_D A v := by
  have key : ∀ (k : Nat) (q : Nat × va_E), v[k]? = some q → ∃ q0, w[k]? = some q0 ∧ q0.1 = q.1 := by
    intro k q hk
    have h1 : (v.map Prod.fst)[k]? = some q.1 := by rw [List.getElem?_map, hk]; rfl
    rw [h, List.getElem?_map] at h1
    cases hw : w[k]? with
    | none => rw [hw] at h1; cases h1
    | some q0 => rw [hw] at h1; exact ⟨q0, rfl, Option.some.inj h1⟩
  refine ⟨fun i j x y hi hj hxy => ?_, fun k q hk => ?_⟩
  · obtain ⟨x0, h1, h2⟩ := key i x hi
    obtain ⟨y0, h3, h4⟩ := key j y hj
    exact hD.1 i j x0 y0 h1 h3 (h2.trans (hxy.trans h4.symm))
  · obtain ⟨q0, h1, h2⟩ := key k q hk
    rw [← h2]
    exact hD.2 k q0 h1
theorem kk_join {A0 : Nat → Prop} {D : va_G} {cl : List vw_C} {ws wc w1 : va_W} {H H1 : Heap} (hP : va_P D cl ws H) (hD : va_D A0 ws) (is : List Nat) (hC : is.map (fun i => ws[i]?) = wc.map some) (hn : va_nd is = true) (hadr : w1.map Prod.fst = wc.map Prod.fst)
    (hk : ∀ q : Nat, q < H.size → ¬ va_A wc H.size q → H1[q]? = H[q]?) (hP1 : va_P D cl w1 H1) : va_P D cl (kk_set ws is w1) H1 ∧ va_D A0 (kk_set ws is w1) := by
  have hlen : is.length = w1.length := by
    have h1 := congrArg List.length hC
    have h2 := congrArg List.length hadr
    simp only [List.length_map] at h1 h2
    omega
  have hin : ∀ i ∈ is, i < ws.length := by
    intro i hi
    have h1 : ws[i]? ∈ is.map (fun i => ws[i]?) := List.mem_map.mpr ⟨i, hi, rfl⟩
    rw [hC] at h1
    obtain ⟨q, -, hq⟩ := List.mem_map.mp h1
    exact (List.getElem?_eq_some_iff.mp hq.symm).1
  have hf : is.map (fun i => (ws.map Prod.fst)[i]?) = (w1.map Prod.fst).map some := by
    rw [hadr]
    have h1 := congrArg (List.map (Option.map Prod.fst)) hC
    simp only [List.map_map] at h1 ⊢
    refine Eq.trans (List.map_congr_left fun i _ => ?_) (h1.trans (List.map_congr_left fun q _ => ?_))
    · simp
    · simp
  refine ⟨fun k q hq => ?_, kk_D_fst (kk_set_fst is ws w1 hf) hD⟩
  by_cases hki : k ∈ is
  · obtain ⟨t, ht⟩ := List.getElem?_of_mem hki
    rw [kk_set_in is ws w1 hn hlen hin t k ht] at hq
    exact hP1 t q hq
  · rw [kk_set_out is ws w1 k hki] at hq
    have hl := (hP k q hq).lt
    refine (hP k q hq).kept (hk q.1 hl (fun h => ?_))
    rcases h with ⟨t, e, h⟩ | h
    · have h1 : (is.map (fun i => ws[i]?))[t]? = some (some (q.1, e)) := by rw [hC, List.getElem?_map, h]; rfl
      rw [List.getElem?_map] at h1
      cases hi : is[t]? with
      | none => rw [hi] at h1; cases h1
      | some i =>
        rw [hi] at h1
        have h2 : ws[i]? = some (q.1, e) := Option.some.inj h1
        have hij := hD.1 k i q (q.1, e) hq h2 rfl
        exact hki (by rw [hij]; exact List.mem_of_getElem? hi)
    · omega
/-! contracts: from the world w the method answers r and leaves the world w' -/
def kPre (g : kG) (w : va_W) (av : List Value) (sz : Nat) : Array Value → State → Prop := va_Pc av (fun U => U.heap.size = sz ∧ va_P g.1 vwCl w U.heap ∧ va_K g.1 vwCl (kT g) U ∧ va_D (fun _ => True) w)
def kB (g : kG) (w : va_W) (A : Nat → Prop) : Unit → State → Prop := fun _ t => va_P g.1 vwCl w t.heap ∧ va_K g.1 vwCl (kT g) t ∧ va_D A w
def kQi (g : kG) (w : va_W) (r : Int32) (A : Nat → Prop) : Array Value → State → Outcome → State → Prop := va_Qi (fun r' (_ : Unit) => r' = r) (kB g w A) A
def kQl (g : kG) (w : va_W) (r : Int64) (A : Nat → Prop) : Array Value → State → Outcome → State → Prop := va_Ql (fun r' (_ : Unit) => r' = r) (kB g w A) A
def kQd (g : kG) (w : va_W) (r : UInt64) (A : Nat → Prop) : Array Value → State → Outcome → State → Prop := va_Qd (fun r' (_ : Unit) => r' = r) (kB g w A) A
def kQv (g : kG) (w : va_W) (A : Nat → Prop) : Array Value → State → Outcome → State → Prop := va_Qv (fun (_ : Unit) => True) (kB g w A) A
/-- Q: kQi g w' r, .. -/
def kSp (l : Launch) (g : kG) (y : MethodName) (ws : List Cond) (rm : Room) (av : List Value) (w : va_W) (Q : (Nat → Prop) → Array Value → State → Outcome → State → Prop) : Prop :=
  ∀ sz : Nat, Met l y ws rm (kPre g w av sz) (Q (va_A w sz)) 0 0 (va_A w sz)
theorem kPre_blind {g : kG} {w : va_W} {av : List Value} {sz : Nat} : FrameBlind (kPre g w av sz) := fun a U f mk q => by
  obtain ⟨q0, q1, qP, qK, qD⟩ := q
  exact ⟨q0, q1, qP, va_K.moved (u := U) (U := U.calling f mk a) (Vm.Alike.refl U.vm) qK, qD⟩
theorem kSp.of {l : Launch} {g : kG} {y : MethodName} {ws ws' : List Cond} {rm : Room} {av : List Value} {w : va_W} {Q : (Nat → Prop) → Array Value → State → Outcome → State → Prop} {cc : ByteArray} {maxL : Nat} {ret : Option FieldType}
    (hy : plainName y.cls = true) (hw : ws = Cond.code y cc maxL ret :: ws') (hlen : (lg_sl av).length ≤ maxL)
    (body : ∀ (p : Program) (e : Env) (s : State) (m : MethodId) (args : Array Value) (below : List Frame) (meth : Method) (c : Code) (ls : Array Slot) (A : Nat → Prop),
      CallFix p m c cc maxL s args ws y.cls → meth.sig.returnType = ret → meth.locks = false → (∀ q, s.heap.size ≤ q → A q) → va_K g.1 vwCl (kT g) s → lv_has ls maxL (lv_args 0 av) → va_P g.1 vwCl w s.heap → va_D A w → va_S A s.heap s.heap [] →
      W p l e rm s m args below meth c s.heap [] 0 0 (MQ below (Q A) args s 0 0 A) (F0 m 0 ls [])) : kSp l g y ws rm av w Q := by
  intro sz
  refine Met.ofW (cc := cc) (maxL := maxL) (ret := ret) hy hw ?_
  intro p e s m args below meth c s₁ B hml hv
  obtain ⟨rfl, hsz, hP, hK, hD0⟩ := hv
  subst hsz
  rw [lg_entry_eq]
  exact body p e s m _ below meth c _ _ ⟨B.exec, B.bytes, hml, findClass_of_methodNamed B.named, atoms_spec B.pre⟩ B.returns B.notSynchronized (fun q h => Or.inr h) hK (lv_entry av hlen) hP hD0.self va_S.rf
section KRows
variable {p : Program} {l : Launch} {e : Env} {R : Room} {s : State} {m : MethodId} {args : Array Value} {below : List Frame} {meth : Method} {c : Code} {H : Heap} {locs : List Loc} {Q : State → Prop}
variable {y : MethodName} {bytes cc : ByteArray} {maxL nL n index pc : Nat} {ret : Option FieldType} {ws : List Cond} {rm : Room} {Ts : List Cond} {own C : String} {b : Addr} {As rest st0 : List Value} {ls : Array Slot} {g : kG} {w wc w1 w' : va_W} {A : Nat → Prop}
theorem kk_ret_i {r r' : Int32} (S : CallFix p m c cc nL s args Ts own) (hr : meth.sig.returnType = some .int) (hlocks : meth.locks = false) (hK : va_K g.1 vwCl (kT g) s) (hP : va_P g.1 vwCl w H) (hD : va_D A w) (hS : va_S A s.heap H locs) (hdg : decode cc pc = .ok (.ireturn, 1)) (er : r' = r) :
    W p l e R s m args below meth c H locs 0 0 (MQ below (kQi g w r A) args s 0 0 A) (F0 m pc ls [.int r']) :=
  W.iret (hlocks := hlocks) S.1 S.2.1 hr (fun t ht hW => ⟨⟨r', (), rfl, er, by rw [ht]; exact hP, va_K.moved hW.alike hK, hD⟩, hS.F ht⟩) hS.2.2 hdg
theorem kk_nz {r : Int32} (h : r = 0 ∨ r = 1) : narrow .boolean (.int r) = .int r := by rcases h with rfl | rfl <;> rfl
theorem kk_fz {r : Int32} (h : r = 0 ∨ r = 1) : fits .boolean (.int r) = true := by rcases h with rfl | rfl <;> rfl
theorem kk_ret_z {r r' : Int32} (S : CallFix p m c cc nL s args Ts own) (hr : meth.sig.returnType = some .boolean) (hlocks : meth.locks = false) (hK : va_K g.1 vwCl (kT g) s) (hP : va_P g.1 vwCl w H) (hD : va_D A w) (hS : va_S A s.heap H locs) (hdg : decode cc pc = .ok (.ireturn, 1)) (hz : r' = 0 ∨ r' = 1) (er : r' = r) :
    W p l e R s m args below meth c H locs 0 0 (MQ below (kQi g w r A) args s 0 0 A) (F0 m pc ls [.int r']) :=
  W.zret (hlocks := hlocks) S.1 S.2.1 hr (kk_nz hz) (fun t ht hW => ⟨⟨r', (), rfl, er, by rw [ht]; exact hP, va_K.moved hW.alike hK, hD⟩, hS.F ht⟩) hS.2.2 hdg
theorem kk_ret_v (S : CallFix p m c cc nL s args Ts own) (hr : meth.sig.returnType = none) (hlocks : meth.locks = false) (hK : va_K g.1 vwCl (kT g) s) (hP : va_P g.1 vwCl w H) (hD : va_D A w) (hS : va_S A s.heap H locs) (hdg : decode cc pc = .ok (.return_, 1)) :
    W p l e R s m args below meth c H locs 0 0 (MQ below (kQv g w A) args s 0 0 A) (F0 m pc ls []) :=
  W.vret (hlocks := hlocks) S.1 S.2.1 hr (fun t ht hW => ⟨⟨(), rfl, trivial, by rw [ht]; exact hP, va_K.moved hW.alike hK, hD⟩, hS.F ht⟩) hS.2.2 hdg
/-- behind any call -/
theorem kk_free (hD : va_D A w) (hS : va_S A s.heap H locs) (hA : ∀ q, s.heap.size ≤ q → A q) (is : List Nat) (hC : is.map (fun i => w[i]?) = wc.map some) : ∀ q, va_A wc H.size q → A q := va_free hD hS hA is hC
theorem kk_preV (hK : va_K g.1 vwCl (kT g) s) (hP : va_P g.1 vwCl w H) (hD : va_D A w) (is : List Nat) (hn : va_nd is = true) (hC : is.map (fun i => w[i]?) = wc.map some) {av : List Value} : PreS s H (kPre g wc av H.size) av := by
  refine ⟨kPre_blind, fun U hU hW => ⟨rfl, by rw [hU], ?_, va_K.moved hW.alike hK, (hD.sub is hn hC).weaken (fun _ _ _ _ => trivial)⟩⟩
  rw [hU]
  refine hP.sub is ?_
  have h1 : is.filterMap (fun i => w[i]?) = (is.map (fun i => w[i]?)).filterMap id := by rw [List.filterMap_map]; rfl
  rw [h1, hC, List.filterMap_map]
  show wc.filterMap some = wc
  exact List.filterMap_some
theorem kk_call_Vi {r : Int32} {q : vw_C} {fs : List Value} (q0 ci : Nat) (S : CallFix p m c cc nL s args Ts own) (hSp : kSp l g y ws rm (.ref b :: As) wc (kQi g w1 r)) (cw : CallW R s args own C index y bytes maxL ret ws rm 0 0 n)
    (hK : va_K g.1 vwCl (kT g) s) (hP : va_P g.1 vwCl w H) (hD : va_D A w) (hS : va_S A s.heap H locs) (hA : ∀ q, s.heap.size ≤ q → A q) (is : List Nat) (hC : is.map (fun i => w[i]?) = wc.map some) (hnd : va_nd is = true) (hadr : w1.map Prod.fst = wc.map Prod.fst) (hw : kk_set w is w1 = w')
    (hcl : vwCl[ci]? = some q) (he : w[q0]? = some (b, .inr (ci, fs))) (hCn : q.1 = C) (hst : st0 = As.reverse ++ .ref b :: rest) (hn : As.length = n) (hsz : ls.size = nL) (hroom : (rest.map fun v => v.category).sum ≤ 8) (hdg : decode cc pc = .ok (.invokevirtual index, 3))
    (kk : ∀ (H1 : Heap) (locs1 : List Loc), va_P g.1 vwCl w' H1 → va_D A w' → va_S A s.heap H1 locs1 → W p l e R s m args below meth c H1 locs1 0 0 Q (F0 m (pc + 3) ls (.int r :: rest))) : W p l e R s m args below meth c H locs 0 0 Q (F0 m pc ls st0) := by
  have hpre := kk_preV (wc := wc) (av := .ref b :: As) hK hP hD is hnd hC
  have hFc := kk_free hD hS hA is hC
  subst hCn
  refine va_calli (va_runV S (hSp H.size) cw ⟨hpre.1, va_recv hK hP hcl he, hpre.2⟩ rfl hn hsz hst (lv_room hroom) hdg ⟨Nat.zero_le _, Nat.zero_le _⟩) hS (fun q _ h => hFc q h) hFc (fun r1 u t H1 locs1 ht hvm hp hB hz1 hk1 hS1 => ?_)
  obtain ⟨hP1, -, -⟩ := hB
  rw [ht] at hP1
  obtain ⟨h1, h2⟩ := kk_join hP hD is hC hnd hadr hk1 hP1
  rw [hw] at h1 h2
  subst hp
  exact kk H1 locs1 h1 h2 hS1
theorem kk_call_Vv {q : vw_C} {fs : List Value} (q0 ci : Nat) (S : CallFix p m c cc nL s args Ts own) (hSp : kSp l g y ws rm (.ref b :: As) wc (kQv g w1)) (cw : CallW R s args own C index y bytes maxL ret ws rm 0 0 n)
    (hK : va_K g.1 vwCl (kT g) s) (hP : va_P g.1 vwCl w H) (hD : va_D A w) (hS : va_S A s.heap H locs) (hA : ∀ q, s.heap.size ≤ q → A q) (is : List Nat) (hC : is.map (fun i => w[i]?) = wc.map some) (hnd : va_nd is = true) (hadr : w1.map Prod.fst = wc.map Prod.fst) (hw : kk_set w is w1 = w')
    (hcl : vwCl[ci]? = some q) (he : w[q0]? = some (b, .inr (ci, fs))) (hCn : q.1 = C) (hst : st0 = As.reverse ++ .ref b :: rest) (hn : As.length = n) (hsz : ls.size = nL) (hroom : (rest.map fun v => v.category).sum ≤ 8) (hdg : decode cc pc = .ok (.invokevirtual index, 3))
    (kk : ∀ (H1 : Heap) (locs1 : List Loc), va_P g.1 vwCl w' H1 → va_D A w' → va_S A s.heap H1 locs1 → W p l e R s m args below meth c H1 locs1 0 0 Q (F0 m (pc + 3) ls rest)) : W p l e R s m args below meth c H locs 0 0 Q (F0 m pc ls st0) := by
  have hpre := kk_preV (wc := wc) (av := .ref b :: As) hK hP hD is hnd hC
  have hFc := kk_free hD hS hA is hC
  subst hCn
  refine va_callv (va_runV S (hSp H.size) cw ⟨hpre.1, va_recv hK hP hcl he, hpre.2⟩ rfl hn hsz hst (lv_room hroom) hdg ⟨Nat.zero_le _, Nat.zero_le _⟩) hS (fun q _ h => hFc q h) hFc (fun u t H1 locs1 ht hvm hp hB hz1 hk1 hS1 => ?_)
  obtain ⟨hP1, -, -⟩ := hB
  rw [ht] at hP1
  obtain ⟨h1, h2⟩ := kk_join hP hD is hC hnd hadr hk1 hP1
  rw [hw] at h1 h2
  exact kk H1 locs1 h1 h2 hS1
theorem kk_call_Vl {r : Int64} {q : vw_C} {fs : List Value} (q0 ci : Nat) (S : CallFix p m c cc nL s args Ts own) (hSp : kSp l g y ws rm (.ref b :: As) wc (kQl g w1 r)) (cw : CallW R s args own C index y bytes maxL ret ws rm 0 0 n)
    (hK : va_K g.1 vwCl (kT g) s) (hP : va_P g.1 vwCl w H) (hD : va_D A w) (hS : va_S A s.heap H locs) (hA : ∀ q, s.heap.size ≤ q → A q) (is : List Nat) (hC : is.map (fun i => w[i]?) = wc.map some) (hnd : va_nd is = true) (hadr : w1.map Prod.fst = wc.map Prod.fst) (hw : kk_set w is w1 = w')
    (hcl : vwCl[ci]? = some q) (he : w[q0]? = some (b, .inr (ci, fs))) (hCn : q.1 = C) (hst : st0 = As.reverse ++ .ref b :: rest) (hn : As.length = n) (hsz : ls.size = nL) (hroom : (rest.map fun v => v.category).sum ≤ 8) (hdg : decode cc pc = .ok (.invokevirtual index, 3))
    (kk : ∀ (H1 : Heap) (locs1 : List Loc), va_P g.1 vwCl w' H1 → va_D A w' → va_S A s.heap H1 locs1 → W p l e R s m args below meth c H1 locs1 0 0 Q (F0 m (pc + 3) ls (.long r :: rest))) : W p l e R s m args below meth c H locs 0 0 Q (F0 m pc ls st0) := by
  have hpre := kk_preV (wc := wc) (av := .ref b :: As) hK hP hD is hnd hC
  have hFc := kk_free hD hS hA is hC
  subst hCn
  refine va_calll (va_runV S (hSp H.size) cw ⟨hpre.1, va_recv hK hP hcl he, hpre.2⟩ rfl hn hsz hst (lv_room hroom) hdg ⟨Nat.zero_le _, Nat.zero_le _⟩) hS (fun q _ h => hFc q h) hFc (fun r1 u t H1 locs1 ht hvm hp hB hz1 hk1 hS1 => ?_)
  obtain ⟨hP1, -, -⟩ := hB
  rw [ht] at hP1
  obtain ⟨h1, h2⟩ := kk_join hP hD is hC hnd hadr hk1 hP1
  rw [hw] at h1 h2
  subst hp
  exact kk H1 locs1 h1 h2 hS1
theorem kk_call_Vd {r : UInt64} {q : vw_C} {fs : List Value} (q0 ci : Nat) (S : CallFix p m c cc nL s args Ts own) (hSp : kSp l g y ws rm (.ref b :: As) wc (kQd g w1 r)) (cw : CallW R s args own C index y bytes maxL ret ws rm 0 0 n)
    (hK : va_K g.1 vwCl (kT g) s) (hP : va_P g.1 vwCl w H) (hD : va_D A w) (hS : va_S A s.heap H locs) (hA : ∀ q, s.heap.size ≤ q → A q) (is : List Nat) (hC : is.map (fun i => w[i]?) = wc.map some) (hnd : va_nd is = true) (hadr : w1.map Prod.fst = wc.map Prod.fst) (hw : kk_set w is w1 = w')
    (hcl : vwCl[ci]? = some q) (he : w[q0]? = some (b, .inr (ci, fs))) (hCn : q.1 = C) (hst : st0 = As.reverse ++ .ref b :: rest) (hn : As.length = n) (hsz : ls.size = nL) (hroom : (rest.map fun v => v.category).sum ≤ 8) (hdg : decode cc pc = .ok (.invokevirtual index, 3))
    (kk : ∀ (H1 : Heap) (locs1 : List Loc), va_P g.1 vwCl w' H1 → va_D A w' → va_S A s.heap H1 locs1 → W p l e R s m args below meth c H1 locs1 0 0 Q (F0 m (pc + 3) ls (.double r :: rest))) : W p l e R s m args below meth c H locs 0 0 Q (F0 m pc ls st0) := by
  have hpre := kk_preV (wc := wc) (av := .ref b :: As) hK hP hD is hnd hC
  have hFc := kk_free hD hS hA is hC
  subst hCn
  refine va_calld (va_runV S (hSp H.size) cw ⟨hpre.1, va_recv hK hP hcl he, hpre.2⟩ rfl hn hsz hst (lv_room hroom) hdg ⟨Nat.zero_le _, Nat.zero_le _⟩) hS (fun q _ h => hFc q h) hFc (fun r1 u t H1 locs1 ht hvm hp hB hz1 hk1 hS1 => ?_)
  obtain ⟨hP1, -, -⟩ := hB
  rw [ht] at hP1
  obtain ⟨h1, h2⟩ := kk_join hP hD is hC hnd hadr hk1 hP1
  rw [hw] at h1 h2
  subst hp
  exact kk H1 locs1 h1 h2 hS1
theorem kk_call_Si {r : Int32} (S : CallFix p m c cc nL s args Ts own) (hSp : kSp l g y ws rm As wc (kQi g w1 r)) (cw : CallB R s args own index y bytes maxL ret ws rm 0 0 n ∧ (Cond.static y).before args s = true)
    (hK : va_K g.1 vwCl (kT g) s) (hP : va_P g.1 vwCl w H) (hD : va_D A w) (hS : va_S A s.heap H locs) (hA : ∀ q, s.heap.size ≤ q → A q) (is : List Nat) (hC : is.map (fun i => w[i]?) = wc.map some) (hnd : va_nd is = true) (hadr : w1.map Prod.fst = wc.map Prod.fst) (hw : kk_set w is w1 = w')
    (hst : st0 = As.reverse ++ rest) (hn : As.length = n) (hsz : ls.size = nL) (hroom : (rest.map fun v => v.category).sum ≤ 8) (hdg : decode cc pc = .ok (.invokestatic index, 3))
    (kk : ∀ (H1 : Heap) (locs1 : List Loc), va_P g.1 vwCl w' H1 → va_D A w' → va_S A s.heap H1 locs1 → W p l e R s m args below meth c H1 locs1 0 0 Q (F0 m (pc + 3) ls (.int r :: rest))) : W p l e R s m args below meth c H locs 0 0 Q (F0 m pc ls st0) := by
  have hpre := kk_preV (wc := wc) (av := As) hK hP hD is hnd hC
  have hFc := kk_free hD hS hA is hC
  refine va_calli (va_runS S (hSp H.size) cw hpre rfl hn hsz hst (lv_room hroom) hdg ⟨Nat.zero_le _, Nat.zero_le _⟩) hS (fun q _ h => hFc q h) hFc (fun r1 u t H1 locs1 ht hvm hp hB hz1 hk1 hS1 => ?_)
  obtain ⟨hP1, -, -⟩ := hB
  rw [ht] at hP1
  obtain ⟨h1, h2⟩ := kk_join hP hD is hC hnd hadr hk1 hP1
  rw [hw] at h1 h2
  subst hp
  exact kk H1 locs1 h1 h2 hS1
theorem kk_call_Sv (S : CallFix p m c cc nL s args Ts own) (hSp : kSp l g y ws rm As wc (kQv g w1)) (cw : CallB R s args own index y bytes maxL ret ws rm 0 0 n ∧ (Cond.static y).before args s = true)
    (hK : va_K g.1 vwCl (kT g) s) (hP : va_P g.1 vwCl w H) (hD : va_D A w) (hS : va_S A s.heap H locs) (hA : ∀ q, s.heap.size ≤ q → A q) (is : List Nat) (hC : is.map (fun i => w[i]?) = wc.map some) (hnd : va_nd is = true) (hadr : w1.map Prod.fst = wc.map Prod.fst) (hw : kk_set w is w1 = w')
    (hst : st0 = As.reverse ++ rest) (hn : As.length = n) (hsz : ls.size = nL) (hroom : (rest.map fun v => v.category).sum ≤ 8) (hdg : decode cc pc = .ok (.invokestatic index, 3))
    (kk : ∀ (H1 : Heap) (locs1 : List Loc), va_P g.1 vwCl w' H1 → va_D A w' → va_S A s.heap H1 locs1 → W p l e R s m args below meth c H1 locs1 0 0 Q (F0 m (pc + 3) ls rest)) : W p l e R s m args below meth c H locs 0 0 Q (F0 m pc ls st0) := by
  have hpre := kk_preV (wc := wc) (av := As) hK hP hD is hnd hC
  have hFc := kk_free hD hS hA is hC
  refine va_callv (va_runS S (hSp H.size) cw hpre rfl hn hsz hst (lv_room hroom) hdg ⟨Nat.zero_le _, Nat.zero_le _⟩) hS (fun q _ h => hFc q h) hFc (fun u t H1 locs1 ht hvm hp hB hz1 hk1 hS1 => ?_)
  obtain ⟨hP1, -, -⟩ := hB
  rw [ht] at hP1
  obtain ⟨h1, h2⟩ := kk_join hP hD is hC hnd hadr hk1 hP1
  rw [hw] at h1 h2
  exact kk H1 locs1 h1 h2 hS1
theorem kk_call_Sl {r : Int64} (S : CallFix p m c cc nL s args Ts own) (hSp : kSp l g y ws rm As wc (kQl g w1 r)) (cw : CallB R s args own index y bytes maxL ret ws rm 0 0 n ∧ (Cond.static y).before args s = true)
    (hK : va_K g.1 vwCl (kT g) s) (hP : va_P g.1 vwCl w H) (hD : va_D A w) (hS : va_S A s.heap H locs) (hA : ∀ q, s.heap.size ≤ q → A q) (is : List Nat) (hC : is.map (fun i => w[i]?) = wc.map some) (hnd : va_nd is = true) (hadr : w1.map Prod.fst = wc.map Prod.fst) (hw : kk_set w is w1 = w')
    (hst : st0 = As.reverse ++ rest) (hn : As.length = n) (hsz : ls.size = nL) (hroom : (rest.map fun v => v.category).sum ≤ 8) (hdg : decode cc pc = .ok (.invokestatic index, 3))
    (kk : ∀ (H1 : Heap) (locs1 : List Loc), va_P g.1 vwCl w' H1 → va_D A w' → va_S A s.heap H1 locs1 → W p l e R s m args below meth c H1 locs1 0 0 Q (F0 m (pc + 3) ls (.long r :: rest))) : W p l e R s m args below meth c H locs 0 0 Q (F0 m pc ls st0) := by
  have hpre := kk_preV (wc := wc) (av := As) hK hP hD is hnd hC
  have hFc := kk_free hD hS hA is hC
  refine va_calll (va_runS S (hSp H.size) cw hpre rfl hn hsz hst (lv_room hroom) hdg ⟨Nat.zero_le _, Nat.zero_le _⟩) hS (fun q _ h => hFc q h) hFc (fun r1 u t H1 locs1 ht hvm hp hB hz1 hk1 hS1 => ?_)
  obtain ⟨hP1, -, -⟩ := hB
  rw [ht] at hP1
  obtain ⟨h1, h2⟩ := kk_join hP hD is hC hnd hadr hk1 hP1
  rw [hw] at h1 h2
  subst hp
  exact kk H1 locs1 h1 h2 hS1
theorem kk_nmi {x y : Int32} (ex : x = y) (k : W p l e R s m args below meth c H locs 0 0 Q (F0 m pc ls (.int x :: rest))) : W p l e R s m args below meth c H locs 0 0 Q (F0 m pc ls (.int y :: rest)) := by subst ex; exact k
theorem kk_cut {w' : va_W} {nL pcJ : Nat} {lv : List (Nat × Value)} {st : List Value} {f : JFrame}
    (J : ∀ (H : Heap) (locs : List Loc) (ls : Array Slot), va_P g.1 vwCl w' H → va_D A w' → va_S A s.heap H locs → lv_has ls nL lv → W p l e R s m args below meth c H locs 0 0 Q (F0 m pcJ ls st))
    (k : (∀ (H : Heap) (locs : List Loc) (ls : Array Slot), va_P g.1 vwCl w' H → va_D A w' → va_S A s.heap H locs → lv_has ls nL lv → W p l e R s m args below meth c H locs 0 0 Q (F0 m pcJ ls st)) → W p l e R s m args below meth c H locs 0 0 Q f) : W p l e R s m args below meth c H locs 0 0 Q f := k J
theorem kk_cut0 {pcJ : Nat} {st : List Value} {ls : Array Slot} {f : JFrame} (J : W p l e R s m args below meth c H locs 0 0 Q (F0 m pcJ ls st))
    (k : W p l e R s m args below meth c H locs 0 0 Q (F0 m pcJ ls st) → W p l e R s m args below meth c H locs 0 0 Q f) : W p l e R s m args below meth c H locs 0 0 Q f := k J
theorem kk_loop {σ ρ : Type} {body : σ → Option (σ ⊕ ρ)} {k nL : Nat} {st0 : σ} {r : ρ} {ls : Array Slot} (wf : σ → va_W) (lvf : σ → List (Nat × Value)) (pcH : Nat) (hres : kk_it body k st0 = some r)
    (step : ∀ (st : σ) (x : σ ⊕ ρ), body st = some x → (∀ s', x = .inl s' → ∀ (H : Heap) (locs : List Loc) (ls : Array Slot), va_P g.1 vwCl (wf s') H → va_D A (wf s') → va_S A s.heap H locs → lv_has ls nL (lvf s') → W p l e R s m args below meth c H locs 0 0 Q (F0 m pcH ls [])) → (∀ r', x = .inr r' → r' = r) →
      ∀ (H : Heap) (locs : List Loc) (ls : Array Slot), va_P g.1 vwCl (wf st) H → va_D A (wf st) → va_S A s.heap H locs → lv_has ls nL (lvf st) → W p l e R s m args below meth c H locs 0 0 Q (F0 m pcH ls []))
    (hP : va_P g.1 vwCl (wf st0) H) (hD : va_D A (wf st0)) (hS : va_S A s.heap H locs) (hl : lv_has ls nL (lvf st0)) : W p l e R s m args below meth c H locs 0 0 Q (F0 m pcH ls []) :=
  kk_it_W (fun st => ∀ (H : Heap) (locs : List Loc) (ls : Array Slot), va_P g.1 vwCl (wf st) H → va_D A (wf st) → va_S A s.heap H locs → lv_has ls nL (lvf st) → W p l e R s m args below meth c H locs 0 0 Q (F0 m pcH ls [])) r step k st0 hres H locs ls hP hD hS hl
theorem kk_put {C : String} {T : u_T} {N ci : Nat} {a : Nat} (S : CallFix p m c cc nL s args Ts own) (hin : ∀ w ∈ u_ws C T N, w ∈ Ts) (ty0 : Nat → FieldType) (hty : ∀ k, k < N → parseFieldDescriptor (T k).2.2.1 = some (ty0 k)) (hnm : ∀ a, a < N → ∀ b, b < N → a ≠ b → (T a).2.1 ≠ (T b).2.1)
    (hK : va_K g.1 vwCl (kT g) s) (hP : va_P g.1 vwCl w H) (hD : va_D A w) (hS : va_S A s.heap H locs) (q0 : Nat) {fs : List Value} (he : w[q0]? = some (a, .inr (ci, fs))) (hc : vwCl[ci]? = some (C, T, N)) (k : Nat) (hk : k < N) (hlink : (Cond.fieldLink own index C (T k).2.1 (T k).2.2.1).before args s = true)
    (hfin : (T k).2.2.2 = false) {ty : FieldType} {v : Value} (hd : parseFieldDescriptor (T k).2.2.1 = some ty) (hn : narrow ty v = v) (hfit : fits ty v = true) (hl : k < fs.length) (hw : w.set q0 (a, .inr (ci, fs.set k v)) = w') (hdg : decode cc pc = .ok (.putfield index, 3)) (hO : (T k).1 = C)
    (kk : ∀ (H1 : Heap) (locs1 : List Loc), va_P g.1 vwCl w' H1 → va_D A w' → va_S A s.heap H1 locs1 → W p l e R s m args below meth c H1 locs1 0 0 Q (F0 m (pc + 3) ls rest)) : W p l e R s m args below meth c H locs 0 0 Q (F0 m pc ls (v :: .ref a :: rest)) := by
  subst hw
  exact va_put (ref := C) S.1 S.2.1 S.2.2.2.2 hin ty0 hty hnm S.2.2.2.1 hK hP hD hS q0 he hc k hk hlink (fun x h => by rw [hO] at h; exact h) hfin hd hn hfit hl hdg kk
theorem kk_iast {a n : Nat} {f : Nat → Int32} {i x : Int32} (S : CallFix p m c cc nL s args Ts own) (hK : va_K g.1 vwCl (kT g) s) (hP : va_P g.1 vwCl w H) (hD : va_D A w) (hS : va_S A s.heap H locs) (q0 : Nat) (ha : w[q0]? = some (a, .inl (g.2.1, n, .inl f))) (hin : vp_in i n)
    (hw : w.set q0 (a, .inl (g.2.1, n, .inl (upd f i.toNatClampNeg x))) = w') (hdg : decode cc pc = .ok (.iastore, 1))
    (kk : ∀ (H1 : Heap) (locs1 : List Loc), va_P g.1 vwCl w' H1 → va_D A w' → va_S A s.heap H1 locs1 → W p l e R s m args below meth c H1 locs1 0 0 Q (F0 m (pc + 1) ls rest)) : W p l e R s m args below meth c H locs 0 0 Q (F0 m pc ls (.int x :: .int i :: .ref a :: rest)) := by
  subst hw
  exact va_iast S.1 S.2.1 hK hP hD hS q0 0 ha rfl hin hdg kk
theorem kk_zast {a n : Nat} {f : Nat → Int32} {i x : Int32} (S : CallFix p m c cc nL s args Ts own) (hK : va_K g.1 vwCl (kT g) s) (hP : va_P g.1 vwCl w H) (hD : va_D A w) (hS : va_S A s.heap H locs) (q0 : Nat) (ha : w[q0]? = some (a, .inl (g.2.2.1, n, .inl f))) (hin : vp_in i n) (hz : x = 0 ∨ x = 1)
    (hw : w.set q0 (a, .inl (g.2.2.1, n, .inl (upd f i.toNatClampNeg x))) = w') (hdg : decode cc pc = .ok (.bastore, 1))
    (kk : ∀ (H1 : Heap) (locs1 : List Loc), va_P g.1 vwCl w' H1 → va_D A w' → va_S A s.heap H1 locs1 → W p l e R s m args below meth c H1 locs1 0 0 Q (F0 m (pc + 1) ls rest)) : W p l e R s m args below meth c H locs 0 0 Q (F0 m pc ls (.int x :: .int i :: .ref a :: rest)) := by
  subst hw
  have e : vp_nar .boolean x = x := by unfold vp_nar; rw [kk_nz hz]
  refine va_zast S.1 S.2.1 hK hP hD hS q0 1 ha rfl hin hdg ?_
  rw [e]
  exact kk
end KRows
