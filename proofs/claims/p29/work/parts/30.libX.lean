/-! pictures of the whole object and of its saved states; exceptions -/
abbrev w_F (g : kG) (a : Nat → Nat → Nat) (G : St2) : va_W := [(a 0 0, .inr (4, [.ref (a 1 0), .ref (a 2 0), .ref (a 0 2), .ref (a 3 0), .ref (a 4 0), .ref (a 0 5), .int (G 0 6 0)])), (a 0 5, .inl (g.2.1, 60, .inl (G 0 5)))] ++ w_P g (a 1) (G 1) ++ w_P g (a 2) (G 2) ++ w_B g (a 3) (G 3) ++ w_R g (a 4) (G 4)
/-- what the row of saved states refers to -/
abbrev k_ord (h : Nat → Nat → Nat) (f : Nat → Int32) : Nat → Option Nat := fun i => some (h (1 + (f i).toNatClampNeg) 0)
abbrev w_H (g : kG) (x : Nat) (h : Nat → Nat → Nat) (H : St2) : va_W := [(x, .inr (1, [.ref (h 0 1), .int (H 0 0 0)])), (h 0 1, .inl (g.2.2.2, 6, .inr (.inr (.inr (.inr (k_ord h (H 0 1)))))))] ++ w_P g (h 1) (H 1) ++ w_P g (h 2) (H 2) ++ w_P g (h 3) (H 3) ++ w_P g (h 4) (H 4) ++ w_P g (h 5) (H 5) ++ w_P g (h 6) (H 6)
/-! parts of a world put back: by the world's own pieces -/
theorem kk_sl {u t v u' : va_W} {is : List Nat} (n : Nat) (hn : u.length = n) (h : is.all (fun i => decide (i < n)) = true) (e : kk_set u is v = u') : kk_set (u ++ t) is v = u' ++ t := by
  subst e
  subst hn
  induction is generalizing u v with
  | nil => cases v <;> rfl
  | cons i is ih =>
    cases v with
    | nil => rfl
    | cons q qs =>
      simp only [List.all_cons, Bool.and_eq_true, decide_eq_true_eq] at h
      show kk_set ((u ++ t).set i q) is qs = kk_set (u.set i q) is qs ++ t
      rw [List.set_append_left _ _ h.1]
      refine ih ?_
      rw [List.length_set]
      exact h.2
theorem kk_sr {u t v t' : va_W} {js is : List Nat} (n : Nat) (hn : u.length = n) (h : is = js.map (fun i => i + n)) (e : kk_set t js v = t') : kk_set (u ++ t) is v = u ++ t' := by
  subst e
  subst hn
  subst h
  induction js generalizing t v with
  | nil => cases v <;> rfl
  | cons i js ih =>
    cases v with
    | nil => rfl
    | cons q qs =>
      show kk_set ((u ++ t).set (i + u.length) q) (js.map (fun i => i + u.length)) qs = u ++ kk_set (t.set i q) js qs
      rw [List.set_append_right _ _ (Nat.le_add_left _ _), Nat.add_sub_cancel]
      exact ih
theorem kk_s0 {t v : va_W} {is : List Nat} (n : Nat) (hi : is = List.range n) (ht : t.length = n) (hv : v.length = n) : kk_set t is v = v := by
  subst hi
  have key : ∀ (m : Nat) (a b c d : va_W), b.length = m → c.length = m → kk_set (a ++ b) ((List.range m).map (fun i => i + a.length)) c = a ++ c := by
    intro m a b c d hb hc
    refine kk_sr (js := List.range m) a.length rfl rfl ?_
    have h2 : (kk_set b (List.range m) c).length = m := by
      have key2 : ∀ (is : List Nat) (w v : va_W), (kk_set w is v).length = w.length := by
        intro is
        induction is with
        | nil => intro w v; cases v <;> rfl
        | cons i is ih =>
          intro w v
          cases v with
          | nil => rfl
          | cons q qs => exact (ih _ _).trans (List.length_set ..)
      rw [key2, hb]
    refine List.ext_getElem? fun i => ?_
    by_cases hi : i < m
    · refine kk_set_in (List.range m) b c ?_ (by rw [List.length_range, hc]) (fun k hk => by rw [hb]; exact List.mem_range.mp hk) i i (by rw [List.getElem?_range hi])
      have hnd : ∀ (n : Nat) (l : List Nat), (∀ x ∈ l, x < n) → l.Nodup → va_nd l = true := by
        intro n l
        induction l with
        | nil => intro _ _; rfl
        | cons a l ih =>
          intro h1 h2
          rw [List.nodup_cons] at h2
          simp only [va_nd, Bool.and_eq_true, decide_eq_true_eq]
          exact ⟨h2.1, ih (fun x hx => h1 x (List.mem_cons_of_mem _ hx)) h2.2⟩
      exact hnd m _ (fun x hx => List.mem_range.mp hx) List.nodup_range
    · rw [List.getElem?_eq_none (by omega), List.getElem?_eq_none (by omega)]
  have h := key n [] t v [] ht hv
  simpa using h
theorem kk_set2 {w w1 w2 v1 v2 : va_W} {is is1 is2 : List Nat} (hi : is = is1 ++ is2) (hv : v1.length = is1.length) (e1 : kk_set w is1 v1 = w1) (e2 : kk_set w1 is2 v2 = w2) : kk_set w is (v1 ++ v2) = w2 := by
  subst hi
  subst e1
  subst e2
  induction is1 generalizing w v1 with
  | nil =>
    cases v1 with
    | nil => cases is2 <;> rfl
    | cons => simp at hv
  | cons i is ih =>
    cases v1 with
    | nil => simp at hv
    | cons q qs => exact ih (w := w.set i q) (by simpa using hv)
theorem kk_ml {u t wc : va_W} {is : List Nat} (n : Nat) (hn : u.length = n) (h : is.all (fun i => decide (i < n)) = true) (e : is.map (fun i => u[i]?) = wc.map some) : is.map (fun i => (u ++ t)[i]?) = wc.map some := by
  subst hn
  rw [← e]
  refine List.map_congr_left fun i hi => ?_
  have h1 := List.all_eq_true.mp h i hi
  simp only [decide_eq_true_eq] at h1
  exact List.getElem?_append_left h1
theorem kk_mr {u t wc : va_W} {js is : List Nat} (n : Nat) (hn : u.length = n) (h : is = js.map (fun i => i + n)) (e : js.map (fun i => t[i]?) = wc.map some) : is.map (fun i => (u ++ t)[i]?) = wc.map some := by
  subst hn
  subst h
  rw [← e, List.map_map]
  refine List.map_congr_left fun i hi => ?_
  show (u ++ t)[i + u.length]? = t[i]?
  rw [List.getElem?_append_right (Nat.le_add_left _ _), Nat.add_sub_cancel]
theorem kk_m0 {t : va_W} {is : List Nat} (n : Nat) (hi : is = List.range n) (ht : t.length = n) : is.map (fun i => t[i]?) = t.map some := by
  subst hi
  subst ht
  refine List.ext_getElem? fun i => ?_
  by_cases h : i < t.length
  · simp [h]
  · rw [List.getElem?_eq_none (by simp; omega), List.getElem?_eq_none (by simp; omega)]
theorem kk_m2 {w c1 c2 : va_W} {is is1 is2 : List Nat} (hi : is = is1 ++ is2) (e1 : is1.map (fun i => w[i]?) = c1.map some) (e2 : is2.map (fun i => w[i]?) = c2.map some) : is.map (fun i => w[i]?) = (c1 ++ c2).map some := by
  subst hi
  rw [List.map_append, List.map_append, e1, e2]
def kk_cj {α : Type} (j : Nat) (x : Option α) : Option α := if j < 6 then x else none
theorem kk_cj_el {α : Type} {j : Nat} {x : Option α} {r : α} (h : kk_cj j x = some r) : j < 6 ∧ x = some r := by
  unfold kk_cj at h
  split at h
  · exact ⟨by assumption, h⟩
  · cases h
/-- a double that is a number -/
def kk_cn {α : Type} (r : UInt64) (x : Option α) : Option α := if r &&& 0x7fffffffffffffff ≤ 0x7ff0000000000000 then x else none
theorem kk_cn_el {α : Type} {i : UInt64} {x : Option α} {r : α} (h : kk_cn i x = some r) : vf_n64 i ∧ x = some r := by
  unfold kk_cn at h
  split at h
  · exact ⟨by assumption, h⟩
  · cases h
/-- an answer, or the number of an exception -/
def kk_tr {α β ε : Type} (x : ε ⊕ α) (f : α → Option (ε ⊕ β)) : Option (ε ⊕ β) := match x with
  | .inl k => some (.inl k)
  | .inr u => f u
theorem kk_tr_ok {α β ε : Type} {x : ε ⊕ α} {f : α → Option (ε ⊕ β)} {r : β} (h : kk_tr x f = some (.inr r)) : ∃ u, x = .inr u ∧ f u = some (.inr r) := by
  cases x with
  | inl k => cases h
  | inr u => exact ⟨u, rfl, h⟩
theorem kk_tr_th {α β ε : Type} {x : ε ⊕ α} {f : α → Option (ε ⊕ β)} {k : ε} (h : kk_tr x f = some (.inl k)) : x = .inl k ∨ ∃ u, x = .inr u ∧ f u = some (.inl k) := by
  cases x with
  | inl j => exact Or.inl (by cases h; rfl)
  | inr u => exact Or.inr ⟨u, rfl, h⟩
def k_cls : Nat → String
  | 1 => "java/lang/IndexOutOfBoundsException"
  | 2 => "java/lang/IllegalArgumentException"
  | _ => "java/lang/IllegalStateException"
def k_strs : List (Nat × String) := [(53, "no such place"), (64, "kind, height or shies is out of range"), (69, "there are 12 floats"), (248, "no such float"), (115, "distance or clearance is out of range"), (123, "there are 4 bridges, or one at this distance"), (250, "no such bridge"), (252, "no such setting"), (147, "value is out of range"), (175, "there is no saved state"), (180, "what is not 0 to 6"), (185, "reason is out of range"), (196, "what is not 0 to 2"), (201, "what is not 0 to 8")]
def k_lo : Nat → Int32 := fun j => if j = 3 then 0 else 1
def k_hi : Nat → Int32 := fun j => if j = 0 then 6 else if j = 3 then 20 else 9
def k_dec : List MethodName := [Bundle.initS "java/lang/RuntimeException", Bundle.initS "java/lang/Exception", Bundle.initS Bundle.tN]
/-- the statics that a throw and 'set' read, and what the tables say of the exceptions' classes -/
def k_Gs (A : Nat → Prop) (U : State) (H : Heap) : Prop :=
  (vx_Zq Bundle.tN "UNASSIGNED_STACK" Bundle.steD A U H ∧ vx_Zq Bundle.tN "SUPPRESSED_SENTINEL" Bundle.listD A U H) ∧
  ((∃ t : Nat, va_Z "FloatOrder" "LEAST_SETTINGS" "[I" (.ref t) A U H ∧ va_T .int t 4 (fun j => .int (k_lo j)) A U H) ∧ ∃ t : Nat, va_Z "FloatOrder" "GREATEST_SETTINGS" "[I" (.ref t) A U H ∧ va_T .int t 4 (fun j => .int (k_hi j)) A U H) ∧
  (∀ q ∈ k_strs, ∃ sa, vk_R RX4 q.1 q.2 sa U) ∧ (∀ k : Nat, va_Nw (.castable (k_cls k) (k_cls k)) U) ∧ ∀ x ∈ k_dec, va_Nw (.declares x) U
theorem k_Gs.moved {A B : Nat → Prop} {u U : State} {H H1 : Heap} (hW : u.WarmedH U.vm) (hq : ∀ a : Nat, a < H.size → ¬ A a → H1[a]? = H[a]?) (hAB : ∀ q, B q → A q) (h : k_Gs A u H) : k_Gs B U H1 := by
  obtain ⟨⟨h1, h2⟩, ⟨⟨t1, h3, h4⟩, ⟨t2, h5, h6⟩⟩, h7, h8, h9⟩ := h
  have hal := hW.alike
  exact ⟨⟨((h1.kept hq).moved hal).narrow hAB, ((h2.kept hq).moved hal).narrow hAB⟩, ⟨⟨t1, ((h3.kept hq).moved hal).narrow hAB, ((h4.kept hq).moved hal).narrow hAB⟩, ⟨t2, ((h5.kept hq).moved hal).narrow hAB, ((h6.kept hq).moved hal).narrow hAB⟩⟩,
    fun q hm => (h7 q hm).elim fun sa hs => ⟨sa, vk_R.warm hW hs⟩, fun k => va_Nw.warmC hW (h8 k), fun x hx => va_Nw.warmD hW (h9 x hx)⟩
def kPx (g : kG) (w : va_W) (av : List Value) (sz : Nat) : Array Value → State → Prop := va_Pc av (fun U => U.heap.size = sz ∧ va_P g.1 vwCl w U.heap ∧ va_K g.1 vwCl (kT g) U ∧ va_D (fun _ => True) w ∧ k_Gs (va_A w sz) U U.heap)
def kXC (g : kG) (w : va_W) (k : Nat) (A : Nat → Prop) : String → State → State → Prop := vx_X (fun (_ : Unit) => True) (fun E _ t => E = k_cls k ∧ va_P g.1 vwCl w t.heap ∧ va_K g.1 vwCl (kT g) t ∧ va_D A w) A
def kQn : Array Value → State → Outcome → State → Prop := fun _ _ _ _ => False
/-- the method throws the exception of number k, and leaves the world w' -/
def kSt (l : Launch) (g : kG) (y : MethodName) (ws : List Cond) (rm : Room) (av : List Value) (w w' : va_W) (k : Nat) : Prop :=
  ∀ sz : Nat, vx_Met l y ws rm (kPx g w av sz) kQn (kXC g w' k (va_A w sz)) 1 6 (va_A w sz)
/-- a contract whose method reads statics -/
def kSg (l : Launch) (g : kG) (y : MethodName) (ws : List Cond) (rm : Room) (av : List Value) (w : va_W) (Q : (Nat → Prop) → Array Value → State → Outcome → State → Prop) : Prop :=
  ∀ sz : Nat, Met l y ws rm (kPx g w av sz) (Q (va_A w sz)) 0 0 (va_A w sz)
theorem kPx_blind {g : kG} {w : va_W} {av : List Value} {sz : Nat} : FrameBlind (kPx g w av sz) := fun a U f mk q => by
  obtain ⟨q0, q1, qP, qK, qD, qG⟩ := q
  exact ⟨q0, q1, qP, va_K.moved (u := U) (U := U.calling f mk a) (Vm.Alike.refl U.vm) qK, qD, k_Gs.moved (u := U) (U := U.calling f mk a) (State.WarmedH.refl U) (fun _ _ _ => rfl) (fun _ h => h) qG⟩
theorem kSt.of {l : Launch} {g : kG} {y : MethodName} {ws ws' : List Cond} {rm : Room} {av : List Value} {w w' : va_W} {k : Nat} {cc : ByteArray} {maxL : Nat} {ret : Option FieldType}
    (hy : plainName y.cls = true) (hw : ws = Cond.code y cc maxL ret :: ws') (hlen : (lg_sl av).length ≤ maxL)
    (body : ∀ (p : Program) (e : Env) (s : State) (m : MethodId) (args : Array Value) (below : List Frame) (meth : Method) (c : Code) (ls : Array Slot) (A : Nat → Prop),
      CallFix p m c cc maxL s args ws y.cls → meth.locks = false → (∀ x ∈ c.exceptionTable.toList, False) → (∀ q, s.heap.size ≤ q → A q) → va_K g.1 vwCl (kT g) s → k_Gs A s s.heap → lv_has ls maxL (lv_args 0 av) → va_P g.1 vwCl w s.heap → va_D A w → va_S A s.heap s.heap [] →
      W p l e rm s m args below meth c s.heap [] 0 0 (vx_MQ below kQn (kXC g w' k A) args s 1 6 A) (F0 m 0 ls [])) : kSt l g y ws rm av w w' k := by
  intro sz
  refine vx_ofW (cc := cc) (maxL := maxL) (ret := ret) hy hw ?_
  intro p e s m args below meth c s₁ B hml ht hv
  obtain ⟨rfl, hsz, hP, hK, hD0, hG⟩ := hv
  subst hsz
  rw [lg_entry_eq]
  exact body p e s m _ below meth c _ _ ⟨B.exec, B.bytes, hml, findClass_of_methodNamed B.named, atoms_spec B.pre⟩ B.notSynchronized ht (fun q h => Or.inr h) hK hG (lv_entry av hlen) hP hD0.self va_S.rf
theorem kSg.of {l : Launch} {g : kG} {y : MethodName} {ws ws' : List Cond} {rm : Room} {av : List Value} {w : va_W} {Q : (Nat → Prop) → Array Value → State → Outcome → State → Prop} {cc : ByteArray} {maxL : Nat} {ret : Option FieldType}
    (hy : plainName y.cls = true) (hw : ws = Cond.code y cc maxL ret :: ws') (hlen : (lg_sl av).length ≤ maxL)
    (body : ∀ (p : Program) (e : Env) (s : State) (m : MethodId) (args : Array Value) (below : List Frame) (meth : Method) (c : Code) (ls : Array Slot) (A : Nat → Prop),
      CallFix p m c cc maxL s args ws y.cls → meth.sig.returnType = ret → meth.locks = false → (∀ q, s.heap.size ≤ q → A q) → va_K g.1 vwCl (kT g) s → k_Gs A s s.heap → lv_has ls maxL (lv_args 0 av) → va_P g.1 vwCl w s.heap → va_D A w → va_S A s.heap s.heap [] →
      W p l e rm s m args below meth c s.heap [] 0 0 (MQ below (Q A) args s 0 0 A) (F0 m 0 ls [])) : kSg l g y ws rm av w Q := by
  intro sz
  refine Met.ofW (cc := cc) (maxL := maxL) (ret := ret) hy hw ?_
  intro p e s m args below meth c s₁ B hml hv
  obtain ⟨rfl, hsz, hP, hK, hD0, hG⟩ := hv
  subst hsz
  rw [lg_entry_eq]
  exact body p e s m _ below meth c _ _ ⟨B.exec, B.bytes, hml, findClass_of_methodNamed B.named, atoms_spec B.pre⟩ B.returns B.notSynchronized (fun q h => Or.inr h) hK hG (lv_entry av hlen) hP hD0.self va_S.rf
/-- a contract of the plain kind is one of that kind -/
theorem kSp.toG {l : Launch} {g : kG} {y : MethodName} {ws : List Cond} {rm : Room} {av : List Value} {w : va_W} {Q : (Nat → Prop) → Array Value → State → Outcome → State → Prop} (h : kSp l g y ws rm av w Q) : kSp l g y ws rm av w Q := h
section KRowsX
variable {p : Program} {l : Launch} {e : Env} {R : Room} {s : State} {m : MethodId} {args : Array Value} {below : List Frame} {meth : Method} {c : Code} {H : Heap} {locs : List Loc} {Q : State → Prop}
variable {y : MethodName} {bytes cc : ByteArray} {maxL nL n index pc : Nat} {ret : Option FieldType} {ws : List Cond} {rm : Room} {Ts : List Cond} {own C : String} {b : Addr} {As rest st0 : List Value} {ls : Array Slot} {g : kG} {w wc w1 w' : va_W} {A : Nat → Prop}
theorem kk_ret_l {r r' : Int64} (S : CallFix p m c cc nL s args Ts own) (hr : meth.sig.returnType = some .long) (hlocks : meth.locks = false) (hK : va_K g.1 vwCl (kT g) s) (hP : va_P g.1 vwCl w H) (hD : va_D A w) (hS : va_S A s.heap H locs) (hdg : decode cc pc = .ok (.lreturn, 1)) (er : r' = r) :
    W p l e R s m args below meth c H locs 0 0 (MQ below (kQl g w r A) args s 0 0 A) (F0 m pc ls [.long r']) :=
  W.lret (hlocks := hlocks) S.1 S.2.1 hr (fun t ht hW => ⟨⟨r', (), rfl, er, by rw [ht]; exact hP, va_K.moved hW.alike hK, hD⟩, hS.F ht⟩) hS.2.2 hdg
theorem kk_ret_d {r r' : UInt64} (S : CallFix p m c cc nL s args Ts own) (hr : meth.sig.returnType = some .double) (hlocks : meth.locks = false) (hK : va_K g.1 vwCl (kT g) s) (hP : va_P g.1 vwCl w H) (hD : va_D A w) (hS : va_S A s.heap H locs) (hdg : decode cc pc = .ok (.dreturn, 1)) (er : r' = r) :
    W p l e R s m args below meth c H locs 0 0 (MQ below (kQd g w r A) args s 0 0 A) (F0 m pc ls [.double r']) :=
  W.dret (hlocks := hlocks) S.1 S.2.1 hr (fun t ht hW => ⟨⟨r', (), rfl, er, by rw [ht]; exact hP, va_K.moved hW.alike hK, hD⟩, hS.F ht⟩) hS.2.2 hdg
/-- a row of references: its element is known to be some cell -/
theorem kk_aald {a n b : Nat} {f : Nat → Option Nat} {i : Int32} (S : CallFix p m c cc nL s args Ts own) (hK : va_K g.1 vwCl (kT g) s) (hP : va_P g.1 vwCl w H) (q0 : Nat) (ha : w[q0]? = some (a, .inl (g.2.2.2, n, .inr (.inr (.inr (.inr f)))))) (hin : vp_in i n) (hf : f i.toNatClampNeg = some b) (hdg : decode cc pc = .ok (.aaload, 1))
    (kk : W p l e R s m args below meth c H locs 0 0 Q (F0 m (pc + 1) ls (.ref b :: rest))) : W p l e R s m args below meth c H locs 0 0 Q (F0 m pc ls (.int i :: .ref a :: rest)) := by
  refine va_aldq S.1 S.2.1 hK hP q0 2 ha rfl hin hdg ?_
  rw [hf]
  exact kk
theorem kk_qup (h : Nat → Nat → Nat) (f : Nat → Int32) (k : Nat) (x : Int32) : k_ord h (upd f k x) = va_up (k_ord h f) k (some (h (1 + x.toNatClampNeg) 0)) := by
  funext i
  by_cases hi : i = k
  · simp [k_ord, upd, va_up, hi]
  · simp [k_ord, upd, va_up, hi]
theorem kk_hq {x : Nat} {h : Nat → Nat → Nat} {V : St2} {j : Nat} (hj : j < 6) : (w_H g x h V)[2 + 10 * j]? = some (h (1 + j) 0, .inr (2, [.int (V (1 + j) 0 0), .ref (h (1 + j) 1), .ref (h (1 + j) 2), .ref (h (1 + j) 3), .ref (h (1 + j) 4), .int (V (1 + j) 5 0), .ref (h (1 + j) 6), .ref (h (1 + j) 7), .ref (h (1 + j) 8), .ref (h (1 + j) 9), .ref (h (1 + j) 10)])) := by
  match j, hj with
  | 0, _ => rfl
  | 1, _ => rfl
  | 2, _ => rfl
  | 3, _ => rfl
  | 4, _ => rfl
  | 5, _ => rfl
theorem kk_aast {x : Nat} {h : Nat → Nat → Nat} {V V' : St2} {j : Nat} {z i : Int32} (S : CallFix p m c cc nL s args Ts own) (hK : va_K g.1 vwCl (kT g) s) (hP : va_P g.1 vwCl (w_H g x h V) H) (hD : va_D A (w_H g x h V)) (hS : va_S A s.heap H locs) (hj : j < 6) (ej : j = z.toNatClampNeg) (hin : vp_in i 6)
    (hw : V' = va_up V 0 (va_up (V 0) 1 (upd (V 0 1) i.toNatClampNeg z))) (hdg : decode cc pc = .ok (.aastore, 1))
    (kk : ∀ (H1 : Heap) (locs1 : List Loc), va_P g.1 vwCl (w_H g x h V') H1 → va_D A (w_H g x h V') → va_S A s.heap H1 locs1 → W p l e R s m args below meth c H1 locs1 0 0 Q (F0 m (pc + 1) ls rest)) : W p l e R s m args below meth c H locs 0 0 Q (F0 m pc ls (.ref (h (1 + j) 0) :: .int i :: .ref (h 0 1) :: rest)) := by
  have e : (w_H g x h V).set 1 (h 0 1, .inl (g.2.2.2, 6, .inr (.inr (.inr (.inr (va_up (k_ord h (V 0 1)) i.toNatClampNeg (some (h (1 + j) 0)))))))) = w_H g x h V' := by
    rw [hw, ej, ← kk_qup]
    rfl
  refine va_astq S.1 S.2.1 hK hP hD hS 1 2 (2 + 10 * j) 2 (r := (RX2, TX2, 11)) rfl rfl (kk_hq hj) rfl hin hdg (fun H1 locs1 h1 h2 h3 => ?_)
  rw [e] at h1 h2
  exact kk H1 locs1 h1 h2 h3
/-- 'new E("text"); throw': no row of the table takes it -/
theorem kk_throw {cls text : String} {names : List String} {ik is ic k : Nat} (S : CallFix p m c cc nL s args Ts own) (hl : l.stackTraces = false) (hlocks : meth.locks = false) (hno : ∀ x ∈ c.exceptionTable.toList, False) (hK : va_K g.1 vwCl (kT g) s) (hG : k_Gs A s s.heap) (hP : va_P g.1 vwCl w H) (hD : va_D A w) (hS : va_S A s.heap H locs) (hA : ∀ q, s.heap.size ≤ q → A q)
    (hown : own = RX4) (hck : cls = k_cls k) (hstr : (is, text) ∈ k_strs) (hcls : Bundle.fit cls = true) (hnames : ∀ n ∈ names, Bundle.fit n = true) (hk : (Cond.classLink own ik cls).before args s = true) (hini : (Cond.initialized cls).before args s = true)
    (hgw : ∀ w ∈ (vx_atS own ic cls names).filter goodWord, w ∈ Ts) (hbw : ∀ w ∈ (vx_atS own ic cls names).filter (fun w => !goodWord w), w ∈ Cond.castable cls cls :: k_dec.map Cond.declares) (hot : ∀ w ∈ Cond.classLink own ik cls :: Cond.initialized cls :: vx_atS own ic cls names, vx_ot w = true) (hsz : ls.size = nL)
    (d0 : decode cc pc = .ok (.new ik, 3)) (d3 : decode cc (pc + 3) = .ok (.dup, 1)) (d4 : decode cc (pc + 4) = .ok (.ldc is, 2)) (d6 : decode cc (pc + 6) = .ok (.invokespecial ic, 3)) (d9 : decode cc (pc + 9) = .ok (.athrow, 1))
    (hR : names.length + 3 < R.frames ∧ (rest.map fun v => v.category).sum + (13 * (names.length + 1) + 43) ≤ R.locals ∧ 1 ≤ R.cells ∧ 6 ≤ R.slots) :
    W p l e R s m args below meth c H locs 0 0 (vx_MQ below kQn (kXC g w k A) args s 1 6 A) (F0 m pc ls rest) := by
  obtain ⟨hx, hb, hml, ho, hts⟩ := S
  subst hown
  obtain ⟨⟨hU, hN⟩, -, hst, hca, hde⟩ := hG
  obtain ⟨sa, hsa⟩ := hst _ hstr
  have hca1 : va_Nw (.castable cls cls) s := by rw [hck]; exact hca k
  refine vx_throwS (names := names) hx hb hl ho hcls hnames hk hini hsa (vx_hat (fun w h => hts w (hgw w h)) hbw (vx_c (va_Nw.use rfl hca1) (fun w hw => by obtain ⟨x9, hx9, rfl⟩ := List.mem_map.mp hw; exact va_Nw.use rfl (hde x9 hx9)))) hot hU hN hS (hsz.trans hml.symm) d0 d3 d4 d6 d9 (fun x hx9 => (hno x hx9).elim) hR.1 hR.2.1 (by omega) (by omega) hlocks (fun t hal hz hq => ?_) hS.2.2 (Nat.le_refl _) (Nat.le_refl _)
  refine ⟨(), trivial, ⟨hck, ?_, va_K.moved hal hK, hD⟩, Nat.le_trans hS.1 hz, fun q h1 h2 => ?_⟩
  · exact hP.kept (fun k9 q9 h9 => hq q9.1 (hP k9 q9 h9).lt)
  · rw [hq q (Nat.lt_of_lt_of_le h1 hS.1)]
    exact hS.2.1 q h1 h2
theorem kk_preX (hK : va_K g.1 vwCl (kT g) s) (hG : k_Gs A s s.heap) (hP : va_P g.1 vwCl w H) (hD : va_D A w) (hS : va_S A s.heap H locs) (hA : ∀ q, s.heap.size ≤ q → A q) (is : List Nat) (hn : va_nd is = true) (hC : is.map (fun i => w[i]?) = wc.map some) {av : List Value} : PreS s H (kPx g wc av H.size) av := by
  refine ⟨kPx_blind, fun U hU hW => ?_⟩
  obtain ⟨q0, q1, q2, q3, q4⟩ := (kk_preV (wc := wc) (av := av) hK hP hD is hn hC).2 U hU hW
  refine ⟨q0, q1, q2, q3, q4, ?_⟩
  refine k_Gs.moved hW (fun a h1 h2 => ?_) (kk_free hD hS hA is hC) hG
  rw [hU]
  exact hS.2.1 a h1 h2
/-- a call that throws, not caught here -/
theorem kk_callT_V {q : vw_C} {fs : List Value} {k : Nat} (q0 ci : Nat) (S : CallFix p m c cc nL s args Ts own) (hSp : kSt l g y ws rm (.ref b :: As) wc w1 k) (cw : CallW R s args own C index y bytes maxL ret ws rm 1 6 n) (hlocks : meth.locks = false) (hno : ∀ x ∈ c.exceptionTable.toList, False)
    (hK : va_K g.1 vwCl (kT g) s) (hG : k_Gs A s s.heap) (hP : va_P g.1 vwCl w H) (hD : va_D A w) (hS : va_S A s.heap H locs) (hA : ∀ q, s.heap.size ≤ q → A q) (is : List Nat) (hC : is.map (fun i => w[i]?) = wc.map some) (hnd : va_nd is = true) (hadr : w1.map Prod.fst = wc.map Prod.fst) (hw : kk_set w is w1 = w')
    (hcl : vwCl[ci]? = some q) (he : w[q0]? = some (b, .inr (ci, fs))) (hCn : q.1 = C) (hst : st0 = As.reverse ++ .ref b :: rest) (hn : As.length = n) (hsz : ls.size = nL) (hroom : (rest.map fun v => v.category).sum ≤ 8) (hdg : decode cc pc = .ok (.invokevirtual index, 3)) (hR : 1 ≤ R.cells ∧ 6 ≤ R.slots) :
    W p l e R s m args below meth c H locs 0 0 (vx_MQ below kQn (kXC g w' k A) args s 1 6 A) (F0 m pc ls st0) := by
  have hpre := kk_preX (wc := wc) (av := .ref b :: As) hK hG hP hD hS hA is hnd hC
  have hFc := kk_free hD hS hA is hC
  subst hCn
  intro T hT X
  rcases vx_runV S (hSp H.size) cw ⟨hpre.1, va_recv hK hP hcl he, hpre.2⟩ rfl hn hsz hst (lv_room hroom) hdg ⟨by omega, by omega⟩ T hT X with ⟨v, st₀, t, T', L, h0, X', hL, e1, e2, hq, st⟩ | ⟨q9, st₀, t, T', L, E, ce, h0, X', hL, e1, e2, ⟨u, hp, ⟨hE, hP1, hK1, hD1⟩, hF⟩, hce, hcv, hcl9, st⟩
  · exact hq.elim
  · obtain ⟨k1, k2, k3⟩ := vx_keep h0 e1 hS (fun q _ h => hFc q h) hFc hL hF
    rw [← e1] at hP1
    obtain ⟨h1, h2⟩ := kk_join hP hD is hC hnd hadr k2 hP1
    rw [hw] at h1 h2
    subst hE
    have hz : vx_W p l e R s m args below meth c T'.heap (locs ++ L) (0 + 1) (0 + 6) (vx_MQ below kQn (kXC g w' k A) args s 1 6 A) (F0 m pc ls rest) q9 :=
      vx_out (fun x hx9 => (hno x hx9).elim) hlocks (by rw [e1]; exact hce) hcv hcl9 (fun t9 ht9 hal9 => ⟨(), trivial, ⟨rfl, by rw [ht9]; exact h1, va_K.moved hal9 hK, h2⟩, k3.F ht9⟩) k3.2.2 (Nat.le_refl _) (Nat.le_refl _)
    obtain ⟨t2, a1, b1⟩ := hz T' rfl X'
    exact ⟨t2, st.trans a1, b1⟩
theorem kk_callT_S {k : Nat} (S : CallFix p m c cc nL s args Ts own) (hSp : kSt l g y ws rm As wc w1 k) (cw : CallB R s args own index y bytes maxL ret ws rm 1 6 n ∧ (Cond.static y).before args s = true) (hlocks : meth.locks = false) (hno : ∀ x ∈ c.exceptionTable.toList, False)
    (hK : va_K g.1 vwCl (kT g) s) (hG : k_Gs A s s.heap) (hP : va_P g.1 vwCl w H) (hD : va_D A w) (hS : va_S A s.heap H locs) (hA : ∀ q, s.heap.size ≤ q → A q) (is : List Nat) (hC : is.map (fun i => w[i]?) = wc.map some) (hnd : va_nd is = true) (hadr : w1.map Prod.fst = wc.map Prod.fst) (hw : kk_set w is w1 = w')
    (hst : st0 = As.reverse ++ rest) (hn : As.length = n) (hsz : ls.size = nL) (hroom : (rest.map fun v => v.category).sum ≤ 8) (hdg : decode cc pc = .ok (.invokestatic index, 3)) (hR : 1 ≤ R.cells ∧ 6 ≤ R.slots) :
    W p l e R s m args below meth c H locs 0 0 (vx_MQ below kQn (kXC g w' k A) args s 1 6 A) (F0 m pc ls st0) := by
  have hpre := kk_preX (wc := wc) (av := As) hK hG hP hD hS hA is hnd hC
  have hFc := kk_free hD hS hA is hC
  intro T hT X
  rcases vx_runS S (hSp H.size) cw hpre rfl hn hsz hst (lv_room hroom) hdg ⟨by omega, by omega⟩ T hT X with ⟨v, st₀, t, T', L, h0, X', hL, e1, e2, hq, st⟩ | ⟨q9, st₀, t, T', L, E, ce, h0, X', hL, e1, e2, ⟨u, hp, ⟨hE, hP1, hK1, hD1⟩, hF⟩, hce, hcv, hcl9, st⟩
  · exact hq.elim
  · obtain ⟨k1, k2, k3⟩ := vx_keep h0 e1 hS (fun q _ h => hFc q h) hFc hL hF
    rw [← e1] at hP1
    obtain ⟨h1, h2⟩ := kk_join hP hD is hC hnd hadr k2 hP1
    rw [hw] at h1 h2
    subst hE
    have hz : vx_W p l e R s m args below meth c T'.heap (locs ++ L) (0 + 1) (0 + 6) (vx_MQ below kQn (kXC g w' k A) args s 1 6 A) (F0 m pc ls rest) q9 :=
      vx_out (fun x hx9 => (hno x hx9).elim) hlocks (by rw [e1]; exact hce) hcv hcl9 (fun t9 ht9 hal9 => ⟨(), trivial, ⟨rfl, by rw [ht9]; exact h1, va_K.moved hal9 hK, h2⟩, k3.F ht9⟩) k3.2.2 (Nat.le_refl _) (Nat.le_refl _)
    obtain ⟨t2, a1, b1⟩ := hz T' rfl X'
    exact ⟨t2, st.trans a1, b1⟩
/-- a static row of ints -/
theorem kk_gets {nm : String} {f : Nat → Int32} (S : CallFix p m c cc nL s args Ts own) (hS : va_S A s.heap H locs) (hZ : ∃ t : Nat, va_Z "FloatOrder" nm "[I" (.ref t) A s s.heap ∧ va_T .int t 4 (fun j => .int (f j)) A s s.heap) (hlink : (Cond.fieldLink own index "FloatOrder" nm "[I").before args s = true) (hdg : decode cc pc = .ok (.getstatic index, 3))
    (kk : ∀ t : Nat, va_T .int t 4 (fun j => .int (f j)) A s s.heap → W p l e R s m args below meth c H locs 0 0 Q (F0 m (pc + 3) ls (.ref t :: rest))) : W p l e R s m args below meth c H locs 0 0 Q (F0 m pc ls rest) := by
  obtain ⟨t, h1, h2⟩ := hZ
  exact va_gets S.1 S.2.1 h1 hS S.2.2.2.1 hlink (fun _ h => h) hdg (kk t h2)
end KRowsX
abbrev k_pl (b j : Nat) : List Nat := [b + 10 * j, b + 1 + 10 * j, b + 2 + 10 * j, b + 3 + 10 * j, b + 4 + 10 * j, b + 5 + 10 * j, b + 6 + 10 * j, b + 7 + 10 * j, b + 8 + 10 * j, b + 9 + 10 * j]
section KDyn
variable {g : kG} {x : Nat} {h : Nat → Nat → Nat} {a : Nat → Nat} {V V' : St2} {P P' : St1} {j : Nat}
theorem kk_hq2 (hj : j < 6) : (w_H g x h V ++ w_P g a P)[2 + 10 * j]? = some (h (1 + j) 0, .inr (2, [.int (V (1 + j) 0 0), .ref (h (1 + j) 1), .ref (h (1 + j) 2), .ref (h (1 + j) 3), .ref (h (1 + j) 4), .int (V (1 + j) 5 0), .ref (h (1 + j) 6), .ref (h (1 + j) 7), .ref (h (1 + j) 8), .ref (h (1 + j) 9), .ref (h (1 + j) 10)])) := by
  match j, hj with
  | 0, _ => rfl
  | 1, _ => rfl
  | 2, _ => rfl
  | 3, _ => rfl
  | 4, _ => rfl
  | 5, _ => rfl
theorem kk_dC1 (hj : j < 6) : (k_pl 2 j ++ [62, 63, 64, 65, 66, 67, 68, 69, 70, 71]).map (fun i => (w_H g x h V ++ w_P g a P)[i]?) = (w_P g (h (1 + j)) (V (1 + j)) ++ w_P g a P).map some := by
  match j, hj with
  | 0, _ => rfl
  | 1, _ => rfl
  | 2, _ => rfl
  | 3, _ => rfl
  | 4, _ => rfl
  | 5, _ => rfl
theorem kk_dC2 (hj : j < 6) : ([62, 63, 64, 65, 66, 67, 68, 69, 70, 71] ++ k_pl 2 j).map (fun i => (w_H g x h V ++ w_P g a P)[i]?) = (w_P g a P ++ w_P g (h (1 + j)) (V (1 + j))).map some := by
  match j, hj with
  | 0, _ => rfl
  | 1, _ => rfl
  | 2, _ => rfl
  | 3, _ => rfl
  | 4, _ => rfl
  | 5, _ => rfl
theorem kk_dn1 (hj : j < 6) : va_nd (k_pl 2 j ++ [62, 63, 64, 65, 66, 67, 68, 69, 70, 71]) = true := by
  match j, hj with
  | 0, _ => decide +kernel
  | 1, _ => decide +kernel
  | 2, _ => decide +kernel
  | 3, _ => decide +kernel
  | 4, _ => decide +kernel
  | 5, _ => decide +kernel
theorem kk_dn2 (hj : j < 6) : va_nd ([62, 63, 64, 65, 66, 67, 68, 69, 70, 71] ++ k_pl 2 j) = true := by
  match j, hj with
  | 0, _ => decide +kernel
  | 1, _ => decide +kernel
  | 2, _ => decide +kernel
  | 3, _ => decide +kernel
  | 4, _ => decide +kernel
  | 5, _ => decide +kernel
theorem kk_dw1 (hj : j < 6) (e : V' = va_up V (1 + j) P') : kk_set (w_H g x h V ++ w_P g a P) (k_pl 2 j ++ [62, 63, 64, 65, 66, 67, 68, 69, 70, 71]) (w_P g (h (1 + j)) P' ++ w_P g a P) = w_H g x h V' ++ w_P g a P := by
  subst e
  match j, hj with
  | 0, _ => exact kk_set2 (is1 := k_pl 2 0) rfl rfl (w1 := w_H g x h (va_up V 1 P') ++ w_P g a P) (kk_sl 62 rfl (by decide +kernel) (kk_sl 52 rfl (by decide +kernel) (kk_sl 42 rfl (by decide +kernel) (kk_sl 32 rfl (by decide +kernel) (kk_sl 22 rfl (by decide +kernel) (kk_sl 12 rfl (by decide +kernel) (kk_sr (js := [0, 1, 2, 3, 4, 5, 6, 7, 8, 9]) 2 rfl (by decide +kernel) (kk_s0 10 (by decide +kernel) rfl rfl)))))))) (kk_sr (js := [0, 1, 2, 3, 4, 5, 6, 7, 8, 9]) 62 rfl (by decide +kernel) (kk_s0 10 (by decide +kernel) rfl rfl))
  | 1, _ => exact kk_set2 (is1 := k_pl 2 1) rfl rfl (w1 := w_H g x h (va_up V 2 P') ++ w_P g a P) (kk_sl 62 rfl (by decide +kernel) (kk_sl 52 rfl (by decide +kernel) (kk_sl 42 rfl (by decide +kernel) (kk_sl 32 rfl (by decide +kernel) (kk_sl 22 rfl (by decide +kernel) (kk_sr (js := [0, 1, 2, 3, 4, 5, 6, 7, 8, 9]) 12 rfl (by decide +kernel) (kk_s0 10 (by decide +kernel) rfl rfl))))))) (kk_sr (js := [0, 1, 2, 3, 4, 5, 6, 7, 8, 9]) 62 rfl (by decide +kernel) (kk_s0 10 (by decide +kernel) rfl rfl))
  | 2, _ => exact kk_set2 (is1 := k_pl 2 2) rfl rfl (w1 := w_H g x h (va_up V 3 P') ++ w_P g a P) (kk_sl 62 rfl (by decide +kernel) (kk_sl 52 rfl (by decide +kernel) (kk_sl 42 rfl (by decide +kernel) (kk_sl 32 rfl (by decide +kernel) (kk_sr (js := [0, 1, 2, 3, 4, 5, 6, 7, 8, 9]) 22 rfl (by decide +kernel) (kk_s0 10 (by decide +kernel) rfl rfl)))))) (kk_sr (js := [0, 1, 2, 3, 4, 5, 6, 7, 8, 9]) 62 rfl (by decide +kernel) (kk_s0 10 (by decide +kernel) rfl rfl))
  | 3, _ => exact kk_set2 (is1 := k_pl 2 3) rfl rfl (w1 := w_H g x h (va_up V 4 P') ++ w_P g a P) (kk_sl 62 rfl (by decide +kernel) (kk_sl 52 rfl (by decide +kernel) (kk_sl 42 rfl (by decide +kernel) (kk_sr (js := [0, 1, 2, 3, 4, 5, 6, 7, 8, 9]) 32 rfl (by decide +kernel) (kk_s0 10 (by decide +kernel) rfl rfl))))) (kk_sr (js := [0, 1, 2, 3, 4, 5, 6, 7, 8, 9]) 62 rfl (by decide +kernel) (kk_s0 10 (by decide +kernel) rfl rfl))
  | 4, _ => exact kk_set2 (is1 := k_pl 2 4) rfl rfl (w1 := w_H g x h (va_up V 5 P') ++ w_P g a P) (kk_sl 62 rfl (by decide +kernel) (kk_sl 52 rfl (by decide +kernel) (kk_sr (js := [0, 1, 2, 3, 4, 5, 6, 7, 8, 9]) 42 rfl (by decide +kernel) (kk_s0 10 (by decide +kernel) rfl rfl)))) (kk_sr (js := [0, 1, 2, 3, 4, 5, 6, 7, 8, 9]) 62 rfl (by decide +kernel) (kk_s0 10 (by decide +kernel) rfl rfl))
  | 5, _ => exact kk_set2 (is1 := k_pl 2 5) rfl rfl (w1 := w_H g x h (va_up V 6 P') ++ w_P g a P) (kk_sl 62 rfl (by decide +kernel) (kk_sr (js := [0, 1, 2, 3, 4, 5, 6, 7, 8, 9]) 52 rfl (by decide +kernel) (kk_s0 10 (by decide +kernel) rfl rfl))) (kk_sr (js := [0, 1, 2, 3, 4, 5, 6, 7, 8, 9]) 62 rfl (by decide +kernel) (kk_s0 10 (by decide +kernel) rfl rfl))
theorem kk_dw2 (hj : j < 6) : kk_set (w_H g x h V ++ w_P g a P) ([62, 63, 64, 65, 66, 67, 68, 69, 70, 71] ++ k_pl 2 j) (w_P g a P' ++ w_P g (h (1 + j)) (V (1 + j))) = w_H g x h V ++ w_P g a P' := by
  match j, hj with
  | 0, _ => exact kk_set2 (is1 := [62, 63, 64, 65, 66, 67, 68, 69, 70, 71]) rfl rfl (w1 := w_H g x h V ++ w_P g a P') (kk_sr (js := [0, 1, 2, 3, 4, 5, 6, 7, 8, 9]) 62 rfl (by decide +kernel) (kk_s0 10 (by decide +kernel) rfl rfl)) (kk_sl 62 rfl (by decide +kernel) (kk_sl 52 rfl (by decide +kernel) (kk_sl 42 rfl (by decide +kernel) (kk_sl 32 rfl (by decide +kernel) (kk_sl 22 rfl (by decide +kernel) (kk_sl 12 rfl (by decide +kernel) (kk_sr (js := [0, 1, 2, 3, 4, 5, 6, 7, 8, 9]) 2 rfl (by decide +kernel) (kk_s0 10 (by decide +kernel) rfl rfl))))))))
  | 1, _ => exact kk_set2 (is1 := [62, 63, 64, 65, 66, 67, 68, 69, 70, 71]) rfl rfl (w1 := w_H g x h V ++ w_P g a P') (kk_sr (js := [0, 1, 2, 3, 4, 5, 6, 7, 8, 9]) 62 rfl (by decide +kernel) (kk_s0 10 (by decide +kernel) rfl rfl)) (kk_sl 62 rfl (by decide +kernel) (kk_sl 52 rfl (by decide +kernel) (kk_sl 42 rfl (by decide +kernel) (kk_sl 32 rfl (by decide +kernel) (kk_sl 22 rfl (by decide +kernel) (kk_sr (js := [0, 1, 2, 3, 4, 5, 6, 7, 8, 9]) 12 rfl (by decide +kernel) (kk_s0 10 (by decide +kernel) rfl rfl)))))))
  | 2, _ => exact kk_set2 (is1 := [62, 63, 64, 65, 66, 67, 68, 69, 70, 71]) rfl rfl (w1 := w_H g x h V ++ w_P g a P') (kk_sr (js := [0, 1, 2, 3, 4, 5, 6, 7, 8, 9]) 62 rfl (by decide +kernel) (kk_s0 10 (by decide +kernel) rfl rfl)) (kk_sl 62 rfl (by decide +kernel) (kk_sl 52 rfl (by decide +kernel) (kk_sl 42 rfl (by decide +kernel) (kk_sl 32 rfl (by decide +kernel) (kk_sr (js := [0, 1, 2, 3, 4, 5, 6, 7, 8, 9]) 22 rfl (by decide +kernel) (kk_s0 10 (by decide +kernel) rfl rfl))))))
  | 3, _ => exact kk_set2 (is1 := [62, 63, 64, 65, 66, 67, 68, 69, 70, 71]) rfl rfl (w1 := w_H g x h V ++ w_P g a P') (kk_sr (js := [0, 1, 2, 3, 4, 5, 6, 7, 8, 9]) 62 rfl (by decide +kernel) (kk_s0 10 (by decide +kernel) rfl rfl)) (kk_sl 62 rfl (by decide +kernel) (kk_sl 52 rfl (by decide +kernel) (kk_sl 42 rfl (by decide +kernel) (kk_sr (js := [0, 1, 2, 3, 4, 5, 6, 7, 8, 9]) 32 rfl (by decide +kernel) (kk_s0 10 (by decide +kernel) rfl rfl)))))
  | 4, _ => exact kk_set2 (is1 := [62, 63, 64, 65, 66, 67, 68, 69, 70, 71]) rfl rfl (w1 := w_H g x h V ++ w_P g a P') (kk_sr (js := [0, 1, 2, 3, 4, 5, 6, 7, 8, 9]) 62 rfl (by decide +kernel) (kk_s0 10 (by decide +kernel) rfl rfl)) (kk_sl 62 rfl (by decide +kernel) (kk_sl 52 rfl (by decide +kernel) (kk_sr (js := [0, 1, 2, 3, 4, 5, 6, 7, 8, 9]) 42 rfl (by decide +kernel) (kk_s0 10 (by decide +kernel) rfl rfl))))
  | 5, _ => exact kk_set2 (is1 := [62, 63, 64, 65, 66, 67, 68, 69, 70, 71]) rfl rfl (w1 := w_H g x h V ++ w_P g a P') (kk_sr (js := [0, 1, 2, 3, 4, 5, 6, 7, 8, 9]) 62 rfl (by decide +kernel) (kk_s0 10 (by decide +kernel) rfl rfl)) (kk_sl 62 rfl (by decide +kernel) (kk_sr (js := [0, 1, 2, 3, 4, 5, 6, 7, 8, 9]) 52 rfl (by decide +kernel) (kk_s0 10 (by decide +kernel) rfl rfl)))
end KDyn
