/-! a constructor called on a fresh object of the world -/
theorem kn_join {A0 : Nat → Prop} {D : va_G} {cl : List vw_C} {w tl : va_W} {H H1 : Heap} {i b : Nat} {e0 e1 : va_E} (hP : va_P D cl w H) (hD : va_D A0 w) (hi : w[i]? = some (b, e0)) (hk : ∀ q : Nat, q < H.size → ¬ va_A [(b, e0)] H.size q → H1[q]? = H[q]?) (hP1 : va_P D cl ((b, e1) :: tl) H1) (hD1 : va_D (va_A [(b, e0)] H.size) ((b, e1) :: tl)) (hA : ∀ q, H.size ≤ q → A0 q) :
    va_P D cl (w.set i (b, e1) ++ tl) H1 ∧ va_D A0 (w.set i (b, e1) ++ tl) := by
  have hb1 : va_at D cl (b, e1) H1 := hP1 0 (b, e1) rfl
  have htl : va_P D cl tl H1 := fun k q hq => hP1 (k + 1) q hq
  have hil : i < w.length := (List.getElem?_eq_some_iff.mp hi).1
  have hnew : ∀ (k : Nat) (q : Nat × va_E), tl[k]? = some q → H.size ≤ q.1 := by
    intro k q hq
    rcases hD1.2 (k + 1) q hq with ⟨t, e, ht⟩ | h
    · cases t with
      | zero =>
        have hb : (b, e0) = (q.1, e) := Option.some.inj ht
        have h1 : b = q.1 := congrArg Prod.fst hb
        have h2 := hD1.1 0 (k + 1) (b, e1) q rfl hq h1
        omega
      | succ t => simp at ht
    · exact h
  have hset : va_P D cl (w.set i (b, e1)) H1 := by
    intro k q hq
    by_cases e : i = k
    · subst e
      rw [List.getElem?_set_self hil] at hq
      cases hq
      exact hb1
    · rw [List.getElem?_set_ne e] at hq
      have hl := (hP k q hq).lt
      refine (hP k q hq).kept (hk q.1 hl (fun h => ?_))
      rcases h with ⟨t, e', ht⟩ | h
      · cases t with
        | zero =>
          have hb : (b, e0) = (q.1, e') := Option.some.inj ht
          have h1 : b = q.1 := congrArg Prod.fst hb
          exact e (hD.1 i k (b, e0) q hi hq h1)
        | succ t => simp at ht
      · omega
  refine ⟨hset.app htl, (hD.set hi).app ⟨fun j k p q hp hq h => Nat.succ.inj (hD1.1 (j + 1) (k + 1) p q hp hq h), fun k q hq => hA _ (hnew k q hq)⟩ (fun j k p q hp hq h => ?_)⟩
  have h1 := hnew k q hq
  have h2 : p.1 < H.size := by
    by_cases e : i = j
    · subst e
      rw [List.getElem?_set_self hil] at hp
      cases hp
      exact (hP i _ hi).lt
    · rw [List.getElem?_set_ne e] at hp
      exact (hP j p hp).lt
  omega
section KCall
variable {p : Program} {l : Launch} {e : Env} {R : Room} {s : State} {m : MethodId} {args : Array Value} {below : List Frame} {meth : Method} {c : Code} {H : Heap} {locs : List Loc} {Q : State → Prop}
variable {y : MethodName} {bytes cc : ByteArray} {maxL nL n index pc cells slots mc ms : Nat} {ret : Option FieldType} {ws : List Cond} {rm : Room} {Ts : List Cond} {own C host : String} {b : Nat} {As rest st0 : List Value} {ls : Array Slot} {g : kG} {w : va_W} {A : Nat → Prop}
theorem kn_pre {e0 : va_E} {i : Nat} (hK : va_K g.1 vwCl (kT g) s) (hP : va_P g.1 vwCl w H) (hN : k_Ns s) (hi : w[i]? = some (b, e0)) : PreS s H (kPn g [(b, e0)] [.ref b] H.size) [.ref b] := by
  refine ⟨kPn_blind, fun U hU hW => ⟨rfl, by rw [hU], ?_, va_K.moved hW.alike hK, ⟨fun j k p q hj hk _ => ?_, fun _ _ _ => trivial⟩, k_Ns.warm hW hN⟩⟩
  · rw [hU]
    refine hP.sub [i] ?_
    show List.filterMap (fun i => w[i]?) [i] = _
    simp [hi]
  · have h1 : j < 1 := (List.getElem?_eq_some_iff.mp hj).1
    have h2 : k < 1 := (List.getElem?_eq_some_iff.mp hk).1
    omega
theorem kn_after {Sg : Type} {post : Sg → Prop} {wf : Sg → va_W} {E : Sg → va_E} {T : Sg → va_W} {w' : Sg → va_W} {e0 : va_E} {i : Nat} {av : Array Value} (hr : va_Run p l e R s m args below meth c H locs cells slots mc ms (F0 m pc ls (.ref b :: rest)) rest (kQu g post wf (va_A [(b, e0)] H.size) av) (va_A [(b, e0)] H.size))
    (hwf : ∀ u, post u → wf u = (b, E u) :: T u) (hP : va_P g.1 vwCl w H) (hD : va_D A w) (hS : va_S A s.heap H locs) (hA : ∀ q, s.heap.size ≤ q → A q) (hi : w[i]? = some (b, e0)) (hw : ∀ u, post u → w.set i (b, E u) ++ T u = w' u)
    (kk : ∀ (u : Sg) (H1 : Heap) (locs1 : List Loc), post u → va_P g.1 vwCl (w' u) H1 → va_D A (w' u) → va_S A s.heap H1 locs1 → W p l e R s m args below meth c H1 locs1 (cells + mc) (slots + ms) Q (F0 m (pc + 3) ls rest)) :
    W p l e R s m args below meth c H locs cells slots Q (F0 m pc ls (.ref b :: rest)) := by
  have hA2 : ∀ q, H.size ≤ q → A q := fun q h => hA q (Nat.le_trans hS.1 h)
  have hF : ∀ q, va_A [(b, e0)] H.size q → A q := by
    intro q h
    rcases h with ⟨t, e', ht⟩ | h
    · cases t with
      | zero =>
        have hb : (b, e0) = (q, e') := Option.some.inj ht
        have h1 : b = q := congrArg Prod.fst hb
        rw [← h1]
        exact hD.2 i _ hi
      | succ t => simp at ht
    · exact hA2 q h
  refine va_callv hr hS (fun q _ h => hF q h) hF (fun u t H1 locs1 ht hvm hp hB hz1 hk1 hS1 => ?_)
  obtain ⟨hP1, -, hD1⟩ := hB
  rw [ht] at hP1
  rw [hwf u hp] at hP1 hD1
  obtain ⟨h1, h2⟩ := kn_join hP hD hi hk1 hP1 hD1 hA2
  rw [hw u hp] at h1 h2
  exact kk u H1 locs1 hp h1 h2 hS1
theorem kn_callN {Sg : Type} {post : Sg → Prop} {wf : Sg → va_W} {E : Sg → va_E} {T : Sg → va_W} {w' : Sg → va_W} {e0 : va_E} (i : Nat) (S : CallFix p m c cc nL s args Ts own) (hSc : kSc l g y ws rm [.ref b] [(b, e0)] mc ms post wf) (cw : va_CN R s args own index y host bytes maxL none ws rm mc ms 0 ∧ y.name = "<init>" ∧ (Cond.instanceMethod y).before args s = true)
    (hK : va_K g.1 vwCl (kT g) s) (hN : k_Ns s) (hP : va_P g.1 vwCl w H) (hD : va_D A w) (hS : va_S A s.heap H locs) (hA : ∀ q, s.heap.size ≤ q → A q) (hi : w[i]? = some (b, e0)) (hwf : ∀ u, post u → wf u = (b, E u) :: T u) (hw : ∀ u, post u → w.set i (b, E u) ++ T u = w' u)
    (hsz : ls.size = nL) (hroom : (rest.map fun v => v.category).sum ≤ 8) (hdg : decode cc pc = .ok (.invokespecial index, 3)) (hf : cells + mc ≤ R.cells ∧ slots + ms ≤ R.slots)
    (kk : ∀ (u : Sg) (H1 : Heap) (locs1 : List Loc), post u → va_P g.1 vwCl (w' u) H1 → va_D A (w' u) → va_S A s.heap H1 locs1 → W p l e R s m args below meth c H1 locs1 (cells + mc) (slots + ms) Q (F0 m (pc + 3) ls rest)) :
    W p l e R s m args below meth c H locs cells slots Q (F0 m pc ls (.ref b :: rest)) :=
  kn_after (va_runIN (As := []) (rest := rest) S (hSc H.size) cw (kn_pre hK hP hN hi) rfl rfl hsz rfl (lv_room hroom) hdg hf) hwf hP hD hS hA hi hw kk
theorem kn_callI {Sg : Type} {post : Sg → Prop} {wf : Sg → va_W} {E : Sg → va_E} {T : Sg → va_W} {w' : Sg → va_W} {e0 : va_E} (i : Nat) (S : CallFix p m c cc nL s args Ts own) (hSc : kSc l g y ws rm [.ref b] [(b, e0)] mc ms post wf) (cw : CallB R s args own index y bytes maxL none ws rm mc ms 0 ∧ y.name = "<init>" ∧ (Cond.instanceMethod y).before args s = true)
    (hK : va_K g.1 vwCl (kT g) s) (hN : k_Ns s) (hP : va_P g.1 vwCl w H) (hD : va_D A w) (hS : va_S A s.heap H locs) (hA : ∀ q, s.heap.size ≤ q → A q) (hi : w[i]? = some (b, e0)) (hwf : ∀ u, post u → wf u = (b, E u) :: T u) (hw : ∀ u, post u → w.set i (b, E u) ++ T u = w' u)
    (hsz : ls.size = nL) (hroom : (rest.map fun v => v.category).sum ≤ 8) (hdg : decode cc pc = .ok (.invokespecial index, 3)) (hf : cells + mc ≤ R.cells ∧ slots + ms ≤ R.slots)
    (kk : ∀ (u : Sg) (H1 : Heap) (locs1 : List Loc), post u → va_P g.1 vwCl (w' u) H1 → va_D A (w' u) → va_S A s.heap H1 locs1 → W p l e R s m args below meth c H1 locs1 (cells + mc) (slots + ms) Q (F0 m (pc + 3) ls rest)) :
    W p l e R s m args below meth c H locs cells slots Q (F0 m pc ls (.ref b :: rest)) :=
  kn_after (va_runI (As := []) (rest := rest) S (hSc H.size) cw (kn_pre hK hP hN hi) rfl rfl hsz rfl (lv_room hroom) hdg hf) hwf hP hD hS hA hi hw kk
theorem kn_newq {N : Nat} {x : Int32} {w' : Nat → va_W} (S : CallFix p m c cc nL s args Ts own) (hclink : (Cond.classLink own index "FloatOrder$Parade").before args s = true) (hN : k_Ns s) (hK : va_K g.1 vwCl (kT g) s) (hP : va_P g.1 vwCl w H) (hD : va_D A w) (hS : va_S A s.heap H locs) (hA : ∀ q, s.heap.size ≤ q → A q)
    (hn : ¬ x < 0) (hNn : x.toNatClampNeg = N) (hbytes : N * 4 ≤ 536870912) (hcells : cells + 1 ≤ R.cells) (hslots : slots + N ≤ R.slots) (hw : ∀ q, w ++ [(q, .inl (g.2.2.2, N, .inr (.inr (.inr (.inr fun _ => none)))))] = w' q) (hdg : decode cc pc = .ok (.anewarray index, 3))
    (kk : ∀ (q : Nat) (H1 : Heap), va_P g.1 vwCl (w' q) H1 → va_D A (w' q) → va_S A s.heap H1 locs → W p l e R s m args below meth c H1 locs (cells + 1) (slots + N) Q (F0 m (pc + 3) ls (.ref q :: rest))) : W p l e R s m args below meth c H locs cells slots Q (F0 m pc ls (.int x :: rest)) := by
  refine va_newq (C := "FloatOrder$Parade") S.1 S.2.1 S.2.2.2.1 hclink hN.1 hK hP hD hS hA hn hNn hbytes hcells hslots hdg (fun q cA H1 hK1 hP1 hD1 hS1 => ?_)
  obtain ⟨k1, c1, -, -, -, h1⟩ := (hK1.2 3 _ rfl).2
  obtain ⟨k2, c2, -, -, -, h2⟩ := (hK.2 2 _ rfl).2
  have e : cA = g.2.2.2 := Option.some.inj (h1.symm.trans h2)
  subst e
  rw [hw] at hP1 hD1
  exact kk q H1 hP1 hD1 hS1
theorem kn_astq {a n v : Nat} {vs : List Value} {f : Nat → Option Nat} {i : Int32} {w' : va_W} (qk : Nat) (S : CallFix p m c cc nL s args Ts own) (hK : va_K g.1 vwCl (kT g) s) (hP : va_P g.1 vwCl w H) (hD : va_D A w) (hS : va_S A s.heap H locs) (q0 : Nat) (ha : w[q0]? = some (a, .inl (g.2.2.2, n, .inr (.inr (.inr (.inr f)))))) (hv : w[qk]? = some (v, .inr (2, vs))) (hin : vp_in i n)
    (hw : w.set q0 (a, .inl (g.2.2.2, n, .inr (.inr (.inr (.inr (va_up f i.toNatClampNeg (some v))))))) = w') (hdg : decode cc pc = .ok (.aastore, 1))
    (kk : ∀ (H1 : Heap) (locs1 : List Loc), va_P g.1 vwCl w' H1 → va_D A w' → va_S A s.heap H1 locs1 → W p l e R s m args below meth c H1 locs1 cells slots Q (F0 m (pc + 1) ls rest)) : W p l e R s m args below meth c H locs cells slots Q (F0 m pc ls (.ref v :: .int i :: .ref a :: rest)) := by
  subst hw
  exact va_astq (r := (RX2, TX2, 11)) S.1 S.2.1 hK hP hD hS q0 2 qk 2 ha rfl hv rfl hin hdg kk
end KCall
