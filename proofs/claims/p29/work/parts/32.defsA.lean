def fX2_copyFrom_b10 (n : Nat) (Q : St1) (u19 : Int32) (P20 : St1) : Option ((Int32 × St1) ⊕ (St1)) :=
(if (P20 0 0) ≤ u19 then
(some (.inr P20))
else
(kk_ck u19 12 (kk_ck u19 12 (kk_nm (va_up P20 1 (upd (P20 1) u19.toNatClampNeg ((Q 1) u19.toNatClampNeg))) fun P25 =>
(kk_ck u19 12 (kk_ck u19 12 (kk_nm (va_up P25 2 (upd (P25 2) u19.toNatClampNeg ((Q 2) u19.toNatClampNeg))) fun P28 =>
(kk_ck u19 12 (kk_ck u19 12 (kk_nm (va_up P28 3 (upd (P28 3) u19.toNatClampNeg ((Q 3) u19.toNatClampNeg))) fun P31 =>
(kk_ck u19 12 (kk_ck u19 12 (kk_cb ((Q 4) u19.toNatClampNeg) (kk_nm (va_up P31 4 (upd (P31 4) u19.toNatClampNeg ((Q 4) u19.toNatClampNeg))) fun P34 =>
(some (.inl ((u19 + (1 : Int32)), P34)))))))))))))))))
def fX2_copyFrom_b82 (n : Nat) (Q : St1) (u48 : Int32) (P49 : St1) : Option ((Int32 × St1) ⊕ (St1)) :=
(if (P49 5 0) ≤ u48 then
(some (.inr P49))
else
(kk_ck u48 4 (kk_ck u48 4 (kk_nm (va_up P49 6 (upd (P49 6) u48.toNatClampNeg ((Q 6) u48.toNatClampNeg))) fun P54 =>
(kk_ck u48 4 (kk_ck u48 4 (kk_nm (va_up P54 7 (upd (P54 7) u48.toNatClampNeg ((Q 7) u48.toNatClampNeg))) fun P57 =>
(some (.inl ((u48 + (1 : Int32)), P57))))))))))
def fX2_copyFrom_b122 (n : Nat) (Q : St1) (u66 : Int32) (P67 : St1) : Option ((Int32 × St1) ⊕ (St1)) :=
(if (4 : Int32) ≤ u66 then
(some (.inr P67))
else
(kk_ck u66 4 (kk_ck u66 4 (kk_nm (va_up P67 8 (upd (P67 8) u66.toNatClampNeg ((Q 8) u66.toNatClampNeg))) fun P72 =>
(some (.inl ((u66 + (1 : Int32)), P72)))))))
def fX2_copyFrom (n : Nat) (P : St1) (Q : St1) : Option (St1) :=
(kk_nm (va_up P 0 (fun _ => (Q 0 0))) fun P1 =>
(Option.bind (kk_it (fun (st : Int32 × St1) => fX2_copyFrom_b10 n Q st.1 st.2) n ((0 : Int32), P1)) fun (x22 : St1) =>
(kk_nm (va_up x22 5 (fun _ => (Q 5 0))) fun P37 =>
(Option.bind (kk_it (fun (st : Int32 × St1) => fX2_copyFrom_b82 n Q st.1 st.2) n ((0 : Int32), P37)) fun (x51 : St1) =>
(Option.bind (kk_it (fun (st : Int32 × St1) => fX2_copyFrom_b122 n Q st.1 st.2) n ((0 : Int32), x51)) fun (x69 : St1) =>
(some x69))))))


def fX0_startAt (n : Nat) (B : St1) (P : St1) : Option (St1 × St1) :=
(Option.bind (fX2_allTrouble n P) fun (x1 : Int32) =>
(kk_nm (va_up B 0 (fun _ => x1)) fun B2 =>
(Option.bind (fX2_end n P) fun (x3 : Int32 × St1) =>
(kk_nm (va_up B2 1 (fun _ => x3.1)) fun B4 =>
(some (B4, x3.2))))))


def fX0_isBeatenBy (n : Nat) (B : St1) (P : St1) : Option (Int32 × St1 × St1) :=
(Option.bind (fX2_allTrouble n P) fun (x1 : Int32) =>
(if x1 ≤ (B 0 0) then
(Option.bind (fX2_end n P) fun (x3 : Int32 × St1) =>
(if x1 = (B 0 0) then
(if x3.1 < (B 1 0) then
(kk_nm (va_up B 0 (fun _ => x1)) fun B9 =>
(kk_nm (va_up B9 1 (fun _ => x3.1)) fun B10 =>
(some ((1 : Int32), B10, x3.2))))
else
(some ((0 : Int32), B, x3.2)))
else
(kk_nm (va_up B 0 (fun _ => x1)) fun B5 =>
(kk_nm (va_up B5 1 (fun _ => x3.1)) fun B6 =>
(some ((1 : Int32), B6, x3.2))))))
else
(some ((0 : Int32), B, P))))


def fX3_kindOf (n : Nat) (v0 : Int32) : Option (Int32) :=
(if v0 = (98 : Int32) then
(some (2 : Int32))
else
(if v0 = (99 : Int32) then
(some (0 : Int32))
else
(if v0 = (103 : Int32) then
(some (3 : Int32))
else
(if v0 = (104 : Int32) then
(some (1 : Int32))
else
(some (-1 : Int32))))))


def fX3_start (n : Nat) (R : St1) : Option (St1) :=
(kk_nm (va_up R 3 (fun _ => (0 : Int32))) fun R1 =>
(some R1))


def fX3_isAfterPart (n : Nat) (R : St1) : Option (Int32) :=
(if (R 3 0) = (3 : Int32) then
(some (1 : Int32))
else
(if (R 3 0) = (5 : Int32) then
(some (1 : Int32))
else
(some (0 : Int32))))


def fX3_acceptsKind (n : Nat) (R : St1) (v1 : Int32) : Option (Int32 × St1) :=
(Option.bind (fX3_kindOf n v1) fun (x1 : Int32) =>
(if x1 = (-1 : Int32) then
(some ((0 : Int32), R))
else
(kk_nm (va_up R 0 (fun _ => x1)) fun R3 =>
(kk_nm (va_up R3 1 (fun _ => (0 : Int32))) fun R4 =>
(kk_nm (va_up R4 2 (fun _ => (0 : Int32))) fun R5 =>
(kk_nm (va_up R5 3 (fun _ => (1 : Int32))) fun R6 =>
(some ((1 : Int32), R6))))))))


def fX3_acceptsDigit (n : Nat) (R : St1) (v1 : Int32) (v2 : Int32) (v3 : Int32) : Option (Int32 × St1) :=
(if (v1 - (48 : Int32)) < v2 then
(some ((0 : Int32), R))
else
(if (v1 - (48 : Int32)) ≤ (9 : Int32) then
(kk_nm (va_up R 1 (fun _ => (((R 1 0) * (10 : Int32)) + (v1 - (48 : Int32))))) fun R4 =>
(kk_nm (va_up R4 3 (fun _ => v3)) fun R5 =>
(some ((1 : Int32), R5))))
else
(some ((0 : Int32), R))))


def fX3_acceptsNextPart (n : Nat) (R : St1) (v1 : Int32) : Option (Int32 × St1) :=
(if v1 = (59 : Int32) then
(kk_nm (va_up R 3 (fun _ => (0 : Int32))) fun R2 =>
(some ((1 : Int32), R2)))
else
(some ((0 : Int32), R)))


def fX3_acceptsShied (n : Nat) (R : St1) (v1 : Int32) : Option (Int32 × St1) :=
(Option.bind (fX3_kindOf n v1) fun (x1 : Int32) =>
(if x1 = (-1 : Int32) then
(some ((0 : Int32), R))
else
(if ((R 2 0) >>> (x1 &&& 31)) = 0 then
(kk_nm (va_up R 2 (fun _ => ((R 2 0) ||| ((1 : Int32) <<< (x1 &&& 31))))) fun R5 =>
(kk_nm (va_up R5 3 (fun _ => (5 : Int32))) fun R6 =>
(some ((1 : Int32), R6))))
else
(some ((0 : Int32), R)))))


def fX3_accepts (n : Nat) (R : St1) (v1 : Int32) : Option (Int32 × St1) :=
(if (R 3 0) = (0 : Int32) then
(Option.bind (fX3_acceptsKind n R v1) fun (x2 : Int32 × St1) =>
(kk_cb x2.1 (some (x2.1, x2.2))))
else
(if (R 3 0) = (1 : Int32) then
(Option.bind (fX3_acceptsDigit n R v1 (1 : Int32) (2 : Int32)) fun (x5 : Int32 × St1) =>
(kk_cb x5.1 (some (x5.1, x5.2))))
else
(if (R 3 0) = (2 : Int32) then
(Option.bind (fX3_acceptsDigit n R v1 (0 : Int32) (3 : Int32)) fun (x8 : Int32 × St1) =>
(kk_cb x8.1 (some (x8.1, x8.2))))
else
(if (R 3 0) = (3 : Int32) then
(if v1 = (33 : Int32) then
(if (R 0 0) = (1 : Int32) then
(kk_nm (va_up R 3 (fun _ => (4 : Int32))) fun R17 =>
(some ((1 : Int32), R17)))
else
(Option.bind (fX3_acceptsNextPart n R v1) fun (x15 : Int32 × St1) =>
(kk_cb x15.1 (some (x15.1, x15.2)))))
else
(Option.bind (fX3_acceptsNextPart n R v1) fun (x12 : Int32 × St1) =>
(kk_cb x12.1 (some (x12.1, x12.2)))))
else
(if (R 3 0) = (4 : Int32) then
(Option.bind (fX3_acceptsShied n R v1) fun (x20 : Int32 × St1) =>
(kk_cb x20.1 (some (x20.1, x20.2))))
else
(Option.bind (fX3_acceptsNextPart n R v1) fun (x22 : Int32 × St1) =>
(if x22.1 = 0 then
(Option.bind (fX3_acceptsShied n x22.2 v1) fun (x25 : Int32 × St1) =>
(if x25.1 = 0 then
(some ((0 : Int32), x25.2))
else
(some ((1 : Int32), x25.2))))
else
(some ((1 : Int32), x22.2)))))))))

def fX1_dropOldest_b9 (n : Nat)  (u9 : Int32) (V10 : St2) : Option ((Int32 × St2) ⊕ (St2)) :=
(if (6 : Int32) ≤ u9 then
(some (.inr V10))
else
(kk_ck u9 6 (kk_nm ((V10 0 1) u9.toNatClampNeg).toNatClampNeg fun j14 =>
(kk_cj j14 (kk_ck (u9 - (1 : Int32)) 6 (kk_nm (va_up V10 0 (va_up (V10 0) 1 (upd (V10 0 1) (u9 - (1 : Int32)).toNatClampNeg ((V10 0 1) u9.toNatClampNeg)))) fun V16 =>
(some (.inl ((u9 + (1 : Int32)), V16)))))))))
def fX1_dropOldest (n : Nat) (V : St2) : Option (St2) :=
(kk_nm ((V 0 1) (0 : Int32).toNatClampNeg).toNatClampNeg fun j1 =>
(kk_cj j1 (Option.bind (kk_it (fun (st : Int32 × St2) => fX1_dropOldest_b9 n st.1 st.2) n ((1 : Int32), V)) fun (x12 : St2) =>
(kk_nm (va_up x12 0 (va_up (x12 0) 1 (upd (x12 0 1) (5 : Int32).toNatClampNeg ((V 0 1) (0 : Int32).toNatClampNeg)))) fun V18 =>
(kk_nm (va_up V18 0 (va_up (V18 0) 0 (fun _ => ((V18 0 0 0) - (1 : Int32))))) fun V19 =>
(some V19))))))


def fX1_save (n : Nat) (V : St2) (P : St1) : Option (St2) :=
(Option.bind (if (V 0 0 0) < (6 : Int32) then
(some V)
else
(Option.bind (fX1_dropOldest n V) fun (x5 : St2) =>
(some x5))) fun (x3 : St2) =>
(kk_ck (x3 0 0 0) 6 (kk_nm ((x3 0 1) (x3 0 0 0).toNatClampNeg).toNatClampNeg fun j6 =>
(kk_cj j6 (Option.bind (fX2_copyFrom n (x3 (1 + j6)) P) fun (x8 : St1) =>
(kk_nm (va_up x3 (1 + j6) x8) fun V9 =>
(kk_nm (va_up V9 0 (va_up (V9 0) 0 (fun _ => ((V9 0 0 0) + (1 : Int32))))) fun V10 =>
(some V10))))))))


def fX1_restoreLatest (n : Nat) (V : St2) (P : St1) : Option (St2 × St1) :=
(if (V 0 0 0) ≤ 0 then
(some (V, P))
else
(kk_nm (va_up V 0 (va_up (V 0) 0 (fun _ => ((V 0 0 0) - (1 : Int32))))) fun V2 =>
(kk_ck (V2 0 0 0) 6 (kk_nm ((V2 0 1) (V2 0 0 0).toNatClampNeg).toNatClampNeg fun j3 =>
(kk_cj j3 (Option.bind (fX2_copyFrom n P (V2 (1 + j3))) fun (x5 : St1) =>
(some (V2, x5))))))))
