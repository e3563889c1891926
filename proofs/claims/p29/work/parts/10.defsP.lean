
def fX2_swap (n : Nat) (P : St1) (v1 : Int32) (v2 : Int32) : Option (St1) :=
(kk_ck v1 12 (kk_ck v2 12 (kk_ck v1 12 (kk_nm (va_up P 1 (upd (P 1) v1.toNatClampNeg ((P 1) v2.toNatClampNeg))) fun P3 =>
(kk_ck v2 12 (kk_nm (va_up P3 1 (upd (P3 1) v2.toNatClampNeg ((P 1) v1.toNatClampNeg))) fun P5 =>
(kk_ck v1 12 (kk_ck v2 12 (kk_ck v1 12 (kk_nm (va_up P5 2 (upd (P5 2) v1.toNatClampNeg ((P5 2) v2.toNatClampNeg))) fun P9 =>
(kk_ck v2 12 (kk_nm (va_up P9 2 (upd (P9 2) v2.toNatClampNeg ((P5 2) v1.toNatClampNeg))) fun P11 =>
(kk_ck v1 12 (kk_ck v2 12 (kk_ck v1 12 (kk_nm (va_up P11 3 (upd (P11 3) v1.toNatClampNeg ((P11 3) v2.toNatClampNeg))) fun P15 =>
(kk_ck v2 12 (kk_nm (va_up P15 3 (upd (P15 3) v2.toNatClampNeg ((P11 3) v1.toNatClampNeg))) fun P17 =>
(kk_ck v1 12 (kk_ck v2 12 (kk_ck v1 12 (kk_cb ((P17 4) v2.toNatClampNeg) (kk_nm (va_up P17 4 (upd (P17 4) v1.toNatClampNeg ((P17 4) v2.toNatClampNeg))) fun P21 =>
(kk_ck v2 12 (kk_cb ((P17 4) v1.toNatClampNeg) (kk_nm (va_up P21 4 (upd (P21 4) v2.toNatClampNeg ((P17 4) v1.toNatClampNeg))) fun P23 =>
(some P23)))))))))))))))))))))))))))

def fX2_shift_b2 (n : Nat) (v2 : Int32) (u5 : Int32) (P6 : St1) : Option ((Int32 × St1) ⊕ (St1)) :=
(if v2 ≤ u5 then
(some (.inr P6))
else
(Option.bind (fX2_swap n P6 u5 (u5 + (1 : Int32))) fun (x10 : St1) =>
(some (.inl ((u5 + (1 : Int32)), x10)))))
def fX2_shift_b23 (n : Nat) (v2 : Int32) (u15 : Int32) (P16 : St1) : Option ((Int32 × St1) ⊕ (St1)) :=
(if u15 ≤ v2 then
(some (.inr P16))
else
(Option.bind (fX2_swap n P16 u15 (u15 - (1 : Int32))) fun (x20 : St1) =>
(some (.inl ((u15 + (-1 : Int32)), x20)))))
def fX2_shift (n : Nat) (P : St1) (v1 : Int32) (v2 : Int32) : Option (St1) :=
(Option.bind (kk_it (fun (st : Int32 × St1) => fX2_shift_b2 n v2 st.1 st.2) n (v1, P)) fun (x8 : St1) =>
(Option.bind (kk_it (fun (st : Int32 × St1) => fX2_shift_b23 n v2 st.1 st.2) n (v1, x8)) fun (x18 : St1) =>
(some x18)))


def fX2_takeAway (n : Nat) (P : St1) (v1 : Int32) : Option (St1) :=
(Option.bind (fX2_shift n P v1 ((P 0 0) - (1 : Int32))) fun (x1 : St1) =>
(kk_nm (va_up x1 0 (fun _ => ((x1 0 0) - (1 : Int32)))) fun P2 =>
(some P2)))


def fX2_addLast (n : Nat) (P : St1) (v1 : Int32) (v2 : Int32) (v3 : Int32) : Option (St1) :=
(if (12 : Int32) ≤ (P 0 0) then
(some P)
else
(kk_ck (P 0 0) 12 (kk_nm (va_up P 1 (upd (P 1) (P 0 0).toNatClampNeg v1)) fun P2 =>
(kk_ck (P2 0 0) 12 (kk_nm (va_up P2 2 (upd (P2 2) (P2 0 0).toNatClampNeg v2)) fun P4 =>
(kk_ck (P4 0 0) 12 (kk_nm (va_up P4 3 (upd (P4 3) (P4 0 0).toNatClampNeg v3)) fun P6 =>
(kk_ck (P6 0 0) 12 (kk_cb (0 : Int32) (kk_nm (va_up P6 4 (upd (P6 4) (P6 0 0).toNatClampNeg (0 : Int32))) fun P8 =>
(kk_nm (va_up P8 0 (fun _ => ((P8 0 0) + (1 : Int32)))) fun P10 =>
(some P10))))))))))))


def fX2_countedHeight (n : Nat) (P : St1) (v1 : Int32) : Option (Int32) :=
(kk_ck v1 12 (Option.bind (if ((P 4) v1.toNatClampNeg) = 0 then
(kk_ck v1 12 (some ((P 2) v1.toNatClampNeg)))
else
(kk_ck v1 12 (some (((P 2) v1.toNatClampNeg) - (20 : Int32))))) fun (x5 : Int32) =>
(if (10 : Int32) ≤ x5 then
(some x5)
else
(some (10 : Int32)))))


def fX2_shying (n : Nat) (P : St1) (v1 : Int32) : Option (Int32) :=
(Option.bind (if v1 < (1 : Int32) then
(some (0 : Int32))
else
(kk_ck v1 12 (kk_ck (v1 - (1 : Int32)) 12 (if ((((P 3) v1.toNatClampNeg) >>> (((P 1) (v1 - (1 : Int32)).toNatClampNeg) &&& 31)) &&& (1 : Int32)) = (1 : Int32) then
(some ((0 : Int32) + (3 : Int32)))
else
(some (0 : Int32)))))) fun (x5 : Int32) =>
(if v1 < (2 : Int32) then
(some x5)
else
(kk_ck v1 12 (kk_ck (v1 - (2 : Int32)) 12 (if ((((P 3) v1.toNatClampNeg) >>> (((P 1) (v1 - (2 : Int32)).toNatClampNeg) &&& 31)) &&& (1 : Int32)) = (1 : Int32) then
(some (x5 + (1 : Int32)))
else
(some x5))))))

def fX2_hearing_b14 (n : Nat) (P : St1) (v1 : Int32) (u10 : Int32) (u11 : Int32) : Option ((Int32 × Int32) ⊕ (Int32)) :=
(if ((P 8) (0 : Int32).toNatClampNeg) ≤ u11 then
(some (.inr u10))
else
(if v1 < u11 then
(some (.inr u10))
else
(kk_ck (v1 - u11) 12 (if ((P 1) (v1 - u11).toNatClampNeg) = (2 : Int32) then
(some (.inl ((u10 + (1 : Int32)), (u11 + (1 : Int32)))))
else
(some (.inl (u10, (u11 + (1 : Int32)))))))))
def fX2_hearing (n : Nat) (P : St1) (v1 : Int32) : Option (Int32) :=
(kk_ck v1 12 (if ((P 1) v1.toNatClampNeg) = (2 : Int32) then
(Option.bind (kk_it (fun (st : Int32 × Int32) => fX2_hearing_b14 n P v1 st.1 st.2) n ((0 : Int32), (1 : Int32))) fun (x13 : Int32) =>
(some x13))
else
(some (0 : Int32))))


def fX2_meeting (n : Nat) (P : St1) (v1 : Int32) : Option (Int32) :=
(if v1 < (1 : Int32) then
(some (0 : Int32))
else
(kk_ck v1 12 (if ((P 1) v1.toNatClampNeg) = (3 : Int32) then
(kk_ck (v1 - (1 : Int32)) 12 (if ((P 1) (v1 - (1 : Int32)).toNatClampNeg) = (3 : Int32) then
(some (2 : Int32))
else
(some (0 : Int32))))
else
(some (0 : Int32)))))


def fX2_troubleAt (n : Nat) (P : St1) (v1 : Int32) : Option (Int32) :=
(Option.bind (fX2_shying n P v1) fun (x1 : Int32) =>
(Option.bind (fX2_hearing n P v1) fun (x2 : Int32) =>
(Option.bind (fX2_meeting n P v1) fun (x3 : Int32) =>
(some ((x1 + x2) + x3)))))


def fX2_troubleBy (n : Nat) (P : St1) (v1 : Int32) (v2 : Int32) : Option (Int32) :=
(if v2 = (0 : Int32) then
(Option.bind (fX2_shying n P v1) fun (x2 : Int32) =>
(some x2))
else
(if v2 = (1 : Int32) then
(Option.bind (fX2_hearing n P v1) fun (x4 : Int32) =>
(some x4))
else
(Option.bind (fX2_meeting n P v1) fun (x5 : Int32) =>
(some x5))))

def fX2_allTrouble_b4 (n : Nat) (P : St1) (u6 : Int32) (u7 : Int32) : Option ((Int32 × Int32) ⊕ (Int32)) :=
(if (P 0 0) ≤ u7 then
(some (.inr u6))
else
(Option.bind (fX2_troubleAt n P u7) fun (x11 : Int32) =>
(some (.inl ((u6 + x11), (u7 + (1 : Int32)))))))
def fX2_allTrouble (n : Nat) (P : St1) : Option (Int32) :=
(Option.bind (kk_it (fun (st : Int32 × Int32) => fX2_allTrouble_b4 n P st.1 st.2) n ((0 : Int32), (0 : Int32))) fun (x9 : Int32) =>
(some x9))

def fX2_troubledFloats_b4 (n : Nat) (P : St1) (u7 : Int32) (u8 : Int32) : Option ((Int32 × Int32) ⊕ (Int32)) :=
(if (P 0 0) ≤ u8 then
(some (.inr u7))
else
(Option.bind (fX2_troubleAt n P u8) fun (x12 : Int32) =>
(if x12 ≤ 0 then
(some (.inl (u7, (u8 + (1 : Int32)))))
else
(some (.inl ((u7 + (1 : Int32)), (u8 + (1 : Int32))))))))
def fX2_troubledFloats (n : Nat) (P : St1) : Option (Int32) :=
(Option.bind (kk_it (fun (st : Int32 × Int32) => fX2_troubledFloats_b4 n P st.1 st.2) n ((0 : Int32), (0 : Int32))) fun (x10 : Int32) =>
(some x10))

def fX2_greatestHeight_b4 (n : Nat) (P : St1) (u6 : Int32) (u7 : Int32) : Option ((Int32 × Int32) ⊕ (Int32)) :=
(if (P 0 0) ≤ u7 then
(some (.inr u6))
else
(Option.bind (fX2_countedHeight n P u7) fun (x11 : Int32) =>
(some (.inl ((if u6 < x11 then x11 else u6), (u7 + (1 : Int32)))))))
def fX2_greatestHeight (n : Nat) (P : St1) : Option (Int32) :=
(Option.bind (kk_it (fun (st : Int32 × Int32) => fX2_greatestHeight_b4 n P st.1 st.2) n ((0 : Int32), (0 : Int32))) fun (x9 : Int32) =>
(some x9))

def fX2_hasBridgeAt_b2 (n : Nat) (P : St1) (v1 : Int32) (u6 : Int32) : Option ((Int32) ⊕ (Int32)) :=
(if (P 5 0) ≤ u6 then
(some (.inr (0 : Int32)))
else
(kk_ck u6 4 (if ((P 6) u6.toNatClampNeg) = v1 then
(some (.inr (1 : Int32)))
else
(some (.inl (u6 + (1 : Int32)))))))
def fX2_hasBridgeAt (n : Nat) (P : St1) (v1 : Int32) : Option (Int32) :=
(kk_it (fun (st : Int32) => fX2_hasBridgeAt_b2 n P v1 st) n (0 : Int32))

def fX2_build_b15 (n : Nat) (v1 : Int32) (u13 : Int32) (P14 : St1) : Option ((Int32 × St1) ⊕ (Int32 × St1)) :=
(if u13 ≤ 0 then
(some (.inr (u13, P14)))
else
(kk_ck (u13 - (1 : Int32)) 4 (if ((P14 6) (u13 - (1 : Int32)).toNatClampNeg) ≤ v1 then
(some (.inr (u13, P14)))
else
(kk_ck (u13 - (1 : Int32)) 4 (kk_ck u13 4 (kk_nm (va_up P14 6 (upd (P14 6) u13.toNatClampNeg ((P14 6) (u13 - (1 : Int32)).toNatClampNeg))) fun P21 =>
(kk_ck (u13 - (1 : Int32)) 4 (kk_ck u13 4 (kk_nm (va_up P21 7 (upd (P21 7) u13.toNatClampNeg ((P21 7) (u13 - (1 : Int32)).toNatClampNeg))) fun P24 =>
(some (.inl ((u13 + (-1 : Int32)), P24))))))))))))
def fX2_build (n : Nat) (P : St1) (v1 : Int32) (v2 : Int32) : Option (Int32 × St1) :=
(if (P 5 0) < (4 : Int32) then
(Option.bind (kk_it (fun (st : Int32 × St1) => fX2_build_b15 n v1 st.1 st.2) n ((P 5 0), P)) fun (x16 : Int32 × St1) =>
(kk_ck x16.1 4 (kk_nm (va_up x16.2 6 (upd (x16.2 6) x16.1.toNatClampNeg v1)) fun P26 =>
(kk_ck x16.1 4 (kk_nm (va_up P26 7 (upd (P26 7) x16.1.toNatClampNeg v2)) fun P28 =>
(kk_nm (va_up P28 5 (fun _ => ((P28 5 0) + (1 : Int32)))) fun P30 =>
(some (x16.1, P30))))))))
else
(some ((-1 : Int32), P)))

def fX2_pullDown_b4 (n : Nat)  (u10 : Int32) (P11 : St1) : Option ((Int32 × St1) ⊕ (St1)) :=
(if (P11 5 0) ≤ u10 then
(some (.inr P11))
else
(kk_ck u10 4 (kk_ck (u10 - (1 : Int32)) 4 (kk_nm (va_up P11 6 (upd (P11 6) (u10 - (1 : Int32)).toNatClampNeg ((P11 6) u10.toNatClampNeg))) fun P16 =>
(kk_ck u10 4 (kk_ck (u10 - (1 : Int32)) 4 (kk_nm (va_up P16 7 (upd (P16 7) (u10 - (1 : Int32)).toNatClampNeg ((P16 7) u10.toNatClampNeg))) fun P19 =>
(some (.inl ((u10 + (1 : Int32)), P19))))))))))
def fX2_pullDown (n : Nat) (P : St1) (v1 : Int32) : Option (St1) :=
(Option.bind (kk_it (fun (st : Int32 × St1) => fX2_pullDown_b4 n st.1 st.2) n ((v1 + (1 : Int32)), P)) fun (x13 : St1) =>
(kk_nm (va_up x13 5 (fun _ => ((x13 5 0) - (1 : Int32)))) fun P21 =>
(some P21)))


def fX2_isLowered (n : Nat) (P : St1) (v1 : Int32) (v2 : Int32) : Option (Int32) :=
(Option.bind (fX2_countedHeight n P v1) fun (x1 : Int32) =>
(kk_ck v2 4 (if x1 ≤ ((P 7) v2.toNatClampNeg) then
(some (0 : Int32))
else
(some (1 : Int32)))))

def fX2_bridgesThatLower_b4 (n : Nat) (P : St1) (v1 : Int32) (u7 : Int32) (u8 : Int32) : Option ((Int32 × Int32) ⊕ (Int32)) :=
(if (P 5 0) ≤ u8 then
(some (.inr u7))
else
(Option.bind (fX2_isLowered n P v1 u8) fun (x12 : Int32) =>
(if x12 = 0 then
(some (.inl (u7, (u8 + (1 : Int32)))))
else
(some (.inl ((u7 + (1 : Int32)), (u8 + (1 : Int32))))))))
def fX2_bridgesThatLower (n : Nat) (P : St1) (v1 : Int32) : Option (Int32) :=
(Option.bind (kk_it (fun (st : Int32 × Int32) => fX2_bridgesThatLower_b4 n P v1 st.1 st.2) n ((0 : Int32), (0 : Int32))) fun (x10 : Int32) =>
(some x10))

def fX2_floatsLoweredAt_b4 (n : Nat) (P : St1) (v1 : Int32) (u7 : Int32) (u8 : Int32) : Option ((Int32 × Int32) ⊕ (Int32)) :=
(if (P 0 0) ≤ u8 then
(some (.inr u7))
else
(Option.bind (fX2_isLowered n P u8 v1) fun (x12 : Int32) =>
(if x12 = 0 then
(some (.inl (u7, (u8 + (1 : Int32)))))
else
(some (.inl ((u7 + (1 : Int32)), (u8 + (1 : Int32))))))))
def fX2_floatsLoweredAt (n : Nat) (P : St1) (v1 : Int32) : Option (Int32) :=
(Option.bind (kk_it (fun (st : Int32 × Int32) => fX2_floatsLoweredAt_b4 n P v1 st.1 st.2) n ((0 : Int32), (0 : Int32))) fun (x10 : Int32) =>
(some x10))

def fX2_loweredFloats_b4 (n : Nat) (P : St1) (u7 : Int32) (u8 : Int32) : Option ((Int32 × Int32) ⊕ (Int32)) :=
(if (P 0 0) ≤ u8 then
(some (.inr u7))
else
(Option.bind (fX2_bridgesThatLower n P u8) fun (x12 : Int32) =>
(if x12 ≤ 0 then
(some (.inl (u7, (u8 + (1 : Int32)))))
else
(some (.inl ((u7 + (1 : Int32)), (u8 + (1 : Int32))))))))
def fX2_loweredFloats (n : Nat) (P : St1) : Option (Int32) :=
(Option.bind (kk_it (fun (st : Int32 × Int32) => fX2_loweredFloats_b4 n P st.1 st.2) n ((0 : Int32), (0 : Int32))) fun (x10 : Int32) =>
(some x10))


def fX2_bridgeProperty (n : Nat) (P : St1) (v1 : Int32) (v2 : Int32) : Option (Int32) :=
(if v2 = (0 : Int32) then
(kk_ck v1 4 (some ((P 6) v1.toNatClampNeg)))
else
(if v2 = (1 : Int32) then
(kk_ck v1 4 (some ((P 7) v1.toNatClampNeg)))
else
(Option.bind (fX2_floatsLoweredAt n P v1) fun (x5 : Int32) =>
(some x5))))


def fX2_floatProperty (n : Nat) (P : St1) (v1 : Int32) (v2 : Int32) : Option (Int32) :=
(if v2 = (0 : Int32) then
(kk_ck v1 12 (some ((P 1) v1.toNatClampNeg)))
else
(if v2 = (1 : Int32) then
(kk_ck v1 12 (some ((P 2) v1.toNatClampNeg)))
else
(if v2 = (2 : Int32) then
(kk_ck v1 12 (some ((P 3) v1.toNatClampNeg)))
else
(if v2 = (3 : Int32) then
(kk_ck v1 12 (if ((P 4) v1.toNatClampNeg) = 0 then
(some (0 : Int32))
else
(some (1 : Int32))))
else
(if v2 = (4 : Int32) then
(Option.bind (fX2_countedHeight n P v1) fun (x11 : Int32) =>
(some x11))
else
(if v2 = (5 : Int32) then
(Option.bind (fX2_bridgesThatLower n P v1) fun (x13 : Int32) =>
(some x13))
else
(Option.bind (fX2_troubleAt n P v1) fun (x14 : Int32) =>
(some x14))))))))

def fX2_travel_b29 (n : Nat) (u59 : Int32) (x64 : Int32) (u91 : Int32) (u92 : Int32) (u93 : Int32) (P94 : St1) : Option ((Int32 × Int32 × Int32 × St1) ⊕ (St1)) :=
(if (P94 5 0) < u93 then
(some (.inr P94))
else
(Option.bind (if (P94 5 0) ≤ u93 then
(some (60 : Int32))
else
(kk_ck u93 4 (some ((P94 6) u93.toNatClampNeg)))) fun (x100 : Int32) =>
(Option.bind (if u59 ≤ 0 then
(some (u91 + ((x100 - u92) * ((P94 8) (2 : Int32).toNatClampNeg))))
else
(kk_ck u93 5 (some (if (u91 + ((x100 - u92) * ((P94 8) (2 : Int32).toNatClampNeg))) < (((P94 10) u93.toNatClampNeg) + ((P94 8) (1 : Int32).toNatClampNeg)) then (((P94 10) u93.toNatClampNeg) + ((P94 8) (1 : Int32).toNatClampNeg)) else (u91 + ((x100 - u92) * ((P94 8) (2 : Int32).toNatClampNeg))))))) fun (x105 : Int32) =>
(kk_ck u93 5 (kk_nm (va_up P94 9 (upd (P94 9) u93.toNatClampNeg x105)) fun P108 =>
(Option.bind (if (P108 5 0) ≤ u93 then
(some x105)
else
(kk_ck u93 4 (if x64 ≤ ((P108 7) u93.toNatClampNeg) then
(some x105)
else
(some (x105 + ((P108 8) (3 : Int32).toNatClampNeg)))))) fun (x113 : Int32) =>
(kk_ck u93 5 (kk_nm (va_up P108 10 (upd (P108 10) u93.toNatClampNeg x113)) fun P117 =>
(some (.inl (x113, x100, (u93 + (1 : Int32)), P117)))))))))))
def fX2_travel_b2 (n : Nat) (v1 : Int32) (u59 : Int32) (P60 : St1) : Option ((Int32 × St1) ⊕ (St1)) :=
(if v1 < u59 then
(some (.inr P60))
else
(Option.bind (fX2_countedHeight n P60 u59) fun (x64 : Int32) =>
(Option.bind (kk_it (fun (st : Int32 × Int32 × Int32 × St1) => fX2_travel_b29 n u59 x64 st.1 st.2.1 st.2.2.1 st.2.2.2) n ((u59 * ((P60 8) (1 : Int32).toNatClampNeg)), (0 : Int32), (0 : Int32), P60)) fun (x96 : St1) =>
(some (.inl ((u59 + (1 : Int32)), x96))))))
def fX2_travel (n : Nat) (P : St1) (v1 : Int32) : Option (St1) :=
(Option.bind (kk_it (fun (st : Int32 × St1) => fX2_travel_b2 n v1 st.1 st.2) n ((0 : Int32), P)) fun (x62 : St1) =>
(some x62))


def fX2_end (n : Nat) (P : St1) : Option (Int32 × St1) :=
(if 0 < (P 0 0) then
(Option.bind (fX2_travel n P ((P 0 0) - (1 : Int32))) fun (x2 : St1) =>
(kk_ck (x2 5 0) 5 (some (((x2 9) (x2 5 0).toNatClampNeg), x2))))
else
(some ((0 : Int32), P)))


def fX2_waiting (n : Nat) (P : St1) : Option (Int32 × St1) :=
(if 0 < (P 0 0) then
(Option.bind (fX2_end n P) fun (x2 : Int32 × St1) =>
(some (((x2.1 - (((x2.2 0 0) - (1 : Int32)) * ((x2.2 8) (1 : Int32).toNatClampNeg))) - ((60 : Int32) * ((x2.2 8) (2 : Int32).toNatClampNeg))), x2.2)))
else
(some ((0 : Int32), P)))
