
def fX4_needFloat (n : Nat) (G : St2) (v1 : Int32) : Option (Nat ⊕ (Unit)) :=
(if v1 < 0 then
(some (.inl 1))
else
(if v1 < (G 1 0 0) then
(some (.inr ()))
else
(some (.inl 1))))


def fX4_needBridge (n : Nat) (G : St2) (v1 : Int32) : Option (Nat ⊕ (Unit)) :=
(if v1 < 0 then
(some (.inl 1))
else
(if v1 < (G 1 5 0) then
(some (.inr ()))
else
(some (.inl 1))))


def fX4_needSetting (n : Nat) (v0 : Int32) : Option (Nat ⊕ (Unit)) :=
(if v0 < 0 then
(some (.inl 1))
else
(if v0 < (4 : Int32) then
(some (.inr ()))
else
(some (.inl 1))))


def fX4_isHeight (n : Nat) (v0 : Int32) : Option (Int32) :=
(if v0 < (10 : Int32) then
(some (0 : Int32))
else
(if (99 : Int32) < v0 then
(some (0 : Int32))
else
(some (1 : Int32))))


def fX4_isFloat (n : Nat) (v0 : Int32) (v1 : Int32) (v2 : Int32) : Option (Int32) :=
(if v0 < 0 then
(some (0 : Int32))
else
(if (4 : Int32) ≤ v0 then
(some (0 : Int32))
else
(Option.bind (fX4_isHeight n v1) fun (x5 : Int32) =>
(if x5 = 0 then
(some (0 : Int32))
else
(if v2 < 0 then
(some (0 : Int32))
else
(Option.bind (if v0 = (1 : Int32) then
(some (15 : Int32))
else
(some (0 : Int32))) fun (x10 : Int32) =>
(if x10 < v2 then
(some (0 : Int32))
else
(some (1 : Int32)))))))))


def fX4_mixed (n : Nat) (v0 : Int64) (v2 : Int64) : Option (Int64) :=
(some (((31 : Int64) * v0) + v2))

def fX4_doBestExchange_b33 (n : Nat) (u43 : Int32) (u63 : Int32) (u64 : Int32) (u65 : Int32) (G66 : St2) : Option ((Int32 × Int32 × Int32 × St2) ⊕ (Int32 × Int32 × St2)) :=
(if (G66 1 0 0) ≤ u65 then
(some (.inr (u63, u64, G66)))
else
(Option.bind (fX2_swap n (G66 1) u43 u65) fun (x70 : St1) =>
(kk_nm (va_up G66 1 x70) fun G71 =>
(Option.bind (fX0_isBeatenBy n (G71 3) (G71 1)) fun (x72 : Int32 × St1 × St1) =>
(kk_nm (va_up G71 3 x72.2.1) fun G73 =>
(kk_nm (va_up G73 1 x72.2.2) fun G74 =>
(Option.bind (if x72.1 = 0 then
(some (u64, u63))
else
(some (u65, u43))) fun (x76 : Int32 × Int32) =>
(Option.bind (fX2_swap n (G74 1) u43 u65) fun (x78 : St1) =>
(kk_nm (va_up G74 1 x78) fun G79 =>
(some (.inl (x76.2, x76.1, (u65 + (1 : Int32)), G79))))))))))))
def fX4_doBestExchange_b17 (n : Nat)  (u41 : Int32) (u42 : Int32) (u43 : Int32) (G44 : St2) : Option ((Int32 × Int32 × Int32 × St2) ⊕ (Int32 × Int32 × St2)) :=
(if (G44 1 0 0) ≤ u43 then
(some (.inr (u41, u42, G44)))
else
(Option.bind (kk_it (fun (st : Int32 × Int32 × Int32 × St2) => fX4_doBestExchange_b33 n u43 st.1 st.2.1 st.2.2.1 st.2.2.2) n (u41, u42, (u43 + (1 : Int32)), G44)) fun (x68 : Int32 × Int32 × St2) =>
(some (.inl (x68.1, x68.2.1, (u43 + (1 : Int32)), x68.2.2)))))
def fX4_doBestExchange (n : Nat) (G : St2) : Option (Int32 × St2) :=
(Option.bind (fX0_startAt n (G 3) (G 1)) fun (x1 : St1 × St1) =>
(kk_nm (va_up G 3 x1.1) fun G2 =>
(kk_nm (va_up G2 1 x1.2) fun G3 =>
(Option.bind (kk_it (fun (st : Int32 × Int32 × Int32 × St2) => fX4_doBestExchange_b17 n st.1 st.2.1 st.2.2.1 st.2.2.2) n ((-1 : Int32), (-1 : Int32), (0 : Int32), G3)) fun (x46 : Int32 × Int32 × St2) =>
(if x46.1 = (-1 : Int32) then
(some ((0 : Int32), x46.2.2))
else
(Option.bind (fX2_swap n (x46.2.2 1) x46.1 x46.2.1) fun (x81 : St1) =>
(kk_nm (va_up x46.2.2 1 x81) fun G82 =>
(some ((1 : Int32), G82)))))))))

def fX4_placeOfLeast_b35 (n : Nat)  (u18 : Int32) (u19 : Int32) (G20 : St2) : Option ((Int32 × Int32 × St2) ⊕ (Int32 × St2)) :=
(if (G20 2 0 0) ≤ u19 then
(some (.inr (u18, G20)))
else
(Option.bind (fX2_swap n (G20 2) (u19 - (1 : Int32)) u19) fun (x24 : St1) =>
(kk_nm (va_up G20 2 x24) fun G25 =>
(Option.bind (fX0_isBeatenBy n (G25 3) (G25 2)) fun (x26 : Int32 × St1 × St1) =>
(kk_nm (va_up G25 3 x26.2.1) fun G27 =>
(kk_nm (va_up G27 2 x26.2.2) fun G28 =>
(if x26.1 = 0 then
(some (.inl (u18, (u19 + (1 : Int32)), G28)))
else
(some (.inl (u19, (u19 + (1 : Int32)), G28))))))))))
def fX4_placeOfLeast (n : Nat) (G : St2) (v1 : Int32) : Option (Int32 × St2) :=
(Option.bind (fX2_copyFrom n (G 2) (G 1)) fun (x1 : St1) =>
(kk_nm (va_up G 2 x1) fun G2 =>
(Option.bind (fX2_shift n (G2 2) v1 (0 : Int32)) fun (x3 : St1) =>
(kk_nm (va_up G2 2 x3) fun G4 =>
(Option.bind (fX0_startAt n (G4 3) (G4 2)) fun (x5 : St1 × St1) =>
(kk_nm (va_up G4 3 x5.1) fun G6 =>
(kk_nm (va_up G6 2 x5.2) fun G7 =>
(Option.bind (kk_it (fun (st : Int32 × Int32 × St2) => fX4_placeOfLeast_b35 n st.1 st.2.1 st.2.2) n ((0 : Int32), (1 : Int32), G7)) fun (x22 : Int32 × St2) =>
(some (x22.1, x22.2))))))))))

def fX4_readBuffer_b9 (n : Nat)  (u10 : Int32) (G11 : St2) : Option ((Int32 × St2) ⊕ (Int32 × St2)) :=
(if (G11 0 6 0) ≤ u10 then
(some (.inr ((G11 0 6 0), G11)))
else
(kk_ck u10 60 (Option.bind (fX3_accepts n (G11 4) ((G11 0 5) u10.toNatClampNeg)) fun (x15 : Int32 × St1) =>
(kk_nm (va_up G11 4 x15.2) fun G16 =>
(if x15.1 = 0 then
(some (.inr (u10, G16)))
else
(some (.inl ((u10 + (1 : Int32)), G16))))))))
def fX4_readBuffer (n : Nat) (G : St2) : Option (Int32 × St2) :=
(Option.bind (fX3_start n (G 4)) fun (x1 : St1) =>
(kk_nm (va_up G 4 x1) fun G2 =>
(kk_it (fun (st : Int32 × St2) => fX4_readBuffer_b9 n st.1 st.2) n ((0 : Int32), G2))))

def fX4_partsInBuffer_b4 (n : Nat) (G : St2) (u7 : Int32) (u8 : Int32) : Option ((Int32 × Int32) ⊕ (Int32)) :=
(if (G 0 6 0) ≤ u8 then
(some (.inr u7))
else
(kk_ck u8 60 (if ((G 0 5) u8.toNatClampNeg) = (59 : Int32) then
(some (.inl ((u7 + (1 : Int32)), (u8 + (1 : Int32)))))
else
(some (.inl (u7, (u8 + (1 : Int32))))))))
def fX4_partsInBuffer (n : Nat) (G : St2) : Option (Int32) :=
(Option.bind (kk_it (fun (st : Int32 × Int32) => fX4_partsInBuffer_b4 n G st.1 st.2) n ((1 : Int32), (0 : Int32))) fun (x10 : Int32) =>
(some x10))

def fX4_addParts_b9 (n : Nat)  (u17 : Int32) (G18 : St2) : Option ((Int32 × St2) ⊕ (St2)) :=
(if (G18 0 6 0) ≤ u17 then
(some (.inr G18))
else
(kk_ck u17 60 (Option.bind (if ((G18 0 5) u17.toNatClampNeg) = (59 : Int32) then
(Option.bind (fX2_addLast n (G18 1) (G18 4 0 0) (G18 4 1 0) (G18 4 2 0)) fun (x28 : St1) =>
(kk_nm (va_up G18 1 x28) fun G29 =>
(some G29)))
else
(some G18)) fun (x26 : St2) =>
(kk_ck u17 60 (Option.bind (fX3_accepts n (x26 4) ((x26 0 5) u17.toNatClampNeg)) fun (x31 : Int32 × St1) =>
(kk_nm (va_up x26 4 x31.2) fun G32 =>
(some (.inl ((u17 + (1 : Int32)), G32)))))))))
def fX4_addParts (n : Nat) (G : St2) : Option (St2) :=
(Option.bind (fX3_start n (G 4)) fun (x1 : St1) =>
(kk_nm (va_up G 4 x1) fun G2 =>
(Option.bind (kk_it (fun (st : Int32 × St2) => fX4_addParts_b9 n st.1 st.2) n ((0 : Int32), G2)) fun (x20 : St2) =>
(Option.bind (fX2_addLast n (x20 1) (x20 4 0 0) (x20 4 1 0) (x20 4 2 0)) fun (x33 : St1) =>
(kk_nm (va_up x20 1 x33) fun G34 =>
(some G34))))))

def fX4_withFloat_b6 (n : Nat) (G : St2) (v3 : Int32) (u7 : Int64) (u8 : Int32) : Option ((Int64 × Int32) ⊕ (Int64)) :=
(if (7 : Int32) ≤ u8 then
(some (.inr u7))
else
(Option.bind (fX2_floatProperty n (G 1) v3 u8) fun (x12 : Int32) =>
(Option.bind (fX4_mixed n u7 x12.toInt64) fun (x13 : Int64) =>
(some (.inl (x13, (u8 + (1 : Int32))))))))
def fX4_withFloat_b40 (n : Nat) (G : St2) (v3 : Int32) (u20 : Int64) (u21 : Int32) : Option ((Int64 × Int32) ⊕ (Int64)) :=
(if (3 : Int32) ≤ u21 then
(some (.inr u20))
else
(Option.bind (fX2_troubleBy n (G 1) v3 u21) fun (x25 : Int32) =>
(Option.bind (fX4_mixed n u20 x25.toInt64) fun (x26 : Int64) =>
(some (.inl (x26, (u21 + (1 : Int32))))))))
def fX4_withFloat_b81 (n : Nat) (G28 : St2) (u35 : Int64) (u36 : Int32) : Option ((Int64 × Int32) ⊕ (Int64)) :=
(if (G28 1 5 0) < u36 then
(some (.inr u35))
else
(kk_ck u36 5 (Option.bind (fX4_mixed n u35 ((G28 1 9) u36.toNatClampNeg).toInt64) fun (x41 : Int64) =>
(some (.inl (x41, (u36 + (1 : Int32))))))))
def fX4_withFloat (n : Nat) (G : St2) (v1 : Int64) (v3 : Int32) : Option (Int64 × St2) :=
(Option.bind (kk_it (fun (st : Int64 × Int32) => fX4_withFloat_b6 n G v3 st.1 st.2) n (v1, (0 : Int32))) fun (x10 : Int64) =>
(Option.bind (kk_it (fun (st : Int64 × Int32) => fX4_withFloat_b40 n G v3 st.1 st.2) n (x10, (0 : Int32))) fun (x23 : Int64) =>
(Option.bind (fX2_travel n (G 1) v3) fun (x27 : St1) =>
(kk_nm (va_up G 1 x27) fun G28 =>
(Option.bind (kk_it (fun (st : Int64 × Int32) => fX4_withFloat_b81 n G28 st.1 st.2) n (x23, (0 : Int32))) fun (x38 : Int64) =>
(Option.bind (fX4_placeOfLeast n G28 v3) fun (x42 : Int32 × St2) =>
(Option.bind (fX4_mixed n x38 x42.1.toInt64) fun (x43 : Int64) =>
(some (x43, x42.2)))))))))


def fX4_number (n : Nat) (G : St2) (V : St2) (v1 : Int32) : Option (Int32 × St2) :=
(if v1 = (0 : Int32) then
(some ((G 1 0 0), G))
else
(if v1 = (1 : Int32) then
(some ((G 1 5 0), G))
else
(if v1 = (2 : Int32) then
(Option.bind (fX2_allTrouble n (G 1)) fun (x4 : Int32) =>
(some (x4, G)))
else
(if v1 = (3 : Int32) then
(Option.bind (fX2_end n (G 1)) fun (x6 : Int32 × St1) =>
(kk_nm (va_up G 1 x6.2) fun G7 =>
(some (x6.1, G7))))
else
(if v1 = (4 : Int32) then
(Option.bind (fX2_loweredFloats n (G 1)) fun (x9 : Int32) =>
(some (x9, G)))
else
(if v1 = (5 : Int32) then
(Option.bind (fX2_troubledFloats n (G 1)) fun (x11 : Int32) =>
(some (x11, G)))
else
(if v1 = (6 : Int32) then
(Option.bind (fX2_waiting n (G 1)) fun (x13 : Int32 × St1) =>
(kk_nm (va_up G 1 x13.2) fun G14 =>
(some (x13.1, G14))))
else
(if v1 = (7 : Int32) then
(Option.bind (fX2_greatestHeight n (G 1)) fun (x16 : Int32) =>
(some (x16, G)))
else
(some ((V 0 0 0), G))))))))))

def fX4_bitsOfShare_b15 (n : Nat)  (u7 : UInt64) (u8 : Int64) : Option ((UInt64 × Int64) ⊕ (UInt64 × Int64)) :=
(if 0 ≤ (Op.cmpValue (FP.dcmp u7 FP.dconst1) .g) then
(some (.inr (u7, u8)))
else
(if (lg_cmp u8 (1 : Int64)) ≤ 0 then
(some (.inr (u7, u8)))
else
(kk_cn (FP.dmul u7 (4611686018427387904 : UInt64)) (some (.inl ((FP.dmul u7 (4611686018427387904 : UInt64)), (u8 - (1 : Int64))))))))
def fX4_bitsOfShare (n : Nat) (v0 : UInt64) : Option (Int64) :=
(if 0 < (Op.cmpValue (FP.dcmp v0 FP.dconst0) .g) then
(Option.bind (kk_it (fun (st : UInt64 × Int64) => fX4_bitsOfShare_b15 n st.1 st.2) n (v0, (1023 : Int64))) fun (x10 : UInt64 × Int64) =>
(kk_cn (FP.dsub x10.1 FP.dconst1) (kk_cn (FP.dmul (FP.dsub x10.1 FP.dconst1) (4841369599423283200 : UInt64)) (some ((x10.2 <<< ((52 : Int32).toInt64 &&& 63)) + (FP.d2l (FP.dmul (FP.dsub x10.1 FP.dconst1) (4841369599423283200 : UInt64))))))))
else
(some (0 : Int64)))
