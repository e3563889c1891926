
def fX4_append (n : Nat) (G : St2) (v1 : Int32) : Option (Nat ⊕ (Int32 × St2)) :=
(if v1 < (33 : Int32) then
(some (.inl 2))
else
(if v1 ≤ (126 : Int32) then
(if (G 0 6 0) < (60 : Int32) then
(kk_ck (G 0 6 0) 60 (kk_nm (va_up G 0 (va_up (G 0) 5 (upd (G 0 5) (G 0 6 0).toNatClampNeg v1))) fun G4 =>
(kk_nm (va_up G4 0 (va_up (G4 0) 6 (fun _ => ((G4 0 6 0) + (1 : Int32))))) fun G6 =>
(some (.inr ((G6 0 6 0), G6))))))
else
(some (.inl 3)))
else
(some (.inl 2))))


def fX4_clearBuffer (n : Nat) (G : St2) : Option (Int32 × St2) :=
(kk_nm (va_up G 0 (va_up (G 0) 6 (fun _ => (0 : Int32)))) fun G1 =>
(some ((G 0 6 0), G1)))


def fX4_firstError (n : Nat) (G : St2) : Option (Int32 × St2) :=
(Option.bind (fX4_readBuffer n G) fun (x1 : Int32 × St2) =>
(some (x1.1, x1.2)))


def fX4_floatAt (n : Nat) (G : St2) (v1 : Int32) (v2 : Int32) : Option (Nat ⊕ (Int32)) :=
(Option.bind (fX4_needFloat n G v1) fun (y1 : Nat ⊕ Unit) =>
(kk_tr y1 fun (x2 : Unit) =>
(if v2 < 0 then
(some (.inl 2))
else
(if v2 < (7 : Int32) then
(Option.bind (fX2_floatProperty n (G 1) v1 v2) fun (x5 : Int32) =>
(some (.inr x5)))
else
(some (.inl 2))))))


def fX4_trouble (n : Nat) (G : St2) (v1 : Int32) (v2 : Int32) : Option (Nat ⊕ (Int32)) :=
(Option.bind (fX4_needFloat n G v1) fun (y1 : Nat ⊕ Unit) =>
(kk_tr y1 fun (x2 : Unit) =>
(if v2 < 0 then
(some (.inl 2))
else
(if v2 < (3 : Int32) then
(Option.bind (fX2_troubleBy n (G 1) v1 v2) fun (x5 : Int32) =>
(some (.inr x5)))
else
(some (.inl 2))))))


def fX4_comes (n : Nat) (G : St2) (v1 : Int32) (v2 : Int32) : Option (Nat ⊕ (Int32 × St2)) :=
(Option.bind (fX4_needFloat n G v1) fun (y1 : Nat ⊕ Unit) =>
(kk_tr y1 fun (x2 : Unit) =>
(if v2 = (-1 : Int32) then
(Option.bind (fX2_travel n (G 1) v1) fun (x4 : St1) =>
(kk_nm (va_up G 1 x4) fun G5 =>
(if v2 = (-1 : Int32) then
(kk_ck (G5 1 5 0) 5 (some (.inr (((G5 1 9) (G5 1 5 0).toNatClampNeg), G5))))
else
(kk_ck v2 5 (some (.inr (((G5 1 9) v2.toNatClampNeg), G5)))))))
else
(Option.bind (fX4_needBridge n G v2) fun (y9 : Nat ⊕ Unit) =>
(kk_tr y9 fun (x10 : Unit) =>
(Option.bind (fX2_travel n (G 1) v1) fun (x11 : St1) =>
(kk_nm (va_up G 1 x11) fun G12 =>
(if v2 = (-1 : Int32) then
(kk_ck (G12 1 5 0) 5 (some (.inr (((G12 1 9) (G12 1 5 0).toNatClampNeg), G12))))
else
(kk_ck v2 5 (some (.inr (((G12 1 9) v2.toNatClampNeg), G12))))))))))))


def fX4_bridgeOf (n : Nat) (G : St2) (v1 : Int32) (v2 : Int32) : Option (Nat ⊕ (Int32)) :=
(Option.bind (fX4_needBridge n G v1) fun (y1 : Nat ⊕ Unit) =>
(kk_tr y1 fun (x2 : Unit) =>
(if v2 < 0 then
(some (.inl 2))
else
(if v2 < (3 : Int32) then
(Option.bind (fX2_bridgeProperty n (G 1) v1 v2) fun (x5 : Int32) =>
(some (.inr x5)))
else
(some (.inl 2))))))


def fX4_setting (n : Nat) (G : St2) (v1 : Int32) : Option (Nat ⊕ (Int32)) :=
(Option.bind (fX4_needSetting n v1) fun (y1 : Nat ⊕ Unit) =>
(kk_tr y1 fun (x2 : Unit) =>
(kk_ck v1 4 (some (.inr ((G 1 8) v1.toNatClampNeg))))))


def fX4_ifMoved (n : Nat) (G : St2) (v1 : Int32) (v2 : Int32) (v3 : Int32) : Option (Nat ⊕ (Int32 × St2)) :=
(Option.bind (fX4_needFloat n G v1) fun (y1 : Nat ⊕ Unit) =>
(kk_tr y1 fun (x2 : Unit) =>
(Option.bind (fX4_needFloat n G v2) fun (y3 : Nat ⊕ Unit) =>
(kk_tr y3 fun (x4 : Unit) =>
(if v3 < 0 then
(some (.inl 2))
else
(if v3 ≤ (1 : Int32) then
(Option.bind (fX2_copyFrom n (G 2) (G 1)) fun (x7 : St1) =>
(kk_nm (va_up G 2 x7) fun G8 =>
(Option.bind (fX2_shift n (G8 2) v1 v2) fun (x9 : St1) =>
(kk_nm (va_up G8 2 x9) fun G10 =>
(if v3 = 0 then
(Option.bind (fX2_allTrouble n (G10 2)) fun (x14 : Int32) =>
(some (.inr (x14, G10))))
else
(Option.bind (fX2_end n (G10 2)) fun (x12 : Int32 × St1) =>
(kk_nm (va_up G10 2 x12.2) fun G13 =>
(some (.inr (x12.1, G13))))))))))
else
(some (.inl 2))))))))


def fX4_bestPlace (n : Nat) (G : St2) (v1 : Int32) : Option (Nat ⊕ (Int32 × St2)) :=
(Option.bind (fX4_needFloat n G v1) fun (y1 : Nat ⊕ Unit) =>
(kk_tr y1 fun (x2 : Unit) =>
(Option.bind (fX4_placeOfLeast n G v1) fun (x3 : Int32 × St2) =>
(some (.inr (x3.1, x3.2))))))

def fX4_bestFold_b17 (n : Nat)  (u20 : Int32) (u21 : Int32) (u22 : Int32) (G23 : St2) : Option ((Int32 × Int32 × Int32 × St2) ⊕ (Int32 × St2)) :=
(if (G23 2 0 0) ≤ u22 then
(some (.inr (u20, G23)))
else
(kk_ck u22 12 (if ((G23 2 4) u22.toNatClampNeg) = 0 then
(kk_ck u22 12 (kk_cb (1 : Int32) (kk_nm (va_up G23 2 (va_up (G23 2) 4 (upd (G23 2 4) u22.toNatClampNeg (1 : Int32)))) fun G29 =>
(Option.bind (fX2_end n (G29 2)) fun (x31 : Int32 × St1) =>
(kk_nm (va_up G29 2 x31.2) fun G32 =>
(kk_ck u22 12 (kk_cb (0 : Int32) (kk_nm (va_up G32 2 (va_up (G32 2) 4 (upd (G32 2 4) u22.toNatClampNeg (0 : Int32)))) fun G33 =>
(if u20 = (-1 : Int32) then
(some (.inl (u22, x31.1, (u22 + (1 : Int32)), G33)))
else
(if u21 ≤ x31.1 then
(some (.inl (u20, u21, (u22 + (1 : Int32)), G33)))
else
(some (.inl (u22, x31.1, (u22 + (1 : Int32)), G33)))))))))))))
else
(some (.inl (u20, u21, (u22 + (1 : Int32)), G23))))))
def fX4_bestFold (n : Nat) (G : St2) : Option (Int32 × St2) :=
(Option.bind (fX2_copyFrom n (G 2) (G 1)) fun (x1 : St1) =>
(kk_nm (va_up G 2 x1) fun G2 =>
(Option.bind (kk_it (fun (st : Int32 × Int32 × Int32 × St2) => fX4_bestFold_b17 n st.1 st.2.1 st.2.2.1 st.2.2.2) n ((-1 : Int32), (0 : Int32), (0 : Int32), G2)) fun (x25 : Int32 × St2) =>
(some (x25.1, x25.2)))))


def fX4_smoothness (n : Nat) (G : St2) : Option (UInt64) :=
(if 0 < (G 1 0 0) then
(Option.bind (fX2_troubledFloats n (G 1)) fun (x2 : Int32) =>
(kk_cn (FP.ddiv (FP.i2d ((G 1 0 0) - x2)) (FP.i2d (G 1 0 0))) (some (FP.ddiv (FP.i2d ((G 1 0 0) - x2)) (FP.i2d (G 1 0 0))))))
else
(some FP.dconst1))


def fX4_put (n : Nat) (G : St2) (V : St2) (v1 : Int32) (v2 : Int32) (v3 : Int32) (v4 : Int32) : Option (Nat ⊕ (Int32 × St2 × St2)) :=
(if v1 < 0 then
(some (.inl 1))
else
(if v1 ≤ (G 1 0 0) then
(Option.bind (fX4_isFloat n v2 v3 v4) fun (x3 : Int32) =>
(if x3 = 0 then
(some (.inl 2))
else
(if (G 1 0 0) < (12 : Int32) then
(Option.bind (fX1_save n V (G 1)) fun (x6 : St2) =>
(Option.bind (fX2_addLast n (G 1) v2 v3 v4) fun (x7 : St1) =>
(kk_nm (va_up G 1 x7) fun G8 =>
(Option.bind (fX2_shift n (G8 1) ((G8 1 0 0) - (1 : Int32)) v1) fun (x9 : St1) =>
(kk_nm (va_up G8 1 x9) fun G10 =>
(some (.inr ((G10 1 0 0), G10, x6))))))))
else
(some (.inl 3)))))
else
(some (.inl 1))))


def fX4_remove (n : Nat) (G : St2) (V : St2) (v1 : Int32) : Option (Nat ⊕ (Int32 × St2 × St2)) :=
(Option.bind (fX4_needFloat n G v1) fun (y1 : Nat ⊕ Unit) =>
(kk_tr y1 fun (x2 : Unit) =>
(Option.bind (fX1_save n V (G 1)) fun (x3 : St2) =>
(Option.bind (fX2_takeAway n (G 1) v1) fun (x4 : St1) =>
(kk_nm (va_up G 1 x4) fun G5 =>
(some (.inr ((G5 1 0 0), G5, x3))))))))


def fX4_move (n : Nat) (G : St2) (V : St2) (v1 : Int32) (v2 : Int32) : Option (Nat ⊕ (Int32 × St2 × St2)) :=
(Option.bind (fX4_needFloat n G v1) fun (y1 : Nat ⊕ Unit) =>
(kk_tr y1 fun (x2 : Unit) =>
(Option.bind (fX4_needFloat n G v2) fun (y3 : Nat ⊕ Unit) =>
(kk_tr y3 fun (x4 : Unit) =>
(Option.bind (fX1_save n V (G 1)) fun (x5 : St2) =>
(Option.bind (fX2_shift n (G 1) v1 v2) fun (x6 : St1) =>
(kk_nm (va_up G 1 x6) fun G7 =>
(Option.bind (fX2_allTrouble n (G7 1)) fun (x8 : Int32) =>
(some (.inr (x8, G7, x5)))))))))))


def fX4_exchange (n : Nat) (G : St2) (V : St2) (v1 : Int32) (v2 : Int32) : Option (Nat ⊕ (Int32 × St2 × St2)) :=
(Option.bind (fX4_needFloat n G v1) fun (y1 : Nat ⊕ Unit) =>
(kk_tr y1 fun (x2 : Unit) =>
(Option.bind (fX4_needFloat n G v2) fun (y3 : Nat ⊕ Unit) =>
(kk_tr y3 fun (x4 : Unit) =>
(Option.bind (fX1_save n V (G 1)) fun (x5 : St2) =>
(Option.bind (fX2_swap n (G 1) v1 v2) fun (x6 : St1) =>
(kk_nm (va_up G 1 x6) fun G7 =>
(Option.bind (fX2_allTrouble n (G7 1)) fun (x8 : Int32) =>
(some (.inr (x8, G7, x5)))))))))))


def fX4_fold (n : Nat) (G : St2) (V : St2) (v1 : Int32) (v2 : Int32) : Option (Nat ⊕ (Int32 × St2 × St2)) :=
(Option.bind (fX4_needFloat n G v1) fun (y1 : Nat ⊕ Unit) =>
(kk_tr y1 fun (x2 : Unit) =>
(Option.bind (fX1_save n V (G 1)) fun (x3 : St2) =>
(kk_ck v1 12 (kk_cb v2 (kk_nm (va_up G 1 (va_up (G 1) 4 (upd (G 1 4) v1.toNatClampNeg v2))) fun G4 =>
(Option.bind (fX2_countedHeight n (G4 1) v1) fun (x6 : Int32) =>
(some (.inr (x6, G4, x3))))))))))

def fX4_arrange_b13 (n : Nat)  (u8 : Int32) (G9 : St2) : Option ((Int32 × St2) ⊕ (Int32 × St2)) :=
(if (1000000 : Int32) ≤ u8 then
(some (.inr (u8, G9)))
else
(Option.bind (fX4_doBestExchange n G9) fun (x13 : Int32 × St2) =>
(if x13.1 = 0 then
(some (.inr (u8, x13.2)))
else
(some (.inl ((u8 + (1 : Int32)), x13.2))))))
def fX4_arrange (n : Nat) (G : St2) (V : St2) : Option (Int32 × St2 × St2) :=
(Option.bind (fX1_save n V (G 1)) fun (x1 : St2) =>
(Option.bind (kk_it (fun (st : Int32 × St2) => fX4_arrange_b13 n st.1 st.2) n ((0 : Int32), G)) fun (x11 : Int32 × St2) =>
(some (x11.1, x11.2, x1))))


def fX4_bridge (n : Nat) (G : St2) (V : St2) (v1 : Int32) (v2 : Int32) : Option (Nat ⊕ (Int32 × St2 × St2)) :=
(if v1 < (1 : Int32) then
(some (.inl 2))
else
(if (50 : Int32) < v1 then
(some (.inl 2))
else
(Option.bind (fX4_isHeight n v2) fun (x3 : Int32) =>
(if x3 = 0 then
(some (.inl 2))
else
(if (4 : Int32) ≤ (G 1 5 0) then
(some (.inl 3))
else
(Option.bind (fX2_hasBridgeAt n (G 1) v1) fun (x6 : Int32) =>
(if x6 = 0 then
(Option.bind (fX1_save n V (G 1)) fun (x8 : St2) =>
(Option.bind (fX2_build n (G 1) v1 v2) fun (x9 : Int32 × St1) =>
(kk_nm (va_up G 1 x9.2) fun G10 =>
(some (.inr (x9.1, G10, x8))))))
else
(some (.inl 3)))))))))


def fX4_unbridge (n : Nat) (G : St2) (V : St2) (v1 : Int32) : Option (Nat ⊕ (Int32 × St2 × St2)) :=
(Option.bind (fX4_needBridge n G v1) fun (y1 : Nat ⊕ Unit) =>
(kk_tr y1 fun (x2 : Unit) =>
(Option.bind (fX1_save n V (G 1)) fun (x3 : St2) =>
(kk_ck v1 4 (Option.bind (fX2_pullDown n (G 1) v1) fun (x5 : St1) =>
(kk_nm (va_up G 1 x5) fun G6 =>
(some (.inr (((G 1 6) v1.toNatClampNeg), G6, x3)))))))))


def fX4_set (n : Nat) (G : St2) (V : St2) (v1 : Int32) (v2 : Int32) : Option (Nat ⊕ (Int32 × St2 × St2)) :=
(Option.bind (fX4_needSetting n v1) fun (y1 : Nat ⊕ Unit) =>
(kk_tr y1 fun (x2 : Unit) =>
(kk_ck v1 4 (if v2 < (k_lo v1.toNatClampNeg) then
(some (.inl 2))
else
(kk_ck v1 4 (if v2 ≤ (k_hi v1.toNatClampNeg) then
(Option.bind (fX1_save n V (G 1)) fun (x9 : St2) =>
(kk_ck v1 4 (kk_ck v1 4 (kk_nm (va_up G 1 (va_up (G 1) 8 (upd (G 1 8) v1.toNatClampNeg v2))) fun G11 =>
(some (.inr (((G 1 8) v1.toNatClampNeg), G11, x9)))))))
else
(some (.inl 2))))))))


def fX4_putAll (n : Nat) (G : St2) (V : St2) : Option ((Nat × St2) ⊕ (Int32 × St2 × St2)) :=
(Option.bind (fX4_readBuffer n G) fun (x1 : Int32 × St2) =>
(if x1.1 < (x1.2 0 6 0) then
(some (.inl (2, x1.2)))
else
(Option.bind (fX3_isAfterPart n (x1.2 4)) fun (x3 : Int32) =>
(if x3 = 0 then
(some (.inl (2, x1.2)))
else
(Option.bind (fX4_partsInBuffer n x1.2) fun (x5 : Int32) =>
(if ((x1.2 1 0 0) + x5) ≤ (12 : Int32) then
(Option.bind (fX1_save n V (x1.2 1)) fun (x7 : St2) =>
(Option.bind (fX4_addParts n x1.2) fun (x8 : St2) =>
(kk_nm (va_up x8 0 (va_up (x8 0) 6 (fun _ => (0 : Int32)))) fun G9 =>
(some (.inr ((G9 1 0 0), G9, x7))))))
else
(some (.inl (3, x1.2)))))))))


def fX4_undo (n : Nat) (G : St2) (V : St2) : Option (Nat ⊕ (Int32 × St2 × St2)) :=
(if 0 < (V 0 0 0) then
(Option.bind (fX1_restoreLatest n V (G 1)) fun (x2 : St2 × St1) =>
(kk_nm (va_up G 1 x2.2) fun G3 =>
(some (.inr ((x2.1 0 0 0), G3, x2.1)))))
else
(some (.inl 3)))


def fX4_count (n : Nat) (G : St2) (V : St2) (v1 : Int32) : Option (Nat ⊕ (Int32 × St2)) :=
(if v1 < 0 then
(some (.inl 2))
else
(if v1 < (9 : Int32) then
(Option.bind (fX4_number n G V v1) fun (x3 : Int32 × St2) =>
(some (.inr (x3.1, x3.2))))
else
(some (.inl 2))))
