
def fX5_in (n : Nat) (v0 : Int32) (v1 : Int32) (v2 : Int32) : Option (Int32) :=
(if v0 < v1 then
(some (0 : Int32))
else
(if v2 < v0 then
(some (0 : Int32))
else
(some (1 : Int32))))


def fX5_isFloat (n : Nat) (M : St1) (v1 : Int32) : Option (Int32) :=
(Option.bind (fX5_in n v1 (0 : Int32) (((M 0) (4 : Int32).toNatClampNeg) - (1 : Int32))) fun (x1 : Int32) =>
(kk_cb x1 (some x1)))


def fX5_isBridge (n : Nat) (M : St1) (v1 : Int32) : Option (Int32) :=
(Option.bind (fX5_in n v1 (0 : Int32) (((M 0) (5 : Int32).toNatClampNeg) - (1 : Int32))) fun (x1 : Int32) =>
(kk_cb x1 (some x1)))


def fX5_of (n : Nat) (f : Nat → Int32) (v1 : Int32) (v2 : Int32) : Option (Int32) :=
(kk_ck (((14 : Int32) + ((4 : Int32) * v1)) + v2) 62 (some (f (((14 : Int32) + ((4 : Int32) * v1)) + v2).toNatClampNeg)))

def fX5_copies_b3 (n : Nat) (f : Nat → Int32) (kx : Nat) (ky : Nat) (v1 : Int32) (v3 : Int32) (u8 : Int32) (h9 : Nat → Int32) : Option ((Int32 × (Nat → Int32)) ⊕ ((Nat → Int32))) :=
(if (62 : Int32) ≤ u8 then
(some (.inr h9))
else
(kk_ck (v1 + u8) kx (kk_ck (v3 + u8) ky (kk_nm (upd h9 (v3 + u8).toNatClampNeg (f (v1 + u8).toNatClampNeg)) fun h14 =>
(some (.inl ((u8 + (1 : Int32)), h14)))))))
def fX5_copies (n : Nat) (kx : Nat) (ky : Nat) (f : Nat → Int32) (h : Nat → Int32) (v1 : Int32) (v3 : Int32) : Option ((Nat → Int32)) :=
(Option.bind (kk_it (fun (st : Int32 × (Nat → Int32)) => fX5_copies_b3 n f kx ky v1 v3 st.1 st.2) n ((0 : Int32), h)) fun (x11 : (Nat → Int32)) =>
(some x11))

def fX5_saves_b11 (n : Nat)  (u25 : Int32) (M26 : St1) : Option ((Int32 × St1) ⊕ (St1)) :=
(if (310 : Int32) ≤ u25 then
(some (.inr M26))
else
(kk_ck (u25 + (62 : Int32)) 372 (kk_ck u25 372 (kk_nm (va_up M26 2 (upd (M26 2) u25.toNatClampNeg ((M26 2) (u25 + (62 : Int32)).toNatClampNeg))) fun M31 =>
(some (.inl ((u25 + (1 : Int32)), M31)))))))
def fX5_saves (n : Nat) (M : St1) : Option (St1) :=
(Option.bind (if (M 3 0) = (6 : Int32) then
(Option.bind (kk_it (fun (st : Int32 × St1) => fX5_saves_b11 n st.1 st.2) n ((0 : Int32), M)) fun (x28 : St1) =>
(kk_nm (va_up x28 3 (fun _ => ((x28 3 0) - (1 : Int32)))) fun M33 =>
(some M33)))
else
(some M)) fun (x17 : St1) =>
(Option.bind (fX5_copies n 62 372 (x17 0) (x17 2) (0 : Int32) ((62 : Int32) * (x17 3 0))) fun (x34 : (Nat → Int32)) =>
(kk_nm (va_up x17 2 x34) fun M35 =>
(kk_nm (va_up M35 3 (fun _ => ((M35 3 0) + (1 : Int32)))) fun M36 =>
(some M36)))))


def fX5_fails (n : Nat) (M : St1) (v1 : Int32) : Option (Int32 × St1) :=
(kk_nm (va_up M 6 (fun _ => v1)) fun M1 =>
(some ((0 : Int32), M1)))


def fX5_thrown (n : Nat) (M : St1) : Option (Int32) :=
(some (M 6 0))


def fX5_undo (n : Nat) (M : St1) : Option (Int32 × St1) :=
(kk_nm (va_up M 6 (fun _ => (0 : Int32))) fun M1 =>
(if (M1 3 0) = 0 then
(Option.bind (fX5_fails n M1 (1 : Int32)) fun (x6 : Int32 × St1) =>
(some (x6.1, x6.2)))
else
(kk_nm (va_up M1 3 (fun _ => ((M1 3 0) - (1 : Int32)))) fun M3 =>
(Option.bind (fX5_copies n 372 62 (M3 2) (M3 0) ((62 : Int32) * (M3 3 0)) (0 : Int32)) fun (x4 : (Nat → Int32)) =>
(kk_nm (va_up M3 0 x4) fun M5 =>
(some ((M5 3 0), M5)))))))

def fX5_troubled_b116 (n : Nat) (f : Nat → Int32) (v1 : Int32) (x1 : Int32) (u12 : Int32) (u13 : Int32) : Option ((Int32 × Int32) ⊕ (Int32)) :=
(if v1 ≤ u13 then
(some (.inr u12))
else
(if x1 = (2 : Int32) then
(Option.bind (fX5_of n f u13 (0 : Int32)) fun (x18 : Int32) =>
(if x18 = (2 : Int32) then
(if (f (0 : Int32).toNatClampNeg) ≤ (v1 - u13) then
(some (.inl ((u12 + (0 : Int32)), (u13 + (1 : Int32)))))
else
(some (.inl ((u12 + (1 : Int32)), (u13 + (1 : Int32))))))
else
(some (.inl ((u12 + (0 : Int32)), (u13 + (1 : Int32)))))))
else
(some (.inr u12))))
def fX5_troubled (n : Nat) (f : Nat → Int32) (v1 : Int32) (v2 : Int32) : Option (Int32) :=
(Option.bind (fX5_of n f v1 (0 : Int32)) fun (x1 : Int32) =>
(if v2 = 0 then
(Option.bind (if v1 ≤ 0 then
(some (0 : Int32))
else
(Option.bind (fX5_of n f v1 (2 : Int32)) fun (x31 : Int32) =>
(Option.bind (fX5_of n f (v1 - (1 : Int32)) (0 : Int32)) fun (x32 : Int32) =>
(if ((x31 >>> (x32 &&& 31)) &&& (1 : Int32)) = (1 : Int32) then
(some (3 : Int32))
else
(some (0 : Int32)))))) fun (x29 : Int32) =>
(if v1 ≤ (1 : Int32) then
(some (x29 + (0 : Int32)))
else
(Option.bind (fX5_of n f v1 (2 : Int32)) fun (x35 : Int32) =>
(Option.bind (fX5_of n f (v1 - (2 : Int32)) (0 : Int32)) fun (x36 : Int32) =>
(if ((x35 >>> (x36 &&& 31)) &&& (1 : Int32)) = (1 : Int32) then
(some (x29 + (1 : Int32)))
else
(some (x29 + (0 : Int32))))))))
else
(if v2 = (2 : Int32) then
(if x1 = (3 : Int32) then
(if v1 ≤ 0 then
(some (0 : Int32))
else
(Option.bind (fX5_of n f (v1 - (1 : Int32)) (0 : Int32)) fun (x23 : Int32) =>
(if x23 = (3 : Int32) then
(some (2 : Int32))
else
(some (0 : Int32)))))
else
(some (0 : Int32)))
else
(Option.bind (kk_it (fun (st : Int32 × Int32) => fX5_troubled_b116 n f v1 x1 st.1 st.2) n ((0 : Int32), (0 : Int32))) fun (x15 : Int32) =>
(some x15)))))


def fX5_troubles (n : Nat) (f : Nat → Int32) (v1 : Int32) : Option (Int32) :=
(Option.bind (fX5_troubled n f v1 (0 : Int32)) fun (x1 : Int32) =>
(Option.bind (fX5_troubled n f v1 (1 : Int32)) fun (x2 : Int32) =>
(Option.bind (fX5_troubled n f v1 (2 : Int32)) fun (x3 : Int32) =>
(some ((x1 + x2) + x3)))))

def fX5_allTrouble_b4 (n : Nat) (f : Nat → Int32) (u6 : Int32) (u7 : Int32) : Option ((Int32 × Int32) ⊕ (Int32)) :=
(if (f (4 : Int32).toNatClampNeg) ≤ u7 then
(some (.inr u6))
else
(Option.bind (fX5_troubles n f u7) fun (x11 : Int32) =>
(some (.inl ((u6 + x11), (u7 + (1 : Int32)))))))
def fX5_allTrouble (n : Nat) (f : Nat → Int32) : Option (Int32) :=
(Option.bind (kk_it (fun (st : Int32 × Int32) => fX5_allTrouble_b4 n f st.1 st.2) n ((0 : Int32), (0 : Int32))) fun (x9 : Int32) =>
(some x9))


def fX5_high (n : Nat) (f : Nat → Int32) (v1 : Int32) : Option (Int32) :=
(Option.bind (fX5_of n f v1 (1 : Int32)) fun (x1 : Int32) =>
(Option.bind (fX5_of n f v1 (3 : Int32)) fun (x2 : Int32) =>
(if (10 : Int32) ≤ (x1 - ((20 : Int32) * x2)) then
(some (x1 - ((20 : Int32) * x2)))
else
(some (10 : Int32)))))


def fX5_isLowered (n : Nat) (f : Nat → Int32) (v1 : Int32) (v2 : Int32) : Option (Int32) :=
(Option.bind (fX5_high n f v1) fun (x1 : Int32) =>
(kk_ck (((6 : Int32) + ((2 : Int32) * v2)) + (1 : Int32)) 62 (if x1 ≤ (f (((6 : Int32) + ((2 : Int32) * v2)) + (1 : Int32)).toNatClampNeg) then
(some (0 : Int32))
else
(some (1 : Int32)))))

def fX5_goesN_b29 (n : Nat) (M : St1) (v2 : Int32) (u90 : Int32) (u137 : Int32) (u138 : Int32) (u139 : Int32) (M140 : St1) : Option ((Int32 × Int32 × Int32 × St1) ⊕ (St1)) :=
(if ((M 0) (5 : Int32).toNatClampNeg) < u139 then
(some (.inr M140))
else
(Option.bind (if u139 = ((M 0) (5 : Int32).toNatClampNeg) then
(some (60 : Int32))
else
(kk_ck ((6 : Int32) + ((2 : Int32) * u139)) 62 (some ((M140 0) ((6 : Int32) + ((2 : Int32) * u139)).toNatClampNeg)))) fun (x146 : Int32) =>
(Option.bind (if u90 = 0 then
(some (0 : Int32))
else
(kk_ck (((5 : Int32) * (u90 - (1 : Int32))) + u139) 60 (Option.bind (if ((M 0) (5 : Int32).toNatClampNeg) ≤ u139 then
(some (0 : Int32))
else
(Option.bind (fX5_isLowered n (M140 0) (u90 - (1 : Int32)) u139) fun (x166 : Int32) =>
(if x166 = 0 then
(some (0 : Int32))
else
(some v2)))) fun (x164 : Int32) =>
(some ((((M140 11) (((5 : Int32) * (u90 - (1 : Int32))) + u139).toNatClampNeg) + x164) + ((M140 0) (1 : Int32).toNatClampNeg)))))) fun (x158 : Int32) =>
(Option.bind (if x158 ≤ (u137 + ((x146 - u138) * ((M140 0) (2 : Int32).toNatClampNeg))) then
(some (u137 + ((x146 - u138) * ((M140 0) (2 : Int32).toNatClampNeg))))
else
(some x158)) fun (x169 : Int32) =>
(kk_ck (((5 : Int32) * u90) + u139) 60 (kk_nm (va_up M140 11 (upd (M140 11) (((5 : Int32) * u90) + u139).toNatClampNeg x169)) fun M171 =>
(kk_ck (((5 : Int32) * u90) + u139) 60 (Option.bind (if ((M 0) (5 : Int32).toNatClampNeg) ≤ u139 then
(some (0 : Int32))
else
(Option.bind (fX5_isLowered n (M171 0) u90 u139) fun (x179 : Int32) =>
(if x179 = 0 then
(some (0 : Int32))
else
(some v2)))) fun (x177 : Int32) =>
(some (.inl ((((M171 11) (((5 : Int32) * u90) + u139).toNatClampNeg) + x177), x146, (u139 + (1 : Int32)), M171)))))))))))
def fX5_goesN_b7 (n : Nat) (M : St1) (v2 : Int32) (u90 : Int32) (M91 : St1) : Option ((Int32 × St1) ⊕ (St1)) :=
(if ((M91 0) (4 : Int32).toNatClampNeg) ≤ u90 then
(some (.inr M91))
else
(Option.bind (kk_it (fun (st : Int32 × Int32 × Int32 × St1) => fX5_goesN_b29 n M v2 u90 st.1 st.2.1 st.2.2.1 st.2.2.2) n ((u90 * ((M91 0) (1 : Int32).toNatClampNeg)), (0 : Int32), (0 : Int32), M91)) fun (x142 : St1) =>
(some (.inl ((u90 + (1 : Int32)), x142)))))
def fX5_goesN (n : Nat) (M : St1) (v2 : Int32) : Option (Int32 × St1) :=
(Option.bind (kk_it (fun (st : Int32 × St1) => fX5_goesN_b7 n M v2 st.1 st.2) n ((0 : Int32), M)) fun (x93 : St1) =>
(if ((x93 0) (4 : Int32).toNatClampNeg) = 0 then
(some ((0 : Int32), x93))
else
(kk_ck (((5 : Int32) * (((x93 0) (4 : Int32).toNatClampNeg) - (1 : Int32))) + ((M 0) (5 : Int32).toNatClampNeg)) 60 (some (((x93 11) (((5 : Int32) * (((x93 0) (4 : Int32).toNatClampNeg) - (1 : Int32))) + ((M 0) (5 : Int32).toNatClampNeg)).toNatClampNeg), x93)))))

def fX5_goesT_b29 (n : Nat) (M : St1) (v2 : Int32) (u90 : Int32) (u137 : Int32) (u138 : Int32) (u139 : Int32) (M140 : St1) : Option ((Int32 × Int32 × Int32 × St1) ⊕ (St1)) :=
(if ((M 1) (5 : Int32).toNatClampNeg) < u139 then
(some (.inr M140))
else
(Option.bind (if u139 = ((M 1) (5 : Int32).toNatClampNeg) then
(some (60 : Int32))
else
(kk_ck ((6 : Int32) + ((2 : Int32) * u139)) 62 (some ((M140 1) ((6 : Int32) + ((2 : Int32) * u139)).toNatClampNeg)))) fun (x146 : Int32) =>
(Option.bind (if u90 = 0 then
(some (0 : Int32))
else
(kk_ck (((5 : Int32) * (u90 - (1 : Int32))) + u139) 60 (Option.bind (if ((M 1) (5 : Int32).toNatClampNeg) ≤ u139 then
(some (0 : Int32))
else
(Option.bind (fX5_isLowered n (M140 1) (u90 - (1 : Int32)) u139) fun (x166 : Int32) =>
(if x166 = 0 then
(some (0 : Int32))
else
(some v2)))) fun (x164 : Int32) =>
(some ((((M140 11) (((5 : Int32) * (u90 - (1 : Int32))) + u139).toNatClampNeg) + x164) + ((M140 1) (1 : Int32).toNatClampNeg)))))) fun (x158 : Int32) =>
(Option.bind (if x158 ≤ (u137 + ((x146 - u138) * ((M140 1) (2 : Int32).toNatClampNeg))) then
(some (u137 + ((x146 - u138) * ((M140 1) (2 : Int32).toNatClampNeg))))
else
(some x158)) fun (x169 : Int32) =>
(kk_ck (((5 : Int32) * u90) + u139) 60 (kk_nm (va_up M140 11 (upd (M140 11) (((5 : Int32) * u90) + u139).toNatClampNeg x169)) fun M171 =>
(kk_ck (((5 : Int32) * u90) + u139) 60 (Option.bind (if ((M 1) (5 : Int32).toNatClampNeg) ≤ u139 then
(some (0 : Int32))
else
(Option.bind (fX5_isLowered n (M171 1) u90 u139) fun (x179 : Int32) =>
(if x179 = 0 then
(some (0 : Int32))
else
(some v2)))) fun (x177 : Int32) =>
(some (.inl ((((M171 11) (((5 : Int32) * u90) + u139).toNatClampNeg) + x177), x146, (u139 + (1 : Int32)), M171)))))))))))
def fX5_goesT_b7 (n : Nat) (M : St1) (v2 : Int32) (u90 : Int32) (M91 : St1) : Option ((Int32 × St1) ⊕ (St1)) :=
(if ((M91 1) (4 : Int32).toNatClampNeg) ≤ u90 then
(some (.inr M91))
else
(Option.bind (kk_it (fun (st : Int32 × Int32 × Int32 × St1) => fX5_goesT_b29 n M v2 u90 st.1 st.2.1 st.2.2.1 st.2.2.2) n ((u90 * ((M91 1) (1 : Int32).toNatClampNeg)), (0 : Int32), (0 : Int32), M91)) fun (x142 : St1) =>
(some (.inl ((u90 + (1 : Int32)), x142)))))
def fX5_goesT (n : Nat) (M : St1) (v2 : Int32) : Option (Int32 × St1) :=
(Option.bind (kk_it (fun (st : Int32 × St1) => fX5_goesT_b7 n M v2 st.1 st.2) n ((0 : Int32), M)) fun (x93 : St1) =>
(if ((x93 1) (4 : Int32).toNatClampNeg) = 0 then
(some ((0 : Int32), x93))
else
(kk_ck (((5 : Int32) * (((x93 1) (4 : Int32).toNatClampNeg) - (1 : Int32))) + ((M 1) (5 : Int32).toNatClampNeg)) 60 (some (((x93 11) (((5 : Int32) * (((x93 1) (4 : Int32).toNatClampNeg) - (1 : Int32))) + ((M 1) (5 : Int32).toNatClampNeg)).toNatClampNeg), x93)))))


def fX5_endsN (n : Nat) (M : St1) : Option (Int32 × St1) :=
(Option.bind (fX5_goesN n M ((M 0) (3 : Int32).toNatClampNeg)) fun (x1 : Int32 × St1) =>
(some (x1.1, x1.2)))


def fX5_endsT (n : Nat) (M : St1) : Option (Int32 × St1) :=
(Option.bind (fX5_goesT n M ((M 1) (3 : Int32).toNatClampNeg)) fun (x1 : Int32 × St1) =>
(some (x1.1, x1.2)))

def fX5_puts_b12 (n : Nat) (v1 : Int32) (u7 : Int32) (f8 : Nat → Int32) : Option ((Int32 × (Nat → Int32)) ⊕ ((Nat → Int32))) :=
(if u7 < ((14 : Int32) + ((4 : Int32) * v1)) then
(some (.inr f8))
else
(kk_ck u7 62 (kk_ck (u7 + (4 : Int32)) 62 (kk_nm (upd f8 (u7 + (4 : Int32)).toNatClampNeg (f8 u7.toNatClampNeg)) fun f13 =>
(some (.inl ((u7 + (-1 : Int32)), f13)))))))
def fX5_puts (n : Nat) (f : Nat → Int32) (v1 : Int32) (v2 : Int32) (v3 : Int32) (v4 : Int32) (v5 : Int32) : Option ((Nat → Int32)) :=
(Option.bind (kk_it (fun (st : Int32 × (Nat → Int32)) => fX5_puts_b12 n v1 st.1 st.2) n ((((14 : Int32) + ((4 : Int32) * (f (4 : Int32).toNatClampNeg))) - (1 : Int32)), f)) fun (x10 : (Nat → Int32)) =>
(kk_ck ((14 : Int32) + ((4 : Int32) * v1)) 62 (kk_nm (upd x10 ((14 : Int32) + ((4 : Int32) * v1)).toNatClampNeg v2) fun f15 =>
(kk_ck (((14 : Int32) + ((4 : Int32) * v1)) + (1 : Int32)) 62 (kk_nm (upd f15 (((14 : Int32) + ((4 : Int32) * v1)) + (1 : Int32)).toNatClampNeg v3) fun f17 =>
(kk_ck (((14 : Int32) + ((4 : Int32) * v1)) + (2 : Int32)) 62 (kk_nm (upd f17 (((14 : Int32) + ((4 : Int32) * v1)) + (2 : Int32)).toNatClampNeg v4) fun f19 =>
(kk_ck (((14 : Int32) + ((4 : Int32) * v1)) + (3 : Int32)) 62 (kk_nm (upd f19 (((14 : Int32) + ((4 : Int32) * v1)) + (3 : Int32)).toNatClampNeg v5) fun f21 =>
(kk_nm (upd f21 (4 : Int32).toNatClampNeg ((f21 (4 : Int32).toNatClampNeg) + (1 : Int32))) fun f23 =>
(some f23)))))))))))

def fX5_goesOut_b14 (n : Nat)  (u8 : Int32) (f9 : Nat → Int32) : Option ((Int32 × (Nat → Int32)) ⊕ ((Nat → Int32))) :=
(if ((14 : Int32) + ((4 : Int32) * (f9 (4 : Int32).toNatClampNeg))) ≤ u8 then
(some (.inr f9))
else
(kk_ck (u8 + (4 : Int32)) 62 (kk_ck u8 62 (kk_nm (upd f9 u8.toNatClampNeg (f9 (u8 + (4 : Int32)).toNatClampNeg)) fun f14 =>
(some (.inl ((u8 + (1 : Int32)), f14)))))))
def fX5_goesOut (n : Nat) (f : Nat → Int32) (v1 : Int32) : Option ((Nat → Int32)) :=
(kk_nm (upd f (4 : Int32).toNatClampNeg ((f (4 : Int32).toNatClampNeg) - (1 : Int32))) fun f1 =>
(Option.bind (kk_it (fun (st : Int32 × (Nat → Int32)) => fX5_goesOut_b14 n st.1 st.2) n (((14 : Int32) + ((4 : Int32) * v1)), f1)) fun (x11 : (Nat → Int32)) =>
(some x11)))


def fX5_moves (n : Nat) (f : Nat → Int32) (v1 : Int32) (v2 : Int32) : Option ((Nat → Int32)) :=
(Option.bind (fX5_of n f v1 (0 : Int32)) fun (x1 : Int32) =>
(Option.bind (fX5_of n f v1 (1 : Int32)) fun (x2 : Int32) =>
(Option.bind (fX5_of n f v1 (2 : Int32)) fun (x3 : Int32) =>
(Option.bind (fX5_of n f v1 (3 : Int32)) fun (x4 : Int32) =>
(Option.bind (fX5_goesOut n f v1) fun (x5 : (Nat → Int32)) =>
(Option.bind (fX5_puts n x5 v2 x1 x2 x3 x4) fun (x6 : (Nat → Int32)) =>
(some x6)))))))

def fX5_exchanges_b2 (n : Nat) (v1 : Int32) (v2 : Int32) (u10 : Int32) (f11 : Nat → Int32) : Option ((Int32 × (Nat → Int32)) ⊕ ((Nat → Int32))) :=
(if (4 : Int32) ≤ u10 then
(some (.inr f11))
else
(Option.bind (fX5_of n f11 v1 u10) fun (x15 : Int32) =>
(Option.bind (fX5_of n f11 v2 u10) fun (x16 : Int32) =>
(kk_ck (((14 : Int32) + ((4 : Int32) * v1)) + u10) 62 (kk_nm (upd f11 (((14 : Int32) + ((4 : Int32) * v1)) + u10).toNatClampNeg x16) fun f17 =>
(kk_ck (((14 : Int32) + ((4 : Int32) * v2)) + u10) 62 (kk_nm (upd f17 (((14 : Int32) + ((4 : Int32) * v2)) + u10).toNatClampNeg x15) fun f19 =>
(some (.inl ((u10 + (1 : Int32)), f19))))))))))
def fX5_exchanges (n : Nat) (f : Nat → Int32) (v1 : Int32) (v2 : Int32) : Option ((Nat → Int32)) :=
(Option.bind (kk_it (fun (st : Int32 × (Nat → Int32)) => fX5_exchanges_b2 n v1 v2 st.1 st.2) n ((0 : Int32), f)) fun (x13 : (Nat → Int32)) =>
(some x13))

def fX5_bestExchange_b22 (n : Nat)  (u34 : Int32) (u35 : Int32) (u36 : Int32) (u37 : Int32) (M38 : St1) : Option ((Int32 × Int32 × Int32 × Int32 × St1) ⊕ (Int32 × St1)) :=
(if (144 : Int32) ≤ u37 then
(some (.inr (u34, M38)))
else
(if (u37 - u37 / (12 : Int32) * (12 : Int32)) ≤ (u37 / (12 : Int32)) then
(some (.inl (u34, u35, u36, (u37 + (1 : Int32)), M38)))
else
(if ((M38 0) (4 : Int32).toNatClampNeg) ≤ (u37 - u37 / (12 : Int32) * (12 : Int32)) then
(some (.inl (u34, u35, u36, (u37 + (1 : Int32)), M38)))
else
(Option.bind (fX5_copies n 62 62 (M38 0) (M38 1) (0 : Int32) (0 : Int32)) fun (x44 : (Nat → Int32)) =>
(kk_nm (va_up M38 1 x44) fun M45 =>
(Option.bind (fX5_exchanges n (M45 1) (u37 / (12 : Int32)) (u37 - u37 / (12 : Int32) * (12 : Int32))) fun (x46 : (Nat → Int32)) =>
(kk_nm (va_up M45 1 x46) fun M47 =>
(Option.bind (fX5_allTrouble n (M47 1)) fun (x48 : Int32) =>
(Option.bind (if x48 < u35 then
(some ((1 : Int32), M47))
else
(if x48 = u35 then
(Option.bind (fX5_endsT n M47) fun (x56 : Int32 × St1) =>
(if u36 ≤ x56.1 then
(some ((0 : Int32), x56.2))
else
(some ((1 : Int32), x56.2))))
else
(some ((0 : Int32), M47)))) fun (x53 : Int32 × St1) =>
(Option.bind (if x53.1 = 0 then
(some u34)
else
(some (((16 : Int32) * (u37 / (12 : Int32))) + (u37 - u37 / (12 : Int32) * (12 : Int32))))) fun (x59 : Int32) =>
(Option.bind (if x53.1 = 0 then
(some (u36, x53.2))
else
(Option.bind (fX5_endsT n x53.2) fun (x65 : Int32 × St1) =>
(some (x65.1, x65.2)))) fun (x63 : Int32 × St1) =>
(if x53.1 = 0 then
(some (.inl (x59, u35, x63.1, (u37 + (1 : Int32)), x63.2)))
else
(some (.inl (x59, x48, x63.1, (u37 + (1 : Int32)), x63.2)))))))))))))))
def fX5_bestExchange (n : Nat) (M : St1) : Option (Int32 × St1) :=
(Option.bind (fX5_allTrouble n (M 0)) fun (x1 : Int32) =>
(Option.bind (fX5_endsN n M) fun (x2 : Int32 × St1) =>
(Option.bind (kk_it (fun (st : Int32 × Int32 × Int32 × Int32 × St1) => fX5_bestExchange_b22 n st.1 st.2.1 st.2.2.1 st.2.2.2.1 st.2.2.2.2) n ((-1 : Int32), x1, x2.1, (0 : Int32), x2.2)) fun (x40 : Int32 × St1) =>
(some (x40.1, x40.2)))))


def fX5_isKind (n : Nat) (v0 : Int32) (v1 : Int32) (v2 : Int32) : Option (Int32) :=
(Option.bind (fX5_in n v0 (0 : Int32) (3 : Int32)) fun (x1 : Int32) =>
(if x1 = 0 then
(some (0 : Int32))
else
(Option.bind (fX5_in n v1 (10 : Int32) (99 : Int32)) fun (x4 : Int32) =>
(if x4 = 0 then
(some (0 : Int32))
else
(Option.bind (if v0 = (1 : Int32) then
(some (15 : Int32))
else
(some (0 : Int32))) fun (x8 : Int32) =>
(Option.bind (fX5_in n v2 (0 : Int32) x8) fun (x10 : Int32) =>
(if x10 = 0 then
(some (0 : Int32))
else
(some (1 : Int32)))))))))


def fX5_put (n : Nat) (M : St1) (v1 : Int32) (v2 : Int32) (v3 : Int32) (v4 : Int32) : Option (Int32 × St1) :=
(kk_nm (va_up M 6 (fun _ => (0 : Int32))) fun M1 =>
(Option.bind (fX5_in n v1 (0 : Int32) ((M1 0) (4 : Int32).toNatClampNeg)) fun (x2 : Int32) =>
(if x2 = 0 then
(Option.bind (fX5_fails n M1 (1 : Int32)) fun (x12 : Int32 × St1) =>
(some (x12.1, x12.2)))
else
(Option.bind (fX5_isKind n v2 v3 v4) fun (x4 : Int32) =>
(if x4 = 0 then
(Option.bind (fX5_fails n M1 (2 : Int32)) fun (x11 : Int32 × St1) =>
(some (x11.1, x11.2)))
else
(if ((M1 0) (4 : Int32).toNatClampNeg) = (12 : Int32) then
(Option.bind (fX5_fails n M1 (3 : Int32)) fun (x10 : Int32 × St1) =>
(some (x10.1, x10.2)))
else
(Option.bind (fX5_saves n M1) fun (x7 : St1) =>
(Option.bind (fX5_puts n (x7 0) v1 v2 v3 v4 (0 : Int32)) fun (x8 : (Nat → Int32)) =>
(kk_nm (va_up x7 0 x8) fun M9 =>
(some (((M9 0) (4 : Int32).toNatClampNeg), M9)))))))))))


def fX5_remove (n : Nat) (M : St1) (v1 : Int32) : Option (Int32 × St1) :=
(kk_nm (va_up M 6 (fun _ => (0 : Int32))) fun M1 =>
(Option.bind (fX5_isFloat n M1 v1) fun (x2 : Int32) =>
(if x2 = 0 then
(Option.bind (fX5_fails n M1 (1 : Int32)) fun (x7 : Int32 × St1) =>
(some (x7.1, x7.2)))
else
(Option.bind (fX5_saves n M1) fun (x4 : St1) =>
(Option.bind (fX5_goesOut n (x4 0) v1) fun (x5 : (Nat → Int32)) =>
(kk_nm (va_up x4 0 x5) fun M6 =>
(some (((M6 0) (4 : Int32).toNatClampNeg), M6))))))))


def fX5_move (n : Nat) (M : St1) (v1 : Int32) (v2 : Int32) : Option (Int32 × St1) :=
(kk_nm (va_up M 6 (fun _ => (0 : Int32))) fun M1 =>
(Option.bind (fX5_isFloat n M1 v1) fun (x2 : Int32) =>
(if x2 = 0 then
(Option.bind (fX5_fails n M1 (1 : Int32)) fun (x4 : Int32 × St1) =>
(some (x4.1, x4.2)))
else
(Option.bind (fX5_isFloat n M1 v2) fun (x5 : Int32) =>
(if x5 = 0 then
(Option.bind (fX5_fails n M1 (1 : Int32)) fun (x11 : Int32 × St1) =>
(some (x11.1, x11.2)))
else
(Option.bind (fX5_saves n M1) fun (x7 : St1) =>
(Option.bind (fX5_moves n (x7 0) v1 v2) fun (x8 : (Nat → Int32)) =>
(kk_nm (va_up x7 0 x8) fun M9 =>
(Option.bind (fX5_allTrouble n (M9 0)) fun (x10 : Int32) =>
(some (x10, M9)))))))))))


def fX5_exchange (n : Nat) (M : St1) (v1 : Int32) (v2 : Int32) : Option (Int32 × St1) :=
(kk_nm (va_up M 6 (fun _ => (0 : Int32))) fun M1 =>
(Option.bind (fX5_isFloat n M1 v1) fun (x2 : Int32) =>
(if x2 = 0 then
(Option.bind (fX5_fails n M1 (1 : Int32)) fun (x4 : Int32 × St1) =>
(some (x4.1, x4.2)))
else
(Option.bind (fX5_isFloat n M1 v2) fun (x5 : Int32) =>
(if x5 = 0 then
(Option.bind (fX5_fails n M1 (1 : Int32)) fun (x11 : Int32 × St1) =>
(some (x11.1, x11.2)))
else
(Option.bind (fX5_saves n M1) fun (x7 : St1) =>
(Option.bind (fX5_exchanges n (x7 0) v1 v2) fun (x8 : (Nat → Int32)) =>
(kk_nm (va_up x7 0 x8) fun M9 =>
(Option.bind (fX5_allTrouble n (M9 0)) fun (x10 : Int32) =>
(some (x10, M9)))))))))))


def fX5_fold (n : Nat) (M : St1) (v1 : Int32) (v2 : Int32) : Option (Int32 × St1) :=
(kk_nm (va_up M 6 (fun _ => (0 : Int32))) fun M1 =>
(Option.bind (fX5_isFloat n M1 v1) fun (x2 : Int32) =>
(if x2 = 0 then
(Option.bind (fX5_fails n M1 (1 : Int32)) fun (x11 : Int32 × St1) =>
(some (x11.1, x11.2)))
else
(Option.bind (fX5_saves n M1) fun (x4 : St1) =>
(Option.bind (if v2 = 0 then
(some (0 : Int32))
else
(some (1 : Int32))) fun (x6 : Int32) =>
(kk_ck (((14 : Int32) + ((4 : Int32) * v1)) + (3 : Int32)) 62 (kk_nm (va_up x4 0 (upd (x4 0) (((14 : Int32) + ((4 : Int32) * v1)) + (3 : Int32)).toNatClampNeg x6)) fun M8 =>
(Option.bind (fX5_high n (M8 0) v1) fun (x10 : Int32) =>
(some (x10, M8))))))))))

def fX5_arrange_b16 (n : Nat)  (u11 : Int32) (u12 : Int32) (M13 : St1) : Option ((Int32 × Int32 × St1) ⊕ (Int32 × St1)) :=
(if u12 = (-1 : Int32) then
(some (.inr (u11, M13)))
else
(Option.bind (fX5_exchanges n (M13 0) (u12 / (16 : Int32)) (u12 - u12 / (16 : Int32) * (16 : Int32))) fun (x17 : (Nat → Int32)) =>
(kk_nm (va_up M13 0 x17) fun M18 =>
(Option.bind (fX5_bestExchange n M18) fun (x19 : Int32 × St1) =>
(some (.inl ((u11 + (1 : Int32)), x19.1, x19.2)))))))
def fX5_arrange (n : Nat) (M : St1) : Option (Int32 × St1) :=
(kk_nm (va_up M 6 (fun _ => (0 : Int32))) fun M1 =>
(Option.bind (fX5_saves n M1) fun (x2 : St1) =>
(Option.bind (fX5_bestExchange n x2) fun (x3 : Int32 × St1) =>
(Option.bind (kk_it (fun (st : Int32 × Int32 × St1) => fX5_arrange_b16 n st.1 st.2.1 st.2.2) n ((0 : Int32), x3.1, x3.2)) fun (x15 : Int32 × St1) =>
(some (x15.1, x15.2))))))

def fX5_isBridged_b4 (n : Nat) (M : St1) (v1 : Int32) (u8 : Int32) (u9 : Int32) : Option ((Int32 × Int32) ⊕ (Int32)) :=
(if ((M 0) (5 : Int32).toNatClampNeg) ≤ u9 then
(some (.inr u8))
else
(if u8 = 0 then
(kk_ck ((6 : Int32) + ((2 : Int32) * u9)) 62 (if ((M 0) ((6 : Int32) + ((2 : Int32) * u9)).toNatClampNeg) = v1 then
(some (.inl ((1 : Int32), (u9 + (1 : Int32)))))
else
(some (.inl ((0 : Int32), (u9 + (1 : Int32)))))))
else
(some (.inl ((1 : Int32), (u9 + (1 : Int32)))))))
def fX5_isBridged (n : Nat) (M : St1) (v1 : Int32) : Option (Int32) :=
(Option.bind (kk_it (fun (st : Int32 × Int32) => fX5_isBridged_b4 n M v1 st.1 st.2) n ((0 : Int32), (0 : Int32))) fun (x11 : Int32) =>
(kk_cb x11 (some x11)))

def fX5_bridge_b67 (n : Nat) (v1 : Int32) (u23 : Int32) (M24 : St1) : Option ((Int32 × St1) ⊕ (Int32 × St1)) :=
(if u23 ≤ 0 then
(some (.inr (u23, M24)))
else
(kk_ck (((6 : Int32) + ((2 : Int32) * u23)) - (2 : Int32)) 62 (if ((M24 0) (((6 : Int32) + ((2 : Int32) * u23)) - (2 : Int32)).toNatClampNeg) ≤ v1 then
(some (.inr (u23, M24)))
else
(kk_ck (((6 : Int32) + ((2 : Int32) * u23)) - (2 : Int32)) 62 (kk_ck ((6 : Int32) + ((2 : Int32) * u23)) 62 (kk_nm (va_up M24 0 (upd (M24 0) ((6 : Int32) + ((2 : Int32) * u23)).toNatClampNeg ((M24 0) (((6 : Int32) + ((2 : Int32) * u23)) - (2 : Int32)).toNatClampNeg))) fun M31 =>
(kk_ck (((6 : Int32) + ((2 : Int32) * u23)) - (1 : Int32)) 62 (kk_ck (((6 : Int32) + ((2 : Int32) * u23)) + (1 : Int32)) 62 (kk_nm (va_up M31 0 (upd (M31 0) (((6 : Int32) + ((2 : Int32) * u23)) + (1 : Int32)).toNatClampNeg ((M31 0) (((6 : Int32) + ((2 : Int32) * u23)) - (1 : Int32)).toNatClampNeg))) fun M34 =>
(some (.inl ((u23 + (-1 : Int32)), M34))))))))))))
def fX5_bridge (n : Nat) (M : St1) (v1 : Int32) (v2 : Int32) : Option (Int32 × St1) :=
(kk_nm (va_up M 6 (fun _ => (0 : Int32))) fun M1 =>
(Option.bind (fX5_in n v1 (1 : Int32) (50 : Int32)) fun (x2 : Int32) =>
(if x2 = 0 then
(Option.bind (fX5_fails n M1 (1 : Int32)) fun (x4 : Int32 × St1) =>
(some (x4.1, x4.2)))
else
(Option.bind (fX5_in n v2 (10 : Int32) (99 : Int32)) fun (x5 : Int32) =>
(if x5 = 0 then
(Option.bind (fX5_fails n M1 (1 : Int32)) fun (x42 : Int32 × St1) =>
(some (x42.1, x42.2)))
else
(if ((M1 0) (5 : Int32).toNatClampNeg) = (4 : Int32) then
(Option.bind (fX5_fails n M1 (2 : Int32)) fun (x8 : Int32 × St1) =>
(some (x8.1, x8.2)))
else
(Option.bind (fX5_isBridged n M1 v1) fun (x9 : Int32) =>
(if x9 = 0 then
(Option.bind (fX5_saves n M1) fun (x11 : St1) =>
(Option.bind (kk_it (fun (st : Int32 × St1) => fX5_bridge_b67 n v1 st.1 st.2) n (((x11 0) (5 : Int32).toNatClampNeg), x11)) fun (x26 : Int32 × St1) =>
(kk_ck ((6 : Int32) + ((2 : Int32) * x26.1)) 62 (kk_nm (va_up x26.2 0 (upd (x26.2 0) ((6 : Int32) + ((2 : Int32) * x26.1)).toNatClampNeg v1)) fun M36 =>
(kk_ck (((6 : Int32) + ((2 : Int32) * x26.1)) + (1 : Int32)) 62 (kk_nm (va_up M36 0 (upd (M36 0) (((6 : Int32) + ((2 : Int32) * x26.1)) + (1 : Int32)).toNatClampNeg v2)) fun M38 =>
(kk_nm (va_up M38 0 (upd (M38 0) (5 : Int32).toNatClampNeg (((M38 0) (5 : Int32).toNatClampNeg) + (1 : Int32)))) fun M40 =>
(some (x26.1, M40)))))))))
else
(Option.bind (fX5_fails n M1 (2 : Int32)) fun (x41 : Int32 × St1) =>
(some (x41.1, x41.2)))))))))))

def fX5_unbridge_b52 (n : Nat)  (u13 : Int32) (M14 : St1) : Option ((Int32 × St1) ⊕ (St1)) :=
(if ((6 : Int32) + ((2 : Int32) * ((M14 0) (5 : Int32).toNatClampNeg))) ≤ u13 then
(some (.inr M14))
else
(kk_ck (u13 + (2 : Int32)) 62 (kk_ck u13 62 (kk_nm (va_up M14 0 (upd (M14 0) u13.toNatClampNeg ((M14 0) (u13 + (2 : Int32)).toNatClampNeg))) fun M19 =>
(some (.inl ((u13 + (1 : Int32)), M19)))))))
def fX5_unbridge (n : Nat) (M : St1) (v1 : Int32) : Option (Int32 × St1) :=
(kk_nm (va_up M 6 (fun _ => (0 : Int32))) fun M1 =>
(Option.bind (fX5_isBridge n M1 v1) fun (x2 : Int32) =>
(if x2 = 0 then
(Option.bind (fX5_fails n M1 (1 : Int32)) fun (x21 : Int32 × St1) =>
(some (x21.1, x21.2)))
else
(Option.bind (fX5_saves n M1) fun (x4 : St1) =>
(kk_ck ((6 : Int32) + ((2 : Int32) * v1)) 62 (kk_nm (va_up x4 0 (upd (x4 0) (5 : Int32).toNatClampNeg (((x4 0) (5 : Int32).toNatClampNeg) - (1 : Int32)))) fun M6 =>
(Option.bind (kk_it (fun (st : Int32 × St1) => fX5_unbridge_b52 n st.1 st.2) n (((6 : Int32) + ((2 : Int32) * v1)), M6)) fun (x16 : St1) =>
(some (((x4 0) ((6 : Int32) + ((2 : Int32) * v1)).toNatClampNeg), x16)))))))))


def fX5_set (n : Nat) (M : St1) (v1 : Int32) (v2 : Int32) : Option (Int32 × St1) :=
(kk_nm (va_up M 6 (fun _ => (0 : Int32))) fun M1 =>
(Option.bind (fX5_in n v1 (0 : Int32) (3 : Int32)) fun (x2 : Int32) =>
(if x2 = 0 then
(Option.bind (fX5_fails n M1 (1 : Int32)) fun (x19 : Int32 × St1) =>
(some (x19.1, x19.2)))
else
(Option.bind (if v1 = (3 : Int32) then
(some (0 : Int32))
else
(some (1 : Int32))) fun (x5 : Int32) =>
(Option.bind (if v1 = 0 then
(some (6 : Int32))
else
(if v1 = (3 : Int32) then
(some (20 : Int32))
else
(some (9 : Int32)))) fun (x9 : Int32) =>
(Option.bind (fX5_in n v2 x5 x9) fun (x12 : Int32) =>
(if x12 = 0 then
(Option.bind (fX5_fails n M1 (2 : Int32)) fun (x18 : Int32 × St1) =>
(some (x18.1, x18.2)))
else
(Option.bind (fX5_saves n M1) fun (x14 : St1) =>
(kk_ck v1 62 (kk_ck v1 62 (kk_nm (va_up x14 0 (upd (x14 0) v1.toNatClampNeg v2)) fun M16 =>
(some (((x14 0) v1.toNatClampNeg), M16)))))))))))))


def fX5_append (n : Nat) (M : St1) (v1 : Int32) : Option (Int32 × St1) :=
(kk_nm (va_up M 6 (fun _ => (0 : Int32))) fun M1 =>
(Option.bind (fX5_in n v1 (33 : Int32) (126 : Int32)) fun (x2 : Int32) =>
(if x2 = 0 then
(Option.bind (fX5_fails n M1 (1 : Int32)) fun (x9 : Int32 × St1) =>
(some (x9.1, x9.2)))
else
(if (M1 5 0) = (60 : Int32) then
(Option.bind (fX5_fails n M1 (2 : Int32)) fun (x8 : Int32 × St1) =>
(some (x8.1, x8.2)))
else
(kk_ck (M1 5 0) 60 (kk_nm (va_up M1 4 (upd (M1 4) (M1 5 0).toNatClampNeg v1)) fun M5 =>
(kk_nm (va_up M5 5 (fun _ => ((M5 5 0) + (1 : Int32)))) fun M7 =>
(some ((M7 5 0), M7)))))))))


def fX5_clearBuffer (n : Nat) (M : St1) : Option (Int32 × St1) :=
(kk_nm (va_up M 6 (fun _ => (0 : Int32))) fun M1 =>
(kk_nm (va_up M1 5 (fun _ => (0 : Int32))) fun M2 =>
(some ((M1 5 0), M2))))


def fX5_isAt (n : Nat) (M : St1) (v1 : Int32) (v2 : Int32) : Option (Int32) :=
(if (M 5 0) ≤ (M 7 0) then
(some (0 : Int32))
else
(kk_ck (M 7 0) 60 (Option.bind (fX5_in n ((M 4) (M 7 0).toNatClampNeg) v1 v2) fun (x4 : Int32) =>
(if x4 = 0 then
(some (0 : Int32))
else
(some (1 : Int32))))))


def fX5_stops (n : Nat) (M : St1) : Option (Int32 × St1) :=
(Option.bind (if (M 5 0) ≤ (M 7 0) then
(some (0 : Int32))
else
(some (1 : Int32))) fun (x2 : Int32) =>
(kk_cb x2 (kk_nm (va_up M 8 (fun _ => x2)) fun M4 =>
(some ((0 : Int32), M4)))))


def fX5_kindAt (n : Nat) (M : St1) : Option (Int32) :=
(Option.bind (if (M 5 0) ≤ (M 7 0) then
(some (0 : Int32))
else
(kk_ck (M 7 0) 60 (some ((M 4) (M 7 0).toNatClampNeg)))) fun (x3 : Int32) =>
(if x3 = (99 : Int32) then
(some (0 : Int32))
else
(if x3 = (104 : Int32) then
(some (1 : Int32))
else
(if x3 = (98 : Int32) then
(some (2 : Int32))
else
(if x3 = (103 : Int32) then
(some (3 : Int32))
else
(some (-1 : Int32)))))))

def fX5_isMask_b2 (n : Nat)  (u10 : Int32) (M11 : St1) : Option ((Int32 × St1) ⊕ (Int32 × St1)) :=
(Option.bind (fX5_kindAt n M11) fun (x14 : Int32) =>
(if x14 ≤ u10 then
(some (.inr (u10, M11)))
else
(Option.bind (fX5_kindAt n M11) fun (x16 : Int32) =>
(kk_ck (((3 : Int32) * (M11 10 0)) + (2 : Int32)) 63 (kk_ck (((3 : Int32) * (M11 10 0)) + (2 : Int32)) 63 (kk_nm (va_up M11 9 (upd (M11 9) (((3 : Int32) * (M11 10 0)) + (2 : Int32)).toNatClampNeg (((M11 9) (((3 : Int32) * (M11 10 0)) + (2 : Int32)).toNatClampNeg) ||| ((1 : Int32) <<< (x16 &&& 31))))) fun M18 =>
(kk_nm (va_up M18 7 (fun _ => ((M18 7 0) + (1 : Int32)))) fun M20 =>
(some (.inl (x16, M20))))))))))
def fX5_isMask (n : Nat) (M : St1) : Option (Int32 × St1) :=
(Option.bind (kk_it (fun (st : Int32 × St1) => fX5_isMask_b2 n st.1 st.2) n ((-1 : Int32), M)) fun (x13 : Int32 × St1) =>
(if x13.1 = (-1 : Int32) then
(Option.bind (fX5_stops n x13.2) fun (x23 : Int32 × St1) =>
(if x23.1 = 0 then
(some ((0 : Int32), x23.2))
else
(some ((1 : Int32), x23.2))))
else
(some ((1 : Int32), x13.2))))


def fX5_isPart (n : Nat) (M : St1) : Option (Int32 × St1) :=
(Option.bind (fX5_kindAt n M) fun (x1 : Int32) =>
(if x1 = (-1 : Int32) then
(Option.bind (fX5_stops n M) fun (x30 : Int32 × St1) =>
(kk_cb x30.1 (some (x30.1, x30.2))))
else
(kk_nm (va_up M 7 (fun _ => ((M 7 0) + (1 : Int32)))) fun M3 =>
(Option.bind (fX5_isAt n M3 (49 : Int32) (57 : Int32)) fun (x4 : Int32) =>
(if x4 = 0 then
(Option.bind (fX5_stops n M3) fun (x28 : Int32 × St1) =>
(kk_cb x28.1 (some (x28.1, x28.2))))
else
(kk_ck (M3 7 0) 60 (kk_nm (va_up M3 7 (fun _ => ((M3 7 0) + (1 : Int32)))) fun M7 =>
(Option.bind (fX5_isAt n M7 (48 : Int32) (57 : Int32)) fun (x8 : Int32) =>
(if x8 = 0 then
(Option.bind (fX5_stops n M7) fun (x26 : Int32 × St1) =>
(kk_cb x26.1 (some (x26.1, x26.2))))
else
(kk_ck ((3 : Int32) * (M7 10 0)) 63 (kk_nm (va_up M7 9 (upd (M7 9) ((3 : Int32) * (M7 10 0)).toNatClampNeg x1)) fun M10 =>
(kk_ck (M10 7 0) 60 (kk_ck (((3 : Int32) * (M10 10 0)) + (1 : Int32)) 63 (kk_nm (va_up M10 9 (upd (M10 9) (((3 : Int32) * (M10 10 0)) + (1 : Int32)).toNatClampNeg ((((10 : Int32) * (((M3 4) (M3 7 0).toNatClampNeg) - (48 : Int32))) + ((M10 4) (M10 7 0).toNatClampNeg)) - (48 : Int32)))) fun M13 =>
(kk_ck (((3 : Int32) * (M13 10 0)) + (2 : Int32)) 63 (kk_nm (va_up M13 9 (upd (M13 9) (((3 : Int32) * (M13 10 0)) + (2 : Int32)).toNatClampNeg (0 : Int32))) fun M15 =>
(kk_nm (va_up M15 7 (fun _ => ((M15 7 0) + (1 : Int32)))) fun M17 =>
(if x1 = (1 : Int32) then
(Option.bind (fX5_isAt n M17 (33 : Int32) (33 : Int32)) fun (x20 : Int32) =>
(if x20 = 0 then
(some ((1 : Int32), M17))
else
(kk_nm (va_up M17 7 (fun _ => ((M17 7 0) + (1 : Int32)))) fun M22 =>
(Option.bind (fX5_isMask n M22) fun (x23 : Int32 × St1) =>
(kk_cb x23.1 (some (x23.1, x23.2)))))))
else
(some ((1 : Int32), M17))))))))))))))))))))

def fX5_isText_b17 (n : Nat)  (u16 : Int32) (M17 : St1) : Option ((Int32 × St1) ⊕ (Int32 × St1)) :=
(if u16 = 0 then
(Option.bind (if (M17 5 0) ≤ (M17 7 0) then
(some (0 : Int32))
else
(some (1 : Int32))) fun (x21 : Int32) =>
(kk_cb x21 (kk_nm (va_up M17 8 (fun _ => x21)) fun M23 =>
(if (M23 7 0) = (M23 5 0) then
(some (.inr ((1 : Int32), M23)))
else
(some (.inr ((0 : Int32), M23)))))))
else
(Option.bind (fX5_isPart n M17) fun (x28 : Int32 × St1) =>
(if x28.1 = 0 then
(some (.inr ((0 : Int32), x28.2)))
else
(kk_nm (va_up x28.2 10 (fun _ => ((x28.2 10 0) + (1 : Int32)))) fun M30 =>
(Option.bind (fX5_isAt n M30 (59 : Int32) (59 : Int32)) fun (x31 : Int32) =>
(Option.bind (if x31 = 0 then
(some (0 : Int32))
else
(some (1 : Int32))) fun (x33 : Int32) =>
(kk_nm (va_up M30 7 (fun _ => ((M30 7 0) + x33))) fun M35 =>
(some (.inl (x31, M35))))))))))
def fX5_isText (n : Nat) (M : St1) : Option (Int32 × St1) :=
(kk_nm (va_up M 7 (fun _ => (0 : Int32))) fun M1 =>
(kk_nm (va_up M1 10 (fun _ => (0 : Int32))) fun M2 =>
(kk_cb (0 : Int32) (kk_nm (va_up M2 8 (fun _ => (0 : Int32))) fun M3 =>
(kk_it (fun (st : Int32 × St1) => fX5_isText_b17 n st.1 st.2) n ((1 : Int32), M3))))))


def fX5_firstError (n : Nat) (M : St1) : Option (Int32 × St1) :=
(kk_nm (va_up M 6 (fun _ => (0 : Int32))) fun M1 =>
(Option.bind (fX5_isText n M1) fun (x2 : Int32 × St1) =>
(if x2.1 = 0 then
(if (x2.2 8 0) = 0 then
(some ((x2.2 5 0), x2.2))
else
(some ((x2.2 7 0), x2.2)))
else
(some ((x2.2 5 0), x2.2)))))

def fX5_putAll_b51 (n : Nat)  (u15 : Int32) (M16 : St1) : Option ((Int32 × St1) ⊕ (St1)) :=
(if (M16 10 0) ≤ u15 then
(some (.inr M16))
else
(kk_ck ((3 : Int32) * u15) 63 (kk_ck (((3 : Int32) * u15) + (1 : Int32)) 63 (kk_ck (((3 : Int32) * u15) + (2 : Int32)) 63 (Option.bind (fX5_puts n (M16 0) ((M16 0) (4 : Int32).toNatClampNeg) ((M16 9) ((3 : Int32) * u15).toNatClampNeg) ((M16 9) (((3 : Int32) * u15) + (1 : Int32)).toNatClampNeg) ((M16 9) (((3 : Int32) * u15) + (2 : Int32)).toNatClampNeg) (0 : Int32)) fun (x23 : (Nat → Int32)) =>
(kk_nm (va_up M16 0 x23) fun M24 =>
(some (.inl ((u15 + (1 : Int32)), M24)))))))))
def fX5_putAll (n : Nat) (M : St1) : Option (Int32 × St1) :=
(kk_nm (va_up M 6 (fun _ => (0 : Int32))) fun M1 =>
(Option.bind (fX5_isText n M1) fun (x2 : Int32 × St1) =>
(if x2.1 = 0 then
(Option.bind (fX5_fails n x2.2 (1 : Int32)) fun (x26 : Int32 × St1) =>
(some (x26.1, x26.2)))
else
(if (((x2.2 0) (4 : Int32).toNatClampNeg) + (x2.2 10 0)) ≤ (12 : Int32) then
(Option.bind (fX5_saves n x2.2) fun (x5 : St1) =>
(kk_nm (va_up x5 5 (fun _ => (0 : Int32))) fun M6 =>
(Option.bind (kk_it (fun (st : Int32 × St1) => fX5_putAll_b51 n st.1 st.2) n ((0 : Int32), M6)) fun (x18 : St1) =>
(some (((x18 0) (4 : Int32).toNatClampNeg), x18)))))
else
(Option.bind (fX5_fails n x2.2 (2 : Int32)) fun (x25 : Int32 × St1) =>
(some (x25.1, x25.2)))))))

def fX5_bridgesOf_b4 (n : Nat) (M : St1) (v1 : Int32) (u7 : Int32) (u8 : Int32) : Option ((Int32 × Int32) ⊕ (Int32)) :=
(if ((M 0) (5 : Int32).toNatClampNeg) ≤ u8 then
(some (.inr u7))
else
(Option.bind (fX5_isLowered n (M 0) v1 u8) fun (x12 : Int32) =>
(if x12 = 0 then
(some (.inl ((u7 + (0 : Int32)), (u8 + (1 : Int32)))))
else
(some (.inl ((u7 + (1 : Int32)), (u8 + (1 : Int32))))))))
def fX5_bridgesOf (n : Nat) (M : St1) (v1 : Int32) : Option (Int32) :=
(Option.bind (kk_it (fun (st : Int32 × Int32) => fX5_bridgesOf_b4 n M v1 st.1 st.2) n ((0 : Int32), (0 : Int32))) fun (x10 : Int32) =>
(some x10))


def fX5_ofFloat (n : Nat) (M : St1) (v1 : Int32) (v2 : Int32) : Option (Int32) :=
(if (4 : Int32) ≤ v2 then
(if v2 = (4 : Int32) then
(Option.bind (fX5_high n (M 0) v1) fun (x6 : Int32) =>
(some x6))
else
(if v2 = (5 : Int32) then
(Option.bind (fX5_bridgesOf n M v1) fun (x5 : Int32) =>
(some x5))
else
(Option.bind (fX5_troubles n (M 0) v1) fun (x4 : Int32) =>
(some x4))))
else
(Option.bind (fX5_of n (M 0) v1 v2) fun (x7 : Int32) =>
(some x7)))


def fX5_floatAt (n : Nat) (M : St1) (v1 : Int32) (v2 : Int32) : Option (Int32 × St1) :=
(kk_nm (va_up M 6 (fun _ => (0 : Int32))) fun M1 =>
(Option.bind (fX5_isFloat n M1 v1) fun (x2 : Int32) =>
(if x2 = 0 then
(Option.bind (fX5_fails n M1 (1 : Int32)) fun (x8 : Int32 × St1) =>
(some (x8.1, x8.2)))
else
(Option.bind (fX5_in n v2 (0 : Int32) (6 : Int32)) fun (x4 : Int32) =>
(if x4 = 0 then
(Option.bind (fX5_fails n M1 (2 : Int32)) fun (x6 : Int32 × St1) =>
(some (x6.1, x6.2)))
else
(Option.bind (fX5_ofFloat n M1 v1 v2) fun (x7 : Int32) =>
(some (x7, M1))))))))


def fX5_trouble (n : Nat) (M : St1) (v1 : Int32) (v2 : Int32) : Option (Int32 × St1) :=
(kk_nm (va_up M 6 (fun _ => (0 : Int32))) fun M1 =>
(Option.bind (fX5_isFloat n M1 v1) fun (x2 : Int32) =>
(if x2 = 0 then
(Option.bind (fX5_fails n M1 (1 : Int32)) fun (x8 : Int32 × St1) =>
(some (x8.1, x8.2)))
else
(Option.bind (fX5_in n v2 (0 : Int32) (2 : Int32)) fun (x4 : Int32) =>
(if x4 = 0 then
(Option.bind (fX5_fails n M1 (2 : Int32)) fun (x6 : Int32 × St1) =>
(some (x6.1, x6.2)))
else
(Option.bind (fX5_troubled n (M1 0) v1 v2) fun (x7 : Int32) =>
(some (x7, M1))))))))


def fX5_comes (n : Nat) (M : St1) (v1 : Int32) (v2 : Int32) : Option (Int32 × St1) :=
(kk_nm (va_up M 6 (fun _ => (0 : Int32))) fun M1 =>
(Option.bind (fX5_isFloat n M1 v1) fun (x2 : Int32) =>
(if x2 = 0 then
(Option.bind (fX5_fails n M1 (1 : Int32)) fun (x4 : Int32 × St1) =>
(some (x4.1, x4.2)))
else
(if v2 = (-1 : Int32) then
(Option.bind (fX5_endsN n M1) fun (x6 : Int32 × St1) =>
(if v2 = (-1 : Int32) then
(kk_ck (((5 : Int32) * v1) + ((x6.2 0) (5 : Int32).toNatClampNeg)) 60 (some (((x6.2 11) (((5 : Int32) * v1) + ((x6.2 0) (5 : Int32).toNatClampNeg)).toNatClampNeg), x6.2)))
else
(kk_ck (((5 : Int32) * v1) + v2) 60 (some (((x6.2 11) (((5 : Int32) * v1) + v2).toNatClampNeg), x6.2)))))
else
(Option.bind (fX5_isBridge n M1 v2) fun (x10 : Int32) =>
(if x10 = 0 then
(Option.bind (fX5_fails n M1 (1 : Int32)) fun (x16 : Int32 × St1) =>
(some (x16.1, x16.2)))
else
(Option.bind (fX5_endsN n M1) fun (x12 : Int32 × St1) =>
(if v2 = (-1 : Int32) then
(kk_ck (((5 : Int32) * v1) + ((x12.2 0) (5 : Int32).toNatClampNeg)) 60 (some (((x12.2 11) (((5 : Int32) * v1) + ((x12.2 0) (5 : Int32).toNatClampNeg)).toNatClampNeg), x12.2)))
else
(kk_ck (((5 : Int32) * v1) + v2) 60 (some (((x12.2 11) (((5 : Int32) * v1) + v2).toNatClampNeg), x12.2)))))))))))

def fX5_loweredAt_b4 (n : Nat) (M : St1) (v1 : Int32) (u7 : Int32) (u8 : Int32) : Option ((Int32 × Int32) ⊕ (Int32)) :=
(if ((M 0) (4 : Int32).toNatClampNeg) ≤ u8 then
(some (.inr u7))
else
(Option.bind (fX5_isLowered n (M 0) u8 v1) fun (x12 : Int32) =>
(if x12 = 0 then
(some (.inl ((u7 + (0 : Int32)), (u8 + (1 : Int32)))))
else
(some (.inl ((u7 + (1 : Int32)), (u8 + (1 : Int32))))))))
def fX5_loweredAt (n : Nat) (M : St1) (v1 : Int32) : Option (Int32) :=
(Option.bind (kk_it (fun (st : Int32 × Int32) => fX5_loweredAt_b4 n M v1 st.1 st.2) n ((0 : Int32), (0 : Int32))) fun (x10 : Int32) =>
(some x10))


def fX5_ofBridge (n : Nat) (M : St1) (v1 : Int32) (v2 : Int32) : Option (Int32) :=
(if (2 : Int32) ≤ v2 then
(Option.bind (fX5_loweredAt n M v1) fun (x2 : Int32) =>
(some x2))
else
(kk_ck (((6 : Int32) + ((2 : Int32) * v1)) + v2) 62 (some ((M 0) (((6 : Int32) + ((2 : Int32) * v1)) + v2).toNatClampNeg))))


def fX5_bridgeOf (n : Nat) (M : St1) (v1 : Int32) (v2 : Int32) : Option (Int32 × St1) :=
(kk_nm (va_up M 6 (fun _ => (0 : Int32))) fun M1 =>
(Option.bind (fX5_isBridge n M1 v1) fun (x2 : Int32) =>
(if x2 = 0 then
(Option.bind (fX5_fails n M1 (1 : Int32)) fun (x8 : Int32 × St1) =>
(some (x8.1, x8.2)))
else
(Option.bind (fX5_in n v2 (0 : Int32) (2 : Int32)) fun (x4 : Int32) =>
(if x4 = 0 then
(Option.bind (fX5_fails n M1 (2 : Int32)) fun (x6 : Int32 × St1) =>
(some (x6.1, x6.2)))
else
(Option.bind (fX5_ofBridge n M1 v1 v2) fun (x7 : Int32) =>
(some (x7, M1))))))))

def fX5_overFloats_b4 (n : Nat) (M : St1) (v1 : Int32) (u28 : Int32) (u29 : Int32) : Option ((Int32 × Int32) ⊕ (Int32)) :=
(if ((M 0) (4 : Int32).toNatClampNeg) ≤ u29 then
(some (.inr u28))
else
(Option.bind (if v1 = (4 : Int32) then
(Option.bind (fX5_bridgesOf n M u29) fun (x47 : Int32) =>
(if 0 < x47 then
(some (1 : Int32))
else
(if v1 = (5 : Int32) then
(Option.bind (fX5_troubles n (M 0) u29) fun (x50 : Int32) =>
(if x50 ≤ 0 then
(some (0 : Int32))
else
(some (1 : Int32))))
else
(some (0 : Int32)))))
else
(if v1 = (5 : Int32) then
(Option.bind (fX5_troubles n (M 0) u29) fun (x45 : Int32) =>
(if x45 ≤ 0 then
(some (0 : Int32))
else
(some (1 : Int32))))
else
(some (0 : Int32)))) fun (x42 : Int32) =>
(if v1 = (7 : Int32) then
(Option.bind (fX5_high n (M 0) u29) fun (x53 : Int32) =>
(if x53 ≤ (u28 + x42) then
(some (.inl ((u28 + x42), (u29 + (1 : Int32)))))
else
(Option.bind (fX5_high n (M 0) u29) fun (x55 : Int32) =>
(some (.inl (x55, (u29 + (1 : Int32))))))))
else
(some (.inl ((u28 + x42), (u29 + (1 : Int32))))))))
def fX5_overFloats (n : Nat) (M : St1) (v1 : Int32) : Option (Int32) :=
(Option.bind (kk_it (fun (st : Int32 × Int32) => fX5_overFloats_b4 n M v1 st.1 st.2) n ((0 : Int32), (0 : Int32))) fun (x31 : Int32) =>
(some x31))


def fX5_counted (n : Nat) (M : St1) (v1 : Int32) : Option (Int32 × St1) :=
(if v1 = (0 : Int32) then
(kk_ck ((4 : Int32) + v1) 62 (some (((M 0) ((4 : Int32) + v1).toNatClampNeg), M)))
else
(if v1 = (1 : Int32) then
(kk_ck ((4 : Int32) + v1) 62 (some (((M 0) ((4 : Int32) + v1).toNatClampNeg), M)))
else
(if v1 = (2 : Int32) then
(Option.bind (fX5_allTrouble n (M 0)) fun (x6 : Int32) =>
(some (x6, M)))
else
(if v1 = (3 : Int32) then
(Option.bind (fX5_endsN n M) fun (x8 : Int32 × St1) =>
(some (x8.1, x8.2)))
else
(if v1 = (6 : Int32) then
(Option.bind (fX5_endsN n M) fun (x10 : Int32 × St1) =>
(Option.bind (fX5_goesN n x10.2 (0 : Int32)) fun (x11 : Int32 × St1) =>
(some ((x10.1 - x11.1), x11.2))))
else
(if v1 = (8 : Int32) then
(some ((M 3 0), M))
else
(Option.bind (fX5_overFloats n M v1) fun (x13 : Int32) =>
(some (x13, M)))))))))


def fX5_count (n : Nat) (M : St1) (v1 : Int32) : Option (Int32 × St1) :=
(kk_nm (va_up M 6 (fun _ => (0 : Int32))) fun M1 =>
(Option.bind (fX5_in n v1 (0 : Int32) (8 : Int32)) fun (x2 : Int32) =>
(if x2 = 0 then
(Option.bind (fX5_fails n M1 (1 : Int32)) fun (x4 : Int32 × St1) =>
(some (x4.1, x4.2)))
else
(Option.bind (fX5_counted n M1 v1) fun (x5 : Int32 × St1) =>
(some (x5.1, x5.2))))))


def fX5_setting (n : Nat) (M : St1) (v1 : Int32) : Option (Int32 × St1) :=
(kk_nm (va_up M 6 (fun _ => (0 : Int32))) fun M1 =>
(Option.bind (fX5_in n v1 (0 : Int32) (3 : Int32)) fun (x2 : Int32) =>
(if x2 = 0 then
(Option.bind (fX5_fails n M1 (1 : Int32)) fun (x4 : Int32 × St1) =>
(some (x4.1, x4.2)))
else
(kk_ck v1 62 (some (((M1 0) v1.toNatClampNeg), M1))))))


def fX5_byMoving (n : Nat) (M : St1) (v1 : Int32) (v2 : Int32) (v3 : Int32) : Option (Int32 × St1) :=
(Option.bind (fX5_copies n 62 62 (M 0) (M 1) (0 : Int32) (0 : Int32)) fun (x1 : (Nat → Int32)) =>
(kk_nm (va_up M 1 x1) fun M2 =>
(Option.bind (fX5_moves n (M2 1) v1 v2) fun (x3 : (Nat → Int32)) =>
(kk_nm (va_up M2 1 x3) fun M4 =>
(if v3 = 0 then
(Option.bind (fX5_allTrouble n (M4 1)) fun (x7 : Int32) =>
(some (x7, M4)))
else
(Option.bind (fX5_endsT n M4) fun (x6 : Int32 × St1) =>
(some (x6.1, x6.2))))))))


def fX5_ifMoved (n : Nat) (M : St1) (v1 : Int32) (v2 : Int32) (v3 : Int32) : Option (Int32 × St1) :=
(kk_nm (va_up M 6 (fun _ => (0 : Int32))) fun M1 =>
(Option.bind (fX5_isFloat n M1 v1) fun (x2 : Int32) =>
(if x2 = 0 then
(Option.bind (fX5_fails n M1 (1 : Int32)) fun (x4 : Int32 × St1) =>
(some (x4.1, x4.2)))
else
(Option.bind (fX5_isFloat n M1 v2) fun (x5 : Int32) =>
(if x5 = 0 then
(Option.bind (fX5_fails n M1 (1 : Int32)) fun (x11 : Int32 × St1) =>
(some (x11.1, x11.2)))
else
(Option.bind (fX5_in n v3 (0 : Int32) (1 : Int32)) fun (x7 : Int32) =>
(if x7 = 0 then
(Option.bind (fX5_fails n M1 (2 : Int32)) fun (x9 : Int32 × St1) =>
(some (x9.1, x9.2)))
else
(Option.bind (fX5_byMoving n M1 v1 v2 v3) fun (x10 : Int32 × St1) =>
(some (x10.1, x10.2))))))))))

def fX5_best_b7 (n : Nat) (v1 : Int32) (u14 : Int32) (u15 : Int32) (u16 : Int32) (M17 : St1) : Option ((Int32 × Int32 × Int32 × St1) ⊕ (Int32 × St1)) :=
(if ((M17 0) (4 : Int32).toNatClampNeg) ≤ u16 then
(some (.inr (u14, M17)))
else
(Option.bind (fX5_byMoving n M17 v1 u16 (0 : Int32)) fun (x21 : Int32 × St1) =>
(Option.bind (fX5_byMoving n x21.2 v1 u16 (1 : Int32)) fun (x22 : Int32 × St1) =>
(Option.bind (if u14 = (-1 : Int32) then
(some u16)
else
(if u15 ≤ (((100000 : Int32) * x21.1) + x22.1) then
(some u14)
else
(some u16))) fun (x25 : Int32) =>
(if x25 = u16 then
(some (.inl (x25, (((100000 : Int32) * x21.1) + x22.1), (u16 + (1 : Int32)), x22.2)))
else
(some (.inl (x25, u15, (u16 + (1 : Int32)), x22.2))))))))
def fX5_best (n : Nat) (M : St1) (v1 : Int32) : Option (Int32 × St1) :=
(Option.bind (kk_it (fun (st : Int32 × Int32 × Int32 × St1) => fX5_best_b7 n v1 st.1 st.2.1 st.2.2.1 st.2.2.2) n ((-1 : Int32), (0 : Int32), (0 : Int32), M)) fun (x19 : Int32 × St1) =>
(some (x19.1, x19.2)))


def fX5_bestPlace (n : Nat) (M : St1) (v1 : Int32) : Option (Int32 × St1) :=
(kk_nm (va_up M 6 (fun _ => (0 : Int32))) fun M1 =>
(Option.bind (fX5_isFloat n M1 v1) fun (x2 : Int32) =>
(if x2 = 0 then
(Option.bind (fX5_fails n M1 (1 : Int32)) fun (x4 : Int32 × St1) =>
(some (x4.1, x4.2)))
else
(Option.bind (fX5_best n M1 v1) fun (x5 : Int32 × St1) =>
(some (x5.1, x5.2))))))

def fX5_folding_b6 (n : Nat)  (u19 : Int32) (u20 : Int32) (u21 : Int32) (M22 : St1) : Option ((Int32 × Int32 × Int32 × St1) ⊕ (Int32 × St1)) :=
(if ((M22 0) (4 : Int32).toNatClampNeg) ≤ u21 then
(some (.inr (u19, M22)))
else
(Option.bind (fX5_of n (M22 0) u21 (3 : Int32)) fun (x26 : Int32) =>
(if x26 = 0 then
(Option.bind (fX5_copies n 62 62 (M22 0) (M22 1) (0 : Int32) (0 : Int32)) fun (x28 : (Nat → Int32)) =>
(kk_nm (va_up M22 1 x28) fun M29 =>
(kk_ck (((14 : Int32) + ((4 : Int32) * u21)) + (3 : Int32)) 62 (kk_nm (va_up M29 1 (upd (M29 1) (((14 : Int32) + ((4 : Int32) * u21)) + (3 : Int32)).toNatClampNeg (1 : Int32))) fun M30 =>
(Option.bind (fX5_endsT n M30) fun (x32 : Int32 × St1) =>
(Option.bind (if u19 = (-1 : Int32) then
(some u21)
else
(if u20 ≤ x32.1 then
(some u19)
else
(some u21))) fun (x35 : Int32) =>
(if x35 = u21 then
(some (.inl (x35, x32.1, (u21 + (1 : Int32)), x32.2)))
else
(some (.inl (x35, u20, (u21 + (1 : Int32)), x32.2))))))))))
else
(some (.inl (u19, u20, (u21 + (1 : Int32)), M22))))))
def fX5_folding (n : Nat) (M : St1) : Option (Int32 × St1) :=
(Option.bind (kk_it (fun (st : Int32 × Int32 × Int32 × St1) => fX5_folding_b6 n st.1 st.2.1 st.2.2.1 st.2.2.2) n ((-1 : Int32), (0 : Int32), (0 : Int32), M)) fun (x24 : Int32 × St1) =>
(some (x24.1, x24.2)))


def fX5_bestFold (n : Nat) (M : St1) : Option (Int32 × St1) :=
(kk_nm (va_up M 6 (fun _ => (0 : Int32))) fun M1 =>
(Option.bind (fX5_folding n M1) fun (x2 : Int32 × St1) =>
(some (x2.1, x2.2))))

def fX5_orders_b17 (n : Nat)  (u11 : Int32) (u12 : Int32) (M13 : St1) : Option ((Int32 × Int32 × St1) ⊕ (St1)) :=
(if ((M13 1) (4 : Int32).toNatClampNeg) ≤ u12 then
(some (.inr M13))
else
(kk_cd (((M13 1) (4 : Int32).toNatClampNeg) - u12) (Option.bind (fX5_moves n (M13 1) (u12 + (u11 - u11 / (((M13 1) (4 : Int32).toNatClampNeg) - u12) * (((M13 1) (4 : Int32).toNatClampNeg) - u12))) u12) fun (x18 : (Nat → Int32)) =>
(kk_nm (va_up M13 1 x18) fun M19 =>
(kk_cd (((M13 1) (4 : Int32).toNatClampNeg) - u12) (some (.inl ((u11 / (((M13 1) (4 : Int32).toNatClampNeg) - u12)), (u12 + (1 : Int32)), M19))))))))
def fX5_orders (n : Nat) (M : St1) (v1 : Int32) : Option (St1) :=
(Option.bind (fX5_copies n 62 62 (M 0) (M 1) (0 : Int32) (0 : Int32)) fun (x1 : (Nat → Int32)) =>
(kk_nm (va_up M 1 x1) fun M2 =>
(Option.bind (kk_it (fun (st : Int32 × Int32 × St1) => fX5_orders_b17 n st.1 st.2.1 st.2.2) n (v1, (0 : Int32), M2)) fun (x15 : St1) =>
(some x15))))

def fX5_least_b17 (n : Nat) (M : St1) (u6 : Int32) (u7 : Int32) : Option ((Int32 × Int32) ⊕ (Int32)) :=
(if ((M 0) (4 : Int32).toNatClampNeg) < u7 then
(some (.inr u6))
else
(some (.inl ((u6 * u7), (u7 + (1 : Int32))))))
def fX5_least_b47 (n : Nat) (x9 : Int32) (u20 : Int32) (u21 : Int32) (M22 : St1) : Option ((Int32 × Int32 × St1) ⊕ (Int32 × St1)) :=
(if x9 ≤ u21 then
(some (.inr (u20, M22)))
else
(Option.bind (fX5_orders n M22 u21) fun (x26 : St1) =>
(Option.bind (fX5_allTrouble n (x26 1)) fun (x27 : Int32) =>
(if u20 ≤ x27 then
(some (.inl (u20, (u21 + (1 : Int32)), x26)))
else
(Option.bind (fX5_allTrouble n (x26 1)) fun (x29 : Int32) =>
(some (.inl (x29, (u21 + (1 : Int32)), x26))))))))
def fX5_least (n : Nat) (M : St1) : Option (Int32 × St1) :=
(if ((M 0) (4 : Int32).toNatClampNeg) ≤ (6 : Int32) then
(Option.bind (kk_it (fun (st : Int32 × Int32) => fX5_least_b17 n M st.1 st.2) n ((1 : Int32), (2 : Int32))) fun (x9 : Int32) =>
(Option.bind (fX5_allTrouble n (M 0)) fun (x11 : Int32) =>
(Option.bind (kk_it (fun (st : Int32 × Int32 × St1) => fX5_least_b47 n x9 st.1 st.2.1 st.2.2) n (x11, (0 : Int32), M)) fun (x24 : Int32 × St1) =>
(some (x24.1, x24.2)))))
else
(some ((-1 : Int32), M)))


def fX5_leastTrouble (n : Nat) (M : St1) : Option (Int32 × St1) :=
(kk_nm (va_up M 6 (fun _ => (0 : Int32))) fun M1 =>
(Option.bind (fX5_least n M1) fun (x2 : Int32 × St1) =>
(some (x2.1, x2.2))))
