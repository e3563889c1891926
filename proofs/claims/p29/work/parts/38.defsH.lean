def fX4_leastFrom_b29 (n : Nat) (rcf : St1 → Int32 → Int32 → Int32 → Option (Int32 × St1)) (v1 : Int32) (v2 : Int32) (u12 : Int32) (u13 : Int32) (P14 : St1) : Option ((Int32 × Int32 × St1) ⊕ (Int32 × St1)) :=
(if (P14 0 0) ≤ u13 then
(some (.inr (u12, P14)))
else
(Option.bind (fX2_swap n P14 v1 u13) fun (x18 : St1) =>
(Option.bind (fX2_troubleAt n x18 v1) fun (x19 : Int32) =>
(Option.bind (rcf x18 (v1 + (1 : Int32)) (v2 + x19) u12) fun (x20 : Int32 × St1) =>
(Option.bind (fX2_swap n x20.2 v1 u13) fun (x21 : St1) =>
(some (.inl (x20.1, (u13 + (1 : Int32)), x21))))))))
def fX4_leastFrom_m (n : Nat) (rcf : St1 → Int32 → Int32 → Int32 → Option (Int32 × St1)) (P : St1) (v1 : Int32) (v2 : Int32) (v3 : Int32) : Option (Int32 × St1) :=
(if v2 < v3 then
(if (P 0 0) ≤ v1 then
(some (v2, P))
else
(if v1 < (6 : Int32) then
(Option.bind (kk_it (fun (st : Int32 × Int32 × St1) => fX4_leastFrom_b29 n rcf v1 v2 st.1 st.2.1 st.2.2) n (v3, v1, P)) fun (x16 : Int32 × St1) =>
(some (x16.1, x16.2)))
else
(some (v2, P))))
else
(some (v3, P)))
def fX4_leastFrom (n : Nat) : Nat → St1 → Int32 → Int32 → Int32 → Option (Int32 × St1)
  | 0, _, _, _, _ => none
  | d + 1, P, v1, v2, v3 => fX4_leastFrom_m n (fX4_leastFrom n d) P v1 v2 v3


def fX4_leastTrouble (n : Nat) (G : St2) : Option (Int32 × St2) :=
(if (G 1 0 0) ≤ (6 : Int32) then
(Option.bind (fX2_copyFrom n (G 2) (G 1)) fun (x2 : St1) =>
(kk_nm (va_up G 2 x2) fun G3 =>
(Option.bind (fX2_allTrouble n (G3 2)) fun (x4 : Int32) =>
(Option.bind (fX4_leastFrom n 8 (G3 2) (0 : Int32) (0 : Int32) x4) fun (x5 : Int32 × St1) =>
(kk_nm (va_up G3 2 x5.2) fun G6 =>
(some (x5.1, G6)))))))
else
(some ((-1 : Int32), G)))

def fX4_digest_b6 (n : Nat) (V : St2) (u8 : Int64) (u9 : Int32) (G10 : St2) : Option ((Int64 × Int32 × St2) ⊕ (Int64 × St2)) :=
(if (9 : Int32) ≤ u9 then
(some (.inr (u8, G10)))
else
(Option.bind (fX4_number n G10 V u9) fun (x14 : Int32 × St2) =>
(Option.bind (fX4_mixed n u8 x14.1.toInt64) fun (x15 : Int64) =>
(some (.inl (x15, (u9 + (1 : Int32)), x14.2))))))
def fX4_digest_b31 (n : Nat) (x12 : Int64 × St2) (u23 : Int64) (u24 : Int32) : Option ((Int64 × Int32) ⊕ (Int64)) :=
(if (4 : Int32) ≤ u24 then
(some (.inr u23))
else
(kk_ck u24 4 (Option.bind (fX4_mixed n u23 ((x12.2 1 8) u24.toNatClampNeg).toInt64) fun (x29 : Int64) =>
(some (.inl (x29, (u24 + (1 : Int32))))))))
def fX4_digest_b73 (n : Nat) (x12 : Int64 × St2) (u50 : Int32) (u61 : Int64) (u62 : Int32) : Option ((Int64 × Int32) ⊕ (Int64)) :=
(if (3 : Int32) ≤ u62 then
(some (.inr u61))
else
(Option.bind (fX2_bridgeProperty n (x12.2 1) u50 u62) fun (x66 : Int32) =>
(Option.bind (fX4_mixed n u61 x66.toInt64) fun (x67 : Int64) =>
(some (.inl (x67, (u62 + (1 : Int32))))))))
def fX4_digest_b59 (n : Nat) (x12 : Int64 × St2) (u49 : Int64) (u50 : Int32) : Option ((Int64 × Int32) ⊕ (Int64)) :=
(if (x12.2 1 5 0) ≤ u50 then
(some (.inr u49))
else
(Option.bind (kk_it (fun (st : Int64 × Int32) => fX4_digest_b73 n x12 u50 st.1 st.2) n (u49, (0 : Int32))) fun (x64 : Int64) =>
(some (.inl (x64, (u50 + (1 : Int32)))))))
def fX4_digest_b109 (n : Nat)  (u74 : Int64) (u75 : Int32) (G76 : St2) : Option ((Int64 × Int32 × St2) ⊕ (Int64 × St2)) :=
(if (G76 1 0 0) ≤ u75 then
(some (.inr (u74, G76)))
else
(Option.bind (fX4_withFloat n G76 u74 u75) fun (x80 : Int64 × St2) =>
(some (.inl (x80.1, (u75 + (1 : Int32)), x80.2)))))
def fX4_digest_b177 (n : Nat) (x83 : Int32 × St2) (u96 : Int64) (u97 : Int32) : Option ((Int64 × Int32) ⊕ (Int64)) :=
(if (x83.2 0 6 0) ≤ u97 then
(some (.inr u96))
else
(kk_ck u97 60 (Option.bind (fX4_mixed n u96 ((x83.2 0 5) u97.toNatClampNeg).toInt64) fun (x102 : Int64) =>
(some (.inl (x102, (u97 + (1 : Int32))))))))
def fX4_digest (n : Nat) (G : St2) (V : St2) : Option (Int64 × St2) :=
(Option.bind (kk_it (fun (st : Int64 × Int32 × St2) => fX4_digest_b6 n V st.1 st.2.1 st.2.2) n ((2971 : Int64), (0 : Int32), G)) fun (x12 : Int64 × St2) =>
(Option.bind (kk_it (fun (st : Int64 × Int32) => fX4_digest_b31 n x12 st.1 st.2) n (x12.1, (0 : Int32))) fun (x26 : Int64) =>
(Option.bind (kk_it (fun (st : Int64 × Int32) => fX4_digest_b59 n x12 st.1 st.2) n (x26, (0 : Int32))) fun (x52 : Int64) =>
(Option.bind (kk_it (fun (st : Int64 × Int32 × St2) => fX4_digest_b109 n st.1 st.2.1 st.2.2) n (x52, (0 : Int32), x12.2)) fun (x78 : Int64 × St2) =>
(Option.bind (fX4_bestFold n x78.2) fun (x81 : Int32 × St2) =>
(Option.bind (fX4_mixed n x78.1 x81.1.toInt64) fun (x82 : Int64) =>
(Option.bind (fX4_leastTrouble n x81.2) fun (x83 : Int32 × St2) =>
(Option.bind (fX4_mixed n x82 x83.1.toInt64) fun (x84 : Int64) =>
(Option.bind (fX4_smoothness n x83.2) fun (x85 : UInt64) =>
(Option.bind (fX4_bitsOfShare n x85) fun (x86 : Int64) =>
(Option.bind (fX4_mixed n x84 x86) fun (x87 : Int64) =>
(Option.bind (fX4_mixed n x87 (x83.2 0 6 0).toInt64) fun (x88 : Int64) =>
(Option.bind (kk_it (fun (st : Int64 × Int32) => fX4_digest_b177 n x83 st.1 st.2) n (x88, (0 : Int32))) fun (x99 : Int64) =>
(some (x99, x83.2)))))))))))))))


def fJxe99ae_isNaN_b9ae7 (n : Nat) (v0 : UInt64) : Option (Int32) :=
(if (Op.cmpValue (FP.dcmp v0 v0) .l) = 0 then
(some (0 : Int32))
else
(some (1 : Int32)))


def fJxe99ae_doubleToLongBits_ccdee (n : Nat) (v0 : UInt64) : Option (Int64) :=
(Option.bind (fJxe99ae_isNaN_b9ae7 n v0) fun (x1 : Int32) =>
(if x1 = 0 then
(some v0.toInt64)
else
(some (9221120237041090560 : Int64))))


def fX5_smooth (n : Nat) (M : St1) : Option (UInt64) :=
(if ((M 0) (4 : Int32).toNatClampNeg) = 0 then
(some FP.dconst1)
else
(Option.bind (fX5_overFloats n M (5 : Int32)) fun (x2 : Int32) =>
(kk_cn (FP.ddiv (FP.i2d (((M 0) (4 : Int32).toNatClampNeg) - x2)) (FP.i2d ((M 0) (4 : Int32).toNatClampNeg))) (some (FP.ddiv (FP.i2d (((M 0) (4 : Int32).toNatClampNeg) - x2)) (FP.i2d ((M 0) (4 : Int32).toNatClampNeg)))))))


def fX5_smoothness (n : Nat) (M : St1) : Option (UInt64 × St1) :=
(kk_nm (va_up M 6 (fun _ => (0 : Int32))) fun M1 =>
(Option.bind (fX5_smooth n M1) fun (x2 : UInt64) =>
(some (x2, M1))))

def fX5_digest_b11 (n : Nat)  (u7 : Int64) (u8 : Int32) (M9 : St1) : Option ((Int64 × Int32 × St1) ⊕ (Int64 × St1)) :=
(if (9 : Int32) ≤ u8 then
(some (.inr (u7, M9)))
else
(Option.bind (fX5_counted n M9 u8) fun (x13 : Int32 × St1) =>
(some (.inl ((((31 : Int64) * u7) + x13.1.toInt64), (u8 + (1 : Int32)), x13.2)))))
def fX5_digest_b38 (n : Nat) (x11 : Int64 × St1) (u19 : Int64) (u20 : Int32) : Option ((Int64 × Int32) ⊕ (Int64)) :=
(if (4 : Int32) ≤ u20 then
(some (.inr u19))
else
(kk_ck u20 62 (some (.inl ((((31 : Int64) * u19) + ((x11.2 0) u20.toNatClampNeg).toInt64), (u20 + (1 : Int32)))))))
def fX5_digest_b78 (n : Nat) (x11 : Int64 × St1) (u41 : Int32) (u50 : Int64) (u51 : Int32) : Option ((Int64 × Int32) ⊕ (Int64)) :=
(if (3 : Int32) ≤ u51 then
(some (.inr u50))
else
(Option.bind (fX5_ofBridge n x11.2 u41 u51) fun (x55 : Int32) =>
(some (.inl ((((31 : Int64) * u50) + x55.toInt64), (u51 + (1 : Int32)))))))
def fX5_digest_b65 (n : Nat) (x11 : Int64 × St1) (u40 : Int64) (u41 : Int32) : Option ((Int64 × Int32) ⊕ (Int64)) :=
(if ((x11.2 0) (5 : Int32).toNatClampNeg) ≤ u41 then
(some (.inr u40))
else
(Option.bind (kk_it (fun (st : Int64 × Int32) => fX5_digest_b78 n x11 u41 st.1 st.2) n (u40, (0 : Int32))) fun (x53 : Int64) =>
(some (.inl (x53, (u41 + (1 : Int32)))))))
def fX5_digest_b126 (n : Nat) (u96 : Int32) (M97 : St1) (u106 : Int64) (u107 : Int32) : Option ((Int64 × Int32) ⊕ (Int64)) :=
(if (7 : Int32) ≤ u107 then
(some (.inr u106))
else
(Option.bind (fX5_ofFloat n M97 u96 u107) fun (x111 : Int32) =>
(some (.inl ((((31 : Int64) * u106) + x111.toInt64), (u107 + (1 : Int32)))))))
def fX5_digest_b157 (n : Nat) (u96 : Int32) (M97 : St1) (u117 : Int64) (u118 : Int32) : Option ((Int64 × Int32) ⊕ (Int64)) :=
(if (3 : Int32) ≤ u118 then
(some (.inr u117))
else
(Option.bind (fX5_troubled n (M97 0) u96 u118) fun (x122 : Int32) =>
(some (.inl ((((31 : Int64) * u117) + x122.toInt64), (u118 + (1 : Int32)))))))
def fX5_digest_b199 (n : Nat) (u96 : Int32) (x123 : Int32 × St1) (u129 : Int64) (u130 : Int32) : Option ((Int64 × Int32) ⊕ (Int64)) :=
(if ((x123.2 0) (5 : Int32).toNatClampNeg) < u130 then
(some (.inr u129))
else
(kk_ck (((5 : Int32) * u96) + u130) 60 (some (.inl ((((31 : Int64) * u129) + ((x123.2 11) (((5 : Int32) * u96) + u130).toNatClampNeg).toInt64), (u130 + (1 : Int32)))))))
def fX5_digest_b113 (n : Nat)  (u95 : Int64) (u96 : Int32) (M97 : St1) : Option ((Int64 × Int32 × St1) ⊕ (Int64 × St1)) :=
(if ((M97 0) (4 : Int32).toNatClampNeg) ≤ u96 then
(some (.inr (u95, M97)))
else
(Option.bind (kk_it (fun (st : Int64 × Int32) => fX5_digest_b126 n u96 M97 st.1 st.2) n (u95, (0 : Int32))) fun (x109 : Int64) =>
(Option.bind (kk_it (fun (st : Int64 × Int32) => fX5_digest_b157 n u96 M97 st.1 st.2) n (x109, (0 : Int32))) fun (x120 : Int64) =>
(Option.bind (fX5_endsN n M97) fun (x123 : Int32 × St1) =>
(Option.bind (kk_it (fun (st : Int64 × Int32) => fX5_digest_b199 n u96 x123 st.1 st.2) n (x120, (0 : Int32))) fun (x132 : Int64) =>
(Option.bind (fX5_best n x123.2 u96) fun (x135 : Int32 × St1) =>
(some (.inl ((((31 : Int64) * x132) + x135.1.toInt64), (u96 + (1 : Int32)), x135.2)))))))))
def fX5_digest_b302 (n : Nat) (x137 : Int32 × St1) (u145 : Int64) (u146 : Int32) : Option ((Int64 × Int32) ⊕ (Int64)) :=
(if (x137.2 5 0) ≤ u146 then
(some (.inr u145))
else
(kk_ck u146 60 (some (.inl ((((31 : Int64) * u145) + ((x137.2 4) u146.toNatClampNeg).toInt64), (u146 + (1 : Int32)))))))
def fX5_digest (n : Nat) (M : St1) : Option (Int64 × St1) :=
(kk_nm (va_up M 6 (fun _ => (0 : Int32))) fun M1 =>
(Option.bind (kk_it (fun (st : Int64 × Int32 × St1) => fX5_digest_b11 n st.1 st.2.1 st.2.2) n ((2971 : Int64), (0 : Int32), M1)) fun (x11 : Int64 × St1) =>
(Option.bind (kk_it (fun (st : Int64 × Int32) => fX5_digest_b38 n x11 st.1 st.2) n (x11.1, (0 : Int32))) fun (x22 : Int64) =>
(Option.bind (kk_it (fun (st : Int64 × Int32) => fX5_digest_b65 n x11 st.1 st.2) n (x22, (0 : Int32))) fun (x43 : Int64) =>
(Option.bind (kk_it (fun (st : Int64 × Int32 × St1) => fX5_digest_b113 n st.1 st.2.1 st.2.2) n (x43, (0 : Int32), x11.2)) fun (x99 : Int64 × St1) =>
(Option.bind (fX5_folding n x99.2) fun (x136 : Int32 × St1) =>
(Option.bind (fX5_least n x136.2) fun (x137 : Int32 × St1) =>
(Option.bind (fX5_smooth n x137.2) fun (x138 : UInt64) =>
(Option.bind (fJxe99ae_doubleToLongBits_ccdee n x138) fun (x139 : Int64) =>
(Option.bind (kk_it (fun (st : Int64 × Int32) => fX5_digest_b302 n x137 st.1 st.2) n ((((31 : Int64) * (((31 : Int64) * (((31 : Int64) * (((31 : Int64) * x99.1) + x136.1.toInt64)) + x137.1.toInt64)) + x139)) + (x137.2 5 0).toInt64), (0 : Int32))) fun (x148 : Int64) =>
(some (x148, x137.2))))))))))))
