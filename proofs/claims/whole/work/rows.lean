section
-- ===== PART A: goes FIRST, ahead of the names: the tables' words, and 'selects' of the private methods out of them =====
/-- a private method of a class that the tables say can be made, by its rows of tables_1 -/
def lw_okq (q : MethodName × Nat) : Prop := (q.1.cls ≠ "java/lang/invoke/MethodHandle" ∧ q.1.cls ≠ "java/lang/invoke/VarHandle") ∧ Cond.instantiable q.1.cls q.2 ∈ tables_1 ∧ Cond.privateMethod q.1 ∈ tables_1 ∧ Cond.instanceMethod q.1 ∈ tables_1
theorem lw_p0 : lw_okq (⟨"FloatOrder$History", "dropOldest", "()V"⟩, 2) := ⟨⟨by decide +kernel, by decide +kernel⟩, List.mem_of_getElem? (i := 72) (by decide +kernel), List.mem_of_getElem? (i := 154) (by decide +kernel), List.mem_of_getElem? (i := 155) (by decide +kernel)⟩
theorem lw_p1 : lw_okq (⟨"FloatOrder", "doBestExchange", "()Z"⟩, 7) := ⟨⟨by decide +kernel, by decide +kernel⟩, List.mem_of_getElem? (i := 16) (by decide +kernel), List.mem_of_getElem? (i := 163) (by decide +kernel), List.mem_of_getElem? (i := 164) (by decide +kernel)⟩
theorem lw_p2 : lw_okq (⟨"FloatOrder$Parade", "shying", "(I)I"⟩, 11) := ⟨⟨by decide +kernel, by decide +kernel⟩, List.mem_of_getElem? (i := 24) (by decide +kernel), List.mem_of_getElem? (i := 179) (by decide +kernel), List.mem_of_getElem? (i := 180) (by decide +kernel)⟩
theorem lw_p3 : lw_okq (⟨"FloatOrder$Parade", "hearing", "(I)I"⟩, 11) := ⟨⟨by decide +kernel, by decide +kernel⟩, List.mem_of_getElem? (i := 24) (by decide +kernel), List.mem_of_getElem? (i := 183) (by decide +kernel), List.mem_of_getElem? (i := 184) (by decide +kernel)⟩
theorem lw_p4 : lw_okq (⟨"FloatOrder$Parade", "meeting", "(I)I"⟩, 11) := ⟨⟨by decide +kernel, by decide +kernel⟩, List.mem_of_getElem? (i := 24) (by decide +kernel), List.mem_of_getElem? (i := 187) (by decide +kernel), List.mem_of_getElem? (i := 188) (by decide +kernel)⟩
theorem lw_p5 : lw_okq (⟨"FloatOrder", "readBuffer", "()I"⟩, 7) := ⟨⟨by decide +kernel, by decide +kernel⟩, List.mem_of_getElem? (i := 16) (by decide +kernel), List.mem_of_getElem? (i := 222) (by decide +kernel), List.mem_of_getElem? (i := 223) (by decide +kernel)⟩
theorem lw_p6 : lw_okq (⟨"FloatOrder$PartReader", "acceptsKind", "(I)Z"⟩, 4) := ⟨⟨by decide +kernel, by decide +kernel⟩, List.mem_of_getElem? (i := 102) (by decide +kernel), List.mem_of_getElem? (i := 234) (by decide +kernel), List.mem_of_getElem? (i := 235) (by decide +kernel)⟩
theorem lw_p7 : lw_okq (⟨"FloatOrder$PartReader", "acceptsDigit", "(III)Z"⟩, 4) := ⟨⟨by decide +kernel, by decide +kernel⟩, List.mem_of_getElem? (i := 102) (by decide +kernel), List.mem_of_getElem? (i := 241) (by decide +kernel), List.mem_of_getElem? (i := 242) (by decide +kernel)⟩
theorem lw_p8 : lw_okq (⟨"FloatOrder$PartReader", "acceptsNextPart", "(I)Z"⟩, 4) := ⟨⟨by decide +kernel, by decide +kernel⟩, List.mem_of_getElem? (i := 102) (by decide +kernel), List.mem_of_getElem? (i := 245) (by decide +kernel), List.mem_of_getElem? (i := 246) (by decide +kernel)⟩
theorem lw_p9 : lw_okq (⟨"FloatOrder$PartReader", "acceptsShied", "(I)Z"⟩, 4) := ⟨⟨by decide +kernel, by decide +kernel⟩, List.mem_of_getElem? (i := 102) (by decide +kernel), List.mem_of_getElem? (i := 249) (by decide +kernel), List.mem_of_getElem? (i := 250) (by decide +kernel)⟩
theorem lw_p10 : lw_okq (⟨"FloatOrder", "number", "(I)I"⟩, 7) := ⟨⟨by decide +kernel, by decide +kernel⟩, List.mem_of_getElem? (i := 16) (by decide +kernel), List.mem_of_getElem? (i := 281) (by decide +kernel), List.mem_of_getElem? (i := 282) (by decide +kernel)⟩
theorem lw_p11 : lw_okq (⟨"FloatOrder$Parade", "bridgesThatLower", "(I)I"⟩, 11) := ⟨⟨by decide +kernel, by decide +kernel⟩, List.mem_of_getElem? (i := 24) (by decide +kernel), List.mem_of_getElem? (i := 289) (by decide +kernel), List.mem_of_getElem? (i := 290) (by decide +kernel)⟩
theorem lw_p12 : lw_okq (⟨"FloatOrder$Parade", "isLowered", "(II)Z"⟩, 11) := ⟨⟨by decide +kernel, by decide +kernel⟩, List.mem_of_getElem? (i := 24) (by decide +kernel), List.mem_of_getElem? (i := 293) (by decide +kernel), List.mem_of_getElem? (i := 294) (by decide +kernel)⟩
theorem lw_p13 : lw_okq (⟨"FloatOrder$Parade", "floatsLoweredAt", "(I)I"⟩, 11) := ⟨⟨by decide +kernel, by decide +kernel⟩, List.mem_of_getElem? (i := 24) (by decide +kernel), List.mem_of_getElem? (i := 314) (by decide +kernel), List.mem_of_getElem? (i := 315) (by decide +kernel)⟩
theorem lw_p14 : lw_okq (⟨"FloatOrder", "withFloat", "(JI)J"⟩, 7) := ⟨⟨by decide +kernel, by decide +kernel⟩, List.mem_of_getElem? (i := 16) (by decide +kernel), List.mem_of_getElem? (i := 318) (by decide +kernel), List.mem_of_getElem? (i := 319) (by decide +kernel)⟩
theorem lw_p15 : lw_okq (⟨"FloatOrder", "placeOfLeast", "(I)I"⟩, 7) := ⟨⟨by decide +kernel, by decide +kernel⟩, List.mem_of_getElem? (i := 16) (by decide +kernel), List.mem_of_getElem? (i := 331) (by decide +kernel), List.mem_of_getElem? (i := 332) (by decide +kernel)⟩
def lw_privs_1 : List (MethodName × Nat) := [(⟨"FloatOrder$History", "dropOldest", "()V"⟩, 2), (⟨"FloatOrder", "doBestExchange", "()Z"⟩, 7), (⟨"FloatOrder$Parade", "shying", "(I)I"⟩, 11), (⟨"FloatOrder$Parade", "hearing", "(I)I"⟩, 11), (⟨"FloatOrder$Parade", "meeting", "(I)I"⟩, 11), (⟨"FloatOrder", "readBuffer", "()I"⟩, 7), (⟨"FloatOrder$PartReader", "acceptsKind", "(I)Z"⟩, 4), (⟨"FloatOrder$PartReader", "acceptsDigit", "(III)Z"⟩, 4), (⟨"FloatOrder$PartReader", "acceptsNextPart", "(I)Z"⟩, 4), (⟨"FloatOrder$PartReader", "acceptsShied", "(I)Z"⟩, 4), (⟨"FloatOrder", "number", "(I)I"⟩, 7), (⟨"FloatOrder$Parade", "bridgesThatLower", "(I)I"⟩, 11), (⟨"FloatOrder$Parade", "isLowered", "(II)Z"⟩, 11), (⟨"FloatOrder$Parade", "floatsLoweredAt", "(I)I"⟩, 11), (⟨"FloatOrder", "withFloat", "(JI)J"⟩, 7), (⟨"FloatOrder", "placeOfLeast", "(I)I"⟩, 7)]
theorem lw_r1 : ∀ q ∈ lw_privs_1, lw_okq q := List.forall_mem_cons.mpr ⟨lw_p0, List.forall_mem_cons.mpr ⟨lw_p1, List.forall_mem_cons.mpr ⟨lw_p2, List.forall_mem_cons.mpr ⟨lw_p3, List.forall_mem_cons.mpr ⟨lw_p4, List.forall_mem_cons.mpr ⟨lw_p5, List.forall_mem_cons.mpr ⟨lw_p6, List.forall_mem_cons.mpr ⟨lw_p7, List.forall_mem_cons.mpr ⟨lw_p8, List.forall_mem_cons.mpr ⟨lw_p9, List.forall_mem_cons.mpr ⟨lw_p10, List.forall_mem_cons.mpr ⟨lw_p11, List.forall_mem_cons.mpr ⟨lw_p12, List.forall_mem_cons.mpr ⟨lw_p13, List.forall_mem_cons.mpr ⟨lw_p14, List.forall_mem_cons.mpr ⟨lw_p15, fun _ h => absurd h List.not_mem_nil⟩⟩⟩⟩⟩⟩⟩⟩⟩⟩⟩⟩⟩⟩⟩⟩
theorem lw_p16 : lw_okq (⟨"java/lang/Throwable", "fillInStackTrace", "(I)Ljava/lang/Throwable;"⟩, 6) := ⟨⟨by decide +kernel, by decide +kernel⟩, List.mem_of_getElem? (i := 397) (by decide +kernel), List.mem_of_getElem? (i := 395) (by decide +kernel), List.mem_of_getElem? (i := 396) (by decide +kernel)⟩
theorem lw_p17 : lw_okq (⟨"FloatOrder", "needFloat", "(I)V"⟩, 7) := ⟨⟨by decide +kernel, by decide +kernel⟩, List.mem_of_getElem? (i := 16) (by decide +kernel), List.mem_of_getElem? (i := 476) (by decide +kernel), List.mem_of_getElem? (i := 477) (by decide +kernel)⟩
theorem lw_p18 : lw_okq (⟨"FloatOrder", "needBridge", "(I)V"⟩, 7) := ⟨⟨by decide +kernel, by decide +kernel⟩, List.mem_of_getElem? (i := 16) (by decide +kernel), List.mem_of_getElem? (i := 532) (by decide +kernel), List.mem_of_getElem? (i := 533) (by decide +kernel)⟩
theorem lw_p19 : lw_okq (⟨"FloatOrder", "partsInBuffer", "()I"⟩, 7) := ⟨⟨by decide +kernel, by decide +kernel⟩, List.mem_of_getElem? (i := 16) (by decide +kernel), List.mem_of_getElem? (i := 578) (by decide +kernel), List.mem_of_getElem? (i := 579) (by decide +kernel)⟩
theorem lw_p20 : lw_okq (⟨"FloatOrder", "addParts", "()V"⟩, 7) := ⟨⟨by decide +kernel, by decide +kernel⟩, List.mem_of_getElem? (i := 16) (by decide +kernel), List.mem_of_getElem? (i := 583) (by decide +kernel), List.mem_of_getElem? (i := 584) (by decide +kernel)⟩
theorem lw_p21 : lw_okq (⟨"FloatOrderModel", "fails", "(I)I"⟩, 12) := ⟨⟨by decide +kernel, by decide +kernel⟩, List.mem_of_getElem? (i := 660) (by decide +kernel), List.mem_of_getElem? (i := 711) (by decide +kernel), List.mem_of_getElem? (i := 712) (by decide +kernel)⟩
theorem lw_p22 : lw_okq (⟨"FloatOrderModel", "saves", "()V"⟩, 12) := ⟨⟨by decide +kernel, by decide +kernel⟩, List.mem_of_getElem? (i := 660) (by decide +kernel), List.mem_of_getElem? (i := 728) (by decide +kernel), List.mem_of_getElem? (i := 729) (by decide +kernel)⟩
theorem lw_p23 : lw_okq (⟨"FloatOrderModel", "isFloat", "(I)Z"⟩, 12) := ⟨⟨by decide +kernel, by decide +kernel⟩, List.mem_of_getElem? (i := 660) (by decide +kernel), List.mem_of_getElem? (i := 739) (by decide +kernel), List.mem_of_getElem? (i := 740) (by decide +kernel)⟩
theorem lw_p24 : lw_okq (⟨"FloatOrderModel", "bestExchange", "()I"⟩, 12) := ⟨⟨by decide +kernel, by decide +kernel⟩, List.mem_of_getElem? (i := 660) (by decide +kernel), List.mem_of_getElem? (i := 783) (by decide +kernel), List.mem_of_getElem? (i := 784) (by decide +kernel)⟩
theorem lw_p25 : lw_okq (⟨"FloatOrderModel", "ends", "([I)I"⟩, 12) := ⟨⟨by decide +kernel, by decide +kernel⟩, List.mem_of_getElem? (i := 660) (by decide +kernel), List.mem_of_getElem? (i := 787) (by decide +kernel), List.mem_of_getElem? (i := 788) (by decide +kernel)⟩
theorem lw_p26 : lw_okq (⟨"FloatOrderModel", "goes", "([II)I"⟩, 12) := ⟨⟨by decide +kernel, by decide +kernel⟩, List.mem_of_getElem? (i := 660) (by decide +kernel), List.mem_of_getElem? (i := 791) (by decide +kernel), List.mem_of_getElem? (i := 792) (by decide +kernel)⟩
theorem lw_p27 : lw_okq (⟨"FloatOrderModel", "isBridged", "(I)Z"⟩, 12) := ⟨⟨by decide +kernel, by decide +kernel⟩, List.mem_of_getElem? (i := 660) (by decide +kernel), List.mem_of_getElem? (i := 802) (by decide +kernel), List.mem_of_getElem? (i := 803) (by decide +kernel)⟩
theorem lw_p28 : lw_okq (⟨"FloatOrderModel", "isBridge", "(I)Z"⟩, 12) := ⟨⟨by decide +kernel, by decide +kernel⟩, List.mem_of_getElem? (i := 660) (by decide +kernel), List.mem_of_getElem? (i := 810) (by decide +kernel), List.mem_of_getElem? (i := 811) (by decide +kernel)⟩
theorem lw_p29 : lw_okq (⟨"FloatOrderModel", "isText", "()Z"⟩, 12) := ⟨⟨by decide +kernel, by decide +kernel⟩, List.mem_of_getElem? (i := 660) (by decide +kernel), List.mem_of_getElem? (i := 830) (by decide +kernel), List.mem_of_getElem? (i := 831) (by decide +kernel)⟩
theorem lw_p30 : lw_okq (⟨"FloatOrderModel", "isPart", "()Z"⟩, 12) := ⟨⟨by decide +kernel, by decide +kernel⟩, List.mem_of_getElem? (i := 660) (by decide +kernel), List.mem_of_getElem? (i := 834) (by decide +kernel), List.mem_of_getElem? (i := 835) (by decide +kernel)⟩
theorem lw_p31 : lw_okq (⟨"FloatOrderModel", "kindAt", "()I"⟩, 12) := ⟨⟨by decide +kernel, by decide +kernel⟩, List.mem_of_getElem? (i := 660) (by decide +kernel), List.mem_of_getElem? (i := 838) (by decide +kernel), List.mem_of_getElem? (i := 839) (by decide +kernel)⟩
def lw_privs_2 : List (MethodName × Nat) := [(⟨"java/lang/Throwable", "fillInStackTrace", "(I)Ljava/lang/Throwable;"⟩, 6), (⟨"FloatOrder", "needFloat", "(I)V"⟩, 7), (⟨"FloatOrder", "needBridge", "(I)V"⟩, 7), (⟨"FloatOrder", "partsInBuffer", "()I"⟩, 7), (⟨"FloatOrder", "addParts", "()V"⟩, 7), (⟨"FloatOrderModel", "fails", "(I)I"⟩, 12), (⟨"FloatOrderModel", "saves", "()V"⟩, 12), (⟨"FloatOrderModel", "isFloat", "(I)Z"⟩, 12), (⟨"FloatOrderModel", "bestExchange", "()I"⟩, 12), (⟨"FloatOrderModel", "ends", "([I)I"⟩, 12), (⟨"FloatOrderModel", "goes", "([II)I"⟩, 12), (⟨"FloatOrderModel", "isBridged", "(I)Z"⟩, 12), (⟨"FloatOrderModel", "isBridge", "(I)Z"⟩, 12), (⟨"FloatOrderModel", "isText", "()Z"⟩, 12), (⟨"FloatOrderModel", "isPart", "()Z"⟩, 12), (⟨"FloatOrderModel", "kindAt", "()I"⟩, 12)]
theorem lw_r2 : ∀ q ∈ lw_privs_2, lw_okq q := List.forall_mem_cons.mpr ⟨lw_p16, List.forall_mem_cons.mpr ⟨lw_p17, List.forall_mem_cons.mpr ⟨lw_p18, List.forall_mem_cons.mpr ⟨lw_p19, List.forall_mem_cons.mpr ⟨lw_p20, List.forall_mem_cons.mpr ⟨lw_p21, List.forall_mem_cons.mpr ⟨lw_p22, List.forall_mem_cons.mpr ⟨lw_p23, List.forall_mem_cons.mpr ⟨lw_p24, List.forall_mem_cons.mpr ⟨lw_p25, List.forall_mem_cons.mpr ⟨lw_p26, List.forall_mem_cons.mpr ⟨lw_p27, List.forall_mem_cons.mpr ⟨lw_p28, List.forall_mem_cons.mpr ⟨lw_p29, List.forall_mem_cons.mpr ⟨lw_p30, List.forall_mem_cons.mpr ⟨lw_p31, fun _ h => absurd h List.not_mem_nil⟩⟩⟩⟩⟩⟩⟩⟩⟩⟩⟩⟩⟩⟩⟩⟩
theorem lw_p32 : lw_okq (⟨"FloatOrderModel", "stops", "()Z"⟩, 12) := ⟨⟨by decide +kernel, by decide +kernel⟩, List.mem_of_getElem? (i := 660) (by decide +kernel), List.mem_of_getElem? (i := 842) (by decide +kernel), List.mem_of_getElem? (i := 843) (by decide +kernel)⟩
theorem lw_p33 : lw_okq (⟨"FloatOrderModel", "isAt", "(II)Z"⟩, 12) := ⟨⟨by decide +kernel, by decide +kernel⟩, List.mem_of_getElem? (i := 660) (by decide +kernel), List.mem_of_getElem? (i := 846) (by decide +kernel), List.mem_of_getElem? (i := 847) (by decide +kernel)⟩
theorem lw_p34 : lw_okq (⟨"FloatOrderModel", "isMask", "()Z"⟩, 12) := ⟨⟨by decide +kernel, by decide +kernel⟩, List.mem_of_getElem? (i := 660) (by decide +kernel), List.mem_of_getElem? (i := 850) (by decide +kernel), List.mem_of_getElem? (i := 851) (by decide +kernel)⟩
theorem lw_p35 : lw_okq (⟨"FloatOrderModel", "ofFloat", "(II)I"⟩, 12) := ⟨⟨by decide +kernel, by decide +kernel⟩, List.mem_of_getElem? (i := 660) (by decide +kernel), List.mem_of_getElem? (i := 862) (by decide +kernel), List.mem_of_getElem? (i := 863) (by decide +kernel)⟩
theorem lw_p36 : lw_okq (⟨"FloatOrderModel", "bridgesOf", "(I)I"⟩, 12) := ⟨⟨by decide +kernel, by decide +kernel⟩, List.mem_of_getElem? (i := 660) (by decide +kernel), List.mem_of_getElem? (i := 866) (by decide +kernel), List.mem_of_getElem? (i := 867) (by decide +kernel)⟩
theorem lw_p37 : lw_okq (⟨"FloatOrderModel", "ofBridge", "(II)I"⟩, 12) := ⟨⟨by decide +kernel, by decide +kernel⟩, List.mem_of_getElem? (i := 660) (by decide +kernel), List.mem_of_getElem? (i := 882) (by decide +kernel), List.mem_of_getElem? (i := 883) (by decide +kernel)⟩
theorem lw_p38 : lw_okq (⟨"FloatOrderModel", "loweredAt", "(I)I"⟩, 12) := ⟨⟨by decide +kernel, by decide +kernel⟩, List.mem_of_getElem? (i := 660) (by decide +kernel), List.mem_of_getElem? (i := 886) (by decide +kernel), List.mem_of_getElem? (i := 887) (by decide +kernel)⟩
theorem lw_p39 : lw_okq (⟨"FloatOrderModel", "counted", "(I)I"⟩, 12) := ⟨⟨by decide +kernel, by decide +kernel⟩, List.mem_of_getElem? (i := 660) (by decide +kernel), List.mem_of_getElem? (i := 894) (by decide +kernel), List.mem_of_getElem? (i := 895) (by decide +kernel)⟩
theorem lw_p40 : lw_okq (⟨"FloatOrderModel", "overFloats", "(I)I"⟩, 12) := ⟨⟨by decide +kernel, by decide +kernel⟩, List.mem_of_getElem? (i := 660) (by decide +kernel), List.mem_of_getElem? (i := 898) (by decide +kernel), List.mem_of_getElem? (i := 899) (by decide +kernel)⟩
theorem lw_p41 : lw_okq (⟨"FloatOrderModel", "byMoving", "(III)I"⟩, 12) := ⟨⟨by decide +kernel, by decide +kernel⟩, List.mem_of_getElem? (i := 660) (by decide +kernel), List.mem_of_getElem? (i := 910) (by decide +kernel), List.mem_of_getElem? (i := 911) (by decide +kernel)⟩
theorem lw_p42 : lw_okq (⟨"FloatOrderModel", "best", "(I)I"⟩, 12) := ⟨⟨by decide +kernel, by decide +kernel⟩, List.mem_of_getElem? (i := 660) (by decide +kernel), List.mem_of_getElem? (i := 918) (by decide +kernel), List.mem_of_getElem? (i := 919) (by decide +kernel)⟩
theorem lw_p43 : lw_okq (⟨"FloatOrderModel", "folding", "()I"⟩, 12) := ⟨⟨by decide +kernel, by decide +kernel⟩, List.mem_of_getElem? (i := 660) (by decide +kernel), List.mem_of_getElem? (i := 927) (by decide +kernel), List.mem_of_getElem? (i := 928) (by decide +kernel)⟩
theorem lw_p44 : lw_okq (⟨"FloatOrderModel", "least", "()I"⟩, 12) := ⟨⟨by decide +kernel, by decide +kernel⟩, List.mem_of_getElem? (i := 660) (by decide +kernel), List.mem_of_getElem? (i := 935) (by decide +kernel), List.mem_of_getElem? (i := 936) (by decide +kernel)⟩
theorem lw_p45 : lw_okq (⟨"FloatOrderModel", "orders", "(I)V"⟩, 12) := ⟨⟨by decide +kernel, by decide +kernel⟩, List.mem_of_getElem? (i := 660) (by decide +kernel), List.mem_of_getElem? (i := 939) (by decide +kernel), List.mem_of_getElem? (i := 940) (by decide +kernel)⟩
theorem lw_p46 : lw_okq (⟨"FloatOrderModel", "smooth", "()D"⟩, 12) := ⟨⟨by decide +kernel, by decide +kernel⟩, List.mem_of_getElem? (i := 660) (by decide +kernel), List.mem_of_getElem? (i := 947) (by decide +kernel), List.mem_of_getElem? (i := 948) (by decide +kernel)⟩
def lw_privs_3 : List (MethodName × Nat) := [(⟨"FloatOrderModel", "stops", "()Z"⟩, 12), (⟨"FloatOrderModel", "isAt", "(II)Z"⟩, 12), (⟨"FloatOrderModel", "isMask", "()Z"⟩, 12), (⟨"FloatOrderModel", "ofFloat", "(II)I"⟩, 12), (⟨"FloatOrderModel", "bridgesOf", "(I)I"⟩, 12), (⟨"FloatOrderModel", "ofBridge", "(II)I"⟩, 12), (⟨"FloatOrderModel", "loweredAt", "(I)I"⟩, 12), (⟨"FloatOrderModel", "counted", "(I)I"⟩, 12), (⟨"FloatOrderModel", "overFloats", "(I)I"⟩, 12), (⟨"FloatOrderModel", "byMoving", "(III)I"⟩, 12), (⟨"FloatOrderModel", "best", "(I)I"⟩, 12), (⟨"FloatOrderModel", "folding", "()I"⟩, 12), (⟨"FloatOrderModel", "least", "()I"⟩, 12), (⟨"FloatOrderModel", "orders", "(I)V"⟩, 12), (⟨"FloatOrderModel", "smooth", "()D"⟩, 12)]
theorem lw_r3 : ∀ q ∈ lw_privs_3, lw_okq q := List.forall_mem_cons.mpr ⟨lw_p32, List.forall_mem_cons.mpr ⟨lw_p33, List.forall_mem_cons.mpr ⟨lw_p34, List.forall_mem_cons.mpr ⟨lw_p35, List.forall_mem_cons.mpr ⟨lw_p36, List.forall_mem_cons.mpr ⟨lw_p37, List.forall_mem_cons.mpr ⟨lw_p38, List.forall_mem_cons.mpr ⟨lw_p39, List.forall_mem_cons.mpr ⟨lw_p40, List.forall_mem_cons.mpr ⟨lw_p41, List.forall_mem_cons.mpr ⟨lw_p42, List.forall_mem_cons.mpr ⟨lw_p43, List.forall_mem_cons.mpr ⟨lw_p44, List.forall_mem_cons.mpr ⟨lw_p45, List.forall_mem_cons.mpr ⟨lw_p46, fun _ h => absurd h List.not_mem_nil⟩⟩⟩⟩⟩⟩⟩⟩⟩⟩⟩⟩⟩⟩⟩
def lw_privs : List (MethodName × Nat) := lw_privs_1 ++ (lw_privs_2 ++ (lw_privs_3))
def lw_tbl : List Cond := k2_sels lw_privs ++ tables_1
theorem lw_privs_ok : ∀ q ∈ lw_privs, lw_okq q := by
  show ∀ q ∈ lw_privs_1 ++ (lw_privs_2 ++ (lw_privs_3)), lw_okq q
  exact List.forall_mem_append.mpr ⟨lw_r1, List.forall_mem_append.mpr ⟨lw_r2, lw_r3⟩⟩
/-- the streams that the claim lets the run draw from -/
abbrev lw_cs : List Choice := [Jvm.Choice.named "NaN.bits"]
theorem lw_bits : nanBits ∈ lw_cs := by first | decide | exact List.mem_cons_self | simp [lw_cs, nanBits]
-- ===== end of PART A; then your names; then what follows =====
end
section
/-! ===== BEGIN words of one list among another's, by their places ===== -/
theorem goodIn_r {big : List Cond} (ws : List Cond) (ps : List Nat) (hp : ws = ps.filterMap (fun i => big[i]?)) (h : ws.all goodWord = true) : GoodIn big ws := by
  intro w hw
  have h1 := List.all_eq_true.mp h w hw
  rw [hp] at hw
  obtain ⟨i, -, hi⟩ := List.mem_filterMap.mp hw
  have hm : w ∈ big := by first | exact List.mem_of_getElem? hi | exact List.getElem?_mem hi
  exact ⟨hm, good_of_word h1⟩
theorem goodIn_app {big a b : List Cond} (ha : GoodIn big a) (hb : GoodIn big b) : GoodIn big (a ++ b) := fun w h => (List.mem_append.mp h).elim (ha w) (hb w)
theorem goodIn_ca {big a b : List Cond} {c : Cond} (ha : GoodIn big (c :: a)) (hb : GoodIn big b) : GoodIn big (c :: (a ++ b)) := fun w h => (List.mem_cons.mp h).elim (fun e => ha w (List.mem_cons.mpr (Or.inl e))) (fun h => (List.mem_append.mp h).elim (fun h => ha w (List.mem_cons.mpr (Or.inr h))) (hb w))
theorem goodIn_sub {big ws : List Cond} (hm : ∀ w ∈ ws, w ∈ big) (h : ws.all goodWord = true) : GoodIn big ws := fun w hw => ⟨hm w hw, good_of_word (List.all_eq_true.mp h w hw)⟩
/-! ===== END ===== -/

/-! ===== BEGIN exceptions that leave a method, and their catching by the caller (launches without stack traces) ===== -/
section VXA
/-! The laws vx_back, vx_callV, vx_callS, vx_callSW, vx_throw0, vx_throwS follow proofs of the library, with one case more: JvmDerived/Free/Laws.lean (Back.of_free), Shelf42/LK1.lean (callV, callS), Shelf/KitTraced.lean (throwNew0V, throwNewS). -/
/-- where a method has thrown q: the class by its name, the cell, what was written, the world -/
def vx_T (XC : String → State → State → Prop) (st : State) (q : Addr) (t : State) (mc ms : Nat) (free : Addr → Prop) : Prop :=
  ∃ (E : String) (ce : Cell) (L : List Loc), XC E st t ∧ t.heap[q]? = some ce ∧ ce.vm = .none ∧ st.vm.findClass E = some ce.cls ∧ st.WarmedH t.vm ∧ st.sameButNew ({ t with vm := st.vm } : State) L mc ms ∧ ∀ z ∈ L, free z.base
def vx_Q (Qc : Array Value → State → Outcome → State → Prop) (XC : String → State → State → Prop) (mc ms : Nat) (free : Addr → Prop) : Array Value → State → Outcome → State → Prop := fun a st o t =>
  (Qc a st o t ∧ ∃ L, FrameEnd st o t L mc ms ∧ ∀ q ∈ L, free q.base) ∨ ∃ q, o = .threw q ∧ vx_T XC st q t mc ms free
/-- a callee that returns or throws -/
def vx_Met (l : Launch) (y : MethodName) (ws : List Cond) (rm : Room) (Pc : Array Value → State → Prop) (Qc : Array Value → State → Outcome → State → Prop) (XC : String → State → State → Prop) (mc ms : Nat) (free : Addr → Prop) : Prop :=
  MetFree l y (headSpec ws rm) Pc (fun _ _ _ _ _ => True) (vx_Q Qc XC mc ms free)
def vx_Post (XC : String → State → State → Prop) (mc ms : Nat) (free : Addr → Prop) : Pt → Array Value → Addr → Pt → Prop := fun A a q B =>
  ∃ (g : JFrame) (mk : MethodId) (t : State) (L : List Loc) (E : String) (ce : Cell), B.U.heap = t.heap ∧ B.U.vm = t.vm ∧ XC E (A.U.calling g mk a) t ∧ t.heap[q]? = some ce ∧ ce.vm = .none ∧ A.U.vm.findClass E = some ce.cls ∧ B.locs = A.locs ++ L ∧ (∀ z ∈ L, free z.base) ∧ B.cells = A.cells + mc ∧ B.slots = A.slots + ms
def vx_Back (l : Launch) (R : Room) (p : Program) (e : Env) (below : List Frame) (s : State) (sargs : Array Value) (y : MethodName) (len W9 : Nat)
    (Pre : Pt → Array Value → Prop) (Post : Pt → Array Value → Option Value → Pt → Prop) (PostX : Pt → Array Value → Addr → Pt → Prop) : Prop :=
  ∀ (m : MethodId) (meth : Method) (c : Code) (A : Pt) (g : JFrame) (ig : Instr) (mk : MethodId) (a : Array Value),
    Stand p l e R s m sargs below meth c A.U A.locs A.cells A.slots → g.method = m → g.locals.size = c.maxLocals → decode c.code g.pc = .ok (ig, len) →
    2 * g.monitorRoom + (g.stack.map fun v => v.category).sum ≤ W9 → A.U.methodNamed? y = some mk → Pre A a →
    (∃ (v : Option Value) (B : Pt), Stand p l e R s m sargs below meth c B.U B.locs B.cells B.slots ∧ Post A a v B ∧
      Steps p.tables e below (doInvoke e (A.U.setTop g) [] mk a).1 (B.U.setTop { g with pc := g.pc + len, stack := v.toList ++ g.stack })) ∨
    (∃ (q : Addr) (B : Pt), Stand p l e R s m sargs below meth c B.U B.locs B.cells B.slots ∧ PostX A a q B ∧
      Steps p.tables e below (doInvoke e (A.U.setTop g) [] mk a).1 ((B.U.setTop g).pushFrame (.throwing q)))
section Payer
variable {l : Launch} {R : Room} {p : Program} {e : Env} {below : List Frame} {s : State} {sargs : Array Value} {y : MethodName} {len W9 : Nat}
theorem vx_back {ws : List Cond} {rm : Room} {Pc : Array Value → State → Prop} {Qc : Array Value → State → Outcome → State → Prop} {XC : String → State → State → Prop} {mc ms : Nat} {free : Addr → Prop} {bytes : ByteArray} {maxL : Nat} {ret : Option FieldType}
    (hM : vx_Met l y ws rm Pc Qc XC mc ms free) (hblind : FrameBlind Pc) (hrc : rm.cells = mc) (hrs : rm.slots = ms)
    (hframes : rm.frames + 1 ≤ R.frames) (hlocals : W9 + (maxL + 11) + rm.locals ≤ R.locals)
    (hws : ∀ w ∈ ws, ∀ a' U, s.WarmedH U.vm → w.before a' U = true) (hcode : Cond.code y bytes maxL ret ∈ ws) (hinit : ∀ a' U, s.WarmedH U.vm → (Cond.initialized y.cls).before a' U = true) :
    vx_Back l R p e below s sargs y len W9 (PreOf R mc ms Pc) (PostOf Qc mc ms free) (vx_Post XC mc ms free) := by
  intro m meth c A g ig mk a X hg hsize hdg hW hn hp
  have h1 : (headSpec ws rm).pre.before a A.U = true := atoms_intro fun w hw => hws w hw _ _ X.warmed
  have h2 : (Cond.code y bytes maxL ret).before a A.U = true := hws _ hcode _ _ X.warmed
  have h3 : (Cond.initialized y.cls).before a A.U = true := hinit _ _ X.warmed
  have h4 : A.cells + (headSpec ws rm).room.cells ≤ R.cells := by rw [show (headSpec ws rm).room.cells = mc from hrc]; exact hp.1
  have h5 : A.slots + (headSpec ws rm).room.slots ≤ R.slots := by rw [show (headSpec ws rm).room.slots = ms from hrs]; exact hp.2.1
  have hPc : Pc a (A.U.calling g mk a) := hblind _ _ _ _ hp.2.2
  obtain ⟨U, Ls, c0, s0⟩ := A
  dsimp only [Pt.U, Pt.locs, Pt.cells, Pt.slots] at h1 h2 h3 h4 h5 X hn hPc ⊢
  obtain ⟨methY, cY, hmY, hcY, -, hlY, -, -, -, -⟩ := Cond.code_spec hn h2
  obtain ⟨kY, hkY, -⟩ := className_of_methodNamed hn
  have hinitY : kY.init = .initialized := Cond.initialized_spec (findClass_of_methodNamed hn) hkY h3
  have h : At U g.method c below := by rw [hg]; exact X.here
  have hlocals9 : W9 + (maxL + 11) + (headSpec ws rm).room.locals ≤ R.locals := hlocals
  have happ : (headSpec ws rm).appliesLoose y e.platform (U.calling g mk a) = true :=
    Spec.appliesLoose_calling (g := g) h hdg hn hkY hinitY
      (X.room_calling (g := g) (R' := (headSpec ws rm).room) hsize hmY hcY hframes (by rw [hlY]; omega) h4 h5) h1
  obtain ⟨mid, hmid⟩ := h.above
  have hfr : (U.setTop g).frames = (.java g :: mid) ++ below := by rw [State.frames_setTop' g h.top, hmid]; rfl
  obtain ⟨o, s₂, hsteps, -, hend, hq⟩ := Steps.callFree hM p X.admits X.cas X.clock (acts := []) hfr happ hPc trivial
  have hq' : vx_Q Qc XC mc ms free a (U.calling g mk a) o s₂ := hq
  rw [State.frames_setTop' g h.top] at hend
  obtain ⟨g₀, hg0⟩ := Option.isSome_iff_exists.mp h.top
  obtain ⟨r, hr⟩ := State.topJava?_eq_some.mp hg0
  have hr' : (({ U with heap := s₂.heap, slotsUsed := s₂.slotsUsed } : State).setVm s₂.vm).frames = .java g₀ :: r := hr
  rcases hq' with ⟨hqc, L, hfe, hL⟩ | ⟨q, rfl, E, ce, L, hx, hce, hcv, hcl, hW₂, hsm, hL⟩
  · obtain ⟨⟨v, rfl⟩, hW₂, e2, q2, q3, q4, q5, q6⟩ := id hfe
    have e3 : s₂ = ({ (U.calling g mk a).setFrames s₂.frames with heap := s₂.heap, slotsUsed := s₂.slotsUsed } : State).setVm s₂.vm := by
      have : s₂ = ({ s₂ with vm := (U.calling g mk a).vm } : State).setVm s₂.vm := rfl
      rw [e2] at this
      exact this
    obtain ⟨c₂, i₂, len₂, hc₂, hd₂, hf₂⟩ := hend
    have hW' : U.WarmedH s₂.vm := hW₂
    have hcc : c₂ = c := by
      have h1 : s₂.code? g.method = U.code? g.method := by
        rw [State.code?_eq, State.code?_eq, hW'.alike.method?]
      exact Option.some.inj (hc₂.symm.trans (h1.trans h.code))
    subst hcc
    have hlen : len₂ = len := by rw [hdg] at hd₂; cases hd₂; rfl
    subst hlen
    have hs₂ : s₂ = (({ U with heap := s₂.heap, slotsUsed := s₂.slotsUsed } : State).setVm s₂.vm).setTop { g with pc := g.pc + len₂, stack := v.toList ++ g.stack } := by
      refine e3.trans ?_
      rw [hf₂, State.calling_eq h.top, State.setFrames_setFrames, State.setTop_of_frames _ hr', hr]
      rfl
    have hsame : U.sameButNew ({ U with heap := s₂.heap, slotsUsed := s₂.slotsUsed } : State) L mc ms := by
      refine ⟨?_, q2, q3, q4, q5, q6⟩
      obtain ⟨t, ht, -⟩ := State.frames_cons hr
      show ({ U with heap := s₂.heap, slotsUsed := s₂.slotsUsed } : State) = { U.setFrames U.frames with heap := s₂.heap, slotsUsed := s₂.slotsUsed }
      rw [State.setFrames_self ht]
    subst hg
    refine Or.inl ⟨v, ⟨(({ U with heap := s₂.heap, slotsUsed := s₂.slotsUsed } : State).setVm s₂.vm), Ls ++ L, c0 + mc, s0 + ms⟩,
      ⟨X.admits, X.cas, X.clock, X.frames, X.room, X.hears, X.method, X.code, (X.here.setHeapUsed s₂.heap s₂.slotsUsed).setVm hW'.alike, X.tail, State.WarmedH.trans X.warmed hW', X.limits, X.bytes, X.same.trans (hsame.setVm s.vm)⟩,
      ⟨g, mk, s₂, L, rfl, rfl, hqc, rfl, hL, rfl, rfl⟩, ?_⟩
    show Steps p.tables e below _ ((({ U with heap := s₂.heap, slotsUsed := s₂.slotsUsed } : State).setVm s₂.vm).setTop { g with pc := g.pc + len₂, stack := v.toList ++ g.stack })
    rw [← hs₂]
    exact hsteps
  · obtain ⟨e2, q2, q3, q4, q5, q6⟩ := id hsm
    have e3 : s₂ = ({ (U.calling g mk a).setFrames s₂.frames with heap := s₂.heap, slotsUsed := s₂.slotsUsed } : State).setVm s₂.vm := by
      have : s₂ = ({ s₂ with vm := (U.calling g mk a).vm } : State).setVm s₂.vm := rfl
      rw [e2] at this
      exact this
    have hf₂ : s₂.frames = .throwing q :: .java g :: U.frames.tail := hend
    have hW' : U.WarmedH s₂.vm := hW₂
    have hs₂ : s₂ = ((({ U with heap := s₂.heap, slotsUsed := s₂.slotsUsed } : State).setVm s₂.vm).setTop g).pushFrame (.throwing q) := by
      refine e3.trans ?_
      rw [hf₂, State.calling_eq h.top, State.setFrames_setFrames, State.pushFrame, State.frames_setTop _ hr', State.setTop_of_frames _ hr', State.setFrames_setFrames, hr]
      rfl
    have hsame : U.sameButNew ({ U with heap := s₂.heap, slotsUsed := s₂.slotsUsed } : State) L mc ms := by
      refine ⟨?_, q2, q3, q4, q5, q6⟩
      obtain ⟨t, ht, -⟩ := State.frames_cons hr
      show ({ U with heap := s₂.heap, slotsUsed := s₂.slotsUsed } : State) = { U.setFrames U.frames with heap := s₂.heap, slotsUsed := s₂.slotsUsed }
      rw [State.setFrames_self ht]
    subst hg
    refine Or.inr ⟨q, ⟨(({ U with heap := s₂.heap, slotsUsed := s₂.slotsUsed } : State).setVm s₂.vm), Ls ++ L, c0 + mc, s0 + ms⟩,
      ⟨X.admits, X.cas, X.clock, X.frames, X.room, X.hears, X.method, X.code, (X.here.setHeapUsed s₂.heap s₂.slotsUsed).setVm hW'.alike, X.tail, State.WarmedH.trans X.warmed hW', X.limits, X.bytes, X.same.trans (hsame.setVm s.vm)⟩,
      ⟨g, mk, s₂, L, E, ce, rfl, rfl, hx, hce, hcv, hcl, rfl, hL, rfl, rfl⟩, ?_⟩
    show Steps p.tables e below _ (((({ U with heap := s₂.heap, slotsUsed := s₂.slotsUsed } : State).setVm s₂.vm).setTop g).pushFrame (.throwing q))
    rw [← hs₂]
    exact hsteps
end Payer
section Calls
variable {p : Program} {l : Launch} {e : Env} {R : Room} {s : State} {m : MethodId} {args : Array Value} {below : List Frame} {meth : Method} {c : Code} {T : State} {locs : List Loc} {cells slots : Nat}
theorem vx_callV (X : Stand p l e R s m args below meth c T locs cells slots) (hexec : p.tables.exec = Jvm.exec) {own C : String} {index : Nat} {y : MethodName} {bytes : ByteArray} {maxL : Nat} {ret : Option FieldType}
    (hown : s.vm.findClass own = some m.cls) (hlink : (Cond.methodLink own index y).before args s = true) (hinst : (Cond.instanceMethod y).before args s = true) (hsel : (Cond.selects C y y).before args s = true)
    (hcode : (Cond.code y bytes maxL ret).before args s = true) (hy : y.cls ≠ "java/lang/invoke/MethodHandle" ∧ y.cls ≠ "java/lang/invoke/VarHandle")
    {W9 : Nat} {Pre : Pt → Array Value → Prop} {Post : Pt → Array Value → Option Value → Pt → Prop} {PostX : Pt → Array Value → Addr → Pt → Prop} (hK : vx_Back l R p e below s args y 3 W9 Pre Post PostX)
    {b : Addr} {cellB : Cell} (hcell : T.heap[b]? = some cellB) (hobj : cellB.vm.isStatics = false) (hcls : s.vm.findClass C = some cellB.cls)
    {g : JFrame} (hg : g.method = m) (hsize : g.locals.size = c.maxLocals) {argsL rest : List Value} (hlen : ∀ sig, parseMethodDescriptor y.desc = some sig → argsL.length = sig.parameters.length)
    (hstack : g.stack = argsL.reverse ++ .ref b :: rest) (hW : 2 * g.monitorRoom + (rest.map fun v => v.category).sum ≤ W9) (hdg : decode c.code g.pc = .ok (.invokevirtual index, 3))
    (hpre : ∀ vm₁, s.WarmedH vm₁ → Pre ⟨T.setVm vm₁, locs, cells, slots⟩ (Value.ref b :: argsL).toArray) :
    (∃ (v : Option Value) (vm₁ : Vm) (B : Pt), s.WarmedH vm₁ ∧ Stand p l e R s m args below meth c B.U B.locs B.cells B.slots ∧ Post ⟨T.setVm vm₁, locs, cells, slots⟩ (Value.ref b :: argsL).toArray v B ∧
      ∀ target, Steps p.tables e below (B.U.setTop { g with pc := g.pc + 3, stack := v.toList ++ rest }) target → Steps p.tables e below (T.setTop g) target) ∨
    (∃ (q : Addr) (vm₁ : Vm) (B : Pt), s.WarmedH vm₁ ∧ Stand p l e R s m args below meth c B.U B.locs B.cells B.slots ∧ PostX ⟨T.setVm vm₁, locs, cells, slots⟩ (Value.ref b :: argsL).toArray q B ∧
      Steps p.tables e below (T.setTop g) ((B.U.setTop { g with stack := rest }).pushFrame (.throwing q))) := by
  obtain ⟨mk, methM, hnamed, hmethM, hstM, habM⟩ := Cond.instanceMethod_spec hinst
  obtain ⟨methM', cM, hmethM', -, -, -, -, -, -, hsigM⟩ := Cond.code_spec hnamed hcode
  cases hmethM.symm.trans hmethM'
  obtain ⟨c2, r2, m2, q1, q2, q3, q4, kP, hkP, hkPi⟩ := Cond.selects_spec hsel
  cases hcls.symm.trans q1
  cases (State.methodFound?_of_named hnamed hy).symm.trans q2
  cases hnamed.symm.trans q3
  have hselP : selectMethod e.platform s.vm cellB.cls mk = .method mk := by rw [Launch.admits_selectMethod X.admits]; exact q4
  obtain ⟨vm₁, X₁, hstep₁⟩ := X.invokevirtual hexec hown hlink hnamed hmethM hstM hkP hkPi hy (a := b) (cell := cellB) hcell
    (fun z h => by rw [h] at hobj; cases hobj) hselP hmethM habM hkP hkPi (g := g) hg (argsL := argsL) (rest := rest) (hlen _ hsigM) hstack hdg
  rcases hK m meth c ⟨T.setVm vm₁, locs, cells, slots⟩ { g with stack := rest } (.invokevirtual index) mk (Value.ref b :: argsL).toArray X₁ hg hsize hdg hW (X₁.named hnamed) (hpre vm₁ X₁.warmed) with ⟨v, B, X', hpost, hsteps⟩ | ⟨q, B, X', hpost, hsteps⟩
  · exact Or.inl ⟨v, vm₁, B, X₁.warmed, X', hpost, fun target h => hstep₁ _ fun acts => by rw [doInvoke_state]; exact hsteps.trans h⟩
  · exact Or.inr ⟨q, vm₁, B, X₁.warmed, X', hpost, hstep₁ _ fun acts => by rw [doInvoke_state]; exact hsteps⟩
theorem vx_callS (X : Stand p l e R s m args below meth c T locs cells slots) (hexec : p.tables.exec = Jvm.exec) {own : String} {index : Nat} {y : MethodName} {bytes : ByteArray} {maxL : Nat} {ret : Option FieldType}
    (hown : s.vm.findClass own = some m.cls) (hlink : (Cond.methodLink own index y).before args s = true) (hstat : (Cond.static y).before args s = true) (hinit : (Cond.initialized y.cls).before args s = true)
    (hcode : (Cond.code y bytes maxL ret).before args s = true) (hy : y.cls ≠ "java/lang/invoke/MethodHandle" ∧ y.cls ≠ "java/lang/invoke/VarHandle")
    {W9 : Nat} {Pre : Pt → Array Value → Prop} {Post : Pt → Array Value → Option Value → Pt → Prop} {PostX : Pt → Array Value → Addr → Pt → Prop} (hK : vx_Back l R p e below s args y 3 W9 Pre Post PostX)
    {g : JFrame} (hg : g.method = m) (hsize : g.locals.size = c.maxLocals) {argsL rest : List Value} (hlen : ∀ sig, parseMethodDescriptor y.desc = some sig → argsL.length = sig.parameters.length)
    (hstack : g.stack = argsL.reverse ++ rest) (hW : 2 * g.monitorRoom + (rest.map fun v => v.category).sum ≤ W9) (hdg : decode c.code g.pc = .ok (.invokestatic index, 3))
    (hpre : ∀ vm₁, s.WarmedH vm₁ → Pre ⟨T.setVm vm₁, locs, cells, slots⟩ argsL.toArray) :
    (∃ (v : Option Value) (vm₁ : Vm) (B : Pt), s.WarmedH vm₁ ∧ Stand p l e R s m args below meth c B.U B.locs B.cells B.slots ∧ Post ⟨T.setVm vm₁, locs, cells, slots⟩ argsL.toArray v B ∧
      ∀ target, Steps p.tables e below (B.U.setTop { g with pc := g.pc + 3, stack := v.toList ++ rest }) target → Steps p.tables e below (T.setTop g) target) ∨
    (∃ (q : Addr) (vm₁ : Vm) (B : Pt), s.WarmedH vm₁ ∧ Stand p l e R s m args below meth c B.U B.locs B.cells B.slots ∧ PostX ⟨T.setVm vm₁, locs, cells, slots⟩ argsL.toArray q B ∧
      Steps p.tables e below (T.setTop g) ((B.U.setTop { g with stack := rest }).pushFrame (.throwing q))) := by
  obtain ⟨mk, hnamed⟩ := Cond.code_named hcode
  obtain ⟨methM, cM, hmethM, -, -, -, -, -, -, hsigM⟩ := Cond.code_spec hnamed hcode
  have hstatic : methM.isStatic = true := Cond.static_spec hnamed hmethM hstat
  obtain ⟨kP, hkP, -⟩ := className_of_methodNamed hnamed
  have hinitP : kP.init = .initialized := Cond.initialized_spec (findClass_of_methodNamed hnamed) hkP hinit
  obtain ⟨vm₁, X₁, hstep₁⟩ := X.invokestatic hexec hown hlink hnamed hmethM hstatic hkP hinitP hy (g := g) hg (argsL := argsL) (rest := rest) (hlen _ hsigM) hstack hdg
  rcases hK m meth c ⟨T.setVm vm₁, locs, cells, slots⟩ { g with stack := rest } (.invokestatic index) mk argsL.toArray X₁ hg hsize hdg hW (X₁.named hnamed) (hpre vm₁ X₁.warmed) with ⟨v, B, X', hpost, hsteps⟩ | ⟨q, B, X', hpost, hsteps⟩
  · exact Or.inl ⟨v, vm₁, B, X₁.warmed, X', hpost, fun target h => hstep₁ _ fun acts => by rw [doInvoke_state]; exact hsteps.trans h⟩
  · exact Or.inr ⟨q, vm₁, B, X₁.warmed, X', hpost, hstep₁ _ fun acts => by rw [doInvoke_state]; exact hsteps⟩
end Calls
theorem vx_cls {s : State} {T : State} {vm₁ : Vm} {E : String} {k : ClassId} (hW : s.WarmedH vm₁) (h : (T.setVm vm₁).vm.findClass E = some k) : s.vm.findClass E = some k := by
  have h1 : vm₁.findClass E = some k := h
  rw [hW.alike.findClass] at h1
  exact h1
/-- the method's frame g, with q thrown over it -/
def vx_W (p : Program) (l : Launch) (e : Env) (R : Room) (s : State) (m : MethodId) (args : Array Value) (below : List Frame) (meth : Method) (c : Code) (H : Heap) (locs : List Loc) (cells slots : Nat) (Q : State → Prop) (g : JFrame) (q : Addr) : Prop :=
  ∀ T : State, T.heap = H → Stand p l e R s m args below meth c T locs cells slots → ∃ t, Steps p.tables e below ((T.setTop g).pushFrame (.throwing q)) t ∧ Q t
def vx_Run (p : Program) (l : Launch) (e : Env) (R : Room) (s : State) (m : MethodId) (args : Array Value) (below : List Frame) (meth : Method) (c : Code) (H : Heap) (locs : List Loc) (cells slots mc ms : Nat) (g : JFrame) (rest : List Value) (Qa : State → Outcome → State → Prop) (XC : String → State → State → Prop) (free : Addr → Prop) : Prop :=
  ∀ T : State, T.heap = H → Stand p l e R s m args below meth c T locs cells slots →
    (∃ (v : Option Value) (st₀ t T' : State) (L : List Loc), st₀.heap = H ∧ Stand p l e R s m args below meth c T' (locs ++ L) (cells + mc) (slots + ms) ∧ (∀ q ∈ L, free q.base) ∧ T'.heap = t.heap ∧ T'.vm = t.vm ∧ Qa st₀ (.returned v) t ∧
      Goes p e below T g T' { g with pc := g.pc + 3, stack := v.toList ++ rest }) ∨
    (∃ (q : Addr) (st₀ t T' : State) (L : List Loc) (E : String) (ce : Cell), st₀.heap = H ∧ Stand p l e R s m args below meth c T' (locs ++ L) (cells + mc) (slots + ms) ∧ (∀ z ∈ L, free z.base) ∧ T'.heap = t.heap ∧ T'.vm = t.vm ∧ XC E st₀ t ∧ t.heap[q]? = some ce ∧ ce.vm = .none ∧ s.vm.findClass E = some ce.cls ∧
      Steps p.tables e below (T.setTop g) ((T'.setTop { g with stack := rest }).pushFrame (.throwing q)))
def vx_X {S : Type} (px : S → Prop) (B : String → S → State → Prop) (A : Nat → Prop) : String → State → State → Prop := fun E st t => ∃ u : S, px u ∧ B E u t ∧ va_F A st t
section Runs
variable {p : Program} {l : Launch} {e : Env} {R : Room} {s : State} {m : MethodId} {args : Array Value} {below : List Frame} {meth : Method} {c : Code} {H : Heap} {locs : List Loc} {cells slots : Nat}
variable {y : MethodName} {bytes cc : ByteArray} {maxL nL mc ms n index : Nat} {ret : Option FieldType} {ws : List Cond} {rm : Room} {Pc : Array Value → State → Prop} {Qc : Array Value → State → Outcome → State → Prop} {XC : String → State → State → Prop} {free : Addr → Prop} {Ts : List Cond} {own C : String} {b : Addr} {As rest : List Value} {g : JFrame}
theorem vx_callBack (cb : CallB R s args own index y bytes maxL ret ws rm mc ms n) (hM : vx_Met l y ws rm Pc Qc XC mc ms free) (hbl : FrameBlind Pc) : vx_Back l R p e below s args y 3 8 (PreOf R mc ms Pc) (PostOf Qc mc ms free) (vx_Post XC mc ms free) := by
  obtain ⟨hrc, hrs, hfr, hlo, hws, hcw, -, hini, -⟩ := cb
  exact vx_back (bytes := bytes) (maxL := maxL) (ret := ret) hM hbl hrc hrs hfr hlo hws hcw (fun a' U hW => word_at hW (Or.inl (by first | rfl | simp [Cond.onTables, Cond.keeps, Cond.steady])) hini)
theorem vx_runV (S : CallFix p m c cc nL s args Ts own) (hM : vx_Met l y ws rm Pc Qc XC mc ms free) (cw : CallW R s args own C index y bytes maxL ret ws rm mc ms n) (hp : PreV s H C b Pc As)
    (hg : g.method = m) (hn : As.length = n) (hsize : g.locals.size = nL) (hstack : g.stack = As.reverse ++ .ref b :: rest) (hW : 2 * g.monitorRoom + (rest.map fun v => v.category).sum ≤ 8) (hdg : decode cc g.pc = .ok (.invokevirtual index, 3)) (hf : cells + mc ≤ R.cells ∧ slots + ms ≤ R.slots) :
    vx_Run p l e R s m args below meth c H locs cells slots mc ms g rest (Qc (Value.ref b :: As).toArray) XC free := by
  have hK : vx_Back l R p e below s args y 3 8 (PreOf R mc ms Pc) (PostOf Qc mc ms free) (vx_Post XC mc ms free) := vx_callBack cw.1 hM hp.1
  obtain ⟨⟨-, -, -, -, -, -, hcode, -, hy, hlen, hl⟩, hin, hse⟩ := cw
  obtain ⟨hx, hb, hml, ho, -⟩ := S
  obtain ⟨-, ⟨cellB, hcB, hoB, hclB⟩, hPc⟩ := hp
  intro T hT X
  rcases vx_callV X hx (C := C) (bytes := bytes) (maxL := maxL) (ret := ret) ho hl hin hse hcode hy hK (by rw [hT]; exact hcB) hoB hclB hg (hsize.trans hml.symm) (argsL := As) (rest := rest) (fun sig h => hn.trans (hlen sig h)) hstack hW (by rw [hb]; exact hdg)
    (fun vm₁ hW₁ => ⟨hf.1, hf.2, hPc (T.setVm vm₁) hT hW₁⟩) with ⟨v, vm₁, ⟨U', l2, c2, s2⟩, hW₁, X', ⟨g', mk, t, L, e1, e2, hq, h1, hL, h2, h3⟩, st⟩ | ⟨q, vm₁, ⟨U', l2, c2, s2⟩, hW₁, X', ⟨g', mk, t, L, E, ce, e1, e2, hq, hce, hcv, hcl, h1, hL, h2, h3⟩, st⟩
  · dsimp only [Pt.U, Pt.locs, Pt.cells, Pt.slots] at X' e1 e2 h1 h2 h3 st
    subst h1; subst h2; subst h3
    exact Or.inl ⟨v, (T.setVm vm₁).calling g' mk (Value.ref b :: As).toArray, t, U', L, hT, X', hL, e1, e2, hq, st⟩
  · dsimp only [Pt.U, Pt.locs, Pt.cells, Pt.slots] at X' e1 e2 h1 h2 h3 st hcl
    subst h1; subst h2; subst h3
    exact Or.inr ⟨q, (T.setVm vm₁).calling g' mk (Value.ref b :: As).toArray, t, U', L, E, ce, hT, X', hL, e1, e2, hq, hce, hcv, vx_cls hW₁ hcl, st⟩
theorem vx_runS (S : CallFix p m c cc nL s args Ts own) (hM : vx_Met l y ws rm Pc Qc XC mc ms free) (cw : CallB R s args own index y bytes maxL ret ws rm mc ms n ∧ (Cond.static y).before args s = true) (hp : PreS s H Pc As)
    (hg : g.method = m) (hn : As.length = n) (hsize : g.locals.size = nL) (hstack : g.stack = As.reverse ++ rest) (hW : 2 * g.monitorRoom + (rest.map fun v => v.category).sum ≤ 8) (hdg : decode cc g.pc = .ok (.invokestatic index, 3)) (hf : cells + mc ≤ R.cells ∧ slots + ms ≤ R.slots) :
    vx_Run p l e R s m args below meth c H locs cells slots mc ms g rest (Qc As.toArray) XC free := by
  have hK : vx_Back l R p e below s args y 3 8 (PreOf R mc ms Pc) (PostOf Qc mc ms free) (vx_Post XC mc ms free) := vx_callBack cw.1 hM hp.1
  obtain ⟨⟨-, -, -, -, -, -, hcode, hini, hy, hlen, hl⟩, hstt⟩ := cw
  obtain ⟨hx, hb, hml, ho, -⟩ := S
  intro T hT X
  rcases vx_callS X hx (bytes := bytes) (maxL := maxL) (ret := ret) ho hl hstt hini hcode hy hK hg (hsize.trans hml.symm) (argsL := As) (rest := rest) (fun sig h => hn.trans (hlen sig h)) hstack hW (by rw [hb]; exact hdg)
    (fun vm₁ hW₁ => ⟨hf.1, hf.2, hp.2 (T.setVm vm₁) hT hW₁⟩) with ⟨v, vm₁, ⟨U', l2, c2, s2⟩, hW₁, X', ⟨g', mk, t, L, e1, e2, hq, h1, hL, h2, h3⟩, st⟩ | ⟨q, vm₁, ⟨U', l2, c2, s2⟩, hW₁, X', ⟨g', mk, t, L, E, ce, e1, e2, hq, hce, hcv, hcl, h1, hL, h2, h3⟩, st⟩
  · dsimp only [Pt.U, Pt.locs, Pt.cells, Pt.slots] at X' e1 e2 h1 h2 h3 st
    subst h1; subst h2; subst h3
    exact Or.inl ⟨v, (T.setVm vm₁).calling g' mk As.toArray, t, U', L, hT, X', hL, e1, e2, hq, st⟩
  · dsimp only [Pt.U, Pt.locs, Pt.cells, Pt.slots] at X' e1 e2 h1 h2 h3 st hcl
    subst h1; subst h2; subst h3
    exact Or.inr ⟨q, (T.setVm vm₁).calling g' mk As.toArray, t, U', L, E, ce, hT, X', hL, e1, e2, hq, hce, hcv, vx_cls hW₁ hcl, st⟩
end Runs
section Rows
variable {p : Program} {l : Launch} {e : Env} {R : Room} {s : State} {m : MethodId} {args : Array Value} {below : List Frame} {meth : Method} {c : Code} {H : Heap} {locs : List Loc} {cells slots : Nat} {Q : State → Prop}
variable {mc ms : Nat} {free : Addr → Prop} {A0 A1 : Nat → Prop} {H0 : Heap} {a : Array Value} {pc : Nat} {ls : Array Slot} {st0 rest : List Value}
theorem vx_keep {st₀ t T' : State} {L : List Loc} (h0 : st₀.heap = H) (e1 : T'.heap = t.heap) (hS : va_S A0 H0 H locs) (hA : ∀ q, q < H.size → A1 q → A0 q) (hf : ∀ q, free q → A0 q) (hL : ∀ q ∈ L, free q.base) (hF : va_F A1 st₀ t) :
    H.size ≤ T'.heap.size ∧ (∀ q : Nat, q < H.size → ¬ A1 q → T'.heap[q]? = H[q]?) ∧ va_S A0 H0 T'.heap (locs ++ L) := by
  obtain ⟨hz, hk⟩ := hF
  rw [h0] at hz hk
  exact ⟨by rw [e1]; exact hz, fun q h1 h2 => by rw [e1]; exact hk q h1 h2,
    ⟨Nat.le_trans hS.1 (by rw [e1]; exact hz), fun q h1 h2 => by rw [e1, hk q (Nat.lt_of_lt_of_le h1 hS.1) (fun z => h2 (hA q (Nat.lt_of_lt_of_le h1 hS.1) z))]; exact hS.2.1 q h1 h2, fun q hq => by
      rcases List.mem_append.mp hq with h | h
      · exact hS.2.2 q h
      · exact hf _ (hL q h)⟩⟩
theorem vx_calli {S SX : Type} {post : Int32 → S → Prop} {px : SX → Prop} {B : S → State → Prop} {BX : String → SX → State → Prop} {AX : Nat → Prop} (hr : vx_Run p l e R s m args below meth c H locs cells slots mc ms (F0 m pc ls st0) rest (va_Qi post B A1 a) (vx_X px BX AX) free) (hS : va_S A0 H0 H locs) (hA : ∀ q, q < H.size → A1 q → A0 q) (hf : ∀ q, free q → A0 q) (hAX : ∀ q, q < H.size → AX q → A0 q)
    (kx : ∀ (E : String) (ce : Cell) (q9 : Addr) (u : SX) (t : State) (H1 : Heap) (locs1 : List Loc), t.heap = H1 → s.vm.Alike t.vm → px u → BX E u t → H.size ≤ H1.size → (∀ q : Nat, q < H.size → ¬ AX q → H1[q]? = H[q]?) → va_S A0 H0 H1 locs1 → H1[q9]? = some ce → ce.vm = .none → s.vm.findClass E = some ce.cls → vx_W p l e R s m args below meth c H1 locs1 (cells + mc) (slots + ms) Q (F0 m pc ls rest) q9)
    (kk : ∀ (r : Int32) (u : S) (t : State) (H1 : Heap) (locs1 : List Loc), t.heap = H1 → s.vm.Alike t.vm → post r u → B u t → H.size ≤ H1.size → (∀ q : Nat, q < H.size → ¬ A1 q → H1[q]? = H[q]?) → va_S A0 H0 H1 locs1 → W p l e R s m args below meth c H1 locs1 (cells + mc) (slots + ms) Q (F0 m (pc + 3) ls (.int r :: rest))) : W p l e R s m args below meth c H locs cells slots Q (F0 m pc ls st0) := by
  intro T hT X
  rcases hr T hT X with ⟨v, st₀, t, T', L, h0, X', hL, e1, e2, ⟨⟨r, u, hv, hp, hb⟩, hF⟩, st⟩ | ⟨q, st₀, t, T', L, E, ce, h0, X', hL, e1, e2, ⟨u, hp, hb, hF⟩, hce, hcv, hcl, st⟩
  · cases hv
    obtain ⟨k1, k2, k3⟩ := vx_keep h0 e1 hS hA hf hL hF
    obtain ⟨t2, a1, b1⟩ := kk r u t T'.heap (locs ++ L) e1.symm (by rw [← e2]; exact X'.warmed.alike) hp hb k1 k2 k3 T' rfl X'
    exact ⟨t2, st t2 a1, b1⟩
  · obtain ⟨k1, k2, k3⟩ := vx_keep h0 e1 hS hAX hf hL hF
    obtain ⟨t2, a1, b1⟩ := kx E ce q u t T'.heap (locs ++ L) e1.symm (by rw [← e2]; exact X'.warmed.alike) hp hb k1 k2 k3 (by rw [e1]; exact hce) hcv hcl T' rfl X'
    exact ⟨t2, st.trans a1, b1⟩
theorem vx_calll {S SX : Type} {post : Int64 → S → Prop} {px : SX → Prop} {B : S → State → Prop} {BX : String → SX → State → Prop} {AX : Nat → Prop} (hr : vx_Run p l e R s m args below meth c H locs cells slots mc ms (F0 m pc ls st0) rest (va_Ql post B A1 a) (vx_X px BX AX) free) (hS : va_S A0 H0 H locs) (hA : ∀ q, q < H.size → A1 q → A0 q) (hf : ∀ q, free q → A0 q) (hAX : ∀ q, q < H.size → AX q → A0 q)
    (kx : ∀ (E : String) (ce : Cell) (q9 : Addr) (u : SX) (t : State) (H1 : Heap) (locs1 : List Loc), t.heap = H1 → s.vm.Alike t.vm → px u → BX E u t → H.size ≤ H1.size → (∀ q : Nat, q < H.size → ¬ AX q → H1[q]? = H[q]?) → va_S A0 H0 H1 locs1 → H1[q9]? = some ce → ce.vm = .none → s.vm.findClass E = some ce.cls → vx_W p l e R s m args below meth c H1 locs1 (cells + mc) (slots + ms) Q (F0 m pc ls rest) q9)
    (kk : ∀ (r : Int64) (u : S) (t : State) (H1 : Heap) (locs1 : List Loc), t.heap = H1 → s.vm.Alike t.vm → post r u → B u t → H.size ≤ H1.size → (∀ q : Nat, q < H.size → ¬ A1 q → H1[q]? = H[q]?) → va_S A0 H0 H1 locs1 → W p l e R s m args below meth c H1 locs1 (cells + mc) (slots + ms) Q (F0 m (pc + 3) ls (.long r :: rest))) : W p l e R s m args below meth c H locs cells slots Q (F0 m pc ls st0) := by
  intro T hT X
  rcases hr T hT X with ⟨v, st₀, t, T', L, h0, X', hL, e1, e2, ⟨⟨r, u, hv, hp, hb⟩, hF⟩, st⟩ | ⟨q, st₀, t, T', L, E, ce, h0, X', hL, e1, e2, ⟨u, hp, hb, hF⟩, hce, hcv, hcl, st⟩
  · cases hv
    obtain ⟨k1, k2, k3⟩ := vx_keep h0 e1 hS hA hf hL hF
    obtain ⟨t2, a1, b1⟩ := kk r u t T'.heap (locs ++ L) e1.symm (by rw [← e2]; exact X'.warmed.alike) hp hb k1 k2 k3 T' rfl X'
    exact ⟨t2, st t2 a1, b1⟩
  · obtain ⟨k1, k2, k3⟩ := vx_keep h0 e1 hS hAX hf hL hF
    obtain ⟨t2, a1, b1⟩ := kx E ce q u t T'.heap (locs ++ L) e1.symm (by rw [← e2]; exact X'.warmed.alike) hp hb k1 k2 k3 (by rw [e1]; exact hce) hcv hcl T' rfl X'
    exact ⟨t2, st.trans a1, b1⟩
theorem vx_callf {S SX : Type} {post : UInt32 → S → Prop} {px : SX → Prop} {B : S → State → Prop} {BX : String → SX → State → Prop} {AX : Nat → Prop} (hr : vx_Run p l e R s m args below meth c H locs cells slots mc ms (F0 m pc ls st0) rest (va_Qf post B A1 a) (vx_X px BX AX) free) (hS : va_S A0 H0 H locs) (hA : ∀ q, q < H.size → A1 q → A0 q) (hf : ∀ q, free q → A0 q) (hAX : ∀ q, q < H.size → AX q → A0 q)
    (kx : ∀ (E : String) (ce : Cell) (q9 : Addr) (u : SX) (t : State) (H1 : Heap) (locs1 : List Loc), t.heap = H1 → s.vm.Alike t.vm → px u → BX E u t → H.size ≤ H1.size → (∀ q : Nat, q < H.size → ¬ AX q → H1[q]? = H[q]?) → va_S A0 H0 H1 locs1 → H1[q9]? = some ce → ce.vm = .none → s.vm.findClass E = some ce.cls → vx_W p l e R s m args below meth c H1 locs1 (cells + mc) (slots + ms) Q (F0 m pc ls rest) q9)
    (kk : ∀ (r : UInt32) (u : S) (t : State) (H1 : Heap) (locs1 : List Loc), t.heap = H1 → s.vm.Alike t.vm → post r u → B u t → H.size ≤ H1.size → (∀ q : Nat, q < H.size → ¬ A1 q → H1[q]? = H[q]?) → va_S A0 H0 H1 locs1 → W p l e R s m args below meth c H1 locs1 (cells + mc) (slots + ms) Q (F0 m (pc + 3) ls (.float r :: rest))) : W p l e R s m args below meth c H locs cells slots Q (F0 m pc ls st0) := by
  intro T hT X
  rcases hr T hT X with ⟨v, st₀, t, T', L, h0, X', hL, e1, e2, ⟨⟨r, u, hv, hp, hb⟩, hF⟩, st⟩ | ⟨q, st₀, t, T', L, E, ce, h0, X', hL, e1, e2, ⟨u, hp, hb, hF⟩, hce, hcv, hcl, st⟩
  · cases hv
    obtain ⟨k1, k2, k3⟩ := vx_keep h0 e1 hS hA hf hL hF
    obtain ⟨t2, a1, b1⟩ := kk r u t T'.heap (locs ++ L) e1.symm (by rw [← e2]; exact X'.warmed.alike) hp hb k1 k2 k3 T' rfl X'
    exact ⟨t2, st t2 a1, b1⟩
  · obtain ⟨k1, k2, k3⟩ := vx_keep h0 e1 hS hAX hf hL hF
    obtain ⟨t2, a1, b1⟩ := kx E ce q u t T'.heap (locs ++ L) e1.symm (by rw [← e2]; exact X'.warmed.alike) hp hb k1 k2 k3 (by rw [e1]; exact hce) hcv hcl T' rfl X'
    exact ⟨t2, st.trans a1, b1⟩
theorem vx_calld {S SX : Type} {post : UInt64 → S → Prop} {px : SX → Prop} {B : S → State → Prop} {BX : String → SX → State → Prop} {AX : Nat → Prop} (hr : vx_Run p l e R s m args below meth c H locs cells slots mc ms (F0 m pc ls st0) rest (va_Qd post B A1 a) (vx_X px BX AX) free) (hS : va_S A0 H0 H locs) (hA : ∀ q, q < H.size → A1 q → A0 q) (hf : ∀ q, free q → A0 q) (hAX : ∀ q, q < H.size → AX q → A0 q)
    (kx : ∀ (E : String) (ce : Cell) (q9 : Addr) (u : SX) (t : State) (H1 : Heap) (locs1 : List Loc), t.heap = H1 → s.vm.Alike t.vm → px u → BX E u t → H.size ≤ H1.size → (∀ q : Nat, q < H.size → ¬ AX q → H1[q]? = H[q]?) → va_S A0 H0 H1 locs1 → H1[q9]? = some ce → ce.vm = .none → s.vm.findClass E = some ce.cls → vx_W p l e R s m args below meth c H1 locs1 (cells + mc) (slots + ms) Q (F0 m pc ls rest) q9)
    (kk : ∀ (r : UInt64) (u : S) (t : State) (H1 : Heap) (locs1 : List Loc), t.heap = H1 → s.vm.Alike t.vm → post r u → B u t → H.size ≤ H1.size → (∀ q : Nat, q < H.size → ¬ A1 q → H1[q]? = H[q]?) → va_S A0 H0 H1 locs1 → W p l e R s m args below meth c H1 locs1 (cells + mc) (slots + ms) Q (F0 m (pc + 3) ls (.double r :: rest))) : W p l e R s m args below meth c H locs cells slots Q (F0 m pc ls st0) := by
  intro T hT X
  rcases hr T hT X with ⟨v, st₀, t, T', L, h0, X', hL, e1, e2, ⟨⟨r, u, hv, hp, hb⟩, hF⟩, st⟩ | ⟨q, st₀, t, T', L, E, ce, h0, X', hL, e1, e2, ⟨u, hp, hb, hF⟩, hce, hcv, hcl, st⟩
  · cases hv
    obtain ⟨k1, k2, k3⟩ := vx_keep h0 e1 hS hA hf hL hF
    obtain ⟨t2, a1, b1⟩ := kk r u t T'.heap (locs ++ L) e1.symm (by rw [← e2]; exact X'.warmed.alike) hp hb k1 k2 k3 T' rfl X'
    exact ⟨t2, st t2 a1, b1⟩
  · obtain ⟨k1, k2, k3⟩ := vx_keep h0 e1 hS hAX hf hL hF
    obtain ⟨t2, a1, b1⟩ := kx E ce q u t T'.heap (locs ++ L) e1.symm (by rw [← e2]; exact X'.warmed.alike) hp hb k1 k2 k3 (by rw [e1]; exact hce) hcv hcl T' rfl X'
    exact ⟨t2, st.trans a1, b1⟩
theorem vx_callv {S SX : Type} {post : S → Prop} {px : SX → Prop} {B : S → State → Prop} {BX : String → SX → State → Prop} {AX : Nat → Prop} (hr : vx_Run p l e R s m args below meth c H locs cells slots mc ms (F0 m pc ls st0) rest (va_Qv post B A1 a) (vx_X px BX AX) free) (hS : va_S A0 H0 H locs) (hA : ∀ q, q < H.size → A1 q → A0 q) (hf : ∀ q, free q → A0 q) (hAX : ∀ q, q < H.size → AX q → A0 q)
    (kx : ∀ (E : String) (ce : Cell) (q9 : Addr) (u : SX) (t : State) (H1 : Heap) (locs1 : List Loc), t.heap = H1 → s.vm.Alike t.vm → px u → BX E u t → H.size ≤ H1.size → (∀ q : Nat, q < H.size → ¬ AX q → H1[q]? = H[q]?) → va_S A0 H0 H1 locs1 → H1[q9]? = some ce → ce.vm = .none → s.vm.findClass E = some ce.cls → vx_W p l e R s m args below meth c H1 locs1 (cells + mc) (slots + ms) Q (F0 m pc ls rest) q9)
    (kk : ∀ (u : S) (t : State) (H1 : Heap) (locs1 : List Loc), t.heap = H1 → s.vm.Alike t.vm → post u → B u t → H.size ≤ H1.size → (∀ q : Nat, q < H.size → ¬ A1 q → H1[q]? = H[q]?) → va_S A0 H0 H1 locs1 → W p l e R s m args below meth c H1 locs1 (cells + mc) (slots + ms) Q (F0 m (pc + 3) ls (rest))) : W p l e R s m args below meth c H locs cells slots Q (F0 m pc ls st0) := by
  intro T hT X
  rcases hr T hT X with ⟨v, st₀, t, T', L, h0, X', hL, e1, e2, ⟨⟨u, hv, hp, hb⟩, hF⟩, st⟩ | ⟨q, st₀, t, T', L, E, ce, h0, X', hL, e1, e2, ⟨u, hp, hb, hF⟩, hce, hcv, hcl, st⟩
  · cases hv
    obtain ⟨k1, k2, k3⟩ := vx_keep h0 e1 hS hA hf hL hF
    obtain ⟨t2, a1, b1⟩ := kk u t T'.heap (locs ++ L) e1.symm (by rw [← e2]; exact X'.warmed.alike) hp hb k1 k2 k3 T' rfl X'
    exact ⟨t2, st t2 a1, b1⟩
  · obtain ⟨k1, k2, k3⟩ := vx_keep h0 e1 hS hAX hf hL hF
    obtain ⟨t2, a1, b1⟩ := kx E ce q u t T'.heap (locs ++ L) e1.symm (by rw [← e2]; exact X'.warmed.alike) hp hb k1 k2 k3 (by rw [e1]; exact hce) hcv hcl T' rfl X'
    exact ⟨t2, st.trans a1, b1⟩
/-- caught by the row x of this method's table; the rows ahead don't take it -/
theorem vx_catch {own name : String} {E : String} {ce : Cell} {q : Addr} (hown : s.vm.findClass own = some m.cls) (pre : List ExceptionTableEntry) (x : ExceptionTableEntry) (suf : List ExceptionTableEntry) (hsplit : c.exceptionTable.toList = pre ++ x :: suf)
    (hpass : ∀ z ∈ pre, covers z pc = false ∨ (z.catchType ≠ 0 ∧ ∃ nm : String, (Cond.classLink own z.catchType nm).before args s = true ∧ va_Nc E nm s)) (hx : covers x pc = true) (h0 : x.catchType ≠ 0)
    (hlink : (Cond.classLink own x.catchType name).before args s = true) (hcast : (Cond.castable E name).before args s = true) (hcell : H[q]? = some ce) (hv : ce.vm = .none) (hcl : s.vm.findClass E = some ce.cls)
    (kk : W p l e R s m args below meth c H locs cells slots Q (F0 m x.handlerPc ls [.ref q])) : vx_W p l e R s m args below meth c H locs cells slots Q (F0 m pc ls rest) q := by
  intro T hT X
  have hpl : e.platform.magicAccessors = ({} : Platform).magicAccessors := by rw [X.admits.platform]
  obtain ⟨c3, c4, hc3, hc4, hasg⟩ := Cond.castable_spec hcast
  cases Option.some.inj (hc3.symm.trans hcl)
  obtain ⟨c5, hc5, hcl5⟩ := Cond.classLink_spec hown hlink e.platform hpl
  cases Option.some.inj (hc4.symm.trans hc5)
  obtain ⟨vm', X', st⟩ := X.thenCaughtThrough q (g := F0 m pc ls rest) rfl (Steps.refl _) (by rw [hT]; exact hcell) (by rw [hv]; rfl) (by obtain ⟨k9, h9, -⟩ := Vm.findClass_spec hcl; exact ⟨k9, h9⟩) pre x suf hsplit
    (fun z hz => by
      rcases hpass z hz with h | ⟨hz0, nm, hl1, hn1⟩
      · exact Or.inl h
      · obtain ⟨c6, hc6, hcl6⟩ := Cond.classLink_spec hown hl1 e.platform hpl
        obtain ⟨a8, b8, h1, h2, h3⟩ := hn1
        cases Option.some.inj (h1.symm.trans hcl)
        cases Option.some.inj (h2.symm.trans hc6)
        exact Or.inr ⟨hz0, _, hcl6, h3⟩) hx (Or.inr ⟨h0, c4, hcl5, hasg⟩)
  obtain ⟨t, a1, b1⟩ := kk (T.setVm vm') hT X'
  exact ⟨t, st.trans a1, b1⟩
end Rows
section Ends
variable {p : Program} {l : Launch} {e : Env} {R : Room} {s : State} {m : MethodId} {args : Array Value} {below : List Frame} {meth : Method} {c : Code} {H : Heap} {locs : List Loc} {cells slots : Nat} {Q : State → Prop}
variable {mc ms : Nat} {free : Addr → Prop} {A0 A1 : Nat → Prop} {H0 : Heap} {a : Array Value} {ls : Array Slot} {st0 rest : List Value}
variable {Qc : Array Value → State → Outcome → State → Prop} {XC : String → State → State → Prop}
/-- what a body that may throw owes at its end -/
def vx_MQ (below : List Frame) (Qc : Array Value → State → Outcome → State → Prop) (XC : String → State → State → Prop) (a : Array Value) (s : State) (mc ms : Nat) (free : Addr → Prop) : State → Prop := fun t =>
  ∃ o, t.status = .running ∧ Ended t below o ∧ vx_Q Qc XC mc ms free a s o t
theorem vx_ret {g : JFrame} {mc ms : Nat} (k : W p l e R s m args below meth c H locs cells slots (MQ below Qc args s mc ms free) g) : W p l e R s m args below meth c H locs cells slots (vx_MQ below Qc XC args s mc ms free) g := by
  intro T hT X
  obtain ⟨t, a1, o, b1, b2, b3, b4⟩ := k T hT X
  exact ⟨t, a1, o, b1, b2, Or.inl ⟨b3, b4⟩⟩
/-- not caught here: it goes on to the caller -/
theorem vx_widen {g : JFrame} {q : Addr} {k n : Nat} (h1 : cells ≤ k) (h2 : slots ≤ n) (kk : vx_W p l e R s m args below meth c H locs k n Q g q) : vx_W p l e R s m args below meth c H locs cells slots Q g q := fun T hT X => kk T hT (stand_widen X h1 h2)
theorem vx_out {pc : Nat} {E : String} {ce : Cell} {q : Addr} {mc ms : Nat} (hout : ∀ x ∈ c.exceptionTable.toList, covers x pc = false) (hlocks : meth.locks = false) (hcell : H[q]? = some ce) (hv : ce.vm = .none) (hcl : s.vm.findClass E = some ce.cls)
    (hx : ∀ t : State, t.heap = H → s.vm.Alike t.vm → XC E s t) (hf : ∀ z ∈ locs, free z.base) (hc : cells ≤ mc) (hs : slots ≤ ms) :
    vx_W p l e R s m args below meth c H locs cells slots (vx_MQ below Qc XC args s mc ms free) (F0 m pc ls rest) q := by
  intro T hT X
  obtain ⟨st1, hrun, hend, hW, hsm⟩ := X.leaveThrown q (g := F0 m pc ls rest) rfl rfl rfl hout hlocks
  have hcell9 : (T.setFrames (.throwing q :: below)).heap[q]? = some ce := by
    show T.heap[q]? = some ce
    rw [hT]; exact hcell
  exact ⟨_, st1, .threw q, hrun, hend, Or.inr ⟨q, rfl, E, ce, locs, hx _ hT hW.alike, hcell9, hv, hcl, hW, hsm.mono hc hs, hf⟩⟩
theorem vx_frame {U : State} {k n : Nat} (h : s.sameButNew ({ U with vm := s.vm } : State) locs k n) : s.heap.size ≤ U.heap.size ∧ ∀ q : Nat, q < s.heap.size → (∀ z ∈ locs, z.base ≠ q) → U.heap[q]? = s.heap[q]? := by
  obtain ⟨-, h2, -, -, -, h6⟩ := h
  refine ⟨h2, fun q hq hz => ?_⟩
  obtain ⟨c9, e1, e2, e3, e4⟩ := h6 q _ (Array.getElem?_eq_getElem hq)
  have hs : c9.slots = (s.heap[q]).slots := Array.ext_getElem? fun i => e4 i fun hm => hz _ hm rfl
  have h9 : c9 = s.heap[q] := by
    rw [hs] at e2
    exact e2
  have e5 : U.heap[q]? = some c9 := e1
  rw [e5, h9, Array.getElem?_eq_getElem hq]
/-- the words of a throw but the four that speak of the heap -/
def vx_no (w : Cond) : Bool := decide (w ≠ .isRef (.static Bundle.tN "UNASSIGNED_STACK" Bundle.steD)) && decide (w ≠ .isRef (.static Bundle.tN "SUPPRESSED_SENTINEL" Bundle.listD)) && decide (w ≠ .laysStatic Bundle.tN "UNASSIGNED_STACK" Bundle.steD) && decide (w ≠ .laysStatic Bundle.tN "SUPPRESSED_SENTINEL" Bundle.listD)
def vx_at0 (own : String) (ic : Nat) (X : String) (names : List String) : List Cond := (Bundle.ownAtoms0 own ic X names).filter vx_no
def vx_atS (own : String) (ic : Nat) (X : String) (names : List String) : List Cond := (Bundle.ownAtoms own ic X names).filter vx_no
/-- a word that the tables alone decide, or a good one -/
def vx_ot (w : Cond) : Bool := w.onTables || goodWord w
theorem vx_ot_at {args a' : Array Value} {s U : State} {w : Cond} (hW : s.WarmedH U.vm) (hvm : s.vm = U.vm) (hg : vx_ot w = true) (h : w.before args s = true) : w.before a' U = true := by
  simp only [vx_ot, Bool.or_eq_true] at hg
  rcases hg with hg | hg
  · exact va_tabs hg hvm h
  · exact word_at hW (good_of_word hg) h
/-- a list's words: the good ones out of the method's own list, the others by premises of their own -/
theorem vx_hat {args : Array Value} {s : State} {L B : List Cond} (h1 : ∀ w ∈ L.filter goodWord, w.before args s = true) (h2 : ∀ w ∈ L.filter (fun w => !goodWord w), w ∈ B) (h3 : ∀ w ∈ B, w.before args s = true) : ∀ w ∈ L, w.before args s = true := by
  intro w hw
  by_cases g : goodWord w = true
  · exact h1 w (List.mem_filter.mpr ⟨hw, g⟩)
  · refine h3 w (h2 w (List.mem_filter.mpr ⟨hw, ?_⟩))
    show (!goodWord w) = true
    cases hgw : goodWord w
    · rfl
    · exact absurd hgw g
theorem vx_c {args : Array Value} {s : State} {w : Cond} {B : List Cond} (h : w.before args s = true) (t : ∀ w ∈ B, w.before args s = true) : ∀ w' ∈ w :: B, w'.before args s = true := fun w' h' => (List.mem_cons.mp h').elim (fun e => by rw [e]; exact h) (t w')
theorem vx_n {args : Array Value} {s : State} : ∀ w ∈ ([] : List Cond), w.before args s = true := fun _ h => nomatch h
theorem vx_own {args : Array Value} {s : State} {L : List Cond} (h1 : ∀ w ∈ L.filter vx_no, w.before args s = true)
    (hU : (Cond.isRef (.static Bundle.tN "UNASSIGNED_STACK" Bundle.steD)).before args s = true) (hN : (Cond.isRef (.static Bundle.tN "SUPPRESSED_SENTINEL" Bundle.listD)).before args s = true)
    (lU : (Cond.laysStatic Bundle.tN "UNASSIGNED_STACK" Bundle.steD).before args s = true) (lN : (Cond.laysStatic Bundle.tN "SUPPRESSED_SENTINEL" Bundle.listD).before args s = true) : ∀ w ∈ L, w.before args s = true := by
  intro w hw
  by_cases e1 : w = .isRef (.static Bundle.tN "UNASSIGNED_STACK" Bundle.steD)
  · rw [e1]; exact hU
  · by_cases e2 : w = .isRef (.static Bundle.tN "SUPPRESSED_SENTINEL" Bundle.listD)
    · rw [e2]; exact hN
    · by_cases e3 : w = .laysStatic Bundle.tN "UNASSIGNED_STACK" Bundle.steD
      · rw [e3]; exact lU
      · by_cases e4 : w = .laysStatic Bundle.tN "SUPPRESSED_SENTINEL" Bundle.listD
        · rw [e4]; exact lN
        · exact h1 w (List.mem_filter.mpr ⟨hw, by unfold vx_no; rw [decide_eq_true e1, decide_eq_true e2, decide_eq_true e3, decide_eq_true e4]; rfl⟩)
/-- where a static field lies, its class's statics cell in H -/
def vx_L (C n d : String) (A : Nat → Prop) (U : State) (H : Heap) : Prop := ∃ (c : ClassId) (k : Class) (i : Nat) (f : Field) (a : Nat) (cell : Cell), U.vm.findClass C = some c ∧ U.fieldFound? C n d = some (c, k, i, f) ∧ f.isStatic = true ∧ k.statics = some a ∧ H[a]? = some cell ∧ cell.vm.isStatics = true ∧ cell.cls = c ∧ f.slot < cell.slots.size ∧ k.staticTypes[f.slot]? = some f.type ∧ ¬ A a
theorem vx_L.moved {C n d : String} {A : Nat → Prop} {u U : State} {H : Heap} (hvm : u.vm.Alike U.vm) (h : vx_L C n d A u H) : vx_L C n d A U H := by
  obtain ⟨c, k, i, f, a, cell, h1, h2, h3, h4, h5, h6, h7, h8, h9, h10⟩ := h
  obtain ⟨k', hi', he⟩ := State.fieldFound?_setVm hvm h2
  exact ⟨c, k', i, f, a, cell, by rw [hvm.findClass]; exact h1, hi', h3, by rw [he]; exact h4, h5, h6, h7, h8, by rw [he]; exact h9, h10⟩
theorem vx_L.kept {C n d : String} {A : Nat → Prop} {U : State} {H H1 : Heap} (h : vx_L C n d A U H) (hq : ∀ a : Nat, a < H.size → ¬ A a → H1[a]? = H[a]?) : vx_L C n d A U H1 := by
  obtain ⟨c, k, i, f, a, cell, h1, h2, h3, h4, h5, h6, h7, h8, h9, h10⟩ := h
  exact ⟨c, k, i, f, a, cell, h1, h2, h3, h4, by rw [hq a (Array.getElem?_eq_some_iff.mp h5).1 h10]; exact h5, h6, h7, h8, h9, h10⟩
theorem vx_L.narrow {C n d : String} {A B : Nat → Prop} {U : State} {H : Heap} (h : vx_L C n d A U H) (hAB : ∀ q, B q → A q) : vx_L C n d B U H := by
  obtain ⟨c, k, i, f, a, cell, h1, h2, h3, h4, h5, h6, h7, h8, h9, h10⟩ := h
  exact ⟨c, k, i, f, a, cell, h1, h2, h3, h4, h5, h6, h7, h8, h9, fun z => h10 (hAB _ z)⟩
theorem vx_L.word {C n d : String} {A : Nat → Prop} {s : State} {args : Array Value} (h : vx_L C n d A s s.heap) : (Cond.laysStatic C n d).before args s = true := by
  obtain ⟨c, k, i, f, a, cell, h1, h2, h3, h4, h5, h6, h7, h8, h9, -⟩ := h
  show (Cond.laysStatic C n d).holds args s none s [] = true
  exact Cond.laysStatic_of h1 h2 h3 h4 h5 h6 h7 h8 h9
/-- .. and what it holds: null or some reference -/
def vx_Zq (C n d : String) (A : Nat → Prop) (U : State) (H : Heap) : Prop := va_Zq C n d A U H ∧ vx_L C n d A U H
theorem vx_Zq.moved {C n d : String} {A : Nat → Prop} {u U : State} {H : Heap} (hvm : u.vm.Alike U.vm) (h : vx_Zq C n d A u H) : vx_Zq C n d A U H := ⟨va_Zq.moved hvm h.1, vx_L.moved hvm h.2⟩
theorem vx_Zq.kept {C n d : String} {A : Nat → Prop} {U : State} {H H1 : Heap} (h : vx_Zq C n d A U H) (hq : ∀ a : Nat, a < H.size → ¬ A a → H1[a]? = H[a]?) : vx_Zq C n d A U H1 := ⟨va_Zq.kept h.1 hq, vx_L.kept h.2 hq⟩
theorem vx_Zq.narrow {C n d : String} {A B : Nat → Prop} {U : State} {H : Heap} (h : vx_Zq C n d A U H) (hAB : ∀ q, B q → A q) : vx_Zq C n d B U H := ⟨va_Zq.narrow h.1 hAB, vx_L.narrow h.2 hAB⟩
theorem vx_Zqof {args : Array Value} {s : State} {C n d : String} {A : Nat → Prop} (hl : (Cond.laysStatic C n d).before args s = true) (hini : (Cond.initialized C).before args s = true) (h : (Cond.isRef (.static C n d)).before args s = true) (hA : ∀ a : Nat, a < s.heap.size → ¬ A a) : vx_Zq C n d A s s.heap := by
  refine ⟨va_Zqof hl hini h hA, ?_⟩
  obtain ⟨c, k, i, f, a, cell, h1, h2, h3, h4, h5, h6, h7, h8, h9⟩ := Cond.laysStatic_spec hl
  exact ⟨c, k, i, f, a, cell, h1, h2, h3, h4, h5, h6, h7, h8, h9, hA a (Array.getElem?_eq_some_iff.mp h5).1⟩
theorem vx_isRef {C n d : String} {v : Value} {A : Nat → Prop} {s : State} {args : Array Value} (h : va_Z C n d v A s s.heap) (hv : v.isRef = true) : (Cond.isRef (.static C n d)).before args s = true := by
  obtain ⟨cf, kf, fi, f, a, cell, h1, h2, h3, h4, h5, h6, h7, -⟩ := h
  have he : (Term.static C n d).eval args s none [] s = some v := by
    simp [Term.eval, State.fieldNamed?, h1, h2, h4, h5, h6, h7]
  simp only [Cond.before, Cond.holds, Cond.value, he]
  cases v <;> simp_all [Value.isRef]
theorem vx_isRefq {C n d : String} {A : Nat → Prop} {s : State} {args : Array Value} (h : va_Zq C n d A s s.heap) : (Cond.isRef (.static C n d)).before args s = true := by
  rcases h with h | ⟨t, h⟩
  · exact vx_isRef h rfl
  · exact vx_isRef h rfl
/-- the same frame, seen from here: as if the method were called anew in this heap -/
theorem vx_rebase {T : State} (X : Stand p l e R s m args below meth c T locs cells slots) {R' : Room} (hf : R'.frames ≤ R.frames) (hl : R'.locals ≤ R.locals) (hc : cells + R'.cells ≤ R.cells) (hs : slots + R'.slots ≤ R.slots) :
    Stand p l e R' ((T.setVm s.vm).setFrames (.invoking m args :: below)) m args below meth c T [] 0 0 := by
  have htop : (T.setVm s.vm).topJava?.isSome := X.here.top
  have hF : ((T.setVm s.vm).setFrames (.invoking m args :: below)).frames = .invoking m args :: below := State.frames_setFrames _ (State.cur_lt_of_top htop)
  obtain ⟨g₀, hg0⟩ := Option.isSome_iff_exists.mp htop
  obtain ⟨r, hr⟩ := State.topJava?_eq_some.mp hg0
  have hl9 : e.platform.stackLimits (T.setVm s.vm).me = e.platform.stackLimits s.me := X.limits
  have hb9 : (T.setVm s.vm).me.stackBytes = s.me.stackBytes := X.bytes
  refine ⟨X.admits, X.cas, X.clock, hF, ?_, X.hears, X.method, X.code, X.here, X.tail, X.warmed, ?_, ?_, ?_⟩
  · have h := X.room
    have hU : ((T.setVm s.vm).setFrames (.invoking m args :: below)).localsInUse = s.localsInUse := by
      rw [State.localsInUse_invoking hF (meth := meth) (c := c) X.method X.code, State.localsInUse_invoking X.frames X.method X.code]
    simp only [State.hasRoom, Bool.and_eq_true, decide_eq_true_eq] at h ⊢
    obtain ⟨⟨⟨⟨h1, h2, h3, h4, h5, h6⟩, h7⟩, h8⟩, h9⟩ := h
    rw [X.frames, List.length_cons] at h2 h3
    have q1 := X.heapSize
    have q2 := X.used
    simp only [hF, hU, List.length_cons, State.stackLimits_setFrames, State.stackBytes_setFrames, hl9, hb9]
    refine ⟨⟨⟨⟨by omega, by omega, by omega, by omega, by omega, h6⟩, ?_⟩, ?_⟩, X.book⟩
    · show T.heap.size + R'.cells ≤ e.platform.maxCells
      omega
    · show T.slotsUsed + R'.slots ≤ e.platform.maxSlots
      omega
  · rw [State.stackLimits_setFrames]; rfl
  · rw [State.stackBytes_setFrames]; rfl
  · refine ⟨?_, Nat.le_refl _, Nat.le_refl _, ?_, ?_, fun a c9 h9 => ⟨c9, h9, rfl, rfl, fun _ _ => rfl⟩⟩
    · obtain ⟨t, ht, -⟩ := State.frames_cons hr
      show T.setVm s.vm = { ((T.setVm s.vm).setFrames (.invoking m args :: below)).setFrames (T.setVm s.vm).frames with heap := T.heap, slotsUsed := T.slotsUsed }
      rw [State.setFrames_setFrames, State.setFrames_self ht]
      rfl
    · show T.slotsUsed = T.slotsUsed + ((T.heap.toList.drop T.heap.size).map (·.slots.size)).sum
      rw [List.drop_eq_nil_of_le (Nat.le_of_eq Array.length_toList)]
      rfl
    · show ((T.heap.toList.drop T.heap.size).map (·.slots.size)).sum ≤ 0
      rw [List.drop_eq_nil_of_le (Nat.le_of_eq Array.length_toList)]
      exact Nat.le_refl _
/-- 'throw new E()': new; dup; invokespecial; athrow -/
theorem vx_throw0 {cc : ByteArray} {pc : Nat} (hexec : p.tables.exec = Jvm.exec) (hb : c.code = cc) (hl : l.stackTraces = false) {own cls : String} {names : List String} {ik ic mc ms : Nat} {A : Nat → Prop}
    (hown : s.vm.findClass own = some m.cls) (hcls : Bundle.fit cls = true) (hnames : ∀ n ∈ names, Bundle.fit n = true)
    (hk : (Cond.classLink own ik cls).before args s = true) (hini : (Cond.initialized cls).before args s = true) (hat : ∀ w ∈ vx_at0 own ic cls names, w.before args s = true)
    (hgood : ∀ w ∈ Cond.classLink own ik cls :: Cond.initialized cls :: vx_at0 own ic cls names, vx_ot w = true)
    (hU : vx_Zq Bundle.tN "UNASSIGNED_STACK" Bundle.steD A s s.heap) (hN : vx_Zq Bundle.tN "SUPPRESSED_SENTINEL" Bundle.listD A s s.heap) (hS : va_S A s.heap H locs) (hsize : ls.size = c.maxLocals)
    (d0 : decode cc pc = .ok (.new ik, 3)) (d3 : decode cc (pc + 3) = .ok (.dup, 1)) (d4 : decode cc (pc + 4) = .ok (.invokespecial ic, 3)) (d7 : decode cc (pc + 7) = .ok (.athrow, 1))
    (hout : ∀ x ∈ c.exceptionTable.toList, covers x (pc + 7) = false)
    (hRframes : names.length + 3 < R.frames) (hRlocals : (rest.map fun v => v.category).sum + (13 * (names.length + 1) + 42) ≤ R.locals) (hRcells : cells + 1 ≤ R.cells) (hRslots : slots + 6 ≤ R.slots) (hlocks : meth.locks = false)
    (hx : ∀ t : State, s.vm.Alike t.vm → H.size ≤ t.heap.size → (∀ q : Nat, q < H.size → t.heap[q]? = H[q]?) → XC cls s t)
    (hf : ∀ z ∈ locs, free z.base) (hc : cells + 1 ≤ mc) (hs : slots + 6 ≤ ms) :
    W p l e R s m args below meth c H locs cells slots (vx_MQ below Qc XC args s mc ms free) (F0 m pc ls rest) := by
  intro T hT X
  have htr : e.platform.stackTraces = false := (show e.platform.stackTraces = l.stackTraces by rw [X.admits.platform]).trans hl
  have Y := vx_rebase X (R' := { frames := R.frames, locals := R.locals, cells := 1, slots := 6 }) (Nat.le_refl _) (Nat.le_refl _) hRcells hRslots
  obtain ⟨s', hA⟩ : ∃ z, z = (T.setVm s.vm).setFrames (.invoking m args :: below) := ⟨_, rfl⟩
  rw [← hA] at Y
  have hvm : s'.vm = s.vm := by rw [hA]; rfl
  have hhp : s'.heap = H := by rw [hA]; exact hT
  have hW0 : s.WarmedH s'.vm := by rw [hvm]; exact State.WarmedH.refl s
  have hat' : ∀ w ∈ vx_at0 own ic cls names, w.before args s' = true := fun w hw => vx_ot_at hW0 hvm.symm (hgood w (List.mem_cons_of_mem _ (List.mem_cons_of_mem _ hw))) (hat w hw)
  have hk' : (Cond.classLink own ik cls).before args s' = true := vx_ot_at hW0 hvm.symm (hgood _ List.mem_cons_self) hk
  have hini' : (Cond.initialized cls).before args s' = true := vx_ot_at hW0 hvm.symm (hgood _ (List.mem_cons_of_mem _ List.mem_cons_self)) hini
  have hU' : vx_Zq Bundle.tN "UNASSIGNED_STACK" Bundle.steD A s' s'.heap := by rw [hhp]; exact vx_Zq.moved hW0.alike (hU.kept hS.2.1)
  have hN' : vx_Zq Bundle.tN "SUPPRESSED_SENTINEL" Bundle.listD A s' s'.heap := by rw [hhp]; exact vx_Zq.moved hW0.alike (hN.kept hS.2.1)
  have h : ∀ w ∈ Bundle.ownAtoms0 own ic cls names, w.before args s' = true := vx_own hat' (vx_isRefq hU'.1) (vx_isRefq hN'.1) hU'.2.word hN'.2.word
  have hown' : s'.vm.findClass own = some m.cls := by rw [hvm]; exact hown
  have hins : (Cond.instantiable cls 6).before args s' = true := h _ (by simp [Bundle.ownAtoms0])
  obtain ⟨vm₁, cX, kX, hfX, hkX, -, -, X₁, st1⟩ := Y.newCold hexec (own := own) (C := cls) (index := ik) (n := 6) hown' hk' hins hini'
    (g := F0 m pc ls rest) rfl (by rw [hb]; exact d0) (Nat.le_refl _) (Nat.le_refl _)
  generalize hT1 : (T.setVm vm₁).pushCell { cls := cX, slots := kX.instanceTypes.map defaultValue, vm := .none } = T1 at X₁ st1
  have hcat : (Value.ref T.heap.size).category = 1 := rfl
  have hcellA : T1.heap[T.heap.size]? = some (freshCell cX kX) := by rw [← hT1]; exact State.heap_pushCell_size _ _
  have d3' : decode c.code (pc + 3) = .ok (.dup, 1) := by rw [hb]; exact d3
  obtain ⟨U, hsteps, hrun, hend, hW, hsame, ce, hce, hO⟩ := X₁.ctorThrow0 hexec htr (own := own) (cls := cls) (names := names) (ic := ic) hown' hcls hnames h (fun x hx => nomatch hx) hfX hkX hcellA (by rw [hhp, hT]; exact Nat.le_refl _)
    (g := { method := m, pc := pc + 4, locals := ls, stack := .ref T.heap.size :: .ref T.heap.size :: rest, locked := none }) rfl hsize rfl rfl (rest := rest) rfl
    (by rw [hb]; exact d4) (by rw [hb]; exact d7) hout hRframes (by simp only [List.map_cons, List.sum_cons, hcat]; omega) hlocks
  obtain ⟨f1, f2⟩ := vx_frame hsame
  rw [hhp] at f1 f2
  have hWs : s.WarmedH U.vm := State.WarmedH.trans hW0 hW
  have hcl : s.vm.findClass cls = some ce.cls := by
    have h9 := hO.cls
    rw [hvm] at h9
    exact h9
  have hall : s.sameButNew ({ U with vm := s.vm } : State) locs mc ms := by
    subst hA
    obtain ⟨e1, e2⟩ := hsame
    rw [State.setFrames_setFrames] at e1
    have h2 : (T.setVm s.vm).sameButNew ({ U with vm := s.vm } : State) [] (0 + 1) (0 + 6) := ⟨e1, e2⟩
    have h3 := X.same.trans h2
    rw [List.append_nil] at h3
    exact h3.mono hc hs
  refine ⟨U, ?_, .threw T.heap.size, hrun, hend, Or.inr ⟨T.heap.size, rfl, cls, ce, locs, hx U hWs.alike f1 (fun q hq => f2 q hq (fun z hz => nomatch hz)), hce, hO.vm, hcl, hWs, hall, hf⟩⟩
  refine st1 _ ?_
  show Steps p.tables e below (T1.setTop { method := m, pc := pc + 3, locals := ls, stack := .ref T.heap.size :: rest, locked := none }) _
  jvm_step X₁.here [X₁.here.top, hexec, d3', Value.category]
  exact hsteps
/-- 'throw new E("text")': new; dup; ldc; invokespecial; athrow -/
theorem vx_throwS {cc : ByteArray} {pc : Nat} (hexec : p.tables.exec = Jvm.exec) (hb : c.code = cc) (hl : l.stackTraces = false) {own cls text : String} {names : List String} {ik is ic mc ms sa : Nat} {A : Nat → Prop}
    (hown : s.vm.findClass own = some m.cls) (hcls : Bundle.fit cls = true) (hnames : ∀ n ∈ names, Bundle.fit n = true)
    (hk : (Cond.classLink own ik cls).before args s = true) (hini : (Cond.initialized cls).before args s = true) (hstr : vk_R own is text sa s) (hat : ∀ w ∈ vx_atS own ic cls names, w.before args s = true)
    (hgood : ∀ w ∈ Cond.classLink own ik cls :: Cond.initialized cls :: vx_atS own ic cls names, vx_ot w = true)
    (hU : vx_Zq Bundle.tN "UNASSIGNED_STACK" Bundle.steD A s s.heap) (hN : vx_Zq Bundle.tN "SUPPRESSED_SENTINEL" Bundle.listD A s s.heap) (hS : va_S A s.heap H locs) (hsize : ls.size = c.maxLocals)
    (d0 : decode cc pc = .ok (.new ik, 3)) (d3 : decode cc (pc + 3) = .ok (.dup, 1)) (d4 : decode cc (pc + 4) = .ok (.ldc is, 2)) (d6 : decode cc (pc + 6) = .ok (.invokespecial ic, 3)) (d9 : decode cc (pc + 9) = .ok (.athrow, 1))
    (hout : ∀ x ∈ c.exceptionTable.toList, covers x (pc + 9) = false)
    (hRframes : names.length + 3 < R.frames) (hRlocals : (rest.map fun v => v.category).sum + (13 * (names.length + 1) + 43) ≤ R.locals) (hRcells : cells + 1 ≤ R.cells) (hRslots : slots + 6 ≤ R.slots) (hlocks : meth.locks = false)
    (hx : ∀ t : State, s.vm.Alike t.vm → H.size ≤ t.heap.size → (∀ q : Nat, q < H.size → t.heap[q]? = H[q]?) → XC cls s t)
    (hf : ∀ z ∈ locs, free z.base) (hc : cells + 1 ≤ mc) (hs : slots + 6 ≤ ms) :
    W p l e R s m args below meth c H locs cells slots (vx_MQ below Qc XC args s mc ms free) (F0 m pc ls rest) := by
  intro T hT X
  have htr : e.platform.stackTraces = false := (show e.platform.stackTraces = l.stackTraces by rw [X.admits.platform]).trans hl
  have Y := vx_rebase X (R' := { frames := R.frames, locals := R.locals, cells := 1, slots := 6 }) (Nat.le_refl _) (Nat.le_refl _) hRcells hRslots
  obtain ⟨s', hA⟩ : ∃ z, z = (T.setVm s.vm).setFrames (.invoking m args :: below) := ⟨_, rfl⟩
  rw [← hA] at Y
  have hvm : s'.vm = s.vm := by rw [hA]; rfl
  have hhp : s'.heap = H := by rw [hA]; exact hT
  have hW0 : s.WarmedH s'.vm := by rw [hvm]; exact State.WarmedH.refl s
  have hat' : ∀ w ∈ vx_atS own ic cls names, w.before args s' = true := fun w hw => vx_ot_at hW0 hvm.symm (hgood w (List.mem_cons_of_mem _ (List.mem_cons_of_mem _ hw))) (hat w hw)
  have hk' : (Cond.classLink own ik cls).before args s' = true := vx_ot_at hW0 hvm.symm (hgood _ List.mem_cons_self) hk
  have hini' : (Cond.initialized cls).before args s' = true := vx_ot_at hW0 hvm.symm (hgood _ (List.mem_cons_of_mem _ List.mem_cons_self)) hini
  have hU' : vx_Zq Bundle.tN "UNASSIGNED_STACK" Bundle.steD A s' s'.heap := by rw [hhp]; exact vx_Zq.moved hW0.alike (hU.kept hS.2.1)
  have hN' : vx_Zq Bundle.tN "SUPPRESSED_SENTINEL" Bundle.listD A s' s'.heap := by rw [hhp]; exact vx_Zq.moved hW0.alike (hN.kept hS.2.1)
  have h : ∀ w ∈ Bundle.ownAtoms own ic cls names, w.before args s' = true := vx_own hat' (vx_isRefq hU'.1) (vx_isRefq hN'.1) hU'.2.word hN'.2.word
  have hown' : s'.vm.findClass own = some m.cls := by rw [hvm]; exact hown
  have hins : (Cond.instantiable cls 6).before args s' = true := h _ (by simp [Bundle.ownAtoms])
  obtain ⟨vm₁, cX, kX, hfX, hkX, -, -, X₁, st1⟩ := Y.newCold hexec (own := own) (C := cls) (index := ik) (n := 6) hown' hk' hins hini'
    (g := F0 m pc ls rest) rfl (by rw [hb]; exact d0) (Nat.le_refl _) (Nat.le_refl _)
  generalize hT1 : (T.setVm vm₁).pushCell { cls := cX, slots := kX.instanceTypes.map defaultValue, vm := .none } = T1 at X₁ st1
  have hcat : (Value.ref T.heap.size).category = 1 := rfl
  have hcellA : T1.heap[T.heap.size]? = some (freshCell cX kX) := by rw [← hT1]; exact State.heap_pushCell_size _ _
  have d3' : decode c.code (pc + 3) = .ok (.dup, 1) := by rw [hb]; exact d3
  have d4' : decode c.code (pc + 4) = .ok (.ldc is, 2) := by rw [hb]; exact d4
  have hstr' : vk_R own is text sa s' := vk_R.warm hW0 hstr
  obtain ⟨U, hsteps, hrun, hend, hW, hsame, ce, hce, hO⟩ := X₁.ctorThrowS hexec htr (own := own) (cls := cls) (names := names) (ic := ic) hown' hcls hnames h (fun x hx => nomatch hx) hfX hkX hcellA (by rw [hhp, hT]; exact Nat.le_refl _) (msg := .ref sa) rfl
    (g := { method := m, pc := pc + 6, locals := ls, stack := .ref sa :: .ref T.heap.size :: .ref T.heap.size :: rest, locked := none }) rfl hsize rfl rfl (rest := rest) rfl
    (by rw [hb]; exact d6) (by rw [hb]; exact d9) hout hRframes (by simp only [List.map_cons, List.sum_cons, hcat]; omega) hlocks
  obtain ⟨f1, f2⟩ := vx_frame hsame
  rw [hhp] at f1 f2
  have hWs : s.WarmedH U.vm := State.WarmedH.trans hW0 hW
  have hcl : s.vm.findClass cls = some ce.cls := by
    have h9 := hO.cls
    rw [hvm] at h9
    exact h9
  have hall : s.sameButNew ({ U with vm := s.vm } : State) locs mc ms := by
    subst hA
    obtain ⟨e1, e2⟩ := hsame
    rw [State.setFrames_setFrames] at e1
    have h2 : (T.setVm s.vm).sameButNew ({ U with vm := s.vm } : State) [] (0 + 1) (0 + 6) := ⟨e1, e2⟩
    have h3 := X.same.trans h2
    rw [List.append_nil] at h3
    exact h3.mono hc hs
  refine ⟨U, ?_, .threw T.heap.size, hrun, hend, Or.inr ⟨T.heap.size, rfl, cls, ce, locs, hx U hWs.alike f1 (fun q hq => f2 q hq (fun z hz => nomatch hz)), hce, hO.vm, hcl, hWs, hall, hf⟩⟩
  refine st1 _ ?_
  show Steps p.tables e below (T1.setTop { method := m, pc := pc + 3, locals := ls, stack := .ref T.heap.size :: rest, locked := none }) _
  jvm_step X₁.here [X₁.here.top, hexec, d3', Value.category]
  exact X₁.ldcString hexec (own := own) (text := text) (index := is) (a := sa) hown' hstr'.1 hstr'.2
    (g := { method := m, pc := pc + 4, locals := ls, stack := .ref T.heap.size :: .ref T.heap.size :: rest, locked := none }) rfl d4' _ hsteps
/-- 'throw new E("text")', the text by a wide index -/
theorem vx_throwSW {cc : ByteArray} {pc : Nat} (hexec : p.tables.exec = Jvm.exec) (hb : c.code = cc) (hl : l.stackTraces = false) {own cls text : String} {names : List String} {ik is ic mc ms sa : Nat} {A : Nat → Prop}
    (hown : s.vm.findClass own = some m.cls) (hcls : Bundle.fit cls = true) (hnames : ∀ n ∈ names, Bundle.fit n = true)
    (hk : (Cond.classLink own ik cls).before args s = true) (hini : (Cond.initialized cls).before args s = true) (hstr : vk_R own is text sa s) (hat : ∀ w ∈ vx_atS own ic cls names, w.before args s = true)
    (hgood : ∀ w ∈ Cond.classLink own ik cls :: Cond.initialized cls :: vx_atS own ic cls names, vx_ot w = true)
    (hU : vx_Zq Bundle.tN "UNASSIGNED_STACK" Bundle.steD A s s.heap) (hN : vx_Zq Bundle.tN "SUPPRESSED_SENTINEL" Bundle.listD A s s.heap) (hS : va_S A s.heap H locs) (hsize : ls.size = c.maxLocals)
    (d0 : decode cc pc = .ok (.new ik, 3)) (d3 : decode cc (pc + 3) = .ok (.dup, 1)) (d4 : decode cc (pc + 4) = .ok (.ldc_w is, 3)) (d7 : decode cc (pc + 7) = .ok (.invokespecial ic, 3)) (d10 : decode cc (pc + 10) = .ok (.athrow, 1))
    (hout : ∀ x ∈ c.exceptionTable.toList, covers x (pc + 10) = false)
    (hRframes : names.length + 3 < R.frames) (hRlocals : (rest.map fun v => v.category).sum + (13 * (names.length + 1) + 43) ≤ R.locals) (hRcells : cells + 1 ≤ R.cells) (hRslots : slots + 6 ≤ R.slots) (hlocks : meth.locks = false)
    (hx : ∀ t : State, s.vm.Alike t.vm → H.size ≤ t.heap.size → (∀ q : Nat, q < H.size → t.heap[q]? = H[q]?) → XC cls s t)
    (hf : ∀ z ∈ locs, free z.base) (hc : cells + 1 ≤ mc) (hs : slots + 6 ≤ ms) :
    W p l e R s m args below meth c H locs cells slots (vx_MQ below Qc XC args s mc ms free) (F0 m pc ls rest) := by
  intro T hT X
  have htr : e.platform.stackTraces = false := (show e.platform.stackTraces = l.stackTraces by rw [X.admits.platform]).trans hl
  have Y := vx_rebase X (R' := { frames := R.frames, locals := R.locals, cells := 1, slots := 6 }) (Nat.le_refl _) (Nat.le_refl _) hRcells hRslots
  obtain ⟨s', hA⟩ : ∃ z, z = (T.setVm s.vm).setFrames (.invoking m args :: below) := ⟨_, rfl⟩
  rw [← hA] at Y
  have hvm : s'.vm = s.vm := by rw [hA]; rfl
  have hhp : s'.heap = H := by rw [hA]; exact hT
  have hW0 : s.WarmedH s'.vm := by rw [hvm]; exact State.WarmedH.refl s
  have hat' : ∀ w ∈ vx_atS own ic cls names, w.before args s' = true := fun w hw => vx_ot_at hW0 hvm.symm (hgood w (List.mem_cons_of_mem _ (List.mem_cons_of_mem _ hw))) (hat w hw)
  have hk' : (Cond.classLink own ik cls).before args s' = true := vx_ot_at hW0 hvm.symm (hgood _ List.mem_cons_self) hk
  have hini' : (Cond.initialized cls).before args s' = true := vx_ot_at hW0 hvm.symm (hgood _ (List.mem_cons_of_mem _ List.mem_cons_self)) hini
  have hU' : vx_Zq Bundle.tN "UNASSIGNED_STACK" Bundle.steD A s' s'.heap := by rw [hhp]; exact vx_Zq.moved hW0.alike (hU.kept hS.2.1)
  have hN' : vx_Zq Bundle.tN "SUPPRESSED_SENTINEL" Bundle.listD A s' s'.heap := by rw [hhp]; exact vx_Zq.moved hW0.alike (hN.kept hS.2.1)
  have h : ∀ w ∈ Bundle.ownAtoms own ic cls names, w.before args s' = true := vx_own hat' (vx_isRefq hU'.1) (vx_isRefq hN'.1) hU'.2.word hN'.2.word
  have hown' : s'.vm.findClass own = some m.cls := by rw [hvm]; exact hown
  have hins : (Cond.instantiable cls 6).before args s' = true := h _ (by simp [Bundle.ownAtoms])
  obtain ⟨vm₁, cX, kX, hfX, hkX, -, -, X₁, st1⟩ := Y.newCold hexec (own := own) (C := cls) (index := ik) (n := 6) hown' hk' hins hini'
    (g := F0 m pc ls rest) rfl (by rw [hb]; exact d0) (Nat.le_refl _) (Nat.le_refl _)
  generalize hT1 : (T.setVm vm₁).pushCell { cls := cX, slots := kX.instanceTypes.map defaultValue, vm := .none } = T1 at X₁ st1
  have hcat : (Value.ref T.heap.size).category = 1 := rfl
  have hcellA : T1.heap[T.heap.size]? = some (freshCell cX kX) := by rw [← hT1]; exact State.heap_pushCell_size _ _
  have d3' : decode c.code (pc + 3) = .ok (.dup, 1) := by rw [hb]; exact d3
  have d4' : decode c.code (pc + 4) = .ok (.ldc_w is, 3) := by rw [hb]; exact d4
  have hstr' : vk_R own is text sa s' := vk_R.warm hW0 hstr
  obtain ⟨U, hsteps, hrun, hend, hW, hsame, ce, hce, hO⟩ := X₁.ctorThrowS hexec htr (own := own) (cls := cls) (names := names) (ic := ic) hown' hcls hnames h (fun x hx => nomatch hx) hfX hkX hcellA (by rw [hhp, hT]; exact Nat.le_refl _) (msg := .ref sa) rfl
    (g := { method := m, pc := pc + 7, locals := ls, stack := .ref sa :: .ref T.heap.size :: .ref T.heap.size :: rest, locked := none }) rfl hsize rfl rfl (rest := rest) rfl
    (by rw [hb]; exact d7) (by rw [hb]; exact d10) hout hRframes (by simp only [List.map_cons, List.sum_cons, hcat]; omega) hlocks
  obtain ⟨f1, f2⟩ := vx_frame hsame
  rw [hhp] at f1 f2
  have hWs : s.WarmedH U.vm := State.WarmedH.trans hW0 hW
  have hcl : s.vm.findClass cls = some ce.cls := by
    have h9 := hO.cls
    rw [hvm] at h9
    exact h9
  have hall : s.sameButNew ({ U with vm := s.vm } : State) locs mc ms := by
    subst hA
    obtain ⟨e1, e2⟩ := hsame
    rw [State.setFrames_setFrames] at e1
    have h2 : (T.setVm s.vm).sameButNew ({ U with vm := s.vm } : State) [] (0 + 1) (0 + 6) := ⟨e1, e2⟩
    have h3 := X.same.trans h2
    rw [List.append_nil] at h3
    exact h3.mono hc hs
  refine ⟨U, ?_, .threw T.heap.size, hrun, hend, Or.inr ⟨T.heap.size, rfl, cls, ce, locs, hx U hWs.alike f1 (fun q hq => f2 q hq (fun z hz => nomatch hz)), hce, hO.vm, hcl, hWs, hall, hf⟩⟩
  refine st1 _ ?_
  show Steps p.tables e below (T1.setTop { method := m, pc := pc + 3, locals := ls, stack := .ref T.heap.size :: rest, locked := none }) _
  jvm_step X₁.here [X₁.here.top, hexec, d3', Value.category]
  exact X₁.ldcStringW hexec (own := own) (text := text) (index := is) (a := sa) hown' hstr'.1 hstr'.2
    (g := { method := m, pc := pc + 4, locals := ls, stack := .ref T.heap.size :: .ref T.heap.size :: rest, locked := none }) rfl d4' _ hsteps
end Ends
section Bodies
variable {l : Launch}
theorem vx_ofW {y : MethodName} {ws ws' : List Cond} {rm : Room} {Pc : Array Value → State → Prop} {Qc : Array Value → State → Outcome → State → Prop} {XC : String → State → State → Prop} {mc ms : Nat} {free : Addr → Prop} {cc : ByteArray} {maxL : Nat} {ret : Option FieldType}
    (hy : plainName y.cls = true) (hw : ws = Cond.code y cc maxL ret :: ws')
    (body : ∀ p e s m args below meth c s₁, BodyLoose p l y (headSpec ws rm) cc maxL ret e s m args below meth c s₁ → c.maxLocals = maxL → (∀ x ∈ c.exceptionTable.toList, False) → Pc args s →
      W p l e (headSpec ws rm).room s m args below meth c s.heap [] 0 0 (vx_MQ below Qc XC args s mc ms free) (entryFrame m args maxL)) : vx_Met l y ws rm Pc Qc XC mc ms free := by
  refine MetFree.of_bodyS (code := cc) (maxLocals := maxL) (ret := ret) hy ?_ ?_
  · intro args s m h hn
    obtain ⟨meth, c, h1, h2, h3, h4, h5, h6, -, -⟩ := Cond.code_spec hn (atoms_spec (ws := ws) h _ (by rw [hw]; exact List.mem_cons_self))
    exact ⟨meth, c, h1, h2, h3, h4, h5, h6⟩
  · intro p e s m args below meth c s₁ B hml hP _
    have hh0 : s₁.heap = s.heap := by rw [B.state]; rfl
    have ht : ∀ x ∈ c.exceptionTable.toList, False := by
      obtain ⟨meth9, c9, h1, h2, -, -, -, -, h7, -⟩ := Cond.code_spec B.named (atoms_spec (ws := ws) B.pre _ (by rw [hw]; exact List.mem_cons_self))
      cases Option.some.inj (h1.symm.trans B.method)
      cases Option.some.inj (h2.symm.trans (Stand.of_body B).code)
      intro x hx
      rw [Array.isEmpty_iff.mp h7] at hx
      cases hx
    obtain ⟨t, a1, o, b1, b2, b3⟩ := body p e s m args below meth c s₁ B hml ht hP s₁ hh0 (Stand.of_body B)
    exact ⟨t, o, a1, b1, b2, b3⟩
/-- the table of a body with handlers -/
theorem vx_table {p : Program} {x y : MethodName} {S : Spec} {cc bytes : ByteArray} {maxL maxL' : Nat} {ret ret' : Option FieldType} {e : Env} {s s₁ : State} {m : MethodId} {args : Array Value} {below : List Frame} {meth : Method} {c : Code} {hh : List (Nat × Nat × Nat × Nat)}
    (B : BodyLoose p l y S cc maxL ret e s m args below meth c s₁) (h : (Cond.codeWith y bytes maxL' ret' hh).before args s = true) : c.exceptionTable.toList = tableOf hh := by
  obtain ⟨m9, meth9, c9, hn9, h1, h2, -, -, h6, -⟩ := Cond.codeWith_spec h
  cases Option.some.inj (hn9.symm.trans B.named)
  cases Option.some.inj (h1.symm.trans B.method)
  cases Option.some.inj (h2.symm.trans (Stand.of_body B).code)
  rw [← h6, table_eq]
end Bodies
end VXA
/-! ===== END ===== -/
/-! ===== BEGIN a static call of a method with an exception table ===== -/
section VXS
variable {p : Program} {l : Launch} {e : Env} {R : Room} {s : State} {m : MethodId} {args : Array Value} {below : List Frame} {meth : Method} {c : Code} {T : State} {H : Heap} {locs : List Loc} {cells slots : Nat}
abbrev vx_CSW (R : Room) (s : State) (args : Array Value) (own : String) (index : Nat) (y : MethodName) (bytes : ByteArray) (maxL : Nat) (ret : Option FieldType) (hh : List (Nat × Nat × Nat × Nat)) (ws : List Cond) (rm : Room) (mc ms n : Nat) : Prop :=
  (rm.cells = mc ∧ rm.slots = ms ∧ rm.frames + 1 ≤ R.frames ∧ 8 + (maxL + 11) + rm.locals ≤ R.locals ∧ (∀ w ∈ ws, ∀ (a' : Array Value) (U : State), s.WarmedH U.vm → w.before a' U = true) ∧ Cond.codeWith y bytes maxL ret hh ∈ ws) ∧
  (Cond.codeWith y bytes maxL ret hh).before args s = true ∧ (Cond.initialized y.cls).before args s = true ∧ (y.cls ≠ "java/lang/invoke/MethodHandle" ∧ y.cls ≠ "java/lang/invoke/VarHandle") ∧
  (∀ sig, parseMethodDescriptor y.desc = some sig → n = sig.parameters.length) ∧ (Cond.methodLink own index y).before args s = true ∧ (Cond.static y).before args s = true
theorem vx_cwSW {own : String} {index maxL mc ms : Nat} {y : MethodName} {bytes : ByteArray} {ret : Option FieldType} {hh : List (Nat × Nat × Nat × Nat)} {Ts ws ws' : List Cond} {rm : Room} (n : Nat) (ht : ∀ w ∈ Ts, w.before args s = true) (hT : GoodIn Ts (va_wsS own index y ws)) (hw : ws = Cond.codeWith y bytes maxL ret hh :: ws') (hrc : rm.cells = mc) (hrs : rm.slots = ms)
    (hd : y.cls ≠ "java/lang/invoke/MethodHandle" ∧ y.cls ≠ "java/lang/invoke/VarHandle" ∧ (parseMethodDescriptor y.desc).map (fun d => d.parameters.length) = some n) (hR : rm.frames + 1 ≤ R.frames ∧ 8 + (maxL + 11) + rm.locals ≤ R.locals) :
    vx_CSW R s args own index y bytes maxL ret hh ws rm mc ms n := by
  have ok : ∀ w ∈ va_wsS own index y ws, w.before args s = true := fun w h => ht w (hT w h).1
  have hG : GoodIn Ts ws := fun w h => hT w (by unfold va_wsS; exact List.mem_append_right _ h)
  have hc : Cond.codeWith y bytes maxL ret hh ∈ ws := by rw [hw]; exact List.mem_cons_self
  refine ⟨⟨hrc, hrs, hR.1, hR.2, pay_in ht hG, hc⟩, ht _ (hG _ hc).1, ok _ (by simp [va_wsS]), ⟨hd.1, hd.2.1⟩, fun sig h => ?_, ok _ (by simp [va_wsS]), ok _ (by simp [va_wsS])⟩
  have h2 := hd.2.2
  rw [h] at h2
  exact (Option.some.inj h2).symm
theorem vx_callSW (X : Stand p l e R s m args below meth c T locs cells slots) (hexec : p.tables.exec = Jvm.exec) {own : String} {index : Nat} {y : MethodName} {bytes : ByteArray} {maxL : Nat} {ret : Option FieldType} {hh : List (Nat × Nat × Nat × Nat)}
    (hown : s.vm.findClass own = some m.cls) (hlink : (Cond.methodLink own index y).before args s = true) (hstat : (Cond.static y).before args s = true) (hinit : (Cond.initialized y.cls).before args s = true)
    (hcode : (Cond.codeWith y bytes maxL ret hh).before args s = true) (hy : y.cls ≠ "java/lang/invoke/MethodHandle" ∧ y.cls ≠ "java/lang/invoke/VarHandle")
    {W9 : Nat} {Pre : Pt → Array Value → Prop} {Post : Pt → Array Value → Option Value → Pt → Prop} (hK : Back l R p e below s args y 3 W9 Pre Post)
    {g : JFrame} (hg : g.method = m) (hsize : g.locals.size = c.maxLocals) {argsL rest : List Value} (hlen : ∀ sig, parseMethodDescriptor y.desc = some sig → argsL.length = sig.parameters.length)
    (hstack : g.stack = argsL.reverse ++ rest) (hW : 2 * g.monitorRoom + (rest.map fun v => v.category).sum ≤ W9) (hdg : decode c.code g.pc = .ok (.invokestatic index, 3))
    (hpre : ∀ vm₁, s.WarmedH vm₁ → Pre ⟨T.setVm vm₁, locs, cells, slots⟩ argsL.toArray) :
    ∃ (v : Option Value) (vm₁ : Vm) (B : Pt), s.WarmedH vm₁ ∧ Stand p l e R s m args below meth c B.U B.locs B.cells B.slots ∧ Post ⟨T.setVm vm₁, locs, cells, slots⟩ argsL.toArray v B ∧
      ∀ target, Steps p.tables e below (B.U.setTop { g with pc := g.pc + 3, stack := v.toList ++ rest }) target → Steps p.tables e below (T.setTop g) target := by
  obtain ⟨mk, methM, cM, hnamed, hmethM, -, -, -, -, -, -, hsigM⟩ := Cond.codeWith_spec hcode
  have hstatic : methM.isStatic = true := Cond.static_spec hnamed hmethM hstat
  obtain ⟨kP, hkP, -⟩ := className_of_methodNamed hnamed
  have hinitP : kP.init = .initialized := Cond.initialized_spec (findClass_of_methodNamed hnamed) hkP hinit
  obtain ⟨vm₁, X₁, hstep₁⟩ := X.invokestatic hexec hown hlink hnamed hmethM hstatic hkP hinitP hy (g := g) hg (argsL := argsL) (rest := rest) (hlen _ hsigM) hstack hdg
  obtain ⟨v, B, X', hpost, hsteps⟩ := hK m meth c ⟨T.setVm vm₁, locs, cells, slots⟩ { g with stack := rest } (.invokestatic index) mk argsL.toArray X₁ hg hsize hdg hW (X₁.named hnamed) (hpre vm₁ X₁.warmed)
  exact ⟨v, vm₁, B, X₁.warmed, X', hpost, fun target h => hstep₁ _ fun acts => by rw [doInvoke_state]; exact hsteps.trans h⟩
theorem vx_runSW {y : MethodName} {bytes cc : ByteArray} {maxL nL mc ms n index : Nat} {ret : Option FieldType} {hh : List (Nat × Nat × Nat × Nat)} {ws : List Cond} {rm : Room} {Pc : Array Value → State → Prop} {Qc : Array Value → State → Outcome → State → Prop} {free : Addr → Prop} {Ts : List Cond} {own : String} {As rest : List Value} {g : JFrame}
    (S : CallFix p m c cc nL s args Ts own) (hM : Met l y ws rm Pc Qc mc ms free) (cw : vx_CSW R s args own index y bytes maxL ret hh ws rm mc ms n) (hp : PreS s H Pc As)
    (hg : g.method = m) (hn : As.length = n) (hsize : g.locals.size = nL) (hstack : g.stack = As.reverse ++ rest) (hW : 2 * g.monitorRoom + (rest.map fun v => v.category).sum ≤ 8) (hdg : decode cc g.pc = .ok (.invokestatic index, 3)) (hf : cells + mc ≤ R.cells ∧ slots + ms ≤ R.slots) :
    va_Run p l e R s m args below meth c H locs cells slots mc ms g rest (Qc As.toArray) (free) := by
  obtain ⟨⟨hrc, hrs, hfr, hlo, hws, hcw⟩, hcode, hini, hy, hlen, hl, hstt⟩ := cw
  have hK : Back l R p e below s args y 3 8 (PreOf R mc ms Pc) (PostOf Qc mc ms free) := va_backW (hh := hh) (bytes := bytes) (maxL := maxL) (ret := ret) hM hp.1 hrc hrs hfr hlo hws hcw (fun a' U hW => word_at hW (Or.inl (by first | rfl | simp [Cond.onTables, Cond.keeps, Cond.steady])) hini)
  obtain ⟨hx, hb, hml, ho, -⟩ := S
  intro T hT X
  obtain ⟨v, vm₁, ⟨U', l2, c2, s2⟩, hW₁, X', ⟨g', mk, t, L, e1, e2, hq, h1, hL, h2, h3⟩, st⟩ := vx_callSW X hx (hh := hh) (bytes := bytes) (maxL := maxL) (ret := ret) ho hl hstt hini hcode hy hK hg (hsize.trans hml.symm) (argsL := As) (rest := rest) (fun sig h => hn.trans (hlen sig h)) hstack hW (by rw [hb]; exact hdg)
    (fun vm₁ hW₁ => ⟨hf.1, hf.2, hp.2 (T.setVm vm₁) hT hW₁⟩)
  dsimp only [Pt.U, Pt.locs, Pt.cells, Pt.slots] at X' e1 e2 h1 h2 h3 st
  subst h1; subst h2; subst h3
  exact ⟨v, (T.setVm vm₁).calling g' mk As.toArray, t, U', L, hT, X', hL, e1, e2, hq, st⟩
/-- not caught here, past rows that name other classes: it goes on to the caller -/
theorem vx_outP {p : Program} {l : Launch} {e : Env} {R : Room} {s : State} {m : MethodId} {args : Array Value} {below : List Frame} {meth : Method} {c : Code} {H : Heap} {locs : List Loc} {cells slots : Nat} {free : Addr → Prop} {ls : Array Slot} {rest : List Value} {Qc : Array Value → State → Outcome → State → Prop} {XC : String → State → State → Prop}
    {pc : Nat} {own E : String} {ce : Cell} {q : Addr} {mc ms : Nat} (hown : s.vm.findClass own = some m.cls) (hlocks : meth.locks = false)
    (hpass : ∀ z ∈ c.exceptionTable.toList, covers z pc = false ∨ (z.catchType ≠ 0 ∧ ∃ nm : String, (Cond.classLink own z.catchType nm).before args s = true ∧ va_Nc E nm s)) (hcell : H[q]? = some ce) (hv : ce.vm = .none) (hcl : s.vm.findClass E = some ce.cls)
    (hx : ∀ t : State, t.heap = H → s.vm.Alike t.vm → XC E s t) (hf : ∀ z ∈ locs, free z.base) (hc : cells ≤ mc) (hs : slots ≤ ms) :
    vx_W p l e R s m args below meth c H locs cells slots (vx_MQ below Qc XC args s mc ms free) (F0 m pc ls rest) q := by
  intro T hT X
  have hpl : e.platform.magicAccessors = ({} : Platform).magicAccessors := by rw [X.admits.platform]
  obtain ⟨vm', hW', X', st⟩ := X.outThrough hlocks q (g := F0 m pc ls rest) rfl rfl rfl (cell := ce) (by rw [hT]; exact hcell) (by rw [hv]; rfl)
    (by obtain ⟨k9, h9, -⟩ := Vm.findClass_spec hcl; exact ⟨k9, h9⟩) (fun z hz => by
      rcases hpass z hz with h | ⟨hz0, nm, hl1, hn1⟩
      · exact Or.inl h
      · obtain ⟨c6, hc6, hcl6⟩ := Cond.classLink_spec hown hl1 e.platform hpl
        obtain ⟨a8, b8, h1, h2, h3⟩ := hn1
        cases Option.some.inj (h1.symm.trans hcl)
        cases Option.some.inj (h2.symm.trans hc6)
        exact Or.inr ⟨hz0, _, hcl6, h3⟩)
  obtain ⟨g₀, hfr⟩ := X'.frames_eq
  have hcell9 : ((T.setVm vm').setFrames (.throwing q :: below)).heap[q]? = some ce := by
    show T.heap[q]? = some ce
    rw [hT]; exact hcell
  have hend : Ended ((T.setVm vm').setFrames (.throwing q :: below)) below (.threw q) := State.frames_setFrames _ (State.cur_lt_of_frames hfr)
  refine ⟨(T.setVm vm').setFrames (.throwing q :: below), ?_, .threw q, X'.here.running, hend, Or.inr ⟨q, rfl, E, ce, locs, hx _ hT (X'.ends _).1.alike, hcell9, hv, hcl, (X'.ends _).1, (X'.ends _).2.mono hc hs, hf⟩⟩
  rw [X.pushThrowing_eq]
  exact st
/-- a thing of a world lies in the heap -/
theorem vx_lt {D : va_G} {cl : List vw_C} {ws : va_W} {H1 : Heap} (h : va_P D cl ws H1) {k : Nat} {q : Nat × va_E} (hk : ws[k]? = some q) : q.1 < H1.size := (h k q hk).lt
end VXS
/-! ===== END ===== -/
/-! ===== BEGIN methods with a table of their own: called by a name, returning or throwing ===== -/
section VXH
/-! vx_backW, vx_callVX, vx_callSX, vx_callVW, vx_runVW, vx_runVX, vx_runSX, vx_ofWH follow the same proofs as their sisters above (Free/Laws.lean, Shelf42/LK1.lean); vx_outP calls Shelf42/NT130.lean (outThrough). -/
section
variable {l : Launch} {R : Room} {p : Program} {e : Env} {below : List Frame} {s : State} {sargs : Array Value} {y : MethodName} {len W9 : Nat}
theorem vx_backW {ws : List Cond} {rm : Room} {Pc : Array Value → State → Prop} {Qc : Array Value → State → Outcome → State → Prop} {XC : String → State → State → Prop} {mc ms : Nat} {free : Addr → Prop} {bytes : ByteArray} {maxL : Nat} {ret : Option FieldType} {hh : List (Nat × Nat × Nat × Nat)}
    (hM : vx_Met l y ws rm Pc Qc XC mc ms free) (hblind : FrameBlind Pc) (hrc : rm.cells = mc) (hrs : rm.slots = ms)
    (hframes : rm.frames + 1 ≤ R.frames) (hlocals : W9 + (maxL + 11) + rm.locals ≤ R.locals)
    (hws : ∀ w ∈ ws, ∀ a' U, s.WarmedH U.vm → w.before a' U = true) (hcode : Cond.codeWith y bytes maxL ret hh ∈ ws) (hinit : ∀ a' U, s.WarmedH U.vm → (Cond.initialized y.cls).before a' U = true) :
    vx_Back l R p e below s sargs y len W9 (PreOf R mc ms Pc) (PostOf Qc mc ms free) (vx_Post XC mc ms free) := by
  intro m meth c A g ig mk a X hg hsize hdg hW hn hp
  have h1 : (headSpec ws rm).pre.before a A.U = true := atoms_intro fun w hw => hws w hw _ _ X.warmed
  have h2 : (Cond.codeWith y bytes maxL ret hh).before a A.U = true := hws _ hcode _ _ X.warmed
  have h3 : (Cond.initialized y.cls).before a A.U = true := hinit _ _ X.warmed
  have h4 : A.cells + (headSpec ws rm).room.cells ≤ R.cells := by rw [show (headSpec ws rm).room.cells = mc from hrc]; exact hp.1
  have h5 : A.slots + (headSpec ws rm).room.slots ≤ R.slots := by rw [show (headSpec ws rm).room.slots = ms from hrs]; exact hp.2.1
  have hPc : Pc a (A.U.calling g mk a) := hblind _ _ _ _ hp.2.2
  obtain ⟨U, Ls, c0, s0⟩ := A
  dsimp only [Pt.U, Pt.locs, Pt.cells, Pt.slots] at h1 h2 h3 h4 h5 X hn hPc ⊢
  obtain ⟨m9, methY, cY, hn9, hmY, hcY, -, hlY, -⟩ := Cond.codeWith_spec h2
  cases Option.some.inj (hn9.symm.trans hn)
  obtain ⟨kY, hkY, -⟩ := className_of_methodNamed hn
  have hinitY : kY.init = .initialized := Cond.initialized_spec (findClass_of_methodNamed hn) hkY h3
  have h : At U g.method c below := by rw [hg]; exact X.here
  have hlocals9 : W9 + (maxL + 11) + (headSpec ws rm).room.locals ≤ R.locals := hlocals
  have happ : (headSpec ws rm).appliesLoose y e.platform (U.calling g mk a) = true :=
    Spec.appliesLoose_calling (g := g) h hdg hn hkY hinitY
      (X.room_calling (g := g) (R' := (headSpec ws rm).room) hsize hmY hcY hframes (by rw [hlY]; omega) h4 h5) h1
  obtain ⟨mid, hmid⟩ := h.above
  have hfr : (U.setTop g).frames = (.java g :: mid) ++ below := by rw [State.frames_setTop' g h.top, hmid]; rfl
  obtain ⟨o, s₂, hsteps, -, hend, hq⟩ := Steps.callFree hM p X.admits X.cas X.clock (acts := []) hfr happ hPc trivial
  have hq' : vx_Q Qc XC mc ms free a (U.calling g mk a) o s₂ := hq
  rw [State.frames_setTop' g h.top] at hend
  obtain ⟨g₀, hg0⟩ := Option.isSome_iff_exists.mp h.top
  obtain ⟨r, hr⟩ := State.topJava?_eq_some.mp hg0
  have hr' : (({ U with heap := s₂.heap, slotsUsed := s₂.slotsUsed } : State).setVm s₂.vm).frames = .java g₀ :: r := hr
  rcases hq' with ⟨hqc, L, hfe, hL⟩ | ⟨q, rfl, E, ce, L, hx, hce, hcv, hcl, hW₂, hsm, hL⟩
  · obtain ⟨⟨v, rfl⟩, hW₂, e2, q2, q3, q4, q5, q6⟩ := id hfe
    have e3 : s₂ = ({ (U.calling g mk a).setFrames s₂.frames with heap := s₂.heap, slotsUsed := s₂.slotsUsed } : State).setVm s₂.vm := by
      have : s₂ = ({ s₂ with vm := (U.calling g mk a).vm } : State).setVm s₂.vm := rfl
      rw [e2] at this
      exact this
    obtain ⟨c₂, i₂, len₂, hc₂, hd₂, hf₂⟩ := hend
    have hW' : U.WarmedH s₂.vm := hW₂
    have hcc : c₂ = c := by
      have h1 : s₂.code? g.method = U.code? g.method := by
        rw [State.code?_eq, State.code?_eq, hW'.alike.method?]
      exact Option.some.inj (hc₂.symm.trans (h1.trans h.code))
    subst hcc
    have hlen : len₂ = len := by rw [hdg] at hd₂; cases hd₂; rfl
    subst hlen
    have hs₂ : s₂ = (({ U with heap := s₂.heap, slotsUsed := s₂.slotsUsed } : State).setVm s₂.vm).setTop { g with pc := g.pc + len₂, stack := v.toList ++ g.stack } := by
      refine e3.trans ?_
      rw [hf₂, State.calling_eq h.top, State.setFrames_setFrames, State.setTop_of_frames _ hr', hr]
      rfl
    have hsame : U.sameButNew ({ U with heap := s₂.heap, slotsUsed := s₂.slotsUsed } : State) L mc ms := by
      refine ⟨?_, q2, q3, q4, q5, q6⟩
      obtain ⟨t, ht, -⟩ := State.frames_cons hr
      show ({ U with heap := s₂.heap, slotsUsed := s₂.slotsUsed } : State) = { U.setFrames U.frames with heap := s₂.heap, slotsUsed := s₂.slotsUsed }
      rw [State.setFrames_self ht]
    subst hg
    refine Or.inl ⟨v, ⟨(({ U with heap := s₂.heap, slotsUsed := s₂.slotsUsed } : State).setVm s₂.vm), Ls ++ L, c0 + mc, s0 + ms⟩,
      ⟨X.admits, X.cas, X.clock, X.frames, X.room, X.hears, X.method, X.code, (X.here.setHeapUsed s₂.heap s₂.slotsUsed).setVm hW'.alike, X.tail, State.WarmedH.trans X.warmed hW', X.limits, X.bytes, X.same.trans (hsame.setVm s.vm)⟩,
      ⟨g, mk, s₂, L, rfl, rfl, hqc, rfl, hL, rfl, rfl⟩, ?_⟩
    show Steps p.tables e below _ ((({ U with heap := s₂.heap, slotsUsed := s₂.slotsUsed } : State).setVm s₂.vm).setTop { g with pc := g.pc + len₂, stack := v.toList ++ g.stack })
    rw [← hs₂]
    exact hsteps
  · obtain ⟨e2, q2, q3, q4, q5, q6⟩ := id hsm
    have e3 : s₂ = ({ (U.calling g mk a).setFrames s₂.frames with heap := s₂.heap, slotsUsed := s₂.slotsUsed } : State).setVm s₂.vm := by
      have : s₂ = ({ s₂ with vm := (U.calling g mk a).vm } : State).setVm s₂.vm := rfl
      rw [e2] at this
      exact this
    have hf₂ : s₂.frames = .throwing q :: .java g :: U.frames.tail := hend
    have hW' : U.WarmedH s₂.vm := hW₂
    have hs₂ : s₂ = ((({ U with heap := s₂.heap, slotsUsed := s₂.slotsUsed } : State).setVm s₂.vm).setTop g).pushFrame (.throwing q) := by
      refine e3.trans ?_
      rw [hf₂, State.calling_eq h.top, State.setFrames_setFrames, State.pushFrame, State.frames_setTop _ hr', State.setTop_of_frames _ hr', State.setFrames_setFrames, hr]
      rfl
    have hsame : U.sameButNew ({ U with heap := s₂.heap, slotsUsed := s₂.slotsUsed } : State) L mc ms := by
      refine ⟨?_, q2, q3, q4, q5, q6⟩
      obtain ⟨t, ht, -⟩ := State.frames_cons hr
      show ({ U with heap := s₂.heap, slotsUsed := s₂.slotsUsed } : State) = { U.setFrames U.frames with heap := s₂.heap, slotsUsed := s₂.slotsUsed }
      rw [State.setFrames_self ht]
    subst hg
    refine Or.inr ⟨q, ⟨(({ U with heap := s₂.heap, slotsUsed := s₂.slotsUsed } : State).setVm s₂.vm), Ls ++ L, c0 + mc, s0 + ms⟩,
      ⟨X.admits, X.cas, X.clock, X.frames, X.room, X.hears, X.method, X.code, (X.here.setHeapUsed s₂.heap s₂.slotsUsed).setVm hW'.alike, X.tail, State.WarmedH.trans X.warmed hW', X.limits, X.bytes, X.same.trans (hsame.setVm s.vm)⟩,
      ⟨g, mk, s₂, L, E, ce, rfl, rfl, hx, hce, hcv, hcl, rfl, hL, rfl, rfl⟩, ?_⟩
    show Steps p.tables e below _ (((({ U with heap := s₂.heap, slotsUsed := s₂.slotsUsed } : State).setVm s₂.vm).setTop g).pushFrame (.throwing q))
    rw [← hs₂]
    exact hsteps
end
variable {p : Program} {l : Launch} {e : Env} {R : Room} {s : State} {m : MethodId} {args : Array Value} {below : List Frame} {meth : Method} {c : Code} {T : State} {H : Heap} {locs : List Loc} {cells slots : Nat}
theorem vx_callVX (X : Stand p l e R s m args below meth c T locs cells slots) (hexec : p.tables.exec = Jvm.exec) {own C : String} {index : Nat} {y : MethodName} {bytes : ByteArray} {maxL : Nat} {ret : Option FieldType} {hh : List (Nat × Nat × Nat × Nat)}
    (hown : s.vm.findClass own = some m.cls) (hlink : (Cond.methodLink own index y).before args s = true) (hinst : (Cond.instanceMethod y).before args s = true) (hsel : (Cond.selects C y y).before args s = true)
    (hcode : (Cond.codeWith y bytes maxL ret hh).before args s = true) (hy : y.cls ≠ "java/lang/invoke/MethodHandle" ∧ y.cls ≠ "java/lang/invoke/VarHandle")
    {W9 : Nat} {Pre : Pt → Array Value → Prop} {Post : Pt → Array Value → Option Value → Pt → Prop} {PostX : Pt → Array Value → Addr → Pt → Prop} (hK : vx_Back l R p e below s args y 3 W9 Pre Post PostX)
    {b : Addr} {cellB : Cell} (hcell : T.heap[b]? = some cellB) (hobj : cellB.vm.isStatics = false) (hcls : s.vm.findClass C = some cellB.cls)
    {g : JFrame} (hg : g.method = m) (hsize : g.locals.size = c.maxLocals) {argsL rest : List Value} (hlen : ∀ sig, parseMethodDescriptor y.desc = some sig → argsL.length = sig.parameters.length)
    (hstack : g.stack = argsL.reverse ++ .ref b :: rest) (hW : 2 * g.monitorRoom + (rest.map fun v => v.category).sum ≤ W9) (hdg : decode c.code g.pc = .ok (.invokevirtual index, 3))
    (hpre : ∀ vm₁, s.WarmedH vm₁ → Pre ⟨T.setVm vm₁, locs, cells, slots⟩ (Value.ref b :: argsL).toArray) :
    (∃ (v : Option Value) (vm₁ : Vm) (B : Pt), s.WarmedH vm₁ ∧ Stand p l e R s m args below meth c B.U B.locs B.cells B.slots ∧ Post ⟨T.setVm vm₁, locs, cells, slots⟩ (Value.ref b :: argsL).toArray v B ∧
      ∀ target, Steps p.tables e below (B.U.setTop { g with pc := g.pc + 3, stack := v.toList ++ rest }) target → Steps p.tables e below (T.setTop g) target) ∨
    (∃ (q : Addr) (vm₁ : Vm) (B : Pt), s.WarmedH vm₁ ∧ Stand p l e R s m args below meth c B.U B.locs B.cells B.slots ∧ PostX ⟨T.setVm vm₁, locs, cells, slots⟩ (Value.ref b :: argsL).toArray q B ∧
      Steps p.tables e below (T.setTop g) ((B.U.setTop { g with stack := rest }).pushFrame (.throwing q))) := by
  obtain ⟨mk, methM, hnamed, hmethM, hstM, habM⟩ := Cond.instanceMethod_spec hinst
  obtain ⟨m8, methM', cM, hn8, hmethM', -, -, -, -, -, -, hsigM⟩ := Cond.codeWith_spec hcode
  cases Option.some.inj (hn8.symm.trans hnamed)
  cases hmethM.symm.trans hmethM'
  obtain ⟨c2, r2, m2, q1, q2, q3, q4, kP, hkP, hkPi⟩ := Cond.selects_spec hsel
  cases hcls.symm.trans q1
  cases (State.methodFound?_of_named hnamed hy).symm.trans q2
  cases hnamed.symm.trans q3
  have hselP : selectMethod e.platform s.vm cellB.cls mk = .method mk := by rw [Launch.admits_selectMethod X.admits]; exact q4
  obtain ⟨vm₁, X₁, hstep₁⟩ := X.invokevirtual hexec hown hlink hnamed hmethM hstM hkP hkPi hy (a := b) (cell := cellB) hcell
    (fun z h => by rw [h] at hobj; cases hobj) hselP hmethM habM hkP hkPi (g := g) hg (argsL := argsL) (rest := rest) (hlen _ hsigM) hstack hdg
  rcases hK m meth c ⟨T.setVm vm₁, locs, cells, slots⟩ { g with stack := rest } (.invokevirtual index) mk (Value.ref b :: argsL).toArray X₁ hg hsize hdg hW (X₁.named hnamed) (hpre vm₁ X₁.warmed) with ⟨v, B, X', hpost, hsteps⟩ | ⟨q, B, X', hpost, hsteps⟩
  · exact Or.inl ⟨v, vm₁, B, X₁.warmed, X', hpost, fun target h => hstep₁ _ fun acts => by rw [doInvoke_state]; exact hsteps.trans h⟩
  · exact Or.inr ⟨q, vm₁, B, X₁.warmed, X', hpost, hstep₁ _ fun acts => by rw [doInvoke_state]; exact hsteps⟩
theorem vx_callSX (X : Stand p l e R s m args below meth c T locs cells slots) (hexec : p.tables.exec = Jvm.exec) {own : String} {index : Nat} {y : MethodName} {bytes : ByteArray} {maxL : Nat} {ret : Option FieldType} {hh : List (Nat × Nat × Nat × Nat)}
    (hown : s.vm.findClass own = some m.cls) (hlink : (Cond.methodLink own index y).before args s = true) (hstat : (Cond.static y).before args s = true) (hinit : (Cond.initialized y.cls).before args s = true)
    (hcode : (Cond.codeWith y bytes maxL ret hh).before args s = true) (hy : y.cls ≠ "java/lang/invoke/MethodHandle" ∧ y.cls ≠ "java/lang/invoke/VarHandle")
    {W9 : Nat} {Pre : Pt → Array Value → Prop} {Post : Pt → Array Value → Option Value → Pt → Prop} {PostX : Pt → Array Value → Addr → Pt → Prop} (hK : vx_Back l R p e below s args y 3 W9 Pre Post PostX)
    {g : JFrame} (hg : g.method = m) (hsize : g.locals.size = c.maxLocals) {argsL rest : List Value} (hlen : ∀ sig, parseMethodDescriptor y.desc = some sig → argsL.length = sig.parameters.length)
    (hstack : g.stack = argsL.reverse ++ rest) (hW : 2 * g.monitorRoom + (rest.map fun v => v.category).sum ≤ W9) (hdg : decode c.code g.pc = .ok (.invokestatic index, 3))
    (hpre : ∀ vm₁, s.WarmedH vm₁ → Pre ⟨T.setVm vm₁, locs, cells, slots⟩ argsL.toArray) :
    (∃ (v : Option Value) (vm₁ : Vm) (B : Pt), s.WarmedH vm₁ ∧ Stand p l e R s m args below meth c B.U B.locs B.cells B.slots ∧ Post ⟨T.setVm vm₁, locs, cells, slots⟩ argsL.toArray v B ∧
      ∀ target, Steps p.tables e below (B.U.setTop { g with pc := g.pc + 3, stack := v.toList ++ rest }) target → Steps p.tables e below (T.setTop g) target) ∨
    (∃ (q : Addr) (vm₁ : Vm) (B : Pt), s.WarmedH vm₁ ∧ Stand p l e R s m args below meth c B.U B.locs B.cells B.slots ∧ PostX ⟨T.setVm vm₁, locs, cells, slots⟩ argsL.toArray q B ∧
      Steps p.tables e below (T.setTop g) ((B.U.setTop { g with stack := rest }).pushFrame (.throwing q))) := by
  obtain ⟨mk, methM, cM, hnamed, hmethM, -, -, -, -, -, -, hsigM⟩ := Cond.codeWith_spec hcode
  have hstatic : methM.isStatic = true := Cond.static_spec hnamed hmethM hstat
  obtain ⟨kP, hkP, -⟩ := className_of_methodNamed hnamed
  have hinitP : kP.init = .initialized := Cond.initialized_spec (findClass_of_methodNamed hnamed) hkP hinit
  obtain ⟨vm₁, X₁, hstep₁⟩ := X.invokestatic hexec hown hlink hnamed hmethM hstatic hkP hinitP hy (g := g) hg (argsL := argsL) (rest := rest) (hlen _ hsigM) hstack hdg
  rcases hK m meth c ⟨T.setVm vm₁, locs, cells, slots⟩ { g with stack := rest } (.invokestatic index) mk argsL.toArray X₁ hg hsize hdg hW (X₁.named hnamed) (hpre vm₁ X₁.warmed) with ⟨v, B, X', hpost, hsteps⟩ | ⟨q, B, X', hpost, hsteps⟩
  · exact Or.inl ⟨v, vm₁, B, X₁.warmed, X', hpost, fun target h => hstep₁ _ fun acts => by rw [doInvoke_state]; exact hsteps.trans h⟩
  · exact Or.inr ⟨q, vm₁, B, X₁.warmed, X', hpost, hstep₁ _ fun acts => by rw [doInvoke_state]; exact hsteps⟩
theorem vx_callVW (X : Stand p l e R s m args below meth c T locs cells slots) (hexec : p.tables.exec = Jvm.exec) {own C : String} {index : Nat} {y : MethodName} {bytes : ByteArray} {maxL : Nat} {ret : Option FieldType} {hh : List (Nat × Nat × Nat × Nat)}
    (hown : s.vm.findClass own = some m.cls) (hlink : (Cond.methodLink own index y).before args s = true) (hinst : (Cond.instanceMethod y).before args s = true) (hsel : (Cond.selects C y y).before args s = true)
    (hcode : (Cond.codeWith y bytes maxL ret hh).before args s = true) (hy : y.cls ≠ "java/lang/invoke/MethodHandle" ∧ y.cls ≠ "java/lang/invoke/VarHandle")
    {W9 : Nat} {Pre : Pt → Array Value → Prop} {Post : Pt → Array Value → Option Value → Pt → Prop} (hK : Back l R p e below s args y 3 W9 Pre Post)
    {b : Addr} {cellB : Cell} (hcell : T.heap[b]? = some cellB) (hobj : cellB.vm.isStatics = false) (hcls : s.vm.findClass C = some cellB.cls)
    {g : JFrame} (hg : g.method = m) (hsize : g.locals.size = c.maxLocals) {argsL rest : List Value} (hlen : ∀ sig, parseMethodDescriptor y.desc = some sig → argsL.length = sig.parameters.length)
    (hstack : g.stack = argsL.reverse ++ .ref b :: rest) (hW : 2 * g.monitorRoom + (rest.map fun v => v.category).sum ≤ W9) (hdg : decode c.code g.pc = .ok (.invokevirtual index, 3))
    (hpre : ∀ vm₁, s.WarmedH vm₁ → Pre ⟨T.setVm vm₁, locs, cells, slots⟩ (Value.ref b :: argsL).toArray) :
    ∃ (v : Option Value) (vm₁ : Vm) (B : Pt), s.WarmedH vm₁ ∧ Stand p l e R s m args below meth c B.U B.locs B.cells B.slots ∧ Post ⟨T.setVm vm₁, locs, cells, slots⟩ (Value.ref b :: argsL).toArray v B ∧
      ∀ target, Steps p.tables e below (B.U.setTop { g with pc := g.pc + 3, stack := v.toList ++ rest }) target → Steps p.tables e below (T.setTop g) target := by
  obtain ⟨mk, methM, hnamed, hmethM, hstM, habM⟩ := Cond.instanceMethod_spec hinst
  obtain ⟨m8, methM', cM, hn8, hmethM', -, -, -, -, -, -, hsigM⟩ := Cond.codeWith_spec hcode
  cases Option.some.inj (hn8.symm.trans hnamed)
  cases hmethM.symm.trans hmethM'
  obtain ⟨c2, r2, m2, q1, q2, q3, q4, kP, hkP, hkPi⟩ := Cond.selects_spec hsel
  cases hcls.symm.trans q1
  cases (State.methodFound?_of_named hnamed hy).symm.trans q2
  cases hnamed.symm.trans q3
  have hselP : selectMethod e.platform s.vm cellB.cls mk = .method mk := by rw [Launch.admits_selectMethod X.admits]; exact q4
  obtain ⟨vm₁, X₁, hstep₁⟩ := X.invokevirtual hexec hown hlink hnamed hmethM hstM hkP hkPi hy (a := b) (cell := cellB) hcell
    (fun z h => by rw [h] at hobj; cases hobj) hselP hmethM habM hkP hkPi (g := g) hg (argsL := argsL) (rest := rest) (hlen _ hsigM) hstack hdg
  obtain ⟨v, B, X', hpost, hsteps⟩ := hK m meth c ⟨T.setVm vm₁, locs, cells, slots⟩ { g with stack := rest } (.invokevirtual index) mk (Value.ref b :: argsL).toArray X₁ hg hsize hdg hW (X₁.named hnamed) (hpre vm₁ X₁.warmed)
  exact ⟨v, vm₁, B, X₁.warmed, X', hpost, fun target h => hstep₁ _ fun acts => by rw [doInvoke_state]; exact hsteps.trans h⟩
abbrev vx_CVW (R : Room) (s : State) (args : Array Value) (own C : String) (index : Nat) (y : MethodName) (bytes : ByteArray) (maxL : Nat) (ret : Option FieldType) (hh : List (Nat × Nat × Nat × Nat)) (ws : List Cond) (rm : Room) (mc ms n : Nat) : Prop :=
  (rm.cells = mc ∧ rm.slots = ms ∧ rm.frames + 1 ≤ R.frames ∧ 8 + (maxL + 11) + rm.locals ≤ R.locals ∧ (∀ w ∈ ws, ∀ (a' : Array Value) (U : State), s.WarmedH U.vm → w.before a' U = true) ∧ Cond.codeWith y bytes maxL ret hh ∈ ws) ∧
  (Cond.codeWith y bytes maxL ret hh).before args s = true ∧ (Cond.initialized y.cls).before args s = true ∧ (y.cls ≠ "java/lang/invoke/MethodHandle" ∧ y.cls ≠ "java/lang/invoke/VarHandle") ∧
  (∀ sig, parseMethodDescriptor y.desc = some sig → n = sig.parameters.length) ∧ (Cond.methodLink own index y).before args s = true ∧ (Cond.instanceMethod y).before args s = true ∧ (Cond.selects C y y).before args s = true
theorem vx_cwVW {own C : String} {index maxL mc ms : Nat} {y : MethodName} {bytes : ByteArray} {ret : Option FieldType} {hh : List (Nat × Nat × Nat × Nat)} {Ts ws ws' : List Cond} {rm : Room} (n : Nat) (ht : ∀ w ∈ Ts, w.before args s = true) (hT : GoodIn Ts (wsV own index C y ws)) (hw : ws = Cond.codeWith y bytes maxL ret hh :: ws') (hrc : rm.cells = mc) (hrs : rm.slots = ms)
    (hd : y.cls = C ∧ y.cls ≠ "java/lang/invoke/MethodHandle" ∧ y.cls ≠ "java/lang/invoke/VarHandle" ∧ (parseMethodDescriptor y.desc).map (fun d => d.parameters.length) = some n) (hR : rm.frames + 1 ≤ R.frames ∧ 8 + (maxL + 11) + rm.locals ≤ R.locals) :
    vx_CVW R s args own C index y bytes maxL ret hh ws rm mc ms n := by
  obtain ⟨hC, hd⟩ := hd
  subst hC
  have ok : ∀ w ∈ wsV own index y.cls y ws, w.before args s = true := fun w h => ht w (hT w h).1
  have hG : GoodIn Ts ws := fun w h => hT w (by unfold wsV; exact List.mem_append_right _ h)
  have hc : Cond.codeWith y bytes maxL ret hh ∈ ws := by rw [hw]; exact List.mem_cons_self
  refine ⟨⟨hrc, hrs, hR.1, hR.2, pay_in ht hG, hc⟩, ht _ (hG _ hc).1, ok _ (by simp [wsV]), ⟨hd.1, hd.2.1⟩, fun sig h => ?_, ok _ (by simp [wsV]), ok _ (by simp [wsV]), ok _ (by simp [wsV])⟩
  have h2 := hd.2.2
  rw [h] at h2
  exact (Option.some.inj h2).symm
theorem vx_runVW {y : MethodName} {bytes cc : ByteArray} {maxL nL mc ms n index : Nat} {ret : Option FieldType} {hh : List (Nat × Nat × Nat × Nat)} {ws : List Cond} {rm : Room} {Pc : Array Value → State → Prop} {Qc : Array Value → State → Outcome → State → Prop} {free : Addr → Prop} {Ts : List Cond} {own C : String} {b : Addr} {As rest : List Value} {g : JFrame}
    (S : CallFix p m c cc nL s args Ts own) (hM : Met l y ws rm Pc Qc mc ms free) (cw : vx_CVW R s args own C index y bytes maxL ret hh ws rm mc ms n) (hp : PreV s H C b Pc As)
    (hg : g.method = m) (hn : As.length = n) (hsize : g.locals.size = nL) (hstack : g.stack = As.reverse ++ .ref b :: rest) (hW : 2 * g.monitorRoom + (rest.map fun v => v.category).sum ≤ 8) (hdg : decode cc g.pc = .ok (.invokevirtual index, 3)) (hf : cells + mc ≤ R.cells ∧ slots + ms ≤ R.slots) :
    va_Run p l e R s m args below meth c H locs cells slots mc ms g rest (Qc (Value.ref b :: As).toArray) free := by
  obtain ⟨⟨hrc, hrs, hfr, hlo, hws, hcw⟩, hcode, hini, hy, hlen, hl, hin, hse⟩ := cw
  have hK : Back l R p e below s args y 3 8 (PreOf R mc ms Pc) (PostOf Qc mc ms free) := va_backW (hh := hh) (bytes := bytes) (maxL := maxL) (ret := ret) hM hp.1 hrc hrs hfr hlo hws hcw (fun a' U hW => word_at hW (Or.inl (by first | rfl | simp [Cond.onTables, Cond.keeps, Cond.steady])) hini)
  obtain ⟨hx, hb, hml, ho, -⟩ := S
  obtain ⟨-, ⟨cellB, hcB, hoB, hclB⟩, hPc⟩ := hp
  intro T hT X
  obtain ⟨v, vm₁, ⟨U', l2, c2, s2⟩, hW₁, X', ⟨g', mk, t, L, e1, e2, hq, h1, hL, h2, h3⟩, st⟩ := vx_callVW X hx (C := C) (hh := hh) (bytes := bytes) (maxL := maxL) (ret := ret) ho hl hin hse hcode hy hK (by rw [hT]; exact hcB) hoB hclB hg (hsize.trans hml.symm) (argsL := As) (rest := rest) (fun sig h => hn.trans (hlen sig h)) hstack hW (by rw [hb]; exact hdg)
    (fun vm₁ hW₁ => ⟨hf.1, hf.2, hPc (T.setVm vm₁) hT hW₁⟩)
  dsimp only [Pt.U, Pt.locs, Pt.cells, Pt.slots] at X' e1 e2 h1 h2 h3 st
  subst h1; subst h2; subst h3
  exact ⟨v, (T.setVm vm₁).calling g' mk (Value.ref b :: As).toArray, t, U', L, hT, X', hL, e1, e2, hq, st⟩
section
variable {y : MethodName} {bytes cc : ByteArray} {maxL nL mc ms n index : Nat} {ret : Option FieldType} {ws : List Cond} {rm : Room} {Pc : Array Value → State → Prop} {Qc : Array Value → State → Outcome → State → Prop} {XC : String → State → State → Prop} {free : Addr → Prop} {Ts : List Cond} {own C : String} {b : Addr} {As rest : List Value} {g : JFrame}
theorem vx_runVX {hh : List (Nat × Nat × Nat × Nat)} (S : CallFix p m c cc nL s args Ts own) (hM : vx_Met l y ws rm Pc Qc XC mc ms free) (cw : vx_CVW R s args own C index y bytes maxL ret hh ws rm mc ms n) (hp : PreV s H C b Pc As)
    (hg : g.method = m) (hn : As.length = n) (hsize : g.locals.size = nL) (hstack : g.stack = As.reverse ++ .ref b :: rest) (hW : 2 * g.monitorRoom + (rest.map fun v => v.category).sum ≤ 8) (hdg : decode cc g.pc = .ok (.invokevirtual index, 3)) (hf : cells + mc ≤ R.cells ∧ slots + ms ≤ R.slots) :
    vx_Run p l e R s m args below meth c H locs cells slots mc ms g rest (Qc (Value.ref b :: As).toArray) XC free := by
  obtain ⟨⟨hrc, hrs, hfr, hlo, hws, hcw⟩, hcode, hini, hy, hlen, hl, hin, hse⟩ := cw
  have hK : vx_Back l R p e below s args y 3 8 (PreOf R mc ms Pc) (PostOf Qc mc ms free) (vx_Post XC mc ms free) := vx_backW (hh := hh) (bytes := bytes) (maxL := maxL) (ret := ret) hM hp.1 hrc hrs hfr hlo hws hcw (fun a' U hW => word_at hW (Or.inl (by first | rfl | simp [Cond.onTables, Cond.keeps, Cond.steady])) hini)
  obtain ⟨hx, hb, hml, ho, -⟩ := S
  obtain ⟨-, ⟨cellB, hcB, hoB, hclB⟩, hPc⟩ := hp
  intro T hT X
  rcases vx_callVX X hx (C := C) (hh := hh) (bytes := bytes) (maxL := maxL) (ret := ret) ho hl hin hse hcode hy hK (by rw [hT]; exact hcB) hoB hclB hg (hsize.trans hml.symm) (argsL := As) (rest := rest) (fun sig h => hn.trans (hlen sig h)) hstack hW (by rw [hb]; exact hdg)
    (fun vm₁ hW₁ => ⟨hf.1, hf.2, hPc (T.setVm vm₁) hT hW₁⟩) with ⟨v, vm₁, ⟨U', l2, c2, s2⟩, hW₁, X', ⟨g', mk, t, L, e1, e2, hq, h1, hL, h2, h3⟩, st⟩ | ⟨q, vm₁, ⟨U', l2, c2, s2⟩, hW₁, X', ⟨g', mk, t, L, E, ce, e1, e2, hq, hce, hcv, hcl, h1, hL, h2, h3⟩, st⟩
  · dsimp only [Pt.U, Pt.locs, Pt.cells, Pt.slots] at X' e1 e2 h1 h2 h3 st
    subst h1; subst h2; subst h3
    exact Or.inl ⟨v, (T.setVm vm₁).calling g' mk (Value.ref b :: As).toArray, t, U', L, hT, X', hL, e1, e2, hq, st⟩
  · dsimp only [Pt.U, Pt.locs, Pt.cells, Pt.slots] at X' e1 e2 h1 h2 h3 st hcl
    subst h1; subst h2; subst h3
    exact Or.inr ⟨q, (T.setVm vm₁).calling g' mk (Value.ref b :: As).toArray, t, U', L, E, ce, hT, X', hL, e1, e2, hq, hce, hcv, vx_cls hW₁ hcl, st⟩
theorem vx_runSX {hh : List (Nat × Nat × Nat × Nat)} (S : CallFix p m c cc nL s args Ts own) (hM : vx_Met l y ws rm Pc Qc XC mc ms free) (cw : vx_CSW R s args own index y bytes maxL ret hh ws rm mc ms n) (hp : PreS s H Pc As)
    (hg : g.method = m) (hn : As.length = n) (hsize : g.locals.size = nL) (hstack : g.stack = As.reverse ++ rest) (hW : 2 * g.monitorRoom + (rest.map fun v => v.category).sum ≤ 8) (hdg : decode cc g.pc = .ok (.invokestatic index, 3)) (hf : cells + mc ≤ R.cells ∧ slots + ms ≤ R.slots) :
    vx_Run p l e R s m args below meth c H locs cells slots mc ms g rest (Qc As.toArray) XC free := by
  obtain ⟨⟨hrc, hrs, hfr, hlo, hws, hcw⟩, hcode, hini, hy, hlen, hl, hstt⟩ := cw
  have hK : vx_Back l R p e below s args y 3 8 (PreOf R mc ms Pc) (PostOf Qc mc ms free) (vx_Post XC mc ms free) := vx_backW (hh := hh) (bytes := bytes) (maxL := maxL) (ret := ret) hM hp.1 hrc hrs hfr hlo hws hcw (fun a' U hW => word_at hW (Or.inl (by first | rfl | simp [Cond.onTables, Cond.keeps, Cond.steady])) hini)
  obtain ⟨hx, hb, hml, ho, -⟩ := S
  intro T hT X
  rcases vx_callSX X hx (hh := hh) (bytes := bytes) (maxL := maxL) (ret := ret) ho hl hstt hini hcode hy hK hg (hsize.trans hml.symm) (argsL := As) (rest := rest) (fun sig h => hn.trans (hlen sig h)) hstack hW (by rw [hb]; exact hdg)
    (fun vm₁ hW₁ => ⟨hf.1, hf.2, hp.2 (T.setVm vm₁) hT hW₁⟩) with ⟨v, vm₁, ⟨U', l2, c2, s2⟩, hW₁, X', ⟨g', mk, t, L, e1, e2, hq, h1, hL, h2, h3⟩, st⟩ | ⟨q, vm₁, ⟨U', l2, c2, s2⟩, hW₁, X', ⟨g', mk, t, L, E, ce, e1, e2, hq, hce, hcv, hcl, h1, hL, h2, h3⟩, st⟩
  · dsimp only [Pt.U, Pt.locs, Pt.cells, Pt.slots] at X' e1 e2 h1 h2 h3 st
    subst h1; subst h2; subst h3
    exact Or.inl ⟨v, (T.setVm vm₁).calling g' mk As.toArray, t, U', L, hT, X', hL, e1, e2, hq, st⟩
  · dsimp only [Pt.U, Pt.locs, Pt.cells, Pt.slots] at X' e1 e2 h1 h2 h3 st hcl
    subst h1; subst h2; subst h3
    exact Or.inr ⟨q, (T.setVm vm₁).calling g' mk As.toArray, t, U', L, E, ce, hT, X', hL, e1, e2, hq, hce, hcv, vx_cls hW₁ hcl, st⟩
end
end VXH
theorem vx_ofWH {l : Launch} {y : MethodName} {ws ws' : List Cond} {rm : Room} {Pc : Array Value → State → Prop} {Qc : Array Value → State → Outcome → State → Prop} {XC : String → State → State → Prop} {mc ms : Nat} {free : Addr → Prop} {cc : ByteArray} {maxL : Nat} {ret : Option FieldType} {hh : List (Nat × Nat × Nat × Nat)}
    (hy : plainName y.cls = true) (hw : ws = Cond.codeWith y cc maxL ret hh :: ws')
    (body : ∀ p e s m args below meth c s₁, BodyLoose p l y (headSpec ws rm) cc maxL ret e s m args below meth c s₁ → c.maxLocals = maxL → Pc args s →
      W p l e (headSpec ws rm).room s m args below meth c s.heap [] 0 0 (vx_MQ below Qc XC args s mc ms free) (entryFrame m args maxL)) : vx_Met l y ws rm Pc Qc XC mc ms free := by
  refine MetFree.of_bodyS (code := cc) (maxLocals := maxL) (ret := ret) hy ?_ ?_
  · intro args s m h hn
    obtain ⟨m9, meth, c, hn9, h1, h2, h3, h4, -, h5, h6, -⟩ := Cond.codeWith_spec (atoms_spec (ws := ws) h _ (by rw [hw]; exact List.mem_cons_self))
    cases hn.symm.trans hn9
    exact ⟨meth, c, h1, h2, h3, h4, h5, h6⟩
  · intro p e s m args below meth c s₁ B hml hP _
    have hh0 : s₁.heap = s.heap := by rw [B.state]; rfl
    obtain ⟨t, a1, o, b1, b2, b3⟩ := body p e s m args below meth c s₁ B hml hP s₁ hh0 (Stand.of_body B)
    exact ⟨t, o, a1, b1, b2, b3⟩
/-! ===== END ===== -/

/-! ===== BEGIN printed: names, fields, word lists, decode rows ===== -/
def RX0 : String := "FloatOrder$Best"
def TX0 : u_T := fun k => match k with
  | 0 => ("FloatOrder$Best", "leastTrouble", "I", false)
  | _ => ("FloatOrder$Best", "leastEnd", "I", false)
def tyX0 : Nat → FieldType := fun k => match k with
  | 0 => .int
  | _ => .int
abbrev wsX00 : List Cond := u_ws RX0 TX0 2
theorem nmX0 : ∀ a, a < 2 → ∀ b, b < 2 → a ≠ b → (TX0 a).2.1 ≠ (TX0 b).2.1 := by decide +kernel
theorem tyX0_ok : ∀ k, k < 2 → parseFieldDescriptor (TX0 k).2.2.1 = some (tyX0 k) := by decide +kernel
abbrev cX0_init : ByteArray := prog_2_method_1_code
def yX0_init : MethodName := ⟨RX0, "<init>", "()V"⟩
abbrev cX0_startAt : ByteArray := prog_2_method_2_code
def yX0_startAt : MethodName := ⟨RX0, "startAt", "(LFloatOrder$Parade;)V"⟩
abbrev cX0_isBeatenBy : ByteArray := prog_2_method_3_code
def yX0_isBeatenBy : MethodName := ⟨RX0, "isBeatenBy", "(LFloatOrder$Parade;)Z"⟩
def RX1 : String := "FloatOrder$History"
def TX1 : u_T := fun k => match k with
  | 0 => ("FloatOrder$History", "saved", "[LFloatOrder$Parade;", true)
  | _ => ("FloatOrder$History", "size", "I", false)
def tyX1 : Nat → FieldType := fun k => match k with
  | 0 => .array (.object "FloatOrder$Parade")
  | _ => .int
abbrev wsX10 : List Cond := u_ws RX1 TX1 2
theorem nmX1 : ∀ a, a < 2 → ∀ b, b < 2 → a ≠ b → (TX1 a).2.1 ≠ (TX1 b).2.1 := by decide +kernel
theorem tyX1_ok : ∀ k, k < 2 → parseFieldDescriptor (TX1 k).2.2.1 = some (tyX1 k) := by decide +kernel
abbrev cX1_init : ByteArray := prog_3_method_1_code
def yX1_init : MethodName := ⟨RX1, "<init>", "()V"⟩
abbrev cX1_save : ByteArray := prog_3_method_2_code
def yX1_save : MethodName := ⟨RX1, "save", "(LFloatOrder$Parade;)V"⟩
abbrev cX1_dropOldest : ByteArray := prog_3_method_3_code
def yX1_dropOldest : MethodName := ⟨RX1, "dropOldest", "()V"⟩
abbrev cX1_restoreLatest : ByteArray := prog_3_method_4_code
def yX1_restoreLatest : MethodName := ⟨RX1, "restoreLatest", "(LFloatOrder$Parade;)V"⟩
def RX2 : String := "FloatOrder$Parade"
def TX2 : u_T := fun k => match k with
  | 0 => ("FloatOrder$Parade", "floats", "I", false)
  | 1 => ("FloatOrder$Parade", "kinds", "[I", true)
  | 2 => ("FloatOrder$Parade", "heights", "[I", true)
  | 3 => ("FloatOrder$Parade", "masks", "[I", true)
  | 4 => ("FloatOrder$Parade", "folded", "[Z", true)
  | 5 => ("FloatOrder$Parade", "bridges", "I", false)
  | 6 => ("FloatOrder$Parade", "distances", "[I", true)
  | 7 => ("FloatOrder$Parade", "clearances", "[I", true)
  | 8 => ("FloatOrder$Parade", "settings", "[I", true)
  | 9 => ("FloatOrder$Parade", "came", "[I", true)
  | _ => ("FloatOrder$Parade", "left", "[I", true)
def tyX2 : Nat → FieldType := fun k => match k with
  | 0 => .int
  | 1 => .array .int
  | 2 => .array .int
  | 3 => .array .int
  | 4 => .array .boolean
  | 5 => .int
  | 6 => .array .int
  | 7 => .array .int
  | 8 => .array .int
  | 9 => .array .int
  | _ => .array .int
abbrev wsX20 : List Cond := u_ws RX2 TX2 11
theorem nmX2 : ∀ a, a < 11 → ∀ b, b < 11 → a ≠ b → (TX2 a).2.1 ≠ (TX2 b).2.1 := by decide +kernel
theorem tyX2_ok : ∀ k, k < 11 → parseFieldDescriptor (TX2 k).2.2.1 = some (tyX2 k) := by decide +kernel
abbrev cX2_init : ByteArray := prog_4_method_1_code
def yX2_init : MethodName := ⟨RX2, "<init>", "()V"⟩
abbrev cX2_copyFrom : ByteArray := prog_4_method_2_code
def yX2_copyFrom : MethodName := ⟨RX2, "copyFrom", "(LFloatOrder$Parade;)V"⟩
abbrev cX2_addLast : ByteArray := prog_4_method_3_code
def yX2_addLast : MethodName := ⟨RX2, "addLast", "(III)V"⟩
abbrev cX2_takeAway : ByteArray := prog_4_method_4_code
def yX2_takeAway : MethodName := ⟨RX2, "takeAway", "(I)V"⟩
abbrev cX2_shift : ByteArray := prog_4_method_5_code
def yX2_shift : MethodName := ⟨RX2, "shift", "(II)V"⟩
abbrev cX2_swap : ByteArray := prog_4_method_6_code
def yX2_swap : MethodName := ⟨RX2, "swap", "(II)V"⟩
abbrev cX2_floatProperty : ByteArray := prog_4_method_7_code
def yX2_floatProperty : MethodName := ⟨RX2, "floatProperty", "(II)I"⟩
abbrev cX2_countedHeight : ByteArray := prog_4_method_8_code
def yX2_countedHeight : MethodName := ⟨RX2, "countedHeight", "(I)I"⟩
abbrev cX2_greatestHeight : ByteArray := prog_4_method_9_code
def yX2_greatestHeight : MethodName := ⟨RX2, "greatestHeight", "()I"⟩
abbrev cX2_allTrouble : ByteArray := prog_4_method_10_code
def yX2_allTrouble : MethodName := ⟨RX2, "allTrouble", "()I"⟩
abbrev cX2_troubledFloats : ByteArray := prog_4_method_11_code
def yX2_troubledFloats : MethodName := ⟨RX2, "troubledFloats", "()I"⟩
abbrev cX2_troubleAt : ByteArray := prog_4_method_12_code
def yX2_troubleAt : MethodName := ⟨RX2, "troubleAt", "(I)I"⟩
abbrev cX2_troubleBy : ByteArray := prog_4_method_13_code
def yX2_troubleBy : MethodName := ⟨RX2, "troubleBy", "(II)I"⟩
abbrev cX2_shying : ByteArray := prog_4_method_14_code
def yX2_shying : MethodName := ⟨RX2, "shying", "(I)I"⟩
abbrev cX2_hearing : ByteArray := prog_4_method_15_code
def yX2_hearing : MethodName := ⟨RX2, "hearing", "(I)I"⟩
abbrev cX2_meeting : ByteArray := prog_4_method_16_code
def yX2_meeting : MethodName := ⟨RX2, "meeting", "(I)I"⟩
abbrev cX2_hasBridgeAt : ByteArray := prog_4_method_17_code
def yX2_hasBridgeAt : MethodName := ⟨RX2, "hasBridgeAt", "(I)Z"⟩
abbrev cX2_build : ByteArray := prog_4_method_18_code
def yX2_build : MethodName := ⟨RX2, "build", "(II)I"⟩
abbrev cX2_pullDown : ByteArray := prog_4_method_19_code
def yX2_pullDown : MethodName := ⟨RX2, "pullDown", "(I)V"⟩
abbrev cX2_bridgeProperty : ByteArray := prog_4_method_20_code
def yX2_bridgeProperty : MethodName := ⟨RX2, "bridgeProperty", "(II)I"⟩
abbrev cX2_isLowered : ByteArray := prog_4_method_21_code
def yX2_isLowered : MethodName := ⟨RX2, "isLowered", "(II)Z"⟩
abbrev cX2_bridgesThatLower : ByteArray := prog_4_method_22_code
def yX2_bridgesThatLower : MethodName := ⟨RX2, "bridgesThatLower", "(I)I"⟩
abbrev cX2_floatsLoweredAt : ByteArray := prog_4_method_23_code
def yX2_floatsLoweredAt : MethodName := ⟨RX2, "floatsLoweredAt", "(I)I"⟩
abbrev cX2_loweredFloats : ByteArray := prog_4_method_24_code
def yX2_loweredFloats : MethodName := ⟨RX2, "loweredFloats", "()I"⟩
abbrev cX2_travel : ByteArray := prog_4_method_25_code
def yX2_travel : MethodName := ⟨RX2, "travel", "(I)V"⟩
abbrev cX2_end : ByteArray := prog_4_method_26_code
def yX2_end : MethodName := ⟨RX2, "end", "()I"⟩
abbrev cX2_waiting : ByteArray := prog_4_method_27_code
def yX2_waiting : MethodName := ⟨RX2, "waiting", "()I"⟩
def RX3 : String := "FloatOrder$PartReader"
def TX3 : u_T := fun k => match k with
  | 0 => ("FloatOrder$PartReader", "kind", "I", false)
  | 1 => ("FloatOrder$PartReader", "height", "I", false)
  | 2 => ("FloatOrder$PartReader", "mask", "I", false)
  | _ => ("FloatOrder$PartReader", "stage", "I", false)
def tyX3 : Nat → FieldType := fun k => match k with
  | 0 => .int
  | 1 => .int
  | 2 => .int
  | _ => .int
abbrev wsX30 : List Cond := u_ws RX3 TX3 4
theorem nmX3 : ∀ a, a < 4 → ∀ b, b < 4 → a ≠ b → (TX3 a).2.1 ≠ (TX3 b).2.1 := by decide +kernel
theorem tyX3_ok : ∀ k, k < 4 → parseFieldDescriptor (TX3 k).2.2.1 = some (tyX3 k) := by decide +kernel
abbrev cX3_init : ByteArray := prog_5_method_1_code
def yX3_init : MethodName := ⟨RX3, "<init>", "()V"⟩
abbrev cX3_start : ByteArray := prog_5_method_2_code
def yX3_start : MethodName := ⟨RX3, "start", "()V"⟩
abbrev cX3_isAfterPart : ByteArray := prog_5_method_3_code
def yX3_isAfterPart : MethodName := ⟨RX3, "isAfterPart", "()Z"⟩
abbrev cX3_accepts : ByteArray := prog_5_method_4_code
def yX3_accepts : MethodName := ⟨RX3, "accepts", "(I)Z"⟩
abbrev cX3_acceptsKind : ByteArray := prog_5_method_5_code
def yX3_acceptsKind : MethodName := ⟨RX3, "acceptsKind", "(I)Z"⟩
abbrev cX3_acceptsDigit : ByteArray := prog_5_method_6_code
def yX3_acceptsDigit : MethodName := ⟨RX3, "acceptsDigit", "(III)Z"⟩
abbrev cX3_acceptsNextPart : ByteArray := prog_5_method_7_code
def yX3_acceptsNextPart : MethodName := ⟨RX3, "acceptsNextPart", "(I)Z"⟩
abbrev cX3_acceptsShied : ByteArray := prog_5_method_8_code
def yX3_acceptsShied : MethodName := ⟨RX3, "acceptsShied", "(I)Z"⟩
abbrev cX3_kindOf : ByteArray := prog_5_method_9_code
def yX3_kindOf : MethodName := ⟨RX3, "kindOf", "(I)I"⟩
def RX4 : String := "FloatOrder"
def TX4 : u_T := fun k => match k with
  | 0 => ("FloatOrder", "parade", "LFloatOrder$Parade;", true)
  | 1 => ("FloatOrder", "trial", "LFloatOrder$Parade;", true)
  | 2 => ("FloatOrder", "history", "LFloatOrder$History;", true)
  | 3 => ("FloatOrder", "best", "LFloatOrder$Best;", true)
  | 4 => ("FloatOrder", "reader", "LFloatOrder$PartReader;", true)
  | 5 => ("FloatOrder", "buffer", "[I", true)
  | _ => ("FloatOrder", "characters", "I", false)
def tyX4 : Nat → FieldType := fun k => match k with
  | 0 => .object "FloatOrder$Parade"
  | 1 => .object "FloatOrder$Parade"
  | 2 => .object "FloatOrder$History"
  | 3 => .object "FloatOrder$Best"
  | 4 => .object "FloatOrder$PartReader"
  | 5 => .array .int
  | _ => .int
abbrev wsX40 : List Cond := u_ws RX4 TX4 7
theorem nmX4 : ∀ a, a < 7 → ∀ b, b < 7 → a ≠ b → (TX4 a).2.1 ≠ (TX4 b).2.1 := by decide +kernel
theorem tyX4_ok : ∀ k, k < 7 → parseFieldDescriptor (TX4 k).2.2.1 = some (tyX4 k) := by decide +kernel
abbrev cX4_init : ByteArray := prog_1_method_1_code
def yX4_init : MethodName := ⟨RX4, "<init>", "()V"⟩
abbrev cX4_put : ByteArray := prog_1_method_2_code
def yX4_put : MethodName := ⟨RX4, "put", "(IIII)I"⟩
abbrev cX4_remove : ByteArray := prog_1_method_3_code
def yX4_remove : MethodName := ⟨RX4, "remove", "(I)I"⟩
abbrev cX4_move : ByteArray := prog_1_method_4_code
def yX4_move : MethodName := ⟨RX4, "move", "(II)I"⟩
abbrev cX4_exchange : ByteArray := prog_1_method_5_code
def yX4_exchange : MethodName := ⟨RX4, "exchange", "(II)I"⟩
abbrev cX4_fold : ByteArray := prog_1_method_6_code
def yX4_fold : MethodName := ⟨RX4, "fold", "(IZ)I"⟩
abbrev cX4_arrange : ByteArray := prog_1_method_7_code
def yX4_arrange : MethodName := ⟨RX4, "arrange", "()I"⟩
abbrev cX4_bridge : ByteArray := prog_1_method_8_code
def yX4_bridge : MethodName := ⟨RX4, "bridge", "(II)I"⟩
abbrev cX4_unbridge : ByteArray := prog_1_method_9_code
def yX4_unbridge : MethodName := ⟨RX4, "unbridge", "(I)I"⟩
abbrev cX4_set : ByteArray := prog_1_method_10_code
def yX4_set : MethodName := ⟨RX4, "set", "(II)I"⟩
abbrev cX4_append : ByteArray := prog_1_method_11_code
def yX4_append : MethodName := ⟨RX4, "append", "(I)I"⟩
abbrev cX4_clearBuffer : ByteArray := prog_1_method_12_code
def yX4_clearBuffer : MethodName := ⟨RX4, "clearBuffer", "()I"⟩
abbrev cX4_firstError : ByteArray := prog_1_method_13_code
def yX4_firstError : MethodName := ⟨RX4, "firstError", "()I"⟩
abbrev cX4_putAll : ByteArray := prog_1_method_14_code
def yX4_putAll : MethodName := ⟨RX4, "putAll", "()I"⟩
abbrev cX4_undo : ByteArray := prog_1_method_15_code
def yX4_undo : MethodName := ⟨RX4, "undo", "()I"⟩
abbrev cX4_floatAt : ByteArray := prog_1_method_16_code
def yX4_floatAt : MethodName := ⟨RX4, "floatAt", "(II)I"⟩
abbrev cX4_trouble : ByteArray := prog_1_method_17_code
def yX4_trouble : MethodName := ⟨RX4, "trouble", "(II)I"⟩
abbrev cX4_comes : ByteArray := prog_1_method_18_code
def yX4_comes : MethodName := ⟨RX4, "comes", "(II)I"⟩
abbrev cX4_bridgeOf : ByteArray := prog_1_method_19_code
def yX4_bridgeOf : MethodName := ⟨RX4, "bridgeOf", "(II)I"⟩
abbrev cX4_count : ByteArray := prog_1_method_20_code
def yX4_count : MethodName := ⟨RX4, "count", "(I)I"⟩
abbrev cX4_setting : ByteArray := prog_1_method_21_code
def yX4_setting : MethodName := ⟨RX4, "setting", "(I)I"⟩
abbrev cX4_ifMoved : ByteArray := prog_1_method_22_code
def yX4_ifMoved : MethodName := ⟨RX4, "ifMoved", "(III)I"⟩
abbrev cX4_bestPlace : ByteArray := prog_1_method_23_code
def yX4_bestPlace : MethodName := ⟨RX4, "bestPlace", "(I)I"⟩
abbrev cX4_bestFold : ByteArray := prog_1_method_24_code
def yX4_bestFold : MethodName := ⟨RX4, "bestFold", "()I"⟩
abbrev cX4_leastTrouble : ByteArray := prog_1_method_25_code
def yX4_leastTrouble : MethodName := ⟨RX4, "leastTrouble", "()I"⟩
abbrev cX4_smoothness : ByteArray := prog_1_method_26_code
def yX4_smoothness : MethodName := ⟨RX4, "smoothness", "()D"⟩
abbrev cX4_digest : ByteArray := prog_1_method_27_code
def yX4_digest : MethodName := ⟨RX4, "digest", "()J"⟩
abbrev cX4_needFloat : ByteArray := prog_1_method_28_code
def yX4_needFloat : MethodName := ⟨RX4, "needFloat", "(I)V"⟩
abbrev cX4_needBridge : ByteArray := prog_1_method_29_code
def yX4_needBridge : MethodName := ⟨RX4, "needBridge", "(I)V"⟩
abbrev cX4_needSetting : ByteArray := prog_1_method_30_code
def yX4_needSetting : MethodName := ⟨RX4, "needSetting", "(I)V"⟩
abbrev cX4_isHeight : ByteArray := prog_1_method_31_code
def yX4_isHeight : MethodName := ⟨RX4, "isHeight", "(I)Z"⟩
abbrev cX4_isFloat : ByteArray := prog_1_method_32_code
def yX4_isFloat : MethodName := ⟨RX4, "isFloat", "(III)Z"⟩
abbrev cX4_doBestExchange : ByteArray := prog_1_method_33_code
def yX4_doBestExchange : MethodName := ⟨RX4, "doBestExchange", "()Z"⟩
abbrev cX4_placeOfLeast : ByteArray := prog_1_method_34_code
def yX4_placeOfLeast : MethodName := ⟨RX4, "placeOfLeast", "(I)I"⟩
abbrev cX4_leastFrom : ByteArray := prog_1_method_35_code
def yX4_leastFrom : MethodName := ⟨RX4, "leastFrom", "(LFloatOrder$Parade;III)I"⟩
abbrev cX4_number : ByteArray := prog_1_method_36_code
def yX4_number : MethodName := ⟨RX4, "number", "(I)I"⟩
abbrev cX4_readBuffer : ByteArray := prog_1_method_37_code
def yX4_readBuffer : MethodName := ⟨RX4, "readBuffer", "()I"⟩
abbrev cX4_partsInBuffer : ByteArray := prog_1_method_38_code
def yX4_partsInBuffer : MethodName := ⟨RX4, "partsInBuffer", "()I"⟩
abbrev cX4_addParts : ByteArray := prog_1_method_39_code
def yX4_addParts : MethodName := ⟨RX4, "addParts", "()V"⟩
abbrev cX4_withFloat : ByteArray := prog_1_method_40_code
def yX4_withFloat : MethodName := ⟨RX4, "withFloat", "(JI)J"⟩
abbrev cX4_mixed : ByteArray := prog_1_method_41_code
def yX4_mixed : MethodName := ⟨RX4, "mixed", "(JJ)J"⟩
abbrev cX4_bitsOfShare : ByteArray := prog_1_method_42_code
def yX4_bitsOfShare : MethodName := ⟨RX4, "bitsOfShare", "(D)J"⟩
def RX5 : String := "FloatOrderModel"
def TX5 : u_T := fun k => match k with
  | 0 => ("FloatOrderModel", "now", "[I", true)
  | 1 => ("FloatOrderModel", "then", "[I", true)
  | 2 => ("FloatOrderModel", "past", "[I", true)
  | 3 => ("FloatOrderModel", "kept", "I", false)
  | 4 => ("FloatOrderModel", "text", "[I", true)
  | 5 => ("FloatOrderModel", "typed", "I", false)
  | 6 => ("FloatOrderModel", "thrown", "I", false)
  | 7 => ("FloatOrderModel", "at", "I", false)
  | 8 => ("FloatOrderModel", "isFault", "Z", false)
  | 9 => ("FloatOrderModel", "told", "[I", true)
  | 10 => ("FloatOrderModel", "tolds", "I", false)
  | _ => ("FloatOrderModel", "minutes", "[I", true)
def tyX5 : Nat → FieldType := fun k => match k with
  | 0 => .array .int
  | 1 => .array .int
  | 2 => .array .int
  | 3 => .int
  | 4 => .array .int
  | 5 => .int
  | 6 => .int
  | 7 => .int
  | 8 => .boolean
  | 9 => .array .int
  | 10 => .int
  | _ => .array .int
abbrev wsX50 : List Cond := u_ws RX5 TX5 12
theorem nmX5 : ∀ a, a < 12 → ∀ b, b < 12 → a ≠ b → (TX5 a).2.1 ≠ (TX5 b).2.1 := by decide +kernel
theorem tyX5_ok : ∀ k, k < 12 → parseFieldDescriptor (TX5 k).2.2.1 = some (tyX5 k) := by decide +kernel
abbrev cX5_init : ByteArray := prog_7_method_1_code
def yX5_init : MethodName := ⟨RX5, "<init>", "()V"⟩
abbrev cX5_thrown : ByteArray := prog_7_method_2_code
def yX5_thrown : MethodName := ⟨RX5, "thrown", "()I"⟩
abbrev cX5_fails : ByteArray := prog_7_method_3_code
def yX5_fails : MethodName := ⟨RX5, "fails", "(I)I"⟩
abbrev cX5_in : ByteArray := prog_7_method_4_code
def yX5_in : MethodName := ⟨RX5, "in", "(III)Z"⟩
abbrev cX5_isFloat : ByteArray := prog_7_method_5_code
def yX5_isFloat : MethodName := ⟨RX5, "isFloat", "(I)Z"⟩
abbrev cX5_isBridge : ByteArray := prog_7_method_6_code
def yX5_isBridge : MethodName := ⟨RX5, "isBridge", "(I)Z"⟩
abbrev cX5_of : ByteArray := prog_7_method_7_code
def yX5_of : MethodName := ⟨RX5, "of", "([III)I"⟩
abbrev cX5_copies : ByteArray := prog_7_method_8_code
def yX5_copies : MethodName := ⟨RX5, "copies", "([II[II)V"⟩
abbrev cX5_saves : ByteArray := prog_7_method_9_code
def yX5_saves : MethodName := ⟨RX5, "saves", "()V"⟩
abbrev cX5_undo : ByteArray := prog_7_method_10_code
def yX5_undo : MethodName := ⟨RX5, "undo", "()I"⟩
abbrev cX5_troubled : ByteArray := prog_7_method_11_code
def yX5_troubled : MethodName := ⟨RX5, "troubled", "([III)I"⟩
abbrev cX5_troubles : ByteArray := prog_7_method_12_code
def yX5_troubles : MethodName := ⟨RX5, "troubles", "([II)I"⟩
abbrev cX5_allTrouble : ByteArray := prog_7_method_13_code
def yX5_allTrouble : MethodName := ⟨RX5, "allTrouble", "([I)I"⟩
abbrev cX5_high : ByteArray := prog_7_method_14_code
def yX5_high : MethodName := ⟨RX5, "high", "([II)I"⟩
abbrev cX5_isLowered : ByteArray := prog_7_method_15_code
def yX5_isLowered : MethodName := ⟨RX5, "isLowered", "([III)Z"⟩
abbrev cX5_goes : ByteArray := prog_7_method_16_code
def yX5_goes : MethodName := ⟨RX5, "goes", "([II)I"⟩
abbrev cX5_ends : ByteArray := prog_7_method_17_code
def yX5_ends : MethodName := ⟨RX5, "ends", "([I)I"⟩
abbrev cX5_puts : ByteArray := prog_7_method_18_code
def yX5_puts : MethodName := ⟨RX5, "puts", "([IIIIII)V"⟩
abbrev cX5_goesOut : ByteArray := prog_7_method_19_code
def yX5_goesOut : MethodName := ⟨RX5, "goesOut", "([II)V"⟩
abbrev cX5_moves : ByteArray := prog_7_method_20_code
def yX5_moves : MethodName := ⟨RX5, "moves", "([III)V"⟩
abbrev cX5_exchanges : ByteArray := prog_7_method_21_code
def yX5_exchanges : MethodName := ⟨RX5, "exchanges", "([III)V"⟩
abbrev cX5_bestExchange : ByteArray := prog_7_method_22_code
def yX5_bestExchange : MethodName := ⟨RX5, "bestExchange", "()I"⟩
abbrev cX5_isKind : ByteArray := prog_7_method_23_code
def yX5_isKind : MethodName := ⟨RX5, "isKind", "(III)Z"⟩
abbrev cX5_put : ByteArray := prog_7_method_24_code
def yX5_put : MethodName := ⟨RX5, "put", "(IIII)I"⟩
abbrev cX5_remove : ByteArray := prog_7_method_25_code
def yX5_remove : MethodName := ⟨RX5, "remove", "(I)I"⟩
abbrev cX5_move : ByteArray := prog_7_method_26_code
def yX5_move : MethodName := ⟨RX5, "move", "(II)I"⟩
abbrev cX5_exchange : ByteArray := prog_7_method_27_code
def yX5_exchange : MethodName := ⟨RX5, "exchange", "(II)I"⟩
abbrev cX5_fold : ByteArray := prog_7_method_28_code
def yX5_fold : MethodName := ⟨RX5, "fold", "(IZ)I"⟩
abbrev cX5_arrange : ByteArray := prog_7_method_29_code
def yX5_arrange : MethodName := ⟨RX5, "arrange", "()I"⟩
abbrev cX5_isBridged : ByteArray := prog_7_method_30_code
def yX5_isBridged : MethodName := ⟨RX5, "isBridged", "(I)Z"⟩
abbrev cX5_bridge : ByteArray := prog_7_method_31_code
def yX5_bridge : MethodName := ⟨RX5, "bridge", "(II)I"⟩
abbrev cX5_unbridge : ByteArray := prog_7_method_32_code
def yX5_unbridge : MethodName := ⟨RX5, "unbridge", "(I)I"⟩
abbrev cX5_set : ByteArray := prog_7_method_33_code
def yX5_set : MethodName := ⟨RX5, "set", "(II)I"⟩
abbrev cX5_append : ByteArray := prog_7_method_34_code
def yX5_append : MethodName := ⟨RX5, "append", "(I)I"⟩
abbrev cX5_clearBuffer : ByteArray := prog_7_method_35_code
def yX5_clearBuffer : MethodName := ⟨RX5, "clearBuffer", "()I"⟩
abbrev cX5_isAt : ByteArray := prog_7_method_36_code
def yX5_isAt : MethodName := ⟨RX5, "isAt", "(II)Z"⟩
abbrev cX5_stops : ByteArray := prog_7_method_37_code
def yX5_stops : MethodName := ⟨RX5, "stops", "()Z"⟩
abbrev cX5_kindAt : ByteArray := prog_7_method_38_code
def yX5_kindAt : MethodName := ⟨RX5, "kindAt", "()I"⟩
abbrev cX5_isMask : ByteArray := prog_7_method_39_code
def yX5_isMask : MethodName := ⟨RX5, "isMask", "()Z"⟩
abbrev cX5_isPart : ByteArray := prog_7_method_40_code
def yX5_isPart : MethodName := ⟨RX5, "isPart", "()Z"⟩
abbrev cX5_isText : ByteArray := prog_7_method_41_code
def yX5_isText : MethodName := ⟨RX5, "isText", "()Z"⟩
abbrev cX5_firstError : ByteArray := prog_7_method_42_code
def yX5_firstError : MethodName := ⟨RX5, "firstError", "()I"⟩
abbrev cX5_putAll : ByteArray := prog_7_method_43_code
def yX5_putAll : MethodName := ⟨RX5, "putAll", "()I"⟩
abbrev cX5_bridgesOf : ByteArray := prog_7_method_44_code
def yX5_bridgesOf : MethodName := ⟨RX5, "bridgesOf", "(I)I"⟩
abbrev cX5_ofFloat : ByteArray := prog_7_method_45_code
def yX5_ofFloat : MethodName := ⟨RX5, "ofFloat", "(II)I"⟩
abbrev cX5_floatAt : ByteArray := prog_7_method_46_code
def yX5_floatAt : MethodName := ⟨RX5, "floatAt", "(II)I"⟩
abbrev cX5_trouble : ByteArray := prog_7_method_47_code
def yX5_trouble : MethodName := ⟨RX5, "trouble", "(II)I"⟩
abbrev cX5_comes : ByteArray := prog_7_method_48_code
def yX5_comes : MethodName := ⟨RX5, "comes", "(II)I"⟩
abbrev cX5_loweredAt : ByteArray := prog_7_method_49_code
def yX5_loweredAt : MethodName := ⟨RX5, "loweredAt", "(I)I"⟩
abbrev cX5_ofBridge : ByteArray := prog_7_method_50_code
def yX5_ofBridge : MethodName := ⟨RX5, "ofBridge", "(II)I"⟩
abbrev cX5_bridgeOf : ByteArray := prog_7_method_51_code
def yX5_bridgeOf : MethodName := ⟨RX5, "bridgeOf", "(II)I"⟩
abbrev cX5_overFloats : ByteArray := prog_7_method_52_code
def yX5_overFloats : MethodName := ⟨RX5, "overFloats", "(I)I"⟩
abbrev cX5_counted : ByteArray := prog_7_method_53_code
def yX5_counted : MethodName := ⟨RX5, "counted", "(I)I"⟩
abbrev cX5_count : ByteArray := prog_7_method_54_code
def yX5_count : MethodName := ⟨RX5, "count", "(I)I"⟩
abbrev cX5_setting : ByteArray := prog_7_method_55_code
def yX5_setting : MethodName := ⟨RX5, "setting", "(I)I"⟩
abbrev cX5_byMoving : ByteArray := prog_7_method_56_code
def yX5_byMoving : MethodName := ⟨RX5, "byMoving", "(III)I"⟩
abbrev cX5_ifMoved : ByteArray := prog_7_method_57_code
def yX5_ifMoved : MethodName := ⟨RX5, "ifMoved", "(III)I"⟩
abbrev cX5_best : ByteArray := prog_7_method_58_code
def yX5_best : MethodName := ⟨RX5, "best", "(I)I"⟩
abbrev cX5_bestPlace : ByteArray := prog_7_method_59_code
def yX5_bestPlace : MethodName := ⟨RX5, "bestPlace", "(I)I"⟩
abbrev cX5_folding : ByteArray := prog_7_method_60_code
def yX5_folding : MethodName := ⟨RX5, "folding", "()I"⟩
abbrev cX5_bestFold : ByteArray := prog_7_method_61_code
def yX5_bestFold : MethodName := ⟨RX5, "bestFold", "()I"⟩
abbrev cX5_orders : ByteArray := prog_7_method_62_code
def yX5_orders : MethodName := ⟨RX5, "orders", "(I)V"⟩
abbrev cX5_least : ByteArray := prog_7_method_63_code
def yX5_least : MethodName := ⟨RX5, "least", "()I"⟩
abbrev cX5_leastTrouble : ByteArray := prog_7_method_64_code
def yX5_leastTrouble : MethodName := ⟨RX5, "leastTrouble", "()I"⟩
abbrev cX5_smooth : ByteArray := prog_7_method_65_code
def yX5_smooth : MethodName := ⟨RX5, "smooth", "()D"⟩
abbrev cX5_smoothness : ByteArray := prog_7_method_66_code
def yX5_smoothness : MethodName := ⟨RX5, "smoothness", "()D"⟩
abbrev cX5_digest : ByteArray := prog_7_method_67_code
def yX5_digest : MethodName := ⟨RX5, "digest", "()J"⟩
def RJxe99ae : String := "java/lang/Double"
def TJxe99ae : u_T := fun k => match k with
  | _ => ("", "", "", false)
def tyJxe99ae : Nat → FieldType := fun k => match k with
  | _ => .int
abbrev wsJxe99ae0 : List Cond := u_ws RJxe99ae TJxe99ae 0
theorem nmJxe99ae : ∀ a, a < 0 → ∀ b, b < 0 → a ≠ b → (TJxe99ae a).2.1 ≠ (TJxe99ae b).2.1 := by decide +kernel
theorem tyJxe99ae_ok : ∀ k, k < 0 → parseFieldDescriptor (TJxe99ae k).2.2.1 = some (tyJxe99ae k) := by decide +kernel
abbrev cJxe99ae_isNaN_b9ae7 : ByteArray := prog_8_method_6_code
def yJxe99ae_isNaN_b9ae7 : MethodName := ⟨RJxe99ae, "isNaN", "(D)Z"⟩
abbrev cJxe99ae_doubleToLongBits_ccdee : ByteArray := prog_8_method_23_code
def yJxe99ae_doubleToLongBits_ccdee : MethodName := ⟨RJxe99ae, "doubleToLongBits", "(D)J"⟩
def RJ9 : String := "java/lang/Math"
def TJ9 : u_T := fun k => match k with
  | _ => ("", "", "", false)
def tyJ9 : Nat → FieldType := fun k => match k with
  | _ => .int
abbrev wsJ90 : List Cond := u_ws RJ9 TJ9 0
theorem nmJ9 : ∀ a, a < 0 → ∀ b, b < 0 → a ≠ b → (TJ9 a).2.1 ≠ (TJ9 b).2.1 := by decide +kernel
theorem tyJ9_ok : ∀ k, k < 0 → parseFieldDescriptor (TJ9 k).2.2.1 = some (tyJ9 k) := by decide +kernel
abbrev cJ9_max_7cf53 : ByteArray := prog_13_method_65_code
def yJ9_max_7cf53 : MethodName := ⟨RJ9, "max", "(II)I"⟩
def RJ0 : String := "java/lang/String"
def TJ0 : u_T := fun k => match k with
  | _ => ("", "", "", false)
def tyJ0 : Nat → FieldType := fun k => match k with
  | _ => .int
abbrev wsJ00 : List Cond := u_ws RJ0 TJ0 0
theorem nmJ0 : ∀ a, a < 0 → ∀ b, b < 0 → a ≠ b → (TJ0 a).2.1 ≠ (TJ0 b).2.1 := by decide +kernel
theorem tyJ0_ok : ∀ k, k < 0 → parseFieldDescriptor (TJ0 k).2.2.1 = some (tyJ0 k) := by decide +kernel
def RL : String := "FloatOrderLaw"
abbrev cL_put : ByteArray := method_3_code
def yL_put : MethodName := ⟨RL, "put", "(LFloatOrder;IIII[J)I"⟩
abbrev cL_remove : ByteArray := method_4_code
def yL_remove : MethodName := ⟨RL, "remove", "(LFloatOrder;I[J)I"⟩
abbrev cL_move : ByteArray := method_5_code
def yL_move : MethodName := ⟨RL, "move", "(LFloatOrder;II[J)I"⟩
abbrev cL_exchange : ByteArray := method_6_code
def yL_exchange : MethodName := ⟨RL, "exchange", "(LFloatOrder;II[J)I"⟩
abbrev cL_fold : ByteArray := method_7_code
def yL_fold : MethodName := ⟨RL, "fold", "(LFloatOrder;IZ[J)I"⟩
abbrev cL_bridge : ByteArray := method_8_code
def yL_bridge : MethodName := ⟨RL, "bridge", "(LFloatOrder;II[J)I"⟩
abbrev cL_unbridge : ByteArray := method_9_code
def yL_unbridge : MethodName := ⟨RL, "unbridge", "(LFloatOrder;I[J)I"⟩
abbrev cL_set : ByteArray := method_10_code
def yL_set : MethodName := ⟨RL, "set", "(LFloatOrder;II[J)I"⟩
abbrev cL_append : ByteArray := method_11_code
def yL_append : MethodName := ⟨RL, "append", "(LFloatOrder;I[J)I"⟩
abbrev cL_putAll : ByteArray := method_12_code
def yL_putAll : MethodName := ⟨RL, "putAll", "(LFloatOrder;[J)I"⟩
abbrev cL_undo : ByteArray := method_13_code
def yL_undo : MethodName := ⟨RL, "undo", "(LFloatOrder;[J)I"⟩
abbrev cL_floatAt : ByteArray := method_14_code
def yL_floatAt : MethodName := ⟨RL, "floatAt", "(LFloatOrder;II[J)I"⟩
abbrev cL_trouble : ByteArray := method_15_code
def yL_trouble : MethodName := ⟨RL, "trouble", "(LFloatOrder;II[J)I"⟩
abbrev cL_comes : ByteArray := method_16_code
def yL_comes : MethodName := ⟨RL, "comes", "(LFloatOrder;II[J)I"⟩
abbrev cL_bridgeOf : ByteArray := method_17_code
def yL_bridgeOf : MethodName := ⟨RL, "bridgeOf", "(LFloatOrder;II[J)I"⟩
abbrev cL_count : ByteArray := method_18_code
def yL_count : MethodName := ⟨RL, "count", "(LFloatOrder;I[J)I"⟩
abbrev cL_setting : ByteArray := method_19_code
def yL_setting : MethodName := ⟨RL, "setting", "(LFloatOrder;I[J)I"⟩
abbrev cL_ifMoved : ByteArray := method_20_code
def yL_ifMoved : MethodName := ⟨RL, "ifMoved", "(LFloatOrder;III[J)I"⟩
abbrev cL_bestPlace : ByteArray := method_21_code
def yL_bestPlace : MethodName := ⟨RL, "bestPlace", "(LFloatOrder;I[J)I"⟩
abbrev cL_law : ByteArray := code
def yL_law : MethodName := ⟨RL, "law", "([I)Z"⟩
def wsX0_init : List Cond := .code yX0_init cX0_init 1 none :: ([.methodLink RX0 1 objectInit, .instanceMethod objectInit, .code objectInit ⟨#[0xb1]⟩ 1 none, .fieldLink RX0 7 "FloatOrder$Best" "leastTrouble" "I", .fieldLink RX0 13 "FloatOrder$Best" "leastEnd" "I"] ++ wsX00)
def wsX2_shying : List Cond := .code yX2_shying cX2_shying 3 (some .int) :: ([.fieldLink RX2 22 "FloatOrder$Parade" "masks" "[I", .fieldLink RX2 15 "FloatOrder$Parade" "kinds" "[I"] ++ wsX20)
def wsX2_hearing : List Cond := .code yX2_hearing cX2_hearing 4 (some .int) :: ([.fieldLink RX2 15 "FloatOrder$Parade" "kinds" "[I", .fieldLink RX2 38 "FloatOrder$Parade" "settings" "[I"] ++ wsX20)
def wsX2_meeting : List Cond := .code yX2_meeting cX2_meeting 2 (some .int) :: ([.fieldLink RX2 15 "FloatOrder$Parade" "kinds" "[I"] ++ wsX20)
def wsX2_troubleAt : List Cond := .code yX2_troubleAt cX2_troubleAt 2 (some .int) :: ([.methodLink RX2 70 yX2_shying, .instanceMethod yX2_shying, .selects RX2 yX2_shying yX2_shying, .initialized RX2, .code yX2_shying cX2_shying 3 (some .int), .fieldLink RX2 22 "FloatOrder$Parade" "masks" "[I", .fieldLink RX2 15 "FloatOrder$Parade" "kinds" "[I", .methodLink RX2 73 yX2_hearing, .instanceMethod yX2_hearing, .selects RX2 yX2_hearing yX2_hearing, .code yX2_hearing cX2_hearing 4 (some .int), .fieldLink RX2 38 "FloatOrder$Parade" "settings" "[I", .methodLink RX2 76 yX2_meeting, .instanceMethod yX2_meeting, .selects RX2 yX2_meeting yX2_meeting, .code yX2_meeting cX2_meeting 2 (some .int)] ++ wsX20)
def wsX2_allTrouble : List Cond := .code yX2_allTrouble cX2_allTrouble 3 (some .int) :: ([.fieldLink RX2 9 "FloatOrder$Parade" "floats" "I", .methodLink RX2 61 yX2_troubleAt, .instanceMethod yX2_troubleAt, .selects RX2 yX2_troubleAt yX2_troubleAt, .initialized RX2, .code yX2_troubleAt cX2_troubleAt 2 (some .int), .methodLink RX2 70 yX2_shying, .instanceMethod yX2_shying, .selects RX2 yX2_shying yX2_shying, .code yX2_shying cX2_shying 3 (some .int), .fieldLink RX2 22 "FloatOrder$Parade" "masks" "[I", .fieldLink RX2 15 "FloatOrder$Parade" "kinds" "[I", .methodLink RX2 73 yX2_hearing, .instanceMethod yX2_hearing, .selects RX2 yX2_hearing yX2_hearing, .code yX2_hearing cX2_hearing 4 (some .int), .fieldLink RX2 38 "FloatOrder$Parade" "settings" "[I", .methodLink RX2 76 yX2_meeting, .instanceMethod yX2_meeting, .selects RX2 yX2_meeting yX2_meeting, .code yX2_meeting cX2_meeting 2 (some .int)] ++ wsX20)
def wsX2_countedHeight : List Cond := .code yX2_countedHeight cX2_countedHeight 3 (some .int) :: ([.fieldLink RX2 25 "FloatOrder$Parade" "folded" "[Z", .fieldLink RX2 19 "FloatOrder$Parade" "heights" "[I"] ++ wsX20)
def wsX2_travel : List Cond := .code yX2_travel cX2_travel 8 none :: ([.fieldLink RX2 38 "FloatOrder$Parade" "settings" "[I", .fieldLink RX2 29 "FloatOrder$Parade" "bridges" "I", .fieldLink RX2 32 "FloatOrder$Parade" "distances" "[I", .fieldLink RX2 44 "FloatOrder$Parade" "left" "[I", .methodLink RX2 64 Lib.Math.max.name, .static Lib.Math.max.name, .initialized "java/lang/Math", .code Lib.Math.max.name Lib.Math.max.code 2 (some .int), .fieldLink RX2 41 "FloatOrder$Parade" "came" "[I", .fieldLink RX2 35 "FloatOrder$Parade" "clearances" "[I", .methodLink RX2 54 yX2_countedHeight, .instanceMethod yX2_countedHeight, .selects RX2 yX2_countedHeight yX2_countedHeight, .initialized RX2, .code yX2_countedHeight cX2_countedHeight 3 (some .int), .fieldLink RX2 25 "FloatOrder$Parade" "folded" "[Z", .fieldLink RX2 19 "FloatOrder$Parade" "heights" "[I"] ++ wsX20)
def wsX2_end : List Cond := .code yX2_end cX2_end 1 (some .int) :: ([.fieldLink RX2 9 "FloatOrder$Parade" "floats" "I", .fieldLink RX2 41 "FloatOrder$Parade" "came" "[I", .fieldLink RX2 29 "FloatOrder$Parade" "bridges" "I", .methodLink RX2 86 yX2_travel, .instanceMethod yX2_travel, .selects RX2 yX2_travel yX2_travel, .initialized RX2, .code yX2_travel cX2_travel 8 none, .fieldLink RX2 38 "FloatOrder$Parade" "settings" "[I", .fieldLink RX2 32 "FloatOrder$Parade" "distances" "[I", .fieldLink RX2 44 "FloatOrder$Parade" "left" "[I", .methodLink RX2 64 Lib.Math.max.name, .static Lib.Math.max.name, .initialized "java/lang/Math", .code Lib.Math.max.name Lib.Math.max.code 2 (some .int), .fieldLink RX2 35 "FloatOrder$Parade" "clearances" "[I", .methodLink RX2 54 yX2_countedHeight, .instanceMethod yX2_countedHeight, .selects RX2 yX2_countedHeight yX2_countedHeight, .code yX2_countedHeight cX2_countedHeight 3 (some .int), .fieldLink RX2 25 "FloatOrder$Parade" "folded" "[Z", .fieldLink RX2 19 "FloatOrder$Parade" "heights" "[I"] ++ wsX20)
def wsX0_startAt_r1 : List Cond := [Cond.fieldLink RX0 7 "FloatOrder$Best" "leastTrouble" "I", Cond.fieldLink RX0 13 "FloatOrder$Best" "leastEnd" "I", Cond.methodLink RX0 16 yX2_allTrouble, Cond.instanceMethod yX2_allTrouble, Cond.selects RX2 yX2_allTrouble yX2_allTrouble, Cond.initialized RX2, Cond.code yX2_allTrouble cX2_allTrouble 3 (some .int), Cond.fieldLink RX2 9 "FloatOrder$Parade" "floats" "I", Cond.methodLink RX2 61 yX2_troubleAt, Cond.instanceMethod yX2_troubleAt, Cond.selects RX2 yX2_troubleAt yX2_troubleAt, Cond.code yX2_troubleAt cX2_troubleAt 2 (some .int), Cond.methodLink RX2 70 yX2_shying, Cond.instanceMethod yX2_shying, Cond.selects RX2 yX2_shying yX2_shying, Cond.code yX2_shying cX2_shying 3 (some .int), Cond.fieldLink RX2 22 "FloatOrder$Parade" "masks" "[I", Cond.fieldLink RX2 15 "FloatOrder$Parade" "kinds" "[I", Cond.methodLink RX2 73 yX2_hearing, Cond.instanceMethod yX2_hearing, Cond.selects RX2 yX2_hearing yX2_hearing, Cond.code yX2_hearing cX2_hearing 4 (some .int), Cond.fieldLink RX2 38 "FloatOrder$Parade" "settings" "[I", Cond.methodLink RX2 76 yX2_meeting]
def wsX0_startAt_r2 : List Cond := [Cond.instanceMethod yX2_meeting, Cond.selects RX2 yX2_meeting yX2_meeting, Cond.code yX2_meeting cX2_meeting 2 (some .int), Cond.methodLink RX0 22 yX2_end, Cond.instanceMethod yX2_end, Cond.selects RX2 yX2_end yX2_end, Cond.code yX2_end cX2_end 1 (some .int), Cond.fieldLink RX2 41 "FloatOrder$Parade" "came" "[I", Cond.fieldLink RX2 29 "FloatOrder$Parade" "bridges" "I", Cond.methodLink RX2 86 yX2_travel, Cond.instanceMethod yX2_travel, Cond.selects RX2 yX2_travel yX2_travel, Cond.code yX2_travel cX2_travel 8 none, Cond.fieldLink RX2 32 "FloatOrder$Parade" "distances" "[I", Cond.fieldLink RX2 44 "FloatOrder$Parade" "left" "[I", Cond.methodLink RX2 64 Lib.Math.max.name, Cond.static Lib.Math.max.name, Cond.initialized "java/lang/Math", Cond.code Lib.Math.max.name Lib.Math.max.code 2 (some .int), Cond.fieldLink RX2 35 "FloatOrder$Parade" "clearances" "[I", Cond.methodLink RX2 54 yX2_countedHeight, Cond.instanceMethod yX2_countedHeight, Cond.selects RX2 yX2_countedHeight yX2_countedHeight, Cond.code yX2_countedHeight cX2_countedHeight 3 (some .int)]
def wsX0_startAt_r3 : List Cond := [Cond.fieldLink RX2 25 "FloatOrder$Parade" "folded" "[Z", Cond.fieldLink RX2 19 "FloatOrder$Parade" "heights" "[I"]
def wsX0_startAt : List Cond := .code yX0_startAt cX0_startAt 2 none :: ((wsX0_startAt_r1 ++ (wsX0_startAt_r2 ++ wsX0_startAt_r3)) ++ wsX00 ++ wsX20)
def wsX0_isBeatenBy_r1 : List Cond := [Cond.fieldLink RX0 7 "FloatOrder$Best" "leastTrouble" "I", Cond.fieldLink RX0 13 "FloatOrder$Best" "leastEnd" "I", Cond.methodLink RX0 16 yX2_allTrouble, Cond.instanceMethod yX2_allTrouble, Cond.selects RX2 yX2_allTrouble yX2_allTrouble, Cond.initialized RX2, Cond.code yX2_allTrouble cX2_allTrouble 3 (some .int), Cond.fieldLink RX2 9 "FloatOrder$Parade" "floats" "I", Cond.methodLink RX2 61 yX2_troubleAt, Cond.instanceMethod yX2_troubleAt, Cond.selects RX2 yX2_troubleAt yX2_troubleAt, Cond.code yX2_troubleAt cX2_troubleAt 2 (some .int), Cond.methodLink RX2 70 yX2_shying, Cond.instanceMethod yX2_shying, Cond.selects RX2 yX2_shying yX2_shying, Cond.code yX2_shying cX2_shying 3 (some .int), Cond.fieldLink RX2 22 "FloatOrder$Parade" "masks" "[I", Cond.fieldLink RX2 15 "FloatOrder$Parade" "kinds" "[I", Cond.methodLink RX2 73 yX2_hearing, Cond.instanceMethod yX2_hearing, Cond.selects RX2 yX2_hearing yX2_hearing, Cond.code yX2_hearing cX2_hearing 4 (some .int), Cond.fieldLink RX2 38 "FloatOrder$Parade" "settings" "[I", Cond.methodLink RX2 76 yX2_meeting]
def wsX0_isBeatenBy_r2 : List Cond := [Cond.instanceMethod yX2_meeting, Cond.selects RX2 yX2_meeting yX2_meeting, Cond.code yX2_meeting cX2_meeting 2 (some .int), Cond.methodLink RX0 22 yX2_end, Cond.instanceMethod yX2_end, Cond.selects RX2 yX2_end yX2_end, Cond.code yX2_end cX2_end 1 (some .int), Cond.fieldLink RX2 41 "FloatOrder$Parade" "came" "[I", Cond.fieldLink RX2 29 "FloatOrder$Parade" "bridges" "I", Cond.methodLink RX2 86 yX2_travel, Cond.instanceMethod yX2_travel, Cond.selects RX2 yX2_travel yX2_travel, Cond.code yX2_travel cX2_travel 8 none, Cond.fieldLink RX2 32 "FloatOrder$Parade" "distances" "[I", Cond.fieldLink RX2 44 "FloatOrder$Parade" "left" "[I", Cond.methodLink RX2 64 Lib.Math.max.name, Cond.static Lib.Math.max.name, Cond.initialized "java/lang/Math", Cond.code Lib.Math.max.name Lib.Math.max.code 2 (some .int), Cond.fieldLink RX2 35 "FloatOrder$Parade" "clearances" "[I", Cond.methodLink RX2 54 yX2_countedHeight, Cond.instanceMethod yX2_countedHeight, Cond.selects RX2 yX2_countedHeight yX2_countedHeight, Cond.code yX2_countedHeight cX2_countedHeight 3 (some .int)]
def wsX0_isBeatenBy_r3 : List Cond := [Cond.fieldLink RX2 25 "FloatOrder$Parade" "folded" "[Z", Cond.fieldLink RX2 19 "FloatOrder$Parade" "heights" "[I"]
def wsX0_isBeatenBy : List Cond := .code yX0_isBeatenBy cX0_isBeatenBy 4 (some .boolean) :: ((wsX0_isBeatenBy_r1 ++ (wsX0_isBeatenBy_r2 ++ wsX0_isBeatenBy_r3)) ++ wsX00 ++ wsX20)
def wsX2_init : List Cond := .code yX2_init cX2_init 1 none :: ([.methodLink RX2 3 objectInit, .instanceMethod objectInit, .code objectInit ⟨#[0xb1]⟩ 1 none, .fieldLink RX2 9 "FloatOrder$Parade" "floats" "I", .arrayClass .int, .fieldLink RX2 15 "FloatOrder$Parade" "kinds" "[I", .fieldLink RX2 19 "FloatOrder$Parade" "heights" "[I", .fieldLink RX2 22 "FloatOrder$Parade" "masks" "[I", .arrayClass .boolean, .fieldLink RX2 25 "FloatOrder$Parade" "folded" "[Z", .fieldLink RX2 29 "FloatOrder$Parade" "bridges" "I", .fieldLink RX2 32 "FloatOrder$Parade" "distances" "[I", .fieldLink RX2 35 "FloatOrder$Parade" "clearances" "[I", .fieldLink RX2 38 "FloatOrder$Parade" "settings" "[I", .fieldLink RX2 41 "FloatOrder$Parade" "came" "[I", .fieldLink RX2 44 "FloatOrder$Parade" "left" "[I"] ++ wsX20)
def wsX1_init : List Cond := .code yX1_init cX1_init 2 none :: ([.methodLink RX1 3 objectInit, .instanceMethod objectInit, .code objectInit ⟨#[0xb1]⟩ 1 none, .classLink RX1 9 RX2, .fieldLink RX1 11 "FloatOrder$History" "saved" "[LFloatOrder$Parade;", .fieldLink RX1 17 "FloatOrder$History" "size" "I", .instantiable RX2 11, .initialized RX2, .instanceMethod yX2_init, .code yX2_init cX2_init 1 none, .methodLink RX2 3 objectInit, .fieldLink RX2 9 "FloatOrder$Parade" "floats" "I", .arrayClass .int, .fieldLink RX2 15 "FloatOrder$Parade" "kinds" "[I", .fieldLink RX2 19 "FloatOrder$Parade" "heights" "[I", .fieldLink RX2 22 "FloatOrder$Parade" "masks" "[I", .arrayClass .boolean, .fieldLink RX2 25 "FloatOrder$Parade" "folded" "[Z", .fieldLink RX2 29 "FloatOrder$Parade" "bridges" "I", .fieldLink RX2 32 "FloatOrder$Parade" "distances" "[I", .fieldLink RX2 35 "FloatOrder$Parade" "clearances" "[I", .fieldLink RX2 38 "FloatOrder$Parade" "settings" "[I", .fieldLink RX2 41 "FloatOrder$Parade" "came" "[I", .fieldLink RX2 44 "FloatOrder$Parade" "left" "[I"] ++ wsX10 ++ wsX20)
def wsX1_dropOldest : List Cond := .code yX1_dropOldest cX1_dropOldest 3 none :: ([.fieldLink RX1 11 "FloatOrder$History" "saved" "[LFloatOrder$Parade;", .fieldLink RX1 17 "FloatOrder$History" "size" "I"] ++ wsX10)
def wsX2_copyFrom : List Cond := .code yX2_copyFrom cX2_copyFrom 3 none :: ([.fieldLink RX2 9 "FloatOrder$Parade" "floats" "I", .fieldLink RX2 15 "FloatOrder$Parade" "kinds" "[I", .fieldLink RX2 19 "FloatOrder$Parade" "heights" "[I", .fieldLink RX2 22 "FloatOrder$Parade" "masks" "[I", .fieldLink RX2 25 "FloatOrder$Parade" "folded" "[Z", .fieldLink RX2 29 "FloatOrder$Parade" "bridges" "I", .fieldLink RX2 32 "FloatOrder$Parade" "distances" "[I", .fieldLink RX2 35 "FloatOrder$Parade" "clearances" "[I", .fieldLink RX2 38 "FloatOrder$Parade" "settings" "[I"] ++ wsX20)
def wsX1_save : List Cond := .code yX1_save cX1_save 2 none :: ([.fieldLink RX1 17 "FloatOrder$History" "size" "I", .fieldLink RX1 11 "FloatOrder$History" "saved" "[LFloatOrder$Parade;", .methodLink RX1 22 yX1_dropOldest, .instanceMethod yX1_dropOldest, .selects RX1 yX1_dropOldest yX1_dropOldest, .initialized RX1, .code yX1_dropOldest cX1_dropOldest 3 none, .methodLink RX1 25 yX2_copyFrom, .instanceMethod yX2_copyFrom, .selects RX2 yX2_copyFrom yX2_copyFrom, .initialized RX2, .code yX2_copyFrom cX2_copyFrom 3 none, .fieldLink RX2 9 "FloatOrder$Parade" "floats" "I", .fieldLink RX2 15 "FloatOrder$Parade" "kinds" "[I", .fieldLink RX2 19 "FloatOrder$Parade" "heights" "[I", .fieldLink RX2 22 "FloatOrder$Parade" "masks" "[I", .fieldLink RX2 25 "FloatOrder$Parade" "folded" "[Z", .fieldLink RX2 29 "FloatOrder$Parade" "bridges" "I", .fieldLink RX2 32 "FloatOrder$Parade" "distances" "[I", .fieldLink RX2 35 "FloatOrder$Parade" "clearances" "[I", .fieldLink RX2 38 "FloatOrder$Parade" "settings" "[I"] ++ wsX10 ++ wsX20)
def wsX1_restoreLatest : List Cond := .code yX1_restoreLatest cX1_restoreLatest 2 none :: ([.fieldLink RX1 17 "FloatOrder$History" "size" "I", .fieldLink RX1 11 "FloatOrder$History" "saved" "[LFloatOrder$Parade;", .methodLink RX1 25 yX2_copyFrom, .instanceMethod yX2_copyFrom, .selects RX2 yX2_copyFrom yX2_copyFrom, .initialized RX2, .code yX2_copyFrom cX2_copyFrom 3 none, .fieldLink RX2 9 "FloatOrder$Parade" "floats" "I", .fieldLink RX2 15 "FloatOrder$Parade" "kinds" "[I", .fieldLink RX2 19 "FloatOrder$Parade" "heights" "[I", .fieldLink RX2 22 "FloatOrder$Parade" "masks" "[I", .fieldLink RX2 25 "FloatOrder$Parade" "folded" "[Z", .fieldLink RX2 29 "FloatOrder$Parade" "bridges" "I", .fieldLink RX2 32 "FloatOrder$Parade" "distances" "[I", .fieldLink RX2 35 "FloatOrder$Parade" "clearances" "[I", .fieldLink RX2 38 "FloatOrder$Parade" "settings" "[I"] ++ wsX10 ++ wsX20)
def wsX2_addLast : List Cond := .code yX2_addLast cX2_addLast 4 none :: ([.fieldLink RX2 9 "FloatOrder$Parade" "floats" "I", .fieldLink RX2 15 "FloatOrder$Parade" "kinds" "[I", .fieldLink RX2 19 "FloatOrder$Parade" "heights" "[I", .fieldLink RX2 22 "FloatOrder$Parade" "masks" "[I", .fieldLink RX2 25 "FloatOrder$Parade" "folded" "[Z"] ++ wsX20)
def wsX2_swap : List Cond := .code yX2_swap cX2_swap 7 none :: ([.fieldLink RX2 15 "FloatOrder$Parade" "kinds" "[I", .fieldLink RX2 19 "FloatOrder$Parade" "heights" "[I", .fieldLink RX2 22 "FloatOrder$Parade" "masks" "[I", .fieldLink RX2 25 "FloatOrder$Parade" "folded" "[Z"] ++ wsX20)
def wsX2_shift : List Cond := .code yX2_shift cX2_shift 4 none :: ([.methodLink RX2 51 yX2_swap, .instanceMethod yX2_swap, .selects RX2 yX2_swap yX2_swap, .initialized RX2, .code yX2_swap cX2_swap 7 none, .fieldLink RX2 15 "FloatOrder$Parade" "kinds" "[I", .fieldLink RX2 19 "FloatOrder$Parade" "heights" "[I", .fieldLink RX2 22 "FloatOrder$Parade" "masks" "[I", .fieldLink RX2 25 "FloatOrder$Parade" "folded" "[Z"] ++ wsX20)
def wsX2_takeAway : List Cond := .code yX2_takeAway cX2_takeAway 2 none :: ([.fieldLink RX2 9 "FloatOrder$Parade" "floats" "I", .methodLink RX2 47 yX2_shift, .instanceMethod yX2_shift, .selects RX2 yX2_shift yX2_shift, .initialized RX2, .code yX2_shift cX2_shift 4 none, .methodLink RX2 51 yX2_swap, .instanceMethod yX2_swap, .selects RX2 yX2_swap yX2_swap, .code yX2_swap cX2_swap 7 none, .fieldLink RX2 15 "FloatOrder$Parade" "kinds" "[I", .fieldLink RX2 19 "FloatOrder$Parade" "heights" "[I", .fieldLink RX2 22 "FloatOrder$Parade" "masks" "[I", .fieldLink RX2 25 "FloatOrder$Parade" "folded" "[Z"] ++ wsX20)
def wsX2_isLowered : List Cond := .code yX2_isLowered cX2_isLowered 3 (some .boolean) :: ([.fieldLink RX2 35 "FloatOrder$Parade" "clearances" "[I", .methodLink RX2 54 yX2_countedHeight, .instanceMethod yX2_countedHeight, .selects RX2 yX2_countedHeight yX2_countedHeight, .initialized RX2, .code yX2_countedHeight cX2_countedHeight 3 (some .int), .fieldLink RX2 25 "FloatOrder$Parade" "folded" "[Z", .fieldLink RX2 19 "FloatOrder$Parade" "heights" "[I"] ++ wsX20)
def wsX2_bridgesThatLower : List Cond := .code yX2_bridgesThatLower cX2_bridgesThatLower 4 (some .int) :: ([.fieldLink RX2 29 "FloatOrder$Parade" "bridges" "I", .methodLink RX2 82 yX2_isLowered, .instanceMethod yX2_isLowered, .selects RX2 yX2_isLowered yX2_isLowered, .initialized RX2, .code yX2_isLowered cX2_isLowered 3 (some .boolean), .fieldLink RX2 35 "FloatOrder$Parade" "clearances" "[I", .methodLink RX2 54 yX2_countedHeight, .instanceMethod yX2_countedHeight, .selects RX2 yX2_countedHeight yX2_countedHeight, .code yX2_countedHeight cX2_countedHeight 3 (some .int), .fieldLink RX2 25 "FloatOrder$Parade" "folded" "[Z", .fieldLink RX2 19 "FloatOrder$Parade" "heights" "[I"] ++ wsX20)
def wsX2_floatProperty_r1 : List Cond := [Cond.fieldLink RX2 15 "FloatOrder$Parade" "kinds" "[I", Cond.fieldLink RX2 19 "FloatOrder$Parade" "heights" "[I", Cond.fieldLink RX2 22 "FloatOrder$Parade" "masks" "[I", Cond.fieldLink RX2 25 "FloatOrder$Parade" "folded" "[Z", Cond.methodLink RX2 54 yX2_countedHeight, Cond.instanceMethod yX2_countedHeight, Cond.selects RX2 yX2_countedHeight yX2_countedHeight, Cond.initialized RX2, Cond.code yX2_countedHeight cX2_countedHeight 3 (some .int), Cond.methodLink RX2 58 yX2_bridgesThatLower, Cond.instanceMethod yX2_bridgesThatLower, Cond.selects RX2 yX2_bridgesThatLower yX2_bridgesThatLower, Cond.code yX2_bridgesThatLower cX2_bridgesThatLower 4 (some .int), Cond.fieldLink RX2 29 "FloatOrder$Parade" "bridges" "I", Cond.methodLink RX2 82 yX2_isLowered, Cond.instanceMethod yX2_isLowered, Cond.selects RX2 yX2_isLowered yX2_isLowered, Cond.code yX2_isLowered cX2_isLowered 3 (some .boolean), Cond.fieldLink RX2 35 "FloatOrder$Parade" "clearances" "[I", Cond.methodLink RX2 61 yX2_troubleAt, Cond.instanceMethod yX2_troubleAt, Cond.selects RX2 yX2_troubleAt yX2_troubleAt, Cond.code yX2_troubleAt cX2_troubleAt 2 (some .int), Cond.methodLink RX2 70 yX2_shying]
def wsX2_floatProperty_r2 : List Cond := [Cond.instanceMethod yX2_shying, Cond.selects RX2 yX2_shying yX2_shying, Cond.code yX2_shying cX2_shying 3 (some .int), Cond.methodLink RX2 73 yX2_hearing, Cond.instanceMethod yX2_hearing, Cond.selects RX2 yX2_hearing yX2_hearing, Cond.code yX2_hearing cX2_hearing 4 (some .int), Cond.fieldLink RX2 38 "FloatOrder$Parade" "settings" "[I", Cond.methodLink RX2 76 yX2_meeting, Cond.instanceMethod yX2_meeting, Cond.selects RX2 yX2_meeting yX2_meeting, Cond.code yX2_meeting cX2_meeting 2 (some .int)]
def wsX2_floatProperty : List Cond := .code yX2_floatProperty cX2_floatProperty 3 (some .int) :: ((wsX2_floatProperty_r1 ++ wsX2_floatProperty_r2) ++ wsX20)
def wsX2_greatestHeight : List Cond := .code yX2_greatestHeight cX2_greatestHeight 3 (some .int) :: ([.fieldLink RX2 9 "FloatOrder$Parade" "floats" "I", .methodLink RX2 64 Lib.Math.max.name, .static Lib.Math.max.name, .initialized "java/lang/Math", .code Lib.Math.max.name Lib.Math.max.code 2 (some .int), .methodLink RX2 54 yX2_countedHeight, .instanceMethod yX2_countedHeight, .selects RX2 yX2_countedHeight yX2_countedHeight, .initialized RX2, .code yX2_countedHeight cX2_countedHeight 3 (some .int), .fieldLink RX2 25 "FloatOrder$Parade" "folded" "[Z", .fieldLink RX2 19 "FloatOrder$Parade" "heights" "[I"] ++ wsX20)
def wsX2_troubledFloats : List Cond := .code yX2_troubledFloats cX2_troubledFloats 3 (some .int) :: ([.fieldLink RX2 9 "FloatOrder$Parade" "floats" "I", .methodLink RX2 61 yX2_troubleAt, .instanceMethod yX2_troubleAt, .selects RX2 yX2_troubleAt yX2_troubleAt, .initialized RX2, .code yX2_troubleAt cX2_troubleAt 2 (some .int), .methodLink RX2 70 yX2_shying, .instanceMethod yX2_shying, .selects RX2 yX2_shying yX2_shying, .code yX2_shying cX2_shying 3 (some .int), .fieldLink RX2 22 "FloatOrder$Parade" "masks" "[I", .fieldLink RX2 15 "FloatOrder$Parade" "kinds" "[I", .methodLink RX2 73 yX2_hearing, .instanceMethod yX2_hearing, .selects RX2 yX2_hearing yX2_hearing, .code yX2_hearing cX2_hearing 4 (some .int), .fieldLink RX2 38 "FloatOrder$Parade" "settings" "[I", .methodLink RX2 76 yX2_meeting, .instanceMethod yX2_meeting, .selects RX2 yX2_meeting yX2_meeting, .code yX2_meeting cX2_meeting 2 (some .int)] ++ wsX20)
def wsX2_troubleBy : List Cond := .code yX2_troubleBy cX2_troubleBy 3 (some .int) :: ([.methodLink RX2 70 yX2_shying, .instanceMethod yX2_shying, .selects RX2 yX2_shying yX2_shying, .initialized RX2, .code yX2_shying cX2_shying 3 (some .int), .fieldLink RX2 22 "FloatOrder$Parade" "masks" "[I", .fieldLink RX2 15 "FloatOrder$Parade" "kinds" "[I", .methodLink RX2 73 yX2_hearing, .instanceMethod yX2_hearing, .selects RX2 yX2_hearing yX2_hearing, .code yX2_hearing cX2_hearing 4 (some .int), .fieldLink RX2 38 "FloatOrder$Parade" "settings" "[I", .methodLink RX2 76 yX2_meeting, .instanceMethod yX2_meeting, .selects RX2 yX2_meeting yX2_meeting, .code yX2_meeting cX2_meeting 2 (some .int)] ++ wsX20)
def wsX2_hasBridgeAt : List Cond := .code yX2_hasBridgeAt cX2_hasBridgeAt 3 (some .boolean) :: ([.fieldLink RX2 29 "FloatOrder$Parade" "bridges" "I", .fieldLink RX2 32 "FloatOrder$Parade" "distances" "[I"] ++ wsX20)
def wsX2_build : List Cond := .code yX2_build cX2_build 4 (some .int) :: ([.fieldLink RX2 29 "FloatOrder$Parade" "bridges" "I", .fieldLink RX2 32 "FloatOrder$Parade" "distances" "[I", .fieldLink RX2 35 "FloatOrder$Parade" "clearances" "[I"] ++ wsX20)
def wsX2_pullDown : List Cond := .code yX2_pullDown cX2_pullDown 3 none :: ([.fieldLink RX2 29 "FloatOrder$Parade" "bridges" "I", .fieldLink RX2 32 "FloatOrder$Parade" "distances" "[I", .fieldLink RX2 35 "FloatOrder$Parade" "clearances" "[I"] ++ wsX20)
def wsX2_floatsLoweredAt : List Cond := .code yX2_floatsLoweredAt cX2_floatsLoweredAt 4 (some .int) :: ([.fieldLink RX2 9 "FloatOrder$Parade" "floats" "I", .methodLink RX2 82 yX2_isLowered, .instanceMethod yX2_isLowered, .selects RX2 yX2_isLowered yX2_isLowered, .initialized RX2, .code yX2_isLowered cX2_isLowered 3 (some .boolean), .fieldLink RX2 35 "FloatOrder$Parade" "clearances" "[I", .methodLink RX2 54 yX2_countedHeight, .instanceMethod yX2_countedHeight, .selects RX2 yX2_countedHeight yX2_countedHeight, .code yX2_countedHeight cX2_countedHeight 3 (some .int), .fieldLink RX2 25 "FloatOrder$Parade" "folded" "[Z", .fieldLink RX2 19 "FloatOrder$Parade" "heights" "[I"] ++ wsX20)
def wsX2_bridgeProperty : List Cond := .code yX2_bridgeProperty cX2_bridgeProperty 3 (some .int) :: ([.fieldLink RX2 32 "FloatOrder$Parade" "distances" "[I", .fieldLink RX2 35 "FloatOrder$Parade" "clearances" "[I", .methodLink RX2 79 yX2_floatsLoweredAt, .instanceMethod yX2_floatsLoweredAt, .selects RX2 yX2_floatsLoweredAt yX2_floatsLoweredAt, .initialized RX2, .code yX2_floatsLoweredAt cX2_floatsLoweredAt 4 (some .int), .fieldLink RX2 9 "FloatOrder$Parade" "floats" "I", .methodLink RX2 82 yX2_isLowered, .instanceMethod yX2_isLowered, .selects RX2 yX2_isLowered yX2_isLowered, .code yX2_isLowered cX2_isLowered 3 (some .boolean), .methodLink RX2 54 yX2_countedHeight, .instanceMethod yX2_countedHeight, .selects RX2 yX2_countedHeight yX2_countedHeight, .code yX2_countedHeight cX2_countedHeight 3 (some .int), .fieldLink RX2 25 "FloatOrder$Parade" "folded" "[Z", .fieldLink RX2 19 "FloatOrder$Parade" "heights" "[I"] ++ wsX20)
def wsX2_loweredFloats : List Cond := .code yX2_loweredFloats cX2_loweredFloats 3 (some .int) :: ([.fieldLink RX2 9 "FloatOrder$Parade" "floats" "I", .methodLink RX2 58 yX2_bridgesThatLower, .instanceMethod yX2_bridgesThatLower, .selects RX2 yX2_bridgesThatLower yX2_bridgesThatLower, .initialized RX2, .code yX2_bridgesThatLower cX2_bridgesThatLower 4 (some .int), .fieldLink RX2 29 "FloatOrder$Parade" "bridges" "I", .methodLink RX2 82 yX2_isLowered, .instanceMethod yX2_isLowered, .selects RX2 yX2_isLowered yX2_isLowered, .code yX2_isLowered cX2_isLowered 3 (some .boolean), .fieldLink RX2 35 "FloatOrder$Parade" "clearances" "[I", .methodLink RX2 54 yX2_countedHeight, .instanceMethod yX2_countedHeight, .selects RX2 yX2_countedHeight yX2_countedHeight, .code yX2_countedHeight cX2_countedHeight 3 (some .int), .fieldLink RX2 25 "FloatOrder$Parade" "folded" "[Z", .fieldLink RX2 19 "FloatOrder$Parade" "heights" "[I"] ++ wsX20)
def wsX2_waiting_r1 : List Cond := [Cond.fieldLink RX2 9 "FloatOrder$Parade" "floats" "I", Cond.fieldLink RX2 38 "FloatOrder$Parade" "settings" "[I", Cond.methodLink RX2 90 yX2_end, Cond.instanceMethod yX2_end, Cond.selects RX2 yX2_end yX2_end, Cond.initialized RX2, Cond.code yX2_end cX2_end 1 (some .int), Cond.fieldLink RX2 41 "FloatOrder$Parade" "came" "[I", Cond.fieldLink RX2 29 "FloatOrder$Parade" "bridges" "I", Cond.methodLink RX2 86 yX2_travel, Cond.instanceMethod yX2_travel, Cond.selects RX2 yX2_travel yX2_travel, Cond.code yX2_travel cX2_travel 8 none, Cond.fieldLink RX2 32 "FloatOrder$Parade" "distances" "[I", Cond.fieldLink RX2 44 "FloatOrder$Parade" "left" "[I", Cond.methodLink RX2 64 Lib.Math.max.name, Cond.static Lib.Math.max.name, Cond.initialized "java/lang/Math", Cond.code Lib.Math.max.name Lib.Math.max.code 2 (some .int), Cond.fieldLink RX2 35 "FloatOrder$Parade" "clearances" "[I", Cond.methodLink RX2 54 yX2_countedHeight, Cond.instanceMethod yX2_countedHeight, Cond.selects RX2 yX2_countedHeight yX2_countedHeight, Cond.code yX2_countedHeight cX2_countedHeight 3 (some .int)]
def wsX2_waiting_r2 : List Cond := [Cond.fieldLink RX2 25 "FloatOrder$Parade" "folded" "[Z", Cond.fieldLink RX2 19 "FloatOrder$Parade" "heights" "[I"]
def wsX2_waiting : List Cond := .code yX2_waiting cX2_waiting 1 (some .int) :: ((wsX2_waiting_r1 ++ wsX2_waiting_r2) ++ wsX20)
def wsX3_init : List Cond := .code yX3_init cX3_init 1 none :: ([.methodLink RX3 3 objectInit, .instanceMethod objectInit, .code objectInit ⟨#[0xb1]⟩ 1 none, .fieldLink RX3 9 "FloatOrder$PartReader" "kind" "I", .fieldLink RX3 15 "FloatOrder$PartReader" "height" "I", .fieldLink RX3 18 "FloatOrder$PartReader" "mask" "I", .fieldLink RX3 21 "FloatOrder$PartReader" "stage" "I"] ++ wsX30)
def wsX3_start : List Cond := .code yX3_start cX3_start 1 none :: ([.fieldLink RX3 21 "FloatOrder$PartReader" "stage" "I"] ++ wsX30)
def wsX3_isAfterPart : List Cond := .code yX3_isAfterPart cX3_isAfterPart 1 (some .boolean) :: ([.fieldLink RX3 21 "FloatOrder$PartReader" "stage" "I"] ++ wsX30)
def wsX3_kindOf : List Cond := .code yX3_kindOf cX3_kindOf 1 (some .int) :: ([])
def wsX3_acceptsKind : List Cond := .code yX3_acceptsKind cX3_acceptsKind 3 (some .boolean) :: ([.fieldLink RX3 9 "FloatOrder$PartReader" "kind" "I", .fieldLink RX3 15 "FloatOrder$PartReader" "height" "I", .fieldLink RX3 18 "FloatOrder$PartReader" "mask" "I", .fieldLink RX3 21 "FloatOrder$PartReader" "stage" "I", .methodLink RX3 38 yX3_kindOf, .static yX3_kindOf, .initialized RX3, .code yX3_kindOf cX3_kindOf 1 (some .int)] ++ wsX30)
def wsX3_acceptsDigit : List Cond := .code yX3_acceptsDigit cX3_acceptsDigit 5 (some .boolean) :: ([.fieldLink RX3 15 "FloatOrder$PartReader" "height" "I", .fieldLink RX3 21 "FloatOrder$PartReader" "stage" "I"] ++ wsX30)
def wsX3_acceptsNextPart : List Cond := .code yX3_acceptsNextPart cX3_acceptsNextPart 2 (some .boolean) :: ([.fieldLink RX3 21 "FloatOrder$PartReader" "stage" "I"] ++ wsX30)
def wsX3_acceptsShied : List Cond := .code yX3_acceptsShied cX3_acceptsShied 3 (some .boolean) :: ([.fieldLink RX3 18 "FloatOrder$PartReader" "mask" "I", .fieldLink RX3 21 "FloatOrder$PartReader" "stage" "I", .methodLink RX3 38 yX3_kindOf, .static yX3_kindOf, .initialized RX3, .code yX3_kindOf cX3_kindOf 1 (some .int)] ++ wsX30)
def wsX3_accepts : List Cond := .code yX3_accepts cX3_accepts 2 (some .boolean) :: ([.fieldLink RX3 21 "FloatOrder$PartReader" "stage" "I", .fieldLink RX3 9 "FloatOrder$PartReader" "kind" "I", .methodLink RX3 24 yX3_acceptsKind, .instanceMethod yX3_acceptsKind, .selects RX3 yX3_acceptsKind yX3_acceptsKind, .initialized RX3, .code yX3_acceptsKind cX3_acceptsKind 3 (some .boolean), .fieldLink RX3 15 "FloatOrder$PartReader" "height" "I", .fieldLink RX3 18 "FloatOrder$PartReader" "mask" "I", .methodLink RX3 38 yX3_kindOf, .static yX3_kindOf, .code yX3_kindOf cX3_kindOf 1 (some .int), .methodLink RX3 28 yX3_acceptsDigit, .instanceMethod yX3_acceptsDigit, .selects RX3 yX3_acceptsDigit yX3_acceptsDigit, .code yX3_acceptsDigit cX3_acceptsDigit 5 (some .boolean), .methodLink RX3 32 yX3_acceptsNextPart, .instanceMethod yX3_acceptsNextPart, .selects RX3 yX3_acceptsNextPart yX3_acceptsNextPart, .code yX3_acceptsNextPart cX3_acceptsNextPart 2 (some .boolean), .methodLink RX3 35 yX3_acceptsShied, .instanceMethod yX3_acceptsShied, .selects RX3 yX3_acceptsShied yX3_acceptsShied, .code yX3_acceptsShied cX3_acceptsShied 3 (some .boolean)] ++ wsX30)
def wsX4_init_r1 : List Cond := [Cond.methodLink RX4 1 objectInit, Cond.instanceMethod objectInit, Cond.code objectInit ⟨#[0xb1]⟩ 1 none, Cond.classLink RX4 7 RX2, Cond.instantiable RX2 11, Cond.initialized RX2, Cond.fieldLink RX4 10 "FloatOrder" "parade" "LFloatOrder$Parade;", Cond.fieldLink RX4 16 "FloatOrder" "trial" "LFloatOrder$Parade;", Cond.classLink RX4 19 RX1, Cond.instantiable RX1 2, Cond.initialized RX1, Cond.fieldLink RX4 22 "FloatOrder" "history" "LFloatOrder$History;", Cond.classLink RX4 26 RX0, Cond.instantiable RX0 2, Cond.initialized RX0, Cond.fieldLink RX4 29 "FloatOrder" "best" "LFloatOrder$Best;", Cond.classLink RX4 33 RX3, Cond.instantiable RX3 4, Cond.initialized RX3, Cond.fieldLink RX4 36 "FloatOrder" "reader" "LFloatOrder$PartReader;", Cond.arrayClass .int, Cond.fieldLink RX4 40 "FloatOrder" "buffer" "[I", Cond.fieldLink RX4 44 "FloatOrder" "characters" "I", Cond.instanceMethod yX2_init]
def wsX4_init_r2 : List Cond := [Cond.code yX2_init cX2_init 1 none, Cond.methodLink RX2 3 objectInit, Cond.fieldLink RX2 9 "FloatOrder$Parade" "floats" "I", Cond.fieldLink RX2 15 "FloatOrder$Parade" "kinds" "[I", Cond.fieldLink RX2 19 "FloatOrder$Parade" "heights" "[I", Cond.fieldLink RX2 22 "FloatOrder$Parade" "masks" "[I", Cond.arrayClass .boolean, Cond.fieldLink RX2 25 "FloatOrder$Parade" "folded" "[Z", Cond.fieldLink RX2 29 "FloatOrder$Parade" "bridges" "I", Cond.fieldLink RX2 32 "FloatOrder$Parade" "distances" "[I", Cond.fieldLink RX2 35 "FloatOrder$Parade" "clearances" "[I", Cond.fieldLink RX2 38 "FloatOrder$Parade" "settings" "[I", Cond.fieldLink RX2 41 "FloatOrder$Parade" "came" "[I", Cond.fieldLink RX2 44 "FloatOrder$Parade" "left" "[I", Cond.methodLink RX4 21 yX1_init, Cond.instanceMethod yX1_init, Cond.code yX1_init cX1_init 2 none, Cond.methodLink RX1 3 objectInit, Cond.classLink RX1 9 RX2, Cond.fieldLink RX1 11 "FloatOrder$History" "saved" "[LFloatOrder$Parade;", Cond.fieldLink RX1 17 "FloatOrder$History" "size" "I", Cond.instanceMethod yX0_init, Cond.code yX0_init cX0_init 1 none, Cond.methodLink RX0 1 objectInit]
def wsX4_init_r3 : List Cond := [Cond.fieldLink RX0 7 "FloatOrder$Best" "leastTrouble" "I", Cond.fieldLink RX0 13 "FloatOrder$Best" "leastEnd" "I", Cond.instanceMethod yX3_init, Cond.code yX3_init cX3_init 1 none, Cond.methodLink RX3 3 objectInit, Cond.fieldLink RX3 9 "FloatOrder$PartReader" "kind" "I", Cond.fieldLink RX3 15 "FloatOrder$PartReader" "height" "I", Cond.fieldLink RX3 18 "FloatOrder$PartReader" "mask" "I", Cond.fieldLink RX3 21 "FloatOrder$PartReader" "stage" "I"]
def wsX4_init : List Cond := .code yX4_init cX4_init 1 none :: ((wsX4_init_r1 ++ (wsX4_init_r2 ++ wsX4_init_r3)) ++ wsX20 ++ wsX40 ++ wsX10 ++ wsX00 ++ wsX30)
def wsX4_isHeight : List Cond := .code yX4_isHeight cX4_isHeight 1 (some .boolean) :: ([])
def wsX4_isFloat : List Cond := .code yX4_isFloat cX4_isFloat 3 (some .boolean) :: ([.methodLink RX4 111 yX4_isHeight, .static yX4_isHeight, .initialized RX4, .code yX4_isHeight cX4_isHeight 1 (some .boolean)])
def wsX4_put_r1 : List Cond := [Cond.classLink RX4 51 "java/lang/IndexOutOfBoundsException", Cond.initialized "java/lang/IndexOutOfBoundsException", Cond.classLink RX4 62 "java/lang/IllegalArgumentException", Cond.initialized "java/lang/IllegalArgumentException", Cond.classLink RX4 67 "java/lang/IllegalStateException", Cond.initialized "java/lang/IllegalStateException", Cond.fieldLink RX4 10 "FloatOrder" "parade" "LFloatOrder$Parade;", Cond.fieldLink RX4 48 "FloatOrder$Parade" "floats" "I", Cond.fieldLink RX4 22 "FloatOrder" "history" "LFloatOrder$History;", Cond.methodLink RX4 58 yX4_isFloat, Cond.static yX4_isFloat, Cond.initialized RX4, Cond.code yX4_isFloat cX4_isFloat 3 (some .boolean), Cond.methodLink RX4 111 yX4_isHeight, Cond.static yX4_isHeight, Cond.code yX4_isHeight cX4_isHeight 1 (some .boolean), Cond.methodLink RX4 72 yX1_save, Cond.instanceMethod yX1_save, Cond.selects RX1 yX1_save yX1_save, Cond.initialized RX1, Cond.code yX1_save cX1_save 2 none, Cond.fieldLink RX1 17 "FloatOrder$History" "size" "I", Cond.fieldLink RX1 11 "FloatOrder$History" "saved" "[LFloatOrder$Parade;", Cond.methodLink RX1 22 yX1_dropOldest]
def wsX4_put_r2 : List Cond := [Cond.instanceMethod yX1_dropOldest, Cond.selects RX1 yX1_dropOldest yX1_dropOldest, Cond.code yX1_dropOldest cX1_dropOldest 3 none, Cond.methodLink RX1 25 yX2_copyFrom, Cond.instanceMethod yX2_copyFrom, Cond.selects RX2 yX2_copyFrom yX2_copyFrom, Cond.initialized RX2, Cond.code yX2_copyFrom cX2_copyFrom 3 none, Cond.fieldLink RX2 9 "FloatOrder$Parade" "floats" "I", Cond.fieldLink RX2 15 "FloatOrder$Parade" "kinds" "[I", Cond.fieldLink RX2 19 "FloatOrder$Parade" "heights" "[I", Cond.fieldLink RX2 22 "FloatOrder$Parade" "masks" "[I", Cond.fieldLink RX2 25 "FloatOrder$Parade" "folded" "[Z", Cond.fieldLink RX2 29 "FloatOrder$Parade" "bridges" "I", Cond.fieldLink RX2 32 "FloatOrder$Parade" "distances" "[I", Cond.fieldLink RX2 35 "FloatOrder$Parade" "clearances" "[I", Cond.fieldLink RX2 38 "FloatOrder$Parade" "settings" "[I", Cond.methodLink RX4 76 yX2_addLast, Cond.instanceMethod yX2_addLast, Cond.selects RX2 yX2_addLast yX2_addLast, Cond.code yX2_addLast cX2_addLast 4 none, Cond.methodLink RX4 80 yX2_shift, Cond.instanceMethod yX2_shift, Cond.selects RX2 yX2_shift yX2_shift]
def wsX4_put_r3 : List Cond := [Cond.code yX2_shift cX2_shift 4 none, Cond.methodLink RX2 51 yX2_swap, Cond.instanceMethod yX2_swap, Cond.selects RX2 yX2_swap yX2_swap, Cond.code yX2_swap cX2_swap 7 none]
def wsX4_put : List Cond := .code yX4_put cX4_put 5 (some .int) :: ((wsX4_put_r1 ++ (wsX4_put_r2 ++ wsX4_put_r3)) ++ wsX40 ++ wsX20 ++ wsX10 ++ (vx_atS RX4 55 "java/lang/IndexOutOfBoundsException" ["java/lang/RuntimeException", "java/lang/Exception"]).filter goodWord ++ (vx_atS RX4 66 "java/lang/IllegalArgumentException" ["java/lang/RuntimeException", "java/lang/Exception"]).filter goodWord ++ (vx_atS RX4 71 "java/lang/IllegalStateException" ["java/lang/RuntimeException", "java/lang/Exception"]).filter goodWord)
def wsX4_needFloat : List Cond := .code yX4_needFloat cX4_needFloat 2 none :: ([.classLink RX4 51 "java/lang/IndexOutOfBoundsException", .initialized "java/lang/IndexOutOfBoundsException", .fieldLink RX4 10 "FloatOrder" "parade" "LFloatOrder$Parade;", .fieldLink RX4 48 "FloatOrder$Parade" "floats" "I"] ++ wsX40 ++ wsX20 ++ (vx_atS RX4 55 "java/lang/IndexOutOfBoundsException" ["java/lang/RuntimeException", "java/lang/Exception"]).filter goodWord)
def wsX4_remove_r1 : List Cond := [Cond.fieldLink RX4 22 "FloatOrder" "history" "LFloatOrder$History;", Cond.fieldLink RX4 10 "FloatOrder" "parade" "LFloatOrder$Parade;", Cond.fieldLink RX4 48 "FloatOrder$Parade" "floats" "I", Cond.methodLink RX4 84 yX4_needFloat, Cond.instanceMethod yX4_needFloat, Cond.selects RX4 yX4_needFloat yX4_needFloat, Cond.initialized RX4, Cond.code yX4_needFloat cX4_needFloat 2 none, Cond.classLink RX4 51 "java/lang/IndexOutOfBoundsException", Cond.initialized "java/lang/IndexOutOfBoundsException", Cond.methodLink RX4 72 yX1_save, Cond.instanceMethod yX1_save, Cond.selects RX1 yX1_save yX1_save, Cond.initialized RX1, Cond.code yX1_save cX1_save 2 none, Cond.fieldLink RX1 17 "FloatOrder$History" "size" "I", Cond.fieldLink RX1 11 "FloatOrder$History" "saved" "[LFloatOrder$Parade;", Cond.methodLink RX1 22 yX1_dropOldest, Cond.instanceMethod yX1_dropOldest, Cond.selects RX1 yX1_dropOldest yX1_dropOldest, Cond.code yX1_dropOldest cX1_dropOldest 3 none, Cond.methodLink RX1 25 yX2_copyFrom, Cond.instanceMethod yX2_copyFrom, Cond.selects RX2 yX2_copyFrom yX2_copyFrom]
def wsX4_remove_r2 : List Cond := [Cond.initialized RX2, Cond.code yX2_copyFrom cX2_copyFrom 3 none, Cond.fieldLink RX2 9 "FloatOrder$Parade" "floats" "I", Cond.fieldLink RX2 15 "FloatOrder$Parade" "kinds" "[I", Cond.fieldLink RX2 19 "FloatOrder$Parade" "heights" "[I", Cond.fieldLink RX2 22 "FloatOrder$Parade" "masks" "[I", Cond.fieldLink RX2 25 "FloatOrder$Parade" "folded" "[Z", Cond.fieldLink RX2 29 "FloatOrder$Parade" "bridges" "I", Cond.fieldLink RX2 32 "FloatOrder$Parade" "distances" "[I", Cond.fieldLink RX2 35 "FloatOrder$Parade" "clearances" "[I", Cond.fieldLink RX2 38 "FloatOrder$Parade" "settings" "[I", Cond.methodLink RX4 88 yX2_takeAway, Cond.instanceMethod yX2_takeAway, Cond.selects RX2 yX2_takeAway yX2_takeAway, Cond.code yX2_takeAway cX2_takeAway 2 none, Cond.methodLink RX2 47 yX2_shift, Cond.instanceMethod yX2_shift, Cond.selects RX2 yX2_shift yX2_shift, Cond.code yX2_shift cX2_shift 4 none, Cond.methodLink RX2 51 yX2_swap, Cond.instanceMethod yX2_swap, Cond.selects RX2 yX2_swap yX2_swap, Cond.code yX2_swap cX2_swap 7 none]
def wsX4_remove : List Cond := .code yX4_remove cX4_remove 2 (some .int) :: ((wsX4_remove_r1 ++ wsX4_remove_r2) ++ wsX40 ++ wsX20 ++ wsX10 ++ (vx_atS RX4 55 "java/lang/IndexOutOfBoundsException" ["java/lang/RuntimeException", "java/lang/Exception"]).filter goodWord)
def wsX4_move_r1 : List Cond := [Cond.fieldLink RX4 22 "FloatOrder" "history" "LFloatOrder$History;", Cond.fieldLink RX4 10 "FloatOrder" "parade" "LFloatOrder$Parade;", Cond.methodLink RX4 84 yX4_needFloat, Cond.instanceMethod yX4_needFloat, Cond.selects RX4 yX4_needFloat yX4_needFloat, Cond.initialized RX4, Cond.code yX4_needFloat cX4_needFloat 2 none, Cond.classLink RX4 51 "java/lang/IndexOutOfBoundsException", Cond.initialized "java/lang/IndexOutOfBoundsException", Cond.fieldLink RX4 48 "FloatOrder$Parade" "floats" "I", Cond.methodLink RX4 72 yX1_save, Cond.instanceMethod yX1_save, Cond.selects RX1 yX1_save yX1_save, Cond.initialized RX1, Cond.code yX1_save cX1_save 2 none, Cond.fieldLink RX1 17 "FloatOrder$History" "size" "I", Cond.fieldLink RX1 11 "FloatOrder$History" "saved" "[LFloatOrder$Parade;", Cond.methodLink RX1 22 yX1_dropOldest, Cond.instanceMethod yX1_dropOldest, Cond.selects RX1 yX1_dropOldest yX1_dropOldest, Cond.code yX1_dropOldest cX1_dropOldest 3 none, Cond.methodLink RX1 25 yX2_copyFrom, Cond.instanceMethod yX2_copyFrom, Cond.selects RX2 yX2_copyFrom yX2_copyFrom]
def wsX4_move_r2 : List Cond := [Cond.initialized RX2, Cond.code yX2_copyFrom cX2_copyFrom 3 none, Cond.fieldLink RX2 9 "FloatOrder$Parade" "floats" "I", Cond.fieldLink RX2 15 "FloatOrder$Parade" "kinds" "[I", Cond.fieldLink RX2 19 "FloatOrder$Parade" "heights" "[I", Cond.fieldLink RX2 22 "FloatOrder$Parade" "masks" "[I", Cond.fieldLink RX2 25 "FloatOrder$Parade" "folded" "[Z", Cond.fieldLink RX2 29 "FloatOrder$Parade" "bridges" "I", Cond.fieldLink RX2 32 "FloatOrder$Parade" "distances" "[I", Cond.fieldLink RX2 35 "FloatOrder$Parade" "clearances" "[I", Cond.fieldLink RX2 38 "FloatOrder$Parade" "settings" "[I", Cond.methodLink RX4 80 yX2_shift, Cond.instanceMethod yX2_shift, Cond.selects RX2 yX2_shift yX2_shift, Cond.code yX2_shift cX2_shift 4 none, Cond.methodLink RX2 51 yX2_swap, Cond.instanceMethod yX2_swap, Cond.selects RX2 yX2_swap yX2_swap, Cond.code yX2_swap cX2_swap 7 none, Cond.methodLink RX4 91 yX2_allTrouble, Cond.instanceMethod yX2_allTrouble, Cond.selects RX2 yX2_allTrouble yX2_allTrouble, Cond.code yX2_allTrouble cX2_allTrouble 3 (some .int), Cond.methodLink RX2 61 yX2_troubleAt]
def wsX4_move_r3 : List Cond := [Cond.instanceMethod yX2_troubleAt, Cond.selects RX2 yX2_troubleAt yX2_troubleAt, Cond.code yX2_troubleAt cX2_troubleAt 2 (some .int), Cond.methodLink RX2 70 yX2_shying, Cond.instanceMethod yX2_shying, Cond.selects RX2 yX2_shying yX2_shying, Cond.code yX2_shying cX2_shying 3 (some .int), Cond.methodLink RX2 73 yX2_hearing, Cond.instanceMethod yX2_hearing, Cond.selects RX2 yX2_hearing yX2_hearing, Cond.code yX2_hearing cX2_hearing 4 (some .int), Cond.methodLink RX2 76 yX2_meeting, Cond.instanceMethod yX2_meeting, Cond.selects RX2 yX2_meeting yX2_meeting, Cond.code yX2_meeting cX2_meeting 2 (some .int)]
def wsX4_move : List Cond := .code yX4_move cX4_move 3 (some .int) :: ((wsX4_move_r1 ++ (wsX4_move_r2 ++ wsX4_move_r3)) ++ wsX40 ++ wsX20 ++ wsX10 ++ (vx_atS RX4 55 "java/lang/IndexOutOfBoundsException" ["java/lang/RuntimeException", "java/lang/Exception"]).filter goodWord)
def wsX4_exchange_r1 : List Cond := [Cond.fieldLink RX4 22 "FloatOrder" "history" "LFloatOrder$History;", Cond.fieldLink RX4 10 "FloatOrder" "parade" "LFloatOrder$Parade;", Cond.methodLink RX4 84 yX4_needFloat, Cond.instanceMethod yX4_needFloat, Cond.selects RX4 yX4_needFloat yX4_needFloat, Cond.initialized RX4, Cond.code yX4_needFloat cX4_needFloat 2 none, Cond.classLink RX4 51 "java/lang/IndexOutOfBoundsException", Cond.initialized "java/lang/IndexOutOfBoundsException", Cond.fieldLink RX4 48 "FloatOrder$Parade" "floats" "I", Cond.methodLink RX4 72 yX1_save, Cond.instanceMethod yX1_save, Cond.selects RX1 yX1_save yX1_save, Cond.initialized RX1, Cond.code yX1_save cX1_save 2 none, Cond.fieldLink RX1 17 "FloatOrder$History" "size" "I", Cond.fieldLink RX1 11 "FloatOrder$History" "saved" "[LFloatOrder$Parade;", Cond.methodLink RX1 22 yX1_dropOldest, Cond.instanceMethod yX1_dropOldest, Cond.selects RX1 yX1_dropOldest yX1_dropOldest, Cond.code yX1_dropOldest cX1_dropOldest 3 none, Cond.methodLink RX1 25 yX2_copyFrom, Cond.instanceMethod yX2_copyFrom, Cond.selects RX2 yX2_copyFrom yX2_copyFrom]
def wsX4_exchange_r2 : List Cond := [Cond.initialized RX2, Cond.code yX2_copyFrom cX2_copyFrom 3 none, Cond.fieldLink RX2 9 "FloatOrder$Parade" "floats" "I", Cond.fieldLink RX2 15 "FloatOrder$Parade" "kinds" "[I", Cond.fieldLink RX2 19 "FloatOrder$Parade" "heights" "[I", Cond.fieldLink RX2 22 "FloatOrder$Parade" "masks" "[I", Cond.fieldLink RX2 25 "FloatOrder$Parade" "folded" "[Z", Cond.fieldLink RX2 29 "FloatOrder$Parade" "bridges" "I", Cond.fieldLink RX2 32 "FloatOrder$Parade" "distances" "[I", Cond.fieldLink RX2 35 "FloatOrder$Parade" "clearances" "[I", Cond.fieldLink RX2 38 "FloatOrder$Parade" "settings" "[I", Cond.methodLink RX4 95 yX2_swap, Cond.instanceMethod yX2_swap, Cond.selects RX2 yX2_swap yX2_swap, Cond.code yX2_swap cX2_swap 7 none, Cond.methodLink RX4 91 yX2_allTrouble, Cond.instanceMethod yX2_allTrouble, Cond.selects RX2 yX2_allTrouble yX2_allTrouble, Cond.code yX2_allTrouble cX2_allTrouble 3 (some .int), Cond.methodLink RX2 61 yX2_troubleAt, Cond.instanceMethod yX2_troubleAt, Cond.selects RX2 yX2_troubleAt yX2_troubleAt, Cond.code yX2_troubleAt cX2_troubleAt 2 (some .int), Cond.methodLink RX2 70 yX2_shying]
def wsX4_exchange_r3 : List Cond := [Cond.instanceMethod yX2_shying, Cond.selects RX2 yX2_shying yX2_shying, Cond.code yX2_shying cX2_shying 3 (some .int), Cond.methodLink RX2 73 yX2_hearing, Cond.instanceMethod yX2_hearing, Cond.selects RX2 yX2_hearing yX2_hearing, Cond.code yX2_hearing cX2_hearing 4 (some .int), Cond.methodLink RX2 76 yX2_meeting, Cond.instanceMethod yX2_meeting, Cond.selects RX2 yX2_meeting yX2_meeting, Cond.code yX2_meeting cX2_meeting 2 (some .int)]
def wsX4_exchange : List Cond := .code yX4_exchange cX4_exchange 3 (some .int) :: ((wsX4_exchange_r1 ++ (wsX4_exchange_r2 ++ wsX4_exchange_r3)) ++ wsX40 ++ wsX20 ++ wsX10 ++ (vx_atS RX4 55 "java/lang/IndexOutOfBoundsException" ["java/lang/RuntimeException", "java/lang/Exception"]).filter goodWord)
def wsX4_fold_r1 : List Cond := [Cond.fieldLink RX4 22 "FloatOrder" "history" "LFloatOrder$History;", Cond.fieldLink RX4 10 "FloatOrder" "parade" "LFloatOrder$Parade;", Cond.fieldLink RX4 98 "FloatOrder$Parade" "folded" "[Z", Cond.methodLink RX4 84 yX4_needFloat, Cond.instanceMethod yX4_needFloat, Cond.selects RX4 yX4_needFloat yX4_needFloat, Cond.initialized RX4, Cond.code yX4_needFloat cX4_needFloat 2 none, Cond.classLink RX4 51 "java/lang/IndexOutOfBoundsException", Cond.initialized "java/lang/IndexOutOfBoundsException", Cond.fieldLink RX4 48 "FloatOrder$Parade" "floats" "I", Cond.methodLink RX4 72 yX1_save, Cond.instanceMethod yX1_save, Cond.selects RX1 yX1_save yX1_save, Cond.initialized RX1, Cond.code yX1_save cX1_save 2 none, Cond.fieldLink RX1 17 "FloatOrder$History" "size" "I", Cond.fieldLink RX1 11 "FloatOrder$History" "saved" "[LFloatOrder$Parade;", Cond.methodLink RX1 22 yX1_dropOldest, Cond.instanceMethod yX1_dropOldest, Cond.selects RX1 yX1_dropOldest yX1_dropOldest, Cond.code yX1_dropOldest cX1_dropOldest 3 none, Cond.methodLink RX1 25 yX2_copyFrom, Cond.instanceMethod yX2_copyFrom]
def wsX4_fold_r2 : List Cond := [Cond.selects RX2 yX2_copyFrom yX2_copyFrom, Cond.initialized RX2, Cond.code yX2_copyFrom cX2_copyFrom 3 none, Cond.fieldLink RX2 9 "FloatOrder$Parade" "floats" "I", Cond.fieldLink RX2 15 "FloatOrder$Parade" "kinds" "[I", Cond.fieldLink RX2 19 "FloatOrder$Parade" "heights" "[I", Cond.fieldLink RX2 22 "FloatOrder$Parade" "masks" "[I", Cond.fieldLink RX2 25 "FloatOrder$Parade" "folded" "[Z", Cond.fieldLink RX2 29 "FloatOrder$Parade" "bridges" "I", Cond.fieldLink RX2 32 "FloatOrder$Parade" "distances" "[I", Cond.fieldLink RX2 35 "FloatOrder$Parade" "clearances" "[I", Cond.fieldLink RX2 38 "FloatOrder$Parade" "settings" "[I", Cond.methodLink RX4 102 yX2_countedHeight, Cond.instanceMethod yX2_countedHeight, Cond.selects RX2 yX2_countedHeight yX2_countedHeight, Cond.code yX2_countedHeight cX2_countedHeight 3 (some .int)]
def wsX4_fold : List Cond := .code yX4_fold cX4_fold 3 (some .int) :: ((wsX4_fold_r1 ++ wsX4_fold_r2) ++ wsX40 ++ wsX20 ++ wsX10 ++ (vx_atS RX4 55 "java/lang/IndexOutOfBoundsException" ["java/lang/RuntimeException", "java/lang/Exception"]).filter goodWord)
def wsX4_doBestExchange_r1 : List Cond := [Cond.fieldLink RX4 29 "FloatOrder" "best" "LFloatOrder$Best;", Cond.fieldLink RX4 10 "FloatOrder" "parade" "LFloatOrder$Parade;", Cond.fieldLink RX4 48 "FloatOrder$Parade" "floats" "I", Cond.methodLink RX4 254 yX0_startAt, Cond.instanceMethod yX0_startAt, Cond.selects RX0 yX0_startAt yX0_startAt, Cond.initialized RX0, Cond.code yX0_startAt cX0_startAt 2 none, Cond.fieldLink RX0 7 "FloatOrder$Best" "leastTrouble" "I", Cond.fieldLink RX0 13 "FloatOrder$Best" "leastEnd" "I", Cond.methodLink RX0 16 yX2_allTrouble, Cond.instanceMethod yX2_allTrouble, Cond.selects RX2 yX2_allTrouble yX2_allTrouble, Cond.initialized RX2, Cond.code yX2_allTrouble cX2_allTrouble 3 (some .int), Cond.fieldLink RX2 9 "FloatOrder$Parade" "floats" "I", Cond.methodLink RX2 61 yX2_troubleAt, Cond.instanceMethod yX2_troubleAt, Cond.selects RX2 yX2_troubleAt yX2_troubleAt, Cond.code yX2_troubleAt cX2_troubleAt 2 (some .int), Cond.methodLink RX2 70 yX2_shying, Cond.instanceMethod yX2_shying, Cond.selects RX2 yX2_shying yX2_shying, Cond.code yX2_shying cX2_shying 3 (some .int)]
def wsX4_doBestExchange_r2 : List Cond := [Cond.fieldLink RX2 22 "FloatOrder$Parade" "masks" "[I", Cond.fieldLink RX2 15 "FloatOrder$Parade" "kinds" "[I", Cond.methodLink RX2 73 yX2_hearing, Cond.instanceMethod yX2_hearing, Cond.selects RX2 yX2_hearing yX2_hearing, Cond.code yX2_hearing cX2_hearing 4 (some .int), Cond.fieldLink RX2 38 "FloatOrder$Parade" "settings" "[I", Cond.methodLink RX2 76 yX2_meeting, Cond.instanceMethod yX2_meeting, Cond.selects RX2 yX2_meeting yX2_meeting, Cond.code yX2_meeting cX2_meeting 2 (some .int), Cond.methodLink RX0 22 yX2_end, Cond.instanceMethod yX2_end, Cond.selects RX2 yX2_end yX2_end, Cond.code yX2_end cX2_end 1 (some .int), Cond.fieldLink RX2 41 "FloatOrder$Parade" "came" "[I", Cond.fieldLink RX2 29 "FloatOrder$Parade" "bridges" "I", Cond.methodLink RX2 86 yX2_travel, Cond.instanceMethod yX2_travel, Cond.selects RX2 yX2_travel yX2_travel, Cond.code yX2_travel cX2_travel 8 none, Cond.fieldLink RX2 32 "FloatOrder$Parade" "distances" "[I", Cond.fieldLink RX2 44 "FloatOrder$Parade" "left" "[I", Cond.methodLink RX2 64 Lib.Math.max.name]
def wsX4_doBestExchange_r3 : List Cond := [Cond.static Lib.Math.max.name, Cond.initialized "java/lang/Math", Cond.code Lib.Math.max.name Lib.Math.max.code 2 (some .int), Cond.fieldLink RX2 35 "FloatOrder$Parade" "clearances" "[I", Cond.methodLink RX2 54 yX2_countedHeight, Cond.instanceMethod yX2_countedHeight, Cond.selects RX2 yX2_countedHeight yX2_countedHeight, Cond.code yX2_countedHeight cX2_countedHeight 3 (some .int), Cond.fieldLink RX2 25 "FloatOrder$Parade" "folded" "[Z", Cond.fieldLink RX2 19 "FloatOrder$Parade" "heights" "[I", Cond.methodLink RX4 95 yX2_swap, Cond.instanceMethod yX2_swap, Cond.selects RX2 yX2_swap yX2_swap, Cond.code yX2_swap cX2_swap 7 none, Cond.methodLink RX4 257 yX0_isBeatenBy, Cond.instanceMethod yX0_isBeatenBy, Cond.selects RX0 yX0_isBeatenBy yX0_isBeatenBy, Cond.code yX0_isBeatenBy cX0_isBeatenBy 4 (some .boolean)]
def wsX4_doBestExchange : List Cond := .code yX4_doBestExchange cX4_doBestExchange 5 (some .boolean) :: ((wsX4_doBestExchange_r1 ++ (wsX4_doBestExchange_r2 ++ wsX4_doBestExchange_r3)) ++ wsX40 ++ wsX20 ++ wsX00)
def wsX4_arrange_r1 : List Cond := [Cond.fieldLink RX4 22 "FloatOrder" "history" "LFloatOrder$History;", Cond.fieldLink RX4 10 "FloatOrder" "parade" "LFloatOrder$Parade;", Cond.constant RX4 106 (1000000), Cond.methodLink RX4 72 yX1_save, Cond.instanceMethod yX1_save, Cond.selects RX1 yX1_save yX1_save, Cond.initialized RX1, Cond.code yX1_save cX1_save 2 none, Cond.fieldLink RX1 17 "FloatOrder$History" "size" "I", Cond.fieldLink RX1 11 "FloatOrder$History" "saved" "[LFloatOrder$Parade;", Cond.methodLink RX1 22 yX1_dropOldest, Cond.instanceMethod yX1_dropOldest, Cond.selects RX1 yX1_dropOldest yX1_dropOldest, Cond.code yX1_dropOldest cX1_dropOldest 3 none, Cond.methodLink RX1 25 yX2_copyFrom, Cond.instanceMethod yX2_copyFrom, Cond.selects RX2 yX2_copyFrom yX2_copyFrom, Cond.initialized RX2, Cond.code yX2_copyFrom cX2_copyFrom 3 none, Cond.fieldLink RX2 9 "FloatOrder$Parade" "floats" "I", Cond.fieldLink RX2 15 "FloatOrder$Parade" "kinds" "[I", Cond.fieldLink RX2 19 "FloatOrder$Parade" "heights" "[I", Cond.fieldLink RX2 22 "FloatOrder$Parade" "masks" "[I", Cond.fieldLink RX2 25 "FloatOrder$Parade" "folded" "[Z"]
def wsX4_arrange_r2 : List Cond := [Cond.fieldLink RX2 29 "FloatOrder$Parade" "bridges" "I", Cond.fieldLink RX2 32 "FloatOrder$Parade" "distances" "[I", Cond.fieldLink RX2 35 "FloatOrder$Parade" "clearances" "[I", Cond.fieldLink RX2 38 "FloatOrder$Parade" "settings" "[I", Cond.methodLink RX4 107 yX4_doBestExchange, Cond.instanceMethod yX4_doBestExchange, Cond.selects RX4 yX4_doBestExchange yX4_doBestExchange, Cond.initialized RX4, Cond.code yX4_doBestExchange cX4_doBestExchange 5 (some .boolean), Cond.fieldLink RX4 29 "FloatOrder" "best" "LFloatOrder$Best;", Cond.fieldLink RX4 48 "FloatOrder$Parade" "floats" "I", Cond.methodLink RX4 254 yX0_startAt, Cond.instanceMethod yX0_startAt, Cond.selects RX0 yX0_startAt yX0_startAt, Cond.initialized RX0, Cond.code yX0_startAt cX0_startAt 2 none, Cond.fieldLink RX0 7 "FloatOrder$Best" "leastTrouble" "I", Cond.fieldLink RX0 13 "FloatOrder$Best" "leastEnd" "I", Cond.methodLink RX0 16 yX2_allTrouble, Cond.instanceMethod yX2_allTrouble, Cond.selects RX2 yX2_allTrouble yX2_allTrouble, Cond.code yX2_allTrouble cX2_allTrouble 3 (some .int), Cond.methodLink RX2 61 yX2_troubleAt, Cond.instanceMethod yX2_troubleAt]
def wsX4_arrange_r3 : List Cond := [Cond.selects RX2 yX2_troubleAt yX2_troubleAt, Cond.code yX2_troubleAt cX2_troubleAt 2 (some .int), Cond.methodLink RX2 70 yX2_shying, Cond.instanceMethod yX2_shying, Cond.selects RX2 yX2_shying yX2_shying, Cond.code yX2_shying cX2_shying 3 (some .int), Cond.methodLink RX2 73 yX2_hearing, Cond.instanceMethod yX2_hearing, Cond.selects RX2 yX2_hearing yX2_hearing, Cond.code yX2_hearing cX2_hearing 4 (some .int), Cond.methodLink RX2 76 yX2_meeting, Cond.instanceMethod yX2_meeting, Cond.selects RX2 yX2_meeting yX2_meeting, Cond.code yX2_meeting cX2_meeting 2 (some .int), Cond.methodLink RX0 22 yX2_end, Cond.instanceMethod yX2_end, Cond.selects RX2 yX2_end yX2_end, Cond.code yX2_end cX2_end 1 (some .int), Cond.fieldLink RX2 41 "FloatOrder$Parade" "came" "[I", Cond.methodLink RX2 86 yX2_travel, Cond.instanceMethod yX2_travel, Cond.selects RX2 yX2_travel yX2_travel, Cond.code yX2_travel cX2_travel 8 none, Cond.fieldLink RX2 44 "FloatOrder$Parade" "left" "[I"]
def wsX4_arrange_r4 : List Cond := [Cond.methodLink RX2 64 Lib.Math.max.name, Cond.static Lib.Math.max.name, Cond.initialized "java/lang/Math", Cond.code Lib.Math.max.name Lib.Math.max.code 2 (some .int), Cond.methodLink RX2 54 yX2_countedHeight, Cond.instanceMethod yX2_countedHeight, Cond.selects RX2 yX2_countedHeight yX2_countedHeight, Cond.code yX2_countedHeight cX2_countedHeight 3 (some .int), Cond.methodLink RX4 95 yX2_swap, Cond.instanceMethod yX2_swap, Cond.selects RX2 yX2_swap yX2_swap, Cond.code yX2_swap cX2_swap 7 none, Cond.methodLink RX4 257 yX0_isBeatenBy, Cond.instanceMethod yX0_isBeatenBy, Cond.selects RX0 yX0_isBeatenBy yX0_isBeatenBy, Cond.code yX0_isBeatenBy cX0_isBeatenBy 4 (some .boolean)]
def wsX4_arrange : List Cond := .code yX4_arrange cX4_arrange 2 (some .int) :: ((wsX4_arrange_r1 ++ (wsX4_arrange_r2 ++ (wsX4_arrange_r3 ++ wsX4_arrange_r4))) ++ wsX40 ++ wsX10 ++ wsX20 ++ wsX00)
def wsX4_bridge_r1 : List Cond := [Cond.classLink RX4 62 "java/lang/IllegalArgumentException", Cond.initialized "java/lang/IllegalArgumentException", Cond.classLink RX4 67 "java/lang/IllegalStateException", Cond.initialized "java/lang/IllegalStateException", Cond.fieldLink RX4 10 "FloatOrder" "parade" "LFloatOrder$Parade;", Cond.fieldLink RX4 117 "FloatOrder$Parade" "bridges" "I", Cond.fieldLink RX4 22 "FloatOrder" "history" "LFloatOrder$History;", Cond.methodLink RX4 111 yX4_isHeight, Cond.static yX4_isHeight, Cond.initialized RX4, Cond.code yX4_isHeight cX4_isHeight 1 (some .boolean), Cond.methodLink RX4 120 yX2_hasBridgeAt, Cond.instanceMethod yX2_hasBridgeAt, Cond.selects RX2 yX2_hasBridgeAt yX2_hasBridgeAt, Cond.initialized RX2, Cond.code yX2_hasBridgeAt cX2_hasBridgeAt 3 (some .boolean), Cond.fieldLink RX2 29 "FloatOrder$Parade" "bridges" "I", Cond.fieldLink RX2 32 "FloatOrder$Parade" "distances" "[I", Cond.methodLink RX4 72 yX1_save, Cond.instanceMethod yX1_save, Cond.selects RX1 yX1_save yX1_save, Cond.initialized RX1, Cond.code yX1_save cX1_save 2 none, Cond.fieldLink RX1 17 "FloatOrder$History" "size" "I"]
def wsX4_bridge_r2 : List Cond := [Cond.fieldLink RX1 11 "FloatOrder$History" "saved" "[LFloatOrder$Parade;", Cond.methodLink RX1 22 yX1_dropOldest, Cond.instanceMethod yX1_dropOldest, Cond.selects RX1 yX1_dropOldest yX1_dropOldest, Cond.code yX1_dropOldest cX1_dropOldest 3 none, Cond.methodLink RX1 25 yX2_copyFrom, Cond.instanceMethod yX2_copyFrom, Cond.selects RX2 yX2_copyFrom yX2_copyFrom, Cond.code yX2_copyFrom cX2_copyFrom 3 none, Cond.fieldLink RX2 9 "FloatOrder$Parade" "floats" "I", Cond.fieldLink RX2 15 "FloatOrder$Parade" "kinds" "[I", Cond.fieldLink RX2 19 "FloatOrder$Parade" "heights" "[I", Cond.fieldLink RX2 22 "FloatOrder$Parade" "masks" "[I", Cond.fieldLink RX2 25 "FloatOrder$Parade" "folded" "[Z", Cond.fieldLink RX2 35 "FloatOrder$Parade" "clearances" "[I", Cond.fieldLink RX2 38 "FloatOrder$Parade" "settings" "[I", Cond.methodLink RX4 125 yX2_build, Cond.instanceMethod yX2_build, Cond.selects RX2 yX2_build yX2_build, Cond.code yX2_build cX2_build 4 (some .int)]
def wsX4_bridge : List Cond := .code yX4_bridge cX4_bridge 3 (some .int) :: ((wsX4_bridge_r1 ++ wsX4_bridge_r2) ++ wsX40 ++ wsX20 ++ wsX10 ++ (vx_atS RX4 66 "java/lang/IllegalArgumentException" ["java/lang/RuntimeException", "java/lang/Exception"]).filter goodWord ++ (vx_atS RX4 71 "java/lang/IllegalStateException" ["java/lang/RuntimeException", "java/lang/Exception"]).filter goodWord)
def wsX4_needBridge : List Cond := .code yX4_needBridge cX4_needBridge 2 none :: ([.classLink RX4 51 "java/lang/IndexOutOfBoundsException", .initialized "java/lang/IndexOutOfBoundsException", .fieldLink RX4 10 "FloatOrder" "parade" "LFloatOrder$Parade;", .fieldLink RX4 117 "FloatOrder$Parade" "bridges" "I"] ++ wsX40 ++ wsX20 ++ (vx_atS RX4 55 "java/lang/IndexOutOfBoundsException" ["java/lang/RuntimeException", "java/lang/Exception"]).filter goodWord)
def wsX4_unbridge_r1 : List Cond := [Cond.fieldLink RX4 22 "FloatOrder" "history" "LFloatOrder$History;", Cond.fieldLink RX4 10 "FloatOrder" "parade" "LFloatOrder$Parade;", Cond.fieldLink RX4 132 "FloatOrder$Parade" "distances" "[I", Cond.methodLink RX4 129 yX4_needBridge, Cond.instanceMethod yX4_needBridge, Cond.selects RX4 yX4_needBridge yX4_needBridge, Cond.initialized RX4, Cond.code yX4_needBridge cX4_needBridge 2 none, Cond.classLink RX4 51 "java/lang/IndexOutOfBoundsException", Cond.initialized "java/lang/IndexOutOfBoundsException", Cond.fieldLink RX4 117 "FloatOrder$Parade" "bridges" "I", Cond.methodLink RX4 72 yX1_save, Cond.instanceMethod yX1_save, Cond.selects RX1 yX1_save yX1_save, Cond.initialized RX1, Cond.code yX1_save cX1_save 2 none, Cond.fieldLink RX1 17 "FloatOrder$History" "size" "I", Cond.fieldLink RX1 11 "FloatOrder$History" "saved" "[LFloatOrder$Parade;", Cond.methodLink RX1 22 yX1_dropOldest, Cond.instanceMethod yX1_dropOldest, Cond.selects RX1 yX1_dropOldest yX1_dropOldest, Cond.code yX1_dropOldest cX1_dropOldest 3 none, Cond.methodLink RX1 25 yX2_copyFrom, Cond.instanceMethod yX2_copyFrom]
def wsX4_unbridge_r2 : List Cond := [Cond.selects RX2 yX2_copyFrom yX2_copyFrom, Cond.initialized RX2, Cond.code yX2_copyFrom cX2_copyFrom 3 none, Cond.fieldLink RX2 9 "FloatOrder$Parade" "floats" "I", Cond.fieldLink RX2 15 "FloatOrder$Parade" "kinds" "[I", Cond.fieldLink RX2 19 "FloatOrder$Parade" "heights" "[I", Cond.fieldLink RX2 22 "FloatOrder$Parade" "masks" "[I", Cond.fieldLink RX2 25 "FloatOrder$Parade" "folded" "[Z", Cond.fieldLink RX2 29 "FloatOrder$Parade" "bridges" "I", Cond.fieldLink RX2 32 "FloatOrder$Parade" "distances" "[I", Cond.fieldLink RX2 35 "FloatOrder$Parade" "clearances" "[I", Cond.fieldLink RX2 38 "FloatOrder$Parade" "settings" "[I", Cond.methodLink RX4 135 yX2_pullDown, Cond.instanceMethod yX2_pullDown, Cond.selects RX2 yX2_pullDown yX2_pullDown, Cond.code yX2_pullDown cX2_pullDown 3 none]
def wsX4_unbridge : List Cond := .code yX4_unbridge cX4_unbridge 3 (some .int) :: ((wsX4_unbridge_r1 ++ wsX4_unbridge_r2) ++ wsX40 ++ wsX20 ++ wsX10 ++ (vx_atS RX4 55 "java/lang/IndexOutOfBoundsException" ["java/lang/RuntimeException", "java/lang/Exception"]).filter goodWord)
def wsX4_needSetting : List Cond := .code yX4_needSetting cX4_needSetting 1 none :: ([.classLink RX4 51 "java/lang/IndexOutOfBoundsException", .initialized "java/lang/IndexOutOfBoundsException"] ++ (vx_atS RX4 55 "java/lang/IndexOutOfBoundsException" ["java/lang/RuntimeException", "java/lang/Exception"]).filter goodWord)
def wsX4_set_r1 : List Cond := [Cond.classLink RX4 62 "java/lang/IllegalArgumentException", Cond.initialized "java/lang/IllegalArgumentException", Cond.fieldLink RX4 141 "FloatOrder" "LEAST_SETTINGS" "[I", Cond.fieldLink RX4 144 "FloatOrder" "GREATEST_SETTINGS" "[I", Cond.fieldLink RX4 22 "FloatOrder" "history" "LFloatOrder$History;", Cond.fieldLink RX4 10 "FloatOrder" "parade" "LFloatOrder$Parade;", Cond.fieldLink RX4 149 "FloatOrder$Parade" "settings" "[I", Cond.methodLink RX4 138 yX4_needSetting, Cond.static yX4_needSetting, Cond.initialized RX4, Cond.code yX4_needSetting cX4_needSetting 1 none, Cond.classLink RX4 51 "java/lang/IndexOutOfBoundsException", Cond.initialized "java/lang/IndexOutOfBoundsException", Cond.methodLink RX4 72 yX1_save, Cond.instanceMethod yX1_save, Cond.selects RX1 yX1_save yX1_save, Cond.initialized RX1, Cond.code yX1_save cX1_save 2 none, Cond.fieldLink RX1 17 "FloatOrder$History" "size" "I", Cond.fieldLink RX1 11 "FloatOrder$History" "saved" "[LFloatOrder$Parade;", Cond.methodLink RX1 22 yX1_dropOldest, Cond.instanceMethod yX1_dropOldest, Cond.selects RX1 yX1_dropOldest yX1_dropOldest, Cond.code yX1_dropOldest cX1_dropOldest 3 none]
def wsX4_set_r2 : List Cond := [Cond.methodLink RX1 25 yX2_copyFrom, Cond.instanceMethod yX2_copyFrom, Cond.selects RX2 yX2_copyFrom yX2_copyFrom, Cond.initialized RX2, Cond.code yX2_copyFrom cX2_copyFrom 3 none, Cond.fieldLink RX2 9 "FloatOrder$Parade" "floats" "I", Cond.fieldLink RX2 15 "FloatOrder$Parade" "kinds" "[I", Cond.fieldLink RX2 19 "FloatOrder$Parade" "heights" "[I", Cond.fieldLink RX2 22 "FloatOrder$Parade" "masks" "[I", Cond.fieldLink RX2 25 "FloatOrder$Parade" "folded" "[Z", Cond.fieldLink RX2 29 "FloatOrder$Parade" "bridges" "I", Cond.fieldLink RX2 32 "FloatOrder$Parade" "distances" "[I", Cond.fieldLink RX2 35 "FloatOrder$Parade" "clearances" "[I", Cond.fieldLink RX2 38 "FloatOrder$Parade" "settings" "[I"]
def wsX4_set : List Cond := .code yX4_set cX4_set 4 (some .int) :: ((wsX4_set_r1 ++ wsX4_set_r2) ++ wsX40 ++ wsX20 ++ wsX10 ++ (vx_atS RX4 66 "java/lang/IllegalArgumentException" ["java/lang/RuntimeException", "java/lang/Exception"]).filter goodWord ++ (vx_atS RX4 55 "java/lang/IndexOutOfBoundsException" ["java/lang/RuntimeException", "java/lang/Exception"]).filter goodWord)
def wsX4_append : List Cond := .code yX4_append cX4_append 2 (some .int) :: ([.classLink RX4 62 "java/lang/IllegalArgumentException", .initialized "java/lang/IllegalArgumentException", .classLink RX4 67 "java/lang/IllegalStateException", .initialized "java/lang/IllegalStateException", .fieldLink RX4 44 "FloatOrder" "characters" "I", .fieldLink RX4 40 "FloatOrder" "buffer" "[I"] ++ wsX40 ++ (vx_atS RX4 66 "java/lang/IllegalArgumentException" ["java/lang/RuntimeException", "java/lang/Exception"]).filter goodWord ++ (vx_atS RX4 71 "java/lang/IllegalStateException" ["java/lang/RuntimeException", "java/lang/Exception"]).filter goodWord)
def wsX4_clearBuffer : List Cond := .code yX4_clearBuffer cX4_clearBuffer 2 (some .int) :: ([.fieldLink RX4 44 "FloatOrder" "characters" "I"] ++ wsX40)
def wsX4_readBuffer_r1 : List Cond := [Cond.fieldLink RX4 36 "FloatOrder" "reader" "LFloatOrder$PartReader;", Cond.fieldLink RX4 44 "FloatOrder" "characters" "I", Cond.fieldLink RX4 40 "FloatOrder" "buffer" "[I", Cond.methodLink RX4 273 yX3_start, Cond.instanceMethod yX3_start, Cond.selects RX3 yX3_start yX3_start, Cond.initialized RX3, Cond.code yX3_start cX3_start 1 none, Cond.fieldLink RX3 21 "FloatOrder$PartReader" "stage" "I", Cond.methodLink RX4 276 yX3_accepts, Cond.instanceMethod yX3_accepts, Cond.selects RX3 yX3_accepts yX3_accepts, Cond.code yX3_accepts cX3_accepts 2 (some .boolean), Cond.fieldLink RX3 9 "FloatOrder$PartReader" "kind" "I", Cond.methodLink RX3 24 yX3_acceptsKind, Cond.instanceMethod yX3_acceptsKind, Cond.selects RX3 yX3_acceptsKind yX3_acceptsKind, Cond.code yX3_acceptsKind cX3_acceptsKind 3 (some .boolean), Cond.fieldLink RX3 15 "FloatOrder$PartReader" "height" "I", Cond.fieldLink RX3 18 "FloatOrder$PartReader" "mask" "I", Cond.methodLink RX3 38 yX3_kindOf, Cond.static yX3_kindOf, Cond.code yX3_kindOf cX3_kindOf 1 (some .int), Cond.methodLink RX3 28 yX3_acceptsDigit]
def wsX4_readBuffer_r2 : List Cond := [Cond.instanceMethod yX3_acceptsDigit, Cond.selects RX3 yX3_acceptsDigit yX3_acceptsDigit, Cond.code yX3_acceptsDigit cX3_acceptsDigit 5 (some .boolean), Cond.methodLink RX3 32 yX3_acceptsNextPart, Cond.instanceMethod yX3_acceptsNextPart, Cond.selects RX3 yX3_acceptsNextPart yX3_acceptsNextPart, Cond.code yX3_acceptsNextPart cX3_acceptsNextPart 2 (some .boolean), Cond.methodLink RX3 35 yX3_acceptsShied, Cond.instanceMethod yX3_acceptsShied, Cond.selects RX3 yX3_acceptsShied yX3_acceptsShied, Cond.code yX3_acceptsShied cX3_acceptsShied 3 (some .boolean)]
def wsX4_readBuffer : List Cond := .code yX4_readBuffer cX4_readBuffer 2 (some .int) :: ((wsX4_readBuffer_r1 ++ wsX4_readBuffer_r2) ++ wsX40 ++ wsX30)
def wsX4_firstError_r1 : List Cond := [Cond.methodLink RX4 156 yX4_readBuffer, Cond.instanceMethod yX4_readBuffer, Cond.selects RX4 yX4_readBuffer yX4_readBuffer, Cond.initialized RX4, Cond.code yX4_readBuffer cX4_readBuffer 2 (some .int), Cond.fieldLink RX4 36 "FloatOrder" "reader" "LFloatOrder$PartReader;", Cond.fieldLink RX4 44 "FloatOrder" "characters" "I", Cond.fieldLink RX4 40 "FloatOrder" "buffer" "[I", Cond.methodLink RX4 273 yX3_start, Cond.instanceMethod yX3_start, Cond.selects RX3 yX3_start yX3_start, Cond.initialized RX3, Cond.code yX3_start cX3_start 1 none, Cond.fieldLink RX3 21 "FloatOrder$PartReader" "stage" "I", Cond.methodLink RX4 276 yX3_accepts, Cond.instanceMethod yX3_accepts, Cond.selects RX3 yX3_accepts yX3_accepts, Cond.code yX3_accepts cX3_accepts 2 (some .boolean), Cond.fieldLink RX3 9 "FloatOrder$PartReader" "kind" "I", Cond.methodLink RX3 24 yX3_acceptsKind, Cond.instanceMethod yX3_acceptsKind, Cond.selects RX3 yX3_acceptsKind yX3_acceptsKind, Cond.code yX3_acceptsKind cX3_acceptsKind 3 (some .boolean), Cond.fieldLink RX3 15 "FloatOrder$PartReader" "height" "I"]
def wsX4_firstError_r2 : List Cond := [Cond.fieldLink RX3 18 "FloatOrder$PartReader" "mask" "I", Cond.methodLink RX3 38 yX3_kindOf, Cond.static yX3_kindOf, Cond.code yX3_kindOf cX3_kindOf 1 (some .int), Cond.methodLink RX3 28 yX3_acceptsDigit, Cond.instanceMethod yX3_acceptsDigit, Cond.selects RX3 yX3_acceptsDigit yX3_acceptsDigit, Cond.code yX3_acceptsDigit cX3_acceptsDigit 5 (some .boolean), Cond.methodLink RX3 32 yX3_acceptsNextPart, Cond.instanceMethod yX3_acceptsNextPart, Cond.selects RX3 yX3_acceptsNextPart yX3_acceptsNextPart, Cond.code yX3_acceptsNextPart cX3_acceptsNextPart 2 (some .boolean), Cond.methodLink RX3 35 yX3_acceptsShied, Cond.instanceMethod yX3_acceptsShied, Cond.selects RX3 yX3_acceptsShied yX3_acceptsShied, Cond.code yX3_acceptsShied cX3_acceptsShied 3 (some .boolean)]
def wsX4_firstError : List Cond := .code yX4_firstError cX4_firstError 1 (some .int) :: ((wsX4_firstError_r1 ++ wsX4_firstError_r2) ++ wsX40 ++ wsX30)
def wsX4_partsInBuffer : List Cond := .code yX4_partsInBuffer cX4_partsInBuffer 3 (some .int) :: ([.fieldLink RX4 44 "FloatOrder" "characters" "I", .fieldLink RX4 40 "FloatOrder" "buffer" "[I"] ++ wsX40)
def wsX4_addParts_r1 : List Cond := [Cond.fieldLink RX4 36 "FloatOrder" "reader" "LFloatOrder$PartReader;", Cond.fieldLink RX4 44 "FloatOrder" "characters" "I", Cond.fieldLink RX4 40 "FloatOrder" "buffer" "[I", Cond.fieldLink RX4 10 "FloatOrder" "parade" "LFloatOrder$Parade;", Cond.fieldLink RX4 279 "FloatOrder$PartReader" "kind" "I", Cond.fieldLink RX4 282 "FloatOrder$PartReader" "height" "I", Cond.fieldLink RX4 285 "FloatOrder$PartReader" "mask" "I", Cond.methodLink RX4 273 yX3_start, Cond.instanceMethod yX3_start, Cond.selects RX3 yX3_start yX3_start, Cond.initialized RX3, Cond.code yX3_start cX3_start 1 none, Cond.fieldLink RX3 21 "FloatOrder$PartReader" "stage" "I", Cond.methodLink RX4 76 yX2_addLast, Cond.instanceMethod yX2_addLast, Cond.selects RX2 yX2_addLast yX2_addLast, Cond.initialized RX2, Cond.code yX2_addLast cX2_addLast 4 none, Cond.fieldLink RX2 9 "FloatOrder$Parade" "floats" "I", Cond.fieldLink RX2 15 "FloatOrder$Parade" "kinds" "[I", Cond.fieldLink RX2 19 "FloatOrder$Parade" "heights" "[I", Cond.fieldLink RX2 22 "FloatOrder$Parade" "masks" "[I", Cond.fieldLink RX2 25 "FloatOrder$Parade" "folded" "[Z", Cond.methodLink RX4 276 yX3_accepts]
def wsX4_addParts_r2 : List Cond := [Cond.instanceMethod yX3_accepts, Cond.selects RX3 yX3_accepts yX3_accepts, Cond.code yX3_accepts cX3_accepts 2 (some .boolean), Cond.fieldLink RX3 9 "FloatOrder$PartReader" "kind" "I", Cond.methodLink RX3 24 yX3_acceptsKind, Cond.instanceMethod yX3_acceptsKind, Cond.selects RX3 yX3_acceptsKind yX3_acceptsKind, Cond.code yX3_acceptsKind cX3_acceptsKind 3 (some .boolean), Cond.fieldLink RX3 15 "FloatOrder$PartReader" "height" "I", Cond.fieldLink RX3 18 "FloatOrder$PartReader" "mask" "I", Cond.methodLink RX3 38 yX3_kindOf, Cond.static yX3_kindOf, Cond.code yX3_kindOf cX3_kindOf 1 (some .int), Cond.methodLink RX3 28 yX3_acceptsDigit, Cond.instanceMethod yX3_acceptsDigit, Cond.selects RX3 yX3_acceptsDigit yX3_acceptsDigit, Cond.code yX3_acceptsDigit cX3_acceptsDigit 5 (some .boolean), Cond.methodLink RX3 32 yX3_acceptsNextPart, Cond.instanceMethod yX3_acceptsNextPart, Cond.selects RX3 yX3_acceptsNextPart yX3_acceptsNextPart, Cond.code yX3_acceptsNextPart cX3_acceptsNextPart 2 (some .boolean), Cond.methodLink RX3 35 yX3_acceptsShied, Cond.instanceMethod yX3_acceptsShied, Cond.selects RX3 yX3_acceptsShied yX3_acceptsShied]
def wsX4_addParts_r3 : List Cond := [Cond.code yX3_acceptsShied cX3_acceptsShied 3 (some .boolean)]
def wsX4_addParts : List Cond := .code yX4_addParts cX4_addParts 2 none :: ((wsX4_addParts_r1 ++ (wsX4_addParts_r2 ++ wsX4_addParts_r3)) ++ wsX40 ++ wsX30 ++ wsX20)
def wsX4_putAll_r1 : List Cond := [Cond.classLink RX4 62 "java/lang/IllegalArgumentException", Cond.initialized "java/lang/IllegalArgumentException", Cond.classLink RX4 67 "java/lang/IllegalStateException", Cond.initialized "java/lang/IllegalStateException", Cond.fieldLink RX4 44 "FloatOrder" "characters" "I", Cond.fieldLink RX4 36 "FloatOrder" "reader" "LFloatOrder$PartReader;", Cond.fieldLink RX4 10 "FloatOrder" "parade" "LFloatOrder$Parade;", Cond.fieldLink RX4 48 "FloatOrder$Parade" "floats" "I", Cond.fieldLink RX4 22 "FloatOrder" "history" "LFloatOrder$History;", Cond.methodLink RX4 156 yX4_readBuffer, Cond.instanceMethod yX4_readBuffer, Cond.selects RX4 yX4_readBuffer yX4_readBuffer, Cond.initialized RX4, Cond.code yX4_readBuffer cX4_readBuffer 2 (some .int), Cond.fieldLink RX4 40 "FloatOrder" "buffer" "[I", Cond.methodLink RX4 273 yX3_start, Cond.instanceMethod yX3_start, Cond.selects RX3 yX3_start yX3_start, Cond.initialized RX3, Cond.code yX3_start cX3_start 1 none, Cond.fieldLink RX3 21 "FloatOrder$PartReader" "stage" "I", Cond.methodLink RX4 276 yX3_accepts, Cond.instanceMethod yX3_accepts, Cond.selects RX3 yX3_accepts yX3_accepts]
def wsX4_putAll_r2 : List Cond := [Cond.code yX3_accepts cX3_accepts 2 (some .boolean), Cond.fieldLink RX3 9 "FloatOrder$PartReader" "kind" "I", Cond.methodLink RX3 24 yX3_acceptsKind, Cond.instanceMethod yX3_acceptsKind, Cond.selects RX3 yX3_acceptsKind yX3_acceptsKind, Cond.code yX3_acceptsKind cX3_acceptsKind 3 (some .boolean), Cond.fieldLink RX3 15 "FloatOrder$PartReader" "height" "I", Cond.fieldLink RX3 18 "FloatOrder$PartReader" "mask" "I", Cond.methodLink RX3 38 yX3_kindOf, Cond.static yX3_kindOf, Cond.code yX3_kindOf cX3_kindOf 1 (some .int), Cond.methodLink RX3 28 yX3_acceptsDigit, Cond.instanceMethod yX3_acceptsDigit, Cond.selects RX3 yX3_acceptsDigit yX3_acceptsDigit, Cond.code yX3_acceptsDigit cX3_acceptsDigit 5 (some .boolean), Cond.methodLink RX3 32 yX3_acceptsNextPart, Cond.instanceMethod yX3_acceptsNextPart, Cond.selects RX3 yX3_acceptsNextPart yX3_acceptsNextPart, Cond.code yX3_acceptsNextPart cX3_acceptsNextPart 2 (some .boolean), Cond.methodLink RX3 35 yX3_acceptsShied, Cond.instanceMethod yX3_acceptsShied, Cond.selects RX3 yX3_acceptsShied yX3_acceptsShied, Cond.code yX3_acceptsShied cX3_acceptsShied 3 (some .boolean), Cond.methodLink RX4 159 yX3_isAfterPart]
def wsX4_putAll_r3 : List Cond := [Cond.instanceMethod yX3_isAfterPart, Cond.selects RX3 yX3_isAfterPart yX3_isAfterPart, Cond.code yX3_isAfterPart cX3_isAfterPart 1 (some .boolean), Cond.methodLink RX4 164 yX4_partsInBuffer, Cond.instanceMethod yX4_partsInBuffer, Cond.selects RX4 yX4_partsInBuffer yX4_partsInBuffer, Cond.code yX4_partsInBuffer cX4_partsInBuffer 3 (some .int), Cond.methodLink RX4 72 yX1_save, Cond.instanceMethod yX1_save, Cond.selects RX1 yX1_save yX1_save, Cond.initialized RX1, Cond.code yX1_save cX1_save 2 none, Cond.fieldLink RX1 17 "FloatOrder$History" "size" "I", Cond.fieldLink RX1 11 "FloatOrder$History" "saved" "[LFloatOrder$Parade;", Cond.methodLink RX1 22 yX1_dropOldest, Cond.instanceMethod yX1_dropOldest, Cond.selects RX1 yX1_dropOldest yX1_dropOldest, Cond.code yX1_dropOldest cX1_dropOldest 3 none, Cond.methodLink RX1 25 yX2_copyFrom, Cond.instanceMethod yX2_copyFrom, Cond.selects RX2 yX2_copyFrom yX2_copyFrom, Cond.initialized RX2, Cond.code yX2_copyFrom cX2_copyFrom 3 none, Cond.fieldLink RX2 9 "FloatOrder$Parade" "floats" "I"]
def wsX4_putAll_r4 : List Cond := [Cond.fieldLink RX2 15 "FloatOrder$Parade" "kinds" "[I", Cond.fieldLink RX2 19 "FloatOrder$Parade" "heights" "[I", Cond.fieldLink RX2 22 "FloatOrder$Parade" "masks" "[I", Cond.fieldLink RX2 25 "FloatOrder$Parade" "folded" "[Z", Cond.fieldLink RX2 29 "FloatOrder$Parade" "bridges" "I", Cond.fieldLink RX2 32 "FloatOrder$Parade" "distances" "[I", Cond.fieldLink RX2 35 "FloatOrder$Parade" "clearances" "[I", Cond.fieldLink RX2 38 "FloatOrder$Parade" "settings" "[I", Cond.methodLink RX4 169 yX4_addParts, Cond.instanceMethod yX4_addParts, Cond.selects RX4 yX4_addParts yX4_addParts, Cond.code yX4_addParts cX4_addParts 2 none, Cond.fieldLink RX4 279 "FloatOrder$PartReader" "kind" "I", Cond.fieldLink RX4 282 "FloatOrder$PartReader" "height" "I", Cond.fieldLink RX4 285 "FloatOrder$PartReader" "mask" "I", Cond.methodLink RX4 76 yX2_addLast, Cond.instanceMethod yX2_addLast, Cond.selects RX2 yX2_addLast yX2_addLast, Cond.code yX2_addLast cX2_addLast 4 none]
def wsX4_putAll : List Cond := .code yX4_putAll cX4_putAll 1 (some .int) :: ((wsX4_putAll_r1 ++ (wsX4_putAll_r2 ++ (wsX4_putAll_r3 ++ wsX4_putAll_r4))) ++ wsX40 ++ wsX20 ++ wsX30 ++ wsX10 ++ (vx_atS RX4 66 "java/lang/IllegalArgumentException" ["java/lang/RuntimeException", "java/lang/Exception"]).filter goodWord ++ (vx_atS RX4 71 "java/lang/IllegalStateException" ["java/lang/RuntimeException", "java/lang/Exception"]).filter goodWord)
def wsX4_undo_r1 : List Cond := [Cond.classLink RX4 67 "java/lang/IllegalStateException", Cond.initialized "java/lang/IllegalStateException", Cond.fieldLink RX4 22 "FloatOrder" "history" "LFloatOrder$History;", Cond.fieldLink RX4 172 "FloatOrder$History" "size" "I", Cond.fieldLink RX4 10 "FloatOrder" "parade" "LFloatOrder$Parade;", Cond.methodLink RX4 177 yX1_restoreLatest, Cond.instanceMethod yX1_restoreLatest, Cond.selects RX1 yX1_restoreLatest yX1_restoreLatest, Cond.initialized RX1, Cond.code yX1_restoreLatest cX1_restoreLatest 2 none, Cond.fieldLink RX1 17 "FloatOrder$History" "size" "I", Cond.fieldLink RX1 11 "FloatOrder$History" "saved" "[LFloatOrder$Parade;", Cond.methodLink RX1 25 yX2_copyFrom, Cond.instanceMethod yX2_copyFrom, Cond.selects RX2 yX2_copyFrom yX2_copyFrom, Cond.initialized RX2, Cond.code yX2_copyFrom cX2_copyFrom 3 none, Cond.fieldLink RX2 9 "FloatOrder$Parade" "floats" "I", Cond.fieldLink RX2 15 "FloatOrder$Parade" "kinds" "[I", Cond.fieldLink RX2 19 "FloatOrder$Parade" "heights" "[I", Cond.fieldLink RX2 22 "FloatOrder$Parade" "masks" "[I", Cond.fieldLink RX2 25 "FloatOrder$Parade" "folded" "[Z", Cond.fieldLink RX2 29 "FloatOrder$Parade" "bridges" "I", Cond.fieldLink RX2 32 "FloatOrder$Parade" "distances" "[I"]
def wsX4_undo_r2 : List Cond := [Cond.fieldLink RX2 35 "FloatOrder$Parade" "clearances" "[I", Cond.fieldLink RX2 38 "FloatOrder$Parade" "settings" "[I"]
def wsX4_undo : List Cond := .code yX4_undo cX4_undo 1 (some .int) :: ((wsX4_undo_r1 ++ wsX4_undo_r2) ++ wsX40 ++ wsX10 ++ wsX20 ++ (vx_atS RX4 71 "java/lang/IllegalStateException" ["java/lang/RuntimeException", "java/lang/Exception"]).filter goodWord)
def wsX4_floatAt_r1 : List Cond := [Cond.classLink RX4 62 "java/lang/IllegalArgumentException", Cond.initialized "java/lang/IllegalArgumentException", Cond.fieldLink RX4 10 "FloatOrder" "parade" "LFloatOrder$Parade;", Cond.methodLink RX4 84 yX4_needFloat, Cond.instanceMethod yX4_needFloat, Cond.selects RX4 yX4_needFloat yX4_needFloat, Cond.initialized RX4, Cond.code yX4_needFloat cX4_needFloat 2 none, Cond.classLink RX4 51 "java/lang/IndexOutOfBoundsException", Cond.initialized "java/lang/IndexOutOfBoundsException", Cond.fieldLink RX4 48 "FloatOrder$Parade" "floats" "I", Cond.methodLink RX4 182 yX2_floatProperty, Cond.instanceMethod yX2_floatProperty, Cond.selects RX2 yX2_floatProperty yX2_floatProperty, Cond.initialized RX2, Cond.code yX2_floatProperty cX2_floatProperty 3 (some .int), Cond.fieldLink RX2 15 "FloatOrder$Parade" "kinds" "[I", Cond.fieldLink RX2 19 "FloatOrder$Parade" "heights" "[I", Cond.fieldLink RX2 22 "FloatOrder$Parade" "masks" "[I", Cond.fieldLink RX2 25 "FloatOrder$Parade" "folded" "[Z", Cond.methodLink RX2 54 yX2_countedHeight, Cond.instanceMethod yX2_countedHeight, Cond.selects RX2 yX2_countedHeight yX2_countedHeight, Cond.code yX2_countedHeight cX2_countedHeight 3 (some .int)]
def wsX4_floatAt_r2 : List Cond := [Cond.methodLink RX2 58 yX2_bridgesThatLower, Cond.instanceMethod yX2_bridgesThatLower, Cond.selects RX2 yX2_bridgesThatLower yX2_bridgesThatLower, Cond.code yX2_bridgesThatLower cX2_bridgesThatLower 4 (some .int), Cond.fieldLink RX2 29 "FloatOrder$Parade" "bridges" "I", Cond.methodLink RX2 82 yX2_isLowered, Cond.instanceMethod yX2_isLowered, Cond.selects RX2 yX2_isLowered yX2_isLowered, Cond.code yX2_isLowered cX2_isLowered 3 (some .boolean), Cond.fieldLink RX2 35 "FloatOrder$Parade" "clearances" "[I", Cond.methodLink RX2 61 yX2_troubleAt, Cond.instanceMethod yX2_troubleAt, Cond.selects RX2 yX2_troubleAt yX2_troubleAt, Cond.code yX2_troubleAt cX2_troubleAt 2 (some .int), Cond.methodLink RX2 70 yX2_shying, Cond.instanceMethod yX2_shying, Cond.selects RX2 yX2_shying yX2_shying, Cond.code yX2_shying cX2_shying 3 (some .int), Cond.methodLink RX2 73 yX2_hearing, Cond.instanceMethod yX2_hearing, Cond.selects RX2 yX2_hearing yX2_hearing, Cond.code yX2_hearing cX2_hearing 4 (some .int), Cond.fieldLink RX2 38 "FloatOrder$Parade" "settings" "[I", Cond.methodLink RX2 76 yX2_meeting]
def wsX4_floatAt_r3 : List Cond := [Cond.instanceMethod yX2_meeting, Cond.selects RX2 yX2_meeting yX2_meeting, Cond.code yX2_meeting cX2_meeting 2 (some .int)]
def wsX4_floatAt : List Cond := .code yX4_floatAt cX4_floatAt 3 (some .int) :: ((wsX4_floatAt_r1 ++ (wsX4_floatAt_r2 ++ wsX4_floatAt_r3)) ++ wsX40 ++ wsX20 ++ (vx_atS RX4 66 "java/lang/IllegalArgumentException" ["java/lang/RuntimeException", "java/lang/Exception"]).filter goodWord ++ (vx_atS RX4 55 "java/lang/IndexOutOfBoundsException" ["java/lang/RuntimeException", "java/lang/Exception"]).filter goodWord)
def wsX4_trouble_r1 : List Cond := [Cond.classLink RX4 62 "java/lang/IllegalArgumentException", Cond.initialized "java/lang/IllegalArgumentException", Cond.fieldLink RX4 10 "FloatOrder" "parade" "LFloatOrder$Parade;", Cond.methodLink RX4 84 yX4_needFloat, Cond.instanceMethod yX4_needFloat, Cond.selects RX4 yX4_needFloat yX4_needFloat, Cond.initialized RX4, Cond.code yX4_needFloat cX4_needFloat 2 none, Cond.classLink RX4 51 "java/lang/IndexOutOfBoundsException", Cond.initialized "java/lang/IndexOutOfBoundsException", Cond.fieldLink RX4 48 "FloatOrder$Parade" "floats" "I", Cond.methodLink RX4 187 yX2_troubleBy, Cond.instanceMethod yX2_troubleBy, Cond.selects RX2 yX2_troubleBy yX2_troubleBy, Cond.initialized RX2, Cond.code yX2_troubleBy cX2_troubleBy 3 (some .int), Cond.methodLink RX2 70 yX2_shying, Cond.instanceMethod yX2_shying, Cond.selects RX2 yX2_shying yX2_shying, Cond.code yX2_shying cX2_shying 3 (some .int), Cond.fieldLink RX2 22 "FloatOrder$Parade" "masks" "[I", Cond.fieldLink RX2 15 "FloatOrder$Parade" "kinds" "[I", Cond.methodLink RX2 73 yX2_hearing, Cond.instanceMethod yX2_hearing]
def wsX4_trouble_r2 : List Cond := [Cond.selects RX2 yX2_hearing yX2_hearing, Cond.code yX2_hearing cX2_hearing 4 (some .int), Cond.fieldLink RX2 38 "FloatOrder$Parade" "settings" "[I", Cond.methodLink RX2 76 yX2_meeting, Cond.instanceMethod yX2_meeting, Cond.selects RX2 yX2_meeting yX2_meeting, Cond.code yX2_meeting cX2_meeting 2 (some .int)]
def wsX4_trouble : List Cond := .code yX4_trouble cX4_trouble 3 (some .int) :: ((wsX4_trouble_r1 ++ wsX4_trouble_r2) ++ wsX40 ++ wsX20 ++ (vx_atS RX4 66 "java/lang/IllegalArgumentException" ["java/lang/RuntimeException", "java/lang/Exception"]).filter goodWord ++ (vx_atS RX4 55 "java/lang/IndexOutOfBoundsException" ["java/lang/RuntimeException", "java/lang/Exception"]).filter goodWord)
def wsX4_comes_r1 : List Cond := [Cond.fieldLink RX4 10 "FloatOrder" "parade" "LFloatOrder$Parade;", Cond.fieldLink RX4 193 "FloatOrder$Parade" "came" "[I", Cond.fieldLink RX4 117 "FloatOrder$Parade" "bridges" "I", Cond.methodLink RX4 84 yX4_needFloat, Cond.instanceMethod yX4_needFloat, Cond.selects RX4 yX4_needFloat yX4_needFloat, Cond.initialized RX4, Cond.code yX4_needFloat cX4_needFloat 2 none, Cond.classLink RX4 51 "java/lang/IndexOutOfBoundsException", Cond.initialized "java/lang/IndexOutOfBoundsException", Cond.fieldLink RX4 48 "FloatOrder$Parade" "floats" "I", Cond.methodLink RX4 129 yX4_needBridge, Cond.instanceMethod yX4_needBridge, Cond.selects RX4 yX4_needBridge yX4_needBridge, Cond.code yX4_needBridge cX4_needBridge 2 none, Cond.methodLink RX4 190 yX2_travel, Cond.instanceMethod yX2_travel, Cond.selects RX2 yX2_travel yX2_travel, Cond.initialized RX2, Cond.code yX2_travel cX2_travel 8 none, Cond.fieldLink RX2 38 "FloatOrder$Parade" "settings" "[I", Cond.fieldLink RX2 29 "FloatOrder$Parade" "bridges" "I", Cond.fieldLink RX2 32 "FloatOrder$Parade" "distances" "[I", Cond.fieldLink RX2 44 "FloatOrder$Parade" "left" "[I"]
def wsX4_comes_r2 : List Cond := [Cond.methodLink RX2 64 Lib.Math.max.name, Cond.static Lib.Math.max.name, Cond.initialized "java/lang/Math", Cond.code Lib.Math.max.name Lib.Math.max.code 2 (some .int), Cond.fieldLink RX2 41 "FloatOrder$Parade" "came" "[I", Cond.fieldLink RX2 35 "FloatOrder$Parade" "clearances" "[I", Cond.methodLink RX2 54 yX2_countedHeight, Cond.instanceMethod yX2_countedHeight, Cond.selects RX2 yX2_countedHeight yX2_countedHeight, Cond.code yX2_countedHeight cX2_countedHeight 3 (some .int), Cond.fieldLink RX2 25 "FloatOrder$Parade" "folded" "[Z", Cond.fieldLink RX2 19 "FloatOrder$Parade" "heights" "[I"]
def wsX4_comes : List Cond := .code yX4_comes cX4_comes 3 (some .int) :: ((wsX4_comes_r1 ++ wsX4_comes_r2) ++ wsX40 ++ wsX20 ++ (vx_atS RX4 55 "java/lang/IndexOutOfBoundsException" ["java/lang/RuntimeException", "java/lang/Exception"]).filter goodWord)
def wsX4_bridgeOf_r1 : List Cond := [Cond.classLink RX4 62 "java/lang/IllegalArgumentException", Cond.initialized "java/lang/IllegalArgumentException", Cond.fieldLink RX4 10 "FloatOrder" "parade" "LFloatOrder$Parade;", Cond.methodLink RX4 129 yX4_needBridge, Cond.instanceMethod yX4_needBridge, Cond.selects RX4 yX4_needBridge yX4_needBridge, Cond.initialized RX4, Cond.code yX4_needBridge cX4_needBridge 2 none, Cond.classLink RX4 51 "java/lang/IndexOutOfBoundsException", Cond.initialized "java/lang/IndexOutOfBoundsException", Cond.fieldLink RX4 117 "FloatOrder$Parade" "bridges" "I", Cond.methodLink RX4 198 yX2_bridgeProperty, Cond.instanceMethod yX2_bridgeProperty, Cond.selects RX2 yX2_bridgeProperty yX2_bridgeProperty, Cond.initialized RX2, Cond.code yX2_bridgeProperty cX2_bridgeProperty 3 (some .int), Cond.fieldLink RX2 32 "FloatOrder$Parade" "distances" "[I", Cond.fieldLink RX2 35 "FloatOrder$Parade" "clearances" "[I", Cond.methodLink RX2 79 yX2_floatsLoweredAt, Cond.instanceMethod yX2_floatsLoweredAt, Cond.selects RX2 yX2_floatsLoweredAt yX2_floatsLoweredAt, Cond.code yX2_floatsLoweredAt cX2_floatsLoweredAt 4 (some .int), Cond.fieldLink RX2 9 "FloatOrder$Parade" "floats" "I", Cond.methodLink RX2 82 yX2_isLowered]
def wsX4_bridgeOf_r2 : List Cond := [Cond.instanceMethod yX2_isLowered, Cond.selects RX2 yX2_isLowered yX2_isLowered, Cond.code yX2_isLowered cX2_isLowered 3 (some .boolean), Cond.methodLink RX2 54 yX2_countedHeight, Cond.instanceMethod yX2_countedHeight, Cond.selects RX2 yX2_countedHeight yX2_countedHeight, Cond.code yX2_countedHeight cX2_countedHeight 3 (some .int), Cond.fieldLink RX2 25 "FloatOrder$Parade" "folded" "[Z", Cond.fieldLink RX2 19 "FloatOrder$Parade" "heights" "[I"]
def wsX4_bridgeOf : List Cond := .code yX4_bridgeOf cX4_bridgeOf 3 (some .int) :: ((wsX4_bridgeOf_r1 ++ wsX4_bridgeOf_r2) ++ wsX40 ++ wsX20 ++ (vx_atS RX4 66 "java/lang/IllegalArgumentException" ["java/lang/RuntimeException", "java/lang/Exception"]).filter goodWord ++ (vx_atS RX4 55 "java/lang/IndexOutOfBoundsException" ["java/lang/RuntimeException", "java/lang/Exception"]).filter goodWord)
def wsX4_number_r1 : List Cond := [Cond.fieldLink RX4 10 "FloatOrder" "parade" "LFloatOrder$Parade;", Cond.fieldLink RX4 48 "FloatOrder$Parade" "floats" "I", Cond.fieldLink RX4 117 "FloatOrder$Parade" "bridges" "I", Cond.fieldLink RX4 22 "FloatOrder" "history" "LFloatOrder$History;", Cond.fieldLink RX4 172 "FloatOrder$History" "size" "I", Cond.methodLink RX4 91 yX2_allTrouble, Cond.instanceMethod yX2_allTrouble, Cond.selects RX2 yX2_allTrouble yX2_allTrouble, Cond.initialized RX2, Cond.code yX2_allTrouble cX2_allTrouble 3 (some .int), Cond.fieldLink RX2 9 "FloatOrder$Parade" "floats" "I", Cond.methodLink RX2 61 yX2_troubleAt, Cond.instanceMethod yX2_troubleAt, Cond.selects RX2 yX2_troubleAt yX2_troubleAt, Cond.code yX2_troubleAt cX2_troubleAt 2 (some .int), Cond.methodLink RX2 70 yX2_shying, Cond.instanceMethod yX2_shying, Cond.selects RX2 yX2_shying yX2_shying, Cond.code yX2_shying cX2_shying 3 (some .int), Cond.fieldLink RX2 22 "FloatOrder$Parade" "masks" "[I", Cond.fieldLink RX2 15 "FloatOrder$Parade" "kinds" "[I", Cond.methodLink RX2 73 yX2_hearing, Cond.instanceMethod yX2_hearing, Cond.selects RX2 yX2_hearing yX2_hearing]
def wsX4_number_r2 : List Cond := [Cond.code yX2_hearing cX2_hearing 4 (some .int), Cond.fieldLink RX2 38 "FloatOrder$Parade" "settings" "[I", Cond.methodLink RX2 76 yX2_meeting, Cond.instanceMethod yX2_meeting, Cond.selects RX2 yX2_meeting yX2_meeting, Cond.code yX2_meeting cX2_meeting 2 (some .int), Cond.methodLink RX4 211 yX2_end, Cond.instanceMethod yX2_end, Cond.selects RX2 yX2_end yX2_end, Cond.code yX2_end cX2_end 1 (some .int), Cond.fieldLink RX2 41 "FloatOrder$Parade" "came" "[I", Cond.fieldLink RX2 29 "FloatOrder$Parade" "bridges" "I", Cond.methodLink RX2 86 yX2_travel, Cond.instanceMethod yX2_travel, Cond.selects RX2 yX2_travel yX2_travel, Cond.code yX2_travel cX2_travel 8 none, Cond.fieldLink RX2 32 "FloatOrder$Parade" "distances" "[I", Cond.fieldLink RX2 44 "FloatOrder$Parade" "left" "[I", Cond.methodLink RX2 64 Lib.Math.max.name, Cond.static Lib.Math.max.name, Cond.initialized "java/lang/Math", Cond.code Lib.Math.max.name Lib.Math.max.code 2 (some .int), Cond.fieldLink RX2 35 "FloatOrder$Parade" "clearances" "[I", Cond.methodLink RX2 54 yX2_countedHeight]
def wsX4_number_r3 : List Cond := [Cond.instanceMethod yX2_countedHeight, Cond.selects RX2 yX2_countedHeight yX2_countedHeight, Cond.code yX2_countedHeight cX2_countedHeight 3 (some .int), Cond.fieldLink RX2 25 "FloatOrder$Parade" "folded" "[Z", Cond.fieldLink RX2 19 "FloatOrder$Parade" "heights" "[I", Cond.methodLink RX4 264 yX2_loweredFloats, Cond.instanceMethod yX2_loweredFloats, Cond.selects RX2 yX2_loweredFloats yX2_loweredFloats, Cond.code yX2_loweredFloats cX2_loweredFloats 3 (some .int), Cond.methodLink RX2 58 yX2_bridgesThatLower, Cond.instanceMethod yX2_bridgesThatLower, Cond.selects RX2 yX2_bridgesThatLower yX2_bridgesThatLower, Cond.code yX2_bridgesThatLower cX2_bridgesThatLower 4 (some .int), Cond.methodLink RX2 82 yX2_isLowered, Cond.instanceMethod yX2_isLowered, Cond.selects RX2 yX2_isLowered yX2_isLowered, Cond.code yX2_isLowered cX2_isLowered 3 (some .boolean), Cond.methodLink RX4 221 yX2_troubledFloats, Cond.instanceMethod yX2_troubledFloats, Cond.selects RX2 yX2_troubledFloats yX2_troubledFloats, Cond.code yX2_troubledFloats cX2_troubledFloats 3 (some .int), Cond.methodLink RX4 267 yX2_waiting, Cond.instanceMethod yX2_waiting, Cond.selects RX2 yX2_waiting yX2_waiting]
def wsX4_number_r4 : List Cond := [Cond.code yX2_waiting cX2_waiting 1 (some .int), Cond.methodLink RX2 90 yX2_end, Cond.methodLink RX4 270 yX2_greatestHeight, Cond.instanceMethod yX2_greatestHeight, Cond.selects RX2 yX2_greatestHeight yX2_greatestHeight, Cond.code yX2_greatestHeight cX2_greatestHeight 3 (some .int)]
def wsX4_number : List Cond := .code yX4_number cX4_number 2 (some .int) :: ((wsX4_number_r1 ++ (wsX4_number_r2 ++ (wsX4_number_r3 ++ wsX4_number_r4))) ++ wsX40 ++ wsX20 ++ wsX10)
def wsX4_count_r1 : List Cond := [Cond.classLink RX4 62 "java/lang/IllegalArgumentException", Cond.initialized "java/lang/IllegalArgumentException", Cond.methodLink RX4 203 yX4_number, Cond.instanceMethod yX4_number, Cond.selects RX4 yX4_number yX4_number, Cond.initialized RX4, Cond.code yX4_number cX4_number 2 (some .int), Cond.fieldLink RX4 10 "FloatOrder" "parade" "LFloatOrder$Parade;", Cond.fieldLink RX4 48 "FloatOrder$Parade" "floats" "I", Cond.fieldLink RX4 117 "FloatOrder$Parade" "bridges" "I", Cond.fieldLink RX4 22 "FloatOrder" "history" "LFloatOrder$History;", Cond.fieldLink RX4 172 "FloatOrder$History" "size" "I", Cond.methodLink RX4 91 yX2_allTrouble, Cond.instanceMethod yX2_allTrouble, Cond.selects RX2 yX2_allTrouble yX2_allTrouble, Cond.initialized RX2, Cond.code yX2_allTrouble cX2_allTrouble 3 (some .int), Cond.fieldLink RX2 9 "FloatOrder$Parade" "floats" "I", Cond.methodLink RX2 61 yX2_troubleAt, Cond.instanceMethod yX2_troubleAt, Cond.selects RX2 yX2_troubleAt yX2_troubleAt, Cond.code yX2_troubleAt cX2_troubleAt 2 (some .int), Cond.methodLink RX2 70 yX2_shying, Cond.instanceMethod yX2_shying]
def wsX4_count_r2 : List Cond := [Cond.selects RX2 yX2_shying yX2_shying, Cond.code yX2_shying cX2_shying 3 (some .int), Cond.fieldLink RX2 22 "FloatOrder$Parade" "masks" "[I", Cond.fieldLink RX2 15 "FloatOrder$Parade" "kinds" "[I", Cond.methodLink RX2 73 yX2_hearing, Cond.instanceMethod yX2_hearing, Cond.selects RX2 yX2_hearing yX2_hearing, Cond.code yX2_hearing cX2_hearing 4 (some .int), Cond.fieldLink RX2 38 "FloatOrder$Parade" "settings" "[I", Cond.methodLink RX2 76 yX2_meeting, Cond.instanceMethod yX2_meeting, Cond.selects RX2 yX2_meeting yX2_meeting, Cond.code yX2_meeting cX2_meeting 2 (some .int), Cond.methodLink RX4 211 yX2_end, Cond.instanceMethod yX2_end, Cond.selects RX2 yX2_end yX2_end, Cond.code yX2_end cX2_end 1 (some .int), Cond.fieldLink RX2 41 "FloatOrder$Parade" "came" "[I", Cond.fieldLink RX2 29 "FloatOrder$Parade" "bridges" "I", Cond.methodLink RX2 86 yX2_travel, Cond.instanceMethod yX2_travel, Cond.selects RX2 yX2_travel yX2_travel, Cond.code yX2_travel cX2_travel 8 none, Cond.fieldLink RX2 32 "FloatOrder$Parade" "distances" "[I"]
def wsX4_count_r3 : List Cond := [Cond.fieldLink RX2 44 "FloatOrder$Parade" "left" "[I", Cond.methodLink RX2 64 Lib.Math.max.name, Cond.static Lib.Math.max.name, Cond.initialized "java/lang/Math", Cond.code Lib.Math.max.name Lib.Math.max.code 2 (some .int), Cond.fieldLink RX2 35 "FloatOrder$Parade" "clearances" "[I", Cond.methodLink RX2 54 yX2_countedHeight, Cond.instanceMethod yX2_countedHeight, Cond.selects RX2 yX2_countedHeight yX2_countedHeight, Cond.code yX2_countedHeight cX2_countedHeight 3 (some .int), Cond.fieldLink RX2 25 "FloatOrder$Parade" "folded" "[Z", Cond.fieldLink RX2 19 "FloatOrder$Parade" "heights" "[I", Cond.methodLink RX4 264 yX2_loweredFloats, Cond.instanceMethod yX2_loweredFloats, Cond.selects RX2 yX2_loweredFloats yX2_loweredFloats, Cond.code yX2_loweredFloats cX2_loweredFloats 3 (some .int), Cond.methodLink RX2 58 yX2_bridgesThatLower, Cond.instanceMethod yX2_bridgesThatLower, Cond.selects RX2 yX2_bridgesThatLower yX2_bridgesThatLower, Cond.code yX2_bridgesThatLower cX2_bridgesThatLower 4 (some .int), Cond.methodLink RX2 82 yX2_isLowered, Cond.instanceMethod yX2_isLowered, Cond.selects RX2 yX2_isLowered yX2_isLowered, Cond.code yX2_isLowered cX2_isLowered 3 (some .boolean)]
def wsX4_count_r4 : List Cond := [Cond.methodLink RX4 221 yX2_troubledFloats, Cond.instanceMethod yX2_troubledFloats, Cond.selects RX2 yX2_troubledFloats yX2_troubledFloats, Cond.code yX2_troubledFloats cX2_troubledFloats 3 (some .int), Cond.methodLink RX4 267 yX2_waiting, Cond.instanceMethod yX2_waiting, Cond.selects RX2 yX2_waiting yX2_waiting, Cond.code yX2_waiting cX2_waiting 1 (some .int), Cond.methodLink RX2 90 yX2_end, Cond.methodLink RX4 270 yX2_greatestHeight, Cond.instanceMethod yX2_greatestHeight, Cond.selects RX2 yX2_greatestHeight yX2_greatestHeight, Cond.code yX2_greatestHeight cX2_greatestHeight 3 (some .int)]
def wsX4_count : List Cond := .code yX4_count cX4_count 2 (some .int) :: ((wsX4_count_r1 ++ (wsX4_count_r2 ++ (wsX4_count_r3 ++ wsX4_count_r4))) ++ wsX40 ++ wsX20 ++ wsX10 ++ (vx_atS RX4 66 "java/lang/IllegalArgumentException" ["java/lang/RuntimeException", "java/lang/Exception"]).filter goodWord)
def wsX4_setting : List Cond := .code yX4_setting cX4_setting 2 (some .int) :: ([.fieldLink RX4 10 "FloatOrder" "parade" "LFloatOrder$Parade;", .fieldLink RX4 149 "FloatOrder$Parade" "settings" "[I", .methodLink RX4 138 yX4_needSetting, .static yX4_needSetting, .initialized RX4, .code yX4_needSetting cX4_needSetting 1 none, .classLink RX4 51 "java/lang/IndexOutOfBoundsException", .initialized "java/lang/IndexOutOfBoundsException"] ++ wsX40 ++ wsX20 ++ (vx_atS RX4 55 "java/lang/IndexOutOfBoundsException" ["java/lang/RuntimeException", "java/lang/Exception"]).filter goodWord)
def wsX4_ifMoved_r1 : List Cond := [Cond.classLink RX4 62 "java/lang/IllegalArgumentException", Cond.initialized "java/lang/IllegalArgumentException", Cond.fieldLink RX4 16 "FloatOrder" "trial" "LFloatOrder$Parade;", Cond.fieldLink RX4 10 "FloatOrder" "parade" "LFloatOrder$Parade;", Cond.methodLink RX4 84 yX4_needFloat, Cond.instanceMethod yX4_needFloat, Cond.selects RX4 yX4_needFloat yX4_needFloat, Cond.initialized RX4, Cond.code yX4_needFloat cX4_needFloat 2 none, Cond.classLink RX4 51 "java/lang/IndexOutOfBoundsException", Cond.initialized "java/lang/IndexOutOfBoundsException", Cond.fieldLink RX4 48 "FloatOrder$Parade" "floats" "I", Cond.methodLink RX4 208 yX2_copyFrom, Cond.instanceMethod yX2_copyFrom, Cond.selects RX2 yX2_copyFrom yX2_copyFrom, Cond.initialized RX2, Cond.code yX2_copyFrom cX2_copyFrom 3 none, Cond.fieldLink RX2 9 "FloatOrder$Parade" "floats" "I", Cond.fieldLink RX2 15 "FloatOrder$Parade" "kinds" "[I", Cond.fieldLink RX2 19 "FloatOrder$Parade" "heights" "[I", Cond.fieldLink RX2 22 "FloatOrder$Parade" "masks" "[I", Cond.fieldLink RX2 25 "FloatOrder$Parade" "folded" "[Z", Cond.fieldLink RX2 29 "FloatOrder$Parade" "bridges" "I", Cond.fieldLink RX2 32 "FloatOrder$Parade" "distances" "[I"]
def wsX4_ifMoved_r2 : List Cond := [Cond.fieldLink RX2 35 "FloatOrder$Parade" "clearances" "[I", Cond.fieldLink RX2 38 "FloatOrder$Parade" "settings" "[I", Cond.methodLink RX4 80 yX2_shift, Cond.instanceMethod yX2_shift, Cond.selects RX2 yX2_shift yX2_shift, Cond.code yX2_shift cX2_shift 4 none, Cond.methodLink RX2 51 yX2_swap, Cond.instanceMethod yX2_swap, Cond.selects RX2 yX2_swap yX2_swap, Cond.code yX2_swap cX2_swap 7 none, Cond.methodLink RX4 91 yX2_allTrouble, Cond.instanceMethod yX2_allTrouble, Cond.selects RX2 yX2_allTrouble yX2_allTrouble, Cond.code yX2_allTrouble cX2_allTrouble 3 (some .int), Cond.methodLink RX2 61 yX2_troubleAt, Cond.instanceMethod yX2_troubleAt, Cond.selects RX2 yX2_troubleAt yX2_troubleAt, Cond.code yX2_troubleAt cX2_troubleAt 2 (some .int), Cond.methodLink RX2 70 yX2_shying, Cond.instanceMethod yX2_shying, Cond.selects RX2 yX2_shying yX2_shying, Cond.code yX2_shying cX2_shying 3 (some .int), Cond.methodLink RX2 73 yX2_hearing, Cond.instanceMethod yX2_hearing]
def wsX4_ifMoved_r3 : List Cond := [Cond.selects RX2 yX2_hearing yX2_hearing, Cond.code yX2_hearing cX2_hearing 4 (some .int), Cond.methodLink RX2 76 yX2_meeting, Cond.instanceMethod yX2_meeting, Cond.selects RX2 yX2_meeting yX2_meeting, Cond.code yX2_meeting cX2_meeting 2 (some .int), Cond.methodLink RX4 211 yX2_end, Cond.instanceMethod yX2_end, Cond.selects RX2 yX2_end yX2_end, Cond.code yX2_end cX2_end 1 (some .int), Cond.fieldLink RX2 41 "FloatOrder$Parade" "came" "[I", Cond.methodLink RX2 86 yX2_travel, Cond.instanceMethod yX2_travel, Cond.selects RX2 yX2_travel yX2_travel, Cond.code yX2_travel cX2_travel 8 none, Cond.fieldLink RX2 44 "FloatOrder$Parade" "left" "[I", Cond.methodLink RX2 64 Lib.Math.max.name, Cond.static Lib.Math.max.name, Cond.initialized "java/lang/Math", Cond.code Lib.Math.max.name Lib.Math.max.code 2 (some .int), Cond.methodLink RX2 54 yX2_countedHeight, Cond.instanceMethod yX2_countedHeight, Cond.selects RX2 yX2_countedHeight yX2_countedHeight, Cond.code yX2_countedHeight cX2_countedHeight 3 (some .int)]
def wsX4_ifMoved : List Cond := .code yX4_ifMoved cX4_ifMoved 4 (some .int) :: ((wsX4_ifMoved_r1 ++ (wsX4_ifMoved_r2 ++ wsX4_ifMoved_r3)) ++ wsX40 ++ wsX20 ++ (vx_atS RX4 66 "java/lang/IllegalArgumentException" ["java/lang/RuntimeException", "java/lang/Exception"]).filter goodWord ++ (vx_atS RX4 55 "java/lang/IndexOutOfBoundsException" ["java/lang/RuntimeException", "java/lang/Exception"]).filter goodWord)
def wsX4_placeOfLeast_r1 : List Cond := [Cond.fieldLink RX4 16 "FloatOrder" "trial" "LFloatOrder$Parade;", Cond.fieldLink RX4 10 "FloatOrder" "parade" "LFloatOrder$Parade;", Cond.fieldLink RX4 29 "FloatOrder" "best" "LFloatOrder$Best;", Cond.fieldLink RX4 48 "FloatOrder$Parade" "floats" "I", Cond.methodLink RX4 208 yX2_copyFrom, Cond.instanceMethod yX2_copyFrom, Cond.selects RX2 yX2_copyFrom yX2_copyFrom, Cond.initialized RX2, Cond.code yX2_copyFrom cX2_copyFrom 3 none, Cond.fieldLink RX2 9 "FloatOrder$Parade" "floats" "I", Cond.fieldLink RX2 15 "FloatOrder$Parade" "kinds" "[I", Cond.fieldLink RX2 19 "FloatOrder$Parade" "heights" "[I", Cond.fieldLink RX2 22 "FloatOrder$Parade" "masks" "[I", Cond.fieldLink RX2 25 "FloatOrder$Parade" "folded" "[Z", Cond.fieldLink RX2 29 "FloatOrder$Parade" "bridges" "I", Cond.fieldLink RX2 32 "FloatOrder$Parade" "distances" "[I", Cond.fieldLink RX2 35 "FloatOrder$Parade" "clearances" "[I", Cond.fieldLink RX2 38 "FloatOrder$Parade" "settings" "[I", Cond.methodLink RX4 80 yX2_shift, Cond.instanceMethod yX2_shift, Cond.selects RX2 yX2_shift yX2_shift, Cond.code yX2_shift cX2_shift 4 none, Cond.methodLink RX2 51 yX2_swap, Cond.instanceMethod yX2_swap]
def wsX4_placeOfLeast_r2 : List Cond := [Cond.selects RX2 yX2_swap yX2_swap, Cond.code yX2_swap cX2_swap 7 none, Cond.methodLink RX4 254 yX0_startAt, Cond.instanceMethod yX0_startAt, Cond.selects RX0 yX0_startAt yX0_startAt, Cond.initialized RX0, Cond.code yX0_startAt cX0_startAt 2 none, Cond.fieldLink RX0 7 "FloatOrder$Best" "leastTrouble" "I", Cond.fieldLink RX0 13 "FloatOrder$Best" "leastEnd" "I", Cond.methodLink RX0 16 yX2_allTrouble, Cond.instanceMethod yX2_allTrouble, Cond.selects RX2 yX2_allTrouble yX2_allTrouble, Cond.code yX2_allTrouble cX2_allTrouble 3 (some .int), Cond.methodLink RX2 61 yX2_troubleAt, Cond.instanceMethod yX2_troubleAt, Cond.selects RX2 yX2_troubleAt yX2_troubleAt, Cond.code yX2_troubleAt cX2_troubleAt 2 (some .int), Cond.methodLink RX2 70 yX2_shying, Cond.instanceMethod yX2_shying, Cond.selects RX2 yX2_shying yX2_shying, Cond.code yX2_shying cX2_shying 3 (some .int), Cond.methodLink RX2 73 yX2_hearing, Cond.instanceMethod yX2_hearing, Cond.selects RX2 yX2_hearing yX2_hearing]
def wsX4_placeOfLeast_r3 : List Cond := [Cond.code yX2_hearing cX2_hearing 4 (some .int), Cond.methodLink RX2 76 yX2_meeting, Cond.instanceMethod yX2_meeting, Cond.selects RX2 yX2_meeting yX2_meeting, Cond.code yX2_meeting cX2_meeting 2 (some .int), Cond.methodLink RX0 22 yX2_end, Cond.instanceMethod yX2_end, Cond.selects RX2 yX2_end yX2_end, Cond.code yX2_end cX2_end 1 (some .int), Cond.fieldLink RX2 41 "FloatOrder$Parade" "came" "[I", Cond.methodLink RX2 86 yX2_travel, Cond.instanceMethod yX2_travel, Cond.selects RX2 yX2_travel yX2_travel, Cond.code yX2_travel cX2_travel 8 none, Cond.fieldLink RX2 44 "FloatOrder$Parade" "left" "[I", Cond.methodLink RX2 64 Lib.Math.max.name, Cond.static Lib.Math.max.name, Cond.initialized "java/lang/Math", Cond.code Lib.Math.max.name Lib.Math.max.code 2 (some .int), Cond.methodLink RX2 54 yX2_countedHeight, Cond.instanceMethod yX2_countedHeight, Cond.selects RX2 yX2_countedHeight yX2_countedHeight, Cond.code yX2_countedHeight cX2_countedHeight 3 (some .int), Cond.methodLink RX4 95 yX2_swap]
def wsX4_placeOfLeast_r4 : List Cond := [Cond.methodLink RX4 257 yX0_isBeatenBy, Cond.instanceMethod yX0_isBeatenBy, Cond.selects RX0 yX0_isBeatenBy yX0_isBeatenBy, Cond.code yX0_isBeatenBy cX0_isBeatenBy 4 (some .boolean)]
def wsX4_placeOfLeast : List Cond := .code yX4_placeOfLeast cX4_placeOfLeast 4 (some .int) :: ((wsX4_placeOfLeast_r1 ++ (wsX4_placeOfLeast_r2 ++ (wsX4_placeOfLeast_r3 ++ wsX4_placeOfLeast_r4))) ++ wsX40 ++ wsX20 ++ wsX00)
def wsX4_bestPlace_r1 : List Cond := [Cond.methodLink RX4 84 yX4_needFloat, Cond.instanceMethod yX4_needFloat, Cond.selects RX4 yX4_needFloat yX4_needFloat, Cond.initialized RX4, Cond.code yX4_needFloat cX4_needFloat 2 none, Cond.classLink RX4 51 "java/lang/IndexOutOfBoundsException", Cond.initialized "java/lang/IndexOutOfBoundsException", Cond.fieldLink RX4 10 "FloatOrder" "parade" "LFloatOrder$Parade;", Cond.fieldLink RX4 48 "FloatOrder$Parade" "floats" "I", Cond.methodLink RX4 214 yX4_placeOfLeast, Cond.instanceMethod yX4_placeOfLeast, Cond.selects RX4 yX4_placeOfLeast yX4_placeOfLeast, Cond.code yX4_placeOfLeast cX4_placeOfLeast 4 (some .int), Cond.fieldLink RX4 16 "FloatOrder" "trial" "LFloatOrder$Parade;", Cond.fieldLink RX4 29 "FloatOrder" "best" "LFloatOrder$Best;", Cond.methodLink RX4 208 yX2_copyFrom, Cond.instanceMethod yX2_copyFrom, Cond.selects RX2 yX2_copyFrom yX2_copyFrom, Cond.initialized RX2, Cond.code yX2_copyFrom cX2_copyFrom 3 none, Cond.fieldLink RX2 9 "FloatOrder$Parade" "floats" "I", Cond.fieldLink RX2 15 "FloatOrder$Parade" "kinds" "[I", Cond.fieldLink RX2 19 "FloatOrder$Parade" "heights" "[I", Cond.fieldLink RX2 22 "FloatOrder$Parade" "masks" "[I"]
def wsX4_bestPlace_r2 : List Cond := [Cond.fieldLink RX2 25 "FloatOrder$Parade" "folded" "[Z", Cond.fieldLink RX2 29 "FloatOrder$Parade" "bridges" "I", Cond.fieldLink RX2 32 "FloatOrder$Parade" "distances" "[I", Cond.fieldLink RX2 35 "FloatOrder$Parade" "clearances" "[I", Cond.fieldLink RX2 38 "FloatOrder$Parade" "settings" "[I", Cond.methodLink RX4 80 yX2_shift, Cond.instanceMethod yX2_shift, Cond.selects RX2 yX2_shift yX2_shift, Cond.code yX2_shift cX2_shift 4 none, Cond.methodLink RX2 51 yX2_swap, Cond.instanceMethod yX2_swap, Cond.selects RX2 yX2_swap yX2_swap, Cond.code yX2_swap cX2_swap 7 none, Cond.methodLink RX4 254 yX0_startAt, Cond.instanceMethod yX0_startAt, Cond.selects RX0 yX0_startAt yX0_startAt, Cond.initialized RX0, Cond.code yX0_startAt cX0_startAt 2 none, Cond.fieldLink RX0 7 "FloatOrder$Best" "leastTrouble" "I", Cond.fieldLink RX0 13 "FloatOrder$Best" "leastEnd" "I", Cond.methodLink RX0 16 yX2_allTrouble, Cond.instanceMethod yX2_allTrouble, Cond.selects RX2 yX2_allTrouble yX2_allTrouble, Cond.code yX2_allTrouble cX2_allTrouble 3 (some .int)]
def wsX4_bestPlace_r3 : List Cond := [Cond.methodLink RX2 61 yX2_troubleAt, Cond.instanceMethod yX2_troubleAt, Cond.selects RX2 yX2_troubleAt yX2_troubleAt, Cond.code yX2_troubleAt cX2_troubleAt 2 (some .int), Cond.methodLink RX2 70 yX2_shying, Cond.instanceMethod yX2_shying, Cond.selects RX2 yX2_shying yX2_shying, Cond.code yX2_shying cX2_shying 3 (some .int), Cond.methodLink RX2 73 yX2_hearing, Cond.instanceMethod yX2_hearing, Cond.selects RX2 yX2_hearing yX2_hearing, Cond.code yX2_hearing cX2_hearing 4 (some .int), Cond.methodLink RX2 76 yX2_meeting, Cond.instanceMethod yX2_meeting, Cond.selects RX2 yX2_meeting yX2_meeting, Cond.code yX2_meeting cX2_meeting 2 (some .int), Cond.methodLink RX0 22 yX2_end, Cond.instanceMethod yX2_end, Cond.selects RX2 yX2_end yX2_end, Cond.code yX2_end cX2_end 1 (some .int), Cond.fieldLink RX2 41 "FloatOrder$Parade" "came" "[I", Cond.methodLink RX2 86 yX2_travel, Cond.instanceMethod yX2_travel, Cond.selects RX2 yX2_travel yX2_travel]
def wsX4_bestPlace_r4 : List Cond := [Cond.code yX2_travel cX2_travel 8 none, Cond.fieldLink RX2 44 "FloatOrder$Parade" "left" "[I", Cond.methodLink RX2 64 Lib.Math.max.name, Cond.static Lib.Math.max.name, Cond.initialized "java/lang/Math", Cond.code Lib.Math.max.name Lib.Math.max.code 2 (some .int), Cond.methodLink RX2 54 yX2_countedHeight, Cond.instanceMethod yX2_countedHeight, Cond.selects RX2 yX2_countedHeight yX2_countedHeight, Cond.code yX2_countedHeight cX2_countedHeight 3 (some .int), Cond.methodLink RX4 95 yX2_swap, Cond.methodLink RX4 257 yX0_isBeatenBy, Cond.instanceMethod yX0_isBeatenBy, Cond.selects RX0 yX0_isBeatenBy yX0_isBeatenBy, Cond.code yX0_isBeatenBy cX0_isBeatenBy 4 (some .boolean)]
def wsX4_bestPlace : List Cond := .code yX4_bestPlace cX4_bestPlace 2 (some .int) :: ((wsX4_bestPlace_r1 ++ (wsX4_bestPlace_r2 ++ (wsX4_bestPlace_r3 ++ wsX4_bestPlace_r4))) ++ wsX40 ++ wsX20 ++ wsX00 ++ (vx_atS RX4 55 "java/lang/IndexOutOfBoundsException" ["java/lang/RuntimeException", "java/lang/Exception"]).filter goodWord)
def wsX4_bestFold_r1 : List Cond := [Cond.fieldLink RX4 16 "FloatOrder" "trial" "LFloatOrder$Parade;", Cond.fieldLink RX4 10 "FloatOrder" "parade" "LFloatOrder$Parade;", Cond.fieldLink RX4 48 "FloatOrder$Parade" "floats" "I", Cond.fieldLink RX4 98 "FloatOrder$Parade" "folded" "[Z", Cond.methodLink RX4 208 yX2_copyFrom, Cond.instanceMethod yX2_copyFrom, Cond.selects RX2 yX2_copyFrom yX2_copyFrom, Cond.initialized RX2, Cond.code yX2_copyFrom cX2_copyFrom 3 none, Cond.fieldLink RX2 9 "FloatOrder$Parade" "floats" "I", Cond.fieldLink RX2 15 "FloatOrder$Parade" "kinds" "[I", Cond.fieldLink RX2 19 "FloatOrder$Parade" "heights" "[I", Cond.fieldLink RX2 22 "FloatOrder$Parade" "masks" "[I", Cond.fieldLink RX2 25 "FloatOrder$Parade" "folded" "[Z", Cond.fieldLink RX2 29 "FloatOrder$Parade" "bridges" "I", Cond.fieldLink RX2 32 "FloatOrder$Parade" "distances" "[I", Cond.fieldLink RX2 35 "FloatOrder$Parade" "clearances" "[I", Cond.fieldLink RX2 38 "FloatOrder$Parade" "settings" "[I", Cond.methodLink RX4 211 yX2_end, Cond.instanceMethod yX2_end, Cond.selects RX2 yX2_end yX2_end, Cond.code yX2_end cX2_end 1 (some .int), Cond.fieldLink RX2 41 "FloatOrder$Parade" "came" "[I", Cond.methodLink RX2 86 yX2_travel]
def wsX4_bestFold_r2 : List Cond := [Cond.instanceMethod yX2_travel, Cond.selects RX2 yX2_travel yX2_travel, Cond.code yX2_travel cX2_travel 8 none, Cond.fieldLink RX2 44 "FloatOrder$Parade" "left" "[I", Cond.methodLink RX2 64 Lib.Math.max.name, Cond.static Lib.Math.max.name, Cond.initialized "java/lang/Math", Cond.code Lib.Math.max.name Lib.Math.max.code 2 (some .int), Cond.methodLink RX2 54 yX2_countedHeight, Cond.instanceMethod yX2_countedHeight, Cond.selects RX2 yX2_countedHeight yX2_countedHeight, Cond.code yX2_countedHeight cX2_countedHeight 3 (some .int)]
def wsX4_bestFold : List Cond := .code yX4_bestFold cX4_bestFold 5 (some .int) :: ((wsX4_bestFold_r1 ++ wsX4_bestFold_r2) ++ wsX40 ++ wsX20)
def wsX4_leastFrom_r1 : List Cond := [Cond.fieldLink RX4 48 "FloatOrder$Parade" "floats" "I", Cond.methodLink RX4 95 yX2_swap, Cond.instanceMethod yX2_swap, Cond.selects RX2 yX2_swap yX2_swap, Cond.initialized RX2, Cond.code yX2_swap cX2_swap 7 none, Cond.fieldLink RX2 15 "FloatOrder$Parade" "kinds" "[I", Cond.fieldLink RX2 19 "FloatOrder$Parade" "heights" "[I", Cond.fieldLink RX2 22 "FloatOrder$Parade" "masks" "[I", Cond.fieldLink RX2 25 "FloatOrder$Parade" "folded" "[Z", Cond.methodLink RX4 261 yX2_troubleAt, Cond.instanceMethod yX2_troubleAt, Cond.selects RX2 yX2_troubleAt yX2_troubleAt, Cond.code yX2_troubleAt cX2_troubleAt 2 (some .int), Cond.methodLink RX2 70 yX2_shying, Cond.instanceMethod yX2_shying, Cond.selects RX2 yX2_shying yX2_shying, Cond.code yX2_shying cX2_shying 3 (some .int), Cond.methodLink RX2 73 yX2_hearing, Cond.instanceMethod yX2_hearing, Cond.selects RX2 yX2_hearing yX2_hearing, Cond.code yX2_hearing cX2_hearing 4 (some .int), Cond.fieldLink RX2 38 "FloatOrder$Parade" "settings" "[I", Cond.methodLink RX2 76 yX2_meeting]
def wsX4_leastFrom_r2 : List Cond := [Cond.instanceMethod yX2_meeting, Cond.selects RX2 yX2_meeting yX2_meeting, Cond.code yX2_meeting cX2_meeting 2 (some .int), Cond.methodLink RX4 217 yX4_leastFrom, Cond.static yX4_leastFrom, Cond.initialized RX4]
def wsX4_leastFrom : List Cond := .code yX4_leastFrom cX4_leastFrom 6 (some .int) :: ((wsX4_leastFrom_r1 ++ wsX4_leastFrom_r2) ++ wsX20)
def wsX4_leastTrouble_r1 : List Cond := [Cond.fieldLink RX4 10 "FloatOrder" "parade" "LFloatOrder$Parade;", Cond.fieldLink RX4 48 "FloatOrder$Parade" "floats" "I", Cond.fieldLink RX4 16 "FloatOrder" "trial" "LFloatOrder$Parade;", Cond.methodLink RX4 208 yX2_copyFrom, Cond.instanceMethod yX2_copyFrom, Cond.selects RX2 yX2_copyFrom yX2_copyFrom, Cond.initialized RX2, Cond.code yX2_copyFrom cX2_copyFrom 3 none, Cond.fieldLink RX2 9 "FloatOrder$Parade" "floats" "I", Cond.fieldLink RX2 15 "FloatOrder$Parade" "kinds" "[I", Cond.fieldLink RX2 19 "FloatOrder$Parade" "heights" "[I", Cond.fieldLink RX2 22 "FloatOrder$Parade" "masks" "[I", Cond.fieldLink RX2 25 "FloatOrder$Parade" "folded" "[Z", Cond.fieldLink RX2 29 "FloatOrder$Parade" "bridges" "I", Cond.fieldLink RX2 32 "FloatOrder$Parade" "distances" "[I", Cond.fieldLink RX2 35 "FloatOrder$Parade" "clearances" "[I", Cond.fieldLink RX2 38 "FloatOrder$Parade" "settings" "[I", Cond.methodLink RX4 91 yX2_allTrouble, Cond.instanceMethod yX2_allTrouble, Cond.selects RX2 yX2_allTrouble yX2_allTrouble, Cond.code yX2_allTrouble cX2_allTrouble 3 (some .int), Cond.methodLink RX2 61 yX2_troubleAt, Cond.instanceMethod yX2_troubleAt, Cond.selects RX2 yX2_troubleAt yX2_troubleAt]
def wsX4_leastTrouble_r2 : List Cond := [Cond.code yX2_troubleAt cX2_troubleAt 2 (some .int), Cond.methodLink RX2 70 yX2_shying, Cond.instanceMethod yX2_shying, Cond.selects RX2 yX2_shying yX2_shying, Cond.code yX2_shying cX2_shying 3 (some .int), Cond.methodLink RX2 73 yX2_hearing, Cond.instanceMethod yX2_hearing, Cond.selects RX2 yX2_hearing yX2_hearing, Cond.code yX2_hearing cX2_hearing 4 (some .int), Cond.methodLink RX2 76 yX2_meeting, Cond.instanceMethod yX2_meeting, Cond.selects RX2 yX2_meeting yX2_meeting, Cond.code yX2_meeting cX2_meeting 2 (some .int), Cond.methodLink RX4 217 yX4_leastFrom, Cond.static yX4_leastFrom, Cond.initialized RX4, Cond.code yX4_leastFrom cX4_leastFrom 6 (some .int), Cond.methodLink RX4 95 yX2_swap, Cond.instanceMethod yX2_swap, Cond.selects RX2 yX2_swap yX2_swap, Cond.code yX2_swap cX2_swap 7 none, Cond.methodLink RX4 261 yX2_troubleAt]
def wsX4_leastTrouble : List Cond := .code yX4_leastTrouble cX4_leastTrouble 1 (some .int) :: ((wsX4_leastTrouble_r1 ++ wsX4_leastTrouble_r2) ++ wsX40 ++ wsX20)
def wsX4_smoothness_r1 : List Cond := [Cond.fieldLink RX4 10 "FloatOrder" "parade" "LFloatOrder$Parade;", Cond.fieldLink RX4 48 "FloatOrder$Parade" "floats" "I", Cond.methodLink RX4 221 yX2_troubledFloats, Cond.instanceMethod yX2_troubledFloats, Cond.selects RX2 yX2_troubledFloats yX2_troubledFloats, Cond.initialized RX2, Cond.code yX2_troubledFloats cX2_troubledFloats 3 (some .int), Cond.fieldLink RX2 9 "FloatOrder$Parade" "floats" "I", Cond.methodLink RX2 61 yX2_troubleAt, Cond.instanceMethod yX2_troubleAt, Cond.selects RX2 yX2_troubleAt yX2_troubleAt, Cond.code yX2_troubleAt cX2_troubleAt 2 (some .int), Cond.methodLink RX2 70 yX2_shying, Cond.instanceMethod yX2_shying, Cond.selects RX2 yX2_shying yX2_shying, Cond.code yX2_shying cX2_shying 3 (some .int), Cond.fieldLink RX2 22 "FloatOrder$Parade" "masks" "[I", Cond.fieldLink RX2 15 "FloatOrder$Parade" "kinds" "[I", Cond.methodLink RX2 73 yX2_hearing, Cond.instanceMethod yX2_hearing, Cond.selects RX2 yX2_hearing yX2_hearing, Cond.code yX2_hearing cX2_hearing 4 (some .int), Cond.fieldLink RX2 38 "FloatOrder$Parade" "settings" "[I", Cond.methodLink RX2 76 yX2_meeting]
def wsX4_smoothness_r2 : List Cond := [Cond.instanceMethod yX2_meeting, Cond.selects RX2 yX2_meeting yX2_meeting, Cond.code yX2_meeting cX2_meeting 2 (some .int)]
def wsX4_smoothness : List Cond := .code yX4_smoothness cX4_smoothness 1 (some .double) :: ((wsX4_smoothness_r1 ++ wsX4_smoothness_r2) ++ wsX40 ++ wsX20)
def wsX4_mixed : List Cond := .code yX4_mixed cX4_mixed 4 (some .long) :: ([.constantLong RX4 288 (31)])
def wsX4_withFloat_r1 : List Cond := [Cond.fieldLink RX4 10 "FloatOrder" "parade" "LFloatOrder$Parade;", Cond.fieldLink RX4 117 "FloatOrder$Parade" "bridges" "I", Cond.fieldLink RX4 193 "FloatOrder$Parade" "came" "[I", Cond.methodLink RX4 182 yX2_floatProperty, Cond.instanceMethod yX2_floatProperty, Cond.selects RX2 yX2_floatProperty yX2_floatProperty, Cond.initialized RX2, Cond.code yX2_floatProperty cX2_floatProperty 3 (some .int), Cond.fieldLink RX2 15 "FloatOrder$Parade" "kinds" "[I", Cond.fieldLink RX2 19 "FloatOrder$Parade" "heights" "[I", Cond.fieldLink RX2 22 "FloatOrder$Parade" "masks" "[I", Cond.fieldLink RX2 25 "FloatOrder$Parade" "folded" "[Z", Cond.methodLink RX2 54 yX2_countedHeight, Cond.instanceMethod yX2_countedHeight, Cond.selects RX2 yX2_countedHeight yX2_countedHeight, Cond.code yX2_countedHeight cX2_countedHeight 3 (some .int), Cond.methodLink RX2 58 yX2_bridgesThatLower, Cond.instanceMethod yX2_bridgesThatLower, Cond.selects RX2 yX2_bridgesThatLower yX2_bridgesThatLower, Cond.code yX2_bridgesThatLower cX2_bridgesThatLower 4 (some .int), Cond.fieldLink RX2 29 "FloatOrder$Parade" "bridges" "I", Cond.methodLink RX2 82 yX2_isLowered, Cond.instanceMethod yX2_isLowered, Cond.selects RX2 yX2_isLowered yX2_isLowered]
def wsX4_withFloat_r2 : List Cond := [Cond.code yX2_isLowered cX2_isLowered 3 (some .boolean), Cond.fieldLink RX2 35 "FloatOrder$Parade" "clearances" "[I", Cond.methodLink RX2 61 yX2_troubleAt, Cond.instanceMethod yX2_troubleAt, Cond.selects RX2 yX2_troubleAt yX2_troubleAt, Cond.code yX2_troubleAt cX2_troubleAt 2 (some .int), Cond.methodLink RX2 70 yX2_shying, Cond.instanceMethod yX2_shying, Cond.selects RX2 yX2_shying yX2_shying, Cond.code yX2_shying cX2_shying 3 (some .int), Cond.methodLink RX2 73 yX2_hearing, Cond.instanceMethod yX2_hearing, Cond.selects RX2 yX2_hearing yX2_hearing, Cond.code yX2_hearing cX2_hearing 4 (some .int), Cond.fieldLink RX2 38 "FloatOrder$Parade" "settings" "[I", Cond.methodLink RX2 76 yX2_meeting, Cond.instanceMethod yX2_meeting, Cond.selects RX2 yX2_meeting yX2_meeting, Cond.code yX2_meeting cX2_meeting 2 (some .int), Cond.methodLink RX4 226 yX4_mixed, Cond.static yX4_mixed, Cond.initialized RX4, Cond.code yX4_mixed cX4_mixed 4 (some .long), Cond.constantLong RX4 288 (31)]
def wsX4_withFloat_r3 : List Cond := [Cond.methodLink RX4 187 yX2_troubleBy, Cond.instanceMethod yX2_troubleBy, Cond.selects RX2 yX2_troubleBy yX2_troubleBy, Cond.code yX2_troubleBy cX2_troubleBy 3 (some .int), Cond.methodLink RX4 190 yX2_travel, Cond.instanceMethod yX2_travel, Cond.selects RX2 yX2_travel yX2_travel, Cond.code yX2_travel cX2_travel 8 none, Cond.fieldLink RX2 32 "FloatOrder$Parade" "distances" "[I", Cond.fieldLink RX2 44 "FloatOrder$Parade" "left" "[I", Cond.methodLink RX2 64 Lib.Math.max.name, Cond.static Lib.Math.max.name, Cond.initialized "java/lang/Math", Cond.code Lib.Math.max.name Lib.Math.max.code 2 (some .int), Cond.fieldLink RX2 41 "FloatOrder$Parade" "came" "[I", Cond.methodLink RX4 214 yX4_placeOfLeast, Cond.instanceMethod yX4_placeOfLeast, Cond.selects RX4 yX4_placeOfLeast yX4_placeOfLeast, Cond.code yX4_placeOfLeast cX4_placeOfLeast 4 (some .int), Cond.fieldLink RX4 16 "FloatOrder" "trial" "LFloatOrder$Parade;", Cond.fieldLink RX4 29 "FloatOrder" "best" "LFloatOrder$Best;", Cond.fieldLink RX4 48 "FloatOrder$Parade" "floats" "I", Cond.methodLink RX4 208 yX2_copyFrom, Cond.instanceMethod yX2_copyFrom]
def wsX4_withFloat_r4 : List Cond := [Cond.selects RX2 yX2_copyFrom yX2_copyFrom, Cond.code yX2_copyFrom cX2_copyFrom 3 none, Cond.fieldLink RX2 9 "FloatOrder$Parade" "floats" "I", Cond.methodLink RX4 80 yX2_shift, Cond.instanceMethod yX2_shift, Cond.selects RX2 yX2_shift yX2_shift, Cond.code yX2_shift cX2_shift 4 none, Cond.methodLink RX2 51 yX2_swap, Cond.instanceMethod yX2_swap, Cond.selects RX2 yX2_swap yX2_swap, Cond.code yX2_swap cX2_swap 7 none, Cond.methodLink RX4 254 yX0_startAt, Cond.instanceMethod yX0_startAt, Cond.selects RX0 yX0_startAt yX0_startAt, Cond.initialized RX0, Cond.code yX0_startAt cX0_startAt 2 none, Cond.fieldLink RX0 7 "FloatOrder$Best" "leastTrouble" "I", Cond.fieldLink RX0 13 "FloatOrder$Best" "leastEnd" "I", Cond.methodLink RX0 16 yX2_allTrouble, Cond.instanceMethod yX2_allTrouble, Cond.selects RX2 yX2_allTrouble yX2_allTrouble, Cond.code yX2_allTrouble cX2_allTrouble 3 (some .int), Cond.methodLink RX0 22 yX2_end, Cond.instanceMethod yX2_end]
def wsX4_withFloat_r5 : List Cond := [Cond.selects RX2 yX2_end yX2_end, Cond.code yX2_end cX2_end 1 (some .int), Cond.methodLink RX2 86 yX2_travel, Cond.methodLink RX4 95 yX2_swap, Cond.methodLink RX4 257 yX0_isBeatenBy, Cond.instanceMethod yX0_isBeatenBy, Cond.selects RX0 yX0_isBeatenBy yX0_isBeatenBy, Cond.code yX0_isBeatenBy cX0_isBeatenBy 4 (some .boolean)]
def wsX4_withFloat : List Cond := .code yX4_withFloat cX4_withFloat 7 (some .long) :: ((wsX4_withFloat_r1 ++ (wsX4_withFloat_r2 ++ (wsX4_withFloat_r3 ++ (wsX4_withFloat_r4 ++ wsX4_withFloat_r5)))) ++ wsX40 ++ wsX20 ++ wsX00)
def wsX4_bitsOfShare : List Cond := .code yX4_bitsOfShare cX4_bitsOfShare 8 (some .long) :: ([.constantLong RX4 290 (1023), .constantDouble RX4 292 (4611686018427387904), .constantDouble RX4 294 (4841369599423283200)])
def wsX4_digest_r1 : List Cond := [Cond.constantLong RX4 224 (2971), Cond.fieldLink RX4 10 "FloatOrder" "parade" "LFloatOrder$Parade;", Cond.fieldLink RX4 149 "FloatOrder$Parade" "settings" "[I", Cond.fieldLink RX4 117 "FloatOrder$Parade" "bridges" "I", Cond.fieldLink RX4 48 "FloatOrder$Parade" "floats" "I", Cond.fieldLink RX4 44 "FloatOrder" "characters" "I", Cond.fieldLink RX4 40 "FloatOrder" "buffer" "[I", Cond.methodLink RX4 203 yX4_number, Cond.instanceMethod yX4_number, Cond.selects RX4 yX4_number yX4_number, Cond.initialized RX4, Cond.code yX4_number cX4_number 2 (some .int), Cond.fieldLink RX4 22 "FloatOrder" "history" "LFloatOrder$History;", Cond.fieldLink RX4 172 "FloatOrder$History" "size" "I", Cond.methodLink RX4 91 yX2_allTrouble, Cond.instanceMethod yX2_allTrouble, Cond.selects RX2 yX2_allTrouble yX2_allTrouble, Cond.initialized RX2, Cond.code yX2_allTrouble cX2_allTrouble 3 (some .int), Cond.fieldLink RX2 9 "FloatOrder$Parade" "floats" "I", Cond.methodLink RX2 61 yX2_troubleAt, Cond.instanceMethod yX2_troubleAt, Cond.selects RX2 yX2_troubleAt yX2_troubleAt, Cond.code yX2_troubleAt cX2_troubleAt 2 (some .int)]
def wsX4_digest_r2 : List Cond := [Cond.methodLink RX2 70 yX2_shying, Cond.instanceMethod yX2_shying, Cond.selects RX2 yX2_shying yX2_shying, Cond.code yX2_shying cX2_shying 3 (some .int), Cond.fieldLink RX2 22 "FloatOrder$Parade" "masks" "[I", Cond.fieldLink RX2 15 "FloatOrder$Parade" "kinds" "[I", Cond.methodLink RX2 73 yX2_hearing, Cond.instanceMethod yX2_hearing, Cond.selects RX2 yX2_hearing yX2_hearing, Cond.code yX2_hearing cX2_hearing 4 (some .int), Cond.fieldLink RX2 38 "FloatOrder$Parade" "settings" "[I", Cond.methodLink RX2 76 yX2_meeting, Cond.instanceMethod yX2_meeting, Cond.selects RX2 yX2_meeting yX2_meeting, Cond.code yX2_meeting cX2_meeting 2 (some .int), Cond.methodLink RX4 211 yX2_end, Cond.instanceMethod yX2_end, Cond.selects RX2 yX2_end yX2_end, Cond.code yX2_end cX2_end 1 (some .int), Cond.fieldLink RX2 41 "FloatOrder$Parade" "came" "[I", Cond.fieldLink RX2 29 "FloatOrder$Parade" "bridges" "I", Cond.methodLink RX2 86 yX2_travel, Cond.instanceMethod yX2_travel, Cond.selects RX2 yX2_travel yX2_travel]
def wsX4_digest_r3 : List Cond := [Cond.code yX2_travel cX2_travel 8 none, Cond.fieldLink RX2 32 "FloatOrder$Parade" "distances" "[I", Cond.fieldLink RX2 44 "FloatOrder$Parade" "left" "[I", Cond.methodLink RX2 64 Lib.Math.max.name, Cond.static Lib.Math.max.name, Cond.initialized "java/lang/Math", Cond.code Lib.Math.max.name Lib.Math.max.code 2 (some .int), Cond.fieldLink RX2 35 "FloatOrder$Parade" "clearances" "[I", Cond.methodLink RX2 54 yX2_countedHeight, Cond.instanceMethod yX2_countedHeight, Cond.selects RX2 yX2_countedHeight yX2_countedHeight, Cond.code yX2_countedHeight cX2_countedHeight 3 (some .int), Cond.fieldLink RX2 25 "FloatOrder$Parade" "folded" "[Z", Cond.fieldLink RX2 19 "FloatOrder$Parade" "heights" "[I", Cond.methodLink RX4 264 yX2_loweredFloats, Cond.instanceMethod yX2_loweredFloats, Cond.selects RX2 yX2_loweredFloats yX2_loweredFloats, Cond.code yX2_loweredFloats cX2_loweredFloats 3 (some .int), Cond.methodLink RX2 58 yX2_bridgesThatLower, Cond.instanceMethod yX2_bridgesThatLower, Cond.selects RX2 yX2_bridgesThatLower yX2_bridgesThatLower, Cond.code yX2_bridgesThatLower cX2_bridgesThatLower 4 (some .int), Cond.methodLink RX2 82 yX2_isLowered, Cond.instanceMethod yX2_isLowered]
def wsX4_digest_r4 : List Cond := [Cond.selects RX2 yX2_isLowered yX2_isLowered, Cond.code yX2_isLowered cX2_isLowered 3 (some .boolean), Cond.methodLink RX4 221 yX2_troubledFloats, Cond.instanceMethod yX2_troubledFloats, Cond.selects RX2 yX2_troubledFloats yX2_troubledFloats, Cond.code yX2_troubledFloats cX2_troubledFloats 3 (some .int), Cond.methodLink RX4 267 yX2_waiting, Cond.instanceMethod yX2_waiting, Cond.selects RX2 yX2_waiting yX2_waiting, Cond.code yX2_waiting cX2_waiting 1 (some .int), Cond.methodLink RX2 90 yX2_end, Cond.methodLink RX4 270 yX2_greatestHeight, Cond.instanceMethod yX2_greatestHeight, Cond.selects RX2 yX2_greatestHeight yX2_greatestHeight, Cond.code yX2_greatestHeight cX2_greatestHeight 3 (some .int), Cond.methodLink RX4 226 yX4_mixed, Cond.static yX4_mixed, Cond.code yX4_mixed cX4_mixed 4 (some .long), Cond.constantLong RX4 288 (31), Cond.methodLink RX4 198 yX2_bridgeProperty, Cond.instanceMethod yX2_bridgeProperty, Cond.selects RX2 yX2_bridgeProperty yX2_bridgeProperty, Cond.code yX2_bridgeProperty cX2_bridgeProperty 3 (some .int), Cond.methodLink RX2 79 yX2_floatsLoweredAt]
def wsX4_digest_r5 : List Cond := [Cond.instanceMethod yX2_floatsLoweredAt, Cond.selects RX2 yX2_floatsLoweredAt yX2_floatsLoweredAt, Cond.code yX2_floatsLoweredAt cX2_floatsLoweredAt 4 (some .int), Cond.methodLink RX4 230 yX4_withFloat, Cond.instanceMethod yX4_withFloat, Cond.selects RX4 yX4_withFloat yX4_withFloat, Cond.code yX4_withFloat cX4_withFloat 7 (some .long), Cond.fieldLink RX4 193 "FloatOrder$Parade" "came" "[I", Cond.methodLink RX4 182 yX2_floatProperty, Cond.instanceMethod yX2_floatProperty, Cond.selects RX2 yX2_floatProperty yX2_floatProperty, Cond.code yX2_floatProperty cX2_floatProperty 3 (some .int), Cond.methodLink RX4 187 yX2_troubleBy, Cond.instanceMethod yX2_troubleBy, Cond.selects RX2 yX2_troubleBy yX2_troubleBy, Cond.code yX2_troubleBy cX2_troubleBy 3 (some .int), Cond.methodLink RX4 190 yX2_travel, Cond.methodLink RX4 214 yX4_placeOfLeast, Cond.instanceMethod yX4_placeOfLeast, Cond.selects RX4 yX4_placeOfLeast yX4_placeOfLeast, Cond.code yX4_placeOfLeast cX4_placeOfLeast 4 (some .int), Cond.fieldLink RX4 16 "FloatOrder" "trial" "LFloatOrder$Parade;", Cond.fieldLink RX4 29 "FloatOrder" "best" "LFloatOrder$Best;", Cond.methodLink RX4 208 yX2_copyFrom]
def wsX4_digest_r6 : List Cond := [Cond.instanceMethod yX2_copyFrom, Cond.selects RX2 yX2_copyFrom yX2_copyFrom, Cond.code yX2_copyFrom cX2_copyFrom 3 none, Cond.methodLink RX4 80 yX2_shift, Cond.instanceMethod yX2_shift, Cond.selects RX2 yX2_shift yX2_shift, Cond.code yX2_shift cX2_shift 4 none, Cond.methodLink RX2 51 yX2_swap, Cond.instanceMethod yX2_swap, Cond.selects RX2 yX2_swap yX2_swap, Cond.code yX2_swap cX2_swap 7 none, Cond.methodLink RX4 254 yX0_startAt, Cond.instanceMethod yX0_startAt, Cond.selects RX0 yX0_startAt yX0_startAt, Cond.initialized RX0, Cond.code yX0_startAt cX0_startAt 2 none, Cond.fieldLink RX0 7 "FloatOrder$Best" "leastTrouble" "I", Cond.fieldLink RX0 13 "FloatOrder$Best" "leastEnd" "I", Cond.methodLink RX0 16 yX2_allTrouble, Cond.methodLink RX0 22 yX2_end, Cond.methodLink RX4 95 yX2_swap, Cond.methodLink RX4 257 yX0_isBeatenBy, Cond.instanceMethod yX0_isBeatenBy, Cond.selects RX0 yX0_isBeatenBy yX0_isBeatenBy]
def wsX4_digest_r7 : List Cond := [Cond.code yX0_isBeatenBy cX0_isBeatenBy 4 (some .boolean), Cond.methodLink RX4 234 yX4_bestFold, Cond.instanceMethod yX4_bestFold, Cond.selects RX4 yX4_bestFold yX4_bestFold, Cond.code yX4_bestFold cX4_bestFold 5 (some .int), Cond.fieldLink RX4 98 "FloatOrder$Parade" "folded" "[Z", Cond.methodLink RX4 237 yX4_leastTrouble, Cond.instanceMethod yX4_leastTrouble, Cond.selects RX4 yX4_leastTrouble yX4_leastTrouble, Cond.code yX4_leastTrouble cX4_leastTrouble 1 (some .int), Cond.methodLink RX4 217 yX4_leastFrom, Cond.static yX4_leastFrom, Cond.code yX4_leastFrom cX4_leastFrom 6 (some .int), Cond.methodLink RX4 261 yX2_troubleAt, Cond.methodLink RX4 240 yX4_smoothness, Cond.instanceMethod yX4_smoothness, Cond.selects RX4 yX4_smoothness yX4_smoothness, Cond.code yX4_smoothness cX4_smoothness 1 (some .double), Cond.methodLink RX4 244 yX4_bitsOfShare, Cond.static yX4_bitsOfShare, Cond.code yX4_bitsOfShare cX4_bitsOfShare 8 (some .long), Cond.constantLong RX4 290 (1023), Cond.constantDouble RX4 292 (4611686018427387904), Cond.constantDouble RX4 294 (4841369599423283200)]
def wsX4_digest : List Cond := .code yX4_digest cX4_digest 5 (some .long) :: ((wsX4_digest_r1 ++ (wsX4_digest_r2 ++ (wsX4_digest_r3 ++ (wsX4_digest_r4 ++ (wsX4_digest_r5 ++ (wsX4_digest_r6 ++ wsX4_digest_r7)))))) ++ wsX40 ++ wsX20 ++ wsX10 ++ wsX00)
def wsX5_init : List Cond := .code yX5_init cX5_init 1 none :: ([.methodLink RX5 1 objectInit, .instanceMethod objectInit, .code objectInit ⟨#[0xb1]⟩ 1 none, .arrayClass .int, .fieldLink RX5 7 "FloatOrderModel" "now" "[I", .fieldLink RX5 13 "FloatOrderModel" "then" "[I", .fieldLink RX5 16 "FloatOrderModel" "past" "[I", .fieldLink RX5 19 "FloatOrderModel" "text" "[I", .fieldLink RX5 22 "FloatOrderModel" "told" "[I", .fieldLink RX5 25 "FloatOrderModel" "minutes" "[I"] ++ wsX50)
def wsX5_thrown : List Cond := .code yX5_thrown cX5_thrown 1 (some .int) :: ([.fieldLink RX5 28 "FloatOrderModel" "thrown" "I"] ++ wsX50)
def wsX5_fails : List Cond := .code yX5_fails cX5_fails 2 (some .int) :: ([.fieldLink RX5 28 "FloatOrderModel" "thrown" "I"] ++ wsX50)
def wsX5_in : List Cond := .code yX5_in cX5_in 3 (some .boolean) :: ([])
def wsX5_isFloat : List Cond := .code yX5_isFloat cX5_isFloat 2 (some .boolean) :: ([.fieldLink RX5 7 "FloatOrderModel" "now" "[I", .methodLink RX5 32 yX5_in, .static yX5_in, .initialized RX5, .code yX5_in cX5_in 3 (some .boolean)] ++ wsX50)
def wsX5_isBridge : List Cond := .code yX5_isBridge cX5_isBridge 2 (some .boolean) :: ([.fieldLink RX5 7 "FloatOrderModel" "now" "[I", .methodLink RX5 32 yX5_in, .static yX5_in, .initialized RX5, .code yX5_in cX5_in 3 (some .boolean)] ++ wsX50)
def wsX5_of : List Cond := .code yX5_of cX5_of 3 (some .int) :: ([])
def wsX5_copies : List Cond := .code yX5_copies cX5_copies 5 none :: ([])
def wsX5_saves : List Cond := .code yX5_saves cX5_saves 2 none :: ([.fieldLink RX5 36 "FloatOrderModel" "kept" "I", .fieldLink RX5 16 "FloatOrderModel" "past" "[I", .fieldLink RX5 7 "FloatOrderModel" "now" "[I", .methodLink RX5 39 yX5_copies, .static yX5_copies, .initialized RX5, .code yX5_copies cX5_copies 5 none] ++ wsX50)
def wsX5_undo : List Cond := .code yX5_undo cX5_undo 1 (some .int) :: ([.fieldLink RX5 28 "FloatOrderModel" "thrown" "I", .fieldLink RX5 36 "FloatOrderModel" "kept" "I", .fieldLink RX5 16 "FloatOrderModel" "past" "[I", .fieldLink RX5 7 "FloatOrderModel" "now" "[I", .methodLink RX5 43 yX5_fails, .instanceMethod yX5_fails, .selects RX5 yX5_fails yX5_fails, .initialized RX5, .code yX5_fails cX5_fails 2 (some .int), .methodLink RX5 39 yX5_copies, .static yX5_copies, .code yX5_copies cX5_copies 5 none] ++ wsX50)
def wsX5_troubled : List Cond := .code yX5_troubled cX5_troubled 6 (some .int) :: ([.methodLink RX5 47 yX5_of, .static yX5_of, .initialized RX5, .code yX5_of cX5_of 3 (some .int)])
def wsX5_troubles : List Cond := .code yX5_troubles cX5_troubles 2 (some .int) :: ([.methodLink RX5 51 yX5_troubled, .static yX5_troubled, .initialized RX5, .code yX5_troubled cX5_troubled 6 (some .int), .methodLink RX5 47 yX5_of, .static yX5_of, .code yX5_of cX5_of 3 (some .int)])
def wsX5_allTrouble : List Cond := .code yX5_allTrouble cX5_allTrouble 3 (some .int) :: ([.methodLink RX5 54 yX5_troubles, .static yX5_troubles, .initialized RX5, .code yX5_troubles cX5_troubles 2 (some .int), .methodLink RX5 51 yX5_troubled, .static yX5_troubled, .code yX5_troubled cX5_troubled 6 (some .int), .methodLink RX5 47 yX5_of, .static yX5_of, .code yX5_of cX5_of 3 (some .int)])
def wsX5_high : List Cond := .code yX5_high cX5_high 3 (some .int) :: ([.methodLink RX5 47 yX5_of, .static yX5_of, .initialized RX5, .code yX5_of cX5_of 3 (some .int)])
def wsX5_isLowered : List Cond := .code yX5_isLowered cX5_isLowered 3 (some .boolean) :: ([.methodLink RX5 58 yX5_high, .static yX5_high, .initialized RX5, .code yX5_high cX5_high 3 (some .int), .methodLink RX5 47 yX5_of, .static yX5_of, .code yX5_of cX5_of 3 (some .int)])
def wsX5_goes : List Cond := .code yX5_goes cX5_goes 11 (some .int) :: ([.fieldLink RX5 25 "FloatOrderModel" "minutes" "[I", .methodLink RX5 61 yX5_isLowered, .static yX5_isLowered, .initialized RX5, .code yX5_isLowered cX5_isLowered 3 (some .boolean), .methodLink RX5 58 yX5_high, .static yX5_high, .code yX5_high cX5_high 3 (some .int), .methodLink RX5 47 yX5_of, .static yX5_of, .code yX5_of cX5_of 3 (some .int)] ++ wsX50)
def wsX5_ends : List Cond := .code yX5_ends cX5_ends 2 (some .int) :: ([.methodLink RX5 65 yX5_goes, .instanceMethod yX5_goes, .selects RX5 yX5_goes yX5_goes, .initialized RX5, .code yX5_goes cX5_goes 11 (some .int), .fieldLink RX5 25 "FloatOrderModel" "minutes" "[I", .methodLink RX5 61 yX5_isLowered, .static yX5_isLowered, .code yX5_isLowered cX5_isLowered 3 (some .boolean), .methodLink RX5 58 yX5_high, .static yX5_high, .code yX5_high cX5_high 3 (some .int), .methodLink RX5 47 yX5_of, .static yX5_of, .code yX5_of cX5_of 3 (some .int)] ++ wsX50)
def wsX5_puts : List Cond := .code yX5_puts cX5_puts 7 none :: ([])
def wsX5_goesOut : List Cond := .code yX5_goesOut cX5_goesOut 3 none :: ([])
def wsX5_moves : List Cond := .code yX5_moves cX5_moves 7 none :: ([.methodLink RX5 47 yX5_of, .static yX5_of, .initialized RX5, .code yX5_of cX5_of 3 (some .int), .methodLink RX5 68 yX5_goesOut, .static yX5_goesOut, .code yX5_goesOut cX5_goesOut 3 none, .methodLink RX5 72 yX5_puts, .static yX5_puts, .code yX5_puts cX5_puts 7 none])
def wsX5_exchanges : List Cond := .code yX5_exchanges cX5_exchanges 5 none :: ([.methodLink RX5 47 yX5_of, .static yX5_of, .initialized RX5, .code yX5_of cX5_of 3 (some .int)])
def wsX5_bestExchange_r1 : List Cond := [Cond.fieldLink RX5 7 "FloatOrderModel" "now" "[I", Cond.fieldLink RX5 13 "FloatOrderModel" "then" "[I", Cond.methodLink RX5 76 yX5_allTrouble, Cond.static yX5_allTrouble, Cond.initialized RX5, Cond.code yX5_allTrouble cX5_allTrouble 3 (some .int), Cond.methodLink RX5 54 yX5_troubles, Cond.static yX5_troubles, Cond.code yX5_troubles cX5_troubles 2 (some .int), Cond.methodLink RX5 51 yX5_troubled, Cond.static yX5_troubled, Cond.code yX5_troubled cX5_troubled 6 (some .int), Cond.methodLink RX5 47 yX5_of, Cond.static yX5_of, Cond.code yX5_of cX5_of 3 (some .int), Cond.methodLink RX5 80 yX5_ends, Cond.instanceMethod yX5_ends, Cond.selects RX5 yX5_ends yX5_ends, Cond.code yX5_ends cX5_ends 2 (some .int), Cond.methodLink RX5 65 yX5_goes, Cond.instanceMethod yX5_goes, Cond.selects RX5 yX5_goes yX5_goes, Cond.code yX5_goes cX5_goes 11 (some .int), Cond.fieldLink RX5 25 "FloatOrderModel" "minutes" "[I"]
def wsX5_bestExchange_r2 : List Cond := [Cond.methodLink RX5 61 yX5_isLowered, Cond.static yX5_isLowered, Cond.code yX5_isLowered cX5_isLowered 3 (some .boolean), Cond.methodLink RX5 58 yX5_high, Cond.static yX5_high, Cond.code yX5_high cX5_high 3 (some .int), Cond.methodLink RX5 39 yX5_copies, Cond.static yX5_copies, Cond.code yX5_copies cX5_copies 5 none, Cond.methodLink RX5 83 yX5_exchanges, Cond.static yX5_exchanges, Cond.code yX5_exchanges cX5_exchanges 5 none]
def wsX5_bestExchange : List Cond := .code yX5_bestExchange cX5_bestExchange 9 (some .int) :: ((wsX5_bestExchange_r1 ++ wsX5_bestExchange_r2) ++ wsX50)
def wsX5_isKind : List Cond := .code yX5_isKind cX5_isKind 3 (some .boolean) :: ([.methodLink RX5 32 yX5_in, .static yX5_in, .initialized RX5, .code yX5_in cX5_in 3 (some .boolean)])
def wsX5_put_r1 : List Cond := [Cond.fieldLink RX5 28 "FloatOrderModel" "thrown" "I", Cond.fieldLink RX5 7 "FloatOrderModel" "now" "[I", Cond.methodLink RX5 32 yX5_in, Cond.static yX5_in, Cond.initialized RX5, Cond.code yX5_in cX5_in 3 (some .boolean), Cond.methodLink RX5 43 yX5_fails, Cond.instanceMethod yX5_fails, Cond.selects RX5 yX5_fails yX5_fails, Cond.code yX5_fails cX5_fails 2 (some .int), Cond.methodLink RX5 87 yX5_isKind, Cond.static yX5_isKind, Cond.code yX5_isKind cX5_isKind 3 (some .boolean), Cond.methodLink RX5 90 yX5_saves, Cond.instanceMethod yX5_saves, Cond.selects RX5 yX5_saves yX5_saves, Cond.code yX5_saves cX5_saves 2 none, Cond.fieldLink RX5 36 "FloatOrderModel" "kept" "I", Cond.fieldLink RX5 16 "FloatOrderModel" "past" "[I", Cond.methodLink RX5 39 yX5_copies, Cond.static yX5_copies, Cond.code yX5_copies cX5_copies 5 none, Cond.methodLink RX5 72 yX5_puts, Cond.static yX5_puts]
def wsX5_put_r2 : List Cond := [Cond.code yX5_puts cX5_puts 7 none]
def wsX5_put : List Cond := .code yX5_put cX5_put 5 (some .int) :: ((wsX5_put_r1 ++ wsX5_put_r2) ++ wsX50)
def wsX5_remove_r1 : List Cond := [Cond.fieldLink RX5 28 "FloatOrderModel" "thrown" "I", Cond.fieldLink RX5 7 "FloatOrderModel" "now" "[I", Cond.methodLink RX5 93 yX5_isFloat, Cond.instanceMethod yX5_isFloat, Cond.selects RX5 yX5_isFloat yX5_isFloat, Cond.initialized RX5, Cond.code yX5_isFloat cX5_isFloat 2 (some .boolean), Cond.methodLink RX5 32 yX5_in, Cond.static yX5_in, Cond.code yX5_in cX5_in 3 (some .boolean), Cond.methodLink RX5 43 yX5_fails, Cond.instanceMethod yX5_fails, Cond.selects RX5 yX5_fails yX5_fails, Cond.code yX5_fails cX5_fails 2 (some .int), Cond.methodLink RX5 90 yX5_saves, Cond.instanceMethod yX5_saves, Cond.selects RX5 yX5_saves yX5_saves, Cond.code yX5_saves cX5_saves 2 none, Cond.fieldLink RX5 36 "FloatOrderModel" "kept" "I", Cond.fieldLink RX5 16 "FloatOrderModel" "past" "[I", Cond.methodLink RX5 39 yX5_copies, Cond.static yX5_copies, Cond.code yX5_copies cX5_copies 5 none, Cond.methodLink RX5 68 yX5_goesOut]
def wsX5_remove_r2 : List Cond := [Cond.static yX5_goesOut, Cond.code yX5_goesOut cX5_goesOut 3 none]
def wsX5_remove : List Cond := .code yX5_remove cX5_remove 2 (some .int) :: ((wsX5_remove_r1 ++ wsX5_remove_r2) ++ wsX50)
def wsX5_move_r1 : List Cond := [Cond.fieldLink RX5 28 "FloatOrderModel" "thrown" "I", Cond.fieldLink RX5 7 "FloatOrderModel" "now" "[I", Cond.methodLink RX5 93 yX5_isFloat, Cond.instanceMethod yX5_isFloat, Cond.selects RX5 yX5_isFloat yX5_isFloat, Cond.initialized RX5, Cond.code yX5_isFloat cX5_isFloat 2 (some .boolean), Cond.methodLink RX5 32 yX5_in, Cond.static yX5_in, Cond.code yX5_in cX5_in 3 (some .boolean), Cond.methodLink RX5 43 yX5_fails, Cond.instanceMethod yX5_fails, Cond.selects RX5 yX5_fails yX5_fails, Cond.code yX5_fails cX5_fails 2 (some .int), Cond.methodLink RX5 90 yX5_saves, Cond.instanceMethod yX5_saves, Cond.selects RX5 yX5_saves yX5_saves, Cond.code yX5_saves cX5_saves 2 none, Cond.fieldLink RX5 36 "FloatOrderModel" "kept" "I", Cond.fieldLink RX5 16 "FloatOrderModel" "past" "[I", Cond.methodLink RX5 39 yX5_copies, Cond.static yX5_copies, Cond.code yX5_copies cX5_copies 5 none, Cond.methodLink RX5 97 yX5_moves]
def wsX5_move_r2 : List Cond := [Cond.static yX5_moves, Cond.code yX5_moves cX5_moves 7 none, Cond.methodLink RX5 47 yX5_of, Cond.static yX5_of, Cond.code yX5_of cX5_of 3 (some .int), Cond.methodLink RX5 68 yX5_goesOut, Cond.static yX5_goesOut, Cond.code yX5_goesOut cX5_goesOut 3 none, Cond.methodLink RX5 72 yX5_puts, Cond.static yX5_puts, Cond.code yX5_puts cX5_puts 7 none, Cond.methodLink RX5 76 yX5_allTrouble, Cond.static yX5_allTrouble, Cond.code yX5_allTrouble cX5_allTrouble 3 (some .int), Cond.methodLink RX5 54 yX5_troubles, Cond.static yX5_troubles, Cond.code yX5_troubles cX5_troubles 2 (some .int), Cond.methodLink RX5 51 yX5_troubled, Cond.static yX5_troubled, Cond.code yX5_troubled cX5_troubled 6 (some .int)]
def wsX5_move : List Cond := .code yX5_move cX5_move 3 (some .int) :: ((wsX5_move_r1 ++ wsX5_move_r2) ++ wsX50)
def wsX5_exchange_r1 : List Cond := [Cond.fieldLink RX5 28 "FloatOrderModel" "thrown" "I", Cond.fieldLink RX5 7 "FloatOrderModel" "now" "[I", Cond.methodLink RX5 93 yX5_isFloat, Cond.instanceMethod yX5_isFloat, Cond.selects RX5 yX5_isFloat yX5_isFloat, Cond.initialized RX5, Cond.code yX5_isFloat cX5_isFloat 2 (some .boolean), Cond.methodLink RX5 32 yX5_in, Cond.static yX5_in, Cond.code yX5_in cX5_in 3 (some .boolean), Cond.methodLink RX5 43 yX5_fails, Cond.instanceMethod yX5_fails, Cond.selects RX5 yX5_fails yX5_fails, Cond.code yX5_fails cX5_fails 2 (some .int), Cond.methodLink RX5 90 yX5_saves, Cond.instanceMethod yX5_saves, Cond.selects RX5 yX5_saves yX5_saves, Cond.code yX5_saves cX5_saves 2 none, Cond.fieldLink RX5 36 "FloatOrderModel" "kept" "I", Cond.fieldLink RX5 16 "FloatOrderModel" "past" "[I", Cond.methodLink RX5 39 yX5_copies, Cond.static yX5_copies, Cond.code yX5_copies cX5_copies 5 none, Cond.methodLink RX5 83 yX5_exchanges]
def wsX5_exchange_r2 : List Cond := [Cond.static yX5_exchanges, Cond.code yX5_exchanges cX5_exchanges 5 none, Cond.methodLink RX5 47 yX5_of, Cond.static yX5_of, Cond.code yX5_of cX5_of 3 (some .int), Cond.methodLink RX5 76 yX5_allTrouble, Cond.static yX5_allTrouble, Cond.code yX5_allTrouble cX5_allTrouble 3 (some .int), Cond.methodLink RX5 54 yX5_troubles, Cond.static yX5_troubles, Cond.code yX5_troubles cX5_troubles 2 (some .int), Cond.methodLink RX5 51 yX5_troubled, Cond.static yX5_troubled, Cond.code yX5_troubled cX5_troubled 6 (some .int)]
def wsX5_exchange : List Cond := .code yX5_exchange cX5_exchange 3 (some .int) :: ((wsX5_exchange_r1 ++ wsX5_exchange_r2) ++ wsX50)
def wsX5_fold_r1 : List Cond := [Cond.fieldLink RX5 28 "FloatOrderModel" "thrown" "I", Cond.fieldLink RX5 7 "FloatOrderModel" "now" "[I", Cond.methodLink RX5 93 yX5_isFloat, Cond.instanceMethod yX5_isFloat, Cond.selects RX5 yX5_isFloat yX5_isFloat, Cond.initialized RX5, Cond.code yX5_isFloat cX5_isFloat 2 (some .boolean), Cond.methodLink RX5 32 yX5_in, Cond.static yX5_in, Cond.code yX5_in cX5_in 3 (some .boolean), Cond.methodLink RX5 43 yX5_fails, Cond.instanceMethod yX5_fails, Cond.selects RX5 yX5_fails yX5_fails, Cond.code yX5_fails cX5_fails 2 (some .int), Cond.methodLink RX5 90 yX5_saves, Cond.instanceMethod yX5_saves, Cond.selects RX5 yX5_saves yX5_saves, Cond.code yX5_saves cX5_saves 2 none, Cond.fieldLink RX5 36 "FloatOrderModel" "kept" "I", Cond.fieldLink RX5 16 "FloatOrderModel" "past" "[I", Cond.methodLink RX5 39 yX5_copies, Cond.static yX5_copies, Cond.code yX5_copies cX5_copies 5 none, Cond.methodLink RX5 58 yX5_high]
def wsX5_fold_r2 : List Cond := [Cond.static yX5_high, Cond.code yX5_high cX5_high 3 (some .int), Cond.methodLink RX5 47 yX5_of, Cond.static yX5_of, Cond.code yX5_of cX5_of 3 (some .int)]
def wsX5_fold : List Cond := .code yX5_fold cX5_fold 3 (some .int) :: ((wsX5_fold_r1 ++ wsX5_fold_r2) ++ wsX50)
def wsX5_arrange_r1 : List Cond := [Cond.fieldLink RX5 28 "FloatOrderModel" "thrown" "I", Cond.fieldLink RX5 7 "FloatOrderModel" "now" "[I", Cond.methodLink RX5 90 yX5_saves, Cond.instanceMethod yX5_saves, Cond.selects RX5 yX5_saves yX5_saves, Cond.initialized RX5, Cond.code yX5_saves cX5_saves 2 none, Cond.fieldLink RX5 36 "FloatOrderModel" "kept" "I", Cond.fieldLink RX5 16 "FloatOrderModel" "past" "[I", Cond.methodLink RX5 39 yX5_copies, Cond.static yX5_copies, Cond.code yX5_copies cX5_copies 5 none, Cond.methodLink RX5 100 yX5_bestExchange, Cond.instanceMethod yX5_bestExchange, Cond.selects RX5 yX5_bestExchange yX5_bestExchange, Cond.code yX5_bestExchange cX5_bestExchange 9 (some .int), Cond.fieldLink RX5 13 "FloatOrderModel" "then" "[I", Cond.methodLink RX5 76 yX5_allTrouble, Cond.static yX5_allTrouble, Cond.code yX5_allTrouble cX5_allTrouble 3 (some .int), Cond.methodLink RX5 54 yX5_troubles, Cond.static yX5_troubles, Cond.code yX5_troubles cX5_troubles 2 (some .int), Cond.methodLink RX5 51 yX5_troubled]
def wsX5_arrange_r2 : List Cond := [Cond.static yX5_troubled, Cond.code yX5_troubled cX5_troubled 6 (some .int), Cond.methodLink RX5 47 yX5_of, Cond.static yX5_of, Cond.code yX5_of cX5_of 3 (some .int), Cond.methodLink RX5 80 yX5_ends, Cond.instanceMethod yX5_ends, Cond.selects RX5 yX5_ends yX5_ends, Cond.code yX5_ends cX5_ends 2 (some .int), Cond.methodLink RX5 65 yX5_goes, Cond.instanceMethod yX5_goes, Cond.selects RX5 yX5_goes yX5_goes, Cond.code yX5_goes cX5_goes 11 (some .int), Cond.fieldLink RX5 25 "FloatOrderModel" "minutes" "[I", Cond.methodLink RX5 61 yX5_isLowered, Cond.static yX5_isLowered, Cond.code yX5_isLowered cX5_isLowered 3 (some .boolean), Cond.methodLink RX5 58 yX5_high, Cond.static yX5_high, Cond.code yX5_high cX5_high 3 (some .int), Cond.methodLink RX5 83 yX5_exchanges, Cond.static yX5_exchanges, Cond.code yX5_exchanges cX5_exchanges 5 none]
def wsX5_arrange : List Cond := .code yX5_arrange cX5_arrange 3 (some .int) :: ((wsX5_arrange_r1 ++ wsX5_arrange_r2) ++ wsX50)
def wsX5_isBridged : List Cond := .code yX5_isBridged cX5_isBridged 4 (some .boolean) :: ([.fieldLink RX5 7 "FloatOrderModel" "now" "[I"] ++ wsX50)
def wsX5_bridge : List Cond := .code yX5_bridge cX5_bridge 4 (some .int) :: ([.fieldLink RX5 28 "FloatOrderModel" "thrown" "I", .fieldLink RX5 7 "FloatOrderModel" "now" "[I", .methodLink RX5 32 yX5_in, .static yX5_in, .initialized RX5, .code yX5_in cX5_in 3 (some .boolean), .methodLink RX5 43 yX5_fails, .instanceMethod yX5_fails, .selects RX5 yX5_fails yX5_fails, .code yX5_fails cX5_fails 2 (some .int), .methodLink RX5 104 yX5_isBridged, .instanceMethod yX5_isBridged, .selects RX5 yX5_isBridged yX5_isBridged, .code yX5_isBridged cX5_isBridged 4 (some .boolean), .methodLink RX5 90 yX5_saves, .instanceMethod yX5_saves, .selects RX5 yX5_saves yX5_saves, .code yX5_saves cX5_saves 2 none, .fieldLink RX5 36 "FloatOrderModel" "kept" "I", .fieldLink RX5 16 "FloatOrderModel" "past" "[I", .methodLink RX5 39 yX5_copies, .static yX5_copies, .code yX5_copies cX5_copies 5 none] ++ wsX50)
def wsX5_unbridge : List Cond := .code yX5_unbridge cX5_unbridge 4 (some .int) :: ([.fieldLink RX5 28 "FloatOrderModel" "thrown" "I", .fieldLink RX5 7 "FloatOrderModel" "now" "[I", .methodLink RX5 107 yX5_isBridge, .instanceMethod yX5_isBridge, .selects RX5 yX5_isBridge yX5_isBridge, .initialized RX5, .code yX5_isBridge cX5_isBridge 2 (some .boolean), .methodLink RX5 32 yX5_in, .static yX5_in, .code yX5_in cX5_in 3 (some .boolean), .methodLink RX5 43 yX5_fails, .instanceMethod yX5_fails, .selects RX5 yX5_fails yX5_fails, .code yX5_fails cX5_fails 2 (some .int), .methodLink RX5 90 yX5_saves, .instanceMethod yX5_saves, .selects RX5 yX5_saves yX5_saves, .code yX5_saves cX5_saves 2 none, .fieldLink RX5 36 "FloatOrderModel" "kept" "I", .fieldLink RX5 16 "FloatOrderModel" "past" "[I", .methodLink RX5 39 yX5_copies, .static yX5_copies, .code yX5_copies cX5_copies 5 none] ++ wsX50)
def wsX5_set : List Cond := .code yX5_set cX5_set 4 (some .int) :: ([.fieldLink RX5 28 "FloatOrderModel" "thrown" "I", .fieldLink RX5 7 "FloatOrderModel" "now" "[I", .methodLink RX5 32 yX5_in, .static yX5_in, .initialized RX5, .code yX5_in cX5_in 3 (some .boolean), .methodLink RX5 43 yX5_fails, .instanceMethod yX5_fails, .selects RX5 yX5_fails yX5_fails, .code yX5_fails cX5_fails 2 (some .int), .methodLink RX5 90 yX5_saves, .instanceMethod yX5_saves, .selects RX5 yX5_saves yX5_saves, .code yX5_saves cX5_saves 2 none, .fieldLink RX5 36 "FloatOrderModel" "kept" "I", .fieldLink RX5 16 "FloatOrderModel" "past" "[I", .methodLink RX5 39 yX5_copies, .static yX5_copies, .code yX5_copies cX5_copies 5 none] ++ wsX50)
def wsX5_append : List Cond := .code yX5_append cX5_append 2 (some .int) :: ([.fieldLink RX5 28 "FloatOrderModel" "thrown" "I", .fieldLink RX5 110 "FloatOrderModel" "typed" "I", .fieldLink RX5 19 "FloatOrderModel" "text" "[I", .methodLink RX5 32 yX5_in, .static yX5_in, .initialized RX5, .code yX5_in cX5_in 3 (some .boolean), .methodLink RX5 43 yX5_fails, .instanceMethod yX5_fails, .selects RX5 yX5_fails yX5_fails, .code yX5_fails cX5_fails 2 (some .int)] ++ wsX50)
def wsX5_clearBuffer : List Cond := .code yX5_clearBuffer cX5_clearBuffer 2 (some .int) :: ([.fieldLink RX5 28 "FloatOrderModel" "thrown" "I", .fieldLink RX5 110 "FloatOrderModel" "typed" "I"] ++ wsX50)
def wsX5_isAt : List Cond := .code yX5_isAt cX5_isAt 3 (some .boolean) :: ([.fieldLink RX5 113 "FloatOrderModel" "at" "I", .fieldLink RX5 110 "FloatOrderModel" "typed" "I", .fieldLink RX5 19 "FloatOrderModel" "text" "[I", .methodLink RX5 32 yX5_in, .static yX5_in, .initialized RX5, .code yX5_in cX5_in 3 (some .boolean)] ++ wsX50)
def wsX5_stops : List Cond := .code yX5_stops cX5_stops 1 (some .boolean) :: ([.fieldLink RX5 113 "FloatOrderModel" "at" "I", .fieldLink RX5 110 "FloatOrderModel" "typed" "I", .fieldLink RX5 116 "FloatOrderModel" "isFault" "Z"] ++ wsX50)
def wsX5_kindAt : List Cond := .code yX5_kindAt cX5_kindAt 2 (some .int) :: ([.fieldLink RX5 113 "FloatOrderModel" "at" "I", .fieldLink RX5 110 "FloatOrderModel" "typed" "I", .fieldLink RX5 19 "FloatOrderModel" "text" "[I"] ++ wsX50)
def wsX5_isMask : List Cond := .code yX5_isMask cX5_isMask 2 (some .boolean) :: ([.fieldLink RX5 22 "FloatOrderModel" "told" "[I", .fieldLink RX5 123 "FloatOrderModel" "tolds" "I", .fieldLink RX5 113 "FloatOrderModel" "at" "I", .methodLink RX5 120 yX5_kindAt, .instanceMethod yX5_kindAt, .selects RX5 yX5_kindAt yX5_kindAt, .initialized RX5, .code yX5_kindAt cX5_kindAt 2 (some .int), .fieldLink RX5 110 "FloatOrderModel" "typed" "I", .fieldLink RX5 19 "FloatOrderModel" "text" "[I", .methodLink RX5 126 yX5_stops, .instanceMethod yX5_stops, .selects RX5 yX5_stops yX5_stops, .code yX5_stops cX5_stops 1 (some .boolean), .fieldLink RX5 116 "FloatOrderModel" "isFault" "Z"] ++ wsX50)
def wsX5_isPart_r1 : List Cond := [Cond.fieldLink RX5 113 "FloatOrderModel" "at" "I", Cond.fieldLink RX5 19 "FloatOrderModel" "text" "[I", Cond.fieldLink RX5 22 "FloatOrderModel" "told" "[I", Cond.fieldLink RX5 123 "FloatOrderModel" "tolds" "I", Cond.methodLink RX5 120 yX5_kindAt, Cond.instanceMethod yX5_kindAt, Cond.selects RX5 yX5_kindAt yX5_kindAt, Cond.initialized RX5, Cond.code yX5_kindAt cX5_kindAt 2 (some .int), Cond.fieldLink RX5 110 "FloatOrderModel" "typed" "I", Cond.methodLink RX5 126 yX5_stops, Cond.instanceMethod yX5_stops, Cond.selects RX5 yX5_stops yX5_stops, Cond.code yX5_stops cX5_stops 1 (some .boolean), Cond.fieldLink RX5 116 "FloatOrderModel" "isFault" "Z", Cond.methodLink RX5 130 yX5_isAt, Cond.instanceMethod yX5_isAt, Cond.selects RX5 yX5_isAt yX5_isAt, Cond.code yX5_isAt cX5_isAt 3 (some .boolean), Cond.methodLink RX5 32 yX5_in, Cond.static yX5_in, Cond.code yX5_in cX5_in 3 (some .boolean), Cond.methodLink RX5 134 yX5_isMask, Cond.instanceMethod yX5_isMask]
def wsX5_isPart_r2 : List Cond := [Cond.selects RX5 yX5_isMask yX5_isMask, Cond.code yX5_isMask cX5_isMask 2 (some .boolean)]
def wsX5_isPart : List Cond := .code yX5_isPart cX5_isPart 3 (some .boolean) :: ((wsX5_isPart_r1 ++ wsX5_isPart_r2) ++ wsX50)
def wsX5_isText_r1 : List Cond := [Cond.fieldLink RX5 113 "FloatOrderModel" "at" "I", Cond.fieldLink RX5 123 "FloatOrderModel" "tolds" "I", Cond.fieldLink RX5 116 "FloatOrderModel" "isFault" "Z", Cond.fieldLink RX5 110 "FloatOrderModel" "typed" "I", Cond.methodLink RX5 137 yX5_isPart, Cond.instanceMethod yX5_isPart, Cond.selects RX5 yX5_isPart yX5_isPart, Cond.initialized RX5, Cond.code yX5_isPart cX5_isPart 3 (some .boolean), Cond.fieldLink RX5 19 "FloatOrderModel" "text" "[I", Cond.fieldLink RX5 22 "FloatOrderModel" "told" "[I", Cond.methodLink RX5 120 yX5_kindAt, Cond.instanceMethod yX5_kindAt, Cond.selects RX5 yX5_kindAt yX5_kindAt, Cond.code yX5_kindAt cX5_kindAt 2 (some .int), Cond.methodLink RX5 126 yX5_stops, Cond.instanceMethod yX5_stops, Cond.selects RX5 yX5_stops yX5_stops, Cond.code yX5_stops cX5_stops 1 (some .boolean), Cond.methodLink RX5 130 yX5_isAt, Cond.instanceMethod yX5_isAt, Cond.selects RX5 yX5_isAt yX5_isAt, Cond.code yX5_isAt cX5_isAt 3 (some .boolean), Cond.methodLink RX5 32 yX5_in]
def wsX5_isText_r2 : List Cond := [Cond.static yX5_in, Cond.code yX5_in cX5_in 3 (some .boolean), Cond.methodLink RX5 134 yX5_isMask, Cond.instanceMethod yX5_isMask, Cond.selects RX5 yX5_isMask yX5_isMask, Cond.code yX5_isMask cX5_isMask 2 (some .boolean)]
def wsX5_isText : List Cond := .code yX5_isText cX5_isText 2 (some .boolean) :: ((wsX5_isText_r1 ++ wsX5_isText_r2) ++ wsX50)
def wsX5_firstError_r1 : List Cond := [Cond.fieldLink RX5 28 "FloatOrderModel" "thrown" "I", Cond.fieldLink RX5 116 "FloatOrderModel" "isFault" "Z", Cond.fieldLink RX5 113 "FloatOrderModel" "at" "I", Cond.fieldLink RX5 110 "FloatOrderModel" "typed" "I", Cond.methodLink RX5 140 yX5_isText, Cond.instanceMethod yX5_isText, Cond.selects RX5 yX5_isText yX5_isText, Cond.initialized RX5, Cond.code yX5_isText cX5_isText 2 (some .boolean), Cond.fieldLink RX5 123 "FloatOrderModel" "tolds" "I", Cond.methodLink RX5 137 yX5_isPart, Cond.instanceMethod yX5_isPart, Cond.selects RX5 yX5_isPart yX5_isPart, Cond.code yX5_isPart cX5_isPart 3 (some .boolean), Cond.fieldLink RX5 19 "FloatOrderModel" "text" "[I", Cond.fieldLink RX5 22 "FloatOrderModel" "told" "[I", Cond.methodLink RX5 120 yX5_kindAt, Cond.instanceMethod yX5_kindAt, Cond.selects RX5 yX5_kindAt yX5_kindAt, Cond.code yX5_kindAt cX5_kindAt 2 (some .int), Cond.methodLink RX5 126 yX5_stops, Cond.instanceMethod yX5_stops, Cond.selects RX5 yX5_stops yX5_stops, Cond.code yX5_stops cX5_stops 1 (some .boolean)]
def wsX5_firstError_r2 : List Cond := [Cond.methodLink RX5 130 yX5_isAt, Cond.instanceMethod yX5_isAt, Cond.selects RX5 yX5_isAt yX5_isAt, Cond.code yX5_isAt cX5_isAt 3 (some .boolean), Cond.methodLink RX5 32 yX5_in, Cond.static yX5_in, Cond.code yX5_in cX5_in 3 (some .boolean), Cond.methodLink RX5 134 yX5_isMask, Cond.instanceMethod yX5_isMask, Cond.selects RX5 yX5_isMask yX5_isMask, Cond.code yX5_isMask cX5_isMask 2 (some .boolean)]
def wsX5_firstError : List Cond := .code yX5_firstError cX5_firstError 2 (some .int) :: ((wsX5_firstError_r1 ++ wsX5_firstError_r2) ++ wsX50)
def wsX5_putAll_r1 : List Cond := [Cond.fieldLink RX5 28 "FloatOrderModel" "thrown" "I", Cond.fieldLink RX5 7 "FloatOrderModel" "now" "[I", Cond.fieldLink RX5 123 "FloatOrderModel" "tolds" "I", Cond.fieldLink RX5 110 "FloatOrderModel" "typed" "I", Cond.fieldLink RX5 22 "FloatOrderModel" "told" "[I", Cond.methodLink RX5 140 yX5_isText, Cond.instanceMethod yX5_isText, Cond.selects RX5 yX5_isText yX5_isText, Cond.initialized RX5, Cond.code yX5_isText cX5_isText 2 (some .boolean), Cond.fieldLink RX5 113 "FloatOrderModel" "at" "I", Cond.fieldLink RX5 116 "FloatOrderModel" "isFault" "Z", Cond.methodLink RX5 137 yX5_isPart, Cond.instanceMethod yX5_isPart, Cond.selects RX5 yX5_isPart yX5_isPart, Cond.code yX5_isPart cX5_isPart 3 (some .boolean), Cond.fieldLink RX5 19 "FloatOrderModel" "text" "[I", Cond.methodLink RX5 120 yX5_kindAt, Cond.instanceMethod yX5_kindAt, Cond.selects RX5 yX5_kindAt yX5_kindAt, Cond.code yX5_kindAt cX5_kindAt 2 (some .int), Cond.methodLink RX5 126 yX5_stops, Cond.instanceMethod yX5_stops, Cond.selects RX5 yX5_stops yX5_stops]
def wsX5_putAll_r2 : List Cond := [Cond.code yX5_stops cX5_stops 1 (some .boolean), Cond.methodLink RX5 130 yX5_isAt, Cond.instanceMethod yX5_isAt, Cond.selects RX5 yX5_isAt yX5_isAt, Cond.code yX5_isAt cX5_isAt 3 (some .boolean), Cond.methodLink RX5 32 yX5_in, Cond.static yX5_in, Cond.code yX5_in cX5_in 3 (some .boolean), Cond.methodLink RX5 134 yX5_isMask, Cond.instanceMethod yX5_isMask, Cond.selects RX5 yX5_isMask yX5_isMask, Cond.code yX5_isMask cX5_isMask 2 (some .boolean), Cond.methodLink RX5 43 yX5_fails, Cond.instanceMethod yX5_fails, Cond.selects RX5 yX5_fails yX5_fails, Cond.code yX5_fails cX5_fails 2 (some .int), Cond.methodLink RX5 90 yX5_saves, Cond.instanceMethod yX5_saves, Cond.selects RX5 yX5_saves yX5_saves, Cond.code yX5_saves cX5_saves 2 none, Cond.fieldLink RX5 36 "FloatOrderModel" "kept" "I", Cond.fieldLink RX5 16 "FloatOrderModel" "past" "[I", Cond.methodLink RX5 39 yX5_copies, Cond.static yX5_copies]
def wsX5_putAll_r3 : List Cond := [Cond.code yX5_copies cX5_copies 5 none, Cond.methodLink RX5 72 yX5_puts, Cond.static yX5_puts, Cond.code yX5_puts cX5_puts 7 none]
def wsX5_putAll : List Cond := .code yX5_putAll cX5_putAll 2 (some .int) :: ((wsX5_putAll_r1 ++ (wsX5_putAll_r2 ++ wsX5_putAll_r3)) ++ wsX50)
def wsX5_bridgesOf : List Cond := .code yX5_bridgesOf cX5_bridgesOf 4 (some .int) :: ([.fieldLink RX5 7 "FloatOrderModel" "now" "[I", .methodLink RX5 61 yX5_isLowered, .static yX5_isLowered, .initialized RX5, .code yX5_isLowered cX5_isLowered 3 (some .boolean), .methodLink RX5 58 yX5_high, .static yX5_high, .code yX5_high cX5_high 3 (some .int), .methodLink RX5 47 yX5_of, .static yX5_of, .code yX5_of cX5_of 3 (some .int)] ++ wsX50)
def wsX5_ofFloat : List Cond := .code yX5_ofFloat cX5_ofFloat 3 (some .int) :: ([.fieldLink RX5 7 "FloatOrderModel" "now" "[I", .methodLink RX5 47 yX5_of, .static yX5_of, .initialized RX5, .code yX5_of cX5_of 3 (some .int), .methodLink RX5 58 yX5_high, .static yX5_high, .code yX5_high cX5_high 3 (some .int), .methodLink RX5 143 yX5_bridgesOf, .instanceMethod yX5_bridgesOf, .selects RX5 yX5_bridgesOf yX5_bridgesOf, .code yX5_bridgesOf cX5_bridgesOf 4 (some .int), .methodLink RX5 61 yX5_isLowered, .static yX5_isLowered, .code yX5_isLowered cX5_isLowered 3 (some .boolean), .methodLink RX5 54 yX5_troubles, .static yX5_troubles, .code yX5_troubles cX5_troubles 2 (some .int), .methodLink RX5 51 yX5_troubled, .static yX5_troubled, .code yX5_troubled cX5_troubled 6 (some .int)] ++ wsX50)
def wsX5_floatAt_r1 : List Cond := [Cond.fieldLink RX5 28 "FloatOrderModel" "thrown" "I", Cond.methodLink RX5 93 yX5_isFloat, Cond.instanceMethod yX5_isFloat, Cond.selects RX5 yX5_isFloat yX5_isFloat, Cond.initialized RX5, Cond.code yX5_isFloat cX5_isFloat 2 (some .boolean), Cond.fieldLink RX5 7 "FloatOrderModel" "now" "[I", Cond.methodLink RX5 32 yX5_in, Cond.static yX5_in, Cond.code yX5_in cX5_in 3 (some .boolean), Cond.methodLink RX5 43 yX5_fails, Cond.instanceMethod yX5_fails, Cond.selects RX5 yX5_fails yX5_fails, Cond.code yX5_fails cX5_fails 2 (some .int), Cond.methodLink RX5 146 yX5_ofFloat, Cond.instanceMethod yX5_ofFloat, Cond.selects RX5 yX5_ofFloat yX5_ofFloat, Cond.code yX5_ofFloat cX5_ofFloat 3 (some .int), Cond.methodLink RX5 47 yX5_of, Cond.static yX5_of, Cond.code yX5_of cX5_of 3 (some .int), Cond.methodLink RX5 58 yX5_high, Cond.static yX5_high, Cond.code yX5_high cX5_high 3 (some .int)]
def wsX5_floatAt_r2 : List Cond := [Cond.methodLink RX5 143 yX5_bridgesOf, Cond.instanceMethod yX5_bridgesOf, Cond.selects RX5 yX5_bridgesOf yX5_bridgesOf, Cond.code yX5_bridgesOf cX5_bridgesOf 4 (some .int), Cond.methodLink RX5 61 yX5_isLowered, Cond.static yX5_isLowered, Cond.code yX5_isLowered cX5_isLowered 3 (some .boolean), Cond.methodLink RX5 54 yX5_troubles, Cond.static yX5_troubles, Cond.code yX5_troubles cX5_troubles 2 (some .int), Cond.methodLink RX5 51 yX5_troubled, Cond.static yX5_troubled, Cond.code yX5_troubled cX5_troubled 6 (some .int)]
def wsX5_floatAt : List Cond := .code yX5_floatAt cX5_floatAt 3 (some .int) :: ((wsX5_floatAt_r1 ++ wsX5_floatAt_r2) ++ wsX50)
def wsX5_trouble : List Cond := .code yX5_trouble cX5_trouble 3 (some .int) :: ([.fieldLink RX5 28 "FloatOrderModel" "thrown" "I", .fieldLink RX5 7 "FloatOrderModel" "now" "[I", .methodLink RX5 93 yX5_isFloat, .instanceMethod yX5_isFloat, .selects RX5 yX5_isFloat yX5_isFloat, .initialized RX5, .code yX5_isFloat cX5_isFloat 2 (some .boolean), .methodLink RX5 32 yX5_in, .static yX5_in, .code yX5_in cX5_in 3 (some .boolean), .methodLink RX5 43 yX5_fails, .instanceMethod yX5_fails, .selects RX5 yX5_fails yX5_fails, .code yX5_fails cX5_fails 2 (some .int), .methodLink RX5 51 yX5_troubled, .static yX5_troubled, .code yX5_troubled cX5_troubled 6 (some .int), .methodLink RX5 47 yX5_of, .static yX5_of, .code yX5_of cX5_of 3 (some .int)] ++ wsX50)
def wsX5_comes_r1 : List Cond := [Cond.fieldLink RX5 28 "FloatOrderModel" "thrown" "I", Cond.fieldLink RX5 7 "FloatOrderModel" "now" "[I", Cond.fieldLink RX5 25 "FloatOrderModel" "minutes" "[I", Cond.methodLink RX5 93 yX5_isFloat, Cond.instanceMethod yX5_isFloat, Cond.selects RX5 yX5_isFloat yX5_isFloat, Cond.initialized RX5, Cond.code yX5_isFloat cX5_isFloat 2 (some .boolean), Cond.methodLink RX5 32 yX5_in, Cond.static yX5_in, Cond.code yX5_in cX5_in 3 (some .boolean), Cond.methodLink RX5 107 yX5_isBridge, Cond.instanceMethod yX5_isBridge, Cond.selects RX5 yX5_isBridge yX5_isBridge, Cond.code yX5_isBridge cX5_isBridge 2 (some .boolean), Cond.methodLink RX5 43 yX5_fails, Cond.instanceMethod yX5_fails, Cond.selects RX5 yX5_fails yX5_fails, Cond.code yX5_fails cX5_fails 2 (some .int), Cond.methodLink RX5 80 yX5_ends, Cond.instanceMethod yX5_ends, Cond.selects RX5 yX5_ends yX5_ends, Cond.code yX5_ends cX5_ends 2 (some .int), Cond.methodLink RX5 65 yX5_goes]
def wsX5_comes_r2 : List Cond := [Cond.instanceMethod yX5_goes, Cond.selects RX5 yX5_goes yX5_goes, Cond.code yX5_goes cX5_goes 11 (some .int), Cond.methodLink RX5 61 yX5_isLowered, Cond.static yX5_isLowered, Cond.code yX5_isLowered cX5_isLowered 3 (some .boolean), Cond.methodLink RX5 58 yX5_high, Cond.static yX5_high, Cond.code yX5_high cX5_high 3 (some .int), Cond.methodLink RX5 47 yX5_of, Cond.static yX5_of, Cond.code yX5_of cX5_of 3 (some .int)]
def wsX5_comes : List Cond := .code yX5_comes cX5_comes 3 (some .int) :: ((wsX5_comes_r1 ++ wsX5_comes_r2) ++ wsX50)
def wsX5_loweredAt : List Cond := .code yX5_loweredAt cX5_loweredAt 4 (some .int) :: ([.fieldLink RX5 7 "FloatOrderModel" "now" "[I", .methodLink RX5 61 yX5_isLowered, .static yX5_isLowered, .initialized RX5, .code yX5_isLowered cX5_isLowered 3 (some .boolean), .methodLink RX5 58 yX5_high, .static yX5_high, .code yX5_high cX5_high 3 (some .int), .methodLink RX5 47 yX5_of, .static yX5_of, .code yX5_of cX5_of 3 (some .int)] ++ wsX50)
def wsX5_ofBridge : List Cond := .code yX5_ofBridge cX5_ofBridge 3 (some .int) :: ([.fieldLink RX5 7 "FloatOrderModel" "now" "[I", .methodLink RX5 150 yX5_loweredAt, .instanceMethod yX5_loweredAt, .selects RX5 yX5_loweredAt yX5_loweredAt, .initialized RX5, .code yX5_loweredAt cX5_loweredAt 4 (some .int), .methodLink RX5 61 yX5_isLowered, .static yX5_isLowered, .code yX5_isLowered cX5_isLowered 3 (some .boolean), .methodLink RX5 58 yX5_high, .static yX5_high, .code yX5_high cX5_high 3 (some .int), .methodLink RX5 47 yX5_of, .static yX5_of, .code yX5_of cX5_of 3 (some .int)] ++ wsX50)
def wsX5_bridgeOf_r1 : List Cond := [Cond.fieldLink RX5 28 "FloatOrderModel" "thrown" "I", Cond.methodLink RX5 107 yX5_isBridge, Cond.instanceMethod yX5_isBridge, Cond.selects RX5 yX5_isBridge yX5_isBridge, Cond.initialized RX5, Cond.code yX5_isBridge cX5_isBridge 2 (some .boolean), Cond.fieldLink RX5 7 "FloatOrderModel" "now" "[I", Cond.methodLink RX5 32 yX5_in, Cond.static yX5_in, Cond.code yX5_in cX5_in 3 (some .boolean), Cond.methodLink RX5 43 yX5_fails, Cond.instanceMethod yX5_fails, Cond.selects RX5 yX5_fails yX5_fails, Cond.code yX5_fails cX5_fails 2 (some .int), Cond.methodLink RX5 153 yX5_ofBridge, Cond.instanceMethod yX5_ofBridge, Cond.selects RX5 yX5_ofBridge yX5_ofBridge, Cond.code yX5_ofBridge cX5_ofBridge 3 (some .int), Cond.methodLink RX5 150 yX5_loweredAt, Cond.instanceMethod yX5_loweredAt, Cond.selects RX5 yX5_loweredAt yX5_loweredAt, Cond.code yX5_loweredAt cX5_loweredAt 4 (some .int), Cond.methodLink RX5 61 yX5_isLowered, Cond.static yX5_isLowered]
def wsX5_bridgeOf_r2 : List Cond := [Cond.code yX5_isLowered cX5_isLowered 3 (some .boolean), Cond.methodLink RX5 58 yX5_high, Cond.static yX5_high, Cond.code yX5_high cX5_high 3 (some .int), Cond.methodLink RX5 47 yX5_of, Cond.static yX5_of, Cond.code yX5_of cX5_of 3 (some .int)]
def wsX5_bridgeOf : List Cond := .code yX5_bridgeOf cX5_bridgeOf 3 (some .int) :: ((wsX5_bridgeOf_r1 ++ wsX5_bridgeOf_r2) ++ wsX50)
def wsX5_overFloats : List Cond := .code yX5_overFloats cX5_overFloats 4 (some .int) :: ([.fieldLink RX5 7 "FloatOrderModel" "now" "[I", .methodLink RX5 143 yX5_bridgesOf, .instanceMethod yX5_bridgesOf, .selects RX5 yX5_bridgesOf yX5_bridgesOf, .initialized RX5, .code yX5_bridgesOf cX5_bridgesOf 4 (some .int), .methodLink RX5 61 yX5_isLowered, .static yX5_isLowered, .code yX5_isLowered cX5_isLowered 3 (some .boolean), .methodLink RX5 58 yX5_high, .static yX5_high, .code yX5_high cX5_high 3 (some .int), .methodLink RX5 47 yX5_of, .static yX5_of, .code yX5_of cX5_of 3 (some .int), .methodLink RX5 54 yX5_troubles, .static yX5_troubles, .code yX5_troubles cX5_troubles 2 (some .int), .methodLink RX5 51 yX5_troubled, .static yX5_troubled, .code yX5_troubled cX5_troubled 6 (some .int)] ++ wsX50)
def wsX5_counted_r1 : List Cond := [Cond.fieldLink RX5 7 "FloatOrderModel" "now" "[I", Cond.fieldLink RX5 36 "FloatOrderModel" "kept" "I", Cond.methodLink RX5 76 yX5_allTrouble, Cond.static yX5_allTrouble, Cond.initialized RX5, Cond.code yX5_allTrouble cX5_allTrouble 3 (some .int), Cond.methodLink RX5 54 yX5_troubles, Cond.static yX5_troubles, Cond.code yX5_troubles cX5_troubles 2 (some .int), Cond.methodLink RX5 51 yX5_troubled, Cond.static yX5_troubled, Cond.code yX5_troubled cX5_troubled 6 (some .int), Cond.methodLink RX5 47 yX5_of, Cond.static yX5_of, Cond.code yX5_of cX5_of 3 (some .int), Cond.methodLink RX5 80 yX5_ends, Cond.instanceMethod yX5_ends, Cond.selects RX5 yX5_ends yX5_ends, Cond.code yX5_ends cX5_ends 2 (some .int), Cond.methodLink RX5 65 yX5_goes, Cond.instanceMethod yX5_goes, Cond.selects RX5 yX5_goes yX5_goes, Cond.code yX5_goes cX5_goes 11 (some .int), Cond.fieldLink RX5 25 "FloatOrderModel" "minutes" "[I"]
def wsX5_counted_r2 : List Cond := [Cond.methodLink RX5 61 yX5_isLowered, Cond.static yX5_isLowered, Cond.code yX5_isLowered cX5_isLowered 3 (some .boolean), Cond.methodLink RX5 58 yX5_high, Cond.static yX5_high, Cond.code yX5_high cX5_high 3 (some .int), Cond.methodLink RX5 156 yX5_overFloats, Cond.instanceMethod yX5_overFloats, Cond.selects RX5 yX5_overFloats yX5_overFloats, Cond.code yX5_overFloats cX5_overFloats 4 (some .int), Cond.methodLink RX5 143 yX5_bridgesOf, Cond.instanceMethod yX5_bridgesOf, Cond.selects RX5 yX5_bridgesOf yX5_bridgesOf, Cond.code yX5_bridgesOf cX5_bridgesOf 4 (some .int)]
def wsX5_counted : List Cond := .code yX5_counted cX5_counted 2 (some .int) :: ((wsX5_counted_r1 ++ wsX5_counted_r2) ++ wsX50)
def wsX5_count_r1 : List Cond := [Cond.fieldLink RX5 28 "FloatOrderModel" "thrown" "I", Cond.methodLink RX5 32 yX5_in, Cond.static yX5_in, Cond.initialized RX5, Cond.code yX5_in cX5_in 3 (some .boolean), Cond.methodLink RX5 159 yX5_counted, Cond.instanceMethod yX5_counted, Cond.selects RX5 yX5_counted yX5_counted, Cond.code yX5_counted cX5_counted 2 (some .int), Cond.fieldLink RX5 7 "FloatOrderModel" "now" "[I", Cond.fieldLink RX5 36 "FloatOrderModel" "kept" "I", Cond.methodLink RX5 76 yX5_allTrouble, Cond.static yX5_allTrouble, Cond.code yX5_allTrouble cX5_allTrouble 3 (some .int), Cond.methodLink RX5 54 yX5_troubles, Cond.static yX5_troubles, Cond.code yX5_troubles cX5_troubles 2 (some .int), Cond.methodLink RX5 51 yX5_troubled, Cond.static yX5_troubled, Cond.code yX5_troubled cX5_troubled 6 (some .int), Cond.methodLink RX5 47 yX5_of, Cond.static yX5_of, Cond.code yX5_of cX5_of 3 (some .int), Cond.methodLink RX5 80 yX5_ends]
def wsX5_count_r2 : List Cond := [Cond.instanceMethod yX5_ends, Cond.selects RX5 yX5_ends yX5_ends, Cond.code yX5_ends cX5_ends 2 (some .int), Cond.methodLink RX5 65 yX5_goes, Cond.instanceMethod yX5_goes, Cond.selects RX5 yX5_goes yX5_goes, Cond.code yX5_goes cX5_goes 11 (some .int), Cond.fieldLink RX5 25 "FloatOrderModel" "minutes" "[I", Cond.methodLink RX5 61 yX5_isLowered, Cond.static yX5_isLowered, Cond.code yX5_isLowered cX5_isLowered 3 (some .boolean), Cond.methodLink RX5 58 yX5_high, Cond.static yX5_high, Cond.code yX5_high cX5_high 3 (some .int), Cond.methodLink RX5 156 yX5_overFloats, Cond.instanceMethod yX5_overFloats, Cond.selects RX5 yX5_overFloats yX5_overFloats, Cond.code yX5_overFloats cX5_overFloats 4 (some .int), Cond.methodLink RX5 143 yX5_bridgesOf, Cond.instanceMethod yX5_bridgesOf, Cond.selects RX5 yX5_bridgesOf yX5_bridgesOf, Cond.code yX5_bridgesOf cX5_bridgesOf 4 (some .int), Cond.methodLink RX5 43 yX5_fails, Cond.instanceMethod yX5_fails]
def wsX5_count_r3 : List Cond := [Cond.selects RX5 yX5_fails yX5_fails, Cond.code yX5_fails cX5_fails 2 (some .int)]
def wsX5_count : List Cond := .code yX5_count cX5_count 2 (some .int) :: ((wsX5_count_r1 ++ (wsX5_count_r2 ++ wsX5_count_r3)) ++ wsX50)
def wsX5_setting : List Cond := .code yX5_setting cX5_setting 2 (some .int) :: ([.fieldLink RX5 28 "FloatOrderModel" "thrown" "I", .fieldLink RX5 7 "FloatOrderModel" "now" "[I", .methodLink RX5 32 yX5_in, .static yX5_in, .initialized RX5, .code yX5_in cX5_in 3 (some .boolean), .methodLink RX5 43 yX5_fails, .instanceMethod yX5_fails, .selects RX5 yX5_fails yX5_fails, .code yX5_fails cX5_fails 2 (some .int)] ++ wsX50)
def wsX5_byMoving_r1 : List Cond := [Cond.fieldLink RX5 7 "FloatOrderModel" "now" "[I", Cond.fieldLink RX5 13 "FloatOrderModel" "then" "[I", Cond.methodLink RX5 39 yX5_copies, Cond.static yX5_copies, Cond.initialized RX5, Cond.code yX5_copies cX5_copies 5 none, Cond.methodLink RX5 97 yX5_moves, Cond.static yX5_moves, Cond.code yX5_moves cX5_moves 7 none, Cond.methodLink RX5 47 yX5_of, Cond.static yX5_of, Cond.code yX5_of cX5_of 3 (some .int), Cond.methodLink RX5 68 yX5_goesOut, Cond.static yX5_goesOut, Cond.code yX5_goesOut cX5_goesOut 3 none, Cond.methodLink RX5 72 yX5_puts, Cond.static yX5_puts, Cond.code yX5_puts cX5_puts 7 none, Cond.methodLink RX5 76 yX5_allTrouble, Cond.static yX5_allTrouble, Cond.code yX5_allTrouble cX5_allTrouble 3 (some .int), Cond.methodLink RX5 54 yX5_troubles, Cond.static yX5_troubles, Cond.code yX5_troubles cX5_troubles 2 (some .int)]
def wsX5_byMoving_r2 : List Cond := [Cond.methodLink RX5 51 yX5_troubled, Cond.static yX5_troubled, Cond.code yX5_troubled cX5_troubled 6 (some .int), Cond.methodLink RX5 80 yX5_ends, Cond.instanceMethod yX5_ends, Cond.selects RX5 yX5_ends yX5_ends, Cond.code yX5_ends cX5_ends 2 (some .int), Cond.methodLink RX5 65 yX5_goes, Cond.instanceMethod yX5_goes, Cond.selects RX5 yX5_goes yX5_goes, Cond.code yX5_goes cX5_goes 11 (some .int), Cond.fieldLink RX5 25 "FloatOrderModel" "minutes" "[I", Cond.methodLink RX5 61 yX5_isLowered, Cond.static yX5_isLowered, Cond.code yX5_isLowered cX5_isLowered 3 (some .boolean), Cond.methodLink RX5 58 yX5_high, Cond.static yX5_high, Cond.code yX5_high cX5_high 3 (some .int)]
def wsX5_byMoving : List Cond := .code yX5_byMoving cX5_byMoving 4 (some .int) :: ((wsX5_byMoving_r1 ++ wsX5_byMoving_r2) ++ wsX50)
def wsX5_ifMoved_r1 : List Cond := [Cond.fieldLink RX5 28 "FloatOrderModel" "thrown" "I", Cond.methodLink RX5 93 yX5_isFloat, Cond.instanceMethod yX5_isFloat, Cond.selects RX5 yX5_isFloat yX5_isFloat, Cond.initialized RX5, Cond.code yX5_isFloat cX5_isFloat 2 (some .boolean), Cond.fieldLink RX5 7 "FloatOrderModel" "now" "[I", Cond.methodLink RX5 32 yX5_in, Cond.static yX5_in, Cond.code yX5_in cX5_in 3 (some .boolean), Cond.methodLink RX5 43 yX5_fails, Cond.instanceMethod yX5_fails, Cond.selects RX5 yX5_fails yX5_fails, Cond.code yX5_fails cX5_fails 2 (some .int), Cond.methodLink RX5 162 yX5_byMoving, Cond.instanceMethod yX5_byMoving, Cond.selects RX5 yX5_byMoving yX5_byMoving, Cond.code yX5_byMoving cX5_byMoving 4 (some .int), Cond.fieldLink RX5 13 "FloatOrderModel" "then" "[I", Cond.methodLink RX5 39 yX5_copies, Cond.static yX5_copies, Cond.code yX5_copies cX5_copies 5 none, Cond.methodLink RX5 97 yX5_moves, Cond.static yX5_moves]
def wsX5_ifMoved_r2 : List Cond := [Cond.code yX5_moves cX5_moves 7 none, Cond.methodLink RX5 47 yX5_of, Cond.static yX5_of, Cond.code yX5_of cX5_of 3 (some .int), Cond.methodLink RX5 68 yX5_goesOut, Cond.static yX5_goesOut, Cond.code yX5_goesOut cX5_goesOut 3 none, Cond.methodLink RX5 72 yX5_puts, Cond.static yX5_puts, Cond.code yX5_puts cX5_puts 7 none, Cond.methodLink RX5 76 yX5_allTrouble, Cond.static yX5_allTrouble, Cond.code yX5_allTrouble cX5_allTrouble 3 (some .int), Cond.methodLink RX5 54 yX5_troubles, Cond.static yX5_troubles, Cond.code yX5_troubles cX5_troubles 2 (some .int), Cond.methodLink RX5 51 yX5_troubled, Cond.static yX5_troubled, Cond.code yX5_troubled cX5_troubled 6 (some .int), Cond.methodLink RX5 80 yX5_ends, Cond.instanceMethod yX5_ends, Cond.selects RX5 yX5_ends yX5_ends, Cond.code yX5_ends cX5_ends 2 (some .int), Cond.methodLink RX5 65 yX5_goes]
def wsX5_ifMoved_r3 : List Cond := [Cond.instanceMethod yX5_goes, Cond.selects RX5 yX5_goes yX5_goes, Cond.code yX5_goes cX5_goes 11 (some .int), Cond.fieldLink RX5 25 "FloatOrderModel" "minutes" "[I", Cond.methodLink RX5 61 yX5_isLowered, Cond.static yX5_isLowered, Cond.code yX5_isLowered cX5_isLowered 3 (some .boolean), Cond.methodLink RX5 58 yX5_high, Cond.static yX5_high, Cond.code yX5_high cX5_high 3 (some .int)]
def wsX5_ifMoved : List Cond := .code yX5_ifMoved cX5_ifMoved 4 (some .int) :: ((wsX5_ifMoved_r1 ++ (wsX5_ifMoved_r2 ++ wsX5_ifMoved_r3)) ++ wsX50)
def wsX5_best_r1 : List Cond := [Cond.fieldLink RX5 7 "FloatOrderModel" "now" "[I", Cond.constant RX5 166 (100000), Cond.methodLink RX5 162 yX5_byMoving, Cond.instanceMethod yX5_byMoving, Cond.selects RX5 yX5_byMoving yX5_byMoving, Cond.initialized RX5, Cond.code yX5_byMoving cX5_byMoving 4 (some .int), Cond.fieldLink RX5 13 "FloatOrderModel" "then" "[I", Cond.methodLink RX5 39 yX5_copies, Cond.static yX5_copies, Cond.code yX5_copies cX5_copies 5 none, Cond.methodLink RX5 97 yX5_moves, Cond.static yX5_moves, Cond.code yX5_moves cX5_moves 7 none, Cond.methodLink RX5 47 yX5_of, Cond.static yX5_of, Cond.code yX5_of cX5_of 3 (some .int), Cond.methodLink RX5 68 yX5_goesOut, Cond.static yX5_goesOut, Cond.code yX5_goesOut cX5_goesOut 3 none, Cond.methodLink RX5 72 yX5_puts, Cond.static yX5_puts, Cond.code yX5_puts cX5_puts 7 none, Cond.methodLink RX5 76 yX5_allTrouble]
def wsX5_best_r2 : List Cond := [Cond.static yX5_allTrouble, Cond.code yX5_allTrouble cX5_allTrouble 3 (some .int), Cond.methodLink RX5 54 yX5_troubles, Cond.static yX5_troubles, Cond.code yX5_troubles cX5_troubles 2 (some .int), Cond.methodLink RX5 51 yX5_troubled, Cond.static yX5_troubled, Cond.code yX5_troubled cX5_troubled 6 (some .int), Cond.methodLink RX5 80 yX5_ends, Cond.instanceMethod yX5_ends, Cond.selects RX5 yX5_ends yX5_ends, Cond.code yX5_ends cX5_ends 2 (some .int), Cond.methodLink RX5 65 yX5_goes, Cond.instanceMethod yX5_goes, Cond.selects RX5 yX5_goes yX5_goes, Cond.code yX5_goes cX5_goes 11 (some .int), Cond.fieldLink RX5 25 "FloatOrderModel" "minutes" "[I", Cond.methodLink RX5 61 yX5_isLowered, Cond.static yX5_isLowered, Cond.code yX5_isLowered cX5_isLowered 3 (some .boolean), Cond.methodLink RX5 58 yX5_high, Cond.static yX5_high, Cond.code yX5_high cX5_high 3 (some .int)]
def wsX5_best : List Cond := .code yX5_best cX5_best 6 (some .int) :: ((wsX5_best_r1 ++ wsX5_best_r2) ++ wsX50)
def wsX5_bestPlace_r1 : List Cond := [Cond.fieldLink RX5 28 "FloatOrderModel" "thrown" "I", Cond.methodLink RX5 93 yX5_isFloat, Cond.instanceMethod yX5_isFloat, Cond.selects RX5 yX5_isFloat yX5_isFloat, Cond.initialized RX5, Cond.code yX5_isFloat cX5_isFloat 2 (some .boolean), Cond.fieldLink RX5 7 "FloatOrderModel" "now" "[I", Cond.methodLink RX5 32 yX5_in, Cond.static yX5_in, Cond.code yX5_in cX5_in 3 (some .boolean), Cond.methodLink RX5 167 yX5_best, Cond.instanceMethod yX5_best, Cond.selects RX5 yX5_best yX5_best, Cond.code yX5_best cX5_best 6 (some .int), Cond.constant RX5 166 (100000), Cond.methodLink RX5 162 yX5_byMoving, Cond.instanceMethod yX5_byMoving, Cond.selects RX5 yX5_byMoving yX5_byMoving, Cond.code yX5_byMoving cX5_byMoving 4 (some .int), Cond.fieldLink RX5 13 "FloatOrderModel" "then" "[I", Cond.methodLink RX5 39 yX5_copies, Cond.static yX5_copies, Cond.code yX5_copies cX5_copies 5 none, Cond.methodLink RX5 97 yX5_moves]
def wsX5_bestPlace_r2 : List Cond := [Cond.static yX5_moves, Cond.code yX5_moves cX5_moves 7 none, Cond.methodLink RX5 47 yX5_of, Cond.static yX5_of, Cond.code yX5_of cX5_of 3 (some .int), Cond.methodLink RX5 68 yX5_goesOut, Cond.static yX5_goesOut, Cond.code yX5_goesOut cX5_goesOut 3 none, Cond.methodLink RX5 72 yX5_puts, Cond.static yX5_puts, Cond.code yX5_puts cX5_puts 7 none, Cond.methodLink RX5 76 yX5_allTrouble, Cond.static yX5_allTrouble, Cond.code yX5_allTrouble cX5_allTrouble 3 (some .int), Cond.methodLink RX5 54 yX5_troubles, Cond.static yX5_troubles, Cond.code yX5_troubles cX5_troubles 2 (some .int), Cond.methodLink RX5 51 yX5_troubled, Cond.static yX5_troubled, Cond.code yX5_troubled cX5_troubled 6 (some .int), Cond.methodLink RX5 80 yX5_ends, Cond.instanceMethod yX5_ends, Cond.selects RX5 yX5_ends yX5_ends, Cond.code yX5_ends cX5_ends 2 (some .int)]
def wsX5_bestPlace_r3 : List Cond := [Cond.methodLink RX5 65 yX5_goes, Cond.instanceMethod yX5_goes, Cond.selects RX5 yX5_goes yX5_goes, Cond.code yX5_goes cX5_goes 11 (some .int), Cond.fieldLink RX5 25 "FloatOrderModel" "minutes" "[I", Cond.methodLink RX5 61 yX5_isLowered, Cond.static yX5_isLowered, Cond.code yX5_isLowered cX5_isLowered 3 (some .boolean), Cond.methodLink RX5 58 yX5_high, Cond.static yX5_high, Cond.code yX5_high cX5_high 3 (some .int), Cond.methodLink RX5 43 yX5_fails, Cond.instanceMethod yX5_fails, Cond.selects RX5 yX5_fails yX5_fails, Cond.code yX5_fails cX5_fails 2 (some .int)]
def wsX5_bestPlace : List Cond := .code yX5_bestPlace cX5_bestPlace 2 (some .int) :: ((wsX5_bestPlace_r1 ++ (wsX5_bestPlace_r2 ++ wsX5_bestPlace_r3)) ++ wsX50)
def wsX5_folding : List Cond := .code yX5_folding cX5_folding 5 (some .int) :: ([.fieldLink RX5 7 "FloatOrderModel" "now" "[I", .fieldLink RX5 13 "FloatOrderModel" "then" "[I", .methodLink RX5 47 yX5_of, .static yX5_of, .initialized RX5, .code yX5_of cX5_of 3 (some .int), .methodLink RX5 39 yX5_copies, .static yX5_copies, .code yX5_copies cX5_copies 5 none, .methodLink RX5 80 yX5_ends, .instanceMethod yX5_ends, .selects RX5 yX5_ends yX5_ends, .code yX5_ends cX5_ends 2 (some .int), .methodLink RX5 65 yX5_goes, .instanceMethod yX5_goes, .selects RX5 yX5_goes yX5_goes, .code yX5_goes cX5_goes 11 (some .int), .fieldLink RX5 25 "FloatOrderModel" "minutes" "[I", .methodLink RX5 61 yX5_isLowered, .static yX5_isLowered, .code yX5_isLowered cX5_isLowered 3 (some .boolean), .methodLink RX5 58 yX5_high, .static yX5_high, .code yX5_high cX5_high 3 (some .int)] ++ wsX50)
def wsX5_bestFold_r1 : List Cond := [Cond.fieldLink RX5 28 "FloatOrderModel" "thrown" "I", Cond.methodLink RX5 170 yX5_folding, Cond.instanceMethod yX5_folding, Cond.selects RX5 yX5_folding yX5_folding, Cond.initialized RX5, Cond.code yX5_folding cX5_folding 5 (some .int), Cond.fieldLink RX5 7 "FloatOrderModel" "now" "[I", Cond.fieldLink RX5 13 "FloatOrderModel" "then" "[I", Cond.methodLink RX5 47 yX5_of, Cond.static yX5_of, Cond.code yX5_of cX5_of 3 (some .int), Cond.methodLink RX5 39 yX5_copies, Cond.static yX5_copies, Cond.code yX5_copies cX5_copies 5 none, Cond.methodLink RX5 80 yX5_ends, Cond.instanceMethod yX5_ends, Cond.selects RX5 yX5_ends yX5_ends, Cond.code yX5_ends cX5_ends 2 (some .int), Cond.methodLink RX5 65 yX5_goes, Cond.instanceMethod yX5_goes, Cond.selects RX5 yX5_goes yX5_goes, Cond.code yX5_goes cX5_goes 11 (some .int), Cond.fieldLink RX5 25 "FloatOrderModel" "minutes" "[I", Cond.methodLink RX5 61 yX5_isLowered]
def wsX5_bestFold_r2 : List Cond := [Cond.static yX5_isLowered, Cond.code yX5_isLowered cX5_isLowered 3 (some .boolean), Cond.methodLink RX5 58 yX5_high, Cond.static yX5_high, Cond.code yX5_high cX5_high 3 (some .int)]
def wsX5_bestFold : List Cond := .code yX5_bestFold cX5_bestFold 1 (some .int) :: ((wsX5_bestFold_r1 ++ wsX5_bestFold_r2) ++ wsX50)
def wsX5_orders : List Cond := .code yX5_orders cX5_orders 5 none :: ([.fieldLink RX5 7 "FloatOrderModel" "now" "[I", .fieldLink RX5 13 "FloatOrderModel" "then" "[I", .methodLink RX5 39 yX5_copies, .static yX5_copies, .initialized RX5, .code yX5_copies cX5_copies 5 none, .methodLink RX5 97 yX5_moves, .static yX5_moves, .code yX5_moves cX5_moves 7 none, .methodLink RX5 47 yX5_of, .static yX5_of, .code yX5_of cX5_of 3 (some .int), .methodLink RX5 68 yX5_goesOut, .static yX5_goesOut, .code yX5_goesOut cX5_goesOut 3 none, .methodLink RX5 72 yX5_puts, .static yX5_puts, .code yX5_puts cX5_puts 7 none] ++ wsX50)
def wsX5_least_r1 : List Cond := [Cond.fieldLink RX5 7 "FloatOrderModel" "now" "[I", Cond.fieldLink RX5 13 "FloatOrderModel" "then" "[I", Cond.methodLink RX5 76 yX5_allTrouble, Cond.static yX5_allTrouble, Cond.initialized RX5, Cond.code yX5_allTrouble cX5_allTrouble 3 (some .int), Cond.methodLink RX5 54 yX5_troubles, Cond.static yX5_troubles, Cond.code yX5_troubles cX5_troubles 2 (some .int), Cond.methodLink RX5 51 yX5_troubled, Cond.static yX5_troubled, Cond.code yX5_troubled cX5_troubled 6 (some .int), Cond.methodLink RX5 47 yX5_of, Cond.static yX5_of, Cond.code yX5_of cX5_of 3 (some .int), Cond.methodLink RX5 173 yX5_orders, Cond.instanceMethod yX5_orders, Cond.selects RX5 yX5_orders yX5_orders, Cond.code yX5_orders cX5_orders 5 none, Cond.methodLink RX5 39 yX5_copies, Cond.static yX5_copies, Cond.code yX5_copies cX5_copies 5 none, Cond.methodLink RX5 97 yX5_moves, Cond.static yX5_moves]
def wsX5_least_r2 : List Cond := [Cond.code yX5_moves cX5_moves 7 none, Cond.methodLink RX5 68 yX5_goesOut, Cond.static yX5_goesOut, Cond.code yX5_goesOut cX5_goesOut 3 none, Cond.methodLink RX5 72 yX5_puts, Cond.static yX5_puts, Cond.code yX5_puts cX5_puts 7 none]
def wsX5_least : List Cond := .code yX5_least cX5_least 4 (some .int) :: ((wsX5_least_r1 ++ wsX5_least_r2) ++ wsX50)
def wsX5_leastTrouble_r1 : List Cond := [Cond.fieldLink RX5 28 "FloatOrderModel" "thrown" "I", Cond.methodLink RX5 177 yX5_least, Cond.instanceMethod yX5_least, Cond.selects RX5 yX5_least yX5_least, Cond.initialized RX5, Cond.code yX5_least cX5_least 4 (some .int), Cond.fieldLink RX5 7 "FloatOrderModel" "now" "[I", Cond.fieldLink RX5 13 "FloatOrderModel" "then" "[I", Cond.methodLink RX5 76 yX5_allTrouble, Cond.static yX5_allTrouble, Cond.code yX5_allTrouble cX5_allTrouble 3 (some .int), Cond.methodLink RX5 54 yX5_troubles, Cond.static yX5_troubles, Cond.code yX5_troubles cX5_troubles 2 (some .int), Cond.methodLink RX5 51 yX5_troubled, Cond.static yX5_troubled, Cond.code yX5_troubled cX5_troubled 6 (some .int), Cond.methodLink RX5 47 yX5_of, Cond.static yX5_of, Cond.code yX5_of cX5_of 3 (some .int), Cond.methodLink RX5 173 yX5_orders, Cond.instanceMethod yX5_orders, Cond.selects RX5 yX5_orders yX5_orders, Cond.code yX5_orders cX5_orders 5 none]
def wsX5_leastTrouble_r2 : List Cond := [Cond.methodLink RX5 39 yX5_copies, Cond.static yX5_copies, Cond.code yX5_copies cX5_copies 5 none, Cond.methodLink RX5 97 yX5_moves, Cond.static yX5_moves, Cond.code yX5_moves cX5_moves 7 none, Cond.methodLink RX5 68 yX5_goesOut, Cond.static yX5_goesOut, Cond.code yX5_goesOut cX5_goesOut 3 none, Cond.methodLink RX5 72 yX5_puts, Cond.static yX5_puts, Cond.code yX5_puts cX5_puts 7 none]
def wsX5_leastTrouble : List Cond := .code yX5_leastTrouble cX5_leastTrouble 1 (some .int) :: ((wsX5_leastTrouble_r1 ++ wsX5_leastTrouble_r2) ++ wsX50)
def wsX5_smooth_r1 : List Cond := [Cond.fieldLink RX5 7 "FloatOrderModel" "now" "[I", Cond.methodLink RX5 156 yX5_overFloats, Cond.instanceMethod yX5_overFloats, Cond.selects RX5 yX5_overFloats yX5_overFloats, Cond.initialized RX5, Cond.code yX5_overFloats cX5_overFloats 4 (some .int), Cond.methodLink RX5 143 yX5_bridgesOf, Cond.instanceMethod yX5_bridgesOf, Cond.selects RX5 yX5_bridgesOf yX5_bridgesOf, Cond.code yX5_bridgesOf cX5_bridgesOf 4 (some .int), Cond.methodLink RX5 61 yX5_isLowered, Cond.static yX5_isLowered, Cond.code yX5_isLowered cX5_isLowered 3 (some .boolean), Cond.methodLink RX5 58 yX5_high, Cond.static yX5_high, Cond.code yX5_high cX5_high 3 (some .int), Cond.methodLink RX5 47 yX5_of, Cond.static yX5_of, Cond.code yX5_of cX5_of 3 (some .int), Cond.methodLink RX5 54 yX5_troubles, Cond.static yX5_troubles, Cond.code yX5_troubles cX5_troubles 2 (some .int), Cond.methodLink RX5 51 yX5_troubled, Cond.static yX5_troubled]
def wsX5_smooth_r2 : List Cond := [Cond.code yX5_troubled cX5_troubled 6 (some .int)]
def wsX5_smooth : List Cond := .code yX5_smooth cX5_smooth 1 (some .double) :: ((wsX5_smooth_r1 ++ wsX5_smooth_r2) ++ wsX50)
def wsX5_smoothness_r1 : List Cond := [Cond.fieldLink RX5 28 "FloatOrderModel" "thrown" "I", Cond.methodLink RX5 180 yX5_smooth, Cond.instanceMethod yX5_smooth, Cond.selects RX5 yX5_smooth yX5_smooth, Cond.initialized RX5, Cond.code yX5_smooth cX5_smooth 1 (some .double), Cond.fieldLink RX5 7 "FloatOrderModel" "now" "[I", Cond.methodLink RX5 156 yX5_overFloats, Cond.instanceMethod yX5_overFloats, Cond.selects RX5 yX5_overFloats yX5_overFloats, Cond.code yX5_overFloats cX5_overFloats 4 (some .int), Cond.methodLink RX5 143 yX5_bridgesOf, Cond.instanceMethod yX5_bridgesOf, Cond.selects RX5 yX5_bridgesOf yX5_bridgesOf, Cond.code yX5_bridgesOf cX5_bridgesOf 4 (some .int), Cond.methodLink RX5 61 yX5_isLowered, Cond.static yX5_isLowered, Cond.code yX5_isLowered cX5_isLowered 3 (some .boolean), Cond.methodLink RX5 58 yX5_high, Cond.static yX5_high, Cond.code yX5_high cX5_high 3 (some .int), Cond.methodLink RX5 47 yX5_of, Cond.static yX5_of, Cond.code yX5_of cX5_of 3 (some .int)]
def wsX5_smoothness_r2 : List Cond := [Cond.methodLink RX5 54 yX5_troubles, Cond.static yX5_troubles, Cond.code yX5_troubles cX5_troubles 2 (some .int), Cond.methodLink RX5 51 yX5_troubled, Cond.static yX5_troubled, Cond.code yX5_troubled cX5_troubled 6 (some .int)]
def wsX5_smoothness : List Cond := .code yX5_smoothness cX5_smoothness 1 (some .double) :: ((wsX5_smoothness_r1 ++ wsX5_smoothness_r2) ++ wsX50)
def wsJxe99ae_isNaN_b9ae7 : List Cond := .code yJxe99ae_isNaN_b9ae7 cJxe99ae_isNaN_b9ae7 2 (some .boolean) :: ([])
def wsJxe99ae_doubleToLongBits_ccdee : List Cond := .code yJxe99ae_doubleToLongBits_ccdee cJxe99ae_doubleToLongBits_ccdee 2 (some .long) :: ([.methodLink RJxe99ae 134 ⟨"java/lang/Double", "doubleToRawLongBits", "(D)J"⟩, .native ⟨"java/lang/Double", "doubleToRawLongBits", "(D)J"⟩, .static ⟨"java/lang/Double", "doubleToRawLongBits", "(D)J"⟩, .initialized "java/lang/Double", .constantLong RJxe99ae 137 (9221120237041090560), .methodLink RJxe99ae 122 yJxe99ae_isNaN_b9ae7, .static yJxe99ae_isNaN_b9ae7, .initialized RJxe99ae, .code yJxe99ae_isNaN_b9ae7 cJxe99ae_isNaN_b9ae7 2 (some .boolean)])
def wsX5_digest_r1 : List Cond := [Cond.fieldLink RX5 28 "FloatOrderModel" "thrown" "I", Cond.constantLong RX5 184 (2971), Cond.constantLong RX5 186 (31), Cond.fieldLink RX5 7 "FloatOrderModel" "now" "[I", Cond.fieldLink RX5 25 "FloatOrderModel" "minutes" "[I", Cond.fieldLink RX5 110 "FloatOrderModel" "typed" "I", Cond.fieldLink RX5 19 "FloatOrderModel" "text" "[I", Cond.methodLink RX5 159 yX5_counted, Cond.instanceMethod yX5_counted, Cond.selects RX5 yX5_counted yX5_counted, Cond.initialized RX5, Cond.code yX5_counted cX5_counted 2 (some .int), Cond.fieldLink RX5 36 "FloatOrderModel" "kept" "I", Cond.methodLink RX5 76 yX5_allTrouble, Cond.static yX5_allTrouble, Cond.code yX5_allTrouble cX5_allTrouble 3 (some .int), Cond.methodLink RX5 54 yX5_troubles, Cond.static yX5_troubles, Cond.code yX5_troubles cX5_troubles 2 (some .int), Cond.methodLink RX5 51 yX5_troubled, Cond.static yX5_troubled, Cond.code yX5_troubled cX5_troubled 6 (some .int), Cond.methodLink RX5 47 yX5_of, Cond.static yX5_of]
def wsX5_digest_r2 : List Cond := [Cond.code yX5_of cX5_of 3 (some .int), Cond.methodLink RX5 80 yX5_ends, Cond.instanceMethod yX5_ends, Cond.selects RX5 yX5_ends yX5_ends, Cond.code yX5_ends cX5_ends 2 (some .int), Cond.methodLink RX5 65 yX5_goes, Cond.instanceMethod yX5_goes, Cond.selects RX5 yX5_goes yX5_goes, Cond.code yX5_goes cX5_goes 11 (some .int), Cond.methodLink RX5 61 yX5_isLowered, Cond.static yX5_isLowered, Cond.code yX5_isLowered cX5_isLowered 3 (some .boolean), Cond.methodLink RX5 58 yX5_high, Cond.static yX5_high, Cond.code yX5_high cX5_high 3 (some .int), Cond.methodLink RX5 156 yX5_overFloats, Cond.instanceMethod yX5_overFloats, Cond.selects RX5 yX5_overFloats yX5_overFloats, Cond.code yX5_overFloats cX5_overFloats 4 (some .int), Cond.methodLink RX5 143 yX5_bridgesOf, Cond.instanceMethod yX5_bridgesOf, Cond.selects RX5 yX5_bridgesOf yX5_bridgesOf, Cond.code yX5_bridgesOf cX5_bridgesOf 4 (some .int), Cond.methodLink RX5 153 yX5_ofBridge]
def wsX5_digest_r3 : List Cond := [Cond.instanceMethod yX5_ofBridge, Cond.selects RX5 yX5_ofBridge yX5_ofBridge, Cond.code yX5_ofBridge cX5_ofBridge 3 (some .int), Cond.methodLink RX5 150 yX5_loweredAt, Cond.instanceMethod yX5_loweredAt, Cond.selects RX5 yX5_loweredAt yX5_loweredAt, Cond.code yX5_loweredAt cX5_loweredAt 4 (some .int), Cond.methodLink RX5 146 yX5_ofFloat, Cond.instanceMethod yX5_ofFloat, Cond.selects RX5 yX5_ofFloat yX5_ofFloat, Cond.code yX5_ofFloat cX5_ofFloat 3 (some .int), Cond.methodLink RX5 167 yX5_best, Cond.instanceMethod yX5_best, Cond.selects RX5 yX5_best yX5_best, Cond.code yX5_best cX5_best 6 (some .int), Cond.constant RX5 166 (100000), Cond.methodLink RX5 162 yX5_byMoving, Cond.instanceMethod yX5_byMoving, Cond.selects RX5 yX5_byMoving yX5_byMoving, Cond.code yX5_byMoving cX5_byMoving 4 (some .int), Cond.fieldLink RX5 13 "FloatOrderModel" "then" "[I", Cond.methodLink RX5 39 yX5_copies, Cond.static yX5_copies, Cond.code yX5_copies cX5_copies 5 none]
def wsX5_digest_r4 : List Cond := [Cond.methodLink RX5 97 yX5_moves, Cond.static yX5_moves, Cond.code yX5_moves cX5_moves 7 none, Cond.methodLink RX5 68 yX5_goesOut, Cond.static yX5_goesOut, Cond.code yX5_goesOut cX5_goesOut 3 none, Cond.methodLink RX5 72 yX5_puts, Cond.static yX5_puts, Cond.code yX5_puts cX5_puts 7 none, Cond.methodLink RX5 170 yX5_folding, Cond.instanceMethod yX5_folding, Cond.selects RX5 yX5_folding yX5_folding, Cond.code yX5_folding cX5_folding 5 (some .int), Cond.methodLink RX5 177 yX5_least, Cond.instanceMethod yX5_least, Cond.selects RX5 yX5_least yX5_least, Cond.code yX5_least cX5_least 4 (some .int), Cond.methodLink RX5 173 yX5_orders, Cond.instanceMethod yX5_orders, Cond.selects RX5 yX5_orders yX5_orders, Cond.code yX5_orders cX5_orders 5 none, Cond.methodLink RX5 180 yX5_smooth, Cond.instanceMethod yX5_smooth, Cond.selects RX5 yX5_smooth yX5_smooth]
def wsX5_digest_r5 : List Cond := [Cond.code yX5_smooth cX5_smooth 1 (some .double), Cond.methodLink RX5 188 yJxe99ae_doubleToLongBits_ccdee, Cond.static yJxe99ae_doubleToLongBits_ccdee, Cond.initialized RJxe99ae, Cond.code yJxe99ae_doubleToLongBits_ccdee cJxe99ae_doubleToLongBits_ccdee 2 (some .long), Cond.methodLink RJxe99ae 134 ⟨"java/lang/Double", "doubleToRawLongBits", "(D)J"⟩, Cond.native ⟨"java/lang/Double", "doubleToRawLongBits", "(D)J"⟩, Cond.static ⟨"java/lang/Double", "doubleToRawLongBits", "(D)J"⟩, Cond.initialized "java/lang/Double", Cond.constantLong RJxe99ae 137 (9221120237041090560), Cond.methodLink RJxe99ae 122 yJxe99ae_isNaN_b9ae7, Cond.static yJxe99ae_isNaN_b9ae7, Cond.code yJxe99ae_isNaN_b9ae7 cJxe99ae_isNaN_b9ae7 2 (some .boolean)]
def wsX5_digest : List Cond := .code yX5_digest cX5_digest 5 (some .long) :: ((wsX5_digest_r1 ++ (wsX5_digest_r2 ++ (wsX5_digest_r3 ++ (wsX5_digest_r4 ++ wsX5_digest_r5)))) ++ wsX50)
def wsJ9_max_7cf53 : List Cond := .code yJ9_max_7cf53 cJ9_max_7cf53 2 (some .int) :: ([])
def wsL_put_r1 : List Cond := [Cond.classLink RL 13 "java/lang/IndexOutOfBoundsException", Cond.classLink RL 15 "java/lang/IllegalArgumentException", Cond.classLink RL 17 "java/lang/IllegalStateException", Cond.methodLink RL 7 yX4_put, Cond.instanceMethod yX4_put, Cond.selects RX4 yX4_put yX4_put, Cond.initialized RX4, Cond.code yX4_put cX4_put 5 (some .int), Cond.classLink RX4 51 "java/lang/IndexOutOfBoundsException", Cond.initialized "java/lang/IndexOutOfBoundsException", Cond.classLink RX4 62 "java/lang/IllegalArgumentException", Cond.initialized "java/lang/IllegalArgumentException", Cond.classLink RX4 67 "java/lang/IllegalStateException", Cond.initialized "java/lang/IllegalStateException", Cond.fieldLink RX4 10 "FloatOrder" "parade" "LFloatOrder$Parade;", Cond.fieldLink RX4 48 "FloatOrder$Parade" "floats" "I", Cond.fieldLink RX4 22 "FloatOrder" "history" "LFloatOrder$History;", Cond.methodLink RX4 58 yX4_isFloat, Cond.static yX4_isFloat, Cond.code yX4_isFloat cX4_isFloat 3 (some .boolean), Cond.methodLink RX4 111 yX4_isHeight, Cond.static yX4_isHeight, Cond.code yX4_isHeight cX4_isHeight 1 (some .boolean), Cond.methodLink RX4 72 yX1_save]
def wsL_put_r2 : List Cond := [Cond.instanceMethod yX1_save, Cond.selects RX1 yX1_save yX1_save, Cond.initialized RX1, Cond.code yX1_save cX1_save 2 none, Cond.fieldLink RX1 17 "FloatOrder$History" "size" "I", Cond.fieldLink RX1 11 "FloatOrder$History" "saved" "[LFloatOrder$Parade;", Cond.methodLink RX1 22 yX1_dropOldest, Cond.instanceMethod yX1_dropOldest, Cond.selects RX1 yX1_dropOldest yX1_dropOldest, Cond.code yX1_dropOldest cX1_dropOldest 3 none, Cond.methodLink RX1 25 yX2_copyFrom, Cond.instanceMethod yX2_copyFrom, Cond.selects RX2 yX2_copyFrom yX2_copyFrom, Cond.initialized RX2, Cond.code yX2_copyFrom cX2_copyFrom 3 none, Cond.fieldLink RX2 9 "FloatOrder$Parade" "floats" "I", Cond.fieldLink RX2 15 "FloatOrder$Parade" "kinds" "[I", Cond.fieldLink RX2 19 "FloatOrder$Parade" "heights" "[I", Cond.fieldLink RX2 22 "FloatOrder$Parade" "masks" "[I", Cond.fieldLink RX2 25 "FloatOrder$Parade" "folded" "[Z", Cond.fieldLink RX2 29 "FloatOrder$Parade" "bridges" "I", Cond.fieldLink RX2 32 "FloatOrder$Parade" "distances" "[I", Cond.fieldLink RX2 35 "FloatOrder$Parade" "clearances" "[I", Cond.fieldLink RX2 38 "FloatOrder$Parade" "settings" "[I"]
def wsL_put_r3 : List Cond := [Cond.methodLink RX4 76 yX2_addLast, Cond.instanceMethod yX2_addLast, Cond.selects RX2 yX2_addLast yX2_addLast, Cond.code yX2_addLast cX2_addLast 4 none, Cond.methodLink RX4 80 yX2_shift, Cond.instanceMethod yX2_shift, Cond.selects RX2 yX2_shift yX2_shift, Cond.code yX2_shift cX2_shift 4 none, Cond.methodLink RX2 51 yX2_swap, Cond.instanceMethod yX2_swap, Cond.selects RX2 yX2_swap yX2_swap, Cond.code yX2_swap cX2_swap 7 none]
def wsL_put : List Cond := .codeWith yL_put cL_put 7 (some .int) [(0, 14, 17, 13), (0, 14, 21, 15), (0, 14, 25, 17)] :: ((wsL_put_r1 ++ (wsL_put_r2 ++ wsL_put_r3)) ++ wsX40 ++ wsX20 ++ wsX10 ++ (vx_atS RX4 55 "java/lang/IndexOutOfBoundsException" ["java/lang/RuntimeException", "java/lang/Exception"]).filter goodWord ++ (vx_atS RX4 66 "java/lang/IllegalArgumentException" ["java/lang/RuntimeException", "java/lang/Exception"]).filter goodWord ++ (vx_atS RX4 71 "java/lang/IllegalStateException" ["java/lang/RuntimeException", "java/lang/Exception"]).filter goodWord)
def wsL_remove_r1 : List Cond := [Cond.classLink RL 13 "java/lang/IndexOutOfBoundsException", Cond.methodLink RL 19 yX4_remove, Cond.instanceMethod yX4_remove, Cond.selects RX4 yX4_remove yX4_remove, Cond.initialized RX4, Cond.code yX4_remove cX4_remove 2 (some .int), Cond.fieldLink RX4 22 "FloatOrder" "history" "LFloatOrder$History;", Cond.fieldLink RX4 10 "FloatOrder" "parade" "LFloatOrder$Parade;", Cond.fieldLink RX4 48 "FloatOrder$Parade" "floats" "I", Cond.methodLink RX4 84 yX4_needFloat, Cond.instanceMethod yX4_needFloat, Cond.selects RX4 yX4_needFloat yX4_needFloat, Cond.code yX4_needFloat cX4_needFloat 2 none, Cond.classLink RX4 51 "java/lang/IndexOutOfBoundsException", Cond.initialized "java/lang/IndexOutOfBoundsException", Cond.methodLink RX4 72 yX1_save, Cond.instanceMethod yX1_save, Cond.selects RX1 yX1_save yX1_save, Cond.initialized RX1, Cond.code yX1_save cX1_save 2 none, Cond.fieldLink RX1 17 "FloatOrder$History" "size" "I", Cond.fieldLink RX1 11 "FloatOrder$History" "saved" "[LFloatOrder$Parade;", Cond.methodLink RX1 22 yX1_dropOldest, Cond.instanceMethod yX1_dropOldest]
def wsL_remove_r2 : List Cond := [Cond.selects RX1 yX1_dropOldest yX1_dropOldest, Cond.code yX1_dropOldest cX1_dropOldest 3 none, Cond.methodLink RX1 25 yX2_copyFrom, Cond.instanceMethod yX2_copyFrom, Cond.selects RX2 yX2_copyFrom yX2_copyFrom, Cond.initialized RX2, Cond.code yX2_copyFrom cX2_copyFrom 3 none, Cond.fieldLink RX2 9 "FloatOrder$Parade" "floats" "I", Cond.fieldLink RX2 15 "FloatOrder$Parade" "kinds" "[I", Cond.fieldLink RX2 19 "FloatOrder$Parade" "heights" "[I", Cond.fieldLink RX2 22 "FloatOrder$Parade" "masks" "[I", Cond.fieldLink RX2 25 "FloatOrder$Parade" "folded" "[Z", Cond.fieldLink RX2 29 "FloatOrder$Parade" "bridges" "I", Cond.fieldLink RX2 32 "FloatOrder$Parade" "distances" "[I", Cond.fieldLink RX2 35 "FloatOrder$Parade" "clearances" "[I", Cond.fieldLink RX2 38 "FloatOrder$Parade" "settings" "[I", Cond.methodLink RX4 88 yX2_takeAway, Cond.instanceMethod yX2_takeAway, Cond.selects RX2 yX2_takeAway yX2_takeAway, Cond.code yX2_takeAway cX2_takeAway 2 none, Cond.methodLink RX2 47 yX2_shift, Cond.instanceMethod yX2_shift, Cond.selects RX2 yX2_shift yX2_shift, Cond.code yX2_shift cX2_shift 4 none]
def wsL_remove_r3 : List Cond := [Cond.methodLink RX2 51 yX2_swap, Cond.instanceMethod yX2_swap, Cond.selects RX2 yX2_swap yX2_swap, Cond.code yX2_swap cX2_swap 7 none]
def wsL_remove : List Cond := .codeWith yL_remove cL_remove 4 (some .int) [(0, 9, 12, 13)] :: ((wsL_remove_r1 ++ (wsL_remove_r2 ++ wsL_remove_r3)) ++ wsX40 ++ wsX20 ++ wsX10 ++ (vx_atS RX4 55 "java/lang/IndexOutOfBoundsException" ["java/lang/RuntimeException", "java/lang/Exception"]).filter goodWord)
def wsL_move_r1 : List Cond := [Cond.classLink RL 13 "java/lang/IndexOutOfBoundsException", Cond.methodLink RL 23 yX4_move, Cond.instanceMethod yX4_move, Cond.selects RX4 yX4_move yX4_move, Cond.initialized RX4, Cond.code yX4_move cX4_move 3 (some .int), Cond.fieldLink RX4 22 "FloatOrder" "history" "LFloatOrder$History;", Cond.fieldLink RX4 10 "FloatOrder" "parade" "LFloatOrder$Parade;", Cond.methodLink RX4 84 yX4_needFloat, Cond.instanceMethod yX4_needFloat, Cond.selects RX4 yX4_needFloat yX4_needFloat, Cond.code yX4_needFloat cX4_needFloat 2 none, Cond.classLink RX4 51 "java/lang/IndexOutOfBoundsException", Cond.initialized "java/lang/IndexOutOfBoundsException", Cond.fieldLink RX4 48 "FloatOrder$Parade" "floats" "I", Cond.methodLink RX4 72 yX1_save, Cond.instanceMethod yX1_save, Cond.selects RX1 yX1_save yX1_save, Cond.initialized RX1, Cond.code yX1_save cX1_save 2 none, Cond.fieldLink RX1 17 "FloatOrder$History" "size" "I", Cond.fieldLink RX1 11 "FloatOrder$History" "saved" "[LFloatOrder$Parade;", Cond.methodLink RX1 22 yX1_dropOldest, Cond.instanceMethod yX1_dropOldest]
def wsL_move_r2 : List Cond := [Cond.selects RX1 yX1_dropOldest yX1_dropOldest, Cond.code yX1_dropOldest cX1_dropOldest 3 none, Cond.methodLink RX1 25 yX2_copyFrom, Cond.instanceMethod yX2_copyFrom, Cond.selects RX2 yX2_copyFrom yX2_copyFrom, Cond.initialized RX2, Cond.code yX2_copyFrom cX2_copyFrom 3 none, Cond.fieldLink RX2 9 "FloatOrder$Parade" "floats" "I", Cond.fieldLink RX2 15 "FloatOrder$Parade" "kinds" "[I", Cond.fieldLink RX2 19 "FloatOrder$Parade" "heights" "[I", Cond.fieldLink RX2 22 "FloatOrder$Parade" "masks" "[I", Cond.fieldLink RX2 25 "FloatOrder$Parade" "folded" "[Z", Cond.fieldLink RX2 29 "FloatOrder$Parade" "bridges" "I", Cond.fieldLink RX2 32 "FloatOrder$Parade" "distances" "[I", Cond.fieldLink RX2 35 "FloatOrder$Parade" "clearances" "[I", Cond.fieldLink RX2 38 "FloatOrder$Parade" "settings" "[I", Cond.methodLink RX4 80 yX2_shift, Cond.instanceMethod yX2_shift, Cond.selects RX2 yX2_shift yX2_shift, Cond.code yX2_shift cX2_shift 4 none, Cond.methodLink RX2 51 yX2_swap, Cond.instanceMethod yX2_swap, Cond.selects RX2 yX2_swap yX2_swap, Cond.code yX2_swap cX2_swap 7 none]
def wsL_move_r3 : List Cond := [Cond.methodLink RX4 91 yX2_allTrouble, Cond.instanceMethod yX2_allTrouble, Cond.selects RX2 yX2_allTrouble yX2_allTrouble, Cond.code yX2_allTrouble cX2_allTrouble 3 (some .int), Cond.methodLink RX2 61 yX2_troubleAt, Cond.instanceMethod yX2_troubleAt, Cond.selects RX2 yX2_troubleAt yX2_troubleAt, Cond.code yX2_troubleAt cX2_troubleAt 2 (some .int), Cond.methodLink RX2 70 yX2_shying, Cond.instanceMethod yX2_shying, Cond.selects RX2 yX2_shying yX2_shying, Cond.code yX2_shying cX2_shying 3 (some .int), Cond.methodLink RX2 73 yX2_hearing, Cond.instanceMethod yX2_hearing, Cond.selects RX2 yX2_hearing yX2_hearing, Cond.code yX2_hearing cX2_hearing 4 (some .int), Cond.methodLink RX2 76 yX2_meeting, Cond.instanceMethod yX2_meeting, Cond.selects RX2 yX2_meeting yX2_meeting, Cond.code yX2_meeting cX2_meeting 2 (some .int)]
def wsL_move : List Cond := .codeWith yL_move cL_move 5 (some .int) [(0, 10, 13, 13)] :: ((wsL_move_r1 ++ (wsL_move_r2 ++ wsL_move_r3)) ++ wsX40 ++ wsX20 ++ wsX10 ++ (vx_atS RX4 55 "java/lang/IndexOutOfBoundsException" ["java/lang/RuntimeException", "java/lang/Exception"]).filter goodWord)
def wsL_exchange_r1 : List Cond := [Cond.classLink RL 13 "java/lang/IndexOutOfBoundsException", Cond.methodLink RL 27 yX4_exchange, Cond.instanceMethod yX4_exchange, Cond.selects RX4 yX4_exchange yX4_exchange, Cond.initialized RX4, Cond.code yX4_exchange cX4_exchange 3 (some .int), Cond.fieldLink RX4 22 "FloatOrder" "history" "LFloatOrder$History;", Cond.fieldLink RX4 10 "FloatOrder" "parade" "LFloatOrder$Parade;", Cond.methodLink RX4 84 yX4_needFloat, Cond.instanceMethod yX4_needFloat, Cond.selects RX4 yX4_needFloat yX4_needFloat, Cond.code yX4_needFloat cX4_needFloat 2 none, Cond.classLink RX4 51 "java/lang/IndexOutOfBoundsException", Cond.initialized "java/lang/IndexOutOfBoundsException", Cond.fieldLink RX4 48 "FloatOrder$Parade" "floats" "I", Cond.methodLink RX4 72 yX1_save, Cond.instanceMethod yX1_save, Cond.selects RX1 yX1_save yX1_save, Cond.initialized RX1, Cond.code yX1_save cX1_save 2 none, Cond.fieldLink RX1 17 "FloatOrder$History" "size" "I", Cond.fieldLink RX1 11 "FloatOrder$History" "saved" "[LFloatOrder$Parade;", Cond.methodLink RX1 22 yX1_dropOldest, Cond.instanceMethod yX1_dropOldest]
def wsL_exchange_r2 : List Cond := [Cond.selects RX1 yX1_dropOldest yX1_dropOldest, Cond.code yX1_dropOldest cX1_dropOldest 3 none, Cond.methodLink RX1 25 yX2_copyFrom, Cond.instanceMethod yX2_copyFrom, Cond.selects RX2 yX2_copyFrom yX2_copyFrom, Cond.initialized RX2, Cond.code yX2_copyFrom cX2_copyFrom 3 none, Cond.fieldLink RX2 9 "FloatOrder$Parade" "floats" "I", Cond.fieldLink RX2 15 "FloatOrder$Parade" "kinds" "[I", Cond.fieldLink RX2 19 "FloatOrder$Parade" "heights" "[I", Cond.fieldLink RX2 22 "FloatOrder$Parade" "masks" "[I", Cond.fieldLink RX2 25 "FloatOrder$Parade" "folded" "[Z", Cond.fieldLink RX2 29 "FloatOrder$Parade" "bridges" "I", Cond.fieldLink RX2 32 "FloatOrder$Parade" "distances" "[I", Cond.fieldLink RX2 35 "FloatOrder$Parade" "clearances" "[I", Cond.fieldLink RX2 38 "FloatOrder$Parade" "settings" "[I", Cond.methodLink RX4 95 yX2_swap, Cond.instanceMethod yX2_swap, Cond.selects RX2 yX2_swap yX2_swap, Cond.code yX2_swap cX2_swap 7 none, Cond.methodLink RX4 91 yX2_allTrouble, Cond.instanceMethod yX2_allTrouble, Cond.selects RX2 yX2_allTrouble yX2_allTrouble, Cond.code yX2_allTrouble cX2_allTrouble 3 (some .int)]
def wsL_exchange_r3 : List Cond := [Cond.methodLink RX2 61 yX2_troubleAt, Cond.instanceMethod yX2_troubleAt, Cond.selects RX2 yX2_troubleAt yX2_troubleAt, Cond.code yX2_troubleAt cX2_troubleAt 2 (some .int), Cond.methodLink RX2 70 yX2_shying, Cond.instanceMethod yX2_shying, Cond.selects RX2 yX2_shying yX2_shying, Cond.code yX2_shying cX2_shying 3 (some .int), Cond.methodLink RX2 73 yX2_hearing, Cond.instanceMethod yX2_hearing, Cond.selects RX2 yX2_hearing yX2_hearing, Cond.code yX2_hearing cX2_hearing 4 (some .int), Cond.methodLink RX2 76 yX2_meeting, Cond.instanceMethod yX2_meeting, Cond.selects RX2 yX2_meeting yX2_meeting, Cond.code yX2_meeting cX2_meeting 2 (some .int)]
def wsL_exchange : List Cond := .codeWith yL_exchange cL_exchange 5 (some .int) [(0, 10, 13, 13)] :: ((wsL_exchange_r1 ++ (wsL_exchange_r2 ++ wsL_exchange_r3)) ++ wsX40 ++ wsX20 ++ wsX10 ++ (vx_atS RX4 55 "java/lang/IndexOutOfBoundsException" ["java/lang/RuntimeException", "java/lang/Exception"]).filter goodWord)
def wsL_fold_r1 : List Cond := [Cond.classLink RL 13 "java/lang/IndexOutOfBoundsException", Cond.methodLink RL 30 yX4_fold, Cond.instanceMethod yX4_fold, Cond.selects RX4 yX4_fold yX4_fold, Cond.initialized RX4, Cond.code yX4_fold cX4_fold 3 (some .int), Cond.fieldLink RX4 22 "FloatOrder" "history" "LFloatOrder$History;", Cond.fieldLink RX4 10 "FloatOrder" "parade" "LFloatOrder$Parade;", Cond.fieldLink RX4 98 "FloatOrder$Parade" "folded" "[Z", Cond.methodLink RX4 84 yX4_needFloat, Cond.instanceMethod yX4_needFloat, Cond.selects RX4 yX4_needFloat yX4_needFloat, Cond.code yX4_needFloat cX4_needFloat 2 none, Cond.classLink RX4 51 "java/lang/IndexOutOfBoundsException", Cond.initialized "java/lang/IndexOutOfBoundsException", Cond.fieldLink RX4 48 "FloatOrder$Parade" "floats" "I", Cond.methodLink RX4 72 yX1_save, Cond.instanceMethod yX1_save, Cond.selects RX1 yX1_save yX1_save, Cond.initialized RX1, Cond.code yX1_save cX1_save 2 none, Cond.fieldLink RX1 17 "FloatOrder$History" "size" "I", Cond.fieldLink RX1 11 "FloatOrder$History" "saved" "[LFloatOrder$Parade;", Cond.methodLink RX1 22 yX1_dropOldest]
def wsL_fold_r2 : List Cond := [Cond.instanceMethod yX1_dropOldest, Cond.selects RX1 yX1_dropOldest yX1_dropOldest, Cond.code yX1_dropOldest cX1_dropOldest 3 none, Cond.methodLink RX1 25 yX2_copyFrom, Cond.instanceMethod yX2_copyFrom, Cond.selects RX2 yX2_copyFrom yX2_copyFrom, Cond.initialized RX2, Cond.code yX2_copyFrom cX2_copyFrom 3 none, Cond.fieldLink RX2 9 "FloatOrder$Parade" "floats" "I", Cond.fieldLink RX2 15 "FloatOrder$Parade" "kinds" "[I", Cond.fieldLink RX2 19 "FloatOrder$Parade" "heights" "[I", Cond.fieldLink RX2 22 "FloatOrder$Parade" "masks" "[I", Cond.fieldLink RX2 25 "FloatOrder$Parade" "folded" "[Z", Cond.fieldLink RX2 29 "FloatOrder$Parade" "bridges" "I", Cond.fieldLink RX2 32 "FloatOrder$Parade" "distances" "[I", Cond.fieldLink RX2 35 "FloatOrder$Parade" "clearances" "[I", Cond.fieldLink RX2 38 "FloatOrder$Parade" "settings" "[I", Cond.methodLink RX4 102 yX2_countedHeight, Cond.instanceMethod yX2_countedHeight, Cond.selects RX2 yX2_countedHeight yX2_countedHeight, Cond.code yX2_countedHeight cX2_countedHeight 3 (some .int)]
def wsL_fold : List Cond := .codeWith yL_fold cL_fold 5 (some .int) [(0, 10, 13, 13)] :: ((wsL_fold_r1 ++ wsL_fold_r2) ++ wsX40 ++ wsX20 ++ wsX10 ++ (vx_atS RX4 55 "java/lang/IndexOutOfBoundsException" ["java/lang/RuntimeException", "java/lang/Exception"]).filter goodWord)
def wsL_bridge_r1 : List Cond := [Cond.classLink RL 15 "java/lang/IllegalArgumentException", Cond.classLink RL 17 "java/lang/IllegalStateException", Cond.methodLink RL 34 yX4_bridge, Cond.instanceMethod yX4_bridge, Cond.selects RX4 yX4_bridge yX4_bridge, Cond.initialized RX4, Cond.code yX4_bridge cX4_bridge 3 (some .int), Cond.classLink RX4 62 "java/lang/IllegalArgumentException", Cond.initialized "java/lang/IllegalArgumentException", Cond.classLink RX4 67 "java/lang/IllegalStateException", Cond.initialized "java/lang/IllegalStateException", Cond.fieldLink RX4 10 "FloatOrder" "parade" "LFloatOrder$Parade;", Cond.fieldLink RX4 117 "FloatOrder$Parade" "bridges" "I", Cond.fieldLink RX4 22 "FloatOrder" "history" "LFloatOrder$History;", Cond.methodLink RX4 111 yX4_isHeight, Cond.static yX4_isHeight, Cond.code yX4_isHeight cX4_isHeight 1 (some .boolean), Cond.methodLink RX4 120 yX2_hasBridgeAt, Cond.instanceMethod yX2_hasBridgeAt, Cond.selects RX2 yX2_hasBridgeAt yX2_hasBridgeAt, Cond.initialized RX2, Cond.code yX2_hasBridgeAt cX2_hasBridgeAt 3 (some .boolean), Cond.fieldLink RX2 29 "FloatOrder$Parade" "bridges" "I", Cond.fieldLink RX2 32 "FloatOrder$Parade" "distances" "[I"]
def wsL_bridge_r2 : List Cond := [Cond.methodLink RX4 72 yX1_save, Cond.instanceMethod yX1_save, Cond.selects RX1 yX1_save yX1_save, Cond.initialized RX1, Cond.code yX1_save cX1_save 2 none, Cond.fieldLink RX1 17 "FloatOrder$History" "size" "I", Cond.fieldLink RX1 11 "FloatOrder$History" "saved" "[LFloatOrder$Parade;", Cond.methodLink RX1 22 yX1_dropOldest, Cond.instanceMethod yX1_dropOldest, Cond.selects RX1 yX1_dropOldest yX1_dropOldest, Cond.code yX1_dropOldest cX1_dropOldest 3 none, Cond.methodLink RX1 25 yX2_copyFrom, Cond.instanceMethod yX2_copyFrom, Cond.selects RX2 yX2_copyFrom yX2_copyFrom, Cond.code yX2_copyFrom cX2_copyFrom 3 none, Cond.fieldLink RX2 9 "FloatOrder$Parade" "floats" "I", Cond.fieldLink RX2 15 "FloatOrder$Parade" "kinds" "[I", Cond.fieldLink RX2 19 "FloatOrder$Parade" "heights" "[I", Cond.fieldLink RX2 22 "FloatOrder$Parade" "masks" "[I", Cond.fieldLink RX2 25 "FloatOrder$Parade" "folded" "[Z", Cond.fieldLink RX2 35 "FloatOrder$Parade" "clearances" "[I", Cond.fieldLink RX2 38 "FloatOrder$Parade" "settings" "[I", Cond.methodLink RX4 125 yX2_build, Cond.instanceMethod yX2_build]
def wsL_bridge_r3 : List Cond := [Cond.selects RX2 yX2_build yX2_build, Cond.code yX2_build cX2_build 4 (some .int)]
def wsL_bridge : List Cond := .codeWith yL_bridge cL_bridge 5 (some .int) [(0, 10, 13, 15), (0, 10, 17, 17)] :: ((wsL_bridge_r1 ++ (wsL_bridge_r2 ++ wsL_bridge_r3)) ++ wsX40 ++ wsX20 ++ wsX10 ++ (vx_atS RX4 66 "java/lang/IllegalArgumentException" ["java/lang/RuntimeException", "java/lang/Exception"]).filter goodWord ++ (vx_atS RX4 71 "java/lang/IllegalStateException" ["java/lang/RuntimeException", "java/lang/Exception"]).filter goodWord)
def wsL_unbridge_r1 : List Cond := [Cond.classLink RL 13 "java/lang/IndexOutOfBoundsException", Cond.methodLink RL 37 yX4_unbridge, Cond.instanceMethod yX4_unbridge, Cond.selects RX4 yX4_unbridge yX4_unbridge, Cond.initialized RX4, Cond.code yX4_unbridge cX4_unbridge 3 (some .int), Cond.fieldLink RX4 22 "FloatOrder" "history" "LFloatOrder$History;", Cond.fieldLink RX4 10 "FloatOrder" "parade" "LFloatOrder$Parade;", Cond.fieldLink RX4 132 "FloatOrder$Parade" "distances" "[I", Cond.methodLink RX4 129 yX4_needBridge, Cond.instanceMethod yX4_needBridge, Cond.selects RX4 yX4_needBridge yX4_needBridge, Cond.code yX4_needBridge cX4_needBridge 2 none, Cond.classLink RX4 51 "java/lang/IndexOutOfBoundsException", Cond.initialized "java/lang/IndexOutOfBoundsException", Cond.fieldLink RX4 117 "FloatOrder$Parade" "bridges" "I", Cond.methodLink RX4 72 yX1_save, Cond.instanceMethod yX1_save, Cond.selects RX1 yX1_save yX1_save, Cond.initialized RX1, Cond.code yX1_save cX1_save 2 none, Cond.fieldLink RX1 17 "FloatOrder$History" "size" "I", Cond.fieldLink RX1 11 "FloatOrder$History" "saved" "[LFloatOrder$Parade;", Cond.methodLink RX1 22 yX1_dropOldest]
def wsL_unbridge_r2 : List Cond := [Cond.instanceMethod yX1_dropOldest, Cond.selects RX1 yX1_dropOldest yX1_dropOldest, Cond.code yX1_dropOldest cX1_dropOldest 3 none, Cond.methodLink RX1 25 yX2_copyFrom, Cond.instanceMethod yX2_copyFrom, Cond.selects RX2 yX2_copyFrom yX2_copyFrom, Cond.initialized RX2, Cond.code yX2_copyFrom cX2_copyFrom 3 none, Cond.fieldLink RX2 9 "FloatOrder$Parade" "floats" "I", Cond.fieldLink RX2 15 "FloatOrder$Parade" "kinds" "[I", Cond.fieldLink RX2 19 "FloatOrder$Parade" "heights" "[I", Cond.fieldLink RX2 22 "FloatOrder$Parade" "masks" "[I", Cond.fieldLink RX2 25 "FloatOrder$Parade" "folded" "[Z", Cond.fieldLink RX2 29 "FloatOrder$Parade" "bridges" "I", Cond.fieldLink RX2 32 "FloatOrder$Parade" "distances" "[I", Cond.fieldLink RX2 35 "FloatOrder$Parade" "clearances" "[I", Cond.fieldLink RX2 38 "FloatOrder$Parade" "settings" "[I", Cond.methodLink RX4 135 yX2_pullDown, Cond.instanceMethod yX2_pullDown, Cond.selects RX2 yX2_pullDown yX2_pullDown, Cond.code yX2_pullDown cX2_pullDown 3 none]
def wsL_unbridge : List Cond := .codeWith yL_unbridge cL_unbridge 4 (some .int) [(0, 9, 12, 13)] :: ((wsL_unbridge_r1 ++ wsL_unbridge_r2) ++ wsX40 ++ wsX20 ++ wsX10 ++ (vx_atS RX4 55 "java/lang/IndexOutOfBoundsException" ["java/lang/RuntimeException", "java/lang/Exception"]).filter goodWord)
def wsL_set_r1 : List Cond := [Cond.classLink RL 13 "java/lang/IndexOutOfBoundsException", Cond.classLink RL 15 "java/lang/IllegalArgumentException", Cond.methodLink RL 40 yX4_set, Cond.instanceMethod yX4_set, Cond.selects RX4 yX4_set yX4_set, Cond.initialized RX4, Cond.code yX4_set cX4_set 4 (some .int), Cond.classLink RX4 62 "java/lang/IllegalArgumentException", Cond.initialized "java/lang/IllegalArgumentException", Cond.fieldLink RX4 141 "FloatOrder" "LEAST_SETTINGS" "[I", Cond.fieldLink RX4 144 "FloatOrder" "GREATEST_SETTINGS" "[I", Cond.fieldLink RX4 22 "FloatOrder" "history" "LFloatOrder$History;", Cond.fieldLink RX4 10 "FloatOrder" "parade" "LFloatOrder$Parade;", Cond.fieldLink RX4 149 "FloatOrder$Parade" "settings" "[I", Cond.methodLink RX4 138 yX4_needSetting, Cond.static yX4_needSetting, Cond.code yX4_needSetting cX4_needSetting 1 none, Cond.classLink RX4 51 "java/lang/IndexOutOfBoundsException", Cond.initialized "java/lang/IndexOutOfBoundsException", Cond.methodLink RX4 72 yX1_save, Cond.instanceMethod yX1_save, Cond.selects RX1 yX1_save yX1_save, Cond.initialized RX1, Cond.code yX1_save cX1_save 2 none]
def wsL_set_r2 : List Cond := [Cond.fieldLink RX1 17 "FloatOrder$History" "size" "I", Cond.fieldLink RX1 11 "FloatOrder$History" "saved" "[LFloatOrder$Parade;", Cond.methodLink RX1 22 yX1_dropOldest, Cond.instanceMethod yX1_dropOldest, Cond.selects RX1 yX1_dropOldest yX1_dropOldest, Cond.code yX1_dropOldest cX1_dropOldest 3 none, Cond.methodLink RX1 25 yX2_copyFrom, Cond.instanceMethod yX2_copyFrom, Cond.selects RX2 yX2_copyFrom yX2_copyFrom, Cond.initialized RX2, Cond.code yX2_copyFrom cX2_copyFrom 3 none, Cond.fieldLink RX2 9 "FloatOrder$Parade" "floats" "I", Cond.fieldLink RX2 15 "FloatOrder$Parade" "kinds" "[I", Cond.fieldLink RX2 19 "FloatOrder$Parade" "heights" "[I", Cond.fieldLink RX2 22 "FloatOrder$Parade" "masks" "[I", Cond.fieldLink RX2 25 "FloatOrder$Parade" "folded" "[Z", Cond.fieldLink RX2 29 "FloatOrder$Parade" "bridges" "I", Cond.fieldLink RX2 32 "FloatOrder$Parade" "distances" "[I", Cond.fieldLink RX2 35 "FloatOrder$Parade" "clearances" "[I", Cond.fieldLink RX2 38 "FloatOrder$Parade" "settings" "[I"]
def wsL_set : List Cond := .codeWith yL_set cL_set 5 (some .int) [(0, 10, 13, 13), (0, 10, 17, 15)] :: ((wsL_set_r1 ++ wsL_set_r2) ++ wsX40 ++ wsX20 ++ wsX10 ++ (vx_atS RX4 66 "java/lang/IllegalArgumentException" ["java/lang/RuntimeException", "java/lang/Exception"]).filter goodWord ++ (vx_atS RX4 55 "java/lang/IndexOutOfBoundsException" ["java/lang/RuntimeException", "java/lang/Exception"]).filter goodWord)
def wsL_append : List Cond := .codeWith yL_append cL_append 4 (some .int) [(0, 9, 12, 15), (0, 9, 15, 17)] :: ([.classLink RL 15 "java/lang/IllegalArgumentException", .classLink RL 17 "java/lang/IllegalStateException", .methodLink RL 43 yX4_append, .instanceMethod yX4_append, .selects RX4 yX4_append yX4_append, .initialized RX4, .code yX4_append cX4_append 2 (some .int), .classLink RX4 62 "java/lang/IllegalArgumentException", .initialized "java/lang/IllegalArgumentException", .classLink RX4 67 "java/lang/IllegalStateException", .initialized "java/lang/IllegalStateException", .fieldLink RX4 44 "FloatOrder" "characters" "I", .fieldLink RX4 40 "FloatOrder" "buffer" "[I"] ++ wsX40 ++ (vx_atS RX4 66 "java/lang/IllegalArgumentException" ["java/lang/RuntimeException", "java/lang/Exception"]).filter goodWord ++ (vx_atS RX4 71 "java/lang/IllegalStateException" ["java/lang/RuntimeException", "java/lang/Exception"]).filter goodWord)
def wsL_putAll_r1 : List Cond := [Cond.classLink RL 15 "java/lang/IllegalArgumentException", Cond.classLink RL 17 "java/lang/IllegalStateException", Cond.methodLink RL 46 yX4_putAll, Cond.instanceMethod yX4_putAll, Cond.selects RX4 yX4_putAll yX4_putAll, Cond.initialized RX4, Cond.code yX4_putAll cX4_putAll 1 (some .int), Cond.classLink RX4 62 "java/lang/IllegalArgumentException", Cond.initialized "java/lang/IllegalArgumentException", Cond.classLink RX4 67 "java/lang/IllegalStateException", Cond.initialized "java/lang/IllegalStateException", Cond.fieldLink RX4 44 "FloatOrder" "characters" "I", Cond.fieldLink RX4 36 "FloatOrder" "reader" "LFloatOrder$PartReader;", Cond.fieldLink RX4 10 "FloatOrder" "parade" "LFloatOrder$Parade;", Cond.fieldLink RX4 48 "FloatOrder$Parade" "floats" "I", Cond.fieldLink RX4 22 "FloatOrder" "history" "LFloatOrder$History;", Cond.methodLink RX4 156 yX4_readBuffer, Cond.instanceMethod yX4_readBuffer, Cond.selects RX4 yX4_readBuffer yX4_readBuffer, Cond.code yX4_readBuffer cX4_readBuffer 2 (some .int), Cond.fieldLink RX4 40 "FloatOrder" "buffer" "[I", Cond.methodLink RX4 273 yX3_start, Cond.instanceMethod yX3_start, Cond.selects RX3 yX3_start yX3_start]
def wsL_putAll_r2 : List Cond := [Cond.initialized RX3, Cond.code yX3_start cX3_start 1 none, Cond.fieldLink RX3 21 "FloatOrder$PartReader" "stage" "I", Cond.methodLink RX4 276 yX3_accepts, Cond.instanceMethod yX3_accepts, Cond.selects RX3 yX3_accepts yX3_accepts, Cond.code yX3_accepts cX3_accepts 2 (some .boolean), Cond.fieldLink RX3 9 "FloatOrder$PartReader" "kind" "I", Cond.methodLink RX3 24 yX3_acceptsKind, Cond.instanceMethod yX3_acceptsKind, Cond.selects RX3 yX3_acceptsKind yX3_acceptsKind, Cond.code yX3_acceptsKind cX3_acceptsKind 3 (some .boolean), Cond.fieldLink RX3 15 "FloatOrder$PartReader" "height" "I", Cond.fieldLink RX3 18 "FloatOrder$PartReader" "mask" "I", Cond.methodLink RX3 38 yX3_kindOf, Cond.static yX3_kindOf, Cond.code yX3_kindOf cX3_kindOf 1 (some .int), Cond.methodLink RX3 28 yX3_acceptsDigit, Cond.instanceMethod yX3_acceptsDigit, Cond.selects RX3 yX3_acceptsDigit yX3_acceptsDigit, Cond.code yX3_acceptsDigit cX3_acceptsDigit 5 (some .boolean), Cond.methodLink RX3 32 yX3_acceptsNextPart, Cond.instanceMethod yX3_acceptsNextPart, Cond.selects RX3 yX3_acceptsNextPart yX3_acceptsNextPart]
def wsL_putAll_r3 : List Cond := [Cond.code yX3_acceptsNextPart cX3_acceptsNextPart 2 (some .boolean), Cond.methodLink RX3 35 yX3_acceptsShied, Cond.instanceMethod yX3_acceptsShied, Cond.selects RX3 yX3_acceptsShied yX3_acceptsShied, Cond.code yX3_acceptsShied cX3_acceptsShied 3 (some .boolean), Cond.methodLink RX4 159 yX3_isAfterPart, Cond.instanceMethod yX3_isAfterPart, Cond.selects RX3 yX3_isAfterPart yX3_isAfterPart, Cond.code yX3_isAfterPart cX3_isAfterPart 1 (some .boolean), Cond.methodLink RX4 164 yX4_partsInBuffer, Cond.instanceMethod yX4_partsInBuffer, Cond.selects RX4 yX4_partsInBuffer yX4_partsInBuffer, Cond.code yX4_partsInBuffer cX4_partsInBuffer 3 (some .int), Cond.methodLink RX4 72 yX1_save, Cond.instanceMethod yX1_save, Cond.selects RX1 yX1_save yX1_save, Cond.initialized RX1, Cond.code yX1_save cX1_save 2 none, Cond.fieldLink RX1 17 "FloatOrder$History" "size" "I", Cond.fieldLink RX1 11 "FloatOrder$History" "saved" "[LFloatOrder$Parade;", Cond.methodLink RX1 22 yX1_dropOldest, Cond.instanceMethod yX1_dropOldest, Cond.selects RX1 yX1_dropOldest yX1_dropOldest, Cond.code yX1_dropOldest cX1_dropOldest 3 none]
def wsL_putAll_r4 : List Cond := [Cond.methodLink RX1 25 yX2_copyFrom, Cond.instanceMethod yX2_copyFrom, Cond.selects RX2 yX2_copyFrom yX2_copyFrom, Cond.initialized RX2, Cond.code yX2_copyFrom cX2_copyFrom 3 none, Cond.fieldLink RX2 9 "FloatOrder$Parade" "floats" "I", Cond.fieldLink RX2 15 "FloatOrder$Parade" "kinds" "[I", Cond.fieldLink RX2 19 "FloatOrder$Parade" "heights" "[I", Cond.fieldLink RX2 22 "FloatOrder$Parade" "masks" "[I", Cond.fieldLink RX2 25 "FloatOrder$Parade" "folded" "[Z", Cond.fieldLink RX2 29 "FloatOrder$Parade" "bridges" "I", Cond.fieldLink RX2 32 "FloatOrder$Parade" "distances" "[I", Cond.fieldLink RX2 35 "FloatOrder$Parade" "clearances" "[I", Cond.fieldLink RX2 38 "FloatOrder$Parade" "settings" "[I", Cond.methodLink RX4 169 yX4_addParts, Cond.instanceMethod yX4_addParts, Cond.selects RX4 yX4_addParts yX4_addParts, Cond.code yX4_addParts cX4_addParts 2 none, Cond.fieldLink RX4 279 "FloatOrder$PartReader" "kind" "I", Cond.fieldLink RX4 282 "FloatOrder$PartReader" "height" "I", Cond.fieldLink RX4 285 "FloatOrder$PartReader" "mask" "I", Cond.methodLink RX4 76 yX2_addLast, Cond.instanceMethod yX2_addLast, Cond.selects RX2 yX2_addLast yX2_addLast]
def wsL_putAll_r5 : List Cond := [Cond.code yX2_addLast cX2_addLast 4 none]
def wsL_putAll : List Cond := .codeWith yL_putAll cL_putAll 3 (some .int) [(0, 8, 11, 15), (0, 8, 14, 17)] :: ((wsL_putAll_r1 ++ (wsL_putAll_r2 ++ (wsL_putAll_r3 ++ (wsL_putAll_r4 ++ wsL_putAll_r5)))) ++ wsX40 ++ wsX20 ++ wsX30 ++ wsX10 ++ (vx_atS RX4 66 "java/lang/IllegalArgumentException" ["java/lang/RuntimeException", "java/lang/Exception"]).filter goodWord ++ (vx_atS RX4 71 "java/lang/IllegalStateException" ["java/lang/RuntimeException", "java/lang/Exception"]).filter goodWord)
def wsL_undo_r1 : List Cond := [Cond.classLink RL 17 "java/lang/IllegalStateException", Cond.methodLink RL 50 yX4_undo, Cond.instanceMethod yX4_undo, Cond.selects RX4 yX4_undo yX4_undo, Cond.initialized RX4, Cond.code yX4_undo cX4_undo 1 (some .int), Cond.classLink RX4 67 "java/lang/IllegalStateException", Cond.initialized "java/lang/IllegalStateException", Cond.fieldLink RX4 22 "FloatOrder" "history" "LFloatOrder$History;", Cond.fieldLink RX4 172 "FloatOrder$History" "size" "I", Cond.fieldLink RX4 10 "FloatOrder" "parade" "LFloatOrder$Parade;", Cond.methodLink RX4 177 yX1_restoreLatest, Cond.instanceMethod yX1_restoreLatest, Cond.selects RX1 yX1_restoreLatest yX1_restoreLatest, Cond.initialized RX1, Cond.code yX1_restoreLatest cX1_restoreLatest 2 none, Cond.fieldLink RX1 17 "FloatOrder$History" "size" "I", Cond.fieldLink RX1 11 "FloatOrder$History" "saved" "[LFloatOrder$Parade;", Cond.methodLink RX1 25 yX2_copyFrom, Cond.instanceMethod yX2_copyFrom, Cond.selects RX2 yX2_copyFrom yX2_copyFrom, Cond.initialized RX2, Cond.code yX2_copyFrom cX2_copyFrom 3 none, Cond.fieldLink RX2 9 "FloatOrder$Parade" "floats" "I"]
def wsL_undo_r2 : List Cond := [Cond.fieldLink RX2 15 "FloatOrder$Parade" "kinds" "[I", Cond.fieldLink RX2 19 "FloatOrder$Parade" "heights" "[I", Cond.fieldLink RX2 22 "FloatOrder$Parade" "masks" "[I", Cond.fieldLink RX2 25 "FloatOrder$Parade" "folded" "[Z", Cond.fieldLink RX2 29 "FloatOrder$Parade" "bridges" "I", Cond.fieldLink RX2 32 "FloatOrder$Parade" "distances" "[I", Cond.fieldLink RX2 35 "FloatOrder$Parade" "clearances" "[I", Cond.fieldLink RX2 38 "FloatOrder$Parade" "settings" "[I"]
def wsL_undo : List Cond := .codeWith yL_undo cL_undo 3 (some .int) [(0, 8, 11, 17)] :: ((wsL_undo_r1 ++ wsL_undo_r2) ++ wsX40 ++ wsX10 ++ wsX20 ++ (vx_atS RX4 71 "java/lang/IllegalStateException" ["java/lang/RuntimeException", "java/lang/Exception"]).filter goodWord)
def wsL_floatAt_r1 : List Cond := [Cond.classLink RL 13 "java/lang/IndexOutOfBoundsException", Cond.classLink RL 15 "java/lang/IllegalArgumentException", Cond.methodLink RL 53 yX4_floatAt, Cond.instanceMethod yX4_floatAt, Cond.selects RX4 yX4_floatAt yX4_floatAt, Cond.initialized RX4, Cond.code yX4_floatAt cX4_floatAt 3 (some .int), Cond.classLink RX4 62 "java/lang/IllegalArgumentException", Cond.initialized "java/lang/IllegalArgumentException", Cond.fieldLink RX4 10 "FloatOrder" "parade" "LFloatOrder$Parade;", Cond.methodLink RX4 84 yX4_needFloat, Cond.instanceMethod yX4_needFloat, Cond.selects RX4 yX4_needFloat yX4_needFloat, Cond.code yX4_needFloat cX4_needFloat 2 none, Cond.classLink RX4 51 "java/lang/IndexOutOfBoundsException", Cond.initialized "java/lang/IndexOutOfBoundsException", Cond.fieldLink RX4 48 "FloatOrder$Parade" "floats" "I", Cond.methodLink RX4 182 yX2_floatProperty, Cond.instanceMethod yX2_floatProperty, Cond.selects RX2 yX2_floatProperty yX2_floatProperty, Cond.initialized RX2, Cond.code yX2_floatProperty cX2_floatProperty 3 (some .int), Cond.fieldLink RX2 15 "FloatOrder$Parade" "kinds" "[I", Cond.fieldLink RX2 19 "FloatOrder$Parade" "heights" "[I"]
def wsL_floatAt_r2 : List Cond := [Cond.fieldLink RX2 22 "FloatOrder$Parade" "masks" "[I", Cond.fieldLink RX2 25 "FloatOrder$Parade" "folded" "[Z", Cond.methodLink RX2 54 yX2_countedHeight, Cond.instanceMethod yX2_countedHeight, Cond.selects RX2 yX2_countedHeight yX2_countedHeight, Cond.code yX2_countedHeight cX2_countedHeight 3 (some .int), Cond.methodLink RX2 58 yX2_bridgesThatLower, Cond.instanceMethod yX2_bridgesThatLower, Cond.selects RX2 yX2_bridgesThatLower yX2_bridgesThatLower, Cond.code yX2_bridgesThatLower cX2_bridgesThatLower 4 (some .int), Cond.fieldLink RX2 29 "FloatOrder$Parade" "bridges" "I", Cond.methodLink RX2 82 yX2_isLowered, Cond.instanceMethod yX2_isLowered, Cond.selects RX2 yX2_isLowered yX2_isLowered, Cond.code yX2_isLowered cX2_isLowered 3 (some .boolean), Cond.fieldLink RX2 35 "FloatOrder$Parade" "clearances" "[I", Cond.methodLink RX2 61 yX2_troubleAt, Cond.instanceMethod yX2_troubleAt, Cond.selects RX2 yX2_troubleAt yX2_troubleAt, Cond.code yX2_troubleAt cX2_troubleAt 2 (some .int), Cond.methodLink RX2 70 yX2_shying, Cond.instanceMethod yX2_shying, Cond.selects RX2 yX2_shying yX2_shying, Cond.code yX2_shying cX2_shying 3 (some .int)]
def wsL_floatAt_r3 : List Cond := [Cond.methodLink RX2 73 yX2_hearing, Cond.instanceMethod yX2_hearing, Cond.selects RX2 yX2_hearing yX2_hearing, Cond.code yX2_hearing cX2_hearing 4 (some .int), Cond.fieldLink RX2 38 "FloatOrder$Parade" "settings" "[I", Cond.methodLink RX2 76 yX2_meeting, Cond.instanceMethod yX2_meeting, Cond.selects RX2 yX2_meeting yX2_meeting, Cond.code yX2_meeting cX2_meeting 2 (some .int)]
def wsL_floatAt : List Cond := .codeWith yL_floatAt cL_floatAt 5 (some .int) [(0, 10, 13, 13), (0, 10, 17, 15)] :: ((wsL_floatAt_r1 ++ (wsL_floatAt_r2 ++ wsL_floatAt_r3)) ++ wsX40 ++ wsX20 ++ (vx_atS RX4 66 "java/lang/IllegalArgumentException" ["java/lang/RuntimeException", "java/lang/Exception"]).filter goodWord ++ (vx_atS RX4 55 "java/lang/IndexOutOfBoundsException" ["java/lang/RuntimeException", "java/lang/Exception"]).filter goodWord)
def wsL_trouble_r1 : List Cond := [Cond.classLink RL 13 "java/lang/IndexOutOfBoundsException", Cond.classLink RL 15 "java/lang/IllegalArgumentException", Cond.methodLink RL 56 yX4_trouble, Cond.instanceMethod yX4_trouble, Cond.selects RX4 yX4_trouble yX4_trouble, Cond.initialized RX4, Cond.code yX4_trouble cX4_trouble 3 (some .int), Cond.classLink RX4 62 "java/lang/IllegalArgumentException", Cond.initialized "java/lang/IllegalArgumentException", Cond.fieldLink RX4 10 "FloatOrder" "parade" "LFloatOrder$Parade;", Cond.methodLink RX4 84 yX4_needFloat, Cond.instanceMethod yX4_needFloat, Cond.selects RX4 yX4_needFloat yX4_needFloat, Cond.code yX4_needFloat cX4_needFloat 2 none, Cond.classLink RX4 51 "java/lang/IndexOutOfBoundsException", Cond.initialized "java/lang/IndexOutOfBoundsException", Cond.fieldLink RX4 48 "FloatOrder$Parade" "floats" "I", Cond.methodLink RX4 187 yX2_troubleBy, Cond.instanceMethod yX2_troubleBy, Cond.selects RX2 yX2_troubleBy yX2_troubleBy, Cond.initialized RX2, Cond.code yX2_troubleBy cX2_troubleBy 3 (some .int), Cond.methodLink RX2 70 yX2_shying, Cond.instanceMethod yX2_shying]
def wsL_trouble_r2 : List Cond := [Cond.selects RX2 yX2_shying yX2_shying, Cond.code yX2_shying cX2_shying 3 (some .int), Cond.fieldLink RX2 22 "FloatOrder$Parade" "masks" "[I", Cond.fieldLink RX2 15 "FloatOrder$Parade" "kinds" "[I", Cond.methodLink RX2 73 yX2_hearing, Cond.instanceMethod yX2_hearing, Cond.selects RX2 yX2_hearing yX2_hearing, Cond.code yX2_hearing cX2_hearing 4 (some .int), Cond.fieldLink RX2 38 "FloatOrder$Parade" "settings" "[I", Cond.methodLink RX2 76 yX2_meeting, Cond.instanceMethod yX2_meeting, Cond.selects RX2 yX2_meeting yX2_meeting, Cond.code yX2_meeting cX2_meeting 2 (some .int)]
def wsL_trouble : List Cond := .codeWith yL_trouble cL_trouble 5 (some .int) [(0, 10, 13, 13), (0, 10, 17, 15)] :: ((wsL_trouble_r1 ++ wsL_trouble_r2) ++ wsX40 ++ wsX20 ++ (vx_atS RX4 66 "java/lang/IllegalArgumentException" ["java/lang/RuntimeException", "java/lang/Exception"]).filter goodWord ++ (vx_atS RX4 55 "java/lang/IndexOutOfBoundsException" ["java/lang/RuntimeException", "java/lang/Exception"]).filter goodWord)
def wsL_comes_r1 : List Cond := [Cond.classLink RL 13 "java/lang/IndexOutOfBoundsException", Cond.methodLink RL 59 yX4_comes, Cond.instanceMethod yX4_comes, Cond.selects RX4 yX4_comes yX4_comes, Cond.initialized RX4, Cond.code yX4_comes cX4_comes 3 (some .int), Cond.fieldLink RX4 10 "FloatOrder" "parade" "LFloatOrder$Parade;", Cond.fieldLink RX4 193 "FloatOrder$Parade" "came" "[I", Cond.fieldLink RX4 117 "FloatOrder$Parade" "bridges" "I", Cond.methodLink RX4 84 yX4_needFloat, Cond.instanceMethod yX4_needFloat, Cond.selects RX4 yX4_needFloat yX4_needFloat, Cond.code yX4_needFloat cX4_needFloat 2 none, Cond.classLink RX4 51 "java/lang/IndexOutOfBoundsException", Cond.initialized "java/lang/IndexOutOfBoundsException", Cond.fieldLink RX4 48 "FloatOrder$Parade" "floats" "I", Cond.methodLink RX4 129 yX4_needBridge, Cond.instanceMethod yX4_needBridge, Cond.selects RX4 yX4_needBridge yX4_needBridge, Cond.code yX4_needBridge cX4_needBridge 2 none, Cond.methodLink RX4 190 yX2_travel, Cond.instanceMethod yX2_travel, Cond.selects RX2 yX2_travel yX2_travel, Cond.initialized RX2]
def wsL_comes_r2 : List Cond := [Cond.code yX2_travel cX2_travel 8 none, Cond.fieldLink RX2 38 "FloatOrder$Parade" "settings" "[I", Cond.fieldLink RX2 29 "FloatOrder$Parade" "bridges" "I", Cond.fieldLink RX2 32 "FloatOrder$Parade" "distances" "[I", Cond.fieldLink RX2 44 "FloatOrder$Parade" "left" "[I", Cond.methodLink RX2 64 Lib.Math.max.name, Cond.static Lib.Math.max.name, Cond.initialized "java/lang/Math", Cond.code Lib.Math.max.name Lib.Math.max.code 2 (some .int), Cond.fieldLink RX2 41 "FloatOrder$Parade" "came" "[I", Cond.fieldLink RX2 35 "FloatOrder$Parade" "clearances" "[I", Cond.methodLink RX2 54 yX2_countedHeight, Cond.instanceMethod yX2_countedHeight, Cond.selects RX2 yX2_countedHeight yX2_countedHeight, Cond.code yX2_countedHeight cX2_countedHeight 3 (some .int), Cond.fieldLink RX2 25 "FloatOrder$Parade" "folded" "[Z", Cond.fieldLink RX2 19 "FloatOrder$Parade" "heights" "[I"]
def wsL_comes : List Cond := .codeWith yL_comes cL_comes 5 (some .int) [(0, 10, 13, 13)] :: ((wsL_comes_r1 ++ wsL_comes_r2) ++ wsX40 ++ wsX20 ++ (vx_atS RX4 55 "java/lang/IndexOutOfBoundsException" ["java/lang/RuntimeException", "java/lang/Exception"]).filter goodWord)
def wsL_bridgeOf_r1 : List Cond := [Cond.classLink RL 13 "java/lang/IndexOutOfBoundsException", Cond.classLink RL 15 "java/lang/IllegalArgumentException", Cond.methodLink RL 62 yX4_bridgeOf, Cond.instanceMethod yX4_bridgeOf, Cond.selects RX4 yX4_bridgeOf yX4_bridgeOf, Cond.initialized RX4, Cond.code yX4_bridgeOf cX4_bridgeOf 3 (some .int), Cond.classLink RX4 62 "java/lang/IllegalArgumentException", Cond.initialized "java/lang/IllegalArgumentException", Cond.fieldLink RX4 10 "FloatOrder" "parade" "LFloatOrder$Parade;", Cond.methodLink RX4 129 yX4_needBridge, Cond.instanceMethod yX4_needBridge, Cond.selects RX4 yX4_needBridge yX4_needBridge, Cond.code yX4_needBridge cX4_needBridge 2 none, Cond.classLink RX4 51 "java/lang/IndexOutOfBoundsException", Cond.initialized "java/lang/IndexOutOfBoundsException", Cond.fieldLink RX4 117 "FloatOrder$Parade" "bridges" "I", Cond.methodLink RX4 198 yX2_bridgeProperty, Cond.instanceMethod yX2_bridgeProperty, Cond.selects RX2 yX2_bridgeProperty yX2_bridgeProperty, Cond.initialized RX2, Cond.code yX2_bridgeProperty cX2_bridgeProperty 3 (some .int), Cond.fieldLink RX2 32 "FloatOrder$Parade" "distances" "[I", Cond.fieldLink RX2 35 "FloatOrder$Parade" "clearances" "[I"]
def wsL_bridgeOf_r2 : List Cond := [Cond.methodLink RX2 79 yX2_floatsLoweredAt, Cond.instanceMethod yX2_floatsLoweredAt, Cond.selects RX2 yX2_floatsLoweredAt yX2_floatsLoweredAt, Cond.code yX2_floatsLoweredAt cX2_floatsLoweredAt 4 (some .int), Cond.fieldLink RX2 9 "FloatOrder$Parade" "floats" "I", Cond.methodLink RX2 82 yX2_isLowered, Cond.instanceMethod yX2_isLowered, Cond.selects RX2 yX2_isLowered yX2_isLowered, Cond.code yX2_isLowered cX2_isLowered 3 (some .boolean), Cond.methodLink RX2 54 yX2_countedHeight, Cond.instanceMethod yX2_countedHeight, Cond.selects RX2 yX2_countedHeight yX2_countedHeight, Cond.code yX2_countedHeight cX2_countedHeight 3 (some .int), Cond.fieldLink RX2 25 "FloatOrder$Parade" "folded" "[Z", Cond.fieldLink RX2 19 "FloatOrder$Parade" "heights" "[I"]
def wsL_bridgeOf : List Cond := .codeWith yL_bridgeOf cL_bridgeOf 5 (some .int) [(0, 10, 13, 13), (0, 10, 17, 15)] :: ((wsL_bridgeOf_r1 ++ wsL_bridgeOf_r2) ++ wsX40 ++ wsX20 ++ (vx_atS RX4 66 "java/lang/IllegalArgumentException" ["java/lang/RuntimeException", "java/lang/Exception"]).filter goodWord ++ (vx_atS RX4 55 "java/lang/IndexOutOfBoundsException" ["java/lang/RuntimeException", "java/lang/Exception"]).filter goodWord)
def wsL_count_r1 : List Cond := [Cond.classLink RL 15 "java/lang/IllegalArgumentException", Cond.methodLink RL 65 yX4_count, Cond.instanceMethod yX4_count, Cond.selects RX4 yX4_count yX4_count, Cond.initialized RX4, Cond.code yX4_count cX4_count 2 (some .int), Cond.classLink RX4 62 "java/lang/IllegalArgumentException", Cond.initialized "java/lang/IllegalArgumentException", Cond.methodLink RX4 203 yX4_number, Cond.instanceMethod yX4_number, Cond.selects RX4 yX4_number yX4_number, Cond.code yX4_number cX4_number 2 (some .int), Cond.fieldLink RX4 10 "FloatOrder" "parade" "LFloatOrder$Parade;", Cond.fieldLink RX4 48 "FloatOrder$Parade" "floats" "I", Cond.fieldLink RX4 117 "FloatOrder$Parade" "bridges" "I", Cond.fieldLink RX4 22 "FloatOrder" "history" "LFloatOrder$History;", Cond.fieldLink RX4 172 "FloatOrder$History" "size" "I", Cond.methodLink RX4 91 yX2_allTrouble, Cond.instanceMethod yX2_allTrouble, Cond.selects RX2 yX2_allTrouble yX2_allTrouble, Cond.initialized RX2, Cond.code yX2_allTrouble cX2_allTrouble 3 (some .int), Cond.fieldLink RX2 9 "FloatOrder$Parade" "floats" "I", Cond.methodLink RX2 61 yX2_troubleAt]
def wsL_count_r2 : List Cond := [Cond.instanceMethod yX2_troubleAt, Cond.selects RX2 yX2_troubleAt yX2_troubleAt, Cond.code yX2_troubleAt cX2_troubleAt 2 (some .int), Cond.methodLink RX2 70 yX2_shying, Cond.instanceMethod yX2_shying, Cond.selects RX2 yX2_shying yX2_shying, Cond.code yX2_shying cX2_shying 3 (some .int), Cond.fieldLink RX2 22 "FloatOrder$Parade" "masks" "[I", Cond.fieldLink RX2 15 "FloatOrder$Parade" "kinds" "[I", Cond.methodLink RX2 73 yX2_hearing, Cond.instanceMethod yX2_hearing, Cond.selects RX2 yX2_hearing yX2_hearing, Cond.code yX2_hearing cX2_hearing 4 (some .int), Cond.fieldLink RX2 38 "FloatOrder$Parade" "settings" "[I", Cond.methodLink RX2 76 yX2_meeting, Cond.instanceMethod yX2_meeting, Cond.selects RX2 yX2_meeting yX2_meeting, Cond.code yX2_meeting cX2_meeting 2 (some .int), Cond.methodLink RX4 211 yX2_end, Cond.instanceMethod yX2_end, Cond.selects RX2 yX2_end yX2_end, Cond.code yX2_end cX2_end 1 (some .int), Cond.fieldLink RX2 41 "FloatOrder$Parade" "came" "[I", Cond.fieldLink RX2 29 "FloatOrder$Parade" "bridges" "I"]
def wsL_count_r3 : List Cond := [Cond.methodLink RX2 86 yX2_travel, Cond.instanceMethod yX2_travel, Cond.selects RX2 yX2_travel yX2_travel, Cond.code yX2_travel cX2_travel 8 none, Cond.fieldLink RX2 32 "FloatOrder$Parade" "distances" "[I", Cond.fieldLink RX2 44 "FloatOrder$Parade" "left" "[I", Cond.methodLink RX2 64 Lib.Math.max.name, Cond.static Lib.Math.max.name, Cond.initialized "java/lang/Math", Cond.code Lib.Math.max.name Lib.Math.max.code 2 (some .int), Cond.fieldLink RX2 35 "FloatOrder$Parade" "clearances" "[I", Cond.methodLink RX2 54 yX2_countedHeight, Cond.instanceMethod yX2_countedHeight, Cond.selects RX2 yX2_countedHeight yX2_countedHeight, Cond.code yX2_countedHeight cX2_countedHeight 3 (some .int), Cond.fieldLink RX2 25 "FloatOrder$Parade" "folded" "[Z", Cond.fieldLink RX2 19 "FloatOrder$Parade" "heights" "[I", Cond.methodLink RX4 264 yX2_loweredFloats, Cond.instanceMethod yX2_loweredFloats, Cond.selects RX2 yX2_loweredFloats yX2_loweredFloats, Cond.code yX2_loweredFloats cX2_loweredFloats 3 (some .int), Cond.methodLink RX2 58 yX2_bridgesThatLower, Cond.instanceMethod yX2_bridgesThatLower, Cond.selects RX2 yX2_bridgesThatLower yX2_bridgesThatLower]
def wsL_count_r4 : List Cond := [Cond.code yX2_bridgesThatLower cX2_bridgesThatLower 4 (some .int), Cond.methodLink RX2 82 yX2_isLowered, Cond.instanceMethod yX2_isLowered, Cond.selects RX2 yX2_isLowered yX2_isLowered, Cond.code yX2_isLowered cX2_isLowered 3 (some .boolean), Cond.methodLink RX4 221 yX2_troubledFloats, Cond.instanceMethod yX2_troubledFloats, Cond.selects RX2 yX2_troubledFloats yX2_troubledFloats, Cond.code yX2_troubledFloats cX2_troubledFloats 3 (some .int), Cond.methodLink RX4 267 yX2_waiting, Cond.instanceMethod yX2_waiting, Cond.selects RX2 yX2_waiting yX2_waiting, Cond.code yX2_waiting cX2_waiting 1 (some .int), Cond.methodLink RX2 90 yX2_end, Cond.methodLink RX4 270 yX2_greatestHeight, Cond.instanceMethod yX2_greatestHeight, Cond.selects RX2 yX2_greatestHeight yX2_greatestHeight, Cond.code yX2_greatestHeight cX2_greatestHeight 3 (some .int)]
def wsL_count : List Cond := .codeWith yL_count cL_count 4 (some .int) [(0, 9, 12, 15)] :: ((wsL_count_r1 ++ (wsL_count_r2 ++ (wsL_count_r3 ++ wsL_count_r4))) ++ wsX40 ++ wsX20 ++ wsX10 ++ (vx_atS RX4 66 "java/lang/IllegalArgumentException" ["java/lang/RuntimeException", "java/lang/Exception"]).filter goodWord)
def wsL_setting : List Cond := .codeWith yL_setting cL_setting 4 (some .int) [(0, 9, 12, 13)] :: ([.classLink RL 13 "java/lang/IndexOutOfBoundsException", .methodLink RL 68 yX4_setting, .instanceMethod yX4_setting, .selects RX4 yX4_setting yX4_setting, .initialized RX4, .code yX4_setting cX4_setting 2 (some .int), .fieldLink RX4 10 "FloatOrder" "parade" "LFloatOrder$Parade;", .fieldLink RX4 149 "FloatOrder$Parade" "settings" "[I", .methodLink RX4 138 yX4_needSetting, .static yX4_needSetting, .code yX4_needSetting cX4_needSetting 1 none, .classLink RX4 51 "java/lang/IndexOutOfBoundsException", .initialized "java/lang/IndexOutOfBoundsException"] ++ wsX40 ++ wsX20 ++ (vx_atS RX4 55 "java/lang/IndexOutOfBoundsException" ["java/lang/RuntimeException", "java/lang/Exception"]).filter goodWord)
def wsL_ifMoved_r1 : List Cond := [Cond.classLink RL 13 "java/lang/IndexOutOfBoundsException", Cond.classLink RL 15 "java/lang/IllegalArgumentException", Cond.methodLink RL 71 yX4_ifMoved, Cond.instanceMethod yX4_ifMoved, Cond.selects RX4 yX4_ifMoved yX4_ifMoved, Cond.initialized RX4, Cond.code yX4_ifMoved cX4_ifMoved 4 (some .int), Cond.classLink RX4 62 "java/lang/IllegalArgumentException", Cond.initialized "java/lang/IllegalArgumentException", Cond.fieldLink RX4 16 "FloatOrder" "trial" "LFloatOrder$Parade;", Cond.fieldLink RX4 10 "FloatOrder" "parade" "LFloatOrder$Parade;", Cond.methodLink RX4 84 yX4_needFloat, Cond.instanceMethod yX4_needFloat, Cond.selects RX4 yX4_needFloat yX4_needFloat, Cond.code yX4_needFloat cX4_needFloat 2 none, Cond.classLink RX4 51 "java/lang/IndexOutOfBoundsException", Cond.initialized "java/lang/IndexOutOfBoundsException", Cond.fieldLink RX4 48 "FloatOrder$Parade" "floats" "I", Cond.methodLink RX4 208 yX2_copyFrom, Cond.instanceMethod yX2_copyFrom, Cond.selects RX2 yX2_copyFrom yX2_copyFrom, Cond.initialized RX2, Cond.code yX2_copyFrom cX2_copyFrom 3 none, Cond.fieldLink RX2 9 "FloatOrder$Parade" "floats" "I"]
def wsL_ifMoved_r2 : List Cond := [Cond.fieldLink RX2 15 "FloatOrder$Parade" "kinds" "[I", Cond.fieldLink RX2 19 "FloatOrder$Parade" "heights" "[I", Cond.fieldLink RX2 22 "FloatOrder$Parade" "masks" "[I", Cond.fieldLink RX2 25 "FloatOrder$Parade" "folded" "[Z", Cond.fieldLink RX2 29 "FloatOrder$Parade" "bridges" "I", Cond.fieldLink RX2 32 "FloatOrder$Parade" "distances" "[I", Cond.fieldLink RX2 35 "FloatOrder$Parade" "clearances" "[I", Cond.fieldLink RX2 38 "FloatOrder$Parade" "settings" "[I", Cond.methodLink RX4 80 yX2_shift, Cond.instanceMethod yX2_shift, Cond.selects RX2 yX2_shift yX2_shift, Cond.code yX2_shift cX2_shift 4 none, Cond.methodLink RX2 51 yX2_swap, Cond.instanceMethod yX2_swap, Cond.selects RX2 yX2_swap yX2_swap, Cond.code yX2_swap cX2_swap 7 none, Cond.methodLink RX4 91 yX2_allTrouble, Cond.instanceMethod yX2_allTrouble, Cond.selects RX2 yX2_allTrouble yX2_allTrouble, Cond.code yX2_allTrouble cX2_allTrouble 3 (some .int), Cond.methodLink RX2 61 yX2_troubleAt, Cond.instanceMethod yX2_troubleAt, Cond.selects RX2 yX2_troubleAt yX2_troubleAt, Cond.code yX2_troubleAt cX2_troubleAt 2 (some .int)]
def wsL_ifMoved_r3 : List Cond := [Cond.methodLink RX2 70 yX2_shying, Cond.instanceMethod yX2_shying, Cond.selects RX2 yX2_shying yX2_shying, Cond.code yX2_shying cX2_shying 3 (some .int), Cond.methodLink RX2 73 yX2_hearing, Cond.instanceMethod yX2_hearing, Cond.selects RX2 yX2_hearing yX2_hearing, Cond.code yX2_hearing cX2_hearing 4 (some .int), Cond.methodLink RX2 76 yX2_meeting, Cond.instanceMethod yX2_meeting, Cond.selects RX2 yX2_meeting yX2_meeting, Cond.code yX2_meeting cX2_meeting 2 (some .int), Cond.methodLink RX4 211 yX2_end, Cond.instanceMethod yX2_end, Cond.selects RX2 yX2_end yX2_end, Cond.code yX2_end cX2_end 1 (some .int), Cond.fieldLink RX2 41 "FloatOrder$Parade" "came" "[I", Cond.methodLink RX2 86 yX2_travel, Cond.instanceMethod yX2_travel, Cond.selects RX2 yX2_travel yX2_travel, Cond.code yX2_travel cX2_travel 8 none, Cond.fieldLink RX2 44 "FloatOrder$Parade" "left" "[I", Cond.methodLink RX2 64 Lib.Math.max.name, Cond.static Lib.Math.max.name]
def wsL_ifMoved_r4 : List Cond := [Cond.initialized "java/lang/Math", Cond.code Lib.Math.max.name Lib.Math.max.code 2 (some .int), Cond.methodLink RX2 54 yX2_countedHeight, Cond.instanceMethod yX2_countedHeight, Cond.selects RX2 yX2_countedHeight yX2_countedHeight, Cond.code yX2_countedHeight cX2_countedHeight 3 (some .int)]
def wsL_ifMoved : List Cond := .codeWith yL_ifMoved cL_ifMoved 6 (some .int) [(0, 12, 15, 13), (0, 12, 19, 15)] :: ((wsL_ifMoved_r1 ++ (wsL_ifMoved_r2 ++ (wsL_ifMoved_r3 ++ wsL_ifMoved_r4))) ++ wsX40 ++ wsX20 ++ (vx_atS RX4 66 "java/lang/IllegalArgumentException" ["java/lang/RuntimeException", "java/lang/Exception"]).filter goodWord ++ (vx_atS RX4 55 "java/lang/IndexOutOfBoundsException" ["java/lang/RuntimeException", "java/lang/Exception"]).filter goodWord)
def wsL_bestPlace_r1 : List Cond := [Cond.classLink RL 13 "java/lang/IndexOutOfBoundsException", Cond.methodLink RL 75 yX4_bestPlace, Cond.instanceMethod yX4_bestPlace, Cond.selects RX4 yX4_bestPlace yX4_bestPlace, Cond.initialized RX4, Cond.code yX4_bestPlace cX4_bestPlace 2 (some .int), Cond.methodLink RX4 84 yX4_needFloat, Cond.instanceMethod yX4_needFloat, Cond.selects RX4 yX4_needFloat yX4_needFloat, Cond.code yX4_needFloat cX4_needFloat 2 none, Cond.classLink RX4 51 "java/lang/IndexOutOfBoundsException", Cond.initialized "java/lang/IndexOutOfBoundsException", Cond.fieldLink RX4 10 "FloatOrder" "parade" "LFloatOrder$Parade;", Cond.fieldLink RX4 48 "FloatOrder$Parade" "floats" "I", Cond.methodLink RX4 214 yX4_placeOfLeast, Cond.instanceMethod yX4_placeOfLeast, Cond.selects RX4 yX4_placeOfLeast yX4_placeOfLeast, Cond.code yX4_placeOfLeast cX4_placeOfLeast 4 (some .int), Cond.fieldLink RX4 16 "FloatOrder" "trial" "LFloatOrder$Parade;", Cond.fieldLink RX4 29 "FloatOrder" "best" "LFloatOrder$Best;", Cond.methodLink RX4 208 yX2_copyFrom, Cond.instanceMethod yX2_copyFrom, Cond.selects RX2 yX2_copyFrom yX2_copyFrom, Cond.initialized RX2]
def wsL_bestPlace_r2 : List Cond := [Cond.code yX2_copyFrom cX2_copyFrom 3 none, Cond.fieldLink RX2 9 "FloatOrder$Parade" "floats" "I", Cond.fieldLink RX2 15 "FloatOrder$Parade" "kinds" "[I", Cond.fieldLink RX2 19 "FloatOrder$Parade" "heights" "[I", Cond.fieldLink RX2 22 "FloatOrder$Parade" "masks" "[I", Cond.fieldLink RX2 25 "FloatOrder$Parade" "folded" "[Z", Cond.fieldLink RX2 29 "FloatOrder$Parade" "bridges" "I", Cond.fieldLink RX2 32 "FloatOrder$Parade" "distances" "[I", Cond.fieldLink RX2 35 "FloatOrder$Parade" "clearances" "[I", Cond.fieldLink RX2 38 "FloatOrder$Parade" "settings" "[I", Cond.methodLink RX4 80 yX2_shift, Cond.instanceMethod yX2_shift, Cond.selects RX2 yX2_shift yX2_shift, Cond.code yX2_shift cX2_shift 4 none, Cond.methodLink RX2 51 yX2_swap, Cond.instanceMethod yX2_swap, Cond.selects RX2 yX2_swap yX2_swap, Cond.code yX2_swap cX2_swap 7 none, Cond.methodLink RX4 254 yX0_startAt, Cond.instanceMethod yX0_startAt, Cond.selects RX0 yX0_startAt yX0_startAt, Cond.initialized RX0, Cond.code yX0_startAt cX0_startAt 2 none, Cond.fieldLink RX0 7 "FloatOrder$Best" "leastTrouble" "I"]
def wsL_bestPlace_r3 : List Cond := [Cond.fieldLink RX0 13 "FloatOrder$Best" "leastEnd" "I", Cond.methodLink RX0 16 yX2_allTrouble, Cond.instanceMethod yX2_allTrouble, Cond.selects RX2 yX2_allTrouble yX2_allTrouble, Cond.code yX2_allTrouble cX2_allTrouble 3 (some .int), Cond.methodLink RX2 61 yX2_troubleAt, Cond.instanceMethod yX2_troubleAt, Cond.selects RX2 yX2_troubleAt yX2_troubleAt, Cond.code yX2_troubleAt cX2_troubleAt 2 (some .int), Cond.methodLink RX2 70 yX2_shying, Cond.instanceMethod yX2_shying, Cond.selects RX2 yX2_shying yX2_shying, Cond.code yX2_shying cX2_shying 3 (some .int), Cond.methodLink RX2 73 yX2_hearing, Cond.instanceMethod yX2_hearing, Cond.selects RX2 yX2_hearing yX2_hearing, Cond.code yX2_hearing cX2_hearing 4 (some .int), Cond.methodLink RX2 76 yX2_meeting, Cond.instanceMethod yX2_meeting, Cond.selects RX2 yX2_meeting yX2_meeting, Cond.code yX2_meeting cX2_meeting 2 (some .int), Cond.methodLink RX0 22 yX2_end, Cond.instanceMethod yX2_end, Cond.selects RX2 yX2_end yX2_end]
def wsL_bestPlace_r4 : List Cond := [Cond.code yX2_end cX2_end 1 (some .int), Cond.fieldLink RX2 41 "FloatOrder$Parade" "came" "[I", Cond.methodLink RX2 86 yX2_travel, Cond.instanceMethod yX2_travel, Cond.selects RX2 yX2_travel yX2_travel, Cond.code yX2_travel cX2_travel 8 none, Cond.fieldLink RX2 44 "FloatOrder$Parade" "left" "[I", Cond.methodLink RX2 64 Lib.Math.max.name, Cond.static Lib.Math.max.name, Cond.initialized "java/lang/Math", Cond.code Lib.Math.max.name Lib.Math.max.code 2 (some .int), Cond.methodLink RX2 54 yX2_countedHeight, Cond.instanceMethod yX2_countedHeight, Cond.selects RX2 yX2_countedHeight yX2_countedHeight, Cond.code yX2_countedHeight cX2_countedHeight 3 (some .int), Cond.methodLink RX4 95 yX2_swap, Cond.methodLink RX4 257 yX0_isBeatenBy, Cond.instanceMethod yX0_isBeatenBy, Cond.selects RX0 yX0_isBeatenBy yX0_isBeatenBy, Cond.code yX0_isBeatenBy cX0_isBeatenBy 4 (some .boolean)]
def wsL_bestPlace : List Cond := .codeWith yL_bestPlace cL_bestPlace 4 (some .int) [(0, 9, 12, 13)] :: ((wsL_bestPlace_r1 ++ (wsL_bestPlace_r2 ++ (wsL_bestPlace_r3 ++ wsL_bestPlace_r4))) ++ wsX40 ++ wsX20 ++ wsX00 ++ (vx_atS RX4 55 "java/lang/IndexOutOfBoundsException" ["java/lang/RuntimeException", "java/lang/Exception"]).filter goodWord)
def wsL_law0_r1 : List Cond := [Cond.classLink RL 8 RX4, Cond.instantiable RX4 7, Cond.initialized RX4, Cond.classLink RL 79 RX5, Cond.instantiable RX5 12, Cond.initialized RX5, Cond.arrayClass .long, Cond.methodLink RL 78 yX4_init, Cond.instanceMethod yX4_init, Cond.code yX4_init cX4_init 1 none, Cond.methodLink RX4 1 objectInit, Cond.instanceMethod objectInit, Cond.code objectInit ⟨#[0xb1]⟩ 1 none, Cond.classLink RX4 7 RX2, Cond.instantiable RX2 11, Cond.initialized RX2, Cond.fieldLink RX4 10 "FloatOrder" "parade" "LFloatOrder$Parade;", Cond.fieldLink RX4 16 "FloatOrder" "trial" "LFloatOrder$Parade;", Cond.classLink RX4 19 RX1, Cond.instantiable RX1 2, Cond.initialized RX1, Cond.fieldLink RX4 22 "FloatOrder" "history" "LFloatOrder$History;", Cond.classLink RX4 26 RX0, Cond.instantiable RX0 2]
def wsL_law0_r2 : List Cond := [Cond.initialized RX0, Cond.fieldLink RX4 29 "FloatOrder" "best" "LFloatOrder$Best;", Cond.classLink RX4 33 RX3, Cond.instantiable RX3 4, Cond.initialized RX3, Cond.fieldLink RX4 36 "FloatOrder" "reader" "LFloatOrder$PartReader;", Cond.arrayClass .int, Cond.fieldLink RX4 40 "FloatOrder" "buffer" "[I", Cond.fieldLink RX4 44 "FloatOrder" "characters" "I", Cond.instanceMethod yX2_init, Cond.code yX2_init cX2_init 1 none, Cond.methodLink RX2 3 objectInit, Cond.fieldLink RX2 9 "FloatOrder$Parade" "floats" "I", Cond.fieldLink RX2 15 "FloatOrder$Parade" "kinds" "[I", Cond.fieldLink RX2 19 "FloatOrder$Parade" "heights" "[I", Cond.fieldLink RX2 22 "FloatOrder$Parade" "masks" "[I", Cond.arrayClass .boolean, Cond.fieldLink RX2 25 "FloatOrder$Parade" "folded" "[Z", Cond.fieldLink RX2 29 "FloatOrder$Parade" "bridges" "I", Cond.fieldLink RX2 32 "FloatOrder$Parade" "distances" "[I", Cond.fieldLink RX2 35 "FloatOrder$Parade" "clearances" "[I", Cond.fieldLink RX2 38 "FloatOrder$Parade" "settings" "[I", Cond.fieldLink RX2 41 "FloatOrder$Parade" "came" "[I", Cond.fieldLink RX2 44 "FloatOrder$Parade" "left" "[I"]
def wsL_law0_r3 : List Cond := [Cond.methodLink RX4 21 yX1_init, Cond.instanceMethod yX1_init, Cond.code yX1_init cX1_init 2 none, Cond.methodLink RX1 3 objectInit, Cond.classLink RX1 9 RX2, Cond.fieldLink RX1 11 "FloatOrder$History" "saved" "[LFloatOrder$Parade;", Cond.fieldLink RX1 17 "FloatOrder$History" "size" "I", Cond.instanceMethod yX0_init, Cond.code yX0_init cX0_init 1 none, Cond.methodLink RX0 1 objectInit, Cond.fieldLink RX0 7 "FloatOrder$Best" "leastTrouble" "I", Cond.fieldLink RX0 13 "FloatOrder$Best" "leastEnd" "I", Cond.instanceMethod yX3_init, Cond.code yX3_init cX3_init 1 none, Cond.methodLink RX3 3 objectInit, Cond.fieldLink RX3 9 "FloatOrder$PartReader" "kind" "I", Cond.fieldLink RX3 15 "FloatOrder$PartReader" "height" "I", Cond.fieldLink RX3 18 "FloatOrder$PartReader" "mask" "I", Cond.fieldLink RX3 21 "FloatOrder$PartReader" "stage" "I", Cond.methodLink RL 81 yX5_init, Cond.instanceMethod yX5_init, Cond.code yX5_init cX5_init 1 none, Cond.methodLink RX5 1 objectInit, Cond.fieldLink RX5 7 "FloatOrderModel" "now" "[I"]
def wsL_law0_r4 : List Cond := [Cond.fieldLink RX5 13 "FloatOrderModel" "then" "[I", Cond.fieldLink RX5 16 "FloatOrderModel" "past" "[I", Cond.fieldLink RX5 19 "FloatOrderModel" "text" "[I", Cond.fieldLink RX5 22 "FloatOrderModel" "told" "[I", Cond.fieldLink RX5 25 "FloatOrderModel" "minutes" "[I", Cond.methodLink RL 82 yL_put, Cond.static yL_put, Cond.initialized RL, Cond.codeWith yL_put cL_put 7 (some .int) [(0, 14, 17, 13), (0, 14, 21, 15), (0, 14, 25, 17)], Cond.classLink RL 13 "java/lang/IndexOutOfBoundsException", Cond.classLink RL 15 "java/lang/IllegalArgumentException", Cond.classLink RL 17 "java/lang/IllegalStateException", Cond.methodLink RL 7 yX4_put, Cond.instanceMethod yX4_put, Cond.selects RX4 yX4_put yX4_put, Cond.code yX4_put cX4_put 5 (some .int), Cond.classLink RX4 51 "java/lang/IndexOutOfBoundsException", Cond.initialized "java/lang/IndexOutOfBoundsException", Cond.classLink RX4 62 "java/lang/IllegalArgumentException", Cond.initialized "java/lang/IllegalArgumentException", Cond.classLink RX4 67 "java/lang/IllegalStateException", Cond.initialized "java/lang/IllegalStateException", Cond.fieldLink RX4 48 "FloatOrder$Parade" "floats" "I", Cond.methodLink RX4 58 yX4_isFloat]
def wsL_law0_r5 : List Cond := [Cond.static yX4_isFloat, Cond.code yX4_isFloat cX4_isFloat 3 (some .boolean), Cond.methodLink RX4 111 yX4_isHeight, Cond.static yX4_isHeight, Cond.code yX4_isHeight cX4_isHeight 1 (some .boolean), Cond.methodLink RX4 72 yX1_save, Cond.instanceMethod yX1_save, Cond.selects RX1 yX1_save yX1_save, Cond.code yX1_save cX1_save 2 none, Cond.methodLink RX1 22 yX1_dropOldest, Cond.instanceMethod yX1_dropOldest, Cond.selects RX1 yX1_dropOldest yX1_dropOldest, Cond.code yX1_dropOldest cX1_dropOldest 3 none, Cond.methodLink RX1 25 yX2_copyFrom, Cond.instanceMethod yX2_copyFrom, Cond.selects RX2 yX2_copyFrom yX2_copyFrom, Cond.code yX2_copyFrom cX2_copyFrom 3 none, Cond.methodLink RX4 76 yX2_addLast, Cond.instanceMethod yX2_addLast, Cond.selects RX2 yX2_addLast yX2_addLast, Cond.code yX2_addLast cX2_addLast 4 none, Cond.methodLink RX4 80 yX2_shift, Cond.instanceMethod yX2_shift, Cond.selects RX2 yX2_shift yX2_shift]
def wsL_law0_r6 : List Cond := [Cond.code yX2_shift cX2_shift 4 none, Cond.methodLink RX2 51 yX2_swap, Cond.instanceMethod yX2_swap, Cond.selects RX2 yX2_swap yX2_swap, Cond.code yX2_swap cX2_swap 7 none, Cond.methodLink RL 87 yX5_put, Cond.instanceMethod yX5_put, Cond.selects RX5 yX5_put yX5_put, Cond.code yX5_put cX5_put 5 (some .int), Cond.fieldLink RX5 28 "FloatOrderModel" "thrown" "I", Cond.methodLink RX5 32 yX5_in, Cond.static yX5_in, Cond.code yX5_in cX5_in 3 (some .boolean), Cond.methodLink RX5 43 yX5_fails, Cond.instanceMethod yX5_fails, Cond.selects RX5 yX5_fails yX5_fails, Cond.code yX5_fails cX5_fails 2 (some .int), Cond.methodLink RX5 87 yX5_isKind, Cond.static yX5_isKind, Cond.code yX5_isKind cX5_isKind 3 (some .boolean), Cond.methodLink RX5 90 yX5_saves, Cond.instanceMethod yX5_saves, Cond.selects RX5 yX5_saves yX5_saves, Cond.code yX5_saves cX5_saves 2 none]
def wsL_law0_r7 : List Cond := [Cond.fieldLink RX5 36 "FloatOrderModel" "kept" "I", Cond.methodLink RX5 39 yX5_copies, Cond.static yX5_copies, Cond.code yX5_copies cX5_copies 5 none, Cond.methodLink RX5 72 yX5_puts, Cond.static yX5_puts, Cond.code yX5_puts cX5_puts 7 none, Cond.methodLink RL 88 yX5_thrown, Cond.instanceMethod yX5_thrown, Cond.selects RX5 yX5_thrown yX5_thrown, Cond.code yX5_thrown cX5_thrown 1 (some .int), Cond.methodLink RL 91 yL_remove, Cond.static yL_remove, Cond.codeWith yL_remove cL_remove 4 (some .int) [(0, 9, 12, 13)], Cond.methodLink RL 19 yX4_remove, Cond.instanceMethod yX4_remove, Cond.selects RX4 yX4_remove yX4_remove, Cond.code yX4_remove cX4_remove 2 (some .int), Cond.methodLink RX4 84 yX4_needFloat, Cond.instanceMethod yX4_needFloat, Cond.selects RX4 yX4_needFloat yX4_needFloat, Cond.code yX4_needFloat cX4_needFloat 2 none, Cond.methodLink RX4 88 yX2_takeAway, Cond.instanceMethod yX2_takeAway]
def wsL_law0_r8 : List Cond := [Cond.selects RX2 yX2_takeAway yX2_takeAway, Cond.code yX2_takeAway cX2_takeAway 2 none, Cond.methodLink RX2 47 yX2_shift, Cond.methodLink RL 94 yX5_remove, Cond.instanceMethod yX5_remove, Cond.selects RX5 yX5_remove yX5_remove, Cond.code yX5_remove cX5_remove 2 (some .int), Cond.methodLink RX5 93 yX5_isFloat, Cond.instanceMethod yX5_isFloat, Cond.selects RX5 yX5_isFloat yX5_isFloat, Cond.code yX5_isFloat cX5_isFloat 2 (some .boolean), Cond.methodLink RX5 68 yX5_goesOut, Cond.static yX5_goesOut, Cond.code yX5_goesOut cX5_goesOut 3 none, Cond.methodLink RL 95 yL_move, Cond.static yL_move, Cond.codeWith yL_move cL_move 5 (some .int) [(0, 10, 13, 13)], Cond.methodLink RL 23 yX4_move, Cond.instanceMethod yX4_move, Cond.selects RX4 yX4_move yX4_move, Cond.code yX4_move cX4_move 3 (some .int), Cond.methodLink RX4 91 yX2_allTrouble, Cond.instanceMethod yX2_allTrouble, Cond.selects RX2 yX2_allTrouble yX2_allTrouble]
def wsL_law0_r9 : List Cond := [Cond.code yX2_allTrouble cX2_allTrouble 3 (some .int), Cond.methodLink RX2 61 yX2_troubleAt, Cond.instanceMethod yX2_troubleAt, Cond.selects RX2 yX2_troubleAt yX2_troubleAt, Cond.code yX2_troubleAt cX2_troubleAt 2 (some .int), Cond.methodLink RX2 70 yX2_shying, Cond.instanceMethod yX2_shying, Cond.selects RX2 yX2_shying yX2_shying, Cond.code yX2_shying cX2_shying 3 (some .int), Cond.methodLink RX2 73 yX2_hearing, Cond.instanceMethod yX2_hearing, Cond.selects RX2 yX2_hearing yX2_hearing, Cond.code yX2_hearing cX2_hearing 4 (some .int), Cond.methodLink RX2 76 yX2_meeting, Cond.instanceMethod yX2_meeting, Cond.selects RX2 yX2_meeting yX2_meeting, Cond.code yX2_meeting cX2_meeting 2 (some .int), Cond.methodLink RL 98 yX5_move, Cond.instanceMethod yX5_move, Cond.selects RX5 yX5_move yX5_move, Cond.code yX5_move cX5_move 3 (some .int), Cond.methodLink RX5 97 yX5_moves, Cond.static yX5_moves, Cond.code yX5_moves cX5_moves 7 none]
def wsL_law0_r10 : List Cond := [Cond.methodLink RX5 47 yX5_of, Cond.static yX5_of, Cond.code yX5_of cX5_of 3 (some .int), Cond.methodLink RX5 76 yX5_allTrouble, Cond.static yX5_allTrouble, Cond.code yX5_allTrouble cX5_allTrouble 3 (some .int), Cond.methodLink RX5 54 yX5_troubles, Cond.static yX5_troubles, Cond.code yX5_troubles cX5_troubles 2 (some .int), Cond.methodLink RX5 51 yX5_troubled, Cond.static yX5_troubled, Cond.code yX5_troubled cX5_troubled 6 (some .int), Cond.methodLink RL 99 yL_exchange, Cond.static yL_exchange, Cond.codeWith yL_exchange cL_exchange 5 (some .int) [(0, 10, 13, 13)], Cond.methodLink RL 27 yX4_exchange, Cond.instanceMethod yX4_exchange, Cond.selects RX4 yX4_exchange yX4_exchange, Cond.code yX4_exchange cX4_exchange 3 (some .int), Cond.methodLink RX4 95 yX2_swap, Cond.methodLink RL 101 yX5_exchange, Cond.instanceMethod yX5_exchange, Cond.selects RX5 yX5_exchange yX5_exchange, Cond.code yX5_exchange cX5_exchange 3 (some .int)]
def wsL_law0_r11 : List Cond := [Cond.methodLink RX5 83 yX5_exchanges, Cond.static yX5_exchanges, Cond.code yX5_exchanges cX5_exchanges 5 none, Cond.methodLink RL 102 yL_fold, Cond.static yL_fold, Cond.codeWith yL_fold cL_fold 5 (some .int) [(0, 10, 13, 13)], Cond.methodLink RL 30 yX4_fold, Cond.instanceMethod yX4_fold, Cond.selects RX4 yX4_fold yX4_fold, Cond.code yX4_fold cX4_fold 3 (some .int), Cond.fieldLink RX4 98 "FloatOrder$Parade" "folded" "[Z", Cond.methodLink RX4 102 yX2_countedHeight, Cond.instanceMethod yX2_countedHeight, Cond.selects RX2 yX2_countedHeight yX2_countedHeight, Cond.code yX2_countedHeight cX2_countedHeight 3 (some .int), Cond.methodLink RL 105 yX5_fold, Cond.instanceMethod yX5_fold, Cond.selects RX5 yX5_fold yX5_fold, Cond.code yX5_fold cX5_fold 3 (some .int), Cond.methodLink RX5 58 yX5_high, Cond.static yX5_high, Cond.code yX5_high cX5_high 3 (some .int), Cond.methodLink RL 106 yX4_arrange, Cond.instanceMethod yX4_arrange]
def wsL_law0_r12 : List Cond := [Cond.selects RX4 yX4_arrange yX4_arrange, Cond.code yX4_arrange cX4_arrange 2 (some .int), Cond.constant RX4 106 (1000000), Cond.methodLink RX4 107 yX4_doBestExchange, Cond.instanceMethod yX4_doBestExchange, Cond.selects RX4 yX4_doBestExchange yX4_doBestExchange, Cond.code yX4_doBestExchange cX4_doBestExchange 5 (some .boolean), Cond.methodLink RX4 254 yX0_startAt, Cond.instanceMethod yX0_startAt, Cond.selects RX0 yX0_startAt yX0_startAt, Cond.code yX0_startAt cX0_startAt 2 none, Cond.methodLink RX0 16 yX2_allTrouble, Cond.methodLink RX0 22 yX2_end, Cond.instanceMethod yX2_end, Cond.selects RX2 yX2_end yX2_end, Cond.code yX2_end cX2_end 1 (some .int), Cond.methodLink RX2 86 yX2_travel, Cond.instanceMethod yX2_travel, Cond.selects RX2 yX2_travel yX2_travel, Cond.code yX2_travel cX2_travel 8 none, Cond.methodLink RX2 64 Lib.Math.max.name, Cond.static Lib.Math.max.name, Cond.initialized "java/lang/Math", Cond.code Lib.Math.max.name Lib.Math.max.code 2 (some .int)]
def wsL_law0_r13 : List Cond := [Cond.methodLink RX2 54 yX2_countedHeight, Cond.methodLink RX4 257 yX0_isBeatenBy, Cond.instanceMethod yX0_isBeatenBy, Cond.selects RX0 yX0_isBeatenBy yX0_isBeatenBy, Cond.code yX0_isBeatenBy cX0_isBeatenBy 4 (some .boolean), Cond.methodLink RL 109 yX5_arrange, Cond.instanceMethod yX5_arrange, Cond.selects RX5 yX5_arrange yX5_arrange, Cond.code yX5_arrange cX5_arrange 3 (some .int), Cond.methodLink RX5 100 yX5_bestExchange, Cond.instanceMethod yX5_bestExchange, Cond.selects RX5 yX5_bestExchange yX5_bestExchange, Cond.code yX5_bestExchange cX5_bestExchange 9 (some .int), Cond.methodLink RX5 80 yX5_ends, Cond.instanceMethod yX5_ends, Cond.selects RX5 yX5_ends yX5_ends, Cond.code yX5_ends cX5_ends 2 (some .int), Cond.methodLink RX5 65 yX5_goes, Cond.instanceMethod yX5_goes, Cond.selects RX5 yX5_goes yX5_goes, Cond.code yX5_goes cX5_goes 11 (some .int), Cond.methodLink RX5 61 yX5_isLowered, Cond.static yX5_isLowered, Cond.code yX5_isLowered cX5_isLowered 3 (some .boolean)]
def wsL_law0_r14 : List Cond := [Cond.methodLink RL 110 yL_bridge, Cond.static yL_bridge, Cond.codeWith yL_bridge cL_bridge 5 (some .int) [(0, 10, 13, 15), (0, 10, 17, 17)], Cond.methodLink RL 34 yX4_bridge, Cond.instanceMethod yX4_bridge, Cond.selects RX4 yX4_bridge yX4_bridge, Cond.code yX4_bridge cX4_bridge 3 (some .int), Cond.fieldLink RX4 117 "FloatOrder$Parade" "bridges" "I", Cond.methodLink RX4 120 yX2_hasBridgeAt, Cond.instanceMethod yX2_hasBridgeAt, Cond.selects RX2 yX2_hasBridgeAt yX2_hasBridgeAt, Cond.code yX2_hasBridgeAt cX2_hasBridgeAt 3 (some .boolean), Cond.methodLink RX4 125 yX2_build, Cond.instanceMethod yX2_build, Cond.selects RX2 yX2_build yX2_build, Cond.code yX2_build cX2_build 4 (some .int), Cond.methodLink RL 112 yX5_bridge, Cond.instanceMethod yX5_bridge, Cond.selects RX5 yX5_bridge yX5_bridge, Cond.code yX5_bridge cX5_bridge 4 (some .int), Cond.methodLink RX5 104 yX5_isBridged, Cond.instanceMethod yX5_isBridged, Cond.selects RX5 yX5_isBridged yX5_isBridged, Cond.code yX5_isBridged cX5_isBridged 4 (some .boolean)]
def wsL_law0_r15 : List Cond := [Cond.methodLink RL 113 yL_unbridge, Cond.static yL_unbridge, Cond.codeWith yL_unbridge cL_unbridge 4 (some .int) [(0, 9, 12, 13)], Cond.methodLink RL 37 yX4_unbridge, Cond.instanceMethod yX4_unbridge, Cond.selects RX4 yX4_unbridge yX4_unbridge, Cond.code yX4_unbridge cX4_unbridge 3 (some .int), Cond.fieldLink RX4 132 "FloatOrder$Parade" "distances" "[I", Cond.methodLink RX4 129 yX4_needBridge, Cond.instanceMethod yX4_needBridge, Cond.selects RX4 yX4_needBridge yX4_needBridge, Cond.code yX4_needBridge cX4_needBridge 2 none, Cond.methodLink RX4 135 yX2_pullDown, Cond.instanceMethod yX2_pullDown, Cond.selects RX2 yX2_pullDown yX2_pullDown, Cond.code yX2_pullDown cX2_pullDown 3 none, Cond.methodLink RL 115 yX5_unbridge, Cond.instanceMethod yX5_unbridge, Cond.selects RX5 yX5_unbridge yX5_unbridge, Cond.code yX5_unbridge cX5_unbridge 4 (some .int), Cond.methodLink RX5 107 yX5_isBridge, Cond.instanceMethod yX5_isBridge, Cond.selects RX5 yX5_isBridge yX5_isBridge, Cond.code yX5_isBridge cX5_isBridge 2 (some .boolean)]
def wsL_law0_r16 : List Cond := [Cond.methodLink RL 116 yL_set, Cond.static yL_set, Cond.codeWith yL_set cL_set 5 (some .int) [(0, 10, 13, 13), (0, 10, 17, 15)], Cond.methodLink RL 40 yX4_set, Cond.instanceMethod yX4_set, Cond.selects RX4 yX4_set yX4_set, Cond.code yX4_set cX4_set 4 (some .int), Cond.fieldLink RX4 141 "FloatOrder" "LEAST_SETTINGS" "[I", Cond.fieldLink RX4 144 "FloatOrder" "GREATEST_SETTINGS" "[I", Cond.fieldLink RX4 149 "FloatOrder$Parade" "settings" "[I", Cond.methodLink RX4 138 yX4_needSetting, Cond.static yX4_needSetting, Cond.code yX4_needSetting cX4_needSetting 1 none, Cond.methodLink RL 118 yX5_set, Cond.instanceMethod yX5_set, Cond.selects RX5 yX5_set yX5_set, Cond.code yX5_set cX5_set 4 (some .int), Cond.methodLink RL 119 yL_append, Cond.static yL_append, Cond.codeWith yL_append cL_append 4 (some .int) [(0, 9, 12, 15), (0, 9, 15, 17)], Cond.methodLink RL 43 yX4_append, Cond.instanceMethod yX4_append, Cond.selects RX4 yX4_append yX4_append, Cond.code yX4_append cX4_append 2 (some .int)]
def wsL_law0_r17 : List Cond := [Cond.methodLink RL 121 yX5_append, Cond.instanceMethod yX5_append, Cond.selects RX5 yX5_append yX5_append, Cond.code yX5_append cX5_append 2 (some .int), Cond.fieldLink RX5 110 "FloatOrderModel" "typed" "I", Cond.methodLink RL 122 yX4_clearBuffer, Cond.instanceMethod yX4_clearBuffer, Cond.selects RX4 yX4_clearBuffer yX4_clearBuffer, Cond.code yX4_clearBuffer cX4_clearBuffer 2 (some .int), Cond.methodLink RL 125 yX5_clearBuffer, Cond.instanceMethod yX5_clearBuffer, Cond.selects RX5 yX5_clearBuffer yX5_clearBuffer, Cond.code yX5_clearBuffer cX5_clearBuffer 2 (some .int), Cond.methodLink RL 126 yX4_firstError, Cond.instanceMethod yX4_firstError, Cond.selects RX4 yX4_firstError yX4_firstError, Cond.code yX4_firstError cX4_firstError 1 (some .int), Cond.methodLink RX4 156 yX4_readBuffer, Cond.instanceMethod yX4_readBuffer, Cond.selects RX4 yX4_readBuffer yX4_readBuffer, Cond.code yX4_readBuffer cX4_readBuffer 2 (some .int), Cond.methodLink RX4 273 yX3_start, Cond.instanceMethod yX3_start, Cond.selects RX3 yX3_start yX3_start]
def wsL_law0_r18 : List Cond := [Cond.code yX3_start cX3_start 1 none, Cond.methodLink RX4 276 yX3_accepts, Cond.instanceMethod yX3_accepts, Cond.selects RX3 yX3_accepts yX3_accepts, Cond.code yX3_accepts cX3_accepts 2 (some .boolean), Cond.methodLink RX3 24 yX3_acceptsKind, Cond.instanceMethod yX3_acceptsKind, Cond.selects RX3 yX3_acceptsKind yX3_acceptsKind, Cond.code yX3_acceptsKind cX3_acceptsKind 3 (some .boolean), Cond.methodLink RX3 38 yX3_kindOf, Cond.static yX3_kindOf, Cond.code yX3_kindOf cX3_kindOf 1 (some .int), Cond.methodLink RX3 28 yX3_acceptsDigit, Cond.instanceMethod yX3_acceptsDigit, Cond.selects RX3 yX3_acceptsDigit yX3_acceptsDigit, Cond.code yX3_acceptsDigit cX3_acceptsDigit 5 (some .boolean), Cond.methodLink RX3 32 yX3_acceptsNextPart, Cond.instanceMethod yX3_acceptsNextPart, Cond.selects RX3 yX3_acceptsNextPart yX3_acceptsNextPart, Cond.code yX3_acceptsNextPart cX3_acceptsNextPart 2 (some .boolean), Cond.methodLink RX3 35 yX3_acceptsShied, Cond.instanceMethod yX3_acceptsShied, Cond.selects RX3 yX3_acceptsShied yX3_acceptsShied, Cond.code yX3_acceptsShied cX3_acceptsShied 3 (some .boolean)]
def wsL_law0_r19 : List Cond := [Cond.methodLink RL 129 yX5_firstError, Cond.instanceMethod yX5_firstError, Cond.selects RX5 yX5_firstError yX5_firstError, Cond.code yX5_firstError cX5_firstError 2 (some .int), Cond.fieldLink RX5 116 "FloatOrderModel" "isFault" "Z", Cond.fieldLink RX5 113 "FloatOrderModel" "at" "I", Cond.methodLink RX5 140 yX5_isText, Cond.instanceMethod yX5_isText, Cond.selects RX5 yX5_isText yX5_isText, Cond.code yX5_isText cX5_isText 2 (some .boolean), Cond.fieldLink RX5 123 "FloatOrderModel" "tolds" "I", Cond.methodLink RX5 137 yX5_isPart, Cond.instanceMethod yX5_isPart, Cond.selects RX5 yX5_isPart yX5_isPart, Cond.code yX5_isPart cX5_isPart 3 (some .boolean), Cond.methodLink RX5 120 yX5_kindAt, Cond.instanceMethod yX5_kindAt, Cond.selects RX5 yX5_kindAt yX5_kindAt, Cond.code yX5_kindAt cX5_kindAt 2 (some .int), Cond.methodLink RX5 126 yX5_stops, Cond.instanceMethod yX5_stops, Cond.selects RX5 yX5_stops yX5_stops, Cond.code yX5_stops cX5_stops 1 (some .boolean), Cond.methodLink RX5 130 yX5_isAt]
def wsL_law0_r20 : List Cond := [Cond.instanceMethod yX5_isAt, Cond.selects RX5 yX5_isAt yX5_isAt, Cond.code yX5_isAt cX5_isAt 3 (some .boolean), Cond.methodLink RX5 134 yX5_isMask, Cond.instanceMethod yX5_isMask, Cond.selects RX5 yX5_isMask yX5_isMask, Cond.code yX5_isMask cX5_isMask 2 (some .boolean), Cond.methodLink RL 130 yL_putAll, Cond.static yL_putAll, Cond.codeWith yL_putAll cL_putAll 3 (some .int) [(0, 8, 11, 15), (0, 8, 14, 17)], Cond.methodLink RL 46 yX4_putAll, Cond.instanceMethod yX4_putAll, Cond.selects RX4 yX4_putAll yX4_putAll, Cond.code yX4_putAll cX4_putAll 1 (some .int), Cond.methodLink RX4 159 yX3_isAfterPart, Cond.instanceMethod yX3_isAfterPart, Cond.selects RX3 yX3_isAfterPart yX3_isAfterPart, Cond.code yX3_isAfterPart cX3_isAfterPart 1 (some .boolean), Cond.methodLink RX4 164 yX4_partsInBuffer, Cond.instanceMethod yX4_partsInBuffer, Cond.selects RX4 yX4_partsInBuffer yX4_partsInBuffer, Cond.code yX4_partsInBuffer cX4_partsInBuffer 3 (some .int), Cond.methodLink RX4 169 yX4_addParts, Cond.instanceMethod yX4_addParts]
def wsL_law0_r21 : List Cond := [Cond.selects RX4 yX4_addParts yX4_addParts, Cond.code yX4_addParts cX4_addParts 2 none, Cond.fieldLink RX4 279 "FloatOrder$PartReader" "kind" "I", Cond.fieldLink RX4 282 "FloatOrder$PartReader" "height" "I", Cond.fieldLink RX4 285 "FloatOrder$PartReader" "mask" "I", Cond.methodLink RL 133 yX5_putAll, Cond.instanceMethod yX5_putAll, Cond.selects RX5 yX5_putAll yX5_putAll, Cond.code yX5_putAll cX5_putAll 2 (some .int), Cond.methodLink RL 134 yL_undo, Cond.static yL_undo, Cond.codeWith yL_undo cL_undo 3 (some .int) [(0, 8, 11, 17)], Cond.methodLink RL 50 yX4_undo, Cond.instanceMethod yX4_undo, Cond.selects RX4 yX4_undo yX4_undo, Cond.code yX4_undo cX4_undo 1 (some .int), Cond.fieldLink RX4 172 "FloatOrder$History" "size" "I", Cond.methodLink RX4 177 yX1_restoreLatest, Cond.instanceMethod yX1_restoreLatest, Cond.selects RX1 yX1_restoreLatest yX1_restoreLatest, Cond.code yX1_restoreLatest cX1_restoreLatest 2 none, Cond.methodLink RL 136 yX5_undo, Cond.instanceMethod yX5_undo, Cond.selects RX5 yX5_undo yX5_undo]
def wsL_law0_r22 : List Cond := [Cond.code yX5_undo cX5_undo 1 (some .int), Cond.methodLink RL 137 yL_floatAt, Cond.static yL_floatAt, Cond.codeWith yL_floatAt cL_floatAt 5 (some .int) [(0, 10, 13, 13), (0, 10, 17, 15)], Cond.methodLink RL 53 yX4_floatAt, Cond.instanceMethod yX4_floatAt, Cond.selects RX4 yX4_floatAt yX4_floatAt, Cond.code yX4_floatAt cX4_floatAt 3 (some .int), Cond.methodLink RX4 182 yX2_floatProperty, Cond.instanceMethod yX2_floatProperty, Cond.selects RX2 yX2_floatProperty yX2_floatProperty, Cond.code yX2_floatProperty cX2_floatProperty 3 (some .int), Cond.methodLink RX2 58 yX2_bridgesThatLower, Cond.instanceMethod yX2_bridgesThatLower, Cond.selects RX2 yX2_bridgesThatLower yX2_bridgesThatLower, Cond.code yX2_bridgesThatLower cX2_bridgesThatLower 4 (some .int), Cond.methodLink RX2 82 yX2_isLowered, Cond.instanceMethod yX2_isLowered, Cond.selects RX2 yX2_isLowered yX2_isLowered, Cond.code yX2_isLowered cX2_isLowered 3 (some .boolean), Cond.methodLink RL 139 yX5_floatAt, Cond.instanceMethod yX5_floatAt, Cond.selects RX5 yX5_floatAt yX5_floatAt, Cond.code yX5_floatAt cX5_floatAt 3 (some .int)]
def wsL_law0_r23 : List Cond := [Cond.methodLink RX5 146 yX5_ofFloat, Cond.instanceMethod yX5_ofFloat, Cond.selects RX5 yX5_ofFloat yX5_ofFloat, Cond.code yX5_ofFloat cX5_ofFloat 3 (some .int), Cond.methodLink RX5 143 yX5_bridgesOf, Cond.instanceMethod yX5_bridgesOf, Cond.selects RX5 yX5_bridgesOf yX5_bridgesOf, Cond.code yX5_bridgesOf cX5_bridgesOf 4 (some .int), Cond.methodLink RL 140 yL_trouble, Cond.static yL_trouble, Cond.codeWith yL_trouble cL_trouble 5 (some .int) [(0, 10, 13, 13), (0, 10, 17, 15)], Cond.methodLink RL 56 yX4_trouble, Cond.instanceMethod yX4_trouble, Cond.selects RX4 yX4_trouble yX4_trouble, Cond.code yX4_trouble cX4_trouble 3 (some .int), Cond.methodLink RX4 187 yX2_troubleBy, Cond.instanceMethod yX2_troubleBy, Cond.selects RX2 yX2_troubleBy yX2_troubleBy, Cond.code yX2_troubleBy cX2_troubleBy 3 (some .int), Cond.methodLink RL 142 yX5_trouble, Cond.instanceMethod yX5_trouble, Cond.selects RX5 yX5_trouble yX5_trouble, Cond.code yX5_trouble cX5_trouble 3 (some .int), Cond.methodLink RL 143 yL_comes]
def wsL_law0_r24 : List Cond := [Cond.static yL_comes, Cond.codeWith yL_comes cL_comes 5 (some .int) [(0, 10, 13, 13)], Cond.methodLink RL 59 yX4_comes, Cond.instanceMethod yX4_comes, Cond.selects RX4 yX4_comes yX4_comes, Cond.code yX4_comes cX4_comes 3 (some .int), Cond.fieldLink RX4 193 "FloatOrder$Parade" "came" "[I", Cond.methodLink RX4 190 yX2_travel, Cond.methodLink RL 145 yX5_comes, Cond.instanceMethod yX5_comes, Cond.selects RX5 yX5_comes yX5_comes, Cond.code yX5_comes cX5_comes 3 (some .int), Cond.methodLink RL 146 yL_bridgeOf, Cond.static yL_bridgeOf, Cond.codeWith yL_bridgeOf cL_bridgeOf 5 (some .int) [(0, 10, 13, 13), (0, 10, 17, 15)], Cond.methodLink RL 62 yX4_bridgeOf, Cond.instanceMethod yX4_bridgeOf, Cond.selects RX4 yX4_bridgeOf yX4_bridgeOf, Cond.code yX4_bridgeOf cX4_bridgeOf 3 (some .int), Cond.methodLink RX4 198 yX2_bridgeProperty, Cond.instanceMethod yX2_bridgeProperty, Cond.selects RX2 yX2_bridgeProperty yX2_bridgeProperty, Cond.code yX2_bridgeProperty cX2_bridgeProperty 3 (some .int), Cond.methodLink RX2 79 yX2_floatsLoweredAt]
def wsL_law0_r25 : List Cond := [Cond.instanceMethod yX2_floatsLoweredAt, Cond.selects RX2 yX2_floatsLoweredAt yX2_floatsLoweredAt, Cond.code yX2_floatsLoweredAt cX2_floatsLoweredAt 4 (some .int), Cond.methodLink RL 148 yX5_bridgeOf, Cond.instanceMethod yX5_bridgeOf, Cond.selects RX5 yX5_bridgeOf yX5_bridgeOf, Cond.code yX5_bridgeOf cX5_bridgeOf 3 (some .int), Cond.methodLink RX5 153 yX5_ofBridge, Cond.instanceMethod yX5_ofBridge, Cond.selects RX5 yX5_ofBridge yX5_ofBridge, Cond.code yX5_ofBridge cX5_ofBridge 3 (some .int), Cond.methodLink RX5 150 yX5_loweredAt, Cond.instanceMethod yX5_loweredAt, Cond.selects RX5 yX5_loweredAt yX5_loweredAt, Cond.code yX5_loweredAt cX5_loweredAt 4 (some .int), Cond.methodLink RL 149 yL_count, Cond.static yL_count, Cond.codeWith yL_count cL_count 4 (some .int) [(0, 9, 12, 15)], Cond.methodLink RL 65 yX4_count, Cond.instanceMethod yX4_count, Cond.selects RX4 yX4_count yX4_count, Cond.code yX4_count cX4_count 2 (some .int), Cond.methodLink RX4 203 yX4_number, Cond.instanceMethod yX4_number]
def wsL_law0_r26 : List Cond := [Cond.selects RX4 yX4_number yX4_number, Cond.code yX4_number cX4_number 2 (some .int), Cond.methodLink RX4 211 yX2_end, Cond.methodLink RX4 264 yX2_loweredFloats, Cond.instanceMethod yX2_loweredFloats, Cond.selects RX2 yX2_loweredFloats yX2_loweredFloats, Cond.code yX2_loweredFloats cX2_loweredFloats 3 (some .int), Cond.methodLink RX4 221 yX2_troubledFloats, Cond.instanceMethod yX2_troubledFloats, Cond.selects RX2 yX2_troubledFloats yX2_troubledFloats, Cond.code yX2_troubledFloats cX2_troubledFloats 3 (some .int), Cond.methodLink RX4 267 yX2_waiting, Cond.instanceMethod yX2_waiting, Cond.selects RX2 yX2_waiting yX2_waiting, Cond.code yX2_waiting cX2_waiting 1 (some .int), Cond.methodLink RX2 90 yX2_end, Cond.methodLink RX4 270 yX2_greatestHeight, Cond.instanceMethod yX2_greatestHeight, Cond.selects RX2 yX2_greatestHeight yX2_greatestHeight, Cond.code yX2_greatestHeight cX2_greatestHeight 3 (some .int), Cond.methodLink RL 151 yX5_count, Cond.instanceMethod yX5_count, Cond.selects RX5 yX5_count yX5_count, Cond.code yX5_count cX5_count 2 (some .int)]
def wsL_law0_r27 : List Cond := [Cond.methodLink RX5 159 yX5_counted, Cond.instanceMethod yX5_counted, Cond.selects RX5 yX5_counted yX5_counted, Cond.code yX5_counted cX5_counted 2 (some .int), Cond.methodLink RX5 156 yX5_overFloats, Cond.instanceMethod yX5_overFloats, Cond.selects RX5 yX5_overFloats yX5_overFloats, Cond.code yX5_overFloats cX5_overFloats 4 (some .int), Cond.methodLink RL 152 yL_setting, Cond.static yL_setting, Cond.codeWith yL_setting cL_setting 4 (some .int) [(0, 9, 12, 13)], Cond.methodLink RL 68 yX4_setting, Cond.instanceMethod yX4_setting, Cond.selects RX4 yX4_setting yX4_setting, Cond.code yX4_setting cX4_setting 2 (some .int), Cond.methodLink RL 154 yX5_setting, Cond.instanceMethod yX5_setting, Cond.selects RX5 yX5_setting yX5_setting, Cond.code yX5_setting cX5_setting 2 (some .int), Cond.methodLink RL 155 yL_ifMoved, Cond.static yL_ifMoved, Cond.codeWith yL_ifMoved cL_ifMoved 6 (some .int) [(0, 12, 15, 13), (0, 12, 19, 15)], Cond.methodLink RL 71 yX4_ifMoved, Cond.instanceMethod yX4_ifMoved]
def wsL_law0_r28 : List Cond := [Cond.selects RX4 yX4_ifMoved yX4_ifMoved, Cond.code yX4_ifMoved cX4_ifMoved 4 (some .int), Cond.methodLink RX4 208 yX2_copyFrom, Cond.methodLink RL 158 yX5_ifMoved, Cond.instanceMethod yX5_ifMoved, Cond.selects RX5 yX5_ifMoved yX5_ifMoved, Cond.code yX5_ifMoved cX5_ifMoved 4 (some .int), Cond.methodLink RX5 162 yX5_byMoving, Cond.instanceMethod yX5_byMoving, Cond.selects RX5 yX5_byMoving yX5_byMoving, Cond.code yX5_byMoving cX5_byMoving 4 (some .int), Cond.methodLink RL 159 yL_bestPlace, Cond.static yL_bestPlace, Cond.codeWith yL_bestPlace cL_bestPlace 4 (some .int) [(0, 9, 12, 13)], Cond.methodLink RL 75 yX4_bestPlace, Cond.instanceMethod yX4_bestPlace, Cond.selects RX4 yX4_bestPlace yX4_bestPlace, Cond.code yX4_bestPlace cX4_bestPlace 2 (some .int), Cond.methodLink RX4 214 yX4_placeOfLeast, Cond.instanceMethod yX4_placeOfLeast, Cond.selects RX4 yX4_placeOfLeast yX4_placeOfLeast, Cond.code yX4_placeOfLeast cX4_placeOfLeast 4 (some .int), Cond.methodLink RL 161 yX5_bestPlace, Cond.instanceMethod yX5_bestPlace]
def wsL_law0_r29 : List Cond := [Cond.selects RX5 yX5_bestPlace yX5_bestPlace, Cond.code yX5_bestPlace cX5_bestPlace 2 (some .int), Cond.methodLink RX5 167 yX5_best, Cond.instanceMethod yX5_best, Cond.selects RX5 yX5_best yX5_best, Cond.code yX5_best cX5_best 6 (some .int), Cond.constant RX5 166 (100000), Cond.methodLink RL 162 yX4_bestFold, Cond.instanceMethod yX4_bestFold, Cond.selects RX4 yX4_bestFold yX4_bestFold, Cond.code yX4_bestFold cX4_bestFold 5 (some .int), Cond.methodLink RL 165 yX5_bestFold, Cond.instanceMethod yX5_bestFold, Cond.selects RX5 yX5_bestFold yX5_bestFold, Cond.code yX5_bestFold cX5_bestFold 1 (some .int), Cond.methodLink RX5 170 yX5_folding, Cond.instanceMethod yX5_folding, Cond.selects RX5 yX5_folding yX5_folding, Cond.code yX5_folding cX5_folding 5 (some .int), Cond.methodLink RL 166 yX4_leastTrouble, Cond.instanceMethod yX4_leastTrouble, Cond.selects RX4 yX4_leastTrouble yX4_leastTrouble, Cond.code yX4_leastTrouble cX4_leastTrouble 1 (some .int), Cond.methodLink RX4 217 yX4_leastFrom]
def wsL_law0_r30 : List Cond := [Cond.static yX4_leastFrom, Cond.code yX4_leastFrom cX4_leastFrom 6 (some .int), Cond.methodLink RX4 261 yX2_troubleAt, Cond.methodLink RL 169 yX5_leastTrouble, Cond.instanceMethod yX5_leastTrouble, Cond.selects RX5 yX5_leastTrouble yX5_leastTrouble, Cond.code yX5_leastTrouble cX5_leastTrouble 1 (some .int), Cond.methodLink RX5 177 yX5_least, Cond.instanceMethod yX5_least, Cond.selects RX5 yX5_least yX5_least, Cond.code yX5_least cX5_least 4 (some .int), Cond.methodLink RX5 173 yX5_orders, Cond.instanceMethod yX5_orders, Cond.selects RX5 yX5_orders yX5_orders, Cond.code yX5_orders cX5_orders 5 none, Cond.methodLink RL 170 yX4_smoothness, Cond.instanceMethod yX4_smoothness, Cond.selects RX4 yX4_smoothness yX4_smoothness, Cond.code yX4_smoothness cX4_smoothness 1 (some .double), Cond.methodLink RL 174 yX5_smoothness, Cond.instanceMethod yX5_smoothness, Cond.selects RX5 yX5_smoothness yX5_smoothness, Cond.code yX5_smoothness cX5_smoothness 1 (some .double), Cond.methodLink RX5 180 yX5_smooth]
def wsL_law0_r31 : List Cond := [Cond.instanceMethod yX5_smooth, Cond.selects RX5 yX5_smooth yX5_smooth, Cond.code yX5_smooth cX5_smooth 1 (some .double), Cond.methodLink RL 175 yX4_digest, Cond.instanceMethod yX4_digest, Cond.selects RX4 yX4_digest yX4_digest, Cond.code yX4_digest cX4_digest 5 (some .long), Cond.constantLong RX4 224 (2971), Cond.methodLink RX4 226 yX4_mixed, Cond.static yX4_mixed, Cond.code yX4_mixed cX4_mixed 4 (some .long), Cond.constantLong RX4 288 (31), Cond.methodLink RX4 230 yX4_withFloat, Cond.instanceMethod yX4_withFloat, Cond.selects RX4 yX4_withFloat yX4_withFloat, Cond.code yX4_withFloat cX4_withFloat 7 (some .long), Cond.methodLink RX4 234 yX4_bestFold, Cond.methodLink RX4 237 yX4_leastTrouble, Cond.methodLink RX4 240 yX4_smoothness, Cond.methodLink RX4 244 yX4_bitsOfShare, Cond.static yX4_bitsOfShare, Cond.code yX4_bitsOfShare cX4_bitsOfShare 8 (some .long), Cond.constantLong RX4 290 (1023), Cond.constantDouble RX4 292 (4611686018427387904)]
def wsL_law0_r32 : List Cond := [Cond.constantDouble RX4 294 (4841369599423283200), Cond.methodLink RL 179 yX5_digest, Cond.instanceMethod yX5_digest, Cond.selects RX5 yX5_digest yX5_digest, Cond.code yX5_digest cX5_digest 5 (some .long), Cond.constantLong RX5 184 (2971), Cond.constantLong RX5 186 (31), Cond.methodLink RX5 188 yJxe99ae_doubleToLongBits_ccdee, Cond.static yJxe99ae_doubleToLongBits_ccdee, Cond.initialized RJxe99ae, Cond.code yJxe99ae_doubleToLongBits_ccdee cJxe99ae_doubleToLongBits_ccdee 2 (some .long), Cond.methodLink RJxe99ae 134 ⟨"java/lang/Double", "doubleToRawLongBits", "(D)J"⟩, Cond.native ⟨"java/lang/Double", "doubleToRawLongBits", "(D)J"⟩, Cond.static ⟨"java/lang/Double", "doubleToRawLongBits", "(D)J"⟩, Cond.initialized "java/lang/Double", Cond.constantLong RJxe99ae 137 (9221120237041090560), Cond.methodLink RJxe99ae 122 yJxe99ae_isNaN_b9ae7, Cond.static yJxe99ae_isNaN_b9ae7, Cond.code yJxe99ae_isNaN_b9ae7 cJxe99ae_isNaN_b9ae7 2 (some .boolean)]
def wsL_law0 : List Cond := (wsL_law0_r1 ++ (wsL_law0_r2 ++ (wsL_law0_r3 ++ (wsL_law0_r4 ++ (wsL_law0_r5 ++ (wsL_law0_r6 ++ (wsL_law0_r7 ++ (wsL_law0_r8 ++ (wsL_law0_r9 ++ (wsL_law0_r10 ++ (wsL_law0_r11 ++ (wsL_law0_r12 ++ (wsL_law0_r13 ++ (wsL_law0_r14 ++ (wsL_law0_r15 ++ (wsL_law0_r16 ++ (wsL_law0_r17 ++ (wsL_law0_r18 ++ (wsL_law0_r19 ++ (wsL_law0_r20 ++ (wsL_law0_r21 ++ (wsL_law0_r22 ++ (wsL_law0_r23 ++ (wsL_law0_r24 ++ (wsL_law0_r25 ++ (wsL_law0_r26 ++ (wsL_law0_r27 ++ (wsL_law0_r28 ++ (wsL_law0_r29 ++ (wsL_law0_r30 ++ (wsL_law0_r31 ++ wsL_law0_r32))))))))))))))))))))))))))))))) ++ wsX40 ++ wsX50 ++ wsX20 ++ wsX10 ++ wsX00 ++ wsX30 ++ ([] : List Cond)
def wsL_law : List Cond := wsL_law0 ++ (vx_atS RX4 55 "java/lang/IndexOutOfBoundsException" ["java/lang/RuntimeException", "java/lang/Exception"]).filter goodWord ++ (vx_atS RX4 66 "java/lang/IllegalArgumentException" ["java/lang/RuntimeException", "java/lang/Exception"]).filter goodWord ++ (vx_atS RX4 71 "java/lang/IllegalStateException" ["java/lang/RuntimeException", "java/lang/Exception"]).filter goodWord
theorem inlX0 : ∀ w ∈ wsX00, w ∈ wsL_law := fun _ h => List.mem_append_left _ (List.mem_append_left _ (List.mem_append_left _ (List.mem_append_left _ (List.mem_append_left _ (List.mem_append_right _ h)))))
theorem inlX1 : ∀ w ∈ wsX10, w ∈ wsL_law := fun _ h => List.mem_append_left _ (List.mem_append_left _ (List.mem_append_left _ (List.mem_append_left _ (List.mem_append_left _ (List.mem_append_left _ (List.mem_append_right _ h))))))
theorem inlX2 : ∀ w ∈ wsX20, w ∈ wsL_law := fun _ h => List.mem_append_left _ (List.mem_append_left _ (List.mem_append_left _ (List.mem_append_left _ (List.mem_append_left _ (List.mem_append_left _ (List.mem_append_left _ (List.mem_append_right _ h)))))))
theorem inlX3 : ∀ w ∈ wsX30, w ∈ wsL_law := fun _ h => List.mem_append_left _ (List.mem_append_left _ (List.mem_append_left _ (List.mem_append_left _ (List.mem_append_right _ h))))
theorem inlX4 : ∀ w ∈ wsX40, w ∈ wsL_law := fun _ h => List.mem_append_left _ (List.mem_append_left _ (List.mem_append_left _ (List.mem_append_left _ (List.mem_append_left _ (List.mem_append_left _ (List.mem_append_left _ (List.mem_append_left _ (List.mem_append_left _ (List.mem_append_right _ h)))))))))
theorem inlX5 : ∀ w ∈ wsX50, w ∈ wsL_law := fun _ h => List.mem_append_left _ (List.mem_append_left _ (List.mem_append_left _ (List.mem_append_left _ (List.mem_append_left _ (List.mem_append_left _ (List.mem_append_left _ (List.mem_append_left _ (List.mem_append_right _ h))))))))
abbrev vwCl : List vw_C := [(RX0, TX0, 2), (RX1, TX1, 2), (RX2, TX2, 11), (RX3, TX3, 4), (RX4, TX4, 7), (RX5, TX5, 12)]
end
section
theorem dX0_init_0 : decode cX0_init 0 = .ok (.aload_n 0, 1) := by decide +kernel
theorem dX0_init_1 : decode cX0_init 1 = .ok (.invokespecial 1, 3) := by decide +kernel
theorem dX0_init_4 : decode cX0_init 4 = .ok (.aload_n 0, 1) := by decide +kernel
theorem dX0_init_5 : decode cX0_init 5 = .ok (.iconst 0, 1) := by decide +kernel
theorem dX0_init_6 : decode cX0_init 6 = .ok (.putfield 7, 3) := by decide +kernel
theorem dX0_init_9 : decode cX0_init 9 = .ok (.aload_n 0, 1) := by decide +kernel
theorem dX0_init_10 : decode cX0_init 10 = .ok (.iconst 0, 1) := by decide +kernel
theorem dX0_init_11 : decode cX0_init 11 = .ok (.putfield 13, 3) := by decide +kernel
theorem dX0_init_14 : decode cX0_init 14 = .ok (.return_, 1) := by decide +kernel
set_option maxRecDepth 20000 in
theorem ggX0_startAt_X2_allTrouble : GoodIn wsX0_startAt wsX2_allTrouble := goodIn_r _ [7, 8, 9, 10, 11, 6, 12, 13, 14, 15, 16, 17, 18, 19, 20, 21, 22, 23, 24, 25, 26, 27, 53, 54, 55, 56, 57, 58, 59, 60, 61, 62, 63] (by decide +kernel) (by decide +kernel)
set_option maxRecDepth 20000 in
theorem gX0_startAt_X2_allTrouble : GoodIn wsX0_startAt (wsV RX0 16 RX2 yX2_allTrouble wsX2_allTrouble) := goodIn_app (goodIn_of _ (by decide +kernel)) ggX0_startAt_X2_allTrouble
set_option maxRecDepth 20000 in
theorem ggX0_startAt_X2_end : GoodIn wsX0_startAt wsX2_end := goodIn_r _ [31, 8, 32, 33, 34, 35, 36, 6, 37, 23, 38, 39, 40, 41, 42, 43, 44, 45, 46, 47, 48, 49, 50, 53, 54, 55, 56, 57, 58, 59, 60, 61, 62, 63] (by decide +kernel) (by decide +kernel)
set_option maxRecDepth 20000 in
theorem gX0_startAt_X2_end : GoodIn wsX0_startAt (wsV RX0 22 RX2 yX2_end wsX2_end) := goodIn_app (goodIn_of _ (by decide +kernel)) ggX0_startAt_X2_end
theorem dX0_startAt_0 : decode cX0_startAt 0 = .ok (.aload_n 0, 1) := by decide +kernel
theorem dX0_startAt_1 : decode cX0_startAt 1 = .ok (.aload_n 1, 1) := by decide +kernel
theorem dX0_startAt_2 : decode cX0_startAt 2 = .ok (.invokevirtual 16, 3) := by decide +kernel
theorem dX0_startAt_5 : decode cX0_startAt 5 = .ok (.putfield 7, 3) := by decide +kernel
theorem dX0_startAt_8 : decode cX0_startAt 8 = .ok (.aload_n 0, 1) := by decide +kernel
theorem dX0_startAt_9 : decode cX0_startAt 9 = .ok (.aload_n 1, 1) := by decide +kernel
theorem dX0_startAt_10 : decode cX0_startAt 10 = .ok (.invokevirtual 22, 3) := by decide +kernel
theorem dX0_startAt_13 : decode cX0_startAt 13 = .ok (.putfield 13, 3) := by decide +kernel
theorem dX0_startAt_16 : decode cX0_startAt 16 = .ok (.return_, 1) := by decide +kernel
set_option maxRecDepth 20000 in
theorem ggX0_isBeatenBy_X2_allTrouble : GoodIn wsX0_isBeatenBy wsX2_allTrouble := goodIn_r _ [7, 8, 9, 10, 11, 6, 12, 13, 14, 15, 16, 17, 18, 19, 20, 21, 22, 23, 24, 25, 26, 27, 53, 54, 55, 56, 57, 58, 59, 60, 61, 62, 63] (by decide +kernel) (by decide +kernel)
set_option maxRecDepth 20000 in
theorem gX0_isBeatenBy_X2_allTrouble : GoodIn wsX0_isBeatenBy (wsV RX0 16 RX2 yX2_allTrouble wsX2_allTrouble) := goodIn_app (goodIn_of _ (by decide +kernel)) ggX0_isBeatenBy_X2_allTrouble
set_option maxRecDepth 20000 in
theorem ggX0_isBeatenBy_X2_end : GoodIn wsX0_isBeatenBy wsX2_end := goodIn_r _ [31, 8, 32, 33, 34, 35, 36, 6, 37, 23, 38, 39, 40, 41, 42, 43, 44, 45, 46, 47, 48, 49, 50, 53, 54, 55, 56, 57, 58, 59, 60, 61, 62, 63] (by decide +kernel) (by decide +kernel)
set_option maxRecDepth 20000 in
theorem gX0_isBeatenBy_X2_end : GoodIn wsX0_isBeatenBy (wsV RX0 22 RX2 yX2_end wsX2_end) := goodIn_app (goodIn_of _ (by decide +kernel)) ggX0_isBeatenBy_X2_end
theorem dX0_isBeatenBy_0 : decode cX0_isBeatenBy 0 = .ok (.aload_n 1, 1) := by decide +kernel
theorem dX0_isBeatenBy_1 : decode cX0_isBeatenBy 1 = .ok (.invokevirtual 16, 3) := by decide +kernel
theorem dX0_isBeatenBy_4 : decode cX0_isBeatenBy 4 = .ok (.istore_n 2, 1) := by decide +kernel
theorem dX0_isBeatenBy_5 : decode cX0_isBeatenBy 5 = .ok (.iload_n 2, 1) := by decide +kernel
theorem dX0_isBeatenBy_6 : decode cX0_isBeatenBy 6 = .ok (.aload_n 0, 1) := by decide +kernel
theorem dX0_isBeatenBy_7 : decode cX0_isBeatenBy 7 = .ok (.getfield 7, 3) := by decide +kernel
theorem dX0_isBeatenBy_10 : decode cX0_isBeatenBy 10 = .ok (.if_icmp .le 5, 3) := by decide +kernel
theorem dX0_isBeatenBy_13 : decode cX0_isBeatenBy 13 = .ok (.iconst 0, 1) := by decide +kernel
theorem dX0_isBeatenBy_14 : decode cX0_isBeatenBy 14 = .ok (.ireturn, 1) := by decide +kernel
theorem dX0_isBeatenBy_15 : decode cX0_isBeatenBy 15 = .ok (.aload_n 1, 1) := by decide +kernel
theorem dX0_isBeatenBy_16 : decode cX0_isBeatenBy 16 = .ok (.invokevirtual 22, 3) := by decide +kernel
theorem dX0_isBeatenBy_19 : decode cX0_isBeatenBy 19 = .ok (.istore_n 3, 1) := by decide +kernel
theorem dX0_isBeatenBy_20 : decode cX0_isBeatenBy 20 = .ok (.iload_n 2, 1) := by decide +kernel
theorem dX0_isBeatenBy_21 : decode cX0_isBeatenBy 21 = .ok (.aload_n 0, 1) := by decide +kernel
theorem dX0_isBeatenBy_22 : decode cX0_isBeatenBy 22 = .ok (.getfield 7, 3) := by decide +kernel
theorem dX0_isBeatenBy_25 : decode cX0_isBeatenBy 25 = .ok (.if_icmp .ne 13, 3) := by decide +kernel
theorem dX0_isBeatenBy_28 : decode cX0_isBeatenBy 28 = .ok (.iload_n 3, 1) := by decide +kernel
theorem dX0_isBeatenBy_29 : decode cX0_isBeatenBy 29 = .ok (.aload_n 0, 1) := by decide +kernel
theorem dX0_isBeatenBy_30 : decode cX0_isBeatenBy 30 = .ok (.getfield 13, 3) := by decide +kernel
theorem dX0_isBeatenBy_33 : decode cX0_isBeatenBy 33 = .ok (.if_icmp .lt 5, 3) := by decide +kernel
theorem dX0_isBeatenBy_36 : decode cX0_isBeatenBy 36 = .ok (.iconst 0, 1) := by decide +kernel
theorem dX0_isBeatenBy_37 : decode cX0_isBeatenBy 37 = .ok (.ireturn, 1) := by decide +kernel
theorem dX0_isBeatenBy_38 : decode cX0_isBeatenBy 38 = .ok (.aload_n 0, 1) := by decide +kernel
theorem dX0_isBeatenBy_39 : decode cX0_isBeatenBy 39 = .ok (.iload_n 2, 1) := by decide +kernel
theorem dX0_isBeatenBy_40 : decode cX0_isBeatenBy 40 = .ok (.putfield 7, 3) := by decide +kernel
theorem dX0_isBeatenBy_43 : decode cX0_isBeatenBy 43 = .ok (.aload_n 0, 1) := by decide +kernel
theorem dX0_isBeatenBy_44 : decode cX0_isBeatenBy 44 = .ok (.iload_n 3, 1) := by decide +kernel
theorem dX0_isBeatenBy_45 : decode cX0_isBeatenBy 45 = .ok (.putfield 13, 3) := by decide +kernel
theorem dX0_isBeatenBy_48 : decode cX0_isBeatenBy 48 = .ok (.iconst 1, 1) := by decide +kernel
theorem dX0_isBeatenBy_49 : decode cX0_isBeatenBy 49 = .ok (.ireturn, 1) := by decide +kernel
set_option maxRecDepth 20000 in
theorem ggX1_init_X2_init : GoodIn wsX1_init wsX2_init := goodIn_r _ [10, 11, 2, 3, 12, 13, 14, 15, 16, 17, 18, 19, 20, 21, 22, 23, 24, 27, 28, 29, 30, 31, 32, 33, 34, 35, 36, 37] (by decide +kernel) (by decide +kernel)
set_option maxRecDepth 20000 in
theorem gX1_init_X2_init_n21 : GoodIn wsX1_init (wsX2_init) := ggX1_init_X2_init
theorem dX1_init_0 : decode cX1_init 0 = .ok (.aload_n 0, 1) := by decide +kernel
theorem dX1_init_1 : decode cX1_init 1 = .ok (.invokespecial 3, 3) := by decide +kernel
theorem dX1_init_4 : decode cX1_init 4 = .ok (.aload_n 0, 1) := by decide +kernel
theorem dX1_init_5 : decode cX1_init 5 = .ok (.bipush 6, 2) := by decide +kernel
theorem dX1_init_7 : decode cX1_init 7 = .ok (.anewarray 9, 3) := by decide +kernel
theorem dX1_init_10 : decode cX1_init 10 = .ok (.putfield 11, 3) := by decide +kernel
theorem dX1_init_13 : decode cX1_init 13 = .ok (.aload_n 0, 1) := by decide +kernel
theorem dX1_init_14 : decode cX1_init 14 = .ok (.iconst 0, 1) := by decide +kernel
theorem dX1_init_15 : decode cX1_init 15 = .ok (.putfield 17, 3) := by decide +kernel
theorem dX1_init_18 : decode cX1_init 18 = .ok (.iconst 0, 1) := by decide +kernel
theorem dX1_init_19 : decode cX1_init 19 = .ok (.istore_n 1, 1) := by decide +kernel
theorem dX1_init_20 : decode cX1_init 20 = .ok (.iload_n 1, 1) := by decide +kernel
theorem dX1_init_21 : decode cX1_init 21 = .ok (.bipush 6, 2) := by decide +kernel
theorem dX1_init_23 : decode cX1_init 23 = .ok (.if_icmp .ge 22, 3) := by decide +kernel
theorem dX1_init_26 : decode cX1_init 26 = .ok (.aload_n 0, 1) := by decide +kernel
theorem dX1_init_27 : decode cX1_init 27 = .ok (.getfield 11, 3) := by decide +kernel
theorem dX1_init_30 : decode cX1_init 30 = .ok (.iload_n 1, 1) := by decide +kernel
theorem dX1_init_31 : decode cX1_init 31 = .ok (.new 9, 3) := by decide +kernel
theorem dX1_init_34 : decode cX1_init 34 = .ok (.dup, 1) := by decide +kernel
theorem dX1_init_35 : decode cX1_init 35 = .ok (.invokespecial 21, 3) := by decide +kernel
theorem dX1_init_38 : decode cX1_init 38 = .ok (.aastore, 1) := by decide +kernel
theorem dX1_init_39 : decode cX1_init 39 = .ok (.iinc 1 1, 3) := by decide +kernel
theorem dX1_init_42 : decode cX1_init 42 = .ok (.goto (-22), 3) := by decide +kernel
theorem dX1_init_45 : decode cX1_init 45 = .ok (.return_, 1) := by decide +kernel
set_option maxRecDepth 20000 in
theorem ggX1_save_X1_dropOldest : GoodIn wsX1_save wsX1_dropOldest := goodIn_r _ [7, 2, 1, 22, 23] (by decide +kernel) (by decide +kernel)
set_option maxRecDepth 20000 in
theorem gX1_save_X1_dropOldest : GoodIn wsX1_save (wsV RX1 22 RX1 yX1_dropOldest wsX1_dropOldest) := goodIn_app (goodIn_of _ (by decide +kernel)) ggX1_save_X1_dropOldest
set_option maxRecDepth 20000 in
theorem ggX1_save_X2_copyFrom : GoodIn wsX1_save wsX2_copyFrom := goodIn_r _ [12, 13, 14, 15, 16, 17, 18, 19, 20, 21, 24, 25, 26, 27, 28, 29, 30, 31, 32, 33, 34] (by decide +kernel) (by decide +kernel)
set_option maxRecDepth 20000 in
theorem gX1_save_X2_copyFrom : GoodIn wsX1_save (wsV RX1 25 RX2 yX2_copyFrom wsX2_copyFrom) := goodIn_app (goodIn_of _ (by decide +kernel)) ggX1_save_X2_copyFrom
theorem dX1_save_0 : decode cX1_save 0 = .ok (.aload_n 0, 1) := by decide +kernel
theorem dX1_save_1 : decode cX1_save 1 = .ok (.getfield 17, 3) := by decide +kernel
theorem dX1_save_4 : decode cX1_save 4 = .ok (.bipush 6, 2) := by decide +kernel
theorem dX1_save_6 : decode cX1_save 6 = .ok (.if_icmp .lt 7, 3) := by decide +kernel
theorem dX1_save_9 : decode cX1_save 9 = .ok (.aload_n 0, 1) := by decide +kernel
theorem dX1_save_10 : decode cX1_save 10 = .ok (.invokevirtual 22, 3) := by decide +kernel
theorem dX1_save_13 : decode cX1_save 13 = .ok (.aload_n 0, 1) := by decide +kernel
theorem dX1_save_14 : decode cX1_save 14 = .ok (.getfield 11, 3) := by decide +kernel
theorem dX1_save_17 : decode cX1_save 17 = .ok (.aload_n 0, 1) := by decide +kernel
theorem dX1_save_18 : decode cX1_save 18 = .ok (.getfield 17, 3) := by decide +kernel
theorem dX1_save_21 : decode cX1_save 21 = .ok (.aaload, 1) := by decide +kernel
theorem dX1_save_22 : decode cX1_save 22 = .ok (.aload_n 1, 1) := by decide +kernel
theorem dX1_save_23 : decode cX1_save 23 = .ok (.invokevirtual 25, 3) := by decide +kernel
theorem dX1_save_26 : decode cX1_save 26 = .ok (.aload_n 0, 1) := by decide +kernel
theorem dX1_save_27 : decode cX1_save 27 = .ok (.dup, 1) := by decide +kernel
theorem dX1_save_28 : decode cX1_save 28 = .ok (.getfield 17, 3) := by decide +kernel
theorem dX1_save_31 : decode cX1_save 31 = .ok (.iconst 1, 1) := by decide +kernel
theorem dX1_save_32 : decode cX1_save 32 = .ok (.iadd, 1) := by decide +kernel
theorem dX1_save_33 : decode cX1_save 33 = .ok (.putfield 17, 3) := by decide +kernel
theorem dX1_save_36 : decode cX1_save 36 = .ok (.return_, 1) := by decide +kernel
theorem dX1_dropOldest_0 : decode cX1_dropOldest 0 = .ok (.aload_n 0, 1) := by decide +kernel
theorem dX1_dropOldest_1 : decode cX1_dropOldest 1 = .ok (.getfield 11, 3) := by decide +kernel
theorem dX1_dropOldest_4 : decode cX1_dropOldest 4 = .ok (.iconst 0, 1) := by decide +kernel
theorem dX1_dropOldest_5 : decode cX1_dropOldest 5 = .ok (.aaload, 1) := by decide +kernel
theorem dX1_dropOldest_6 : decode cX1_dropOldest 6 = .ok (.astore_n 1, 1) := by decide +kernel
theorem dX1_dropOldest_7 : decode cX1_dropOldest 7 = .ok (.iconst 1, 1) := by decide +kernel
theorem dX1_dropOldest_8 : decode cX1_dropOldest 8 = .ok (.istore_n 2, 1) := by decide +kernel
theorem dX1_dropOldest_9 : decode cX1_dropOldest 9 = .ok (.iload_n 2, 1) := by decide +kernel
theorem dX1_dropOldest_10 : decode cX1_dropOldest 10 = .ok (.bipush 6, 2) := by decide +kernel
theorem dX1_dropOldest_12 : decode cX1_dropOldest 12 = .ok (.if_icmp .ge 23, 3) := by decide +kernel
theorem dX1_dropOldest_15 : decode cX1_dropOldest 15 = .ok (.aload_n 0, 1) := by decide +kernel
theorem dX1_dropOldest_16 : decode cX1_dropOldest 16 = .ok (.getfield 11, 3) := by decide +kernel
theorem dX1_dropOldest_19 : decode cX1_dropOldest 19 = .ok (.iload_n 2, 1) := by decide +kernel
theorem dX1_dropOldest_20 : decode cX1_dropOldest 20 = .ok (.iconst 1, 1) := by decide +kernel
theorem dX1_dropOldest_21 : decode cX1_dropOldest 21 = .ok (.isub, 1) := by decide +kernel
theorem dX1_dropOldest_22 : decode cX1_dropOldest 22 = .ok (.aload_n 0, 1) := by decide +kernel
theorem dX1_dropOldest_23 : decode cX1_dropOldest 23 = .ok (.getfield 11, 3) := by decide +kernel
theorem dX1_dropOldest_26 : decode cX1_dropOldest 26 = .ok (.iload_n 2, 1) := by decide +kernel
theorem dX1_dropOldest_27 : decode cX1_dropOldest 27 = .ok (.aaload, 1) := by decide +kernel
theorem dX1_dropOldest_28 : decode cX1_dropOldest 28 = .ok (.aastore, 1) := by decide +kernel
theorem dX1_dropOldest_29 : decode cX1_dropOldest 29 = .ok (.iinc 2 1, 3) := by decide +kernel
theorem dX1_dropOldest_32 : decode cX1_dropOldest 32 = .ok (.goto (-23), 3) := by decide +kernel
theorem dX1_dropOldest_35 : decode cX1_dropOldest 35 = .ok (.aload_n 0, 1) := by decide +kernel
theorem dX1_dropOldest_36 : decode cX1_dropOldest 36 = .ok (.getfield 11, 3) := by decide +kernel
theorem dX1_dropOldest_39 : decode cX1_dropOldest 39 = .ok (.iconst 5, 1) := by decide +kernel
theorem dX1_dropOldest_40 : decode cX1_dropOldest 40 = .ok (.aload_n 1, 1) := by decide +kernel
theorem dX1_dropOldest_41 : decode cX1_dropOldest 41 = .ok (.aastore, 1) := by decide +kernel
theorem dX1_dropOldest_42 : decode cX1_dropOldest 42 = .ok (.aload_n 0, 1) := by decide +kernel
theorem dX1_dropOldest_43 : decode cX1_dropOldest 43 = .ok (.dup, 1) := by decide +kernel
theorem dX1_dropOldest_44 : decode cX1_dropOldest 44 = .ok (.getfield 17, 3) := by decide +kernel
theorem dX1_dropOldest_47 : decode cX1_dropOldest 47 = .ok (.iconst 1, 1) := by decide +kernel
theorem dX1_dropOldest_48 : decode cX1_dropOldest 48 = .ok (.isub, 1) := by decide +kernel
theorem dX1_dropOldest_49 : decode cX1_dropOldest 49 = .ok (.putfield 17, 3) := by decide +kernel
theorem dX1_dropOldest_52 : decode cX1_dropOldest 52 = .ok (.return_, 1) := by decide +kernel
set_option maxRecDepth 20000 in
theorem ggX1_restoreLatest_X2_copyFrom : GoodIn wsX1_restoreLatest wsX2_copyFrom := goodIn_r _ [7, 8, 9, 10, 11, 12, 13, 14, 15, 16, 19, 20, 21, 22, 23, 24, 25, 26, 27, 28, 29] (by decide +kernel) (by decide +kernel)
set_option maxRecDepth 20000 in
theorem gX1_restoreLatest_X2_copyFrom : GoodIn wsX1_restoreLatest (wsV RX1 25 RX2 yX2_copyFrom wsX2_copyFrom) := goodIn_app (goodIn_of _ (by decide +kernel)) ggX1_restoreLatest_X2_copyFrom
theorem dX1_restoreLatest_0 : decode cX1_restoreLatest 0 = .ok (.aload_n 0, 1) := by decide +kernel
theorem dX1_restoreLatest_1 : decode cX1_restoreLatest 1 = .ok (.getfield 17, 3) := by decide +kernel
theorem dX1_restoreLatest_4 : decode cX1_restoreLatest 4 = .ok (.ifCond .le 26, 3) := by decide +kernel
theorem dX1_restoreLatest_7 : decode cX1_restoreLatest 7 = .ok (.aload_n 0, 1) := by decide +kernel
theorem dX1_restoreLatest_8 : decode cX1_restoreLatest 8 = .ok (.dup, 1) := by decide +kernel
theorem dX1_restoreLatest_9 : decode cX1_restoreLatest 9 = .ok (.getfield 17, 3) := by decide +kernel
theorem dX1_restoreLatest_12 : decode cX1_restoreLatest 12 = .ok (.iconst 1, 1) := by decide +kernel
theorem dX1_restoreLatest_13 : decode cX1_restoreLatest 13 = .ok (.isub, 1) := by decide +kernel
theorem dX1_restoreLatest_14 : decode cX1_restoreLatest 14 = .ok (.putfield 17, 3) := by decide +kernel
theorem dX1_restoreLatest_17 : decode cX1_restoreLatest 17 = .ok (.aload_n 1, 1) := by decide +kernel
theorem dX1_restoreLatest_18 : decode cX1_restoreLatest 18 = .ok (.aload_n 0, 1) := by decide +kernel
theorem dX1_restoreLatest_19 : decode cX1_restoreLatest 19 = .ok (.getfield 11, 3) := by decide +kernel
theorem dX1_restoreLatest_22 : decode cX1_restoreLatest 22 = .ok (.aload_n 0, 1) := by decide +kernel
theorem dX1_restoreLatest_23 : decode cX1_restoreLatest 23 = .ok (.getfield 17, 3) := by decide +kernel
theorem dX1_restoreLatest_26 : decode cX1_restoreLatest 26 = .ok (.aaload, 1) := by decide +kernel
theorem dX1_restoreLatest_27 : decode cX1_restoreLatest 27 = .ok (.invokevirtual 25, 3) := by decide +kernel
theorem dX1_restoreLatest_30 : decode cX1_restoreLatest 30 = .ok (.return_, 1) := by decide +kernel
theorem dX2_init_0 : decode cX2_init 0 = .ok (.aload_n 0, 1) := by decide +kernel
theorem dX2_init_1 : decode cX2_init 1 = .ok (.invokespecial 3, 3) := by decide +kernel
theorem dX2_init_4 : decode cX2_init 4 = .ok (.aload_n 0, 1) := by decide +kernel
theorem dX2_init_5 : decode cX2_init 5 = .ok (.iconst 0, 1) := by decide +kernel
theorem dX2_init_6 : decode cX2_init 6 = .ok (.putfield 9, 3) := by decide +kernel
theorem dX2_init_9 : decode cX2_init 9 = .ok (.aload_n 0, 1) := by decide +kernel
theorem dX2_init_10 : decode cX2_init 10 = .ok (.bipush 12, 2) := by decide +kernel
theorem dX2_init_12 : decode cX2_init 12 = .ok (.newarray .int, 2) := by decide +kernel
theorem dX2_init_14 : decode cX2_init 14 = .ok (.putfield 15, 3) := by decide +kernel
theorem dX2_init_17 : decode cX2_init 17 = .ok (.aload_n 0, 1) := by decide +kernel
theorem dX2_init_18 : decode cX2_init 18 = .ok (.bipush 12, 2) := by decide +kernel
theorem dX2_init_20 : decode cX2_init 20 = .ok (.newarray .int, 2) := by decide +kernel
theorem dX2_init_22 : decode cX2_init 22 = .ok (.putfield 19, 3) := by decide +kernel
theorem dX2_init_25 : decode cX2_init 25 = .ok (.aload_n 0, 1) := by decide +kernel
theorem dX2_init_26 : decode cX2_init 26 = .ok (.bipush 12, 2) := by decide +kernel
theorem dX2_init_28 : decode cX2_init 28 = .ok (.newarray .int, 2) := by decide +kernel
theorem dX2_init_30 : decode cX2_init 30 = .ok (.putfield 22, 3) := by decide +kernel
theorem dX2_init_33 : decode cX2_init 33 = .ok (.aload_n 0, 1) := by decide +kernel
theorem dX2_init_34 : decode cX2_init 34 = .ok (.bipush 12, 2) := by decide +kernel
theorem dX2_init_36 : decode cX2_init 36 = .ok (.newarray .boolean, 2) := by decide +kernel
theorem dX2_init_38 : decode cX2_init 38 = .ok (.putfield 25, 3) := by decide +kernel
theorem dX2_init_41 : decode cX2_init 41 = .ok (.aload_n 0, 1) := by decide +kernel
theorem dX2_init_42 : decode cX2_init 42 = .ok (.iconst 0, 1) := by decide +kernel
theorem dX2_init_43 : decode cX2_init 43 = .ok (.putfield 29, 3) := by decide +kernel
theorem dX2_init_46 : decode cX2_init 46 = .ok (.aload_n 0, 1) := by decide +kernel
theorem dX2_init_47 : decode cX2_init 47 = .ok (.iconst 4, 1) := by decide +kernel
theorem dX2_init_48 : decode cX2_init 48 = .ok (.newarray .int, 2) := by decide +kernel
theorem dX2_init_50 : decode cX2_init 50 = .ok (.putfield 32, 3) := by decide +kernel
theorem dX2_init_53 : decode cX2_init 53 = .ok (.aload_n 0, 1) := by decide +kernel
theorem dX2_init_54 : decode cX2_init 54 = .ok (.iconst 4, 1) := by decide +kernel
theorem dX2_init_55 : decode cX2_init 55 = .ok (.newarray .int, 2) := by decide +kernel
theorem dX2_init_57 : decode cX2_init 57 = .ok (.putfield 35, 3) := by decide +kernel
theorem dX2_init_60 : decode cX2_init 60 = .ok (.aload_n 0, 1) := by decide +kernel
theorem dX2_init_61 : decode cX2_init 61 = .ok (.iconst 4, 1) := by decide +kernel
theorem dX2_init_62 : decode cX2_init 62 = .ok (.newarray .int, 2) := by decide +kernel
theorem dX2_init_64 : decode cX2_init 64 = .ok (.dup, 1) := by decide +kernel
theorem dX2_init_65 : decode cX2_init 65 = .ok (.iconst 0, 1) := by decide +kernel
theorem dX2_init_66 : decode cX2_init 66 = .ok (.iconst 3, 1) := by decide +kernel
theorem dX2_init_67 : decode cX2_init 67 = .ok (.iastore, 1) := by decide +kernel
theorem dX2_init_68 : decode cX2_init 68 = .ok (.dup, 1) := by decide +kernel
theorem dX2_init_69 : decode cX2_init 69 = .ok (.iconst 1, 1) := by decide +kernel
theorem dX2_init_70 : decode cX2_init 70 = .ok (.iconst 2, 1) := by decide +kernel
theorem dX2_init_71 : decode cX2_init 71 = .ok (.iastore, 1) := by decide +kernel
theorem dX2_init_72 : decode cX2_init 72 = .ok (.dup, 1) := by decide +kernel
theorem dX2_init_73 : decode cX2_init 73 = .ok (.iconst 2, 1) := by decide +kernel
theorem dX2_init_74 : decode cX2_init 74 = .ok (.iconst 2, 1) := by decide +kernel
theorem dX2_init_75 : decode cX2_init 75 = .ok (.iastore, 1) := by decide +kernel
theorem dX2_init_76 : decode cX2_init 76 = .ok (.dup, 1) := by decide +kernel
theorem dX2_init_77 : decode cX2_init 77 = .ok (.iconst 3, 1) := by decide +kernel
theorem dX2_init_78 : decode cX2_init 78 = .ok (.iconst 4, 1) := by decide +kernel
theorem dX2_init_79 : decode cX2_init 79 = .ok (.iastore, 1) := by decide +kernel
theorem dX2_init_80 : decode cX2_init 80 = .ok (.putfield 38, 3) := by decide +kernel
theorem dX2_init_83 : decode cX2_init 83 = .ok (.aload_n 0, 1) := by decide +kernel
theorem dX2_init_84 : decode cX2_init 84 = .ok (.iconst 5, 1) := by decide +kernel
theorem dX2_init_85 : decode cX2_init 85 = .ok (.newarray .int, 2) := by decide +kernel
theorem dX2_init_87 : decode cX2_init 87 = .ok (.putfield 41, 3) := by decide +kernel
theorem dX2_init_90 : decode cX2_init 90 = .ok (.aload_n 0, 1) := by decide +kernel
theorem dX2_init_91 : decode cX2_init 91 = .ok (.iconst 5, 1) := by decide +kernel
theorem dX2_init_92 : decode cX2_init 92 = .ok (.newarray .int, 2) := by decide +kernel
theorem dX2_init_94 : decode cX2_init 94 = .ok (.putfield 44, 3) := by decide +kernel
theorem dX2_init_97 : decode cX2_init 97 = .ok (.return_, 1) := by decide +kernel
theorem dX2_copyFrom_0 : decode cX2_copyFrom 0 = .ok (.aload_n 0, 1) := by decide +kernel
theorem dX2_copyFrom_1 : decode cX2_copyFrom 1 = .ok (.aload_n 1, 1) := by decide +kernel
theorem dX2_copyFrom_2 : decode cX2_copyFrom 2 = .ok (.getfield 9, 3) := by decide +kernel
theorem dX2_copyFrom_5 : decode cX2_copyFrom 5 = .ok (.putfield 9, 3) := by decide +kernel
theorem dX2_copyFrom_8 : decode cX2_copyFrom 8 = .ok (.iconst 0, 1) := by decide +kernel
theorem dX2_copyFrom_9 : decode cX2_copyFrom 9 = .ok (.istore_n 2, 1) := by decide +kernel
theorem dX2_copyFrom_10 : decode cX2_copyFrom 10 = .ok (.iload_n 2, 1) := by decide +kernel
theorem dX2_copyFrom_11 : decode cX2_copyFrom 11 = .ok (.aload_n 0, 1) := by decide +kernel
theorem dX2_copyFrom_12 : decode cX2_copyFrom 12 = .ok (.getfield 9, 3) := by decide +kernel
theorem dX2_copyFrom_15 : decode cX2_copyFrom 15 = .ok (.if_icmp .ge 57, 3) := by decide +kernel
theorem dX2_copyFrom_18 : decode cX2_copyFrom 18 = .ok (.aload_n 0, 1) := by decide +kernel
theorem dX2_copyFrom_19 : decode cX2_copyFrom 19 = .ok (.getfield 15, 3) := by decide +kernel
theorem dX2_copyFrom_22 : decode cX2_copyFrom 22 = .ok (.iload_n 2, 1) := by decide +kernel
theorem dX2_copyFrom_23 : decode cX2_copyFrom 23 = .ok (.aload_n 1, 1) := by decide +kernel
theorem dX2_copyFrom_24 : decode cX2_copyFrom 24 = .ok (.getfield 15, 3) := by decide +kernel
theorem dX2_copyFrom_27 : decode cX2_copyFrom 27 = .ok (.iload_n 2, 1) := by decide +kernel
theorem dX2_copyFrom_28 : decode cX2_copyFrom 28 = .ok (.iaload, 1) := by decide +kernel
theorem dX2_copyFrom_29 : decode cX2_copyFrom 29 = .ok (.iastore, 1) := by decide +kernel
theorem dX2_copyFrom_30 : decode cX2_copyFrom 30 = .ok (.aload_n 0, 1) := by decide +kernel
theorem dX2_copyFrom_31 : decode cX2_copyFrom 31 = .ok (.getfield 19, 3) := by decide +kernel
theorem dX2_copyFrom_34 : decode cX2_copyFrom 34 = .ok (.iload_n 2, 1) := by decide +kernel
theorem dX2_copyFrom_35 : decode cX2_copyFrom 35 = .ok (.aload_n 1, 1) := by decide +kernel
theorem dX2_copyFrom_36 : decode cX2_copyFrom 36 = .ok (.getfield 19, 3) := by decide +kernel
theorem dX2_copyFrom_39 : decode cX2_copyFrom 39 = .ok (.iload_n 2, 1) := by decide +kernel
theorem dX2_copyFrom_40 : decode cX2_copyFrom 40 = .ok (.iaload, 1) := by decide +kernel
theorem dX2_copyFrom_41 : decode cX2_copyFrom 41 = .ok (.iastore, 1) := by decide +kernel
theorem dX2_copyFrom_42 : decode cX2_copyFrom 42 = .ok (.aload_n 0, 1) := by decide +kernel
theorem dX2_copyFrom_43 : decode cX2_copyFrom 43 = .ok (.getfield 22, 3) := by decide +kernel
theorem dX2_copyFrom_46 : decode cX2_copyFrom 46 = .ok (.iload_n 2, 1) := by decide +kernel
theorem dX2_copyFrom_47 : decode cX2_copyFrom 47 = .ok (.aload_n 1, 1) := by decide +kernel
theorem dX2_copyFrom_48 : decode cX2_copyFrom 48 = .ok (.getfield 22, 3) := by decide +kernel
theorem dX2_copyFrom_51 : decode cX2_copyFrom 51 = .ok (.iload_n 2, 1) := by decide +kernel
theorem dX2_copyFrom_52 : decode cX2_copyFrom 52 = .ok (.iaload, 1) := by decide +kernel
theorem dX2_copyFrom_53 : decode cX2_copyFrom 53 = .ok (.iastore, 1) := by decide +kernel
theorem dX2_copyFrom_54 : decode cX2_copyFrom 54 = .ok (.aload_n 0, 1) := by decide +kernel
theorem dX2_copyFrom_55 : decode cX2_copyFrom 55 = .ok (.getfield 25, 3) := by decide +kernel
theorem dX2_copyFrom_58 : decode cX2_copyFrom 58 = .ok (.iload_n 2, 1) := by decide +kernel
theorem dX2_copyFrom_59 : decode cX2_copyFrom 59 = .ok (.aload_n 1, 1) := by decide +kernel
theorem dX2_copyFrom_60 : decode cX2_copyFrom 60 = .ok (.getfield 25, 3) := by decide +kernel
theorem dX2_copyFrom_63 : decode cX2_copyFrom 63 = .ok (.iload_n 2, 1) := by decide +kernel
theorem dX2_copyFrom_64 : decode cX2_copyFrom 64 = .ok (.baload, 1) := by decide +kernel
theorem dX2_copyFrom_65 : decode cX2_copyFrom 65 = .ok (.bastore, 1) := by decide +kernel
theorem dX2_copyFrom_66 : decode cX2_copyFrom 66 = .ok (.iinc 2 1, 3) := by decide +kernel
theorem dX2_copyFrom_69 : decode cX2_copyFrom 69 = .ok (.goto (-59), 3) := by decide +kernel
theorem dX2_copyFrom_72 : decode cX2_copyFrom 72 = .ok (.aload_n 0, 1) := by decide +kernel
theorem dX2_copyFrom_73 : decode cX2_copyFrom 73 = .ok (.aload_n 1, 1) := by decide +kernel
theorem dX2_copyFrom_74 : decode cX2_copyFrom 74 = .ok (.getfield 29, 3) := by decide +kernel
theorem dX2_copyFrom_77 : decode cX2_copyFrom 77 = .ok (.putfield 29, 3) := by decide +kernel
theorem dX2_copyFrom_80 : decode cX2_copyFrom 80 = .ok (.iconst 0, 1) := by decide +kernel
theorem dX2_copyFrom_81 : decode cX2_copyFrom 81 = .ok (.istore_n 2, 1) := by decide +kernel
theorem dX2_copyFrom_82 : decode cX2_copyFrom 82 = .ok (.iload_n 2, 1) := by decide +kernel
theorem dX2_copyFrom_83 : decode cX2_copyFrom 83 = .ok (.aload_n 0, 1) := by decide +kernel
theorem dX2_copyFrom_84 : decode cX2_copyFrom 84 = .ok (.getfield 29, 3) := by decide +kernel
theorem dX2_copyFrom_87 : decode cX2_copyFrom 87 = .ok (.if_icmp .ge 33, 3) := by decide +kernel
theorem dX2_copyFrom_90 : decode cX2_copyFrom 90 = .ok (.aload_n 0, 1) := by decide +kernel
theorem dX2_copyFrom_91 : decode cX2_copyFrom 91 = .ok (.getfield 32, 3) := by decide +kernel
theorem dX2_copyFrom_94 : decode cX2_copyFrom 94 = .ok (.iload_n 2, 1) := by decide +kernel
theorem dX2_copyFrom_95 : decode cX2_copyFrom 95 = .ok (.aload_n 1, 1) := by decide +kernel
theorem dX2_copyFrom_96 : decode cX2_copyFrom 96 = .ok (.getfield 32, 3) := by decide +kernel
theorem dX2_copyFrom_99 : decode cX2_copyFrom 99 = .ok (.iload_n 2, 1) := by decide +kernel
theorem dX2_copyFrom_100 : decode cX2_copyFrom 100 = .ok (.iaload, 1) := by decide +kernel
theorem dX2_copyFrom_101 : decode cX2_copyFrom 101 = .ok (.iastore, 1) := by decide +kernel
theorem dX2_copyFrom_102 : decode cX2_copyFrom 102 = .ok (.aload_n 0, 1) := by decide +kernel
theorem dX2_copyFrom_103 : decode cX2_copyFrom 103 = .ok (.getfield 35, 3) := by decide +kernel
theorem dX2_copyFrom_106 : decode cX2_copyFrom 106 = .ok (.iload_n 2, 1) := by decide +kernel
theorem dX2_copyFrom_107 : decode cX2_copyFrom 107 = .ok (.aload_n 1, 1) := by decide +kernel
theorem dX2_copyFrom_108 : decode cX2_copyFrom 108 = .ok (.getfield 35, 3) := by decide +kernel
theorem dX2_copyFrom_111 : decode cX2_copyFrom 111 = .ok (.iload_n 2, 1) := by decide +kernel
theorem dX2_copyFrom_112 : decode cX2_copyFrom 112 = .ok (.iaload, 1) := by decide +kernel
theorem dX2_copyFrom_113 : decode cX2_copyFrom 113 = .ok (.iastore, 1) := by decide +kernel
theorem dX2_copyFrom_114 : decode cX2_copyFrom 114 = .ok (.iinc 2 1, 3) := by decide +kernel
theorem dX2_copyFrom_117 : decode cX2_copyFrom 117 = .ok (.goto (-35), 3) := by decide +kernel
theorem dX2_copyFrom_120 : decode cX2_copyFrom 120 = .ok (.iconst 0, 1) := by decide +kernel
theorem dX2_copyFrom_121 : decode cX2_copyFrom 121 = .ok (.istore_n 2, 1) := by decide +kernel
theorem dX2_copyFrom_122 : decode cX2_copyFrom 122 = .ok (.iload_n 2, 1) := by decide +kernel
theorem dX2_copyFrom_123 : decode cX2_copyFrom 123 = .ok (.iconst 4, 1) := by decide +kernel
theorem dX2_copyFrom_124 : decode cX2_copyFrom 124 = .ok (.if_icmp .ge 21, 3) := by decide +kernel
theorem dX2_copyFrom_127 : decode cX2_copyFrom 127 = .ok (.aload_n 0, 1) := by decide +kernel
theorem dX2_copyFrom_128 : decode cX2_copyFrom 128 = .ok (.getfield 38, 3) := by decide +kernel
theorem dX2_copyFrom_131 : decode cX2_copyFrom 131 = .ok (.iload_n 2, 1) := by decide +kernel
theorem dX2_copyFrom_132 : decode cX2_copyFrom 132 = .ok (.aload_n 1, 1) := by decide +kernel
theorem dX2_copyFrom_133 : decode cX2_copyFrom 133 = .ok (.getfield 38, 3) := by decide +kernel
theorem dX2_copyFrom_136 : decode cX2_copyFrom 136 = .ok (.iload_n 2, 1) := by decide +kernel
theorem dX2_copyFrom_137 : decode cX2_copyFrom 137 = .ok (.iaload, 1) := by decide +kernel
theorem dX2_copyFrom_138 : decode cX2_copyFrom 138 = .ok (.iastore, 1) := by decide +kernel
theorem dX2_copyFrom_139 : decode cX2_copyFrom 139 = .ok (.iinc 2 1, 3) := by decide +kernel
theorem dX2_copyFrom_142 : decode cX2_copyFrom 142 = .ok (.goto (-20), 3) := by decide +kernel
theorem dX2_copyFrom_145 : decode cX2_copyFrom 145 = .ok (.return_, 1) := by decide +kernel
theorem dX2_addLast_0 : decode cX2_addLast 0 = .ok (.aload_n 0, 1) := by decide +kernel
theorem dX2_addLast_1 : decode cX2_addLast 1 = .ok (.getfield 9, 3) := by decide +kernel
theorem dX2_addLast_4 : decode cX2_addLast 4 = .ok (.bipush 12, 2) := by decide +kernel
theorem dX2_addLast_6 : decode cX2_addLast 6 = .ok (.if_icmp .ge 53, 3) := by decide +kernel
theorem dX2_addLast_9 : decode cX2_addLast 9 = .ok (.aload_n 0, 1) := by decide +kernel
theorem dX2_addLast_10 : decode cX2_addLast 10 = .ok (.getfield 15, 3) := by decide +kernel
theorem dX2_addLast_13 : decode cX2_addLast 13 = .ok (.aload_n 0, 1) := by decide +kernel
theorem dX2_addLast_14 : decode cX2_addLast 14 = .ok (.getfield 9, 3) := by decide +kernel
theorem dX2_addLast_17 : decode cX2_addLast 17 = .ok (.iload_n 1, 1) := by decide +kernel
theorem dX2_addLast_18 : decode cX2_addLast 18 = .ok (.iastore, 1) := by decide +kernel
theorem dX2_addLast_19 : decode cX2_addLast 19 = .ok (.aload_n 0, 1) := by decide +kernel
theorem dX2_addLast_20 : decode cX2_addLast 20 = .ok (.getfield 19, 3) := by decide +kernel
theorem dX2_addLast_23 : decode cX2_addLast 23 = .ok (.aload_n 0, 1) := by decide +kernel
theorem dX2_addLast_24 : decode cX2_addLast 24 = .ok (.getfield 9, 3) := by decide +kernel
theorem dX2_addLast_27 : decode cX2_addLast 27 = .ok (.iload_n 2, 1) := by decide +kernel
theorem dX2_addLast_28 : decode cX2_addLast 28 = .ok (.iastore, 1) := by decide +kernel
theorem dX2_addLast_29 : decode cX2_addLast 29 = .ok (.aload_n 0, 1) := by decide +kernel
theorem dX2_addLast_30 : decode cX2_addLast 30 = .ok (.getfield 22, 3) := by decide +kernel
theorem dX2_addLast_33 : decode cX2_addLast 33 = .ok (.aload_n 0, 1) := by decide +kernel
theorem dX2_addLast_34 : decode cX2_addLast 34 = .ok (.getfield 9, 3) := by decide +kernel
theorem dX2_addLast_37 : decode cX2_addLast 37 = .ok (.iload_n 3, 1) := by decide +kernel
theorem dX2_addLast_38 : decode cX2_addLast 38 = .ok (.iastore, 1) := by decide +kernel
theorem dX2_addLast_39 : decode cX2_addLast 39 = .ok (.aload_n 0, 1) := by decide +kernel
theorem dX2_addLast_40 : decode cX2_addLast 40 = .ok (.getfield 25, 3) := by decide +kernel
theorem dX2_addLast_43 : decode cX2_addLast 43 = .ok (.aload_n 0, 1) := by decide +kernel
theorem dX2_addLast_44 : decode cX2_addLast 44 = .ok (.getfield 9, 3) := by decide +kernel
theorem dX2_addLast_47 : decode cX2_addLast 47 = .ok (.iconst 0, 1) := by decide +kernel
theorem dX2_addLast_48 : decode cX2_addLast 48 = .ok (.bastore, 1) := by decide +kernel
theorem dX2_addLast_49 : decode cX2_addLast 49 = .ok (.aload_n 0, 1) := by decide +kernel
theorem dX2_addLast_50 : decode cX2_addLast 50 = .ok (.dup, 1) := by decide +kernel
theorem dX2_addLast_51 : decode cX2_addLast 51 = .ok (.getfield 9, 3) := by decide +kernel
theorem dX2_addLast_54 : decode cX2_addLast 54 = .ok (.iconst 1, 1) := by decide +kernel
theorem dX2_addLast_55 : decode cX2_addLast 55 = .ok (.iadd, 1) := by decide +kernel
theorem dX2_addLast_56 : decode cX2_addLast 56 = .ok (.putfield 9, 3) := by decide +kernel
theorem dX2_addLast_59 : decode cX2_addLast 59 = .ok (.return_, 1) := by decide +kernel
set_option maxRecDepth 20000 in
theorem ggX2_takeAway_X2_shift : GoodIn wsX2_takeAway wsX2_shift := goodIn_r _ [6, 7, 8, 9, 5, 10, 11, 12, 13, 14, 15, 16, 17, 18, 19, 20, 21, 22, 23, 24, 25] (by decide +kernel) (by decide +kernel)
set_option maxRecDepth 20000 in
theorem gX2_takeAway_X2_shift : GoodIn wsX2_takeAway (wsV RX2 47 RX2 yX2_shift wsX2_shift) := goodIn_app (goodIn_of _ (by decide +kernel)) ggX2_takeAway_X2_shift
theorem dX2_takeAway_0 : decode cX2_takeAway 0 = .ok (.aload_n 0, 1) := by decide +kernel
theorem dX2_takeAway_1 : decode cX2_takeAway 1 = .ok (.iload_n 1, 1) := by decide +kernel
theorem dX2_takeAway_2 : decode cX2_takeAway 2 = .ok (.aload_n 0, 1) := by decide +kernel
theorem dX2_takeAway_3 : decode cX2_takeAway 3 = .ok (.getfield 9, 3) := by decide +kernel
theorem dX2_takeAway_6 : decode cX2_takeAway 6 = .ok (.iconst 1, 1) := by decide +kernel
theorem dX2_takeAway_7 : decode cX2_takeAway 7 = .ok (.isub, 1) := by decide +kernel
theorem dX2_takeAway_8 : decode cX2_takeAway 8 = .ok (.invokevirtual 47, 3) := by decide +kernel
theorem dX2_takeAway_11 : decode cX2_takeAway 11 = .ok (.aload_n 0, 1) := by decide +kernel
theorem dX2_takeAway_12 : decode cX2_takeAway 12 = .ok (.dup, 1) := by decide +kernel
theorem dX2_takeAway_13 : decode cX2_takeAway 13 = .ok (.getfield 9, 3) := by decide +kernel
theorem dX2_takeAway_16 : decode cX2_takeAway 16 = .ok (.iconst 1, 1) := by decide +kernel
theorem dX2_takeAway_17 : decode cX2_takeAway 17 = .ok (.isub, 1) := by decide +kernel
theorem dX2_takeAway_18 : decode cX2_takeAway 18 = .ok (.putfield 9, 3) := by decide +kernel
theorem dX2_takeAway_21 : decode cX2_takeAway 21 = .ok (.return_, 1) := by decide +kernel
set_option maxRecDepth 20000 in
theorem ggX2_shift_X2_swap : GoodIn wsX2_shift wsX2_swap := goodIn_r _ [5, 6, 7, 8, 9, 10, 11, 12, 13, 14, 15, 16, 17, 18, 19, 20] (by decide +kernel) (by decide +kernel)
set_option maxRecDepth 20000 in
theorem gX2_shift_X2_swap : GoodIn wsX2_shift (wsV RX2 51 RX2 yX2_swap wsX2_swap) := goodIn_app (goodIn_of _ (by decide +kernel)) ggX2_shift_X2_swap
theorem dX2_shift_0 : decode cX2_shift 0 = .ok (.iload_n 1, 1) := by decide +kernel
theorem dX2_shift_1 : decode cX2_shift 1 = .ok (.istore_n 3, 1) := by decide +kernel
theorem dX2_shift_2 : decode cX2_shift 2 = .ok (.iload_n 3, 1) := by decide +kernel
theorem dX2_shift_3 : decode cX2_shift 3 = .ok (.iload_n 2, 1) := by decide +kernel
theorem dX2_shift_4 : decode cX2_shift 4 = .ok (.if_icmp .ge 17, 3) := by decide +kernel
theorem dX2_shift_7 : decode cX2_shift 7 = .ok (.aload_n 0, 1) := by decide +kernel
theorem dX2_shift_8 : decode cX2_shift 8 = .ok (.iload_n 3, 1) := by decide +kernel
theorem dX2_shift_9 : decode cX2_shift 9 = .ok (.iload_n 3, 1) := by decide +kernel
theorem dX2_shift_10 : decode cX2_shift 10 = .ok (.iconst 1, 1) := by decide +kernel
theorem dX2_shift_11 : decode cX2_shift 11 = .ok (.iadd, 1) := by decide +kernel
theorem dX2_shift_12 : decode cX2_shift 12 = .ok (.invokevirtual 51, 3) := by decide +kernel
theorem dX2_shift_15 : decode cX2_shift 15 = .ok (.iinc 3 1, 3) := by decide +kernel
theorem dX2_shift_18 : decode cX2_shift 18 = .ok (.goto (-16), 3) := by decide +kernel
theorem dX2_shift_21 : decode cX2_shift 21 = .ok (.iload_n 1, 1) := by decide +kernel
theorem dX2_shift_22 : decode cX2_shift 22 = .ok (.istore_n 3, 1) := by decide +kernel
theorem dX2_shift_23 : decode cX2_shift 23 = .ok (.iload_n 3, 1) := by decide +kernel
theorem dX2_shift_24 : decode cX2_shift 24 = .ok (.iload_n 2, 1) := by decide +kernel
theorem dX2_shift_25 : decode cX2_shift 25 = .ok (.if_icmp .le 17, 3) := by decide +kernel
theorem dX2_shift_28 : decode cX2_shift 28 = .ok (.aload_n 0, 1) := by decide +kernel
theorem dX2_shift_29 : decode cX2_shift 29 = .ok (.iload_n 3, 1) := by decide +kernel
theorem dX2_shift_30 : decode cX2_shift 30 = .ok (.iload_n 3, 1) := by decide +kernel
theorem dX2_shift_31 : decode cX2_shift 31 = .ok (.iconst 1, 1) := by decide +kernel
theorem dX2_shift_32 : decode cX2_shift 32 = .ok (.isub, 1) := by decide +kernel
theorem dX2_shift_33 : decode cX2_shift 33 = .ok (.invokevirtual 51, 3) := by decide +kernel
theorem dX2_shift_36 : decode cX2_shift 36 = .ok (.iinc 3 (-1), 3) := by decide +kernel
theorem dX2_shift_39 : decode cX2_shift 39 = .ok (.goto (-16), 3) := by decide +kernel
theorem dX2_shift_42 : decode cX2_shift 42 = .ok (.return_, 1) := by decide +kernel
theorem dX2_swap_0 : decode cX2_swap 0 = .ok (.aload_n 0, 1) := by decide +kernel
theorem dX2_swap_1 : decode cX2_swap 1 = .ok (.getfield 15, 3) := by decide +kernel
theorem dX2_swap_4 : decode cX2_swap 4 = .ok (.iload_n 1, 1) := by decide +kernel
theorem dX2_swap_5 : decode cX2_swap 5 = .ok (.iaload, 1) := by decide +kernel
theorem dX2_swap_6 : decode cX2_swap 6 = .ok (.istore_n 3, 1) := by decide +kernel
theorem dX2_swap_7 : decode cX2_swap 7 = .ok (.aload_n 0, 1) := by decide +kernel
theorem dX2_swap_8 : decode cX2_swap 8 = .ok (.getfield 15, 3) := by decide +kernel
theorem dX2_swap_11 : decode cX2_swap 11 = .ok (.iload_n 1, 1) := by decide +kernel
theorem dX2_swap_12 : decode cX2_swap 12 = .ok (.aload_n 0, 1) := by decide +kernel
theorem dX2_swap_13 : decode cX2_swap 13 = .ok (.getfield 15, 3) := by decide +kernel
theorem dX2_swap_16 : decode cX2_swap 16 = .ok (.iload_n 2, 1) := by decide +kernel
theorem dX2_swap_17 : decode cX2_swap 17 = .ok (.iaload, 1) := by decide +kernel
theorem dX2_swap_18 : decode cX2_swap 18 = .ok (.iastore, 1) := by decide +kernel
theorem dX2_swap_19 : decode cX2_swap 19 = .ok (.aload_n 0, 1) := by decide +kernel
theorem dX2_swap_20 : decode cX2_swap 20 = .ok (.getfield 15, 3) := by decide +kernel
theorem dX2_swap_23 : decode cX2_swap 23 = .ok (.iload_n 2, 1) := by decide +kernel
theorem dX2_swap_24 : decode cX2_swap 24 = .ok (.iload_n 3, 1) := by decide +kernel
theorem dX2_swap_25 : decode cX2_swap 25 = .ok (.iastore, 1) := by decide +kernel
theorem dX2_swap_26 : decode cX2_swap 26 = .ok (.aload_n 0, 1) := by decide +kernel
theorem dX2_swap_27 : decode cX2_swap 27 = .ok (.getfield 19, 3) := by decide +kernel
theorem dX2_swap_30 : decode cX2_swap 30 = .ok (.iload_n 1, 1) := by decide +kernel
theorem dX2_swap_31 : decode cX2_swap 31 = .ok (.iaload, 1) := by decide +kernel
theorem dX2_swap_32 : decode cX2_swap 32 = .ok (.istore 4, 2) := by decide +kernel
theorem dX2_swap_34 : decode cX2_swap 34 = .ok (.aload_n 0, 1) := by decide +kernel
theorem dX2_swap_35 : decode cX2_swap 35 = .ok (.getfield 19, 3) := by decide +kernel
theorem dX2_swap_38 : decode cX2_swap 38 = .ok (.iload_n 1, 1) := by decide +kernel
theorem dX2_swap_39 : decode cX2_swap 39 = .ok (.aload_n 0, 1) := by decide +kernel
theorem dX2_swap_40 : decode cX2_swap 40 = .ok (.getfield 19, 3) := by decide +kernel
theorem dX2_swap_43 : decode cX2_swap 43 = .ok (.iload_n 2, 1) := by decide +kernel
theorem dX2_swap_44 : decode cX2_swap 44 = .ok (.iaload, 1) := by decide +kernel
theorem dX2_swap_45 : decode cX2_swap 45 = .ok (.iastore, 1) := by decide +kernel
theorem dX2_swap_46 : decode cX2_swap 46 = .ok (.aload_n 0, 1) := by decide +kernel
theorem dX2_swap_47 : decode cX2_swap 47 = .ok (.getfield 19, 3) := by decide +kernel
theorem dX2_swap_50 : decode cX2_swap 50 = .ok (.iload_n 2, 1) := by decide +kernel
theorem dX2_swap_51 : decode cX2_swap 51 = .ok (.iload 4, 2) := by decide +kernel
theorem dX2_swap_53 : decode cX2_swap 53 = .ok (.iastore, 1) := by decide +kernel
theorem dX2_swap_54 : decode cX2_swap 54 = .ok (.aload_n 0, 1) := by decide +kernel
theorem dX2_swap_55 : decode cX2_swap 55 = .ok (.getfield 22, 3) := by decide +kernel
theorem dX2_swap_58 : decode cX2_swap 58 = .ok (.iload_n 1, 1) := by decide +kernel
theorem dX2_swap_59 : decode cX2_swap 59 = .ok (.iaload, 1) := by decide +kernel
theorem dX2_swap_60 : decode cX2_swap 60 = .ok (.istore 5, 2) := by decide +kernel
theorem dX2_swap_62 : decode cX2_swap 62 = .ok (.aload_n 0, 1) := by decide +kernel
theorem dX2_swap_63 : decode cX2_swap 63 = .ok (.getfield 22, 3) := by decide +kernel
theorem dX2_swap_66 : decode cX2_swap 66 = .ok (.iload_n 1, 1) := by decide +kernel
theorem dX2_swap_67 : decode cX2_swap 67 = .ok (.aload_n 0, 1) := by decide +kernel
theorem dX2_swap_68 : decode cX2_swap 68 = .ok (.getfield 22, 3) := by decide +kernel
theorem dX2_swap_71 : decode cX2_swap 71 = .ok (.iload_n 2, 1) := by decide +kernel
theorem dX2_swap_72 : decode cX2_swap 72 = .ok (.iaload, 1) := by decide +kernel
theorem dX2_swap_73 : decode cX2_swap 73 = .ok (.iastore, 1) := by decide +kernel
theorem dX2_swap_74 : decode cX2_swap 74 = .ok (.aload_n 0, 1) := by decide +kernel
theorem dX2_swap_75 : decode cX2_swap 75 = .ok (.getfield 22, 3) := by decide +kernel
theorem dX2_swap_78 : decode cX2_swap 78 = .ok (.iload_n 2, 1) := by decide +kernel
theorem dX2_swap_79 : decode cX2_swap 79 = .ok (.iload 5, 2) := by decide +kernel
theorem dX2_swap_81 : decode cX2_swap 81 = .ok (.iastore, 1) := by decide +kernel
theorem dX2_swap_82 : decode cX2_swap 82 = .ok (.aload_n 0, 1) := by decide +kernel
theorem dX2_swap_83 : decode cX2_swap 83 = .ok (.getfield 25, 3) := by decide +kernel
theorem dX2_swap_86 : decode cX2_swap 86 = .ok (.iload_n 1, 1) := by decide +kernel
theorem dX2_swap_87 : decode cX2_swap 87 = .ok (.baload, 1) := by decide +kernel
theorem dX2_swap_88 : decode cX2_swap 88 = .ok (.istore 6, 2) := by decide +kernel
theorem dX2_swap_90 : decode cX2_swap 90 = .ok (.aload_n 0, 1) := by decide +kernel
theorem dX2_swap_91 : decode cX2_swap 91 = .ok (.getfield 25, 3) := by decide +kernel
theorem dX2_swap_94 : decode cX2_swap 94 = .ok (.iload_n 1, 1) := by decide +kernel
theorem dX2_swap_95 : decode cX2_swap 95 = .ok (.aload_n 0, 1) := by decide +kernel
theorem dX2_swap_96 : decode cX2_swap 96 = .ok (.getfield 25, 3) := by decide +kernel
theorem dX2_swap_99 : decode cX2_swap 99 = .ok (.iload_n 2, 1) := by decide +kernel
theorem dX2_swap_100 : decode cX2_swap 100 = .ok (.baload, 1) := by decide +kernel
theorem dX2_swap_101 : decode cX2_swap 101 = .ok (.bastore, 1) := by decide +kernel
theorem dX2_swap_102 : decode cX2_swap 102 = .ok (.aload_n 0, 1) := by decide +kernel
theorem dX2_swap_103 : decode cX2_swap 103 = .ok (.getfield 25, 3) := by decide +kernel
theorem dX2_swap_106 : decode cX2_swap 106 = .ok (.iload_n 2, 1) := by decide +kernel
theorem dX2_swap_107 : decode cX2_swap 107 = .ok (.iload 6, 2) := by decide +kernel
theorem dX2_swap_109 : decode cX2_swap 109 = .ok (.bastore, 1) := by decide +kernel
theorem dX2_swap_110 : decode cX2_swap 110 = .ok (.return_, 1) := by decide +kernel
set_option maxRecDepth 20000 in
theorem ggX2_floatProperty_X2_countedHeight : GoodIn wsX2_floatProperty wsX2_countedHeight := goodIn_r _ [9, 4, 2, 37, 38, 39, 40, 41, 42, 43, 44, 45, 46, 47] (by decide +kernel) (by decide +kernel)
set_option maxRecDepth 20000 in
theorem gX2_floatProperty_X2_countedHeight : GoodIn wsX2_floatProperty (wsV RX2 54 RX2 yX2_countedHeight wsX2_countedHeight) := goodIn_app (goodIn_of _ (by decide +kernel)) ggX2_floatProperty_X2_countedHeight
set_option maxRecDepth 20000 in
theorem ggX2_floatProperty_X2_bridgesThatLower : GoodIn wsX2_floatProperty wsX2_bridgesThatLower := goodIn_r _ [13, 14, 15, 16, 17, 8, 18, 19, 5, 6, 7, 9, 4, 2, 37, 38, 39, 40, 41, 42, 43, 44, 45, 46, 47] (by decide +kernel) (by decide +kernel)
set_option maxRecDepth 20000 in
theorem gX2_floatProperty_X2_bridgesThatLower : GoodIn wsX2_floatProperty (wsV RX2 58 RX2 yX2_bridgesThatLower wsX2_bridgesThatLower) := goodIn_app (goodIn_of _ (by decide +kernel)) ggX2_floatProperty_X2_bridgesThatLower
set_option maxRecDepth 20000 in
theorem ggX2_floatProperty_X2_troubleAt : GoodIn wsX2_floatProperty wsX2_troubleAt := goodIn_r _ [23, 24, 25, 26, 8, 27, 3, 1, 28, 29, 30, 31, 32, 33, 34, 35, 36, 37, 38, 39, 40, 41, 42, 43, 44, 45, 46, 47] (by decide +kernel) (by decide +kernel)
set_option maxRecDepth 20000 in
theorem gX2_floatProperty_X2_troubleAt : GoodIn wsX2_floatProperty (wsV RX2 61 RX2 yX2_troubleAt wsX2_troubleAt) := goodIn_app (goodIn_of _ (by decide +kernel)) ggX2_floatProperty_X2_troubleAt
theorem dX2_floatProperty_0 : decode cX2_floatProperty 0 = .ok (.iload_n 2, 1) := by decide +kernel
theorem dX2_floatProperty_1 : decode cX2_floatProperty 1 = .ok (.tableswitch 87 0 5 #[39, 46, 53, 60, 75, 81], 39) := by decide +kernel
theorem dX2_floatProperty_40 : decode cX2_floatProperty 40 = .ok (.aload_n 0, 1) := by decide +kernel
theorem dX2_floatProperty_41 : decode cX2_floatProperty 41 = .ok (.getfield 15, 3) := by decide +kernel
theorem dX2_floatProperty_44 : decode cX2_floatProperty 44 = .ok (.iload_n 1, 1) := by decide +kernel
theorem dX2_floatProperty_45 : decode cX2_floatProperty 45 = .ok (.iaload, 1) := by decide +kernel
theorem dX2_floatProperty_46 : decode cX2_floatProperty 46 = .ok (.ireturn, 1) := by decide +kernel
theorem dX2_floatProperty_47 : decode cX2_floatProperty 47 = .ok (.aload_n 0, 1) := by decide +kernel
theorem dX2_floatProperty_48 : decode cX2_floatProperty 48 = .ok (.getfield 19, 3) := by decide +kernel
theorem dX2_floatProperty_51 : decode cX2_floatProperty 51 = .ok (.iload_n 1, 1) := by decide +kernel
theorem dX2_floatProperty_52 : decode cX2_floatProperty 52 = .ok (.iaload, 1) := by decide +kernel
theorem dX2_floatProperty_53 : decode cX2_floatProperty 53 = .ok (.ireturn, 1) := by decide +kernel
theorem dX2_floatProperty_54 : decode cX2_floatProperty 54 = .ok (.aload_n 0, 1) := by decide +kernel
theorem dX2_floatProperty_55 : decode cX2_floatProperty 55 = .ok (.getfield 22, 3) := by decide +kernel
theorem dX2_floatProperty_58 : decode cX2_floatProperty 58 = .ok (.iload_n 1, 1) := by decide +kernel
theorem dX2_floatProperty_59 : decode cX2_floatProperty 59 = .ok (.iaload, 1) := by decide +kernel
theorem dX2_floatProperty_60 : decode cX2_floatProperty 60 = .ok (.ireturn, 1) := by decide +kernel
theorem dX2_floatProperty_61 : decode cX2_floatProperty 61 = .ok (.aload_n 0, 1) := by decide +kernel
theorem dX2_floatProperty_62 : decode cX2_floatProperty 62 = .ok (.getfield 25, 3) := by decide +kernel
theorem dX2_floatProperty_65 : decode cX2_floatProperty 65 = .ok (.iload_n 1, 1) := by decide +kernel
theorem dX2_floatProperty_66 : decode cX2_floatProperty 66 = .ok (.baload, 1) := by decide +kernel
theorem dX2_floatProperty_67 : decode cX2_floatProperty 67 = .ok (.ifCond .eq 7, 3) := by decide +kernel
theorem dX2_floatProperty_70 : decode cX2_floatProperty 70 = .ok (.iconst 1, 1) := by decide +kernel
theorem dX2_floatProperty_71 : decode cX2_floatProperty 71 = .ok (.goto 4, 3) := by decide +kernel
theorem dX2_floatProperty_74 : decode cX2_floatProperty 74 = .ok (.iconst 0, 1) := by decide +kernel
theorem dX2_floatProperty_75 : decode cX2_floatProperty 75 = .ok (.ireturn, 1) := by decide +kernel
theorem dX2_floatProperty_76 : decode cX2_floatProperty 76 = .ok (.aload_n 0, 1) := by decide +kernel
theorem dX2_floatProperty_77 : decode cX2_floatProperty 77 = .ok (.iload_n 1, 1) := by decide +kernel
theorem dX2_floatProperty_78 : decode cX2_floatProperty 78 = .ok (.invokevirtual 54, 3) := by decide +kernel
theorem dX2_floatProperty_81 : decode cX2_floatProperty 81 = .ok (.ireturn, 1) := by decide +kernel
theorem dX2_floatProperty_82 : decode cX2_floatProperty 82 = .ok (.aload_n 0, 1) := by decide +kernel
theorem dX2_floatProperty_83 : decode cX2_floatProperty 83 = .ok (.iload_n 1, 1) := by decide +kernel
theorem dX2_floatProperty_84 : decode cX2_floatProperty 84 = .ok (.invokevirtual 58, 3) := by decide +kernel
theorem dX2_floatProperty_87 : decode cX2_floatProperty 87 = .ok (.ireturn, 1) := by decide +kernel
theorem dX2_floatProperty_88 : decode cX2_floatProperty 88 = .ok (.aload_n 0, 1) := by decide +kernel
theorem dX2_floatProperty_89 : decode cX2_floatProperty 89 = .ok (.iload_n 1, 1) := by decide +kernel
theorem dX2_floatProperty_90 : decode cX2_floatProperty 90 = .ok (.invokevirtual 61, 3) := by decide +kernel
theorem dX2_floatProperty_93 : decode cX2_floatProperty 93 = .ok (.ireturn, 1) := by decide +kernel
theorem dX2_countedHeight_0 : decode cX2_countedHeight 0 = .ok (.aload_n 0, 1) := by decide +kernel
theorem dX2_countedHeight_1 : decode cX2_countedHeight 1 = .ok (.getfield 25, 3) := by decide +kernel
theorem dX2_countedHeight_4 : decode cX2_countedHeight 4 = .ok (.iload_n 1, 1) := by decide +kernel
theorem dX2_countedHeight_5 : decode cX2_countedHeight 5 = .ok (.baload, 1) := by decide +kernel
theorem dX2_countedHeight_6 : decode cX2_countedHeight 6 = .ok (.ifCond .eq 15, 3) := by decide +kernel
theorem dX2_countedHeight_9 : decode cX2_countedHeight 9 = .ok (.aload_n 0, 1) := by decide +kernel
theorem dX2_countedHeight_10 : decode cX2_countedHeight 10 = .ok (.getfield 19, 3) := by decide +kernel
theorem dX2_countedHeight_13 : decode cX2_countedHeight 13 = .ok (.iload_n 1, 1) := by decide +kernel
theorem dX2_countedHeight_14 : decode cX2_countedHeight 14 = .ok (.iaload, 1) := by decide +kernel
theorem dX2_countedHeight_15 : decode cX2_countedHeight 15 = .ok (.bipush 20, 2) := by decide +kernel
theorem dX2_countedHeight_17 : decode cX2_countedHeight 17 = .ok (.isub, 1) := by decide +kernel
theorem dX2_countedHeight_18 : decode cX2_countedHeight 18 = .ok (.goto 9, 3) := by decide +kernel
theorem dX2_countedHeight_21 : decode cX2_countedHeight 21 = .ok (.aload_n 0, 1) := by decide +kernel
theorem dX2_countedHeight_22 : decode cX2_countedHeight 22 = .ok (.getfield 19, 3) := by decide +kernel
theorem dX2_countedHeight_25 : decode cX2_countedHeight 25 = .ok (.iload_n 1, 1) := by decide +kernel
theorem dX2_countedHeight_26 : decode cX2_countedHeight 26 = .ok (.iaload, 1) := by decide +kernel
theorem dX2_countedHeight_27 : decode cX2_countedHeight 27 = .ok (.istore_n 2, 1) := by decide +kernel
theorem dX2_countedHeight_28 : decode cX2_countedHeight 28 = .ok (.iload_n 2, 1) := by decide +kernel
theorem dX2_countedHeight_29 : decode cX2_countedHeight 29 = .ok (.bipush 10, 2) := by decide +kernel
theorem dX2_countedHeight_31 : decode cX2_countedHeight 31 = .ok (.if_icmp .ge 8, 3) := by decide +kernel
theorem dX2_countedHeight_34 : decode cX2_countedHeight 34 = .ok (.bipush 10, 2) := by decide +kernel
theorem dX2_countedHeight_36 : decode cX2_countedHeight 36 = .ok (.goto 4, 3) := by decide +kernel
theorem dX2_countedHeight_39 : decode cX2_countedHeight 39 = .ok (.iload_n 2, 1) := by decide +kernel
theorem dX2_countedHeight_40 : decode cX2_countedHeight 40 = .ok (.ireturn, 1) := by decide +kernel
set_option maxRecDepth 20000 in
theorem ggX2_greatestHeight_X2_countedHeight : GoodIn wsX2_greatestHeight wsX2_countedHeight := goodIn_r _ [10, 11, 12, 13, 14, 15, 16, 17, 18, 19, 20, 21, 22, 23] (by decide +kernel) (by decide +kernel)
set_option maxRecDepth 20000 in
theorem gX2_greatestHeight_X2_countedHeight : GoodIn wsX2_greatestHeight (wsV RX2 54 RX2 yX2_countedHeight wsX2_countedHeight) := goodIn_app (goodIn_of _ (by decide +kernel)) ggX2_greatestHeight_X2_countedHeight
theorem dX2_greatestHeight_0 : decode cX2_greatestHeight 0 = .ok (.iconst 0, 1) := by decide +kernel
theorem dX2_greatestHeight_1 : decode cX2_greatestHeight 1 = .ok (.istore_n 1, 1) := by decide +kernel
theorem dX2_greatestHeight_2 : decode cX2_greatestHeight 2 = .ok (.iconst 0, 1) := by decide +kernel
theorem dX2_greatestHeight_3 : decode cX2_greatestHeight 3 = .ok (.istore_n 2, 1) := by decide +kernel
theorem dX2_greatestHeight_4 : decode cX2_greatestHeight 4 = .ok (.iload_n 2, 1) := by decide +kernel
theorem dX2_greatestHeight_5 : decode cX2_greatestHeight 5 = .ok (.aload_n 0, 1) := by decide +kernel
theorem dX2_greatestHeight_6 : decode cX2_greatestHeight 6 = .ok (.getfield 9, 3) := by decide +kernel
theorem dX2_greatestHeight_9 : decode cX2_greatestHeight 9 = .ok (.if_icmp .ge 19, 3) := by decide +kernel
theorem dX2_greatestHeight_12 : decode cX2_greatestHeight 12 = .ok (.iload_n 1, 1) := by decide +kernel
theorem dX2_greatestHeight_13 : decode cX2_greatestHeight 13 = .ok (.aload_n 0, 1) := by decide +kernel
theorem dX2_greatestHeight_14 : decode cX2_greatestHeight 14 = .ok (.iload_n 2, 1) := by decide +kernel
theorem dX2_greatestHeight_15 : decode cX2_greatestHeight 15 = .ok (.invokevirtual 54, 3) := by decide +kernel
theorem dX2_greatestHeight_18 : decode cX2_greatestHeight 18 = .ok (.invokestatic 64, 3) := by decide +kernel
theorem dX2_greatestHeight_21 : decode cX2_greatestHeight 21 = .ok (.istore_n 1, 1) := by decide +kernel
theorem dX2_greatestHeight_22 : decode cX2_greatestHeight 22 = .ok (.iinc 2 1, 3) := by decide +kernel
theorem dX2_greatestHeight_25 : decode cX2_greatestHeight 25 = .ok (.goto (-21), 3) := by decide +kernel
theorem dX2_greatestHeight_28 : decode cX2_greatestHeight 28 = .ok (.iload_n 1, 1) := by decide +kernel
theorem dX2_greatestHeight_29 : decode cX2_greatestHeight 29 = .ok (.ireturn, 1) := by decide +kernel
set_option maxRecDepth 20000 in
theorem ggX2_allTrouble_X2_troubleAt : GoodIn wsX2_allTrouble wsX2_troubleAt := goodIn_r _ [6, 7, 8, 9, 5, 10, 11, 12, 13, 14, 15, 16, 17, 18, 19, 20, 21, 22, 23, 24, 25, 26, 27, 28, 29, 30, 31, 32] (by decide +kernel) (by decide +kernel)
set_option maxRecDepth 20000 in
theorem gX2_allTrouble_X2_troubleAt : GoodIn wsX2_allTrouble (wsV RX2 61 RX2 yX2_troubleAt wsX2_troubleAt) := goodIn_app (goodIn_of _ (by decide +kernel)) ggX2_allTrouble_X2_troubleAt
theorem dX2_allTrouble_0 : decode cX2_allTrouble 0 = .ok (.iconst 0, 1) := by decide +kernel
theorem dX2_allTrouble_1 : decode cX2_allTrouble 1 = .ok (.istore_n 1, 1) := by decide +kernel
theorem dX2_allTrouble_2 : decode cX2_allTrouble 2 = .ok (.iconst 0, 1) := by decide +kernel
theorem dX2_allTrouble_3 : decode cX2_allTrouble 3 = .ok (.istore_n 2, 1) := by decide +kernel
theorem dX2_allTrouble_4 : decode cX2_allTrouble 4 = .ok (.iload_n 2, 1) := by decide +kernel
theorem dX2_allTrouble_5 : decode cX2_allTrouble 5 = .ok (.aload_n 0, 1) := by decide +kernel
theorem dX2_allTrouble_6 : decode cX2_allTrouble 6 = .ok (.getfield 9, 3) := by decide +kernel
theorem dX2_allTrouble_9 : decode cX2_allTrouble 9 = .ok (.if_icmp .ge 17, 3) := by decide +kernel
theorem dX2_allTrouble_12 : decode cX2_allTrouble 12 = .ok (.iload_n 1, 1) := by decide +kernel
theorem dX2_allTrouble_13 : decode cX2_allTrouble 13 = .ok (.aload_n 0, 1) := by decide +kernel
theorem dX2_allTrouble_14 : decode cX2_allTrouble 14 = .ok (.iload_n 2, 1) := by decide +kernel
theorem dX2_allTrouble_15 : decode cX2_allTrouble 15 = .ok (.invokevirtual 61, 3) := by decide +kernel
theorem dX2_allTrouble_18 : decode cX2_allTrouble 18 = .ok (.iadd, 1) := by decide +kernel
theorem dX2_allTrouble_19 : decode cX2_allTrouble 19 = .ok (.istore_n 1, 1) := by decide +kernel
theorem dX2_allTrouble_20 : decode cX2_allTrouble 20 = .ok (.iinc 2 1, 3) := by decide +kernel
theorem dX2_allTrouble_23 : decode cX2_allTrouble 23 = .ok (.goto (-19), 3) := by decide +kernel
theorem dX2_allTrouble_26 : decode cX2_allTrouble 26 = .ok (.iload_n 1, 1) := by decide +kernel
theorem dX2_allTrouble_27 : decode cX2_allTrouble 27 = .ok (.ireturn, 1) := by decide +kernel
set_option maxRecDepth 20000 in
theorem ggX2_troubledFloats_X2_troubleAt : GoodIn wsX2_troubledFloats wsX2_troubleAt := goodIn_r _ [6, 7, 8, 9, 5, 10, 11, 12, 13, 14, 15, 16, 17, 18, 19, 20, 21, 22, 23, 24, 25, 26, 27, 28, 29, 30, 31, 32] (by decide +kernel) (by decide +kernel)
set_option maxRecDepth 20000 in
theorem gX2_troubledFloats_X2_troubleAt : GoodIn wsX2_troubledFloats (wsV RX2 61 RX2 yX2_troubleAt wsX2_troubleAt) := goodIn_app (goodIn_of _ (by decide +kernel)) ggX2_troubledFloats_X2_troubleAt
theorem dX2_troubledFloats_0 : decode cX2_troubledFloats 0 = .ok (.iconst 0, 1) := by decide +kernel
theorem dX2_troubledFloats_1 : decode cX2_troubledFloats 1 = .ok (.istore_n 1, 1) := by decide +kernel
theorem dX2_troubledFloats_2 : decode cX2_troubledFloats 2 = .ok (.iconst 0, 1) := by decide +kernel
theorem dX2_troubledFloats_3 : decode cX2_troubledFloats 3 = .ok (.istore_n 2, 1) := by decide +kernel
theorem dX2_troubledFloats_4 : decode cX2_troubledFloats 4 = .ok (.iload_n 2, 1) := by decide +kernel
theorem dX2_troubledFloats_5 : decode cX2_troubledFloats 5 = .ok (.aload_n 0, 1) := by decide +kernel
theorem dX2_troubledFloats_6 : decode cX2_troubledFloats 6 = .ok (.getfield 9, 3) := by decide +kernel
theorem dX2_troubledFloats_9 : decode cX2_troubledFloats 9 = .ok (.if_icmp .ge 20, 3) := by decide +kernel
theorem dX2_troubledFloats_12 : decode cX2_troubledFloats 12 = .ok (.aload_n 0, 1) := by decide +kernel
theorem dX2_troubledFloats_13 : decode cX2_troubledFloats 13 = .ok (.iload_n 2, 1) := by decide +kernel
theorem dX2_troubledFloats_14 : decode cX2_troubledFloats 14 = .ok (.invokevirtual 61, 3) := by decide +kernel
theorem dX2_troubledFloats_17 : decode cX2_troubledFloats 17 = .ok (.ifCond .le 6, 3) := by decide +kernel
theorem dX2_troubledFloats_20 : decode cX2_troubledFloats 20 = .ok (.iinc 1 1, 3) := by decide +kernel
theorem dX2_troubledFloats_23 : decode cX2_troubledFloats 23 = .ok (.iinc 2 1, 3) := by decide +kernel
theorem dX2_troubledFloats_26 : decode cX2_troubledFloats 26 = .ok (.goto (-22), 3) := by decide +kernel
theorem dX2_troubledFloats_29 : decode cX2_troubledFloats 29 = .ok (.iload_n 1, 1) := by decide +kernel
theorem dX2_troubledFloats_30 : decode cX2_troubledFloats 30 = .ok (.ireturn, 1) := by decide +kernel
set_option maxRecDepth 20000 in
theorem ggX2_troubleAt_X2_shying : GoodIn wsX2_troubleAt wsX2_shying := goodIn_r _ [5, 6, 7, 17, 18, 19, 20, 21, 22, 23, 24, 25, 26, 27] (by decide +kernel) (by decide +kernel)
set_option maxRecDepth 20000 in
theorem gX2_troubleAt_X2_shying : GoodIn wsX2_troubleAt (wsV RX2 70 RX2 yX2_shying wsX2_shying) := goodIn_app (goodIn_of _ (by decide +kernel)) ggX2_troubleAt_X2_shying
set_option maxRecDepth 20000 in
theorem ggX2_troubleAt_X2_hearing : GoodIn wsX2_troubleAt wsX2_hearing := goodIn_r _ [11, 7, 12, 17, 18, 19, 20, 21, 22, 23, 24, 25, 26, 27] (by decide +kernel) (by decide +kernel)
set_option maxRecDepth 20000 in
theorem gX2_troubleAt_X2_hearing : GoodIn wsX2_troubleAt (wsV RX2 73 RX2 yX2_hearing wsX2_hearing) := goodIn_app (goodIn_of _ (by decide +kernel)) ggX2_troubleAt_X2_hearing
set_option maxRecDepth 20000 in
theorem ggX2_troubleAt_X2_meeting : GoodIn wsX2_troubleAt wsX2_meeting := goodIn_r _ [16, 7, 17, 18, 19, 20, 21, 22, 23, 24, 25, 26, 27] (by decide +kernel) (by decide +kernel)
set_option maxRecDepth 20000 in
theorem gX2_troubleAt_X2_meeting : GoodIn wsX2_troubleAt (wsV RX2 76 RX2 yX2_meeting wsX2_meeting) := goodIn_app (goodIn_of _ (by decide +kernel)) ggX2_troubleAt_X2_meeting
theorem dX2_troubleAt_0 : decode cX2_troubleAt 0 = .ok (.aload_n 0, 1) := by decide +kernel
theorem dX2_troubleAt_1 : decode cX2_troubleAt 1 = .ok (.iload_n 1, 1) := by decide +kernel
theorem dX2_troubleAt_2 : decode cX2_troubleAt 2 = .ok (.invokevirtual 70, 3) := by decide +kernel
theorem dX2_troubleAt_5 : decode cX2_troubleAt 5 = .ok (.aload_n 0, 1) := by decide +kernel
theorem dX2_troubleAt_6 : decode cX2_troubleAt 6 = .ok (.iload_n 1, 1) := by decide +kernel
theorem dX2_troubleAt_7 : decode cX2_troubleAt 7 = .ok (.invokevirtual 73, 3) := by decide +kernel
theorem dX2_troubleAt_10 : decode cX2_troubleAt 10 = .ok (.iadd, 1) := by decide +kernel
theorem dX2_troubleAt_11 : decode cX2_troubleAt 11 = .ok (.aload_n 0, 1) := by decide +kernel
theorem dX2_troubleAt_12 : decode cX2_troubleAt 12 = .ok (.iload_n 1, 1) := by decide +kernel
theorem dX2_troubleAt_13 : decode cX2_troubleAt 13 = .ok (.invokevirtual 76, 3) := by decide +kernel
theorem dX2_troubleAt_16 : decode cX2_troubleAt 16 = .ok (.iadd, 1) := by decide +kernel
theorem dX2_troubleAt_17 : decode cX2_troubleAt 17 = .ok (.ireturn, 1) := by decide +kernel
set_option maxRecDepth 20000 in
theorem ggX2_troubleBy_X2_shying : GoodIn wsX2_troubleBy wsX2_shying := goodIn_r _ [5, 6, 7, 17, 18, 19, 20, 21, 22, 23, 24, 25, 26, 27] (by decide +kernel) (by decide +kernel)
set_option maxRecDepth 20000 in
theorem gX2_troubleBy_X2_shying : GoodIn wsX2_troubleBy (wsV RX2 70 RX2 yX2_shying wsX2_shying) := goodIn_app (goodIn_of _ (by decide +kernel)) ggX2_troubleBy_X2_shying
set_option maxRecDepth 20000 in
theorem ggX2_troubleBy_X2_hearing : GoodIn wsX2_troubleBy wsX2_hearing := goodIn_r _ [11, 7, 12, 17, 18, 19, 20, 21, 22, 23, 24, 25, 26, 27] (by decide +kernel) (by decide +kernel)
set_option maxRecDepth 20000 in
theorem gX2_troubleBy_X2_hearing : GoodIn wsX2_troubleBy (wsV RX2 73 RX2 yX2_hearing wsX2_hearing) := goodIn_app (goodIn_of _ (by decide +kernel)) ggX2_troubleBy_X2_hearing
set_option maxRecDepth 20000 in
theorem ggX2_troubleBy_X2_meeting : GoodIn wsX2_troubleBy wsX2_meeting := goodIn_r _ [16, 7, 17, 18, 19, 20, 21, 22, 23, 24, 25, 26, 27] (by decide +kernel) (by decide +kernel)
set_option maxRecDepth 20000 in
theorem gX2_troubleBy_X2_meeting : GoodIn wsX2_troubleBy (wsV RX2 76 RX2 yX2_meeting wsX2_meeting) := goodIn_app (goodIn_of _ (by decide +kernel)) ggX2_troubleBy_X2_meeting
theorem dX2_troubleBy_0 : decode cX2_troubleBy 0 = .ok (.iload_n 2, 1) := by decide +kernel
theorem dX2_troubleBy_1 : decode cX2_troubleBy 1 = .ok (.lookupswitch 39 #[(0, 27), (1, 33)], 27) := by decide +kernel
theorem dX2_troubleBy_28 : decode cX2_troubleBy 28 = .ok (.aload_n 0, 1) := by decide +kernel
theorem dX2_troubleBy_29 : decode cX2_troubleBy 29 = .ok (.iload_n 1, 1) := by decide +kernel
theorem dX2_troubleBy_30 : decode cX2_troubleBy 30 = .ok (.invokevirtual 70, 3) := by decide +kernel
theorem dX2_troubleBy_33 : decode cX2_troubleBy 33 = .ok (.ireturn, 1) := by decide +kernel
theorem dX2_troubleBy_34 : decode cX2_troubleBy 34 = .ok (.aload_n 0, 1) := by decide +kernel
theorem dX2_troubleBy_35 : decode cX2_troubleBy 35 = .ok (.iload_n 1, 1) := by decide +kernel
theorem dX2_troubleBy_36 : decode cX2_troubleBy 36 = .ok (.invokevirtual 73, 3) := by decide +kernel
theorem dX2_troubleBy_39 : decode cX2_troubleBy 39 = .ok (.ireturn, 1) := by decide +kernel
theorem dX2_troubleBy_40 : decode cX2_troubleBy 40 = .ok (.aload_n 0, 1) := by decide +kernel
theorem dX2_troubleBy_41 : decode cX2_troubleBy 41 = .ok (.iload_n 1, 1) := by decide +kernel
theorem dX2_troubleBy_42 : decode cX2_troubleBy 42 = .ok (.invokevirtual 76, 3) := by decide +kernel
theorem dX2_troubleBy_45 : decode cX2_troubleBy 45 = .ok (.ireturn, 1) := by decide +kernel
theorem dX2_shying_0 : decode cX2_shying 0 = .ok (.iconst 0, 1) := by decide +kernel
theorem dX2_shying_1 : decode cX2_shying 1 = .ok (.istore_n 2, 1) := by decide +kernel
theorem dX2_shying_2 : decode cX2_shying 2 = .ok (.iload_n 1, 1) := by decide +kernel
theorem dX2_shying_3 : decode cX2_shying 3 = .ok (.iconst 1, 1) := by decide +kernel
theorem dX2_shying_4 : decode cX2_shying 4 = .ok (.if_icmp .lt 27, 3) := by decide +kernel
theorem dX2_shying_7 : decode cX2_shying 7 = .ok (.aload_n 0, 1) := by decide +kernel
theorem dX2_shying_8 : decode cX2_shying 8 = .ok (.getfield 22, 3) := by decide +kernel
theorem dX2_shying_11 : decode cX2_shying 11 = .ok (.iload_n 1, 1) := by decide +kernel
theorem dX2_shying_12 : decode cX2_shying 12 = .ok (.iaload, 1) := by decide +kernel
theorem dX2_shying_13 : decode cX2_shying 13 = .ok (.aload_n 0, 1) := by decide +kernel
theorem dX2_shying_14 : decode cX2_shying 14 = .ok (.getfield 15, 3) := by decide +kernel
theorem dX2_shying_17 : decode cX2_shying 17 = .ok (.iload_n 1, 1) := by decide +kernel
theorem dX2_shying_18 : decode cX2_shying 18 = .ok (.iconst 1, 1) := by decide +kernel
theorem dX2_shying_19 : decode cX2_shying 19 = .ok (.isub, 1) := by decide +kernel
theorem dX2_shying_20 : decode cX2_shying 20 = .ok (.iaload, 1) := by decide +kernel
theorem dX2_shying_21 : decode cX2_shying 21 = .ok (.ishr, 1) := by decide +kernel
theorem dX2_shying_22 : decode cX2_shying 22 = .ok (.iconst 1, 1) := by decide +kernel
theorem dX2_shying_23 : decode cX2_shying 23 = .ok (.iand, 1) := by decide +kernel
theorem dX2_shying_24 : decode cX2_shying 24 = .ok (.iconst 1, 1) := by decide +kernel
theorem dX2_shying_25 : decode cX2_shying 25 = .ok (.if_icmp .ne 6, 3) := by decide +kernel
theorem dX2_shying_28 : decode cX2_shying 28 = .ok (.iinc 2 3, 3) := by decide +kernel
theorem dX2_shying_31 : decode cX2_shying 31 = .ok (.iload_n 1, 1) := by decide +kernel
theorem dX2_shying_32 : decode cX2_shying 32 = .ok (.iconst 2, 1) := by decide +kernel
theorem dX2_shying_33 : decode cX2_shying 33 = .ok (.if_icmp .lt 27, 3) := by decide +kernel
theorem dX2_shying_36 : decode cX2_shying 36 = .ok (.aload_n 0, 1) := by decide +kernel
theorem dX2_shying_37 : decode cX2_shying 37 = .ok (.getfield 22, 3) := by decide +kernel
theorem dX2_shying_40 : decode cX2_shying 40 = .ok (.iload_n 1, 1) := by decide +kernel
theorem dX2_shying_41 : decode cX2_shying 41 = .ok (.iaload, 1) := by decide +kernel
theorem dX2_shying_42 : decode cX2_shying 42 = .ok (.aload_n 0, 1) := by decide +kernel
theorem dX2_shying_43 : decode cX2_shying 43 = .ok (.getfield 15, 3) := by decide +kernel
theorem dX2_shying_46 : decode cX2_shying 46 = .ok (.iload_n 1, 1) := by decide +kernel
theorem dX2_shying_47 : decode cX2_shying 47 = .ok (.iconst 2, 1) := by decide +kernel
theorem dX2_shying_48 : decode cX2_shying 48 = .ok (.isub, 1) := by decide +kernel
theorem dX2_shying_49 : decode cX2_shying 49 = .ok (.iaload, 1) := by decide +kernel
theorem dX2_shying_50 : decode cX2_shying 50 = .ok (.ishr, 1) := by decide +kernel
theorem dX2_shying_51 : decode cX2_shying 51 = .ok (.iconst 1, 1) := by decide +kernel
theorem dX2_shying_52 : decode cX2_shying 52 = .ok (.iand, 1) := by decide +kernel
theorem dX2_shying_53 : decode cX2_shying 53 = .ok (.iconst 1, 1) := by decide +kernel
theorem dX2_shying_54 : decode cX2_shying 54 = .ok (.if_icmp .ne 6, 3) := by decide +kernel
theorem dX2_shying_57 : decode cX2_shying 57 = .ok (.iinc 2 1, 3) := by decide +kernel
theorem dX2_shying_60 : decode cX2_shying 60 = .ok (.iload_n 2, 1) := by decide +kernel
theorem dX2_shying_61 : decode cX2_shying 61 = .ok (.ireturn, 1) := by decide +kernel
theorem dX2_hearing_0 : decode cX2_hearing 0 = .ok (.iconst 0, 1) := by decide +kernel
theorem dX2_hearing_1 : decode cX2_hearing 1 = .ok (.istore_n 2, 1) := by decide +kernel
theorem dX2_hearing_2 : decode cX2_hearing 2 = .ok (.aload_n 0, 1) := by decide +kernel
theorem dX2_hearing_3 : decode cX2_hearing 3 = .ok (.getfield 15, 3) := by decide +kernel
theorem dX2_hearing_6 : decode cX2_hearing 6 = .ok (.iload_n 1, 1) := by decide +kernel
theorem dX2_hearing_7 : decode cX2_hearing 7 = .ok (.iaload, 1) := by decide +kernel
theorem dX2_hearing_8 : decode cX2_hearing 8 = .ok (.iconst 2, 1) := by decide +kernel
theorem dX2_hearing_9 : decode cX2_hearing 9 = .ok (.if_icmp .ne 41, 3) := by decide +kernel
theorem dX2_hearing_12 : decode cX2_hearing 12 = .ok (.iconst 1, 1) := by decide +kernel
theorem dX2_hearing_13 : decode cX2_hearing 13 = .ok (.istore_n 3, 1) := by decide +kernel
theorem dX2_hearing_14 : decode cX2_hearing 14 = .ok (.iload_n 3, 1) := by decide +kernel
theorem dX2_hearing_15 : decode cX2_hearing 15 = .ok (.aload_n 0, 1) := by decide +kernel
theorem dX2_hearing_16 : decode cX2_hearing 16 = .ok (.getfield 38, 3) := by decide +kernel
theorem dX2_hearing_19 : decode cX2_hearing 19 = .ok (.iconst 0, 1) := by decide +kernel
theorem dX2_hearing_20 : decode cX2_hearing 20 = .ok (.iaload, 1) := by decide +kernel
theorem dX2_hearing_21 : decode cX2_hearing 21 = .ok (.if_icmp .ge 29, 3) := by decide +kernel
theorem dX2_hearing_24 : decode cX2_hearing 24 = .ok (.iload_n 3, 1) := by decide +kernel
theorem dX2_hearing_25 : decode cX2_hearing 25 = .ok (.iload_n 1, 1) := by decide +kernel
theorem dX2_hearing_26 : decode cX2_hearing 26 = .ok (.if_icmp .gt 24, 3) := by decide +kernel
theorem dX2_hearing_29 : decode cX2_hearing 29 = .ok (.aload_n 0, 1) := by decide +kernel
theorem dX2_hearing_30 : decode cX2_hearing 30 = .ok (.getfield 15, 3) := by decide +kernel
theorem dX2_hearing_33 : decode cX2_hearing 33 = .ok (.iload_n 1, 1) := by decide +kernel
theorem dX2_hearing_34 : decode cX2_hearing 34 = .ok (.iload_n 3, 1) := by decide +kernel
theorem dX2_hearing_35 : decode cX2_hearing 35 = .ok (.isub, 1) := by decide +kernel
theorem dX2_hearing_36 : decode cX2_hearing 36 = .ok (.iaload, 1) := by decide +kernel
theorem dX2_hearing_37 : decode cX2_hearing 37 = .ok (.iconst 2, 1) := by decide +kernel
theorem dX2_hearing_38 : decode cX2_hearing 38 = .ok (.if_icmp .ne 6, 3) := by decide +kernel
theorem dX2_hearing_41 : decode cX2_hearing 41 = .ok (.iinc 2 1, 3) := by decide +kernel
theorem dX2_hearing_44 : decode cX2_hearing 44 = .ok (.iinc 3 1, 3) := by decide +kernel
theorem dX2_hearing_47 : decode cX2_hearing 47 = .ok (.goto (-33), 3) := by decide +kernel
theorem dX2_hearing_50 : decode cX2_hearing 50 = .ok (.iload_n 2, 1) := by decide +kernel
theorem dX2_hearing_51 : decode cX2_hearing 51 = .ok (.ireturn, 1) := by decide +kernel
theorem dX2_meeting_0 : decode cX2_meeting 0 = .ok (.iload_n 1, 1) := by decide +kernel
theorem dX2_meeting_1 : decode cX2_meeting 1 = .ok (.iconst 1, 1) := by decide +kernel
theorem dX2_meeting_2 : decode cX2_meeting 2 = .ok (.if_icmp .lt 29, 3) := by decide +kernel
theorem dX2_meeting_5 : decode cX2_meeting 5 = .ok (.aload_n 0, 1) := by decide +kernel
theorem dX2_meeting_6 : decode cX2_meeting 6 = .ok (.getfield 15, 3) := by decide +kernel
theorem dX2_meeting_9 : decode cX2_meeting 9 = .ok (.iload_n 1, 1) := by decide +kernel
theorem dX2_meeting_10 : decode cX2_meeting 10 = .ok (.iaload, 1) := by decide +kernel
theorem dX2_meeting_11 : decode cX2_meeting 11 = .ok (.iconst 3, 1) := by decide +kernel
theorem dX2_meeting_12 : decode cX2_meeting 12 = .ok (.if_icmp .ne 19, 3) := by decide +kernel
theorem dX2_meeting_15 : decode cX2_meeting 15 = .ok (.aload_n 0, 1) := by decide +kernel
theorem dX2_meeting_16 : decode cX2_meeting 16 = .ok (.getfield 15, 3) := by decide +kernel
theorem dX2_meeting_19 : decode cX2_meeting 19 = .ok (.iload_n 1, 1) := by decide +kernel
theorem dX2_meeting_20 : decode cX2_meeting 20 = .ok (.iconst 1, 1) := by decide +kernel
theorem dX2_meeting_21 : decode cX2_meeting 21 = .ok (.isub, 1) := by decide +kernel
theorem dX2_meeting_22 : decode cX2_meeting 22 = .ok (.iaload, 1) := by decide +kernel
theorem dX2_meeting_23 : decode cX2_meeting 23 = .ok (.iconst 3, 1) := by decide +kernel
theorem dX2_meeting_24 : decode cX2_meeting 24 = .ok (.if_icmp .ne 7, 3) := by decide +kernel
theorem dX2_meeting_27 : decode cX2_meeting 27 = .ok (.iconst 2, 1) := by decide +kernel
theorem dX2_meeting_28 : decode cX2_meeting 28 = .ok (.goto 4, 3) := by decide +kernel
theorem dX2_meeting_31 : decode cX2_meeting 31 = .ok (.iconst 0, 1) := by decide +kernel
theorem dX2_meeting_32 : decode cX2_meeting 32 = .ok (.ireturn, 1) := by decide +kernel
theorem dX2_hasBridgeAt_0 : decode cX2_hasBridgeAt 0 = .ok (.iconst 0, 1) := by decide +kernel
theorem dX2_hasBridgeAt_1 : decode cX2_hasBridgeAt 1 = .ok (.istore_n 2, 1) := by decide +kernel
theorem dX2_hasBridgeAt_2 : decode cX2_hasBridgeAt 2 = .ok (.iload_n 2, 1) := by decide +kernel
theorem dX2_hasBridgeAt_3 : decode cX2_hasBridgeAt 3 = .ok (.aload_n 0, 1) := by decide +kernel
theorem dX2_hasBridgeAt_4 : decode cX2_hasBridgeAt 4 = .ok (.getfield 29, 3) := by decide +kernel
theorem dX2_hasBridgeAt_7 : decode cX2_hasBridgeAt 7 = .ok (.if_icmp .ge 21, 3) := by decide +kernel
theorem dX2_hasBridgeAt_10 : decode cX2_hasBridgeAt 10 = .ok (.aload_n 0, 1) := by decide +kernel
theorem dX2_hasBridgeAt_11 : decode cX2_hasBridgeAt 11 = .ok (.getfield 32, 3) := by decide +kernel
theorem dX2_hasBridgeAt_14 : decode cX2_hasBridgeAt 14 = .ok (.iload_n 2, 1) := by decide +kernel
theorem dX2_hasBridgeAt_15 : decode cX2_hasBridgeAt 15 = .ok (.iaload, 1) := by decide +kernel
theorem dX2_hasBridgeAt_16 : decode cX2_hasBridgeAt 16 = .ok (.iload_n 1, 1) := by decide +kernel
theorem dX2_hasBridgeAt_17 : decode cX2_hasBridgeAt 17 = .ok (.if_icmp .ne 5, 3) := by decide +kernel
theorem dX2_hasBridgeAt_20 : decode cX2_hasBridgeAt 20 = .ok (.iconst 1, 1) := by decide +kernel
theorem dX2_hasBridgeAt_21 : decode cX2_hasBridgeAt 21 = .ok (.ireturn, 1) := by decide +kernel
theorem dX2_hasBridgeAt_22 : decode cX2_hasBridgeAt 22 = .ok (.iinc 2 1, 3) := by decide +kernel
theorem dX2_hasBridgeAt_25 : decode cX2_hasBridgeAt 25 = .ok (.goto (-23), 3) := by decide +kernel
theorem dX2_hasBridgeAt_28 : decode cX2_hasBridgeAt 28 = .ok (.iconst 0, 1) := by decide +kernel
theorem dX2_hasBridgeAt_29 : decode cX2_hasBridgeAt 29 = .ok (.ireturn, 1) := by decide +kernel
theorem dX2_build_0 : decode cX2_build 0 = .ok (.aload_n 0, 1) := by decide +kernel
theorem dX2_build_1 : decode cX2_build 1 = .ok (.getfield 29, 3) := by decide +kernel
theorem dX2_build_4 : decode cX2_build 4 = .ok (.iconst 4, 1) := by decide +kernel
theorem dX2_build_5 : decode cX2_build 5 = .ok (.if_icmp .lt 5, 3) := by decide +kernel
theorem dX2_build_8 : decode cX2_build 8 = .ok (.iconst (-1), 1) := by decide +kernel
theorem dX2_build_9 : decode cX2_build 9 = .ok (.ireturn, 1) := by decide +kernel
theorem dX2_build_10 : decode cX2_build 10 = .ok (.aload_n 0, 1) := by decide +kernel
theorem dX2_build_11 : decode cX2_build 11 = .ok (.getfield 29, 3) := by decide +kernel
theorem dX2_build_14 : decode cX2_build 14 = .ok (.istore_n 3, 1) := by decide +kernel
theorem dX2_build_15 : decode cX2_build 15 = .ok (.iload_n 3, 1) := by decide +kernel
theorem dX2_build_16 : decode cX2_build 16 = .ok (.ifCond .le 49, 3) := by decide +kernel
theorem dX2_build_19 : decode cX2_build 19 = .ok (.aload_n 0, 1) := by decide +kernel
theorem dX2_build_20 : decode cX2_build 20 = .ok (.getfield 32, 3) := by decide +kernel
theorem dX2_build_23 : decode cX2_build 23 = .ok (.iload_n 3, 1) := by decide +kernel
theorem dX2_build_24 : decode cX2_build 24 = .ok (.iconst 1, 1) := by decide +kernel
theorem dX2_build_25 : decode cX2_build 25 = .ok (.isub, 1) := by decide +kernel
theorem dX2_build_26 : decode cX2_build 26 = .ok (.iaload, 1) := by decide +kernel
theorem dX2_build_27 : decode cX2_build 27 = .ok (.iload_n 1, 1) := by decide +kernel
theorem dX2_build_28 : decode cX2_build 28 = .ok (.if_icmp .le 37, 3) := by decide +kernel
theorem dX2_build_31 : decode cX2_build 31 = .ok (.aload_n 0, 1) := by decide +kernel
theorem dX2_build_32 : decode cX2_build 32 = .ok (.getfield 32, 3) := by decide +kernel
theorem dX2_build_35 : decode cX2_build 35 = .ok (.iload_n 3, 1) := by decide +kernel
theorem dX2_build_36 : decode cX2_build 36 = .ok (.aload_n 0, 1) := by decide +kernel
theorem dX2_build_37 : decode cX2_build 37 = .ok (.getfield 32, 3) := by decide +kernel
theorem dX2_build_40 : decode cX2_build 40 = .ok (.iload_n 3, 1) := by decide +kernel
theorem dX2_build_41 : decode cX2_build 41 = .ok (.iconst 1, 1) := by decide +kernel
theorem dX2_build_42 : decode cX2_build 42 = .ok (.isub, 1) := by decide +kernel
theorem dX2_build_43 : decode cX2_build 43 = .ok (.iaload, 1) := by decide +kernel
theorem dX2_build_44 : decode cX2_build 44 = .ok (.iastore, 1) := by decide +kernel
theorem dX2_build_45 : decode cX2_build 45 = .ok (.aload_n 0, 1) := by decide +kernel
theorem dX2_build_46 : decode cX2_build 46 = .ok (.getfield 35, 3) := by decide +kernel
theorem dX2_build_49 : decode cX2_build 49 = .ok (.iload_n 3, 1) := by decide +kernel
theorem dX2_build_50 : decode cX2_build 50 = .ok (.aload_n 0, 1) := by decide +kernel
theorem dX2_build_51 : decode cX2_build 51 = .ok (.getfield 35, 3) := by decide +kernel
theorem dX2_build_54 : decode cX2_build 54 = .ok (.iload_n 3, 1) := by decide +kernel
theorem dX2_build_55 : decode cX2_build 55 = .ok (.iconst 1, 1) := by decide +kernel
theorem dX2_build_56 : decode cX2_build 56 = .ok (.isub, 1) := by decide +kernel
theorem dX2_build_57 : decode cX2_build 57 = .ok (.iaload, 1) := by decide +kernel
theorem dX2_build_58 : decode cX2_build 58 = .ok (.iastore, 1) := by decide +kernel
theorem dX2_build_59 : decode cX2_build 59 = .ok (.iinc 3 (-1), 3) := by decide +kernel
theorem dX2_build_62 : decode cX2_build 62 = .ok (.goto (-47), 3) := by decide +kernel
theorem dX2_build_65 : decode cX2_build 65 = .ok (.aload_n 0, 1) := by decide +kernel
theorem dX2_build_66 : decode cX2_build 66 = .ok (.getfield 32, 3) := by decide +kernel
theorem dX2_build_69 : decode cX2_build 69 = .ok (.iload_n 3, 1) := by decide +kernel
theorem dX2_build_70 : decode cX2_build 70 = .ok (.iload_n 1, 1) := by decide +kernel
theorem dX2_build_71 : decode cX2_build 71 = .ok (.iastore, 1) := by decide +kernel
theorem dX2_build_72 : decode cX2_build 72 = .ok (.aload_n 0, 1) := by decide +kernel
theorem dX2_build_73 : decode cX2_build 73 = .ok (.getfield 35, 3) := by decide +kernel
theorem dX2_build_76 : decode cX2_build 76 = .ok (.iload_n 3, 1) := by decide +kernel
theorem dX2_build_77 : decode cX2_build 77 = .ok (.iload_n 2, 1) := by decide +kernel
theorem dX2_build_78 : decode cX2_build 78 = .ok (.iastore, 1) := by decide +kernel
theorem dX2_build_79 : decode cX2_build 79 = .ok (.aload_n 0, 1) := by decide +kernel
theorem dX2_build_80 : decode cX2_build 80 = .ok (.dup, 1) := by decide +kernel
theorem dX2_build_81 : decode cX2_build 81 = .ok (.getfield 29, 3) := by decide +kernel
theorem dX2_build_84 : decode cX2_build 84 = .ok (.iconst 1, 1) := by decide +kernel
theorem dX2_build_85 : decode cX2_build 85 = .ok (.iadd, 1) := by decide +kernel
theorem dX2_build_86 : decode cX2_build 86 = .ok (.putfield 29, 3) := by decide +kernel
theorem dX2_build_89 : decode cX2_build 89 = .ok (.iload_n 3, 1) := by decide +kernel
theorem dX2_build_90 : decode cX2_build 90 = .ok (.ireturn, 1) := by decide +kernel
theorem dX2_pullDown_0 : decode cX2_pullDown 0 = .ok (.iload_n 1, 1) := by decide +kernel
theorem dX2_pullDown_1 : decode cX2_pullDown 1 = .ok (.iconst 1, 1) := by decide +kernel
theorem dX2_pullDown_2 : decode cX2_pullDown 2 = .ok (.iadd, 1) := by decide +kernel
theorem dX2_pullDown_3 : decode cX2_pullDown 3 = .ok (.istore_n 2, 1) := by decide +kernel
theorem dX2_pullDown_4 : decode cX2_pullDown 4 = .ok (.iload_n 2, 1) := by decide +kernel
theorem dX2_pullDown_5 : decode cX2_pullDown 5 = .ok (.aload_n 0, 1) := by decide +kernel
theorem dX2_pullDown_6 : decode cX2_pullDown 6 = .ok (.getfield 29, 3) := by decide +kernel
theorem dX2_pullDown_9 : decode cX2_pullDown 9 = .ok (.if_icmp .ge 37, 3) := by decide +kernel
theorem dX2_pullDown_12 : decode cX2_pullDown 12 = .ok (.aload_n 0, 1) := by decide +kernel
theorem dX2_pullDown_13 : decode cX2_pullDown 13 = .ok (.getfield 32, 3) := by decide +kernel
theorem dX2_pullDown_16 : decode cX2_pullDown 16 = .ok (.iload_n 2, 1) := by decide +kernel
theorem dX2_pullDown_17 : decode cX2_pullDown 17 = .ok (.iconst 1, 1) := by decide +kernel
theorem dX2_pullDown_18 : decode cX2_pullDown 18 = .ok (.isub, 1) := by decide +kernel
theorem dX2_pullDown_19 : decode cX2_pullDown 19 = .ok (.aload_n 0, 1) := by decide +kernel
theorem dX2_pullDown_20 : decode cX2_pullDown 20 = .ok (.getfield 32, 3) := by decide +kernel
theorem dX2_pullDown_23 : decode cX2_pullDown 23 = .ok (.iload_n 2, 1) := by decide +kernel
theorem dX2_pullDown_24 : decode cX2_pullDown 24 = .ok (.iaload, 1) := by decide +kernel
theorem dX2_pullDown_25 : decode cX2_pullDown 25 = .ok (.iastore, 1) := by decide +kernel
theorem dX2_pullDown_26 : decode cX2_pullDown 26 = .ok (.aload_n 0, 1) := by decide +kernel
theorem dX2_pullDown_27 : decode cX2_pullDown 27 = .ok (.getfield 35, 3) := by decide +kernel
theorem dX2_pullDown_30 : decode cX2_pullDown 30 = .ok (.iload_n 2, 1) := by decide +kernel
theorem dX2_pullDown_31 : decode cX2_pullDown 31 = .ok (.iconst 1, 1) := by decide +kernel
theorem dX2_pullDown_32 : decode cX2_pullDown 32 = .ok (.isub, 1) := by decide +kernel
theorem dX2_pullDown_33 : decode cX2_pullDown 33 = .ok (.aload_n 0, 1) := by decide +kernel
theorem dX2_pullDown_34 : decode cX2_pullDown 34 = .ok (.getfield 35, 3) := by decide +kernel
theorem dX2_pullDown_37 : decode cX2_pullDown 37 = .ok (.iload_n 2, 1) := by decide +kernel
theorem dX2_pullDown_38 : decode cX2_pullDown 38 = .ok (.iaload, 1) := by decide +kernel
theorem dX2_pullDown_39 : decode cX2_pullDown 39 = .ok (.iastore, 1) := by decide +kernel
theorem dX2_pullDown_40 : decode cX2_pullDown 40 = .ok (.iinc 2 1, 3) := by decide +kernel
theorem dX2_pullDown_43 : decode cX2_pullDown 43 = .ok (.goto (-39), 3) := by decide +kernel
theorem dX2_pullDown_46 : decode cX2_pullDown 46 = .ok (.aload_n 0, 1) := by decide +kernel
theorem dX2_pullDown_47 : decode cX2_pullDown 47 = .ok (.dup, 1) := by decide +kernel
theorem dX2_pullDown_48 : decode cX2_pullDown 48 = .ok (.getfield 29, 3) := by decide +kernel
theorem dX2_pullDown_51 : decode cX2_pullDown 51 = .ok (.iconst 1, 1) := by decide +kernel
theorem dX2_pullDown_52 : decode cX2_pullDown 52 = .ok (.isub, 1) := by decide +kernel
theorem dX2_pullDown_53 : decode cX2_pullDown 53 = .ok (.putfield 29, 3) := by decide +kernel
theorem dX2_pullDown_56 : decode cX2_pullDown 56 = .ok (.return_, 1) := by decide +kernel
set_option maxRecDepth 20000 in
theorem ggX2_bridgeProperty_X2_floatsLoweredAt : GoodIn wsX2_bridgeProperty wsX2_floatsLoweredAt := goodIn_r _ [7, 8, 9, 10, 11, 6, 12, 2, 13, 14, 15, 16, 17, 18, 19, 20, 21, 22, 23, 24, 25, 26, 27, 28, 29] (by decide +kernel) (by decide +kernel)
set_option maxRecDepth 20000 in
theorem gX2_bridgeProperty_X2_floatsLoweredAt : GoodIn wsX2_bridgeProperty (wsV RX2 79 RX2 yX2_floatsLoweredAt wsX2_floatsLoweredAt) := goodIn_app (goodIn_of _ (by decide +kernel)) ggX2_bridgeProperty_X2_floatsLoweredAt
theorem dX2_bridgeProperty_0 : decode cX2_bridgeProperty 0 = .ok (.iload_n 2, 1) := by decide +kernel
theorem dX2_bridgeProperty_1 : decode cX2_bridgeProperty 1 = .ok (.lookupswitch 41 #[(0, 27), (1, 34)], 27) := by decide +kernel
theorem dX2_bridgeProperty_28 : decode cX2_bridgeProperty 28 = .ok (.aload_n 0, 1) := by decide +kernel
theorem dX2_bridgeProperty_29 : decode cX2_bridgeProperty 29 = .ok (.getfield 32, 3) := by decide +kernel
theorem dX2_bridgeProperty_32 : decode cX2_bridgeProperty 32 = .ok (.iload_n 1, 1) := by decide +kernel
theorem dX2_bridgeProperty_33 : decode cX2_bridgeProperty 33 = .ok (.iaload, 1) := by decide +kernel
theorem dX2_bridgeProperty_34 : decode cX2_bridgeProperty 34 = .ok (.ireturn, 1) := by decide +kernel
theorem dX2_bridgeProperty_35 : decode cX2_bridgeProperty 35 = .ok (.aload_n 0, 1) := by decide +kernel
theorem dX2_bridgeProperty_36 : decode cX2_bridgeProperty 36 = .ok (.getfield 35, 3) := by decide +kernel
theorem dX2_bridgeProperty_39 : decode cX2_bridgeProperty 39 = .ok (.iload_n 1, 1) := by decide +kernel
theorem dX2_bridgeProperty_40 : decode cX2_bridgeProperty 40 = .ok (.iaload, 1) := by decide +kernel
theorem dX2_bridgeProperty_41 : decode cX2_bridgeProperty 41 = .ok (.ireturn, 1) := by decide +kernel
theorem dX2_bridgeProperty_42 : decode cX2_bridgeProperty 42 = .ok (.aload_n 0, 1) := by decide +kernel
theorem dX2_bridgeProperty_43 : decode cX2_bridgeProperty 43 = .ok (.iload_n 1, 1) := by decide +kernel
theorem dX2_bridgeProperty_44 : decode cX2_bridgeProperty 44 = .ok (.invokevirtual 79, 3) := by decide +kernel
theorem dX2_bridgeProperty_47 : decode cX2_bridgeProperty 47 = .ok (.ireturn, 1) := by decide +kernel
set_option maxRecDepth 20000 in
theorem ggX2_isLowered_X2_countedHeight : GoodIn wsX2_isLowered wsX2_countedHeight := goodIn_r _ [6, 7, 8, 9, 10, 11, 12, 13, 14, 15, 16, 17, 18, 19] (by decide +kernel) (by decide +kernel)
set_option maxRecDepth 20000 in
theorem gX2_isLowered_X2_countedHeight : GoodIn wsX2_isLowered (wsV RX2 54 RX2 yX2_countedHeight wsX2_countedHeight) := goodIn_app (goodIn_of _ (by decide +kernel)) ggX2_isLowered_X2_countedHeight
theorem dX2_isLowered_0 : decode cX2_isLowered 0 = .ok (.aload_n 0, 1) := by decide +kernel
theorem dX2_isLowered_1 : decode cX2_isLowered 1 = .ok (.iload_n 1, 1) := by decide +kernel
theorem dX2_isLowered_2 : decode cX2_isLowered 2 = .ok (.invokevirtual 54, 3) := by decide +kernel
theorem dX2_isLowered_5 : decode cX2_isLowered 5 = .ok (.aload_n 0, 1) := by decide +kernel
theorem dX2_isLowered_6 : decode cX2_isLowered 6 = .ok (.getfield 35, 3) := by decide +kernel
theorem dX2_isLowered_9 : decode cX2_isLowered 9 = .ok (.iload_n 2, 1) := by decide +kernel
theorem dX2_isLowered_10 : decode cX2_isLowered 10 = .ok (.iaload, 1) := by decide +kernel
theorem dX2_isLowered_11 : decode cX2_isLowered 11 = .ok (.if_icmp .le 7, 3) := by decide +kernel
theorem dX2_isLowered_14 : decode cX2_isLowered 14 = .ok (.iconst 1, 1) := by decide +kernel
theorem dX2_isLowered_15 : decode cX2_isLowered 15 = .ok (.goto 4, 3) := by decide +kernel
theorem dX2_isLowered_18 : decode cX2_isLowered 18 = .ok (.iconst 0, 1) := by decide +kernel
theorem dX2_isLowered_19 : decode cX2_isLowered 19 = .ok (.ireturn, 1) := by decide +kernel
set_option maxRecDepth 20000 in
theorem ggX2_bridgesThatLower_X2_isLowered : GoodIn wsX2_bridgesThatLower wsX2_isLowered := goodIn_r _ [6, 7, 8, 9, 10, 5, 11, 12, 13, 14, 15, 16, 17, 18, 19, 20, 21, 22, 23, 24] (by decide +kernel) (by decide +kernel)
set_option maxRecDepth 20000 in
theorem gX2_bridgesThatLower_X2_isLowered : GoodIn wsX2_bridgesThatLower (wsV RX2 82 RX2 yX2_isLowered wsX2_isLowered) := goodIn_app (goodIn_of _ (by decide +kernel)) ggX2_bridgesThatLower_X2_isLowered
theorem dX2_bridgesThatLower_0 : decode cX2_bridgesThatLower 0 = .ok (.iconst 0, 1) := by decide +kernel
theorem dX2_bridgesThatLower_1 : decode cX2_bridgesThatLower 1 = .ok (.istore_n 2, 1) := by decide +kernel
theorem dX2_bridgesThatLower_2 : decode cX2_bridgesThatLower 2 = .ok (.iconst 0, 1) := by decide +kernel
theorem dX2_bridgesThatLower_3 : decode cX2_bridgesThatLower 3 = .ok (.istore_n 3, 1) := by decide +kernel
theorem dX2_bridgesThatLower_4 : decode cX2_bridgesThatLower 4 = .ok (.iload_n 3, 1) := by decide +kernel
theorem dX2_bridgesThatLower_5 : decode cX2_bridgesThatLower 5 = .ok (.aload_n 0, 1) := by decide +kernel
theorem dX2_bridgesThatLower_6 : decode cX2_bridgesThatLower 6 = .ok (.getfield 29, 3) := by decide +kernel
theorem dX2_bridgesThatLower_9 : decode cX2_bridgesThatLower 9 = .ok (.if_icmp .ge 21, 3) := by decide +kernel
theorem dX2_bridgesThatLower_12 : decode cX2_bridgesThatLower 12 = .ok (.aload_n 0, 1) := by decide +kernel
theorem dX2_bridgesThatLower_13 : decode cX2_bridgesThatLower 13 = .ok (.iload_n 1, 1) := by decide +kernel
theorem dX2_bridgesThatLower_14 : decode cX2_bridgesThatLower 14 = .ok (.iload_n 3, 1) := by decide +kernel
theorem dX2_bridgesThatLower_15 : decode cX2_bridgesThatLower 15 = .ok (.invokevirtual 82, 3) := by decide +kernel
theorem dX2_bridgesThatLower_18 : decode cX2_bridgesThatLower 18 = .ok (.ifCond .eq 6, 3) := by decide +kernel
theorem dX2_bridgesThatLower_21 : decode cX2_bridgesThatLower 21 = .ok (.iinc 2 1, 3) := by decide +kernel
theorem dX2_bridgesThatLower_24 : decode cX2_bridgesThatLower 24 = .ok (.iinc 3 1, 3) := by decide +kernel
theorem dX2_bridgesThatLower_27 : decode cX2_bridgesThatLower 27 = .ok (.goto (-23), 3) := by decide +kernel
theorem dX2_bridgesThatLower_30 : decode cX2_bridgesThatLower 30 = .ok (.iload_n 2, 1) := by decide +kernel
theorem dX2_bridgesThatLower_31 : decode cX2_bridgesThatLower 31 = .ok (.ireturn, 1) := by decide +kernel
set_option maxRecDepth 20000 in
theorem ggX2_floatsLoweredAt_X2_isLowered : GoodIn wsX2_floatsLoweredAt wsX2_isLowered := goodIn_r _ [6, 7, 8, 9, 10, 5, 11, 12, 13, 14, 15, 16, 17, 18, 19, 20, 21, 22, 23, 24] (by decide +kernel) (by decide +kernel)
set_option maxRecDepth 20000 in
theorem gX2_floatsLoweredAt_X2_isLowered : GoodIn wsX2_floatsLoweredAt (wsV RX2 82 RX2 yX2_isLowered wsX2_isLowered) := goodIn_app (goodIn_of _ (by decide +kernel)) ggX2_floatsLoweredAt_X2_isLowered
theorem dX2_floatsLoweredAt_0 : decode cX2_floatsLoweredAt 0 = .ok (.iconst 0, 1) := by decide +kernel
theorem dX2_floatsLoweredAt_1 : decode cX2_floatsLoweredAt 1 = .ok (.istore_n 2, 1) := by decide +kernel
theorem dX2_floatsLoweredAt_2 : decode cX2_floatsLoweredAt 2 = .ok (.iconst 0, 1) := by decide +kernel
theorem dX2_floatsLoweredAt_3 : decode cX2_floatsLoweredAt 3 = .ok (.istore_n 3, 1) := by decide +kernel
theorem dX2_floatsLoweredAt_4 : decode cX2_floatsLoweredAt 4 = .ok (.iload_n 3, 1) := by decide +kernel
theorem dX2_floatsLoweredAt_5 : decode cX2_floatsLoweredAt 5 = .ok (.aload_n 0, 1) := by decide +kernel
theorem dX2_floatsLoweredAt_6 : decode cX2_floatsLoweredAt 6 = .ok (.getfield 9, 3) := by decide +kernel
theorem dX2_floatsLoweredAt_9 : decode cX2_floatsLoweredAt 9 = .ok (.if_icmp .ge 21, 3) := by decide +kernel
theorem dX2_floatsLoweredAt_12 : decode cX2_floatsLoweredAt 12 = .ok (.aload_n 0, 1) := by decide +kernel
theorem dX2_floatsLoweredAt_13 : decode cX2_floatsLoweredAt 13 = .ok (.iload_n 3, 1) := by decide +kernel
theorem dX2_floatsLoweredAt_14 : decode cX2_floatsLoweredAt 14 = .ok (.iload_n 1, 1) := by decide +kernel
theorem dX2_floatsLoweredAt_15 : decode cX2_floatsLoweredAt 15 = .ok (.invokevirtual 82, 3) := by decide +kernel
theorem dX2_floatsLoweredAt_18 : decode cX2_floatsLoweredAt 18 = .ok (.ifCond .eq 6, 3) := by decide +kernel
theorem dX2_floatsLoweredAt_21 : decode cX2_floatsLoweredAt 21 = .ok (.iinc 2 1, 3) := by decide +kernel
theorem dX2_floatsLoweredAt_24 : decode cX2_floatsLoweredAt 24 = .ok (.iinc 3 1, 3) := by decide +kernel
theorem dX2_floatsLoweredAt_27 : decode cX2_floatsLoweredAt 27 = .ok (.goto (-23), 3) := by decide +kernel
theorem dX2_floatsLoweredAt_30 : decode cX2_floatsLoweredAt 30 = .ok (.iload_n 2, 1) := by decide +kernel
theorem dX2_floatsLoweredAt_31 : decode cX2_floatsLoweredAt 31 = .ok (.ireturn, 1) := by decide +kernel
set_option maxRecDepth 20000 in
theorem ggX2_loweredFloats_X2_bridgesThatLower : GoodIn wsX2_loweredFloats wsX2_bridgesThatLower := goodIn_r _ [6, 7, 8, 9, 10, 5, 11, 12, 13, 14, 15, 16, 17, 18, 19, 20, 21, 22, 23, 24, 25, 26, 27, 28, 29] (by decide +kernel) (by decide +kernel)
set_option maxRecDepth 20000 in
theorem gX2_loweredFloats_X2_bridgesThatLower : GoodIn wsX2_loweredFloats (wsV RX2 58 RX2 yX2_bridgesThatLower wsX2_bridgesThatLower) := goodIn_app (goodIn_of _ (by decide +kernel)) ggX2_loweredFloats_X2_bridgesThatLower
theorem dX2_loweredFloats_0 : decode cX2_loweredFloats 0 = .ok (.iconst 0, 1) := by decide +kernel
theorem dX2_loweredFloats_1 : decode cX2_loweredFloats 1 = .ok (.istore_n 1, 1) := by decide +kernel
theorem dX2_loweredFloats_2 : decode cX2_loweredFloats 2 = .ok (.iconst 0, 1) := by decide +kernel
theorem dX2_loweredFloats_3 : decode cX2_loweredFloats 3 = .ok (.istore_n 2, 1) := by decide +kernel
theorem dX2_loweredFloats_4 : decode cX2_loweredFloats 4 = .ok (.iload_n 2, 1) := by decide +kernel
theorem dX2_loweredFloats_5 : decode cX2_loweredFloats 5 = .ok (.aload_n 0, 1) := by decide +kernel
theorem dX2_loweredFloats_6 : decode cX2_loweredFloats 6 = .ok (.getfield 9, 3) := by decide +kernel
theorem dX2_loweredFloats_9 : decode cX2_loweredFloats 9 = .ok (.if_icmp .ge 20, 3) := by decide +kernel
theorem dX2_loweredFloats_12 : decode cX2_loweredFloats 12 = .ok (.aload_n 0, 1) := by decide +kernel
theorem dX2_loweredFloats_13 : decode cX2_loweredFloats 13 = .ok (.iload_n 2, 1) := by decide +kernel
theorem dX2_loweredFloats_14 : decode cX2_loweredFloats 14 = .ok (.invokevirtual 58, 3) := by decide +kernel
theorem dX2_loweredFloats_17 : decode cX2_loweredFloats 17 = .ok (.ifCond .le 6, 3) := by decide +kernel
theorem dX2_loweredFloats_20 : decode cX2_loweredFloats 20 = .ok (.iinc 1 1, 3) := by decide +kernel
theorem dX2_loweredFloats_23 : decode cX2_loweredFloats 23 = .ok (.iinc 2 1, 3) := by decide +kernel
theorem dX2_loweredFloats_26 : decode cX2_loweredFloats 26 = .ok (.goto (-22), 3) := by decide +kernel
theorem dX2_loweredFloats_29 : decode cX2_loweredFloats 29 = .ok (.iload_n 1, 1) := by decide +kernel
theorem dX2_loweredFloats_30 : decode cX2_loweredFloats 30 = .ok (.ireturn, 1) := by decide +kernel
set_option maxRecDepth 20000 in
theorem ggX2_travel_X2_countedHeight : GoodIn wsX2_travel wsX2_countedHeight := goodIn_r _ [15, 16, 17, 18, 19, 20, 21, 22, 23, 24, 25, 26, 27, 28] (by decide +kernel) (by decide +kernel)
set_option maxRecDepth 20000 in
theorem gX2_travel_X2_countedHeight : GoodIn wsX2_travel (wsV RX2 54 RX2 yX2_countedHeight wsX2_countedHeight) := goodIn_app (goodIn_of _ (by decide +kernel)) ggX2_travel_X2_countedHeight
theorem dX2_travel_0 : decode cX2_travel 0 = .ok (.iconst 0, 1) := by decide +kernel
theorem dX2_travel_1 : decode cX2_travel 1 = .ok (.istore_n 2, 1) := by decide +kernel
theorem dX2_travel_2 : decode cX2_travel 2 = .ok (.iload_n 2, 1) := by decide +kernel
theorem dX2_travel_3 : decode cX2_travel 3 = .ok (.iload_n 1, 1) := by decide +kernel
theorem dX2_travel_4 : decode cX2_travel 4 = .ok (.if_icmp .gt 164, 3) := by decide +kernel
theorem dX2_travel_7 : decode cX2_travel 7 = .ok (.aload_n 0, 1) := by decide +kernel
theorem dX2_travel_8 : decode cX2_travel 8 = .ok (.iload_n 2, 1) := by decide +kernel
theorem dX2_travel_9 : decode cX2_travel 9 = .ok (.invokevirtual 54, 3) := by decide +kernel
theorem dX2_travel_12 : decode cX2_travel 12 = .ok (.istore_n 3, 1) := by decide +kernel
theorem dX2_travel_13 : decode cX2_travel 13 = .ok (.iload_n 2, 1) := by decide +kernel
theorem dX2_travel_14 : decode cX2_travel 14 = .ok (.aload_n 0, 1) := by decide +kernel
theorem dX2_travel_15 : decode cX2_travel 15 = .ok (.getfield 38, 3) := by decide +kernel
theorem dX2_travel_18 : decode cX2_travel 18 = .ok (.iconst 1, 1) := by decide +kernel
theorem dX2_travel_19 : decode cX2_travel 19 = .ok (.iaload, 1) := by decide +kernel
theorem dX2_travel_20 : decode cX2_travel 20 = .ok (.imul, 1) := by decide +kernel
theorem dX2_travel_21 : decode cX2_travel 21 = .ok (.istore 4, 2) := by decide +kernel
theorem dX2_travel_23 : decode cX2_travel 23 = .ok (.iconst 0, 1) := by decide +kernel
theorem dX2_travel_24 : decode cX2_travel 24 = .ok (.istore 5, 2) := by decide +kernel
theorem dX2_travel_26 : decode cX2_travel 26 = .ok (.iconst 0, 1) := by decide +kernel
theorem dX2_travel_27 : decode cX2_travel 27 = .ok (.istore 6, 2) := by decide +kernel
theorem dX2_travel_29 : decode cX2_travel 29 = .ok (.iload 6, 2) := by decide +kernel
theorem dX2_travel_31 : decode cX2_travel 31 = .ok (.aload_n 0, 1) := by decide +kernel
theorem dX2_travel_32 : decode cX2_travel 32 = .ok (.getfield 29, 3) := by decide +kernel
theorem dX2_travel_35 : decode cX2_travel 35 = .ok (.if_icmp .gt 127, 3) := by decide +kernel
theorem dX2_travel_38 : decode cX2_travel 38 = .ok (.iload 6, 2) := by decide +kernel
theorem dX2_travel_40 : decode cX2_travel 40 = .ok (.aload_n 0, 1) := by decide +kernel
theorem dX2_travel_41 : decode cX2_travel 41 = .ok (.getfield 29, 3) := by decide +kernel
theorem dX2_travel_44 : decode cX2_travel 44 = .ok (.if_icmp .ge 13, 3) := by decide +kernel
theorem dX2_travel_47 : decode cX2_travel 47 = .ok (.aload_n 0, 1) := by decide +kernel
theorem dX2_travel_48 : decode cX2_travel 48 = .ok (.getfield 32, 3) := by decide +kernel
theorem dX2_travel_51 : decode cX2_travel 51 = .ok (.iload 6, 2) := by decide +kernel
theorem dX2_travel_53 : decode cX2_travel 53 = .ok (.iaload, 1) := by decide +kernel
theorem dX2_travel_54 : decode cX2_travel 54 = .ok (.goto 5, 3) := by decide +kernel
theorem dX2_travel_57 : decode cX2_travel 57 = .ok (.bipush 60, 2) := by decide +kernel
theorem dX2_travel_59 : decode cX2_travel 59 = .ok (.istore 7, 2) := by decide +kernel
theorem dX2_travel_61 : decode cX2_travel 61 = .ok (.iload 4, 2) := by decide +kernel
theorem dX2_travel_63 : decode cX2_travel 63 = .ok (.iload 7, 2) := by decide +kernel
theorem dX2_travel_65 : decode cX2_travel 65 = .ok (.iload 5, 2) := by decide +kernel
theorem dX2_travel_67 : decode cX2_travel 67 = .ok (.isub, 1) := by decide +kernel
theorem dX2_travel_68 : decode cX2_travel 68 = .ok (.aload_n 0, 1) := by decide +kernel
theorem dX2_travel_69 : decode cX2_travel 69 = .ok (.getfield 38, 3) := by decide +kernel
theorem dX2_travel_72 : decode cX2_travel 72 = .ok (.iconst 2, 1) := by decide +kernel
theorem dX2_travel_73 : decode cX2_travel 73 = .ok (.iaload, 1) := by decide +kernel
theorem dX2_travel_74 : decode cX2_travel 74 = .ok (.imul, 1) := by decide +kernel
theorem dX2_travel_75 : decode cX2_travel 75 = .ok (.iadd, 1) := by decide +kernel
theorem dX2_travel_76 : decode cX2_travel 76 = .ok (.istore 4, 2) := by decide +kernel
theorem dX2_travel_78 : decode cX2_travel 78 = .ok (.iload_n 2, 1) := by decide +kernel
theorem dX2_travel_79 : decode cX2_travel 79 = .ok (.ifCond .le 24, 3) := by decide +kernel
theorem dX2_travel_82 : decode cX2_travel 82 = .ok (.iload 4, 2) := by decide +kernel
theorem dX2_travel_84 : decode cX2_travel 84 = .ok (.aload_n 0, 1) := by decide +kernel
theorem dX2_travel_85 : decode cX2_travel 85 = .ok (.getfield 44, 3) := by decide +kernel
theorem dX2_travel_88 : decode cX2_travel 88 = .ok (.iload 6, 2) := by decide +kernel
theorem dX2_travel_90 : decode cX2_travel 90 = .ok (.iaload, 1) := by decide +kernel
theorem dX2_travel_91 : decode cX2_travel 91 = .ok (.aload_n 0, 1) := by decide +kernel
theorem dX2_travel_92 : decode cX2_travel 92 = .ok (.getfield 38, 3) := by decide +kernel
theorem dX2_travel_95 : decode cX2_travel 95 = .ok (.iconst 1, 1) := by decide +kernel
theorem dX2_travel_96 : decode cX2_travel 96 = .ok (.iaload, 1) := by decide +kernel
theorem dX2_travel_97 : decode cX2_travel 97 = .ok (.iadd, 1) := by decide +kernel
theorem dX2_travel_98 : decode cX2_travel 98 = .ok (.invokestatic 64, 3) := by decide +kernel
theorem dX2_travel_101 : decode cX2_travel 101 = .ok (.istore 4, 2) := by decide +kernel
theorem dX2_travel_103 : decode cX2_travel 103 = .ok (.aload_n 0, 1) := by decide +kernel
theorem dX2_travel_104 : decode cX2_travel 104 = .ok (.getfield 41, 3) := by decide +kernel
theorem dX2_travel_107 : decode cX2_travel 107 = .ok (.iload 6, 2) := by decide +kernel
theorem dX2_travel_109 : decode cX2_travel 109 = .ok (.iload 4, 2) := by decide +kernel
theorem dX2_travel_111 : decode cX2_travel 111 = .ok (.iastore, 1) := by decide +kernel
theorem dX2_travel_112 : decode cX2_travel 112 = .ok (.iload 6, 2) := by decide +kernel
theorem dX2_travel_114 : decode cX2_travel 114 = .ok (.aload_n 0, 1) := by decide +kernel
theorem dX2_travel_115 : decode cX2_travel 115 = .ok (.getfield 29, 3) := by decide +kernel
theorem dX2_travel_118 : decode cX2_travel 118 = .ok (.if_icmp .ge 25, 3) := by decide +kernel
theorem dX2_travel_121 : decode cX2_travel 121 = .ok (.iload_n 3, 1) := by decide +kernel
theorem dX2_travel_122 : decode cX2_travel 122 = .ok (.aload_n 0, 1) := by decide +kernel
theorem dX2_travel_123 : decode cX2_travel 123 = .ok (.getfield 35, 3) := by decide +kernel
theorem dX2_travel_126 : decode cX2_travel 126 = .ok (.iload 6, 2) := by decide +kernel
theorem dX2_travel_128 : decode cX2_travel 128 = .ok (.iaload, 1) := by decide +kernel
theorem dX2_travel_129 : decode cX2_travel 129 = .ok (.if_icmp .le 14, 3) := by decide +kernel
theorem dX2_travel_132 : decode cX2_travel 132 = .ok (.iload 4, 2) := by decide +kernel
theorem dX2_travel_134 : decode cX2_travel 134 = .ok (.aload_n 0, 1) := by decide +kernel
theorem dX2_travel_135 : decode cX2_travel 135 = .ok (.getfield 38, 3) := by decide +kernel
theorem dX2_travel_138 : decode cX2_travel 138 = .ok (.iconst 3, 1) := by decide +kernel
theorem dX2_travel_139 : decode cX2_travel 139 = .ok (.iaload, 1) := by decide +kernel
theorem dX2_travel_140 : decode cX2_travel 140 = .ok (.iadd, 1) := by decide +kernel
theorem dX2_travel_141 : decode cX2_travel 141 = .ok (.istore 4, 2) := by decide +kernel
theorem dX2_travel_143 : decode cX2_travel 143 = .ok (.aload_n 0, 1) := by decide +kernel
theorem dX2_travel_144 : decode cX2_travel 144 = .ok (.getfield 44, 3) := by decide +kernel
theorem dX2_travel_147 : decode cX2_travel 147 = .ok (.iload 6, 2) := by decide +kernel
theorem dX2_travel_149 : decode cX2_travel 149 = .ok (.iload 4, 2) := by decide +kernel
theorem dX2_travel_151 : decode cX2_travel 151 = .ok (.iastore, 1) := by decide +kernel
theorem dX2_travel_152 : decode cX2_travel 152 = .ok (.iload 7, 2) := by decide +kernel
theorem dX2_travel_154 : decode cX2_travel 154 = .ok (.istore 5, 2) := by decide +kernel
theorem dX2_travel_156 : decode cX2_travel 156 = .ok (.iinc 6 1, 3) := by decide +kernel
theorem dX2_travel_159 : decode cX2_travel 159 = .ok (.goto (-130), 3) := by decide +kernel
theorem dX2_travel_162 : decode cX2_travel 162 = .ok (.iinc 2 1, 3) := by decide +kernel
theorem dX2_travel_165 : decode cX2_travel 165 = .ok (.goto (-163), 3) := by decide +kernel
theorem dX2_travel_168 : decode cX2_travel 168 = .ok (.return_, 1) := by decide +kernel
set_option maxRecDepth 20000 in
theorem ggX2_end_X2_travel : GoodIn wsX2_end wsX2_travel := goodIn_r _ [8, 9, 3, 10, 11, 12, 13, 14, 15, 2, 16, 17, 18, 19, 7, 20, 21, 22, 23, 24, 25, 26, 27, 28, 29, 30, 31, 32, 33] (by decide +kernel) (by decide +kernel)
set_option maxRecDepth 20000 in
theorem gX2_end_X2_travel : GoodIn wsX2_end (wsV RX2 86 RX2 yX2_travel wsX2_travel) := goodIn_app (goodIn_of _ (by decide +kernel)) ggX2_end_X2_travel
theorem dX2_end_0 : decode cX2_end 0 = .ok (.aload_n 0, 1) := by decide +kernel
theorem dX2_end_1 : decode cX2_end 1 = .ok (.getfield 9, 3) := by decide +kernel
theorem dX2_end_4 : decode cX2_end 4 = .ok (.ifCond .gt 5, 3) := by decide +kernel
theorem dX2_end_7 : decode cX2_end 7 = .ok (.iconst 0, 1) := by decide +kernel
theorem dX2_end_8 : decode cX2_end 8 = .ok (.ireturn, 1) := by decide +kernel
theorem dX2_end_9 : decode cX2_end 9 = .ok (.aload_n 0, 1) := by decide +kernel
theorem dX2_end_10 : decode cX2_end 10 = .ok (.aload_n 0, 1) := by decide +kernel
theorem dX2_end_11 : decode cX2_end 11 = .ok (.getfield 9, 3) := by decide +kernel
theorem dX2_end_14 : decode cX2_end 14 = .ok (.iconst 1, 1) := by decide +kernel
theorem dX2_end_15 : decode cX2_end 15 = .ok (.isub, 1) := by decide +kernel
theorem dX2_end_16 : decode cX2_end 16 = .ok (.invokevirtual 86, 3) := by decide +kernel
theorem dX2_end_19 : decode cX2_end 19 = .ok (.aload_n 0, 1) := by decide +kernel
theorem dX2_end_20 : decode cX2_end 20 = .ok (.getfield 41, 3) := by decide +kernel
theorem dX2_end_23 : decode cX2_end 23 = .ok (.aload_n 0, 1) := by decide +kernel
theorem dX2_end_24 : decode cX2_end 24 = .ok (.getfield 29, 3) := by decide +kernel
theorem dX2_end_27 : decode cX2_end 27 = .ok (.iaload, 1) := by decide +kernel
theorem dX2_end_28 : decode cX2_end 28 = .ok (.ireturn, 1) := by decide +kernel
set_option maxRecDepth 20000 in
theorem ggX2_waiting_X2_end : GoodIn wsX2_waiting wsX2_end := goodIn_r _ [7, 1, 8, 9, 10, 11, 12, 6, 13, 2, 14, 15, 16, 17, 18, 19, 20, 21, 22, 23, 24, 25, 26, 27, 28, 29, 30, 31, 32, 33, 34, 35, 36, 37] (by decide +kernel) (by decide +kernel)
set_option maxRecDepth 20000 in
theorem gX2_waiting_X2_end : GoodIn wsX2_waiting (wsV RX2 90 RX2 yX2_end wsX2_end) := goodIn_app (goodIn_of _ (by decide +kernel)) ggX2_waiting_X2_end
theorem dX2_waiting_0 : decode cX2_waiting 0 = .ok (.aload_n 0, 1) := by decide +kernel
theorem dX2_waiting_1 : decode cX2_waiting 1 = .ok (.getfield 9, 3) := by decide +kernel
theorem dX2_waiting_4 : decode cX2_waiting 4 = .ok (.ifCond .gt 5, 3) := by decide +kernel
theorem dX2_waiting_7 : decode cX2_waiting 7 = .ok (.iconst 0, 1) := by decide +kernel
theorem dX2_waiting_8 : decode cX2_waiting 8 = .ok (.ireturn, 1) := by decide +kernel
theorem dX2_waiting_9 : decode cX2_waiting 9 = .ok (.aload_n 0, 1) := by decide +kernel
theorem dX2_waiting_10 : decode cX2_waiting 10 = .ok (.invokevirtual 90, 3) := by decide +kernel
theorem dX2_waiting_13 : decode cX2_waiting 13 = .ok (.aload_n 0, 1) := by decide +kernel
theorem dX2_waiting_14 : decode cX2_waiting 14 = .ok (.getfield 9, 3) := by decide +kernel
theorem dX2_waiting_17 : decode cX2_waiting 17 = .ok (.iconst 1, 1) := by decide +kernel
theorem dX2_waiting_18 : decode cX2_waiting 18 = .ok (.isub, 1) := by decide +kernel
theorem dX2_waiting_19 : decode cX2_waiting 19 = .ok (.aload_n 0, 1) := by decide +kernel
theorem dX2_waiting_20 : decode cX2_waiting 20 = .ok (.getfield 38, 3) := by decide +kernel
theorem dX2_waiting_23 : decode cX2_waiting 23 = .ok (.iconst 1, 1) := by decide +kernel
theorem dX2_waiting_24 : decode cX2_waiting 24 = .ok (.iaload, 1) := by decide +kernel
theorem dX2_waiting_25 : decode cX2_waiting 25 = .ok (.imul, 1) := by decide +kernel
theorem dX2_waiting_26 : decode cX2_waiting 26 = .ok (.isub, 1) := by decide +kernel
theorem dX2_waiting_27 : decode cX2_waiting 27 = .ok (.bipush 60, 2) := by decide +kernel
theorem dX2_waiting_29 : decode cX2_waiting 29 = .ok (.aload_n 0, 1) := by decide +kernel
theorem dX2_waiting_30 : decode cX2_waiting 30 = .ok (.getfield 38, 3) := by decide +kernel
theorem dX2_waiting_33 : decode cX2_waiting 33 = .ok (.iconst 2, 1) := by decide +kernel
theorem dX2_waiting_34 : decode cX2_waiting 34 = .ok (.iaload, 1) := by decide +kernel
theorem dX2_waiting_35 : decode cX2_waiting 35 = .ok (.imul, 1) := by decide +kernel
theorem dX2_waiting_36 : decode cX2_waiting 36 = .ok (.isub, 1) := by decide +kernel
theorem dX2_waiting_37 : decode cX2_waiting 37 = .ok (.ireturn, 1) := by decide +kernel
theorem dX3_init_0 : decode cX3_init 0 = .ok (.aload_n 0, 1) := by decide +kernel
theorem dX3_init_1 : decode cX3_init 1 = .ok (.invokespecial 3, 3) := by decide +kernel
theorem dX3_init_4 : decode cX3_init 4 = .ok (.aload_n 0, 1) := by decide +kernel
theorem dX3_init_5 : decode cX3_init 5 = .ok (.iconst 0, 1) := by decide +kernel
theorem dX3_init_6 : decode cX3_init 6 = .ok (.putfield 9, 3) := by decide +kernel
theorem dX3_init_9 : decode cX3_init 9 = .ok (.aload_n 0, 1) := by decide +kernel
theorem dX3_init_10 : decode cX3_init 10 = .ok (.iconst 0, 1) := by decide +kernel
theorem dX3_init_11 : decode cX3_init 11 = .ok (.putfield 15, 3) := by decide +kernel
theorem dX3_init_14 : decode cX3_init 14 = .ok (.aload_n 0, 1) := by decide +kernel
theorem dX3_init_15 : decode cX3_init 15 = .ok (.iconst 0, 1) := by decide +kernel
theorem dX3_init_16 : decode cX3_init 16 = .ok (.putfield 18, 3) := by decide +kernel
theorem dX3_init_19 : decode cX3_init 19 = .ok (.aload_n 0, 1) := by decide +kernel
theorem dX3_init_20 : decode cX3_init 20 = .ok (.iconst 0, 1) := by decide +kernel
theorem dX3_init_21 : decode cX3_init 21 = .ok (.putfield 21, 3) := by decide +kernel
theorem dX3_init_24 : decode cX3_init 24 = .ok (.return_, 1) := by decide +kernel
theorem dX3_start_0 : decode cX3_start 0 = .ok (.aload_n 0, 1) := by decide +kernel
theorem dX3_start_1 : decode cX3_start 1 = .ok (.iconst 0, 1) := by decide +kernel
theorem dX3_start_2 : decode cX3_start 2 = .ok (.putfield 21, 3) := by decide +kernel
theorem dX3_start_5 : decode cX3_start 5 = .ok (.return_, 1) := by decide +kernel
theorem dX3_isAfterPart_0 : decode cX3_isAfterPart 0 = .ok (.aload_n 0, 1) := by decide +kernel
theorem dX3_isAfterPart_1 : decode cX3_isAfterPart 1 = .ok (.getfield 21, 3) := by decide +kernel
theorem dX3_isAfterPart_4 : decode cX3_isAfterPart 4 = .ok (.iconst 3, 1) := by decide +kernel
theorem dX3_isAfterPart_5 : decode cX3_isAfterPart 5 = .ok (.if_icmp .eq 11, 3) := by decide +kernel
theorem dX3_isAfterPart_8 : decode cX3_isAfterPart 8 = .ok (.aload_n 0, 1) := by decide +kernel
theorem dX3_isAfterPart_9 : decode cX3_isAfterPart 9 = .ok (.getfield 21, 3) := by decide +kernel
theorem dX3_isAfterPart_12 : decode cX3_isAfterPart 12 = .ok (.iconst 5, 1) := by decide +kernel
theorem dX3_isAfterPart_13 : decode cX3_isAfterPart 13 = .ok (.if_icmp .ne 7, 3) := by decide +kernel
theorem dX3_isAfterPart_16 : decode cX3_isAfterPart 16 = .ok (.iconst 1, 1) := by decide +kernel
theorem dX3_isAfterPart_17 : decode cX3_isAfterPart 17 = .ok (.goto 4, 3) := by decide +kernel
theorem dX3_isAfterPart_20 : decode cX3_isAfterPart 20 = .ok (.iconst 0, 1) := by decide +kernel
theorem dX3_isAfterPart_21 : decode cX3_isAfterPart 21 = .ok (.ireturn, 1) := by decide +kernel
set_option maxRecDepth 20000 in
theorem ggX3_accepts_X3_acceptsKind : GoodIn wsX3_accepts wsX3_acceptsKind := goodIn_r _ [7, 2, 8, 9, 1, 10, 11, 6, 12, 25, 26, 27, 28] (by decide +kernel) (by decide +kernel)
set_option maxRecDepth 20000 in
theorem gX3_accepts_X3_acceptsKind : GoodIn wsX3_accepts (wsV RX3 24 RX3 yX3_acceptsKind wsX3_acceptsKind) := goodIn_app (goodIn_of _ (by decide +kernel)) ggX3_accepts_X3_acceptsKind
set_option maxRecDepth 20000 in
theorem ggX3_accepts_X3_acceptsDigit : GoodIn wsX3_accepts wsX3_acceptsDigit := goodIn_r _ [16, 8, 1, 25, 26, 27, 28] (by decide +kernel) (by decide +kernel)
set_option maxRecDepth 20000 in
theorem gX3_accepts_X3_acceptsDigit : GoodIn wsX3_accepts (wsV RX3 28 RX3 yX3_acceptsDigit wsX3_acceptsDigit) := goodIn_app (goodIn_of _ (by decide +kernel)) ggX3_accepts_X3_acceptsDigit
set_option maxRecDepth 20000 in
theorem ggX3_accepts_X3_acceptsNextPart : GoodIn wsX3_accepts wsX3_acceptsNextPart := goodIn_r _ [20, 1, 25, 26, 27, 28] (by decide +kernel) (by decide +kernel)
set_option maxRecDepth 20000 in
theorem gX3_accepts_X3_acceptsNextPart : GoodIn wsX3_accepts (wsV RX3 32 RX3 yX3_acceptsNextPart wsX3_acceptsNextPart) := goodIn_app (goodIn_of _ (by decide +kernel)) ggX3_accepts_X3_acceptsNextPart
set_option maxRecDepth 20000 in
theorem ggX3_accepts_X3_acceptsShied : GoodIn wsX3_accepts wsX3_acceptsShied := goodIn_r _ [24, 9, 1, 10, 11, 6, 12, 25, 26, 27, 28] (by decide +kernel) (by decide +kernel)
set_option maxRecDepth 20000 in
theorem gX3_accepts_X3_acceptsShied : GoodIn wsX3_accepts (wsV RX3 35 RX3 yX3_acceptsShied wsX3_acceptsShied) := goodIn_app (goodIn_of _ (by decide +kernel)) ggX3_accepts_X3_acceptsShied
theorem dX3_accepts_0 : decode cX3_accepts 0 = .ok (.aload_n 0, 1) := by decide +kernel
theorem dX3_accepts_1 : decode cX3_accepts 1 = .ok (.getfield 21, 3) := by decide +kernel
theorem dX3_accepts_4 : decode cX3_accepts 4 = .ok (.tableswitch 91 0 4 #[36, 42, 50, 58, 85], 36) := by decide +kernel
theorem dX3_accepts_40 : decode cX3_accepts 40 = .ok (.aload_n 0, 1) := by decide +kernel
theorem dX3_accepts_41 : decode cX3_accepts 41 = .ok (.iload_n 1, 1) := by decide +kernel
theorem dX3_accepts_42 : decode cX3_accepts 42 = .ok (.invokevirtual 24, 3) := by decide +kernel
theorem dX3_accepts_45 : decode cX3_accepts 45 = .ok (.ireturn, 1) := by decide +kernel
theorem dX3_accepts_46 : decode cX3_accepts 46 = .ok (.aload_n 0, 1) := by decide +kernel
theorem dX3_accepts_47 : decode cX3_accepts 47 = .ok (.iload_n 1, 1) := by decide +kernel
theorem dX3_accepts_48 : decode cX3_accepts 48 = .ok (.iconst 1, 1) := by decide +kernel
theorem dX3_accepts_49 : decode cX3_accepts 49 = .ok (.iconst 2, 1) := by decide +kernel
theorem dX3_accepts_50 : decode cX3_accepts 50 = .ok (.invokevirtual 28, 3) := by decide +kernel
theorem dX3_accepts_53 : decode cX3_accepts 53 = .ok (.ireturn, 1) := by decide +kernel
theorem dX3_accepts_54 : decode cX3_accepts 54 = .ok (.aload_n 0, 1) := by decide +kernel
theorem dX3_accepts_55 : decode cX3_accepts 55 = .ok (.iload_n 1, 1) := by decide +kernel
theorem dX3_accepts_56 : decode cX3_accepts 56 = .ok (.iconst 0, 1) := by decide +kernel
theorem dX3_accepts_57 : decode cX3_accepts 57 = .ok (.iconst 3, 1) := by decide +kernel
theorem dX3_accepts_58 : decode cX3_accepts 58 = .ok (.invokevirtual 28, 3) := by decide +kernel
theorem dX3_accepts_61 : decode cX3_accepts 61 = .ok (.ireturn, 1) := by decide +kernel
theorem dX3_accepts_62 : decode cX3_accepts 62 = .ok (.iload_n 1, 1) := by decide +kernel
theorem dX3_accepts_63 : decode cX3_accepts 63 = .ok (.bipush 33, 2) := by decide +kernel
theorem dX3_accepts_65 : decode cX3_accepts 65 = .ok (.if_icmp .ne 18, 3) := by decide +kernel
theorem dX3_accepts_68 : decode cX3_accepts 68 = .ok (.aload_n 0, 1) := by decide +kernel
theorem dX3_accepts_69 : decode cX3_accepts 69 = .ok (.getfield 9, 3) := by decide +kernel
theorem dX3_accepts_72 : decode cX3_accepts 72 = .ok (.iconst 1, 1) := by decide +kernel
theorem dX3_accepts_73 : decode cX3_accepts 73 = .ok (.if_icmp .ne 10, 3) := by decide +kernel
theorem dX3_accepts_76 : decode cX3_accepts 76 = .ok (.aload_n 0, 1) := by decide +kernel
theorem dX3_accepts_77 : decode cX3_accepts 77 = .ok (.iconst 4, 1) := by decide +kernel
theorem dX3_accepts_78 : decode cX3_accepts 78 = .ok (.putfield 21, 3) := by decide +kernel
theorem dX3_accepts_81 : decode cX3_accepts 81 = .ok (.iconst 1, 1) := by decide +kernel
theorem dX3_accepts_82 : decode cX3_accepts 82 = .ok (.ireturn, 1) := by decide +kernel
theorem dX3_accepts_83 : decode cX3_accepts 83 = .ok (.aload_n 0, 1) := by decide +kernel
theorem dX3_accepts_84 : decode cX3_accepts 84 = .ok (.iload_n 1, 1) := by decide +kernel
theorem dX3_accepts_85 : decode cX3_accepts 85 = .ok (.invokevirtual 32, 3) := by decide +kernel
theorem dX3_accepts_88 : decode cX3_accepts 88 = .ok (.ireturn, 1) := by decide +kernel
theorem dX3_accepts_89 : decode cX3_accepts 89 = .ok (.aload_n 0, 1) := by decide +kernel
theorem dX3_accepts_90 : decode cX3_accepts 90 = .ok (.iload_n 1, 1) := by decide +kernel
theorem dX3_accepts_91 : decode cX3_accepts 91 = .ok (.invokevirtual 35, 3) := by decide +kernel
theorem dX3_accepts_94 : decode cX3_accepts 94 = .ok (.ireturn, 1) := by decide +kernel
theorem dX3_accepts_95 : decode cX3_accepts 95 = .ok (.aload_n 0, 1) := by decide +kernel
theorem dX3_accepts_96 : decode cX3_accepts 96 = .ok (.iload_n 1, 1) := by decide +kernel
theorem dX3_accepts_97 : decode cX3_accepts 97 = .ok (.invokevirtual 32, 3) := by decide +kernel
theorem dX3_accepts_100 : decode cX3_accepts 100 = .ok (.ifCond .ne 11, 3) := by decide +kernel
theorem dX3_accepts_103 : decode cX3_accepts 103 = .ok (.aload_n 0, 1) := by decide +kernel
theorem dX3_accepts_104 : decode cX3_accepts 104 = .ok (.iload_n 1, 1) := by decide +kernel
theorem dX3_accepts_105 : decode cX3_accepts 105 = .ok (.invokevirtual 35, 3) := by decide +kernel
theorem dX3_accepts_108 : decode cX3_accepts 108 = .ok (.ifCond .eq 7, 3) := by decide +kernel
theorem dX3_accepts_111 : decode cX3_accepts 111 = .ok (.iconst 1, 1) := by decide +kernel
theorem dX3_accepts_112 : decode cX3_accepts 112 = .ok (.goto 4, 3) := by decide +kernel
theorem dX3_accepts_115 : decode cX3_accepts 115 = .ok (.iconst 0, 1) := by decide +kernel
theorem dX3_accepts_116 : decode cX3_accepts 116 = .ok (.ireturn, 1) := by decide +kernel
set_option maxRecDepth 20000 in
theorem ggX3_acceptsKind_X3_kindOf : GoodIn wsX3_acceptsKind wsX3_kindOf := goodIn_r _ [8] (by decide +kernel) (by decide +kernel)
set_option maxRecDepth 20000 in
theorem gX3_acceptsKind_X3_kindOf : GoodIn wsX3_acceptsKind (va_wsS RX3 38 yX3_kindOf wsX3_kindOf) := goodIn_app (goodIn_of _ (by decide +kernel)) ggX3_acceptsKind_X3_kindOf
theorem dX3_acceptsKind_0 : decode cX3_acceptsKind 0 = .ok (.iload_n 1, 1) := by decide +kernel
theorem dX3_acceptsKind_1 : decode cX3_acceptsKind 1 = .ok (.invokestatic 38, 3) := by decide +kernel
theorem dX3_acceptsKind_4 : decode cX3_acceptsKind 4 = .ok (.istore_n 2, 1) := by decide +kernel
theorem dX3_acceptsKind_5 : decode cX3_acceptsKind 5 = .ok (.iload_n 2, 1) := by decide +kernel
theorem dX3_acceptsKind_6 : decode cX3_acceptsKind 6 = .ok (.iconst (-1), 1) := by decide +kernel
theorem dX3_acceptsKind_7 : decode cX3_acceptsKind 7 = .ok (.if_icmp .ne 5, 3) := by decide +kernel
theorem dX3_acceptsKind_10 : decode cX3_acceptsKind 10 = .ok (.iconst 0, 1) := by decide +kernel
theorem dX3_acceptsKind_11 : decode cX3_acceptsKind 11 = .ok (.ireturn, 1) := by decide +kernel
theorem dX3_acceptsKind_12 : decode cX3_acceptsKind 12 = .ok (.aload_n 0, 1) := by decide +kernel
theorem dX3_acceptsKind_13 : decode cX3_acceptsKind 13 = .ok (.iload_n 2, 1) := by decide +kernel
theorem dX3_acceptsKind_14 : decode cX3_acceptsKind 14 = .ok (.putfield 9, 3) := by decide +kernel
theorem dX3_acceptsKind_17 : decode cX3_acceptsKind 17 = .ok (.aload_n 0, 1) := by decide +kernel
theorem dX3_acceptsKind_18 : decode cX3_acceptsKind 18 = .ok (.iconst 0, 1) := by decide +kernel
theorem dX3_acceptsKind_19 : decode cX3_acceptsKind 19 = .ok (.putfield 15, 3) := by decide +kernel
theorem dX3_acceptsKind_22 : decode cX3_acceptsKind 22 = .ok (.aload_n 0, 1) := by decide +kernel
theorem dX3_acceptsKind_23 : decode cX3_acceptsKind 23 = .ok (.iconst 0, 1) := by decide +kernel
theorem dX3_acceptsKind_24 : decode cX3_acceptsKind 24 = .ok (.putfield 18, 3) := by decide +kernel
theorem dX3_acceptsKind_27 : decode cX3_acceptsKind 27 = .ok (.aload_n 0, 1) := by decide +kernel
theorem dX3_acceptsKind_28 : decode cX3_acceptsKind 28 = .ok (.iconst 1, 1) := by decide +kernel
theorem dX3_acceptsKind_29 : decode cX3_acceptsKind 29 = .ok (.putfield 21, 3) := by decide +kernel
theorem dX3_acceptsKind_32 : decode cX3_acceptsKind 32 = .ok (.iconst 1, 1) := by decide +kernel
theorem dX3_acceptsKind_33 : decode cX3_acceptsKind 33 = .ok (.ireturn, 1) := by decide +kernel
theorem dX3_acceptsDigit_0 : decode cX3_acceptsDigit 0 = .ok (.iload_n 1, 1) := by decide +kernel
theorem dX3_acceptsDigit_1 : decode cX3_acceptsDigit 1 = .ok (.bipush 48, 2) := by decide +kernel
theorem dX3_acceptsDigit_3 : decode cX3_acceptsDigit 3 = .ok (.isub, 1) := by decide +kernel
theorem dX3_acceptsDigit_4 : decode cX3_acceptsDigit 4 = .ok (.istore 4, 2) := by decide +kernel
theorem dX3_acceptsDigit_6 : decode cX3_acceptsDigit 6 = .ok (.iload 4, 2) := by decide +kernel
theorem dX3_acceptsDigit_8 : decode cX3_acceptsDigit 8 = .ok (.iload_n 2, 1) := by decide +kernel
theorem dX3_acceptsDigit_9 : decode cX3_acceptsDigit 9 = .ok (.if_icmp .lt 10, 3) := by decide +kernel
theorem dX3_acceptsDigit_12 : decode cX3_acceptsDigit 12 = .ok (.iload 4, 2) := by decide +kernel
theorem dX3_acceptsDigit_14 : decode cX3_acceptsDigit 14 = .ok (.bipush 9, 2) := by decide +kernel
theorem dX3_acceptsDigit_16 : decode cX3_acceptsDigit 16 = .ok (.if_icmp .le 5, 3) := by decide +kernel
theorem dX3_acceptsDigit_19 : decode cX3_acceptsDigit 19 = .ok (.iconst 0, 1) := by decide +kernel
theorem dX3_acceptsDigit_20 : decode cX3_acceptsDigit 20 = .ok (.ireturn, 1) := by decide +kernel
theorem dX3_acceptsDigit_21 : decode cX3_acceptsDigit 21 = .ok (.aload_n 0, 1) := by decide +kernel
theorem dX3_acceptsDigit_22 : decode cX3_acceptsDigit 22 = .ok (.aload_n 0, 1) := by decide +kernel
theorem dX3_acceptsDigit_23 : decode cX3_acceptsDigit 23 = .ok (.getfield 15, 3) := by decide +kernel
theorem dX3_acceptsDigit_26 : decode cX3_acceptsDigit 26 = .ok (.bipush 10, 2) := by decide +kernel
theorem dX3_acceptsDigit_28 : decode cX3_acceptsDigit 28 = .ok (.imul, 1) := by decide +kernel
theorem dX3_acceptsDigit_29 : decode cX3_acceptsDigit 29 = .ok (.iload 4, 2) := by decide +kernel
theorem dX3_acceptsDigit_31 : decode cX3_acceptsDigit 31 = .ok (.iadd, 1) := by decide +kernel
theorem dX3_acceptsDigit_32 : decode cX3_acceptsDigit 32 = .ok (.putfield 15, 3) := by decide +kernel
theorem dX3_acceptsDigit_35 : decode cX3_acceptsDigit 35 = .ok (.aload_n 0, 1) := by decide +kernel
theorem dX3_acceptsDigit_36 : decode cX3_acceptsDigit 36 = .ok (.iload_n 3, 1) := by decide +kernel
theorem dX3_acceptsDigit_37 : decode cX3_acceptsDigit 37 = .ok (.putfield 21, 3) := by decide +kernel
theorem dX3_acceptsDigit_40 : decode cX3_acceptsDigit 40 = .ok (.iconst 1, 1) := by decide +kernel
theorem dX3_acceptsDigit_41 : decode cX3_acceptsDigit 41 = .ok (.ireturn, 1) := by decide +kernel
theorem dX3_acceptsNextPart_0 : decode cX3_acceptsNextPart 0 = .ok (.iload_n 1, 1) := by decide +kernel
theorem dX3_acceptsNextPart_1 : decode cX3_acceptsNextPart 1 = .ok (.bipush 59, 2) := by decide +kernel
theorem dX3_acceptsNextPart_3 : decode cX3_acceptsNextPart 3 = .ok (.if_icmp .eq 5, 3) := by decide +kernel
theorem dX3_acceptsNextPart_6 : decode cX3_acceptsNextPart 6 = .ok (.iconst 0, 1) := by decide +kernel
theorem dX3_acceptsNextPart_7 : decode cX3_acceptsNextPart 7 = .ok (.ireturn, 1) := by decide +kernel
theorem dX3_acceptsNextPart_8 : decode cX3_acceptsNextPart 8 = .ok (.aload_n 0, 1) := by decide +kernel
theorem dX3_acceptsNextPart_9 : decode cX3_acceptsNextPart 9 = .ok (.iconst 0, 1) := by decide +kernel
theorem dX3_acceptsNextPart_10 : decode cX3_acceptsNextPart 10 = .ok (.putfield 21, 3) := by decide +kernel
theorem dX3_acceptsNextPart_13 : decode cX3_acceptsNextPart 13 = .ok (.iconst 1, 1) := by decide +kernel
theorem dX3_acceptsNextPart_14 : decode cX3_acceptsNextPart 14 = .ok (.ireturn, 1) := by decide +kernel
set_option maxRecDepth 20000 in
theorem ggX3_acceptsShied_X3_kindOf : GoodIn wsX3_acceptsShied wsX3_kindOf := goodIn_r _ [6] (by decide +kernel) (by decide +kernel)
set_option maxRecDepth 20000 in
theorem gX3_acceptsShied_X3_kindOf : GoodIn wsX3_acceptsShied (va_wsS RX3 38 yX3_kindOf wsX3_kindOf) := goodIn_app (goodIn_of _ (by decide +kernel)) ggX3_acceptsShied_X3_kindOf
theorem dX3_acceptsShied_0 : decode cX3_acceptsShied 0 = .ok (.iload_n 1, 1) := by decide +kernel
theorem dX3_acceptsShied_1 : decode cX3_acceptsShied 1 = .ok (.invokestatic 38, 3) := by decide +kernel
theorem dX3_acceptsShied_4 : decode cX3_acceptsShied 4 = .ok (.istore_n 2, 1) := by decide +kernel
theorem dX3_acceptsShied_5 : decode cX3_acceptsShied 5 = .ok (.iload_n 2, 1) := by decide +kernel
theorem dX3_acceptsShied_6 : decode cX3_acceptsShied 6 = .ok (.iconst (-1), 1) := by decide +kernel
theorem dX3_acceptsShied_7 : decode cX3_acceptsShied 7 = .ok (.if_icmp .eq 12, 3) := by decide +kernel
theorem dX3_acceptsShied_10 : decode cX3_acceptsShied 10 = .ok (.aload_n 0, 1) := by decide +kernel
theorem dX3_acceptsShied_11 : decode cX3_acceptsShied 11 = .ok (.getfield 18, 3) := by decide +kernel
theorem dX3_acceptsShied_14 : decode cX3_acceptsShied 14 = .ok (.iload_n 2, 1) := by decide +kernel
theorem dX3_acceptsShied_15 : decode cX3_acceptsShied 15 = .ok (.ishr, 1) := by decide +kernel
theorem dX3_acceptsShied_16 : decode cX3_acceptsShied 16 = .ok (.ifCond .eq 5, 3) := by decide +kernel
theorem dX3_acceptsShied_19 : decode cX3_acceptsShied 19 = .ok (.iconst 0, 1) := by decide +kernel
theorem dX3_acceptsShied_20 : decode cX3_acceptsShied 20 = .ok (.ireturn, 1) := by decide +kernel
theorem dX3_acceptsShied_21 : decode cX3_acceptsShied 21 = .ok (.aload_n 0, 1) := by decide +kernel
theorem dX3_acceptsShied_22 : decode cX3_acceptsShied 22 = .ok (.dup, 1) := by decide +kernel
theorem dX3_acceptsShied_23 : decode cX3_acceptsShied 23 = .ok (.getfield 18, 3) := by decide +kernel
theorem dX3_acceptsShied_26 : decode cX3_acceptsShied 26 = .ok (.iconst 1, 1) := by decide +kernel
theorem dX3_acceptsShied_27 : decode cX3_acceptsShied 27 = .ok (.iload_n 2, 1) := by decide +kernel
theorem dX3_acceptsShied_28 : decode cX3_acceptsShied 28 = .ok (.ishl, 1) := by decide +kernel
theorem dX3_acceptsShied_29 : decode cX3_acceptsShied 29 = .ok (.ior, 1) := by decide +kernel
theorem dX3_acceptsShied_30 : decode cX3_acceptsShied 30 = .ok (.putfield 18, 3) := by decide +kernel
theorem dX3_acceptsShied_33 : decode cX3_acceptsShied 33 = .ok (.aload_n 0, 1) := by decide +kernel
theorem dX3_acceptsShied_34 : decode cX3_acceptsShied 34 = .ok (.iconst 5, 1) := by decide +kernel
theorem dX3_acceptsShied_35 : decode cX3_acceptsShied 35 = .ok (.putfield 21, 3) := by decide +kernel
theorem dX3_acceptsShied_38 : decode cX3_acceptsShied 38 = .ok (.iconst 1, 1) := by decide +kernel
theorem dX3_acceptsShied_39 : decode cX3_acceptsShied 39 = .ok (.ireturn, 1) := by decide +kernel
theorem dX3_kindOf_0 : decode cX3_kindOf 0 = .ok (.iload_n 0, 1) := by decide +kernel
theorem dX3_kindOf_1 : decode cX3_kindOf 1 = .ok (.tableswitch 51 98 104 #[47, 43, 51, 51, 51, 49, 45], 43) := by decide +kernel
theorem dX3_kindOf_44 : decode cX3_kindOf 44 = .ok (.iconst 0, 1) := by decide +kernel
theorem dX3_kindOf_45 : decode cX3_kindOf 45 = .ok (.ireturn, 1) := by decide +kernel
theorem dX3_kindOf_46 : decode cX3_kindOf 46 = .ok (.iconst 1, 1) := by decide +kernel
theorem dX3_kindOf_47 : decode cX3_kindOf 47 = .ok (.ireturn, 1) := by decide +kernel
theorem dX3_kindOf_48 : decode cX3_kindOf 48 = .ok (.iconst 2, 1) := by decide +kernel
theorem dX3_kindOf_49 : decode cX3_kindOf 49 = .ok (.ireturn, 1) := by decide +kernel
theorem dX3_kindOf_50 : decode cX3_kindOf 50 = .ok (.iconst 3, 1) := by decide +kernel
theorem dX3_kindOf_51 : decode cX3_kindOf 51 = .ok (.ireturn, 1) := by decide +kernel
theorem dX3_kindOf_52 : decode cX3_kindOf 52 = .ok (.iconst (-1), 1) := by decide +kernel
theorem dX3_kindOf_53 : decode cX3_kindOf 53 = .ok (.ireturn, 1) := by decide +kernel
end
section
/-! My library: states as functions, guarded steps, loops, contracts that speak of one pure answer. -/
abbrev kG : Type := va_G × ClassId × ClassId × ClassId
abbrev St1 : Type := Nat → Nat → Int32
abbrev St2 : Type := Nat → Nat → Nat → Int32
abbrev kT (g : kG) : List (ClassId × FieldType) := [(g.2.1, .int), (g.2.2.1, .boolean), (g.2.2.2, .object "FloatOrder$Parade")]
/-- an index that lies in its row, else no answer -/
def kk_ck {α : Type} (i : Int32) (n : Nat) (x : Option α) : Option α := if i < 0 ∨ n ≤ i.toNatClampNeg then none else x
/-- a truth value -/
def kk_cb {α : Type} (i : Int32) (x : Option α) : Option α := if i = 0 ∨ i = 1 then x else none
/-- a divisor -/
def kk_cd {α : Type} (i : Int32) (x : Option α) : Option α := if i = 0 then none else x
def kk_nm {α β : Type} (e : α) (f : α → β) : β := f e
/-- a loop: its body goes on with a state, or ends with an answer -/
def kk_it {σ ρ : Type} (body : σ → Option (σ ⊕ ρ)) : Nat → σ → Option ρ
  | 0, _ => none
  | k + 1, s => (body s).bind fun x => match x with
    | .inl s' => kk_it body k s'
    | .inr r => some r
theorem kk_ck_el {α : Type} {i : Int32} {n : Nat} {x : Option α} {r : α} (h : kk_ck i n x = some r) : vp_in i n ∧ x = some r := by
  unfold kk_ck at h
  split at h
  · cases h
  · exact ⟨by assumption, h⟩
theorem kk_cb_el {α : Type} {i : Int32} {x : Option α} {r : α} (h : kk_cb i x = some r) : (i = 0 ∨ i = 1) ∧ x = some r := by
  unfold kk_cb at h
  split at h
  · exact ⟨by assumption, h⟩
  · cases h
theorem kk_cd_el {α : Type} {i : Int32} {x : Option α} {r : α} (h : kk_cd i x = some r) : ¬ i = 0 ∧ x = some r := by
  unfold kk_cd at h
  split at h
  · cases h
  · exact ⟨by assumption, h⟩
theorem kk_nm_el {α β : Type} {e : α} {f : α → β} {r : β} (h : kk_nm e f = r) : ∃ x, x = e ∧ f x = r := ⟨e, rfl, h⟩
theorem kk_bd_el {α β : Type} {o : Option α} {f : α → Option β} {r : β} (h : o.bind f = some r) : ∃ x, o = some x ∧ f x = some r := by
  cases o with
  | none => cases h
  | some x => exact ⟨x, rfl, h⟩
theorem kk_it_W {σ ρ : Type} {body : σ → Option (σ ⊕ ρ)} (Wh : σ → Prop) (r : ρ) (hs : ∀ s x, body s = some x → (∀ s', x = .inl s' → Wh s') → (∀ r', x = .inr r' → r' = r) → Wh s) : ∀ (k : Nat) (s : σ), kk_it body k s = some r → Wh s := by
  intro k
  induction k with
  | zero => intro s h; cases h
  | succ k ih =>
    intro s h
    rw [kk_it] at h
    obtain ⟨x, hx, h⟩ := kk_bd_el h
    refine hs s x hx (fun s' e => ?_) (fun r' e => ?_)
    · subst e
      exact ih s' h
    · subst e
      exact Option.some.inj h
theorem kk_in (k n : Nat) (hk : k < n) (hn : n < 2 ^ 31) {i : Int32} (hi : i = nI k) : vp_in i n := by
  rw [hi]; exact vp_in_nI hk hn
/-! worlds: a part of a world put back at its places -/
def kk_set : va_W → List Nat → va_W → va_W
  | w, i :: is, q :: qs => kk_set (w.set i q) is qs
  | w, _, _ => w
theorem kk_set_fst : ∀ (is : List Nat) (w v : va_W), is.map (fun i => (w.map Prod.fst)[i]?) = (v.map Prod.fst).map some → (kk_set w is v).map Prod.fst = w.map Prod.fst := by
  intro is
  induction is with
  | nil => intro w v _; cases v <;> rfl
  | cons i is ih =>
    intro w v h
    cases v with
    | nil => rfl
    | cons q qs =>
      simp only [List.map_cons, List.cons.injEq] at h
      obtain ⟨h1, h2⟩ := h
      have e : (w.set i q).map Prod.fst = w.map Prod.fst := by
        rw [List.map_set]
        have hi : i < (w.map Prod.fst).length := (List.getElem?_eq_some_iff.mp h1).1
        have hg : (w.map Prod.fst)[i] = q.1 := (List.getElem?_eq_some_iff.mp h1).2
        rw [← hg]
        exact List.set_getElem_self hi
      show (kk_set (w.set i q) is qs).map Prod.fst = _
      rw [ih (w.set i q) qs (by rw [e]; exact h2), e]
theorem kk_set_out : ∀ (is : List Nat) (w v : va_W) (j : Nat), j ∉ is → (kk_set w is v)[j]? = w[j]? := by
  intro is
  induction is with
  | nil => intro w v j _; cases v <;> rfl
  | cons i is ih =>
    intro w v j hj
    cases v with
    | nil => rfl
    | cons q qs =>
      show (kk_set (w.set i q) is qs)[j]? = _
      rw [ih _ _ _ (fun h => hj (List.mem_cons_of_mem _ h)), List.getElem?_set_ne (fun h => hj (by rw [h]; exact List.mem_cons_self))]
theorem kk_set_in : ∀ (is : List Nat) (w v : va_W), va_nd is = true → is.length = v.length → (∀ i ∈ is, i < w.length) → ∀ (t i : Nat), is[t]? = some i → (kk_set w is v)[i]? = v[t]? := by
  intro is
  induction is with
  | nil => intro w v _ _ _ t i h; simp at h
  | cons j is ih =>
    intro w v hn hl hw t i ht
    cases v with
    | nil => simp at hl
    | cons q qs =>
      simp only [va_nd, Bool.and_eq_true, decide_eq_true_eq] at hn
      show (kk_set (w.set j q) is qs)[i]? = _
      cases t with
      | zero =>
        simp only [List.getElem?_cons_zero, Option.some.injEq] at ht
        subst ht
        rw [kk_set_out _ _ _ _ hn.1, List.getElem?_cons_zero, List.getElem?_set_self (hw _ List.mem_cons_self)]
      | succ t =>
        rw [List.getElem?_cons_succ] at ht ⊢
        refine ih _ _ hn.2 (by simpa using hl) (fun k hk => ?_) t i ht
        rw [List.length_set]
        exact hw k (List.mem_cons_of_mem _ hk)
theorem kk_D_fst {A : Nat → Prop} {w v : va_W} (h : v.map Prod.fst = w.map Prod.fst) (hD : va_D A w) : va_D A v := by
  have key : ∀ (k : Nat) (q : Nat × va_E), v[k]? = some q → ∃ q0, w[k]? = some q0 ∧ q0.1 = q.1 := by
    intro k q hk
    have h1 : (v.map Prod.fst)[k]? = some q.1 := by rw [List.getElem?_map, hk]; rfl
    rw [h, List.getElem?_map] at h1
    cases hw : w[k]? with
    | none => rw [hw] at h1; cases h1
    | some q0 => rw [hw] at h1; exact ⟨q0, rfl, Option.some.inj h1⟩
  refine ⟨fun i j x y hi hj hxy => ?_, fun k q hk => ?_⟩
  · obtain ⟨x0, h1, h2⟩ := key i x hi
    obtain ⟨y0, h3, h4⟩ := key j y hj
    exact hD.1 i j x0 y0 h1 h3 (h2.trans (hxy.trans h4.symm))
  · obtain ⟨q0, h1, h2⟩ := key k q hk
    rw [← h2]
    exact hD.2 k q0 h1
theorem kk_join {A0 : Nat → Prop} {D : va_G} {cl : List vw_C} {ws wc w1 : va_W} {H H1 : Heap} (hP : va_P D cl ws H) (hD : va_D A0 ws) (is : List Nat) (hC : is.map (fun i => ws[i]?) = wc.map some) (hn : va_nd is = true) (hadr : w1.map Prod.fst = wc.map Prod.fst)
    (hk : ∀ q : Nat, q < H.size → ¬ va_A wc H.size q → H1[q]? = H[q]?) (hP1 : va_P D cl w1 H1) : va_P D cl (kk_set ws is w1) H1 ∧ va_D A0 (kk_set ws is w1) := by
  have hlen : is.length = w1.length := by
    have h1 := congrArg List.length hC
    have h2 := congrArg List.length hadr
    simp only [List.length_map] at h1 h2
    omega
  have hin : ∀ i ∈ is, i < ws.length := by
    intro i hi
    have h1 : ws[i]? ∈ is.map (fun i => ws[i]?) := List.mem_map.mpr ⟨i, hi, rfl⟩
    rw [hC] at h1
    obtain ⟨q, -, hq⟩ := List.mem_map.mp h1
    exact (List.getElem?_eq_some_iff.mp hq.symm).1
  have hf : is.map (fun i => (ws.map Prod.fst)[i]?) = (w1.map Prod.fst).map some := by
    rw [hadr]
    have h1 := congrArg (List.map (Option.map Prod.fst)) hC
    simp only [List.map_map] at h1 ⊢
    refine Eq.trans (List.map_congr_left fun i _ => ?_) (h1.trans (List.map_congr_left fun q _ => ?_))
    · simp
    · simp
  refine ⟨fun k q hq => ?_, kk_D_fst (kk_set_fst is ws w1 hf) hD⟩
  by_cases hki : k ∈ is
  · obtain ⟨t, ht⟩ := List.getElem?_of_mem hki
    rw [kk_set_in is ws w1 hn hlen hin t k ht] at hq
    exact hP1 t q hq
  · rw [kk_set_out is ws w1 k hki] at hq
    have hl := (hP k q hq).lt
    refine (hP k q hq).kept (hk q.1 hl (fun h => ?_))
    rcases h with ⟨t, e, h⟩ | h
    · have h1 : (is.map (fun i => ws[i]?))[t]? = some (some (q.1, e)) := by rw [hC, List.getElem?_map, h]; rfl
      rw [List.getElem?_map] at h1
      cases hi : is[t]? with
      | none => rw [hi] at h1; cases h1
      | some i =>
        rw [hi] at h1
        have h2 : ws[i]? = some (q.1, e) := Option.some.inj h1
        have hij := hD.1 k i q (q.1, e) hq h2 rfl
        exact hki (by rw [hij]; exact List.mem_of_getElem? hi)
    · omega
/-! contracts: from the world w the method answers r and leaves the world w' -/
def kPre (g : kG) (w : va_W) (av : List Value) (sz : Nat) : Array Value → State → Prop := va_Pc av (fun U => U.heap.size = sz ∧ va_P g.1 vwCl w U.heap ∧ va_K g.1 vwCl (kT g) U ∧ va_D (fun _ => True) w)
def kB (g : kG) (w : va_W) (A : Nat → Prop) : Unit → State → Prop := fun _ t => va_P g.1 vwCl w t.heap ∧ va_K g.1 vwCl (kT g) t ∧ va_D A w
def kQi (g : kG) (w : va_W) (r : Int32) (A : Nat → Prop) : Array Value → State → Outcome → State → Prop := va_Qi (fun r' (_ : Unit) => r' = r) (kB g w A) A
def kQl (g : kG) (w : va_W) (r : Int64) (A : Nat → Prop) : Array Value → State → Outcome → State → Prop := va_Ql (fun r' (_ : Unit) => r' = r) (kB g w A) A
def kQd (g : kG) (w : va_W) (r : UInt64) (A : Nat → Prop) : Array Value → State → Outcome → State → Prop := va_Qd (fun r' (_ : Unit) => r' = r) (kB g w A) A
def kQv (g : kG) (w : va_W) (A : Nat → Prop) : Array Value → State → Outcome → State → Prop := va_Qv (fun (_ : Unit) => True) (kB g w A) A
/-- Q: kQi g w' r, .. -/
def kSp (l : Launch) (g : kG) (y : MethodName) (ws : List Cond) (rm : Room) (av : List Value) (w : va_W) (Q : (Nat → Prop) → Array Value → State → Outcome → State → Prop) : Prop :=
  ∀ sz : Nat, Met l y ws rm (kPre g w av sz) (Q (va_A w sz)) 0 0 (va_A w sz)
theorem kPre_blind {g : kG} {w : va_W} {av : List Value} {sz : Nat} : FrameBlind (kPre g w av sz) := fun a U f mk q => by
  obtain ⟨q0, q1, qP, qK, qD⟩ := q
  exact ⟨q0, q1, qP, va_K.moved (u := U) (U := U.calling f mk a) (Vm.Alike.refl U.vm) qK, qD⟩
theorem kSp.of {l : Launch} {g : kG} {y : MethodName} {ws ws' : List Cond} {rm : Room} {av : List Value} {w : va_W} {Q : (Nat → Prop) → Array Value → State → Outcome → State → Prop} {cc : ByteArray} {maxL : Nat} {ret : Option FieldType}
    (hy : plainName y.cls = true) (hw : ws = Cond.code y cc maxL ret :: ws') (hlen : (lg_sl av).length ≤ maxL)
    (body : ∀ (p : Program) (e : Env) (s : State) (m : MethodId) (args : Array Value) (below : List Frame) (meth : Method) (c : Code) (ls : Array Slot) (A : Nat → Prop),
      CallFix p m c cc maxL s args ws y.cls → meth.sig.returnType = ret → meth.locks = false → (∀ q, s.heap.size ≤ q → A q) → va_K g.1 vwCl (kT g) s → lv_has ls maxL (lv_args 0 av) → va_P g.1 vwCl w s.heap → va_D A w → va_S A s.heap s.heap [] →
      W p l e rm s m args below meth c s.heap [] 0 0 (MQ below (Q A) args s 0 0 A) (F0 m 0 ls [])) : kSp l g y ws rm av w Q := by
  intro sz
  refine Met.ofW (cc := cc) (maxL := maxL) (ret := ret) hy hw ?_
  intro p e s m args below meth c s₁ B hml hv
  obtain ⟨rfl, hsz, hP, hK, hD0⟩ := hv
  subst hsz
  rw [lg_entry_eq]
  exact body p e s m _ below meth c _ _ ⟨B.exec, B.bytes, hml, findClass_of_methodNamed B.named, atoms_spec B.pre⟩ B.returns B.notSynchronized (fun q h => Or.inr h) hK (lv_entry av hlen) hP hD0.self va_S.rf
section KRows
variable {p : Program} {l : Launch} {e : Env} {R : Room} {s : State} {m : MethodId} {args : Array Value} {below : List Frame} {meth : Method} {c : Code} {H : Heap} {locs : List Loc} {Q : State → Prop}
variable {y : MethodName} {bytes cc : ByteArray} {maxL nL n index pc : Nat} {ret : Option FieldType} {ws : List Cond} {rm : Room} {Ts : List Cond} {own C : String} {b : Addr} {As rest st0 : List Value} {ls : Array Slot} {g : kG} {w wc w1 w' : va_W} {A : Nat → Prop}
theorem kk_ret_i {r r' : Int32} (S : CallFix p m c cc nL s args Ts own) (hr : meth.sig.returnType = some .int) (hlocks : meth.locks = false) (hK : va_K g.1 vwCl (kT g) s) (hP : va_P g.1 vwCl w H) (hD : va_D A w) (hS : va_S A s.heap H locs) (hdg : decode cc pc = .ok (.ireturn, 1)) (er : r' = r) :
    W p l e R s m args below meth c H locs 0 0 (MQ below (kQi g w r A) args s 0 0 A) (F0 m pc ls [.int r']) :=
  W.iret (hlocks := hlocks) S.1 S.2.1 hr (fun t ht hW => ⟨⟨r', (), rfl, er, by rw [ht]; exact hP, va_K.moved hW.alike hK, hD⟩, hS.F ht⟩) hS.2.2 hdg
theorem kk_nz {r : Int32} (h : r = 0 ∨ r = 1) : narrow .boolean (.int r) = .int r := by rcases h with rfl | rfl <;> rfl
theorem kk_ret_z {r r' : Int32} (S : CallFix p m c cc nL s args Ts own) (hr : meth.sig.returnType = some .boolean) (hlocks : meth.locks = false) (hK : va_K g.1 vwCl (kT g) s) (hP : va_P g.1 vwCl w H) (hD : va_D A w) (hS : va_S A s.heap H locs) (hdg : decode cc pc = .ok (.ireturn, 1)) (hz : r' = 0 ∨ r' = 1) (er : r' = r) :
    W p l e R s m args below meth c H locs 0 0 (MQ below (kQi g w r A) args s 0 0 A) (F0 m pc ls [.int r']) :=
  W.zret (hlocks := hlocks) S.1 S.2.1 hr (kk_nz hz) (fun t ht hW => ⟨⟨r', (), rfl, er, by rw [ht]; exact hP, va_K.moved hW.alike hK, hD⟩, hS.F ht⟩) hS.2.2 hdg
theorem kk_ret_v (S : CallFix p m c cc nL s args Ts own) (hr : meth.sig.returnType = none) (hlocks : meth.locks = false) (hK : va_K g.1 vwCl (kT g) s) (hP : va_P g.1 vwCl w H) (hD : va_D A w) (hS : va_S A s.heap H locs) (hdg : decode cc pc = .ok (.return_, 1)) :
    W p l e R s m args below meth c H locs 0 0 (MQ below (kQv g w A) args s 0 0 A) (F0 m pc ls []) :=
  W.vret (hlocks := hlocks) S.1 S.2.1 hr (fun t ht hW => ⟨⟨(), rfl, trivial, by rw [ht]; exact hP, va_K.moved hW.alike hK, hD⟩, hS.F ht⟩) hS.2.2 hdg
/-- behind any call -/
theorem kk_free (hD : va_D A w) (hS : va_S A s.heap H locs) (hA : ∀ q, s.heap.size ≤ q → A q) (is : List Nat) (hC : is.map (fun i => w[i]?) = wc.map some) : ∀ q, va_A wc H.size q → A q := va_free hD hS hA is hC
theorem kk_preV (hK : va_K g.1 vwCl (kT g) s) (hP : va_P g.1 vwCl w H) (hD : va_D A w) (is : List Nat) (hn : va_nd is = true) (hC : is.map (fun i => w[i]?) = wc.map some) {av : List Value} : PreS s H (kPre g wc av H.size) av := by
  refine ⟨kPre_blind, fun U hU hW => ⟨rfl, by rw [hU], ?_, va_K.moved hW.alike hK, (hD.sub is hn hC).weaken (fun _ _ _ _ => trivial)⟩⟩
  rw [hU]
  refine hP.sub is ?_
  have h1 : is.filterMap (fun i => w[i]?) = (is.map (fun i => w[i]?)).filterMap id := by rw [List.filterMap_map]; rfl
  rw [h1, hC, List.filterMap_map]
  show wc.filterMap some = wc
  exact List.filterMap_some
theorem kk_call_Vi {r : Int32} {q : vw_C} {fs : List Value} (q0 ci : Nat) (S : CallFix p m c cc nL s args Ts own) (hSp : kSp l g y ws rm (.ref b :: As) wc (kQi g w1 r)) (cw : CallW R s args own C index y bytes maxL ret ws rm 0 0 n)
    (hK : va_K g.1 vwCl (kT g) s) (hP : va_P g.1 vwCl w H) (hD : va_D A w) (hS : va_S A s.heap H locs) (hA : ∀ q, s.heap.size ≤ q → A q) (is : List Nat) (hC : is.map (fun i => w[i]?) = wc.map some) (hnd : va_nd is = true) (hadr : w1.map Prod.fst = wc.map Prod.fst) (hw : kk_set w is w1 = w')
    (hcl : vwCl[ci]? = some q) (he : w[q0]? = some (b, .inr (ci, fs))) (hCn : q.1 = C) (hst : st0 = As.reverse ++ .ref b :: rest) (hn : As.length = n) (hsz : ls.size = nL) (hroom : (rest.map fun v => v.category).sum ≤ 8) (hdg : decode cc pc = .ok (.invokevirtual index, 3))
    (kk : ∀ (H1 : Heap) (locs1 : List Loc), va_P g.1 vwCl w' H1 → va_D A w' → va_S A s.heap H1 locs1 → W p l e R s m args below meth c H1 locs1 0 0 Q (F0 m (pc + 3) ls (.int r :: rest))) : W p l e R s m args below meth c H locs 0 0 Q (F0 m pc ls st0) := by
  have hpre := kk_preV (wc := wc) (av := .ref b :: As) hK hP hD is hnd hC
  have hFc := kk_free hD hS hA is hC
  subst hCn
  refine va_calli (va_runV S (hSp H.size) cw ⟨hpre.1, va_recv hK hP hcl he, hpre.2⟩ rfl hn hsz hst (lv_room hroom) hdg ⟨Nat.zero_le _, Nat.zero_le _⟩) hS (fun q _ h => hFc q h) hFc (fun r1 u t H1 locs1 ht hvm hp hB hz1 hk1 hS1 => ?_)
  obtain ⟨hP1, -, -⟩ := hB
  rw [ht] at hP1
  obtain ⟨h1, h2⟩ := kk_join hP hD is hC hnd hadr hk1 hP1
  rw [hw] at h1 h2
  subst hp
  exact kk H1 locs1 h1 h2 hS1
theorem kk_call_Vv {q : vw_C} {fs : List Value} (q0 ci : Nat) (S : CallFix p m c cc nL s args Ts own) (hSp : kSp l g y ws rm (.ref b :: As) wc (kQv g w1)) (cw : CallW R s args own C index y bytes maxL ret ws rm 0 0 n)
    (hK : va_K g.1 vwCl (kT g) s) (hP : va_P g.1 vwCl w H) (hD : va_D A w) (hS : va_S A s.heap H locs) (hA : ∀ q, s.heap.size ≤ q → A q) (is : List Nat) (hC : is.map (fun i => w[i]?) = wc.map some) (hnd : va_nd is = true) (hadr : w1.map Prod.fst = wc.map Prod.fst) (hw : kk_set w is w1 = w')
    (hcl : vwCl[ci]? = some q) (he : w[q0]? = some (b, .inr (ci, fs))) (hCn : q.1 = C) (hst : st0 = As.reverse ++ .ref b :: rest) (hn : As.length = n) (hsz : ls.size = nL) (hroom : (rest.map fun v => v.category).sum ≤ 8) (hdg : decode cc pc = .ok (.invokevirtual index, 3))
    (kk : ∀ (H1 : Heap) (locs1 : List Loc), va_P g.1 vwCl w' H1 → va_D A w' → va_S A s.heap H1 locs1 → W p l e R s m args below meth c H1 locs1 0 0 Q (F0 m (pc + 3) ls rest)) : W p l e R s m args below meth c H locs 0 0 Q (F0 m pc ls st0) := by
  have hpre := kk_preV (wc := wc) (av := .ref b :: As) hK hP hD is hnd hC
  have hFc := kk_free hD hS hA is hC
  subst hCn
  refine va_callv (va_runV S (hSp H.size) cw ⟨hpre.1, va_recv hK hP hcl he, hpre.2⟩ rfl hn hsz hst (lv_room hroom) hdg ⟨Nat.zero_le _, Nat.zero_le _⟩) hS (fun q _ h => hFc q h) hFc (fun u t H1 locs1 ht hvm hp hB hz1 hk1 hS1 => ?_)
  obtain ⟨hP1, -, -⟩ := hB
  rw [ht] at hP1
  obtain ⟨h1, h2⟩ := kk_join hP hD is hC hnd hadr hk1 hP1
  rw [hw] at h1 h2
  exact kk H1 locs1 h1 h2 hS1
theorem kk_call_Vl {r : Int64} {q : vw_C} {fs : List Value} (q0 ci : Nat) (S : CallFix p m c cc nL s args Ts own) (hSp : kSp l g y ws rm (.ref b :: As) wc (kQl g w1 r)) (cw : CallW R s args own C index y bytes maxL ret ws rm 0 0 n)
    (hK : va_K g.1 vwCl (kT g) s) (hP : va_P g.1 vwCl w H) (hD : va_D A w) (hS : va_S A s.heap H locs) (hA : ∀ q, s.heap.size ≤ q → A q) (is : List Nat) (hC : is.map (fun i => w[i]?) = wc.map some) (hnd : va_nd is = true) (hadr : w1.map Prod.fst = wc.map Prod.fst) (hw : kk_set w is w1 = w')
    (hcl : vwCl[ci]? = some q) (he : w[q0]? = some (b, .inr (ci, fs))) (hCn : q.1 = C) (hst : st0 = As.reverse ++ .ref b :: rest) (hn : As.length = n) (hsz : ls.size = nL) (hroom : (rest.map fun v => v.category).sum ≤ 8) (hdg : decode cc pc = .ok (.invokevirtual index, 3))
    (kk : ∀ (H1 : Heap) (locs1 : List Loc), va_P g.1 vwCl w' H1 → va_D A w' → va_S A s.heap H1 locs1 → W p l e R s m args below meth c H1 locs1 0 0 Q (F0 m (pc + 3) ls (.long r :: rest))) : W p l e R s m args below meth c H locs 0 0 Q (F0 m pc ls st0) := by
  have hpre := kk_preV (wc := wc) (av := .ref b :: As) hK hP hD is hnd hC
  have hFc := kk_free hD hS hA is hC
  subst hCn
  refine va_calll (va_runV S (hSp H.size) cw ⟨hpre.1, va_recv hK hP hcl he, hpre.2⟩ rfl hn hsz hst (lv_room hroom) hdg ⟨Nat.zero_le _, Nat.zero_le _⟩) hS (fun q _ h => hFc q h) hFc (fun r1 u t H1 locs1 ht hvm hp hB hz1 hk1 hS1 => ?_)
  obtain ⟨hP1, -, -⟩ := hB
  rw [ht] at hP1
  obtain ⟨h1, h2⟩ := kk_join hP hD is hC hnd hadr hk1 hP1
  rw [hw] at h1 h2
  subst hp
  exact kk H1 locs1 h1 h2 hS1
theorem kk_call_Vd {r : UInt64} {q : vw_C} {fs : List Value} (q0 ci : Nat) (S : CallFix p m c cc nL s args Ts own) (hSp : kSp l g y ws rm (.ref b :: As) wc (kQd g w1 r)) (cw : CallW R s args own C index y bytes maxL ret ws rm 0 0 n)
    (hK : va_K g.1 vwCl (kT g) s) (hP : va_P g.1 vwCl w H) (hD : va_D A w) (hS : va_S A s.heap H locs) (hA : ∀ q, s.heap.size ≤ q → A q) (is : List Nat) (hC : is.map (fun i => w[i]?) = wc.map some) (hnd : va_nd is = true) (hadr : w1.map Prod.fst = wc.map Prod.fst) (hw : kk_set w is w1 = w')
    (hcl : vwCl[ci]? = some q) (he : w[q0]? = some (b, .inr (ci, fs))) (hCn : q.1 = C) (hst : st0 = As.reverse ++ .ref b :: rest) (hn : As.length = n) (hsz : ls.size = nL) (hroom : (rest.map fun v => v.category).sum ≤ 8) (hdg : decode cc pc = .ok (.invokevirtual index, 3))
    (kk : ∀ (H1 : Heap) (locs1 : List Loc), va_P g.1 vwCl w' H1 → va_D A w' → va_S A s.heap H1 locs1 → W p l e R s m args below meth c H1 locs1 0 0 Q (F0 m (pc + 3) ls (.double r :: rest))) : W p l e R s m args below meth c H locs 0 0 Q (F0 m pc ls st0) := by
  have hpre := kk_preV (wc := wc) (av := .ref b :: As) hK hP hD is hnd hC
  have hFc := kk_free hD hS hA is hC
  subst hCn
  refine va_calld (va_runV S (hSp H.size) cw ⟨hpre.1, va_recv hK hP hcl he, hpre.2⟩ rfl hn hsz hst (lv_room hroom) hdg ⟨Nat.zero_le _, Nat.zero_le _⟩) hS (fun q _ h => hFc q h) hFc (fun r1 u t H1 locs1 ht hvm hp hB hz1 hk1 hS1 => ?_)
  obtain ⟨hP1, -, -⟩ := hB
  rw [ht] at hP1
  obtain ⟨h1, h2⟩ := kk_join hP hD is hC hnd hadr hk1 hP1
  rw [hw] at h1 h2
  subst hp
  exact kk H1 locs1 h1 h2 hS1
theorem kk_call_Si {r : Int32} (S : CallFix p m c cc nL s args Ts own) (hSp : kSp l g y ws rm As wc (kQi g w1 r)) (cw : CallB R s args own index y bytes maxL ret ws rm 0 0 n ∧ (Cond.static y).before args s = true)
    (hK : va_K g.1 vwCl (kT g) s) (hP : va_P g.1 vwCl w H) (hD : va_D A w) (hS : va_S A s.heap H locs) (hA : ∀ q, s.heap.size ≤ q → A q) (is : List Nat) (hC : is.map (fun i => w[i]?) = wc.map some) (hnd : va_nd is = true) (hadr : w1.map Prod.fst = wc.map Prod.fst) (hw : kk_set w is w1 = w')
    (hst : st0 = As.reverse ++ rest) (hn : As.length = n) (hsz : ls.size = nL) (hroom : (rest.map fun v => v.category).sum ≤ 8) (hdg : decode cc pc = .ok (.invokestatic index, 3))
    (kk : ∀ (H1 : Heap) (locs1 : List Loc), va_P g.1 vwCl w' H1 → va_D A w' → va_S A s.heap H1 locs1 → W p l e R s m args below meth c H1 locs1 0 0 Q (F0 m (pc + 3) ls (.int r :: rest))) : W p l e R s m args below meth c H locs 0 0 Q (F0 m pc ls st0) := by
  have hpre := kk_preV (wc := wc) (av := As) hK hP hD is hnd hC
  have hFc := kk_free hD hS hA is hC
  refine va_calli (va_runS S (hSp H.size) cw hpre rfl hn hsz hst (lv_room hroom) hdg ⟨Nat.zero_le _, Nat.zero_le _⟩) hS (fun q _ h => hFc q h) hFc (fun r1 u t H1 locs1 ht hvm hp hB hz1 hk1 hS1 => ?_)
  obtain ⟨hP1, -, -⟩ := hB
  rw [ht] at hP1
  obtain ⟨h1, h2⟩ := kk_join hP hD is hC hnd hadr hk1 hP1
  rw [hw] at h1 h2
  subst hp
  exact kk H1 locs1 h1 h2 hS1
theorem kk_call_Sv (S : CallFix p m c cc nL s args Ts own) (hSp : kSp l g y ws rm As wc (kQv g w1)) (cw : CallB R s args own index y bytes maxL ret ws rm 0 0 n ∧ (Cond.static y).before args s = true)
    (hK : va_K g.1 vwCl (kT g) s) (hP : va_P g.1 vwCl w H) (hD : va_D A w) (hS : va_S A s.heap H locs) (hA : ∀ q, s.heap.size ≤ q → A q) (is : List Nat) (hC : is.map (fun i => w[i]?) = wc.map some) (hnd : va_nd is = true) (hadr : w1.map Prod.fst = wc.map Prod.fst) (hw : kk_set w is w1 = w')
    (hst : st0 = As.reverse ++ rest) (hn : As.length = n) (hsz : ls.size = nL) (hroom : (rest.map fun v => v.category).sum ≤ 8) (hdg : decode cc pc = .ok (.invokestatic index, 3))
    (kk : ∀ (H1 : Heap) (locs1 : List Loc), va_P g.1 vwCl w' H1 → va_D A w' → va_S A s.heap H1 locs1 → W p l e R s m args below meth c H1 locs1 0 0 Q (F0 m (pc + 3) ls rest)) : W p l e R s m args below meth c H locs 0 0 Q (F0 m pc ls st0) := by
  have hpre := kk_preV (wc := wc) (av := As) hK hP hD is hnd hC
  have hFc := kk_free hD hS hA is hC
  refine va_callv (va_runS S (hSp H.size) cw hpre rfl hn hsz hst (lv_room hroom) hdg ⟨Nat.zero_le _, Nat.zero_le _⟩) hS (fun q _ h => hFc q h) hFc (fun u t H1 locs1 ht hvm hp hB hz1 hk1 hS1 => ?_)
  obtain ⟨hP1, -, -⟩ := hB
  rw [ht] at hP1
  obtain ⟨h1, h2⟩ := kk_join hP hD is hC hnd hadr hk1 hP1
  rw [hw] at h1 h2
  exact kk H1 locs1 h1 h2 hS1
theorem kk_call_Sl {r : Int64} (S : CallFix p m c cc nL s args Ts own) (hSp : kSp l g y ws rm As wc (kQl g w1 r)) (cw : CallB R s args own index y bytes maxL ret ws rm 0 0 n ∧ (Cond.static y).before args s = true)
    (hK : va_K g.1 vwCl (kT g) s) (hP : va_P g.1 vwCl w H) (hD : va_D A w) (hS : va_S A s.heap H locs) (hA : ∀ q, s.heap.size ≤ q → A q) (is : List Nat) (hC : is.map (fun i => w[i]?) = wc.map some) (hnd : va_nd is = true) (hadr : w1.map Prod.fst = wc.map Prod.fst) (hw : kk_set w is w1 = w')
    (hst : st0 = As.reverse ++ rest) (hn : As.length = n) (hsz : ls.size = nL) (hroom : (rest.map fun v => v.category).sum ≤ 8) (hdg : decode cc pc = .ok (.invokestatic index, 3))
    (kk : ∀ (H1 : Heap) (locs1 : List Loc), va_P g.1 vwCl w' H1 → va_D A w' → va_S A s.heap H1 locs1 → W p l e R s m args below meth c H1 locs1 0 0 Q (F0 m (pc + 3) ls (.long r :: rest))) : W p l e R s m args below meth c H locs 0 0 Q (F0 m pc ls st0) := by
  have hpre := kk_preV (wc := wc) (av := As) hK hP hD is hnd hC
  have hFc := kk_free hD hS hA is hC
  refine va_calll (va_runS S (hSp H.size) cw hpre rfl hn hsz hst (lv_room hroom) hdg ⟨Nat.zero_le _, Nat.zero_le _⟩) hS (fun q _ h => hFc q h) hFc (fun r1 u t H1 locs1 ht hvm hp hB hz1 hk1 hS1 => ?_)
  obtain ⟨hP1, -, -⟩ := hB
  rw [ht] at hP1
  obtain ⟨h1, h2⟩ := kk_join hP hD is hC hnd hadr hk1 hP1
  rw [hw] at h1 h2
  subst hp
  exact kk H1 locs1 h1 h2 hS1
theorem kk_nmi {x y : Int32} (ex : x = y) (k : W p l e R s m args below meth c H locs 0 0 Q (F0 m pc ls (.int x :: rest))) : W p l e R s m args below meth c H locs 0 0 Q (F0 m pc ls (.int y :: rest)) := by subst ex; exact k
theorem kk_cut {w' : va_W} {nL pcJ : Nat} {lv : List (Nat × Value)} {st : List Value} {f : JFrame}
    (J : ∀ (H : Heap) (locs : List Loc) (ls : Array Slot), va_P g.1 vwCl w' H → va_D A w' → va_S A s.heap H locs → lv_has ls nL lv → W p l e R s m args below meth c H locs 0 0 Q (F0 m pcJ ls st))
    (k : (∀ (H : Heap) (locs : List Loc) (ls : Array Slot), va_P g.1 vwCl w' H → va_D A w' → va_S A s.heap H locs → lv_has ls nL lv → W p l e R s m args below meth c H locs 0 0 Q (F0 m pcJ ls st)) → W p l e R s m args below meth c H locs 0 0 Q f) : W p l e R s m args below meth c H locs 0 0 Q f := k J
theorem kk_cut0 {pcJ : Nat} {st : List Value} {ls : Array Slot} {f : JFrame} (J : W p l e R s m args below meth c H locs 0 0 Q (F0 m pcJ ls st))
    (k : W p l e R s m args below meth c H locs 0 0 Q (F0 m pcJ ls st) → W p l e R s m args below meth c H locs 0 0 Q f) : W p l e R s m args below meth c H locs 0 0 Q f := k J
theorem kk_loop {σ ρ : Type} {body : σ → Option (σ ⊕ ρ)} {k nL : Nat} {st0 : σ} {r : ρ} {ls : Array Slot} (wf : σ → va_W) (lvf : σ → List (Nat × Value)) (pcH : Nat) (hres : kk_it body k st0 = some r)
    (step : ∀ (st : σ) (x : σ ⊕ ρ), body st = some x → (∀ s', x = .inl s' → ∀ (H : Heap) (locs : List Loc) (ls : Array Slot), va_P g.1 vwCl (wf s') H → va_D A (wf s') → va_S A s.heap H locs → lv_has ls nL (lvf s') → W p l e R s m args below meth c H locs 0 0 Q (F0 m pcH ls [])) → (∀ r', x = .inr r' → r' = r) →
      ∀ (H : Heap) (locs : List Loc) (ls : Array Slot), va_P g.1 vwCl (wf st) H → va_D A (wf st) → va_S A s.heap H locs → lv_has ls nL (lvf st) → W p l e R s m args below meth c H locs 0 0 Q (F0 m pcH ls []))
    (hP : va_P g.1 vwCl (wf st0) H) (hD : va_D A (wf st0)) (hS : va_S A s.heap H locs) (hl : lv_has ls nL (lvf st0)) : W p l e R s m args below meth c H locs 0 0 Q (F0 m pcH ls []) :=
  kk_it_W (fun st => ∀ (H : Heap) (locs : List Loc) (ls : Array Slot), va_P g.1 vwCl (wf st) H → va_D A (wf st) → va_S A s.heap H locs → lv_has ls nL (lvf st) → W p l e R s m args below meth c H locs 0 0 Q (F0 m pcH ls [])) r step k st0 hres H locs ls hP hD hS hl
theorem kk_put {ref C : String} {T : u_T} {N ci : Nat} {a : Nat} (S : CallFix p m c cc nL s args Ts own) (hin : ∀ w ∈ u_ws C T N, w ∈ Ts) (ty0 : Nat → FieldType) (hty : ∀ k, k < N → parseFieldDescriptor (T k).2.2.1 = some (ty0 k)) (hnm : ∀ a, a < N → ∀ b, b < N → a ≠ b → (T a).2.1 ≠ (T b).2.1)
    (hK : va_K g.1 vwCl (kT g) s) (hP : va_P g.1 vwCl w H) (hD : va_D A w) (hS : va_S A s.heap H locs) (q0 : Nat) {fs : List Value} (he : w[q0]? = some (a, .inr (ci, fs))) (hc : vwCl[ci]? = some (C, T, N)) (k : Nat) (hk : k < N) (hlink : (Cond.fieldLink own index C (T k).2.1 (T k).2.2.1).before args s = true)
    (hfin : (T k).2.2.2 = false) {ty : FieldType} {v : Value} (hd : parseFieldDescriptor (T k).2.2.1 = some ty) (hn : narrow ty v = v) (hfit : fits ty v = true) (hl : k < fs.length) (hw : w.set q0 (a, .inr (ci, fs.set k v)) = w') (hdg : decode cc pc = .ok (.putfield index, 3)) (hO : (T k).1 = C)
    (kk : ∀ (H1 : Heap) (locs1 : List Loc), va_P g.1 vwCl w' H1 → va_D A w' → va_S A s.heap H1 locs1 → W p l e R s m args below meth c H1 locs1 0 0 Q (F0 m (pc + 3) ls rest)) : W p l e R s m args below meth c H locs 0 0 Q (F0 m pc ls (v :: .ref a :: rest)) := by
  subst hw
  exact va_put (ref := C) S.1 S.2.1 S.2.2.2.2 hin ty0 hty hnm S.2.2.2.1 hK hP hD hS q0 he hc k hk hlink (fun x h => by rw [hO] at h; exact h) hfin hd hn hfit hl hdg kk
theorem kk_iast {a n : Nat} {f : Nat → Int32} {i x : Int32} (S : CallFix p m c cc nL s args Ts own) (hK : va_K g.1 vwCl (kT g) s) (hP : va_P g.1 vwCl w H) (hD : va_D A w) (hS : va_S A s.heap H locs) (q0 : Nat) (ha : w[q0]? = some (a, .inl (g.2.1, n, .inl f))) (hin : vp_in i n)
    (hw : w.set q0 (a, .inl (g.2.1, n, .inl (upd f i.toNatClampNeg x))) = w') (hdg : decode cc pc = .ok (.iastore, 1))
    (kk : ∀ (H1 : Heap) (locs1 : List Loc), va_P g.1 vwCl w' H1 → va_D A w' → va_S A s.heap H1 locs1 → W p l e R s m args below meth c H1 locs1 0 0 Q (F0 m (pc + 1) ls rest)) : W p l e R s m args below meth c H locs 0 0 Q (F0 m pc ls (.int x :: .int i :: .ref a :: rest)) := by
  subst hw
  exact va_iast S.1 S.2.1 hK hP hD hS q0 0 ha rfl hin hdg kk
theorem kk_zast {a n : Nat} {f : Nat → Int32} {i x : Int32} (S : CallFix p m c cc nL s args Ts own) (hK : va_K g.1 vwCl (kT g) s) (hP : va_P g.1 vwCl w H) (hD : va_D A w) (hS : va_S A s.heap H locs) (q0 : Nat) (ha : w[q0]? = some (a, .inl (g.2.2.1, n, .inl f))) (hin : vp_in i n) (hz : x = 0 ∨ x = 1)
    (hw : w.set q0 (a, .inl (g.2.2.1, n, .inl (upd f i.toNatClampNeg x))) = w') (hdg : decode cc pc = .ok (.bastore, 1))
    (kk : ∀ (H1 : Heap) (locs1 : List Loc), va_P g.1 vwCl w' H1 → va_D A w' → va_S A s.heap H1 locs1 → W p l e R s m args below meth c H1 locs1 0 0 Q (F0 m (pc + 1) ls rest)) : W p l e R s m args below meth c H locs 0 0 Q (F0 m pc ls (.int x :: .int i :: .ref a :: rest)) := by
  subst hw
  have e : vp_nar .boolean x = x := by unfold vp_nar; rw [kk_nz hz]
  refine va_zast S.1 S.2.1 hK hP hD hS q0 1 ha rfl hin hdg ?_
  rw [e]
  exact kk
end KRows
end
section
/-! the pictures -/
abbrev w_P (g : kG) (a : Nat → Nat) (P : St1) : va_W := [(a 0, .inr (2, [.int (P 0 0), .ref (a 1), .ref (a 2), .ref (a 3), .ref (a 4), .int (P 5 0), .ref (a 6), .ref (a 7), .ref (a 8), .ref (a 9), .ref (a 10)])), (a 1, .inl (g.2.1, 12, .inl (P 1))), (a 2, .inl (g.2.1, 12, .inl (P 2))), (a 3, .inl (g.2.1, 12, .inl (P 3))), (a 4, .inl (g.2.2.1, 12, .inl (P 4))), (a 6, .inl (g.2.1, 4, .inl (P 6))), (a 7, .inl (g.2.1, 4, .inl (P 7))), (a 8, .inl (g.2.1, 4, .inl (P 8))), (a 9, .inl (g.2.1, 5, .inl (P 9))), (a 10, .inl (g.2.1, 5, .inl (P 10)))]
abbrev w_B (g : kG) (a : Nat → Nat) (B : St1) : va_W := [(a 0, .inr (0, [.int (B 0 0), .int (B 1 0)]))]
abbrev w_R (g : kG) (a : Nat → Nat) (R : St1) : va_W := [(a 0, .inr (3, [.int (R 0 0), .int (R 1 0), .int (R 2 0), .int (R 3 0)]))]
abbrev w_A (g : kG) (x k : Nat) (f : Nat → Int32) : va_W := [(x, .inl (g.2.1, k, .inl f))]
abbrev w_M (g : kG) (a : Nat → Nat) (M : St1) : va_W := [(a 0, .inr (5, [.ref (a 1), .ref (a 2), .ref (a 3), .int (M 3 0), .ref (a 5), .int (M 5 0), .int (M 6 0), .int (M 7 0), .int (M 8 0), .ref (a 10), .int (M 10 0), .ref (a 12)])), (a 1, .inl (g.2.1, 62, .inl (M 0))), (a 2, .inl (g.2.1, 62, .inl (M 1))), (a 3, .inl (g.2.1, 372, .inl (M 2))), (a 5, .inl (g.2.1, 60, .inl (M 4))), (a 10, .inl (g.2.1, 63, .inl (M 9))), (a 12, .inl (g.2.1, 60, .inl (M 11)))]
end
section

def fX2_swap (n : Nat) (P : St1) (v1 : Int32) (v2 : Int32) : Option (St1) :=
(kk_ck v1 12 (kk_ck v2 12 (kk_ck v1 12 (kk_nm (va_up P 1 (upd (P 1) v1.toNatClampNeg ((P 1) v2.toNatClampNeg))) fun P3 =>
(kk_ck v2 12 (kk_nm (va_up P3 1 (upd (P3 1) v2.toNatClampNeg ((P 1) v1.toNatClampNeg))) fun P5 =>
(kk_ck v1 12 (kk_ck v2 12 (kk_ck v1 12 (kk_nm (va_up P5 2 (upd (P5 2) v1.toNatClampNeg ((P5 2) v2.toNatClampNeg))) fun P9 =>
(kk_ck v2 12 (kk_nm (va_up P9 2 (upd (P9 2) v2.toNatClampNeg ((P5 2) v1.toNatClampNeg))) fun P11 =>
(kk_ck v1 12 (kk_ck v2 12 (kk_ck v1 12 (kk_nm (va_up P11 3 (upd (P11 3) v1.toNatClampNeg ((P11 3) v2.toNatClampNeg))) fun P15 =>
(kk_ck v2 12 (kk_nm (va_up P15 3 (upd (P15 3) v2.toNatClampNeg ((P11 3) v1.toNatClampNeg))) fun P17 =>
(kk_ck v1 12 (kk_ck v2 12 (kk_ck v1 12 (kk_cb ((P17 4) v2.toNatClampNeg) (kk_nm (va_up P17 4 (upd (P17 4) v1.toNatClampNeg ((P17 4) v2.toNatClampNeg))) fun P21 =>
(kk_ck v2 12 (kk_cb ((P17 4) v1.toNatClampNeg) (kk_nm (va_up P21 4 (upd (P21 4) v2.toNatClampNeg ((P17 4) v1.toNatClampNeg))) fun P23 =>
(some P23)))))))))))))))))))))))))))

def fX2_shift_b2 (n : Nat) (v2 : Int32) (u5 : Int32) (P6 : St1) : Option ((Int32 × St1) ⊕ (St1)) :=
(if v2 ≤ u5 then
(some (.inr P6))
else
(Option.bind (fX2_swap n P6 u5 (u5 + (1 : Int32))) fun (x10 : St1) =>
(some (.inl ((u5 + (1 : Int32)), x10)))))
def fX2_shift_b23 (n : Nat) (v2 : Int32) (u15 : Int32) (P16 : St1) : Option ((Int32 × St1) ⊕ (St1)) :=
(if u15 ≤ v2 then
(some (.inr P16))
else
(Option.bind (fX2_swap n P16 u15 (u15 - (1 : Int32))) fun (x20 : St1) =>
(some (.inl ((u15 + (-1 : Int32)), x20)))))
def fX2_shift (n : Nat) (P : St1) (v1 : Int32) (v2 : Int32) : Option (St1) :=
(Option.bind (kk_it (fun (st : Int32 × St1) => fX2_shift_b2 n v2 st.1 st.2) n (v1, P)) fun (x8 : St1) =>
(Option.bind (kk_it (fun (st : Int32 × St1) => fX2_shift_b23 n v2 st.1 st.2) n (v1, x8)) fun (x18 : St1) =>
(some x18)))


def fX2_takeAway (n : Nat) (P : St1) (v1 : Int32) : Option (St1) :=
(Option.bind (fX2_shift n P v1 ((P 0 0) - (1 : Int32))) fun (x1 : St1) =>
(kk_nm (va_up x1 0 (fun _ => ((x1 0 0) - (1 : Int32)))) fun P2 =>
(some P2)))


def fX2_addLast (n : Nat) (P : St1) (v1 : Int32) (v2 : Int32) (v3 : Int32) : Option (St1) :=
(if (12 : Int32) ≤ (P 0 0) then
(some P)
else
(kk_ck (P 0 0) 12 (kk_nm (va_up P 1 (upd (P 1) (P 0 0).toNatClampNeg v1)) fun P2 =>
(kk_ck (P2 0 0) 12 (kk_nm (va_up P2 2 (upd (P2 2) (P2 0 0).toNatClampNeg v2)) fun P4 =>
(kk_ck (P4 0 0) 12 (kk_nm (va_up P4 3 (upd (P4 3) (P4 0 0).toNatClampNeg v3)) fun P6 =>
(kk_ck (P6 0 0) 12 (kk_cb (0 : Int32) (kk_nm (va_up P6 4 (upd (P6 4) (P6 0 0).toNatClampNeg (0 : Int32))) fun P8 =>
(kk_nm (va_up P8 0 (fun _ => ((P8 0 0) + (1 : Int32)))) fun P10 =>
(some P10))))))))))))


def fX2_countedHeight (n : Nat) (P : St1) (v1 : Int32) : Option (Int32) :=
(kk_ck v1 12 (Option.bind (if ((P 4) v1.toNatClampNeg) = 0 then
(kk_ck v1 12 (some ((P 2) v1.toNatClampNeg)))
else
(kk_ck v1 12 (some (((P 2) v1.toNatClampNeg) - (20 : Int32))))) fun (x5 : Int32) =>
(if (10 : Int32) ≤ x5 then
(some x5)
else
(some (10 : Int32)))))


def fX2_shying (n : Nat) (P : St1) (v1 : Int32) : Option (Int32) :=
(Option.bind (if v1 < (1 : Int32) then
(some (0 : Int32))
else
(kk_ck v1 12 (kk_ck (v1 - (1 : Int32)) 12 (if ((((P 3) v1.toNatClampNeg) >>> (((P 1) (v1 - (1 : Int32)).toNatClampNeg) &&& 31)) &&& (1 : Int32)) = (1 : Int32) then
(some ((0 : Int32) + (3 : Int32)))
else
(some (0 : Int32)))))) fun (x5 : Int32) =>
(if v1 < (2 : Int32) then
(some x5)
else
(kk_ck v1 12 (kk_ck (v1 - (2 : Int32)) 12 (if ((((P 3) v1.toNatClampNeg) >>> (((P 1) (v1 - (2 : Int32)).toNatClampNeg) &&& 31)) &&& (1 : Int32)) = (1 : Int32) then
(some (x5 + (1 : Int32)))
else
(some x5))))))

def fX2_hearing_b14 (n : Nat) (P : St1) (v1 : Int32) (u10 : Int32) (u11 : Int32) : Option ((Int32 × Int32) ⊕ (Int32)) :=
(if ((P 8) (0 : Int32).toNatClampNeg) ≤ u11 then
(some (.inr u10))
else
(if v1 < u11 then
(some (.inr u10))
else
(kk_ck (v1 - u11) 12 (if ((P 1) (v1 - u11).toNatClampNeg) = (2 : Int32) then
(some (.inl ((u10 + (1 : Int32)), (u11 + (1 : Int32)))))
else
(some (.inl (u10, (u11 + (1 : Int32)))))))))
def fX2_hearing (n : Nat) (P : St1) (v1 : Int32) : Option (Int32) :=
(kk_ck v1 12 (if ((P 1) v1.toNatClampNeg) = (2 : Int32) then
(Option.bind (kk_it (fun (st : Int32 × Int32) => fX2_hearing_b14 n P v1 st.1 st.2) n ((0 : Int32), (1 : Int32))) fun (x13 : Int32) =>
(some x13))
else
(some (0 : Int32))))


def fX2_meeting (n : Nat) (P : St1) (v1 : Int32) : Option (Int32) :=
(if v1 < (1 : Int32) then
(some (0 : Int32))
else
(kk_ck v1 12 (if ((P 1) v1.toNatClampNeg) = (3 : Int32) then
(kk_ck (v1 - (1 : Int32)) 12 (if ((P 1) (v1 - (1 : Int32)).toNatClampNeg) = (3 : Int32) then
(some (2 : Int32))
else
(some (0 : Int32))))
else
(some (0 : Int32)))))


def fX2_troubleAt (n : Nat) (P : St1) (v1 : Int32) : Option (Int32) :=
(Option.bind (fX2_shying n P v1) fun (x1 : Int32) =>
(Option.bind (fX2_hearing n P v1) fun (x2 : Int32) =>
(Option.bind (fX2_meeting n P v1) fun (x3 : Int32) =>
(some ((x1 + x2) + x3)))))


def fX2_troubleBy (n : Nat) (P : St1) (v1 : Int32) (v2 : Int32) : Option (Int32) :=
(if v2 = (0 : Int32) then
(Option.bind (fX2_shying n P v1) fun (x2 : Int32) =>
(some x2))
else
(if v2 = (1 : Int32) then
(Option.bind (fX2_hearing n P v1) fun (x4 : Int32) =>
(some x4))
else
(Option.bind (fX2_meeting n P v1) fun (x5 : Int32) =>
(some x5))))

def fX2_allTrouble_b4 (n : Nat) (P : St1) (u6 : Int32) (u7 : Int32) : Option ((Int32 × Int32) ⊕ (Int32)) :=
(if (P 0 0) ≤ u7 then
(some (.inr u6))
else
(Option.bind (fX2_troubleAt n P u7) fun (x11 : Int32) =>
(some (.inl ((u6 + x11), (u7 + (1 : Int32)))))))
def fX2_allTrouble (n : Nat) (P : St1) : Option (Int32) :=
(Option.bind (kk_it (fun (st : Int32 × Int32) => fX2_allTrouble_b4 n P st.1 st.2) n ((0 : Int32), (0 : Int32))) fun (x9 : Int32) =>
(some x9))

def fX2_troubledFloats_b4 (n : Nat) (P : St1) (u7 : Int32) (u8 : Int32) : Option ((Int32 × Int32) ⊕ (Int32)) :=
(if (P 0 0) ≤ u8 then
(some (.inr u7))
else
(Option.bind (fX2_troubleAt n P u8) fun (x12 : Int32) =>
(if x12 ≤ 0 then
(some (.inl (u7, (u8 + (1 : Int32)))))
else
(some (.inl ((u7 + (1 : Int32)), (u8 + (1 : Int32))))))))
def fX2_troubledFloats (n : Nat) (P : St1) : Option (Int32) :=
(Option.bind (kk_it (fun (st : Int32 × Int32) => fX2_troubledFloats_b4 n P st.1 st.2) n ((0 : Int32), (0 : Int32))) fun (x10 : Int32) =>
(some x10))

def fX2_greatestHeight_b4 (n : Nat) (P : St1) (u6 : Int32) (u7 : Int32) : Option ((Int32 × Int32) ⊕ (Int32)) :=
(if (P 0 0) ≤ u7 then
(some (.inr u6))
else
(Option.bind (fX2_countedHeight n P u7) fun (x11 : Int32) =>
(some (.inl ((if u6 < x11 then x11 else u6), (u7 + (1 : Int32)))))))
def fX2_greatestHeight (n : Nat) (P : St1) : Option (Int32) :=
(Option.bind (kk_it (fun (st : Int32 × Int32) => fX2_greatestHeight_b4 n P st.1 st.2) n ((0 : Int32), (0 : Int32))) fun (x9 : Int32) =>
(some x9))

def fX2_hasBridgeAt_b2 (n : Nat) (P : St1) (v1 : Int32) (u6 : Int32) : Option ((Int32) ⊕ (Int32)) :=
(if (P 5 0) ≤ u6 then
(some (.inr (0 : Int32)))
else
(kk_ck u6 4 (if ((P 6) u6.toNatClampNeg) = v1 then
(some (.inr (1 : Int32)))
else
(some (.inl (u6 + (1 : Int32)))))))
def fX2_hasBridgeAt (n : Nat) (P : St1) (v1 : Int32) : Option (Int32) :=
(kk_it (fun (st : Int32) => fX2_hasBridgeAt_b2 n P v1 st) n (0 : Int32))

def fX2_build_b15 (n : Nat) (v1 : Int32) (u13 : Int32) (P14 : St1) : Option ((Int32 × St1) ⊕ (Int32 × St1)) :=
(if u13 ≤ 0 then
(some (.inr (u13, P14)))
else
(kk_ck (u13 - (1 : Int32)) 4 (if ((P14 6) (u13 - (1 : Int32)).toNatClampNeg) ≤ v1 then
(some (.inr (u13, P14)))
else
(kk_ck (u13 - (1 : Int32)) 4 (kk_ck u13 4 (kk_nm (va_up P14 6 (upd (P14 6) u13.toNatClampNeg ((P14 6) (u13 - (1 : Int32)).toNatClampNeg))) fun P21 =>
(kk_ck (u13 - (1 : Int32)) 4 (kk_ck u13 4 (kk_nm (va_up P21 7 (upd (P21 7) u13.toNatClampNeg ((P21 7) (u13 - (1 : Int32)).toNatClampNeg))) fun P24 =>
(some (.inl ((u13 + (-1 : Int32)), P24))))))))))))
def fX2_build (n : Nat) (P : St1) (v1 : Int32) (v2 : Int32) : Option (Int32 × St1) :=
(if (P 5 0) < (4 : Int32) then
(Option.bind (kk_it (fun (st : Int32 × St1) => fX2_build_b15 n v1 st.1 st.2) n ((P 5 0), P)) fun (x16 : Int32 × St1) =>
(kk_ck x16.1 4 (kk_nm (va_up x16.2 6 (upd (x16.2 6) x16.1.toNatClampNeg v1)) fun P26 =>
(kk_ck x16.1 4 (kk_nm (va_up P26 7 (upd (P26 7) x16.1.toNatClampNeg v2)) fun P28 =>
(kk_nm (va_up P28 5 (fun _ => ((P28 5 0) + (1 : Int32)))) fun P30 =>
(some (x16.1, P30))))))))
else
(some ((-1 : Int32), P)))

def fX2_pullDown_b4 (n : Nat)  (u10 : Int32) (P11 : St1) : Option ((Int32 × St1) ⊕ (St1)) :=
(if (P11 5 0) ≤ u10 then
(some (.inr P11))
else
(kk_ck u10 4 (kk_ck (u10 - (1 : Int32)) 4 (kk_nm (va_up P11 6 (upd (P11 6) (u10 - (1 : Int32)).toNatClampNeg ((P11 6) u10.toNatClampNeg))) fun P16 =>
(kk_ck u10 4 (kk_ck (u10 - (1 : Int32)) 4 (kk_nm (va_up P16 7 (upd (P16 7) (u10 - (1 : Int32)).toNatClampNeg ((P16 7) u10.toNatClampNeg))) fun P19 =>
(some (.inl ((u10 + (1 : Int32)), P19))))))))))
def fX2_pullDown (n : Nat) (P : St1) (v1 : Int32) : Option (St1) :=
(Option.bind (kk_it (fun (st : Int32 × St1) => fX2_pullDown_b4 n st.1 st.2) n ((v1 + (1 : Int32)), P)) fun (x13 : St1) =>
(kk_nm (va_up x13 5 (fun _ => ((x13 5 0) - (1 : Int32)))) fun P21 =>
(some P21)))


def fX2_isLowered (n : Nat) (P : St1) (v1 : Int32) (v2 : Int32) : Option (Int32) :=
(Option.bind (fX2_countedHeight n P v1) fun (x1 : Int32) =>
(kk_ck v2 4 (if x1 ≤ ((P 7) v2.toNatClampNeg) then
(some (0 : Int32))
else
(some (1 : Int32)))))

def fX2_bridgesThatLower_b4 (n : Nat) (P : St1) (v1 : Int32) (u7 : Int32) (u8 : Int32) : Option ((Int32 × Int32) ⊕ (Int32)) :=
(if (P 5 0) ≤ u8 then
(some (.inr u7))
else
(Option.bind (fX2_isLowered n P v1 u8) fun (x12 : Int32) =>
(if x12 = 0 then
(some (.inl (u7, (u8 + (1 : Int32)))))
else
(some (.inl ((u7 + (1 : Int32)), (u8 + (1 : Int32))))))))
def fX2_bridgesThatLower (n : Nat) (P : St1) (v1 : Int32) : Option (Int32) :=
(Option.bind (kk_it (fun (st : Int32 × Int32) => fX2_bridgesThatLower_b4 n P v1 st.1 st.2) n ((0 : Int32), (0 : Int32))) fun (x10 : Int32) =>
(some x10))

def fX2_floatsLoweredAt_b4 (n : Nat) (P : St1) (v1 : Int32) (u7 : Int32) (u8 : Int32) : Option ((Int32 × Int32) ⊕ (Int32)) :=
(if (P 0 0) ≤ u8 then
(some (.inr u7))
else
(Option.bind (fX2_isLowered n P u8 v1) fun (x12 : Int32) =>
(if x12 = 0 then
(some (.inl (u7, (u8 + (1 : Int32)))))
else
(some (.inl ((u7 + (1 : Int32)), (u8 + (1 : Int32))))))))
def fX2_floatsLoweredAt (n : Nat) (P : St1) (v1 : Int32) : Option (Int32) :=
(Option.bind (kk_it (fun (st : Int32 × Int32) => fX2_floatsLoweredAt_b4 n P v1 st.1 st.2) n ((0 : Int32), (0 : Int32))) fun (x10 : Int32) =>
(some x10))

def fX2_loweredFloats_b4 (n : Nat) (P : St1) (u7 : Int32) (u8 : Int32) : Option ((Int32 × Int32) ⊕ (Int32)) :=
(if (P 0 0) ≤ u8 then
(some (.inr u7))
else
(Option.bind (fX2_bridgesThatLower n P u8) fun (x12 : Int32) =>
(if x12 ≤ 0 then
(some (.inl (u7, (u8 + (1 : Int32)))))
else
(some (.inl ((u7 + (1 : Int32)), (u8 + (1 : Int32))))))))
def fX2_loweredFloats (n : Nat) (P : St1) : Option (Int32) :=
(Option.bind (kk_it (fun (st : Int32 × Int32) => fX2_loweredFloats_b4 n P st.1 st.2) n ((0 : Int32), (0 : Int32))) fun (x10 : Int32) =>
(some x10))


def fX2_bridgeProperty (n : Nat) (P : St1) (v1 : Int32) (v2 : Int32) : Option (Int32) :=
(if v2 = (0 : Int32) then
(kk_ck v1 4 (some ((P 6) v1.toNatClampNeg)))
else
(if v2 = (1 : Int32) then
(kk_ck v1 4 (some ((P 7) v1.toNatClampNeg)))
else
(Option.bind (fX2_floatsLoweredAt n P v1) fun (x5 : Int32) =>
(some x5))))


def fX2_floatProperty (n : Nat) (P : St1) (v1 : Int32) (v2 : Int32) : Option (Int32) :=
(if v2 = (0 : Int32) then
(kk_ck v1 12 (some ((P 1) v1.toNatClampNeg)))
else
(if v2 = (1 : Int32) then
(kk_ck v1 12 (some ((P 2) v1.toNatClampNeg)))
else
(if v2 = (2 : Int32) then
(kk_ck v1 12 (some ((P 3) v1.toNatClampNeg)))
else
(if v2 = (3 : Int32) then
(kk_ck v1 12 (if ((P 4) v1.toNatClampNeg) = 0 then
(some (0 : Int32))
else
(some (1 : Int32))))
else
(if v2 = (4 : Int32) then
(Option.bind (fX2_countedHeight n P v1) fun (x11 : Int32) =>
(some x11))
else
(if v2 = (5 : Int32) then
(Option.bind (fX2_bridgesThatLower n P v1) fun (x13 : Int32) =>
(some x13))
else
(Option.bind (fX2_troubleAt n P v1) fun (x14 : Int32) =>
(some x14))))))))

def fX2_travel_b29 (n : Nat) (u59 : Int32) (x64 : Int32) (u91 : Int32) (u92 : Int32) (u93 : Int32) (P94 : St1) : Option ((Int32 × Int32 × Int32 × St1) ⊕ (St1)) :=
(if (P94 5 0) < u93 then
(some (.inr P94))
else
(Option.bind (if (P94 5 0) ≤ u93 then
(some (60 : Int32))
else
(kk_ck u93 4 (some ((P94 6) u93.toNatClampNeg)))) fun (x100 : Int32) =>
(Option.bind (if u59 ≤ 0 then
(some (u91 + ((x100 - u92) * ((P94 8) (2 : Int32).toNatClampNeg))))
else
(kk_ck u93 5 (some (if (u91 + ((x100 - u92) * ((P94 8) (2 : Int32).toNatClampNeg))) < (((P94 10) u93.toNatClampNeg) + ((P94 8) (1 : Int32).toNatClampNeg)) then (((P94 10) u93.toNatClampNeg) + ((P94 8) (1 : Int32).toNatClampNeg)) else (u91 + ((x100 - u92) * ((P94 8) (2 : Int32).toNatClampNeg))))))) fun (x105 : Int32) =>
(kk_ck u93 5 (kk_nm (va_up P94 9 (upd (P94 9) u93.toNatClampNeg x105)) fun P108 =>
(Option.bind (if (P108 5 0) ≤ u93 then
(some x105)
else
(kk_ck u93 4 (if x64 ≤ ((P108 7) u93.toNatClampNeg) then
(some x105)
else
(some (x105 + ((P108 8) (3 : Int32).toNatClampNeg)))))) fun (x113 : Int32) =>
(kk_ck u93 5 (kk_nm (va_up P108 10 (upd (P108 10) u93.toNatClampNeg x113)) fun P117 =>
(some (.inl (x113, x100, (u93 + (1 : Int32)), P117)))))))))))
def fX2_travel_b2 (n : Nat) (v1 : Int32) (u59 : Int32) (P60 : St1) : Option ((Int32 × St1) ⊕ (St1)) :=
(if v1 < u59 then
(some (.inr P60))
else
(Option.bind (fX2_countedHeight n P60 u59) fun (x64 : Int32) =>
(Option.bind (kk_it (fun (st : Int32 × Int32 × Int32 × St1) => fX2_travel_b29 n u59 x64 st.1 st.2.1 st.2.2.1 st.2.2.2) n ((u59 * ((P60 8) (1 : Int32).toNatClampNeg)), (0 : Int32), (0 : Int32), P60)) fun (x96 : St1) =>
(some (.inl ((u59 + (1 : Int32)), x96))))))
def fX2_travel (n : Nat) (P : St1) (v1 : Int32) : Option (St1) :=
(Option.bind (kk_it (fun (st : Int32 × St1) => fX2_travel_b2 n v1 st.1 st.2) n ((0 : Int32), P)) fun (x62 : St1) =>
(some x62))


def fX2_end (n : Nat) (P : St1) : Option (Int32 × St1) :=
(if 0 < (P 0 0) then
(Option.bind (fX2_travel n P ((P 0 0) - (1 : Int32))) fun (x2 : St1) =>
(kk_ck (x2 5 0) 5 (some (((x2 9) (x2 5 0).toNatClampNeg), x2))))
else
(some ((0 : Int32), P)))


def fX2_waiting (n : Nat) (P : St1) : Option (Int32 × St1) :=
(if 0 < (P 0 0) then
(Option.bind (fX2_end n P) fun (x2 : Int32 × St1) =>
(some (((x2.1 - (((x2.2 0 0) - (1 : Int32)) * ((x2.2 8) (1 : Int32).toNatClampNeg))) - ((60 : Int32) * ((x2.2 8) (2 : Int32).toNatClampNeg))), x2.2)))
else
(some ((0 : Int32), P)))
end
section
set_option maxHeartbeats 8000000 in
set_option maxRecDepth 100000 in
theorem sX2_swap (l : Launch) (g : kG) (n : Nat) (a : Nat → Nat) (P : St1) (v1 : Int32) (v2 : Int32) (r : St1) (hR : fX2_swap n P v1 v2 = some r) : kSp l g yX2_swap wsX2_swap ({ frames := 0, cells := 0, slots := 0, locals := 0 }) [.ref (a 0), .int v1, .int v2] (w_P g a P) (kQv g (w_P g a r)) := by
  refine kSp.of (cc := cX2_swap) (maxL := 7) (ret := none) (by decide) rfl (Nat.le_of_ble_eq_true rfl) ?_
  intro p e s m args below meth c ls A hC hr hlocks hA hK hl hP hD hS
  replace hC : CallFix p m c cX2_swap 7 s args wsX2_swap RX2 := hC
  obtain ⟨hx, hb, hml, hown, hts⟩ := id hC
  replace hl : lv_has ls 7 [(0, .ref (a 0)), (1, .int v1), (2, .int v2)] := hl
  unfold fX2_swap at hR
  have hw2 : ∀ w ∈ wsX20, w ∈ wsX2_swap := by decide +kernel
  have hl0 := hts (.fieldLink RX2 15 "FloatOrder$Parade" "kinds" "[I") (by decide +kernel)
  have hl1 := hts (.fieldLink RX2 19 "FloatOrder$Parade" "heights" "[I") (by decide +kernel)
  have hl2 := hts (.fieldLink RX2 22 "FloatOrder$Parade" "masks" "[I") (by decide +kernel)
  have hl3 := hts (.fieldLink RX2 25 "FloatOrder$Parade" "folded" "[Z") (by decide +kernel)
  refine lv_aload_n hx hb dX2_swap_0 rfl (lv_at hl 0 rfl) ?_
  refine va_get (ci := 2) (C := RX2) (T := TX2) (N := 11) hx hb hts hw2 hown hK hP 0 rfl rfl 1 (by decide) hl0 (fun _ h9 => h9) rfl dX2_swap_1 ?_
  refine lv_iload_n hx hb dX2_swap_4 rfl (lv_at hl 1 rfl) ?_
  obtain ⟨hi1, hR⟩ := kk_ck_el hR
  refine va_iald hx hb hK hP 1 0 rfl rfl hi1 dX2_swap_5 ?_
  refine lv_istore_n (lv' := [(3, .int ((P 1) v1.toNatClampNeg)), (0, .ref (a 0)), (1, .int v1), (2, .int v2)]) hx hb dX2_swap_6 rfl hl (by decide) rfl (fun ls hl => ?_)
  refine lv_aload_n hx hb dX2_swap_7 rfl (lv_at hl 1 rfl) ?_
  refine va_get (ci := 2) (C := RX2) (T := TX2) (N := 11) hx hb hts hw2 hown hK hP 0 rfl rfl 1 (by decide) hl0 (fun _ h9 => h9) rfl dX2_swap_8 ?_
  refine lv_iload_n hx hb dX2_swap_11 rfl (lv_at hl 2 rfl) ?_
  refine lv_aload_n hx hb dX2_swap_12 rfl (lv_at hl 1 rfl) ?_
  refine va_get (ci := 2) (C := RX2) (T := TX2) (N := 11) hx hb hts hw2 hown hK hP 0 rfl rfl 1 (by decide) hl0 (fun _ h9 => h9) rfl dX2_swap_13 ?_
  refine lv_iload_n hx hb dX2_swap_16 rfl (lv_at hl 3 rfl) ?_
  obtain ⟨hi2, hR⟩ := kk_ck_el hR
  refine va_iald hx hb hK hP 1 0 rfl rfl hi2 dX2_swap_17 ?_
  obtain ⟨hi4, hR⟩ := kk_ck_el hR
  obtain ⟨P3, eP3, hR⟩ := kk_nm_el hR
  refine kk_iast (w' := (w_P g a P3)) hC hK hP hD hS 1 rfl hi4 (by rw [eP3]; rfl) dX2_swap_18 (fun H locs hP hD hS => ?_)
  refine lv_aload_n hx hb dX2_swap_19 rfl (lv_at hl 1 rfl) ?_
  refine va_get (ci := 2) (C := RX2) (T := TX2) (N := 11) hx hb hts hw2 hown hK hP 0 rfl rfl 1 (by decide) hl0 (fun _ h9 => h9) rfl dX2_swap_20 ?_
  refine lv_iload_n hx hb dX2_swap_23 rfl (lv_at hl 3 rfl) ?_
  refine lv_iload_n hx hb dX2_swap_24 rfl (lv_at hl 0 rfl) ?_
  obtain ⟨hi6, hR⟩ := kk_ck_el hR
  obtain ⟨P5, eP5, hR⟩ := kk_nm_el hR
  refine kk_iast (w' := (w_P g a P5)) hC hK hP hD hS 1 rfl hi6 (by rw [eP5]; rfl) dX2_swap_25 (fun H locs hP hD hS => ?_)
  refine lv_aload_n hx hb dX2_swap_26 rfl (lv_at hl 1 rfl) ?_
  refine va_get (ci := 2) (C := RX2) (T := TX2) (N := 11) hx hb hts hw2 hown hK hP 0 rfl rfl 2 (by decide) hl1 (fun _ h9 => h9) rfl dX2_swap_27 ?_
  refine lv_iload_n hx hb dX2_swap_30 rfl (lv_at hl 2 rfl) ?_
  obtain ⟨hi7, hR⟩ := kk_ck_el hR
  refine va_iald hx hb hK hP 2 0 rfl rfl hi7 dX2_swap_31 ?_
  refine lv_istore (lv' := [(4, .int ((P5 2) v1.toNatClampNeg)), (3, .int ((P 1) v1.toNatClampNeg)), (0, .ref (a 0)), (1, .int v1), (2, .int v2)]) hx hb dX2_swap_32 hl (by decide) rfl (fun ls hl => ?_)
  refine lv_aload_n hx hb dX2_swap_34 rfl (lv_at hl 2 rfl) ?_
  refine va_get (ci := 2) (C := RX2) (T := TX2) (N := 11) hx hb hts hw2 hown hK hP 0 rfl rfl 2 (by decide) hl1 (fun _ h9 => h9) rfl dX2_swap_35 ?_
  refine lv_iload_n hx hb dX2_swap_38 rfl (lv_at hl 3 rfl) ?_
  refine lv_aload_n hx hb dX2_swap_39 rfl (lv_at hl 2 rfl) ?_
  refine va_get (ci := 2) (C := RX2) (T := TX2) (N := 11) hx hb hts hw2 hown hK hP 0 rfl rfl 2 (by decide) hl1 (fun _ h9 => h9) rfl dX2_swap_40 ?_
  refine lv_iload_n hx hb dX2_swap_43 rfl (lv_at hl 4 rfl) ?_
  obtain ⟨hi8, hR⟩ := kk_ck_el hR
  refine va_iald hx hb hK hP 2 0 rfl rfl hi8 dX2_swap_44 ?_
  obtain ⟨hi10, hR⟩ := kk_ck_el hR
  obtain ⟨P9, eP9, hR⟩ := kk_nm_el hR
  refine kk_iast (w' := (w_P g a P9)) hC hK hP hD hS 2 rfl hi10 (by rw [eP9]; rfl) dX2_swap_45 (fun H locs hP hD hS => ?_)
  refine lv_aload_n hx hb dX2_swap_46 rfl (lv_at hl 2 rfl) ?_
  refine va_get (ci := 2) (C := RX2) (T := TX2) (N := 11) hx hb hts hw2 hown hK hP 0 rfl rfl 2 (by decide) hl1 (fun _ h9 => h9) rfl dX2_swap_47 ?_
  refine lv_iload_n hx hb dX2_swap_50 rfl (lv_at hl 4 rfl) ?_
  refine lv_iload hx hb dX2_swap_51 (lv_at hl 0 rfl) ?_
  obtain ⟨hi12, hR⟩ := kk_ck_el hR
  obtain ⟨P11, eP11, hR⟩ := kk_nm_el hR
  refine kk_iast (w' := (w_P g a P11)) hC hK hP hD hS 2 rfl hi12 (by rw [eP11]; rfl) dX2_swap_53 (fun H locs hP hD hS => ?_)
  refine lv_aload_n hx hb dX2_swap_54 rfl (lv_at hl 2 rfl) ?_
  refine va_get (ci := 2) (C := RX2) (T := TX2) (N := 11) hx hb hts hw2 hown hK hP 0 rfl rfl 3 (by decide) hl2 (fun _ h9 => h9) rfl dX2_swap_55 ?_
  refine lv_iload_n hx hb dX2_swap_58 rfl (lv_at hl 3 rfl) ?_
  obtain ⟨hi13, hR⟩ := kk_ck_el hR
  refine va_iald hx hb hK hP 3 0 rfl rfl hi13 dX2_swap_59 ?_
  refine lv_istore (lv' := [(5, .int ((P11 3) v1.toNatClampNeg)), (4, .int ((P5 2) v1.toNatClampNeg)), (3, .int ((P 1) v1.toNatClampNeg)), (0, .ref (a 0)), (1, .int v1), (2, .int v2)]) hx hb dX2_swap_60 hl (by decide) rfl (fun ls hl => ?_)
  refine lv_aload_n hx hb dX2_swap_62 rfl (lv_at hl 3 rfl) ?_
  refine va_get (ci := 2) (C := RX2) (T := TX2) (N := 11) hx hb hts hw2 hown hK hP 0 rfl rfl 3 (by decide) hl2 (fun _ h9 => h9) rfl dX2_swap_63 ?_
  refine lv_iload_n hx hb dX2_swap_66 rfl (lv_at hl 4 rfl) ?_
  refine lv_aload_n hx hb dX2_swap_67 rfl (lv_at hl 3 rfl) ?_
  refine va_get (ci := 2) (C := RX2) (T := TX2) (N := 11) hx hb hts hw2 hown hK hP 0 rfl rfl 3 (by decide) hl2 (fun _ h9 => h9) rfl dX2_swap_68 ?_
  refine lv_iload_n hx hb dX2_swap_71 rfl (lv_at hl 5 rfl) ?_
  obtain ⟨hi14, hR⟩ := kk_ck_el hR
  refine va_iald hx hb hK hP 3 0 rfl rfl hi14 dX2_swap_72 ?_
  obtain ⟨hi16, hR⟩ := kk_ck_el hR
  obtain ⟨P15, eP15, hR⟩ := kk_nm_el hR
  refine kk_iast (w' := (w_P g a P15)) hC hK hP hD hS 3 rfl hi16 (by rw [eP15]; rfl) dX2_swap_73 (fun H locs hP hD hS => ?_)
  refine lv_aload_n hx hb dX2_swap_74 rfl (lv_at hl 3 rfl) ?_
  refine va_get (ci := 2) (C := RX2) (T := TX2) (N := 11) hx hb hts hw2 hown hK hP 0 rfl rfl 3 (by decide) hl2 (fun _ h9 => h9) rfl dX2_swap_75 ?_
  refine lv_iload_n hx hb dX2_swap_78 rfl (lv_at hl 5 rfl) ?_
  refine lv_iload hx hb dX2_swap_79 (lv_at hl 0 rfl) ?_
  obtain ⟨hi18, hR⟩ := kk_ck_el hR
  obtain ⟨P17, eP17, hR⟩ := kk_nm_el hR
  refine kk_iast (w' := (w_P g a P17)) hC hK hP hD hS 3 rfl hi18 (by rw [eP17]; rfl) dX2_swap_81 (fun H locs hP hD hS => ?_)
  refine lv_aload_n hx hb dX2_swap_82 rfl (lv_at hl 3 rfl) ?_
  refine va_get (ci := 2) (C := RX2) (T := TX2) (N := 11) hx hb hts hw2 hown hK hP 0 rfl rfl 4 (by decide) hl3 (fun _ h9 => h9) rfl dX2_swap_83 ?_
  refine lv_iload_n hx hb dX2_swap_86 rfl (lv_at hl 4 rfl) ?_
  obtain ⟨hi19, hR⟩ := kk_ck_el hR
  refine va_zald hx hb hK hP 4 1 rfl rfl hi19 dX2_swap_87 ?_
  refine lv_istore (lv' := [(6, .int ((P17 4) v1.toNatClampNeg)), (5, .int ((P11 3) v1.toNatClampNeg)), (4, .int ((P5 2) v1.toNatClampNeg)), (3, .int ((P 1) v1.toNatClampNeg)), (0, .ref (a 0)), (1, .int v1), (2, .int v2)]) hx hb dX2_swap_88 hl (by decide) rfl (fun ls hl => ?_)
  refine lv_aload_n hx hb dX2_swap_90 rfl (lv_at hl 4 rfl) ?_
  refine va_get (ci := 2) (C := RX2) (T := TX2) (N := 11) hx hb hts hw2 hown hK hP 0 rfl rfl 4 (by decide) hl3 (fun _ h9 => h9) rfl dX2_swap_91 ?_
  refine lv_iload_n hx hb dX2_swap_94 rfl (lv_at hl 5 rfl) ?_
  refine lv_aload_n hx hb dX2_swap_95 rfl (lv_at hl 4 rfl) ?_
  refine va_get (ci := 2) (C := RX2) (T := TX2) (N := 11) hx hb hts hw2 hown hK hP 0 rfl rfl 4 (by decide) hl3 (fun _ h9 => h9) rfl dX2_swap_96 ?_
  refine lv_iload_n hx hb dX2_swap_99 rfl (lv_at hl 6 rfl) ?_
  obtain ⟨hi20, hR⟩ := kk_ck_el hR
  refine va_zald hx hb hK hP 4 1 rfl rfl hi20 dX2_swap_100 ?_
  obtain ⟨hi22, hR⟩ := kk_ck_el hR
  obtain ⟨hz26, hR⟩ := kk_cb_el hR
  obtain ⟨P21, eP21, hR⟩ := kk_nm_el hR
  refine kk_zast (w' := (w_P g a P21)) hC hK hP hD hS 4 rfl hi22 hz26 (by rw [eP21]; rfl) dX2_swap_101 (fun H locs hP hD hS => ?_)
  refine lv_aload_n hx hb dX2_swap_102 rfl (lv_at hl 4 rfl) ?_
  refine va_get (ci := 2) (C := RX2) (T := TX2) (N := 11) hx hb hts hw2 hown hK hP 0 rfl rfl 4 (by decide) hl3 (fun _ h9 => h9) rfl dX2_swap_103 ?_
  refine lv_iload_n hx hb dX2_swap_106 rfl (lv_at hl 6 rfl) ?_
  refine lv_iload hx hb dX2_swap_107 (lv_at hl 0 rfl) ?_
  obtain ⟨hi24, hR⟩ := kk_ck_el hR
  obtain ⟨hz25, hR⟩ := kk_cb_el hR
  obtain ⟨P23, eP23, hR⟩ := kk_nm_el hR
  refine kk_zast (w' := (w_P g a P23)) hC hK hP hD hS 4 rfl hi24 hz25 (by rw [eP23]; rfl) dX2_swap_109 (fun H locs hP hD hS => ?_)
  obtain rfl := Option.some.inj hR
  exact kk_ret_v hC hr hlocks hK hP hD hS dX2_swap_110
set_option maxHeartbeats 8000000 in
set_option maxRecDepth 100000 in
theorem sX2_shift (l : Launch) (g : kG) (n : Nat) (a : Nat → Nat) (P : St1) (v1 : Int32) (v2 : Int32) (r : St1) (hR : fX2_shift n P v1 v2 = some r) : kSp l g yX2_shift wsX2_shift ({ frames := 1, cells := 0, slots := 0, locals := 26 }) [.ref (a 0), .int v1, .int v2] (w_P g a P) (kQv g (w_P g a r)) := by
  refine kSp.of (cc := cX2_shift) (maxL := 4) (ret := none) (by decide) rfl (Nat.le_of_ble_eq_true rfl) ?_
  intro p e s m args below meth c ls A hC hr hlocks hA hK hl hP hD hS
  replace hC : CallFix p m c cX2_shift 4 s args wsX2_shift RX2 := hC
  obtain ⟨hx, hb, hml, hown, hts⟩ := id hC
  replace hl : lv_has ls 4 [(0, .ref (a 0)), (1, .int v1), (2, .int v2)] := hl
  unfold fX2_shift at hR
  refine lv_iload_n hx hb dX2_shift_0 rfl (lv_at hl 1 rfl) ?_
  refine lv_istore_n (lv' := [(3, .int v1), (0, .ref (a 0)), (1, .int v1), (2, .int v2)]) hx hb dX2_shift_1 rfl hl (by decide) rfl (fun ls hl => ?_)
  obtain ⟨x8, hq8, hR⟩ := kk_bd_el hR
  refine kk_cut (g := g) (A := A) (w' := (w_P g a x8)) (nL := 4) (lv := [(0, .ref (a 0)), (1, .int v1), (2, .int v2)]) (pcJ := 21) (st := []) (fun H locs ls hP hD hS hl => ?_) (fun hj8 => ?_)
  · refine lv_iload_n hx hb dX2_shift_21 rfl (lv_at hl 1 rfl) ?_
    refine lv_istore_n (lv' := [(3, .int v1), (0, .ref (a 0)), (1, .int v1), (2, .int v2)]) hx hb dX2_shift_22 rfl hl (by decide) rfl (fun ls hl => ?_)
    obtain ⟨x18, hq18, hR⟩ := kk_bd_el hR
    refine kk_cut (g := g) (A := A) (w' := (w_P g a x18)) (nL := 4) (lv := []) (pcJ := 42) (st := []) (fun H locs ls hP hD hS hl => ?_) (fun hj18 => ?_)
    · obtain rfl := Option.some.inj hR
      exact kk_ret_v hC hr hlocks hK hP hD hS dX2_shift_42
    refine kk_loop (g := g) (A := A) (fun (st : Int32 × St1) => (w_P g a st.2)) (fun (st : Int32 × St1) => [(3, .int st.1), (0, .ref (a 0)), (2, .int v2)]) 23 (nL := 4) hq18 (fun st xb17 hR ih2 hX2 => ?_) hP hD hS (lv_sub hl [0, 1, 3] rfl)
    clear hP hD hS hl
    obtain ⟨u15, P16⟩ := st
    intro H locs ls hP hD hS hl
    replace hR : fX2_shift_b23 n v2 u15 P16 = some xb17 := hR
    replace hP : va_P g.1 vwCl (w_P g a P16) H := hP
    replace hD : va_D A (w_P g a P16) := hD
    replace hl : lv_has ls 4 [(3, .int u15), (0, .ref (a 0)), (2, .int v2)] := hl
    unfold fX2_shift_b23 at hR
    refine lv_iload_n hx hb dX2_shift_23 rfl (lv_at hl 0 rfl) ?_
    refine lv_iload_n hx hb dX2_shift_24 rfl (lv_at hl 2 rfl) ?_
    refine lv_icmp_le (tgt := 42) hx hb dX2_shift_25 (by decide) (fun c19 => ?_) (fun c19 => ?_)
    · replace hR := (if_pos c19).symm.trans hR
      obtain rfl := Option.some.inj hR
      obtain rfl := hX2 _ rfl
      exact hj18 _ _ _ hP hD hS (lv_sub hl [] rfl)
    · replace hR := (if_neg c19).symm.trans hR
      refine lv_aload_n hx hb dX2_shift_28 rfl (lv_at hl 1 rfl) ?_
      refine lv_iload_n hx hb dX2_shift_29 rfl (lv_at hl 0 rfl) ?_
      refine lv_iload_n hx hb dX2_shift_30 rfl (lv_at hl 0 rfl) ?_
      refine lv_iconst (v := (1 : Int32)) hx hb dX2_shift_31 (by decide) ?_
      refine lv_isub hx hb dX2_shift_32 ?_
      obtain ⟨x20, hq20, hR⟩ := kk_bd_el hR
      refine kk_call_Vv (w' := (w_P g a x20)) (As := [.int u15, .int (u15 - (1 : Int32))]) (rest := []) 0 2 hC (sX2_swap l g n a P16 u15 (u15 - (1 : Int32)) x20 hq20) (cwV 2 hts gX2_shift_X2_swap rfl rfl rfl (by decide +kernel) ⟨Nat.le_of_ble_eq_true rfl, Nat.le_of_ble_eq_true rfl⟩) hK hP hD hS hA [0, 1, 2, 3, 4, 5, 6, 7, 8, 9] rfl (by decide +kernel) rfl rfl rfl rfl rfl rfl rfl hl.1 (Nat.le_of_ble_eq_true rfl) dX2_shift_33 (fun H locs hP hD hS => ?_)
      refine lv_iinc (v := (u15 + (-1 : Int32))) (lv' := [(3, .int (u15 + (-1 : Int32))), (0, .ref (a 0)), (2, .int v2)]) hx hb dX2_shift_36 hl (k := 0) rfl rfl (by decide) rfl (fun ls hl => ?_)
      refine lv_goto (tgt := 23) hx hb dX2_shift_39 (by decide) ?_
      obtain rfl := Option.some.inj hR
      exact ih2 _ rfl _ _ _ hP hD hS (lv_sub hl [0, 1, 2] rfl)
  refine kk_loop (g := g) (A := A) (fun (st : Int32 × St1) => (w_P g a st.2)) (fun (st : Int32 × St1) => [(3, .int st.1), (0, .ref (a 0)), (1, .int v1), (2, .int v2)]) 2 (nL := 4) hq8 (fun st xb7 hR ih1 hX1 => ?_) hP hD hS (lv_sub hl [0, 1, 2, 3] rfl)
  clear hP hD hS hl
  obtain ⟨u5, P6⟩ := st
  intro H locs ls hP hD hS hl
  replace hR : fX2_shift_b2 n v2 u5 P6 = some xb7 := hR
  replace hP : va_P g.1 vwCl (w_P g a P6) H := hP
  replace hD : va_D A (w_P g a P6) := hD
  replace hl : lv_has ls 4 [(3, .int u5), (0, .ref (a 0)), (1, .int v1), (2, .int v2)] := hl
  unfold fX2_shift_b2 at hR
  refine lv_iload_n hx hb dX2_shift_2 rfl (lv_at hl 0 rfl) ?_
  refine lv_iload_n hx hb dX2_shift_3 rfl (lv_at hl 3 rfl) ?_
  refine lv_icmp_ge (tgt := 21) hx hb dX2_shift_4 (by decide) (fun c9 => ?_) (fun c9 => ?_)
  · replace hR := (if_pos c9).symm.trans hR
    obtain rfl := Option.some.inj hR
    obtain rfl := hX1 _ rfl
    exact hj8 _ _ _ hP hD hS (lv_sub hl [1, 2, 3] rfl)
  · replace hR := (if_neg c9).symm.trans hR
    refine lv_aload_n hx hb dX2_shift_7 rfl (lv_at hl 1 rfl) ?_
    refine lv_iload_n hx hb dX2_shift_8 rfl (lv_at hl 0 rfl) ?_
    refine lv_iload_n hx hb dX2_shift_9 rfl (lv_at hl 0 rfl) ?_
    refine lv_iconst (v := (1 : Int32)) hx hb dX2_shift_10 (by decide) ?_
    refine lv_iadd hx hb dX2_shift_11 ?_
    obtain ⟨x10, hq10, hR⟩ := kk_bd_el hR
    refine kk_call_Vv (w' := (w_P g a x10)) (As := [.int u5, .int (u5 + (1 : Int32))]) (rest := []) 0 2 hC (sX2_swap l g n a P6 u5 (u5 + (1 : Int32)) x10 hq10) (cwV 2 hts gX2_shift_X2_swap rfl rfl rfl (by decide +kernel) ⟨Nat.le_of_ble_eq_true rfl, Nat.le_of_ble_eq_true rfl⟩) hK hP hD hS hA [0, 1, 2, 3, 4, 5, 6, 7, 8, 9] rfl (by decide +kernel) rfl rfl rfl rfl rfl rfl rfl hl.1 (Nat.le_of_ble_eq_true rfl) dX2_shift_12 (fun H locs hP hD hS => ?_)
    refine lv_iinc (v := (u5 + (1 : Int32))) (lv' := [(3, .int (u5 + (1 : Int32))), (0, .ref (a 0)), (1, .int v1), (2, .int v2)]) hx hb dX2_shift_15 hl (k := 0) rfl rfl (by decide) rfl (fun ls hl => ?_)
    refine lv_goto (tgt := 2) hx hb dX2_shift_18 (by decide) ?_
    obtain rfl := Option.some.inj hR
    exact ih1 _ rfl _ _ _ hP hD hS (lv_sub hl [0, 1, 2, 3] rfl)
set_option maxHeartbeats 8000000 in
set_option maxRecDepth 100000 in
theorem sX2_takeAway (l : Launch) (g : kG) (n : Nat) (a : Nat → Nat) (P : St1) (v1 : Int32) (r : St1) (hR : fX2_takeAway n P v1 = some r) : kSp l g yX2_takeAway wsX2_takeAway ({ frames := 2, cells := 0, slots := 0, locals := 49 }) [.ref (a 0), .int v1] (w_P g a P) (kQv g (w_P g a r)) := by
  refine kSp.of (cc := cX2_takeAway) (maxL := 2) (ret := none) (by decide) rfl (Nat.le_of_ble_eq_true rfl) ?_
  intro p e s m args below meth c ls A hC hr hlocks hA hK hl hP hD hS
  replace hC : CallFix p m c cX2_takeAway 2 s args wsX2_takeAway RX2 := hC
  obtain ⟨hx, hb, hml, hown, hts⟩ := id hC
  replace hl : lv_has ls 2 [(0, .ref (a 0)), (1, .int v1)] := hl
  unfold fX2_takeAway at hR
  have hw2 : ∀ w ∈ wsX20, w ∈ wsX2_takeAway := by decide +kernel
  have hl0 := hts (.fieldLink RX2 9 "FloatOrder$Parade" "floats" "I") (by decide +kernel)
  refine lv_aload_n hx hb dX2_takeAway_0 rfl (lv_at hl 0 rfl) ?_
  refine lv_iload_n hx hb dX2_takeAway_1 rfl (lv_at hl 1 rfl) ?_
  refine lv_aload_n hx hb dX2_takeAway_2 rfl (lv_at hl 0 rfl) ?_
  refine va_get (ci := 2) (C := RX2) (T := TX2) (N := 11) hx hb hts hw2 hown hK hP 0 rfl rfl 0 (by decide) hl0 (fun _ h9 => h9) rfl dX2_takeAway_3 ?_
  refine lv_iconst (v := (1 : Int32)) hx hb dX2_takeAway_6 (by decide) ?_
  refine lv_isub hx hb dX2_takeAway_7 ?_
  obtain ⟨x1, hq1, hR⟩ := kk_bd_el hR
  refine kk_call_Vv (w' := (w_P g a x1)) (As := [.int v1, .int ((P 0 0) - (1 : Int32))]) (rest := []) 0 2 hC (sX2_shift l g n a P v1 ((P 0 0) - (1 : Int32)) x1 hq1) (cwV 2 hts gX2_takeAway_X2_shift rfl rfl rfl (by decide +kernel) ⟨Nat.le_of_ble_eq_true rfl, Nat.le_of_ble_eq_true rfl⟩) hK hP hD hS hA [0, 1, 2, 3, 4, 5, 6, 7, 8, 9] rfl (by decide +kernel) rfl rfl rfl rfl rfl rfl rfl hl.1 (Nat.le_of_ble_eq_true rfl) dX2_takeAway_8 (fun H locs hP hD hS => ?_)
  refine lv_aload_n hx hb dX2_takeAway_11 rfl (lv_at hl 0 rfl) ?_
  refine lv_dup hx hb dX2_takeAway_12 rfl ?_
  refine va_get (ci := 2) (C := RX2) (T := TX2) (N := 11) hx hb hts hw2 hown hK hP 0 rfl rfl 0 (by decide) hl0 (fun _ h9 => h9) rfl dX2_takeAway_13 ?_
  refine lv_iconst (v := (1 : Int32)) hx hb dX2_takeAway_16 (by decide) ?_
  refine lv_isub hx hb dX2_takeAway_17 ?_
  obtain ⟨P2, eP2, hR⟩ := kk_nm_el hR
  refine kk_put (w' := (w_P g a P2)) (ci := 2) (C := RX2) (T := TX2) (N := 11) (ty := .int) (v := .int ((x1 0 0) - (1 : Int32))) hC hw2 tyX2 tyX2_ok nmX2 hK hP hD hS 0 rfl rfl 0 (by decide) hl0 rfl (by decide +kernel) rfl rfl (Nat.le_of_ble_eq_true rfl) (by rw [eP2]; rfl) dX2_takeAway_18 (fun H locs hP hD hS => ?_)
  obtain rfl := Option.some.inj hR
  exact kk_ret_v hC hr hlocks hK hP hD hS dX2_takeAway_21
set_option maxHeartbeats 8000000 in
set_option maxRecDepth 100000 in
theorem sX2_addLast (l : Launch) (g : kG) (n : Nat) (a : Nat → Nat) (P : St1) (v1 : Int32) (v2 : Int32) (v3 : Int32) (r : St1) (hR : fX2_addLast n P v1 v2 v3 = some r) : kSp l g yX2_addLast wsX2_addLast ({ frames := 0, cells := 0, slots := 0, locals := 0 }) [.ref (a 0), .int v1, .int v2, .int v3] (w_P g a P) (kQv g (w_P g a r)) := by
  refine kSp.of (cc := cX2_addLast) (maxL := 4) (ret := none) (by decide) rfl (Nat.le_of_ble_eq_true rfl) ?_
  intro p e s m args below meth c ls A hC hr hlocks hA hK hl hP hD hS
  replace hC : CallFix p m c cX2_addLast 4 s args wsX2_addLast RX2 := hC
  obtain ⟨hx, hb, hml, hown, hts⟩ := id hC
  replace hl : lv_has ls 4 [(0, .ref (a 0)), (1, .int v1), (2, .int v2), (3, .int v3)] := hl
  unfold fX2_addLast at hR
  have hw2 : ∀ w ∈ wsX20, w ∈ wsX2_addLast := by decide +kernel
  have hl0 := hts (.fieldLink RX2 9 "FloatOrder$Parade" "floats" "I") (by decide +kernel)
  have hl1 := hts (.fieldLink RX2 15 "FloatOrder$Parade" "kinds" "[I") (by decide +kernel)
  have hl2 := hts (.fieldLink RX2 19 "FloatOrder$Parade" "heights" "[I") (by decide +kernel)
  have hl3 := hts (.fieldLink RX2 22 "FloatOrder$Parade" "masks" "[I") (by decide +kernel)
  have hl4 := hts (.fieldLink RX2 25 "FloatOrder$Parade" "folded" "[Z") (by decide +kernel)
  refine lv_aload_n hx hb dX2_addLast_0 rfl (lv_at hl 0 rfl) ?_
  refine va_get (ci := 2) (C := RX2) (T := TX2) (N := 11) hx hb hts hw2 hown hK hP 0 rfl rfl 0 (by decide) hl0 (fun _ h9 => h9) rfl dX2_addLast_1 ?_
  refine lv_bipush (v := (12 : Int32)) hx hb dX2_addLast_4 (by decide) ?_
  refine lv_icmp_ge (tgt := 59) hx hb dX2_addLast_6 (by decide) (fun c1 => ?_) (fun c1 => ?_)
  · replace hR := (if_pos c1).symm.trans hR
    obtain rfl := Option.some.inj hR
    exact kk_ret_v hC hr hlocks hK hP hD hS dX2_addLast_59
  · replace hR := (if_neg c1).symm.trans hR
    refine lv_aload_n hx hb dX2_addLast_9 rfl (lv_at hl 0 rfl) ?_
    refine va_get (ci := 2) (C := RX2) (T := TX2) (N := 11) hx hb hts hw2 hown hK hP 0 rfl rfl 1 (by decide) hl1 (fun _ h9 => h9) rfl dX2_addLast_10 ?_
    refine lv_aload_n hx hb dX2_addLast_13 rfl (lv_at hl 0 rfl) ?_
    refine va_get (ci := 2) (C := RX2) (T := TX2) (N := 11) hx hb hts hw2 hown hK hP 0 rfl rfl 0 (by decide) hl0 (fun _ h9 => h9) rfl dX2_addLast_14 ?_
    refine lv_iload_n hx hb dX2_addLast_17 rfl (lv_at hl 1 rfl) ?_
    obtain ⟨hi3, hR⟩ := kk_ck_el hR
    obtain ⟨P2, eP2, hR⟩ := kk_nm_el hR
    refine kk_iast (w' := (w_P g a P2)) hC hK hP hD hS 1 rfl hi3 (by rw [eP2]; rfl) dX2_addLast_18 (fun H locs hP hD hS => ?_)
    refine lv_aload_n hx hb dX2_addLast_19 rfl (lv_at hl 0 rfl) ?_
    refine va_get (ci := 2) (C := RX2) (T := TX2) (N := 11) hx hb hts hw2 hown hK hP 0 rfl rfl 2 (by decide) hl2 (fun _ h9 => h9) rfl dX2_addLast_20 ?_
    refine lv_aload_n hx hb dX2_addLast_23 rfl (lv_at hl 0 rfl) ?_
    refine va_get (ci := 2) (C := RX2) (T := TX2) (N := 11) hx hb hts hw2 hown hK hP 0 rfl rfl 0 (by decide) hl0 (fun _ h9 => h9) rfl dX2_addLast_24 ?_
    refine lv_iload_n hx hb dX2_addLast_27 rfl (lv_at hl 2 rfl) ?_
    obtain ⟨hi5, hR⟩ := kk_ck_el hR
    obtain ⟨P4, eP4, hR⟩ := kk_nm_el hR
    refine kk_iast (w' := (w_P g a P4)) hC hK hP hD hS 2 rfl hi5 (by rw [eP4]; rfl) dX2_addLast_28 (fun H locs hP hD hS => ?_)
    refine lv_aload_n hx hb dX2_addLast_29 rfl (lv_at hl 0 rfl) ?_
    refine va_get (ci := 2) (C := RX2) (T := TX2) (N := 11) hx hb hts hw2 hown hK hP 0 rfl rfl 3 (by decide) hl3 (fun _ h9 => h9) rfl dX2_addLast_30 ?_
    refine lv_aload_n hx hb dX2_addLast_33 rfl (lv_at hl 0 rfl) ?_
    refine va_get (ci := 2) (C := RX2) (T := TX2) (N := 11) hx hb hts hw2 hown hK hP 0 rfl rfl 0 (by decide) hl0 (fun _ h9 => h9) rfl dX2_addLast_34 ?_
    refine lv_iload_n hx hb dX2_addLast_37 rfl (lv_at hl 3 rfl) ?_
    obtain ⟨hi7, hR⟩ := kk_ck_el hR
    obtain ⟨P6, eP6, hR⟩ := kk_nm_el hR
    refine kk_iast (w' := (w_P g a P6)) hC hK hP hD hS 3 rfl hi7 (by rw [eP6]; rfl) dX2_addLast_38 (fun H locs hP hD hS => ?_)
    refine lv_aload_n hx hb dX2_addLast_39 rfl (lv_at hl 0 rfl) ?_
    refine va_get (ci := 2) (C := RX2) (T := TX2) (N := 11) hx hb hts hw2 hown hK hP 0 rfl rfl 4 (by decide) hl4 (fun _ h9 => h9) rfl dX2_addLast_40 ?_
    refine lv_aload_n hx hb dX2_addLast_43 rfl (lv_at hl 0 rfl) ?_
    refine va_get (ci := 2) (C := RX2) (T := TX2) (N := 11) hx hb hts hw2 hown hK hP 0 rfl rfl 0 (by decide) hl0 (fun _ h9 => h9) rfl dX2_addLast_44 ?_
    refine lv_iconst (v := (0 : Int32)) hx hb dX2_addLast_47 (by decide) ?_
    obtain ⟨hi9, hR⟩ := kk_ck_el hR
    obtain ⟨hz11, hR⟩ := kk_cb_el hR
    obtain ⟨P8, eP8, hR⟩ := kk_nm_el hR
    refine kk_zast (w' := (w_P g a P8)) hC hK hP hD hS 4 rfl hi9 hz11 (by rw [eP8]; rfl) dX2_addLast_48 (fun H locs hP hD hS => ?_)
    refine lv_aload_n hx hb dX2_addLast_49 rfl (lv_at hl 0 rfl) ?_
    refine lv_dup hx hb dX2_addLast_50 rfl ?_
    refine va_get (ci := 2) (C := RX2) (T := TX2) (N := 11) hx hb hts hw2 hown hK hP 0 rfl rfl 0 (by decide) hl0 (fun _ h9 => h9) rfl dX2_addLast_51 ?_
    refine lv_iconst (v := (1 : Int32)) hx hb dX2_addLast_54 (by decide) ?_
    refine lv_iadd hx hb dX2_addLast_55 ?_
    obtain ⟨P10, eP10, hR⟩ := kk_nm_el hR
    refine kk_put (w' := (w_P g a P10)) (ci := 2) (C := RX2) (T := TX2) (N := 11) (ty := .int) (v := .int ((P8 0 0) + (1 : Int32))) hC hw2 tyX2 tyX2_ok nmX2 hK hP hD hS 0 rfl rfl 0 (by decide) hl0 rfl (by decide +kernel) rfl rfl (Nat.le_of_ble_eq_true rfl) (by rw [eP10]; rfl) dX2_addLast_56 (fun H locs hP hD hS => ?_)
    obtain rfl := Option.some.inj hR
    exact kk_ret_v hC hr hlocks hK hP hD hS dX2_addLast_59
set_option maxHeartbeats 8000000 in
set_option maxRecDepth 100000 in
theorem sX2_countedHeight (l : Launch) (g : kG) (n : Nat) (a : Nat → Nat) (P : St1) (v1 : Int32) (r : Int32) (hR : fX2_countedHeight n P v1 = some r) : kSp l g yX2_countedHeight wsX2_countedHeight ({ frames := 0, cells := 0, slots := 0, locals := 0 }) [.ref (a 0), .int v1] (w_P g a P) (kQi g (w_P g a P) r) := by
  refine kSp.of (cc := cX2_countedHeight) (maxL := 3) (ret := (some .int)) (by decide) rfl (Nat.le_of_ble_eq_true rfl) ?_
  intro p e s m args below meth c ls A hC hr hlocks hA hK hl hP hD hS
  replace hC : CallFix p m c cX2_countedHeight 3 s args wsX2_countedHeight RX2 := hC
  obtain ⟨hx, hb, hml, hown, hts⟩ := id hC
  replace hl : lv_has ls 3 [(0, .ref (a 0)), (1, .int v1)] := hl
  unfold fX2_countedHeight at hR
  have hw2 : ∀ w ∈ wsX20, w ∈ wsX2_countedHeight := by decide +kernel
  have hl0 := hts (.fieldLink RX2 25 "FloatOrder$Parade" "folded" "[Z") (by decide +kernel)
  have hl1 := hts (.fieldLink RX2 19 "FloatOrder$Parade" "heights" "[I") (by decide +kernel)
  refine lv_aload_n hx hb dX2_countedHeight_0 rfl (lv_at hl 0 rfl) ?_
  refine va_get (ci := 2) (C := RX2) (T := TX2) (N := 11) hx hb hts hw2 hown hK hP 0 rfl rfl 4 (by decide) hl0 (fun _ h9 => h9) rfl dX2_countedHeight_1 ?_
  refine lv_iload_n hx hb dX2_countedHeight_4 rfl (lv_at hl 1 rfl) ?_
  obtain ⟨hi1, hR⟩ := kk_ck_el hR
  refine va_zald hx hb hK hP 4 1 rfl rfl hi1 dX2_countedHeight_5 ?_
  obtain ⟨x5, hq5, hR⟩ := kk_bd_el hR
  refine kk_cut (g := g) (A := A) (w' := (w_P g a P)) (nL := 3) (lv := []) (pcJ := 27) (st := [.int x5]) (fun H locs ls hP hD hS hl => ?_) (fun hj5 => ?_)
  · refine lv_istore_n (lv' := [(2, .int x5)]) hx hb dX2_countedHeight_27 rfl hl (by decide) rfl (fun ls hl => ?_)
    refine lv_iload_n hx hb dX2_countedHeight_28 rfl (lv_at hl 0 rfl) ?_
    refine lv_bipush (v := (10 : Int32)) hx hb dX2_countedHeight_29 (by decide) ?_
    refine lv_icmp_ge (tgt := 39) hx hb dX2_countedHeight_31 (by decide) (fun c9 => ?_) (fun c9 => ?_)
    · replace hR := (if_pos c9).symm.trans hR
      refine lv_iload_n hx hb dX2_countedHeight_39 rfl (lv_at hl 0 rfl) ?_
      obtain rfl := Option.some.inj hR
      exact kk_ret_i hC hr hlocks hK hP hD hS dX2_countedHeight_40 rfl
    · replace hR := (if_neg c9).symm.trans hR
      refine lv_bipush (v := (10 : Int32)) hx hb dX2_countedHeight_34 (by decide) ?_
      refine lv_goto (tgt := 40) hx hb dX2_countedHeight_36 (by decide) ?_
      obtain rfl := Option.some.inj hR
      exact kk_ret_i hC hr hlocks hK hP hD hS dX2_countedHeight_40 rfl
  replace hR := hq5
  refine lv_if_eq (tgt := 21) hx hb dX2_countedHeight_6 (by decide) (fun c6 => ?_) (fun c6 => ?_)
  · replace hR := (if_pos c6).symm.trans hR
    refine lv_aload_n hx hb dX2_countedHeight_21 rfl (lv_at hl 0 rfl) ?_
    refine va_get (ci := 2) (C := RX2) (T := TX2) (N := 11) hx hb hts hw2 hown hK hP 0 rfl rfl 2 (by decide) hl1 (fun _ h9 => h9) rfl dX2_countedHeight_22 ?_
    refine lv_iload_n hx hb dX2_countedHeight_25 rfl (lv_at hl 1 rfl) ?_
    obtain ⟨hi7, hR⟩ := kk_ck_el hR
    refine va_iald hx hb hK hP 2 0 rfl rfl hi7 dX2_countedHeight_26 ?_
    obtain rfl := Option.some.inj hR
    exact hj5 _ _ _ hP hD hS (lv_sub hl [] rfl)
  · replace hR := (if_neg c6).symm.trans hR
    refine lv_aload_n hx hb dX2_countedHeight_9 rfl (lv_at hl 0 rfl) ?_
    refine va_get (ci := 2) (C := RX2) (T := TX2) (N := 11) hx hb hts hw2 hown hK hP 0 rfl rfl 2 (by decide) hl1 (fun _ h9 => h9) rfl dX2_countedHeight_10 ?_
    refine lv_iload_n hx hb dX2_countedHeight_13 rfl (lv_at hl 1 rfl) ?_
    obtain ⟨hi8, hR⟩ := kk_ck_el hR
    refine va_iald hx hb hK hP 2 0 rfl rfl hi8 dX2_countedHeight_14 ?_
    refine lv_bipush (v := (20 : Int32)) hx hb dX2_countedHeight_15 (by decide) ?_
    refine lv_isub hx hb dX2_countedHeight_17 ?_
    refine lv_goto (tgt := 27) hx hb dX2_countedHeight_18 (by decide) ?_
    obtain rfl := Option.some.inj hR
    exact hj5 _ _ _ hP hD hS (lv_sub hl [] rfl)
set_option maxHeartbeats 8000000 in
set_option maxRecDepth 100000 in
theorem sX2_shying (l : Launch) (g : kG) (n : Nat) (a : Nat → Nat) (P : St1) (v1 : Int32) (r : Int32) (hR : fX2_shying n P v1 = some r) : kSp l g yX2_shying wsX2_shying ({ frames := 0, cells := 0, slots := 0, locals := 0 }) [.ref (a 0), .int v1] (w_P g a P) (kQi g (w_P g a P) r) := by
  refine kSp.of (cc := cX2_shying) (maxL := 3) (ret := (some .int)) (by decide) rfl (Nat.le_of_ble_eq_true rfl) ?_
  intro p e s m args below meth c ls A hC hr hlocks hA hK hl hP hD hS
  replace hC : CallFix p m c cX2_shying 3 s args wsX2_shying RX2 := hC
  obtain ⟨hx, hb, hml, hown, hts⟩ := id hC
  replace hl : lv_has ls 3 [(0, .ref (a 0)), (1, .int v1)] := hl
  unfold fX2_shying at hR
  have hw2 : ∀ w ∈ wsX20, w ∈ wsX2_shying := by decide +kernel
  have hl0 := hts (.fieldLink RX2 22 "FloatOrder$Parade" "masks" "[I") (by decide +kernel)
  have hl1 := hts (.fieldLink RX2 15 "FloatOrder$Parade" "kinds" "[I") (by decide +kernel)
  refine lv_iconst (v := (0 : Int32)) hx hb dX2_shying_0 (by decide) ?_
  refine lv_istore_n (lv' := [(2, .int (0 : Int32)), (0, .ref (a 0)), (1, .int v1)]) hx hb dX2_shying_1 rfl hl (by decide) rfl (fun ls hl => ?_)
  refine lv_iload_n hx hb dX2_shying_2 rfl (lv_at hl 2 rfl) ?_
  refine lv_iconst (v := (1 : Int32)) hx hb dX2_shying_3 (by decide) ?_
  obtain ⟨x5, hq5, hR⟩ := kk_bd_el hR
  refine kk_cut (g := g) (A := A) (w' := (w_P g a P)) (nL := 3) (lv := [(2, .int x5), (0, .ref (a 0)), (1, .int v1)]) (pcJ := 31) (st := []) (fun H locs ls hP hD hS hl => ?_) (fun hj5 => ?_)
  · refine lv_iload_n hx hb dX2_shying_31 rfl (lv_at hl 2 rfl) ?_
    refine lv_iconst (v := (2 : Int32)) hx hb dX2_shying_32 (by decide) ?_
    refine lv_icmp_lt (tgt := 60) hx hb dX2_shying_33 (by decide) (fun c10 => ?_) (fun c10 => ?_)
    · replace hR := (if_pos c10).symm.trans hR
      refine lv_iload_n hx hb dX2_shying_60 rfl (lv_at hl 0 rfl) ?_
      obtain rfl := Option.some.inj hR
      exact kk_ret_i hC hr hlocks hK hP hD hS dX2_shying_61 rfl
    · replace hR := (if_neg c10).symm.trans hR
      refine lv_aload_n hx hb dX2_shying_36 rfl (lv_at hl 1 rfl) ?_
      refine va_get (ci := 2) (C := RX2) (T := TX2) (N := 11) hx hb hts hw2 hown hK hP 0 rfl rfl 3 (by decide) hl0 (fun _ h9 => h9) rfl dX2_shying_37 ?_
      refine lv_iload_n hx hb dX2_shying_40 rfl (lv_at hl 2 rfl) ?_
      obtain ⟨hi11, hR⟩ := kk_ck_el hR
      refine va_iald hx hb hK hP 3 0 rfl rfl hi11 dX2_shying_41 ?_
      refine lv_aload_n hx hb dX2_shying_42 rfl (lv_at hl 1 rfl) ?_
      refine va_get (ci := 2) (C := RX2) (T := TX2) (N := 11) hx hb hts hw2 hown hK hP 0 rfl rfl 1 (by decide) hl1 (fun _ h9 => h9) rfl dX2_shying_43 ?_
      refine lv_iload_n hx hb dX2_shying_46 rfl (lv_at hl 2 rfl) ?_
      refine lv_iconst (v := (2 : Int32)) hx hb dX2_shying_47 (by decide) ?_
      refine lv_isub hx hb dX2_shying_48 ?_
      obtain ⟨hi12, hR⟩ := kk_ck_el hR
      refine va_iald hx hb hK hP 1 0 rfl rfl hi12 dX2_shying_49 ?_
      refine lv_ishr hx hb dX2_shying_50 ?_
      refine lv_iconst (v := (1 : Int32)) hx hb dX2_shying_51 (by decide) ?_
      refine lv_iand hx hb dX2_shying_52 ?_
      refine lv_iconst (v := (1 : Int32)) hx hb dX2_shying_53 (by decide) ?_
      refine lv_icmp_ne (tgt := 60) hx hb dX2_shying_54 (by decide) (fun c13 => ?_) (fun c13 => ?_)
      · replace hR := (if_neg c13).symm.trans hR
        refine lv_iload_n hx hb dX2_shying_60 rfl (lv_at hl 0 rfl) ?_
        obtain rfl := Option.some.inj hR
        exact kk_ret_i hC hr hlocks hK hP hD hS dX2_shying_61 rfl
      · replace hR := (if_pos c13).symm.trans hR
        refine lv_iinc (v := (x5 + (1 : Int32))) (lv' := [(2, .int (x5 + (1 : Int32))), (0, .ref (a 0)), (1, .int v1)]) hx hb dX2_shying_57 hl (k := 0) rfl rfl (by decide) rfl (fun ls hl => ?_)
        refine lv_iload_n hx hb dX2_shying_60 rfl (lv_at hl 0 rfl) ?_
        obtain rfl := Option.some.inj hR
        exact kk_ret_i hC hr hlocks hK hP hD hS dX2_shying_61 rfl
  replace hR := hq5
  refine lv_icmp_lt (tgt := 31) hx hb dX2_shying_4 (by decide) (fun c6 => ?_) (fun c6 => ?_)
  · replace hR := (if_pos c6).symm.trans hR
    obtain rfl := Option.some.inj hR
    exact hj5 _ _ _ hP hD hS (lv_sub hl [0, 1, 2] rfl)
  · replace hR := (if_neg c6).symm.trans hR
    refine lv_aload_n hx hb dX2_shying_7 rfl (lv_at hl 1 rfl) ?_
    refine va_get (ci := 2) (C := RX2) (T := TX2) (N := 11) hx hb hts hw2 hown hK hP 0 rfl rfl 3 (by decide) hl0 (fun _ h9 => h9) rfl dX2_shying_8 ?_
    refine lv_iload_n hx hb dX2_shying_11 rfl (lv_at hl 2 rfl) ?_
    obtain ⟨hi7, hR⟩ := kk_ck_el hR
    refine va_iald hx hb hK hP 3 0 rfl rfl hi7 dX2_shying_12 ?_
    refine lv_aload_n hx hb dX2_shying_13 rfl (lv_at hl 1 rfl) ?_
    refine va_get (ci := 2) (C := RX2) (T := TX2) (N := 11) hx hb hts hw2 hown hK hP 0 rfl rfl 1 (by decide) hl1 (fun _ h9 => h9) rfl dX2_shying_14 ?_
    refine lv_iload_n hx hb dX2_shying_17 rfl (lv_at hl 2 rfl) ?_
    refine lv_iconst (v := (1 : Int32)) hx hb dX2_shying_18 (by decide) ?_
    refine lv_isub hx hb dX2_shying_19 ?_
    obtain ⟨hi8, hR⟩ := kk_ck_el hR
    refine va_iald hx hb hK hP 1 0 rfl rfl hi8 dX2_shying_20 ?_
    refine lv_ishr hx hb dX2_shying_21 ?_
    refine lv_iconst (v := (1 : Int32)) hx hb dX2_shying_22 (by decide) ?_
    refine lv_iand hx hb dX2_shying_23 ?_
    refine lv_iconst (v := (1 : Int32)) hx hb dX2_shying_24 (by decide) ?_
    refine lv_icmp_ne (tgt := 31) hx hb dX2_shying_25 (by decide) (fun c9 => ?_) (fun c9 => ?_)
    · replace hR := (if_neg c9).symm.trans hR
      obtain rfl := Option.some.inj hR
      exact hj5 _ _ _ hP hD hS (lv_sub hl [0, 1, 2] rfl)
    · replace hR := (if_pos c9).symm.trans hR
      refine lv_iinc (v := ((0 : Int32) + (3 : Int32))) (lv' := [(2, .int ((0 : Int32) + (3 : Int32))), (0, .ref (a 0)), (1, .int v1)]) hx hb dX2_shying_28 hl (k := 0) rfl rfl (by decide) rfl (fun ls hl => ?_)
      obtain rfl := Option.some.inj hR
      exact hj5 _ _ _ hP hD hS (lv_sub hl [0, 1, 2] rfl)
set_option maxHeartbeats 8000000 in
set_option maxRecDepth 100000 in
theorem sX2_hearing (l : Launch) (g : kG) (n : Nat) (a : Nat → Nat) (P : St1) (v1 : Int32) (r : Int32) (hR : fX2_hearing n P v1 = some r) : kSp l g yX2_hearing wsX2_hearing ({ frames := 0, cells := 0, slots := 0, locals := 0 }) [.ref (a 0), .int v1] (w_P g a P) (kQi g (w_P g a P) r) := by
  refine kSp.of (cc := cX2_hearing) (maxL := 4) (ret := (some .int)) (by decide) rfl (Nat.le_of_ble_eq_true rfl) ?_
  intro p e s m args below meth c ls A hC hr hlocks hA hK hl hP hD hS
  replace hC : CallFix p m c cX2_hearing 4 s args wsX2_hearing RX2 := hC
  obtain ⟨hx, hb, hml, hown, hts⟩ := id hC
  replace hl : lv_has ls 4 [(0, .ref (a 0)), (1, .int v1)] := hl
  unfold fX2_hearing at hR
  have hw2 : ∀ w ∈ wsX20, w ∈ wsX2_hearing := by decide +kernel
  have hl0 := hts (.fieldLink RX2 15 "FloatOrder$Parade" "kinds" "[I") (by decide +kernel)
  have hl1 := hts (.fieldLink RX2 38 "FloatOrder$Parade" "settings" "[I") (by decide +kernel)
  refine lv_iconst (v := (0 : Int32)) hx hb dX2_hearing_0 (by decide) ?_
  refine lv_istore_n (lv' := [(2, .int (0 : Int32)), (0, .ref (a 0)), (1, .int v1)]) hx hb dX2_hearing_1 rfl hl (by decide) rfl (fun ls hl => ?_)
  refine lv_aload_n hx hb dX2_hearing_2 rfl (lv_at hl 1 rfl) ?_
  refine va_get (ci := 2) (C := RX2) (T := TX2) (N := 11) hx hb hts hw2 hown hK hP 0 rfl rfl 1 (by decide) hl0 (fun _ h9 => h9) rfl dX2_hearing_3 ?_
  refine lv_iload_n hx hb dX2_hearing_6 rfl (lv_at hl 2 rfl) ?_
  obtain ⟨hi1, hR⟩ := kk_ck_el hR
  refine va_iald hx hb hK hP 1 0 rfl rfl hi1 dX2_hearing_7 ?_
  refine lv_iconst (v := (2 : Int32)) hx hb dX2_hearing_8 (by decide) ?_
  refine lv_icmp_ne (tgt := 50) hx hb dX2_hearing_9 (by decide) (fun c2 => ?_) (fun c2 => ?_)
  · replace hR := (if_neg c2).symm.trans hR
    refine lv_iload_n hx hb dX2_hearing_50 rfl (lv_at hl 0 rfl) ?_
    obtain rfl := Option.some.inj hR
    exact kk_ret_i hC hr hlocks hK hP hD hS dX2_hearing_51 rfl
  · replace hR := (if_pos c2).symm.trans hR
    refine lv_iconst (v := (1 : Int32)) hx hb dX2_hearing_12 (by decide) ?_
    refine lv_istore_n (lv' := [(3, .int (1 : Int32)), (2, .int (0 : Int32)), (0, .ref (a 0)), (1, .int v1)]) hx hb dX2_hearing_13 rfl hl (by decide) rfl (fun ls hl => ?_)
    obtain ⟨x13, hq13, hR⟩ := kk_bd_el hR
    refine kk_cut (g := g) (A := A) (w' := (w_P g a P)) (nL := 4) (lv := [(2, .int x13)]) (pcJ := 50) (st := []) (fun H locs ls hP hD hS hl => ?_) (fun hj13 => ?_)
    · refine lv_iload_n hx hb dX2_hearing_50 rfl (lv_at hl 0 rfl) ?_
      obtain rfl := Option.some.inj hR
      exact kk_ret_i hC hr hlocks hK hP hD hS dX2_hearing_51 rfl
    refine kk_loop (g := g) (A := A) (fun (st : Int32 × Int32) => (w_P g a P)) (fun (st : Int32 × Int32) => [(3, .int st.2), (2, .int st.1), (0, .ref (a 0)), (1, .int v1)]) 14 (nL := 4) hq13 (fun st xb12 hR ih1 hX1 => ?_) hP hD hS (lv_sub hl [0, 1, 2, 3] rfl)
    clear hP hD hS hl
    obtain ⟨u10, u11⟩ := st
    intro H locs ls hP hD hS hl
    replace hR : fX2_hearing_b14 n P v1 u10 u11 = some xb12 := hR
    replace hP : va_P g.1 vwCl (w_P g a P) H := hP
    replace hD : va_D A (w_P g a P) := hD
    replace hl : lv_has ls 4 [(3, .int u11), (2, .int u10), (0, .ref (a 0)), (1, .int v1)] := hl
    unfold fX2_hearing_b14 at hR
    refine lv_iload_n hx hb dX2_hearing_14 rfl (lv_at hl 0 rfl) ?_
    refine lv_aload_n hx hb dX2_hearing_15 rfl (lv_at hl 2 rfl) ?_
    refine va_get (ci := 2) (C := RX2) (T := TX2) (N := 11) hx hb hts hw2 hown hK hP 0 rfl rfl 8 (by decide) hl1 (fun _ h9 => h9) rfl dX2_hearing_16 ?_
    refine lv_iconst (v := (0 : Int32)) hx hb dX2_hearing_19 (by decide) ?_
    refine va_iald hx hb hK hP 7 0 rfl rfl (kk_in 0 4 (by decide) (by decide) rfl) dX2_hearing_20 ?_
    refine lv_icmp_ge (tgt := 50) hx hb dX2_hearing_21 (by decide) (fun c14 => ?_) (fun c14 => ?_)
    · replace hR := (if_pos c14).symm.trans hR
      obtain rfl := Option.some.inj hR
      obtain rfl := hX1 _ rfl
      exact hj13 _ _ _ hP hD hS (lv_sub hl [1] rfl)
    · replace hR := (if_neg c14).symm.trans hR
      refine lv_iload_n hx hb dX2_hearing_24 rfl (lv_at hl 0 rfl) ?_
      refine lv_iload_n hx hb dX2_hearing_25 rfl (lv_at hl 3 rfl) ?_
      refine lv_icmp_gt (tgt := 50) hx hb dX2_hearing_26 (by decide) (fun c15 => ?_) (fun c15 => ?_)
      · replace hR := (if_pos c15).symm.trans hR
        obtain rfl := Option.some.inj hR
        obtain rfl := hX1 _ rfl
        exact hj13 _ _ _ hP hD hS (lv_sub hl [1] rfl)
      · replace hR := (if_neg c15).symm.trans hR
        refine lv_aload_n hx hb dX2_hearing_29 rfl (lv_at hl 2 rfl) ?_
        refine va_get (ci := 2) (C := RX2) (T := TX2) (N := 11) hx hb hts hw2 hown hK hP 0 rfl rfl 1 (by decide) hl0 (fun _ h9 => h9) rfl dX2_hearing_30 ?_
        refine lv_iload_n hx hb dX2_hearing_33 rfl (lv_at hl 3 rfl) ?_
        refine lv_iload_n hx hb dX2_hearing_34 rfl (lv_at hl 0 rfl) ?_
        refine lv_isub hx hb dX2_hearing_35 ?_
        obtain ⟨hi16, hR⟩ := kk_ck_el hR
        refine va_iald hx hb hK hP 1 0 rfl rfl hi16 dX2_hearing_36 ?_
        refine lv_iconst (v := (2 : Int32)) hx hb dX2_hearing_37 (by decide) ?_
        refine lv_icmp_ne (tgt := 44) hx hb dX2_hearing_38 (by decide) (fun c17 => ?_) (fun c17 => ?_)
        · replace hR := (if_neg c17).symm.trans hR
          refine lv_iinc (v := (u11 + (1 : Int32))) (lv' := [(3, .int (u11 + (1 : Int32))), (2, .int u10), (0, .ref (a 0)), (1, .int v1)]) hx hb dX2_hearing_44 hl (k := 0) rfl rfl (by decide) rfl (fun ls hl => ?_)
          refine lv_goto (tgt := 14) hx hb dX2_hearing_47 (by decide) ?_
          obtain rfl := Option.some.inj hR
          exact ih1 _ rfl _ _ _ hP hD hS (lv_sub hl [0, 1, 2, 3] rfl)
        · replace hR := (if_pos c17).symm.trans hR
          refine lv_iinc (v := (u10 + (1 : Int32))) (lv' := [(2, .int (u10 + (1 : Int32))), (3, .int u11), (0, .ref (a 0)), (1, .int v1)]) hx hb dX2_hearing_41 hl (k := 1) rfl rfl (by decide) rfl (fun ls hl => ?_)
          refine lv_iinc (v := (u11 + (1 : Int32))) (lv' := [(3, .int (u11 + (1 : Int32))), (2, .int (u10 + (1 : Int32))), (0, .ref (a 0)), (1, .int v1)]) hx hb dX2_hearing_44 hl (k := 1) rfl rfl (by decide) rfl (fun ls hl => ?_)
          refine lv_goto (tgt := 14) hx hb dX2_hearing_47 (by decide) ?_
          obtain rfl := Option.some.inj hR
          exact ih1 _ rfl _ _ _ hP hD hS (lv_sub hl [0, 1, 2, 3] rfl)
set_option maxHeartbeats 8000000 in
set_option maxRecDepth 100000 in
theorem sX2_meeting (l : Launch) (g : kG) (n : Nat) (a : Nat → Nat) (P : St1) (v1 : Int32) (r : Int32) (hR : fX2_meeting n P v1 = some r) : kSp l g yX2_meeting wsX2_meeting ({ frames := 0, cells := 0, slots := 0, locals := 0 }) [.ref (a 0), .int v1] (w_P g a P) (kQi g (w_P g a P) r) := by
  refine kSp.of (cc := cX2_meeting) (maxL := 2) (ret := (some .int)) (by decide) rfl (Nat.le_of_ble_eq_true rfl) ?_
  intro p e s m args below meth c ls A hC hr hlocks hA hK hl hP hD hS
  replace hC : CallFix p m c cX2_meeting 2 s args wsX2_meeting RX2 := hC
  obtain ⟨hx, hb, hml, hown, hts⟩ := id hC
  replace hl : lv_has ls 2 [(0, .ref (a 0)), (1, .int v1)] := hl
  unfold fX2_meeting at hR
  have hw2 : ∀ w ∈ wsX20, w ∈ wsX2_meeting := by decide +kernel
  have hl0 := hts (.fieldLink RX2 15 "FloatOrder$Parade" "kinds" "[I") (by decide +kernel)
  refine lv_iload_n hx hb dX2_meeting_0 rfl (lv_at hl 1 rfl) ?_
  refine lv_iconst (v := (1 : Int32)) hx hb dX2_meeting_1 (by decide) ?_
  refine lv_icmp_lt (tgt := 31) hx hb dX2_meeting_2 (by decide) (fun c1 => ?_) (fun c1 => ?_)
  · replace hR := (if_pos c1).symm.trans hR
    refine lv_iconst (v := (0 : Int32)) hx hb dX2_meeting_31 (by decide) ?_
    obtain rfl := Option.some.inj hR
    exact kk_ret_i hC hr hlocks hK hP hD hS dX2_meeting_32 rfl
  · replace hR := (if_neg c1).symm.trans hR
    refine lv_aload_n hx hb dX2_meeting_5 rfl (lv_at hl 0 rfl) ?_
    refine va_get (ci := 2) (C := RX2) (T := TX2) (N := 11) hx hb hts hw2 hown hK hP 0 rfl rfl 1 (by decide) hl0 (fun _ h9 => h9) rfl dX2_meeting_6 ?_
    refine lv_iload_n hx hb dX2_meeting_9 rfl (lv_at hl 1 rfl) ?_
    obtain ⟨hi2, hR⟩ := kk_ck_el hR
    refine va_iald hx hb hK hP 1 0 rfl rfl hi2 dX2_meeting_10 ?_
    refine lv_iconst (v := (3 : Int32)) hx hb dX2_meeting_11 (by decide) ?_
    refine lv_icmp_ne (tgt := 31) hx hb dX2_meeting_12 (by decide) (fun c3 => ?_) (fun c3 => ?_)
    · replace hR := (if_neg c3).symm.trans hR
      refine lv_iconst (v := (0 : Int32)) hx hb dX2_meeting_31 (by decide) ?_
      obtain rfl := Option.some.inj hR
      exact kk_ret_i hC hr hlocks hK hP hD hS dX2_meeting_32 rfl
    · replace hR := (if_pos c3).symm.trans hR
      refine lv_aload_n hx hb dX2_meeting_15 rfl (lv_at hl 0 rfl) ?_
      refine va_get (ci := 2) (C := RX2) (T := TX2) (N := 11) hx hb hts hw2 hown hK hP 0 rfl rfl 1 (by decide) hl0 (fun _ h9 => h9) rfl dX2_meeting_16 ?_
      refine lv_iload_n hx hb dX2_meeting_19 rfl (lv_at hl 1 rfl) ?_
      refine lv_iconst (v := (1 : Int32)) hx hb dX2_meeting_20 (by decide) ?_
      refine lv_isub hx hb dX2_meeting_21 ?_
      obtain ⟨hi4, hR⟩ := kk_ck_el hR
      refine va_iald hx hb hK hP 1 0 rfl rfl hi4 dX2_meeting_22 ?_
      refine lv_iconst (v := (3 : Int32)) hx hb dX2_meeting_23 (by decide) ?_
      refine lv_icmp_ne (tgt := 31) hx hb dX2_meeting_24 (by decide) (fun c5 => ?_) (fun c5 => ?_)
      · replace hR := (if_neg c5).symm.trans hR
        refine lv_iconst (v := (0 : Int32)) hx hb dX2_meeting_31 (by decide) ?_
        obtain rfl := Option.some.inj hR
        exact kk_ret_i hC hr hlocks hK hP hD hS dX2_meeting_32 rfl
      · replace hR := (if_pos c5).symm.trans hR
        refine lv_iconst (v := (2 : Int32)) hx hb dX2_meeting_27 (by decide) ?_
        refine lv_goto (tgt := 32) hx hb dX2_meeting_28 (by decide) ?_
        obtain rfl := Option.some.inj hR
        exact kk_ret_i hC hr hlocks hK hP hD hS dX2_meeting_32 rfl
set_option maxHeartbeats 8000000 in
set_option maxRecDepth 100000 in
theorem sX2_troubleAt (l : Launch) (g : kG) (n : Nat) (a : Nat → Nat) (P : St1) (v1 : Int32) (r : Int32) (hR : fX2_troubleAt n P v1 = some r) : kSp l g yX2_troubleAt wsX2_troubleAt ({ frames := 1, cells := 0, slots := 0, locals := 23 }) [.ref (a 0), .int v1] (w_P g a P) (kQi g (w_P g a P) r) := by
  refine kSp.of (cc := cX2_troubleAt) (maxL := 2) (ret := (some .int)) (by decide) rfl (Nat.le_of_ble_eq_true rfl) ?_
  intro p e s m args below meth c ls A hC hr hlocks hA hK hl hP hD hS
  replace hC : CallFix p m c cX2_troubleAt 2 s args wsX2_troubleAt RX2 := hC
  obtain ⟨hx, hb, hml, hown, hts⟩ := id hC
  replace hl : lv_has ls 2 [(0, .ref (a 0)), (1, .int v1)] := hl
  unfold fX2_troubleAt at hR
  refine lv_aload_n hx hb dX2_troubleAt_0 rfl (lv_at hl 0 rfl) ?_
  refine lv_iload_n hx hb dX2_troubleAt_1 rfl (lv_at hl 1 rfl) ?_
  obtain ⟨x1, hq1, hR⟩ := kk_bd_el hR
  refine kk_call_Vi (w' := (w_P g a P)) (As := [.int v1]) (rest := []) 0 2 hC (sX2_shying l g n a P v1 x1 hq1) (cwV 1 hts gX2_troubleAt_X2_shying rfl rfl rfl (by decide +kernel) ⟨Nat.le_of_ble_eq_true rfl, Nat.le_of_ble_eq_true rfl⟩) hK hP hD hS hA [0, 1, 2, 3, 4, 5, 6, 7, 8, 9] rfl (by decide +kernel) rfl rfl rfl rfl rfl rfl rfl hl.1 (Nat.le_of_ble_eq_true rfl) dX2_troubleAt_2 (fun H locs hP hD hS => ?_)
  refine lv_aload_n hx hb dX2_troubleAt_5 rfl (lv_at hl 0 rfl) ?_
  refine lv_iload_n hx hb dX2_troubleAt_6 rfl (lv_at hl 1 rfl) ?_
  obtain ⟨x2, hq2, hR⟩ := kk_bd_el hR
  refine kk_call_Vi (w' := (w_P g a P)) (As := [.int v1]) (rest := [.int x1]) 0 2 hC (sX2_hearing l g n a P v1 x2 hq2) (cwV 1 hts gX2_troubleAt_X2_hearing rfl rfl rfl (by decide +kernel) ⟨Nat.le_of_ble_eq_true rfl, Nat.le_of_ble_eq_true rfl⟩) hK hP hD hS hA [0, 1, 2, 3, 4, 5, 6, 7, 8, 9] rfl (by decide +kernel) rfl rfl rfl rfl rfl rfl rfl hl.1 (Nat.le_of_ble_eq_true rfl) dX2_troubleAt_7 (fun H locs hP hD hS => ?_)
  refine lv_iadd hx hb dX2_troubleAt_10 ?_
  refine lv_aload_n hx hb dX2_troubleAt_11 rfl (lv_at hl 0 rfl) ?_
  refine lv_iload_n hx hb dX2_troubleAt_12 rfl (lv_at hl 1 rfl) ?_
  obtain ⟨x3, hq3, hR⟩ := kk_bd_el hR
  refine kk_call_Vi (w' := (w_P g a P)) (As := [.int v1]) (rest := [.int (x1 + x2)]) 0 2 hC (sX2_meeting l g n a P v1 x3 hq3) (cwV 1 hts gX2_troubleAt_X2_meeting rfl rfl rfl (by decide +kernel) ⟨Nat.le_of_ble_eq_true rfl, Nat.le_of_ble_eq_true rfl⟩) hK hP hD hS hA [0, 1, 2, 3, 4, 5, 6, 7, 8, 9] rfl (by decide +kernel) rfl rfl rfl rfl rfl rfl rfl hl.1 (Nat.le_of_ble_eq_true rfl) dX2_troubleAt_13 (fun H locs hP hD hS => ?_)
  refine lv_iadd hx hb dX2_troubleAt_16 ?_
  obtain rfl := Option.some.inj hR
  exact kk_ret_i hC hr hlocks hK hP hD hS dX2_troubleAt_17 rfl
set_option maxHeartbeats 8000000 in
set_option maxRecDepth 100000 in
theorem sX2_troubleBy (l : Launch) (g : kG) (n : Nat) (a : Nat → Nat) (P : St1) (v1 : Int32) (v2 : Int32) (r : Int32) (hR : fX2_troubleBy n P v1 v2 = some r) : kSp l g yX2_troubleBy wsX2_troubleBy ({ frames := 1, cells := 0, slots := 0, locals := 23 }) [.ref (a 0), .int v1, .int v2] (w_P g a P) (kQi g (w_P g a P) r) := by
  refine kSp.of (cc := cX2_troubleBy) (maxL := 3) (ret := (some .int)) (by decide) rfl (Nat.le_of_ble_eq_true rfl) ?_
  intro p e s m args below meth c ls A hC hr hlocks hA hK hl hP hD hS
  replace hC : CallFix p m c cX2_troubleBy 3 s args wsX2_troubleBy RX2 := hC
  obtain ⟨hx, hb, hml, hown, hts⟩ := id hC
  replace hl : lv_has ls 3 [(0, .ref (a 0)), (1, .int v1), (2, .int v2)] := hl
  unfold fX2_troubleBy at hR
  refine lv_iload_n hx hb dX2_troubleBy_0 rfl (lv_at hl 2 rfl) ?_
  by_cases c1 : v2 = (0 : Int32)
  · replace hR := (if_pos c1).symm.trans hR
    refine lv_lookup (off := 27) (tgt := 28) hx hb dX2_troubleBy_1 (by decide) (by rw [c1]; rfl) (by decide) ?_
    refine lv_aload_n hx hb dX2_troubleBy_28 rfl (lv_at hl 0 rfl) ?_
    refine lv_iload_n hx hb dX2_troubleBy_29 rfl (lv_at hl 1 rfl) ?_
    obtain ⟨x2, hq2, hR⟩ := kk_bd_el hR
    refine kk_call_Vi (w' := (w_P g a P)) (As := [.int v1]) (rest := []) 0 2 hC (sX2_shying l g n a P v1 x2 hq2) (cwV 1 hts gX2_troubleBy_X2_shying rfl rfl rfl (by decide +kernel) ⟨Nat.le_of_ble_eq_true rfl, Nat.le_of_ble_eq_true rfl⟩) hK hP hD hS hA [0, 1, 2, 3, 4, 5, 6, 7, 8, 9] rfl (by decide +kernel) rfl rfl rfl rfl rfl rfl rfl hl.1 (Nat.le_of_ble_eq_true rfl) dX2_troubleBy_30 (fun H locs hP hD hS => ?_)
    obtain rfl := Option.some.inj hR
    exact kk_ret_i hC hr hlocks hK hP hD hS dX2_troubleBy_33 rfl
  replace hR := (if_neg c1).symm.trans hR
  by_cases c3 : v2 = (1 : Int32)
  · replace hR := (if_pos c3).symm.trans hR
    refine lv_lookup (off := 33) (tgt := 34) hx hb dX2_troubleBy_1 (by decide) (by rw [c3]; rfl) (by decide) ?_
    refine lv_aload_n hx hb dX2_troubleBy_34 rfl (lv_at hl 0 rfl) ?_
    refine lv_iload_n hx hb dX2_troubleBy_35 rfl (lv_at hl 1 rfl) ?_
    obtain ⟨x4, hq4, hR⟩ := kk_bd_el hR
    refine kk_call_Vi (w' := (w_P g a P)) (As := [.int v1]) (rest := []) 0 2 hC (sX2_hearing l g n a P v1 x4 hq4) (cwV 1 hts gX2_troubleBy_X2_hearing rfl rfl rfl (by decide +kernel) ⟨Nat.le_of_ble_eq_true rfl, Nat.le_of_ble_eq_true rfl⟩) hK hP hD hS hA [0, 1, 2, 3, 4, 5, 6, 7, 8, 9] rfl (by decide +kernel) rfl rfl rfl rfl rfl rfl rfl hl.1 (Nat.le_of_ble_eq_true rfl) dX2_troubleBy_36 (fun H locs hP hD hS => ?_)
    obtain rfl := Option.some.inj hR
    exact kk_ret_i hC hr hlocks hK hP hD hS dX2_troubleBy_39 rfl
  replace hR := (if_neg c3).symm.trans hR
  refine lv_lookup (off := 39) (tgt := 40) hx hb dX2_troubleBy_1 (by decide) ((lv_osw c1 rfl).trans ((lv_osw c3 rfl).trans (rfl))) (by decide) ?_
  refine lv_aload_n hx hb dX2_troubleBy_40 rfl (lv_at hl 0 rfl) ?_
  refine lv_iload_n hx hb dX2_troubleBy_41 rfl (lv_at hl 1 rfl) ?_
  obtain ⟨x5, hq5, hR⟩ := kk_bd_el hR
  refine kk_call_Vi (w' := (w_P g a P)) (As := [.int v1]) (rest := []) 0 2 hC (sX2_meeting l g n a P v1 x5 hq5) (cwV 1 hts gX2_troubleBy_X2_meeting rfl rfl rfl (by decide +kernel) ⟨Nat.le_of_ble_eq_true rfl, Nat.le_of_ble_eq_true rfl⟩) hK hP hD hS hA [0, 1, 2, 3, 4, 5, 6, 7, 8, 9] rfl (by decide +kernel) rfl rfl rfl rfl rfl rfl rfl hl.1 (Nat.le_of_ble_eq_true rfl) dX2_troubleBy_42 (fun H locs hP hD hS => ?_)
  obtain rfl := Option.some.inj hR
  exact kk_ret_i hC hr hlocks hK hP hD hS dX2_troubleBy_45 rfl
set_option maxHeartbeats 8000000 in
set_option maxRecDepth 100000 in
theorem sX2_allTrouble (l : Launch) (g : kG) (n : Nat) (a : Nat → Nat) (P : St1) (r : Int32) (hR : fX2_allTrouble n P = some r) : kSp l g yX2_allTrouble wsX2_allTrouble ({ frames := 2, cells := 0, slots := 0, locals := 44 }) [.ref (a 0)] (w_P g a P) (kQi g (w_P g a P) r) := by
  refine kSp.of (cc := cX2_allTrouble) (maxL := 3) (ret := (some .int)) (by decide) rfl (Nat.le_of_ble_eq_true rfl) ?_
  intro p e s m args below meth c ls A hC hr hlocks hA hK hl hP hD hS
  replace hC : CallFix p m c cX2_allTrouble 3 s args wsX2_allTrouble RX2 := hC
  obtain ⟨hx, hb, hml, hown, hts⟩ := id hC
  replace hl : lv_has ls 3 [(0, .ref (a 0))] := hl
  unfold fX2_allTrouble at hR
  have hw2 : ∀ w ∈ wsX20, w ∈ wsX2_allTrouble := by decide +kernel
  have hl0 := hts (.fieldLink RX2 9 "FloatOrder$Parade" "floats" "I") (by decide +kernel)
  refine lv_iconst (v := (0 : Int32)) hx hb dX2_allTrouble_0 (by decide) ?_
  refine lv_istore_n (lv' := [(1, .int (0 : Int32)), (0, .ref (a 0))]) hx hb dX2_allTrouble_1 rfl hl (by decide) rfl (fun ls hl => ?_)
  refine lv_iconst (v := (0 : Int32)) hx hb dX2_allTrouble_2 (by decide) ?_
  refine lv_istore_n (lv' := [(2, .int (0 : Int32)), (1, .int (0 : Int32)), (0, .ref (a 0))]) hx hb dX2_allTrouble_3 rfl hl (by decide) rfl (fun ls hl => ?_)
  obtain ⟨x9, hq9, hR⟩ := kk_bd_el hR
  refine kk_cut (g := g) (A := A) (w' := (w_P g a P)) (nL := 3) (lv := [(1, .int x9)]) (pcJ := 26) (st := []) (fun H locs ls hP hD hS hl => ?_) (fun hj9 => ?_)
  · refine lv_iload_n hx hb dX2_allTrouble_26 rfl (lv_at hl 0 rfl) ?_
    obtain rfl := Option.some.inj hR
    exact kk_ret_i hC hr hlocks hK hP hD hS dX2_allTrouble_27 rfl
  refine kk_loop (g := g) (A := A) (fun (st : Int32 × Int32) => (w_P g a P)) (fun (st : Int32 × Int32) => [(2, .int st.2), (1, .int st.1), (0, .ref (a 0))]) 4 (nL := 3) hq9 (fun st xb8 hR ih1 hX1 => ?_) hP hD hS (lv_sub hl [0, 1, 2] rfl)
  clear hP hD hS hl
  obtain ⟨u6, u7⟩ := st
  intro H locs ls hP hD hS hl
  replace hR : fX2_allTrouble_b4 n P u6 u7 = some xb8 := hR
  replace hP : va_P g.1 vwCl (w_P g a P) H := hP
  replace hD : va_D A (w_P g a P) := hD
  replace hl : lv_has ls 3 [(2, .int u7), (1, .int u6), (0, .ref (a 0))] := hl
  unfold fX2_allTrouble_b4 at hR
  refine lv_iload_n hx hb dX2_allTrouble_4 rfl (lv_at hl 0 rfl) ?_
  refine lv_aload_n hx hb dX2_allTrouble_5 rfl (lv_at hl 2 rfl) ?_
  refine va_get (ci := 2) (C := RX2) (T := TX2) (N := 11) hx hb hts hw2 hown hK hP 0 rfl rfl 0 (by decide) hl0 (fun _ h9 => h9) rfl dX2_allTrouble_6 ?_
  refine lv_icmp_ge (tgt := 26) hx hb dX2_allTrouble_9 (by decide) (fun c10 => ?_) (fun c10 => ?_)
  · replace hR := (if_pos c10).symm.trans hR
    obtain rfl := Option.some.inj hR
    obtain rfl := hX1 _ rfl
    exact hj9 _ _ _ hP hD hS (lv_sub hl [1] rfl)
  · replace hR := (if_neg c10).symm.trans hR
    refine lv_iload_n hx hb dX2_allTrouble_12 rfl (lv_at hl 1 rfl) ?_
    refine lv_aload_n hx hb dX2_allTrouble_13 rfl (lv_at hl 2 rfl) ?_
    refine lv_iload_n hx hb dX2_allTrouble_14 rfl (lv_at hl 0 rfl) ?_
    obtain ⟨x11, hq11, hR⟩ := kk_bd_el hR
    refine kk_call_Vi (w' := (w_P g a P)) (As := [.int u7]) (rest := [.int u6]) 0 2 hC (sX2_troubleAt l g n a P u7 x11 hq11) (cwV 1 hts gX2_allTrouble_X2_troubleAt rfl rfl rfl (by decide +kernel) ⟨Nat.le_of_ble_eq_true rfl, Nat.le_of_ble_eq_true rfl⟩) hK hP hD hS hA [0, 1, 2, 3, 4, 5, 6, 7, 8, 9] rfl (by decide +kernel) rfl rfl rfl rfl rfl rfl rfl hl.1 (Nat.le_of_ble_eq_true rfl) dX2_allTrouble_15 (fun H locs hP hD hS => ?_)
    refine lv_iadd hx hb dX2_allTrouble_18 ?_
    refine lv_istore_n (lv' := [(1, .int (u6 + x11)), (2, .int u7), (0, .ref (a 0))]) hx hb dX2_allTrouble_19 rfl hl (by decide) rfl (fun ls hl => ?_)
    refine lv_iinc (v := (u7 + (1 : Int32))) (lv' := [(2, .int (u7 + (1 : Int32))), (1, .int (u6 + x11)), (0, .ref (a 0))]) hx hb dX2_allTrouble_20 hl (k := 1) rfl rfl (by decide) rfl (fun ls hl => ?_)
    refine lv_goto (tgt := 4) hx hb dX2_allTrouble_23 (by decide) ?_
    obtain rfl := Option.some.inj hR
    exact ih1 _ rfl _ _ _ hP hD hS (lv_sub hl [0, 1, 2] rfl)
set_option maxHeartbeats 8000000 in
set_option maxRecDepth 100000 in
theorem sX2_troubledFloats (l : Launch) (g : kG) (n : Nat) (a : Nat → Nat) (P : St1) (r : Int32) (hR : fX2_troubledFloats n P = some r) : kSp l g yX2_troubledFloats wsX2_troubledFloats ({ frames := 2, cells := 0, slots := 0, locals := 44 }) [.ref (a 0)] (w_P g a P) (kQi g (w_P g a P) r) := by
  refine kSp.of (cc := cX2_troubledFloats) (maxL := 3) (ret := (some .int)) (by decide) rfl (Nat.le_of_ble_eq_true rfl) ?_
  intro p e s m args below meth c ls A hC hr hlocks hA hK hl hP hD hS
  replace hC : CallFix p m c cX2_troubledFloats 3 s args wsX2_troubledFloats RX2 := hC
  obtain ⟨hx, hb, hml, hown, hts⟩ := id hC
  replace hl : lv_has ls 3 [(0, .ref (a 0))] := hl
  unfold fX2_troubledFloats at hR
  have hw2 : ∀ w ∈ wsX20, w ∈ wsX2_troubledFloats := by decide +kernel
  have hl0 := hts (.fieldLink RX2 9 "FloatOrder$Parade" "floats" "I") (by decide +kernel)
  refine lv_iconst (v := (0 : Int32)) hx hb dX2_troubledFloats_0 (by decide) ?_
  refine lv_istore_n (lv' := [(1, .int (0 : Int32)), (0, .ref (a 0))]) hx hb dX2_troubledFloats_1 rfl hl (by decide) rfl (fun ls hl => ?_)
  refine lv_iconst (v := (0 : Int32)) hx hb dX2_troubledFloats_2 (by decide) ?_
  refine lv_istore_n (lv' := [(2, .int (0 : Int32)), (1, .int (0 : Int32)), (0, .ref (a 0))]) hx hb dX2_troubledFloats_3 rfl hl (by decide) rfl (fun ls hl => ?_)
  obtain ⟨x10, hq10, hR⟩ := kk_bd_el hR
  refine kk_cut (g := g) (A := A) (w' := (w_P g a P)) (nL := 3) (lv := [(1, .int x10)]) (pcJ := 29) (st := []) (fun H locs ls hP hD hS hl => ?_) (fun hj10 => ?_)
  · refine lv_iload_n hx hb dX2_troubledFloats_29 rfl (lv_at hl 0 rfl) ?_
    obtain rfl := Option.some.inj hR
    exact kk_ret_i hC hr hlocks hK hP hD hS dX2_troubledFloats_30 rfl
  refine kk_loop (g := g) (A := A) (fun (st : Int32 × Int32) => (w_P g a P)) (fun (st : Int32 × Int32) => [(2, .int st.2), (1, .int st.1), (0, .ref (a 0))]) 4 (nL := 3) hq10 (fun st xb9 hR ih1 hX1 => ?_) hP hD hS (lv_sub hl [0, 1, 2] rfl)
  clear hP hD hS hl
  obtain ⟨u7, u8⟩ := st
  intro H locs ls hP hD hS hl
  replace hR : fX2_troubledFloats_b4 n P u7 u8 = some xb9 := hR
  replace hP : va_P g.1 vwCl (w_P g a P) H := hP
  replace hD : va_D A (w_P g a P) := hD
  replace hl : lv_has ls 3 [(2, .int u8), (1, .int u7), (0, .ref (a 0))] := hl
  unfold fX2_troubledFloats_b4 at hR
  refine lv_iload_n hx hb dX2_troubledFloats_4 rfl (lv_at hl 0 rfl) ?_
  refine lv_aload_n hx hb dX2_troubledFloats_5 rfl (lv_at hl 2 rfl) ?_
  refine va_get (ci := 2) (C := RX2) (T := TX2) (N := 11) hx hb hts hw2 hown hK hP 0 rfl rfl 0 (by decide) hl0 (fun _ h9 => h9) rfl dX2_troubledFloats_6 ?_
  refine lv_icmp_ge (tgt := 29) hx hb dX2_troubledFloats_9 (by decide) (fun c11 => ?_) (fun c11 => ?_)
  · replace hR := (if_pos c11).symm.trans hR
    obtain rfl := Option.some.inj hR
    obtain rfl := hX1 _ rfl
    exact hj10 _ _ _ hP hD hS (lv_sub hl [1] rfl)
  · replace hR := (if_neg c11).symm.trans hR
    refine lv_aload_n hx hb dX2_troubledFloats_12 rfl (lv_at hl 2 rfl) ?_
    refine lv_iload_n hx hb dX2_troubledFloats_13 rfl (lv_at hl 0 rfl) ?_
    obtain ⟨x12, hq12, hR⟩ := kk_bd_el hR
    refine kk_call_Vi (w' := (w_P g a P)) (As := [.int u8]) (rest := []) 0 2 hC (sX2_troubleAt l g n a P u8 x12 hq12) (cwV 1 hts gX2_troubledFloats_X2_troubleAt rfl rfl rfl (by decide +kernel) ⟨Nat.le_of_ble_eq_true rfl, Nat.le_of_ble_eq_true rfl⟩) hK hP hD hS hA [0, 1, 2, 3, 4, 5, 6, 7, 8, 9] rfl (by decide +kernel) rfl rfl rfl rfl rfl rfl rfl hl.1 (Nat.le_of_ble_eq_true rfl) dX2_troubledFloats_14 (fun H locs hP hD hS => ?_)
    refine lv_if_le (tgt := 23) hx hb dX2_troubledFloats_17 (by decide) (fun c13 => ?_) (fun c13 => ?_)
    · replace hR := (if_pos c13).symm.trans hR
      refine lv_iinc (v := (u8 + (1 : Int32))) (lv' := [(2, .int (u8 + (1 : Int32))), (1, .int u7), (0, .ref (a 0))]) hx hb dX2_troubledFloats_23 hl (k := 0) rfl rfl (by decide) rfl (fun ls hl => ?_)
      refine lv_goto (tgt := 4) hx hb dX2_troubledFloats_26 (by decide) ?_
      obtain rfl := Option.some.inj hR
      exact ih1 _ rfl _ _ _ hP hD hS (lv_sub hl [0, 1, 2] rfl)
    · replace hR := (if_neg c13).symm.trans hR
      refine lv_iinc (v := (u7 + (1 : Int32))) (lv' := [(1, .int (u7 + (1 : Int32))), (2, .int u8), (0, .ref (a 0))]) hx hb dX2_troubledFloats_20 hl (k := 1) rfl rfl (by decide) rfl (fun ls hl => ?_)
      refine lv_iinc (v := (u8 + (1 : Int32))) (lv' := [(2, .int (u8 + (1 : Int32))), (1, .int (u7 + (1 : Int32))), (0, .ref (a 0))]) hx hb dX2_troubledFloats_23 hl (k := 1) rfl rfl (by decide) rfl (fun ls hl => ?_)
      refine lv_goto (tgt := 4) hx hb dX2_troubledFloats_26 (by decide) ?_
      obtain rfl := Option.some.inj hR
      exact ih1 _ rfl _ _ _ hP hD hS (lv_sub hl [0, 1, 2] rfl)
set_option maxHeartbeats 8000000 in
set_option maxRecDepth 100000 in
theorem sX2_greatestHeight (l : Launch) (g : kG) (n : Nat) (a : Nat → Nat) (P : St1) (r : Int32) (hR : fX2_greatestHeight n P = some r) : kSp l g yX2_greatestHeight wsX2_greatestHeight ({ frames := 1, cells := 0, slots := 0, locals := 22 }) [.ref (a 0)] (w_P g a P) (kQi g (w_P g a P) r) := by
  refine kSp.of (cc := cX2_greatestHeight) (maxL := 3) (ret := (some .int)) (by decide) rfl (Nat.le_of_ble_eq_true rfl) ?_
  intro p e s m args below meth c ls A hC hr hlocks hA hK hl hP hD hS
  replace hC : CallFix p m c cX2_greatestHeight 3 s args wsX2_greatestHeight RX2 := hC
  obtain ⟨hx, hb, hml, hown, hts⟩ := id hC
  replace hl : lv_has ls 3 [(0, .ref (a 0))] := hl
  unfold fX2_greatestHeight at hR
  have hw2 : ∀ w ∈ wsX20, w ∈ wsX2_greatestHeight := by decide +kernel
  have hl0 := hts (.fieldLink RX2 9 "FloatOrder$Parade" "floats" "I") (by decide +kernel)
  have hl1 := hts (.methodLink RX2 64 Lib.Math.max.name) (by decide +kernel)
  have hl2 := hts (.static Lib.Math.max.name) (by decide +kernel)
  have hl3 := hts (.initialized "java/lang/Math") (by decide +kernel)
  have hl4 := hts (.code Lib.Math.max.name Lib.Math.max.code 2 (some .int)) (by decide +kernel)
  refine lv_iconst (v := (0 : Int32)) hx hb dX2_greatestHeight_0 (by decide) ?_
  refine lv_istore_n (lv' := [(1, .int (0 : Int32)), (0, .ref (a 0))]) hx hb dX2_greatestHeight_1 rfl hl (by decide) rfl (fun ls hl => ?_)
  refine lv_iconst (v := (0 : Int32)) hx hb dX2_greatestHeight_2 (by decide) ?_
  refine lv_istore_n (lv' := [(2, .int (0 : Int32)), (1, .int (0 : Int32)), (0, .ref (a 0))]) hx hb dX2_greatestHeight_3 rfl hl (by decide) rfl (fun ls hl => ?_)
  obtain ⟨x9, hq9, hR⟩ := kk_bd_el hR
  refine kk_cut (g := g) (A := A) (w' := (w_P g a P)) (nL := 3) (lv := [(1, .int x9)]) (pcJ := 28) (st := []) (fun H locs ls hP hD hS hl => ?_) (fun hj9 => ?_)
  · refine lv_iload_n hx hb dX2_greatestHeight_28 rfl (lv_at hl 0 rfl) ?_
    obtain rfl := Option.some.inj hR
    exact kk_ret_i hC hr hlocks hK hP hD hS dX2_greatestHeight_29 rfl
  refine kk_loop (g := g) (A := A) (fun (st : Int32 × Int32) => (w_P g a P)) (fun (st : Int32 × Int32) => [(2, .int st.2), (1, .int st.1), (0, .ref (a 0))]) 4 (nL := 3) hq9 (fun st xb8 hR ih1 hX1 => ?_) hP hD hS (lv_sub hl [0, 1, 2] rfl)
  clear hP hD hS hl
  obtain ⟨u6, u7⟩ := st
  intro H locs ls hP hD hS hl
  replace hR : fX2_greatestHeight_b4 n P u6 u7 = some xb8 := hR
  replace hP : va_P g.1 vwCl (w_P g a P) H := hP
  replace hD : va_D A (w_P g a P) := hD
  replace hl : lv_has ls 3 [(2, .int u7), (1, .int u6), (0, .ref (a 0))] := hl
  unfold fX2_greatestHeight_b4 at hR
  refine lv_iload_n hx hb dX2_greatestHeight_4 rfl (lv_at hl 0 rfl) ?_
  refine lv_aload_n hx hb dX2_greatestHeight_5 rfl (lv_at hl 2 rfl) ?_
  refine va_get (ci := 2) (C := RX2) (T := TX2) (N := 11) hx hb hts hw2 hown hK hP 0 rfl rfl 0 (by decide) hl0 (fun _ h9 => h9) rfl dX2_greatestHeight_6 ?_
  refine lv_icmp_ge (tgt := 28) hx hb dX2_greatestHeight_9 (by decide) (fun c10 => ?_) (fun c10 => ?_)
  · replace hR := (if_pos c10).symm.trans hR
    obtain rfl := Option.some.inj hR
    obtain rfl := hX1 _ rfl
    exact hj9 _ _ _ hP hD hS (lv_sub hl [1] rfl)
  · replace hR := (if_neg c10).symm.trans hR
    refine lv_iload_n hx hb dX2_greatestHeight_12 rfl (lv_at hl 1 rfl) ?_
    refine lv_aload_n hx hb dX2_greatestHeight_13 rfl (lv_at hl 2 rfl) ?_
    refine lv_iload_n hx hb dX2_greatestHeight_14 rfl (lv_at hl 0 rfl) ?_
    obtain ⟨x11, hq11, hR⟩ := kk_bd_el hR
    refine kk_call_Vi (w' := (w_P g a P)) (As := [.int u7]) (rest := [.int u6]) 0 2 hC (sX2_countedHeight l g n a P u7 x11 hq11) (cwV 1 hts gX2_greatestHeight_X2_countedHeight rfl rfl rfl (by decide +kernel) ⟨Nat.le_of_ble_eq_true rfl, Nat.le_of_ble_eq_true rfl⟩) hK hP hD hS hA [0, 1, 2, 3, 4, 5, 6, 7, 8, 9] rfl (by decide +kernel) rfl rfl rfl rfl rfl rfl rfl hl.1 (Nat.le_of_ble_eq_true rfl) dX2_greatestHeight_15 (fun H locs hP hD hS => ?_)
    refine va_mmax hx hb (hml.trans hl.1.symm) hown hl1 hl2 hl3 hl4 (Nat.le_of_ble_eq_true rfl) (Nat.le_of_ble_eq_true rfl) (Nat.zero_le _) (Nat.zero_le _) dX2_greatestHeight_18 ?_
    refine lv_istore_n (lv' := [(1, .int (if u6 < x11 then x11 else u6)), (2, .int u7), (0, .ref (a 0))]) hx hb dX2_greatestHeight_21 rfl hl (by decide) rfl (fun ls hl => ?_)
    refine lv_iinc (v := (u7 + (1 : Int32))) (lv' := [(2, .int (u7 + (1 : Int32))), (1, .int (if u6 < x11 then x11 else u6)), (0, .ref (a 0))]) hx hb dX2_greatestHeight_22 hl (k := 1) rfl rfl (by decide) rfl (fun ls hl => ?_)
    refine lv_goto (tgt := 4) hx hb dX2_greatestHeight_25 (by decide) ?_
    obtain rfl := Option.some.inj hR
    exact ih1 _ rfl _ _ _ hP hD hS (lv_sub hl [0, 1, 2] rfl)
set_option maxHeartbeats 8000000 in
set_option maxRecDepth 100000 in
theorem sX2_hasBridgeAt (l : Launch) (g : kG) (n : Nat) (a : Nat → Nat) (P : St1) (v1 : Int32) (r : Int32) (hR : fX2_hasBridgeAt n P v1 = some r) : kSp l g yX2_hasBridgeAt wsX2_hasBridgeAt ({ frames := 0, cells := 0, slots := 0, locals := 0 }) [.ref (a 0), .int v1] (w_P g a P) (kQi g (w_P g a P) r) := by
  refine kSp.of (cc := cX2_hasBridgeAt) (maxL := 3) (ret := (some .boolean)) (by decide) rfl (Nat.le_of_ble_eq_true rfl) ?_
  intro p e s m args below meth c ls A hC hr hlocks hA hK hl hP hD hS
  replace hC : CallFix p m c cX2_hasBridgeAt 3 s args wsX2_hasBridgeAt RX2 := hC
  obtain ⟨hx, hb, hml, hown, hts⟩ := id hC
  replace hl : lv_has ls 3 [(0, .ref (a 0)), (1, .int v1)] := hl
  unfold fX2_hasBridgeAt at hR
  have hw2 : ∀ w ∈ wsX20, w ∈ wsX2_hasBridgeAt := by decide +kernel
  have hl0 := hts (.fieldLink RX2 29 "FloatOrder$Parade" "bridges" "I") (by decide +kernel)
  have hl1 := hts (.fieldLink RX2 32 "FloatOrder$Parade" "distances" "[I") (by decide +kernel)
  refine lv_iconst (v := (0 : Int32)) hx hb dX2_hasBridgeAt_0 (by decide) ?_
  refine lv_istore_n (lv' := [(2, .int (0 : Int32)), (0, .ref (a 0)), (1, .int v1)]) hx hb dX2_hasBridgeAt_1 rfl hl (by decide) rfl (fun ls hl => ?_)
  have hq0 := hR
  refine kk_loop (g := g) (A := A) (fun (st : Int32) => (w_P g a P)) (fun (st : Int32) => [(2, .int st), (0, .ref (a 0)), (1, .int v1)]) 2 (nL := 3) hq0 (fun u6 xb7 hR ih1 hX1 => ?_) hP hD hS (lv_sub hl [0, 1, 2] rfl)
  clear hP hD hS hl
  intro H locs ls hP hD hS hl
  replace hR : fX2_hasBridgeAt_b2 n P v1 u6 = some xb7 := hR
  replace hP : va_P g.1 vwCl (w_P g a P) H := hP
  replace hD : va_D A (w_P g a P) := hD
  replace hl : lv_has ls 3 [(2, .int u6), (0, .ref (a 0)), (1, .int v1)] := hl
  unfold fX2_hasBridgeAt_b2 at hR
  refine lv_iload_n hx hb dX2_hasBridgeAt_2 rfl (lv_at hl 0 rfl) ?_
  refine lv_aload_n hx hb dX2_hasBridgeAt_3 rfl (lv_at hl 1 rfl) ?_
  refine va_get (ci := 2) (C := RX2) (T := TX2) (N := 11) hx hb hts hw2 hown hK hP 0 rfl rfl 5 (by decide) hl0 (fun _ h9 => h9) rfl dX2_hasBridgeAt_4 ?_
  refine lv_icmp_ge (tgt := 28) hx hb dX2_hasBridgeAt_7 (by decide) (fun c8 => ?_) (fun c8 => ?_)
  · replace hR := (if_pos c8).symm.trans hR
    refine lv_iconst (v := (0 : Int32)) hx hb dX2_hasBridgeAt_28 (by decide) ?_
    obtain rfl := Option.some.inj hR
    obtain rfl := hX1 _ rfl
    exact kk_ret_z hC hr hlocks hK hP hD hS dX2_hasBridgeAt_29 (by decide) rfl
  · replace hR := (if_neg c8).symm.trans hR
    refine lv_aload_n hx hb dX2_hasBridgeAt_10 rfl (lv_at hl 1 rfl) ?_
    refine va_get (ci := 2) (C := RX2) (T := TX2) (N := 11) hx hb hts hw2 hown hK hP 0 rfl rfl 6 (by decide) hl1 (fun _ h9 => h9) rfl dX2_hasBridgeAt_11 ?_
    refine lv_iload_n hx hb dX2_hasBridgeAt_14 rfl (lv_at hl 0 rfl) ?_
    obtain ⟨hi10, hR⟩ := kk_ck_el hR
    refine va_iald hx hb hK hP 5 0 rfl rfl hi10 dX2_hasBridgeAt_15 ?_
    refine lv_iload_n hx hb dX2_hasBridgeAt_16 rfl (lv_at hl 2 rfl) ?_
    refine lv_icmp_ne (tgt := 22) hx hb dX2_hasBridgeAt_17 (by decide) (fun c11 => ?_) (fun c11 => ?_)
    · replace hR := (if_neg c11).symm.trans hR
      refine lv_iinc (v := (u6 + (1 : Int32))) (lv' := [(2, .int (u6 + (1 : Int32))), (0, .ref (a 0)), (1, .int v1)]) hx hb dX2_hasBridgeAt_22 hl (k := 0) rfl rfl (by decide) rfl (fun ls hl => ?_)
      refine lv_goto (tgt := 2) hx hb dX2_hasBridgeAt_25 (by decide) ?_
      obtain rfl := Option.some.inj hR
      exact ih1 _ rfl _ _ _ hP hD hS (lv_sub hl [0, 1, 2] rfl)
    · replace hR := (if_pos c11).symm.trans hR
      refine lv_iconst (v := (1 : Int32)) hx hb dX2_hasBridgeAt_20 (by decide) ?_
      obtain rfl := Option.some.inj hR
      obtain rfl := hX1 _ rfl
      exact kk_ret_z hC hr hlocks hK hP hD hS dX2_hasBridgeAt_21 (by decide) rfl
set_option maxHeartbeats 8000000 in
set_option maxRecDepth 100000 in
theorem sX2_build (l : Launch) (g : kG) (n : Nat) (a : Nat → Nat) (P : St1) (v1 : Int32) (v2 : Int32) (r : Int32 × St1) (hR : fX2_build n P v1 v2 = some r) : kSp l g yX2_build wsX2_build ({ frames := 0, cells := 0, slots := 0, locals := 0 }) [.ref (a 0), .int v1, .int v2] (w_P g a P) (kQi g (w_P g a r.2) r.1) := by
  refine kSp.of (cc := cX2_build) (maxL := 4) (ret := (some .int)) (by decide) rfl (Nat.le_of_ble_eq_true rfl) ?_
  intro p e s m args below meth c ls A hC hr hlocks hA hK hl hP hD hS
  replace hC : CallFix p m c cX2_build 4 s args wsX2_build RX2 := hC
  obtain ⟨hx, hb, hml, hown, hts⟩ := id hC
  replace hl : lv_has ls 4 [(0, .ref (a 0)), (1, .int v1), (2, .int v2)] := hl
  unfold fX2_build at hR
  have hw2 : ∀ w ∈ wsX20, w ∈ wsX2_build := by decide +kernel
  have hl0 := hts (.fieldLink RX2 29 "FloatOrder$Parade" "bridges" "I") (by decide +kernel)
  have hl1 := hts (.fieldLink RX2 32 "FloatOrder$Parade" "distances" "[I") (by decide +kernel)
  have hl2 := hts (.fieldLink RX2 35 "FloatOrder$Parade" "clearances" "[I") (by decide +kernel)
  refine lv_aload_n hx hb dX2_build_0 rfl (lv_at hl 0 rfl) ?_
  refine va_get (ci := 2) (C := RX2) (T := TX2) (N := 11) hx hb hts hw2 hown hK hP 0 rfl rfl 5 (by decide) hl0 (fun _ h9 => h9) rfl dX2_build_1 ?_
  refine lv_iconst (v := (4 : Int32)) hx hb dX2_build_4 (by decide) ?_
  refine lv_icmp_lt (tgt := 10) hx hb dX2_build_5 (by decide) (fun c1 => ?_) (fun c1 => ?_)
  · replace hR := (if_pos c1).symm.trans hR
    refine lv_aload_n hx hb dX2_build_10 rfl (lv_at hl 0 rfl) ?_
    refine va_get (ci := 2) (C := RX2) (T := TX2) (N := 11) hx hb hts hw2 hown hK hP 0 rfl rfl 5 (by decide) hl0 (fun _ h9 => h9) rfl dX2_build_11 ?_
    refine lv_istore_n (lv' := [(3, .int (P 5 0)), (0, .ref (a 0)), (1, .int v1), (2, .int v2)]) hx hb dX2_build_14 rfl hl (by decide) rfl (fun ls hl => ?_)
    obtain ⟨x16, hq16, hR⟩ := kk_bd_el hR
    refine kk_cut (g := g) (A := A) (w' := (w_P g a x16.2)) (nL := 4) (lv := [(3, .int x16.1), (0, .ref (a 0)), (1, .int v1), (2, .int v2)]) (pcJ := 65) (st := []) (fun H locs ls hP hD hS hl => ?_) (fun hj16 => ?_)
    · refine lv_aload_n hx hb dX2_build_65 rfl (lv_at hl 1 rfl) ?_
      refine va_get (ci := 2) (C := RX2) (T := TX2) (N := 11) hx hb hts hw2 hown hK hP 0 rfl rfl 6 (by decide) hl1 (fun _ h9 => h9) rfl dX2_build_66 ?_
      refine lv_iload_n hx hb dX2_build_69 rfl (lv_at hl 0 rfl) ?_
      refine lv_iload_n hx hb dX2_build_70 rfl (lv_at hl 2 rfl) ?_
      obtain ⟨hi27, hR⟩ := kk_ck_el hR
      obtain ⟨P26, eP26, hR⟩ := kk_nm_el hR
      refine kk_iast (w' := (w_P g a P26)) hC hK hP hD hS 5 rfl hi27 (by rw [eP26]; rfl) dX2_build_71 (fun H locs hP hD hS => ?_)
      refine lv_aload_n hx hb dX2_build_72 rfl (lv_at hl 1 rfl) ?_
      refine va_get (ci := 2) (C := RX2) (T := TX2) (N := 11) hx hb hts hw2 hown hK hP 0 rfl rfl 7 (by decide) hl2 (fun _ h9 => h9) rfl dX2_build_73 ?_
      refine lv_iload_n hx hb dX2_build_76 rfl (lv_at hl 0 rfl) ?_
      refine lv_iload_n hx hb dX2_build_77 rfl (lv_at hl 3 rfl) ?_
      obtain ⟨hi29, hR⟩ := kk_ck_el hR
      obtain ⟨P28, eP28, hR⟩ := kk_nm_el hR
      refine kk_iast (w' := (w_P g a P28)) hC hK hP hD hS 6 rfl hi29 (by rw [eP28]; rfl) dX2_build_78 (fun H locs hP hD hS => ?_)
      refine lv_aload_n hx hb dX2_build_79 rfl (lv_at hl 1 rfl) ?_
      refine lv_dup hx hb dX2_build_80 rfl ?_
      refine va_get (ci := 2) (C := RX2) (T := TX2) (N := 11) hx hb hts hw2 hown hK hP 0 rfl rfl 5 (by decide) hl0 (fun _ h9 => h9) rfl dX2_build_81 ?_
      refine lv_iconst (v := (1 : Int32)) hx hb dX2_build_84 (by decide) ?_
      refine lv_iadd hx hb dX2_build_85 ?_
      obtain ⟨P30, eP30, hR⟩ := kk_nm_el hR
      refine kk_put (w' := (w_P g a P30)) (ci := 2) (C := RX2) (T := TX2) (N := 11) (ty := .int) (v := .int ((P28 5 0) + (1 : Int32))) hC hw2 tyX2 tyX2_ok nmX2 hK hP hD hS 0 rfl rfl 5 (by decide) hl0 rfl (by decide +kernel) rfl rfl (Nat.le_of_ble_eq_true rfl) (by rw [eP30]; rfl) dX2_build_86 (fun H locs hP hD hS => ?_)
      refine lv_iload_n hx hb dX2_build_89 rfl (lv_at hl 0 rfl) ?_
      obtain rfl := Option.some.inj hR
      exact kk_ret_i hC hr hlocks hK hP hD hS dX2_build_90 rfl
    refine kk_loop (g := g) (A := A) (fun (st : Int32 × St1) => (w_P g a st.2)) (fun (st : Int32 × St1) => [(3, .int st.1), (0, .ref (a 0)), (1, .int v1), (2, .int v2)]) 15 (nL := 4) hq16 (fun st xb15 hR ih1 hX1 => ?_) hP hD hS (lv_sub hl [0, 1, 2, 3] rfl)
    clear hP hD hS hl
    obtain ⟨u13, P14⟩ := st
    intro H locs ls hP hD hS hl
    replace hR : fX2_build_b15 n v1 u13 P14 = some xb15 := hR
    replace hP : va_P g.1 vwCl (w_P g a P14) H := hP
    replace hD : va_D A (w_P g a P14) := hD
    replace hl : lv_has ls 4 [(3, .int u13), (0, .ref (a 0)), (1, .int v1), (2, .int v2)] := hl
    unfold fX2_build_b15 at hR
    refine lv_iload_n hx hb dX2_build_15 rfl (lv_at hl 0 rfl) ?_
    refine lv_if_le (tgt := 65) hx hb dX2_build_16 (by decide) (fun c17 => ?_) (fun c17 => ?_)
    · replace hR := (if_pos c17).symm.trans hR
      obtain rfl := Option.some.inj hR
      obtain rfl := hX1 _ rfl
      exact hj16 _ _ _ hP hD hS (lv_sub hl [0, 1, 2, 3] rfl)
    · replace hR := (if_neg c17).symm.trans hR
      refine lv_aload_n hx hb dX2_build_19 rfl (lv_at hl 1 rfl) ?_
      refine va_get (ci := 2) (C := RX2) (T := TX2) (N := 11) hx hb hts hw2 hown hK hP 0 rfl rfl 6 (by decide) hl1 (fun _ h9 => h9) rfl dX2_build_20 ?_
      refine lv_iload_n hx hb dX2_build_23 rfl (lv_at hl 0 rfl) ?_
      refine lv_iconst (v := (1 : Int32)) hx hb dX2_build_24 (by decide) ?_
      refine lv_isub hx hb dX2_build_25 ?_
      obtain ⟨hi18, hR⟩ := kk_ck_el hR
      refine va_iald hx hb hK hP 5 0 rfl rfl hi18 dX2_build_26 ?_
      refine lv_iload_n hx hb dX2_build_27 rfl (lv_at hl 2 rfl) ?_
      refine lv_icmp_le (tgt := 65) hx hb dX2_build_28 (by decide) (fun c19 => ?_) (fun c19 => ?_)
      · replace hR := (if_pos c19).symm.trans hR
        obtain rfl := Option.some.inj hR
        obtain rfl := hX1 _ rfl
        exact hj16 _ _ _ hP hD hS (lv_sub hl [0, 1, 2, 3] rfl)
      · replace hR := (if_neg c19).symm.trans hR
        refine lv_aload_n hx hb dX2_build_31 rfl (lv_at hl 1 rfl) ?_
        refine va_get (ci := 2) (C := RX2) (T := TX2) (N := 11) hx hb hts hw2 hown hK hP 0 rfl rfl 6 (by decide) hl1 (fun _ h9 => h9) rfl dX2_build_32 ?_
        refine lv_iload_n hx hb dX2_build_35 rfl (lv_at hl 0 rfl) ?_
        refine lv_aload_n hx hb dX2_build_36 rfl (lv_at hl 1 rfl) ?_
        refine va_get (ci := 2) (C := RX2) (T := TX2) (N := 11) hx hb hts hw2 hown hK hP 0 rfl rfl 6 (by decide) hl1 (fun _ h9 => h9) rfl dX2_build_37 ?_
        refine lv_iload_n hx hb dX2_build_40 rfl (lv_at hl 0 rfl) ?_
        refine lv_iconst (v := (1 : Int32)) hx hb dX2_build_41 (by decide) ?_
        refine lv_isub hx hb dX2_build_42 ?_
        obtain ⟨hi20, hR⟩ := kk_ck_el hR
        refine va_iald hx hb hK hP 5 0 rfl rfl hi20 dX2_build_43 ?_
        obtain ⟨hi22, hR⟩ := kk_ck_el hR
        obtain ⟨P21, eP21, hR⟩ := kk_nm_el hR
        refine kk_iast (w' := (w_P g a P21)) hC hK hP hD hS 5 rfl hi22 (by rw [eP21]; rfl) dX2_build_44 (fun H locs hP hD hS => ?_)
        refine lv_aload_n hx hb dX2_build_45 rfl (lv_at hl 1 rfl) ?_
        refine va_get (ci := 2) (C := RX2) (T := TX2) (N := 11) hx hb hts hw2 hown hK hP 0 rfl rfl 7 (by decide) hl2 (fun _ h9 => h9) rfl dX2_build_46 ?_
        refine lv_iload_n hx hb dX2_build_49 rfl (lv_at hl 0 rfl) ?_
        refine lv_aload_n hx hb dX2_build_50 rfl (lv_at hl 1 rfl) ?_
        refine va_get (ci := 2) (C := RX2) (T := TX2) (N := 11) hx hb hts hw2 hown hK hP 0 rfl rfl 7 (by decide) hl2 (fun _ h9 => h9) rfl dX2_build_51 ?_
        refine lv_iload_n hx hb dX2_build_54 rfl (lv_at hl 0 rfl) ?_
        refine lv_iconst (v := (1 : Int32)) hx hb dX2_build_55 (by decide) ?_
        refine lv_isub hx hb dX2_build_56 ?_
        obtain ⟨hi23, hR⟩ := kk_ck_el hR
        refine va_iald hx hb hK hP 6 0 rfl rfl hi23 dX2_build_57 ?_
        obtain ⟨hi25, hR⟩ := kk_ck_el hR
        obtain ⟨P24, eP24, hR⟩ := kk_nm_el hR
        refine kk_iast (w' := (w_P g a P24)) hC hK hP hD hS 6 rfl hi25 (by rw [eP24]; rfl) dX2_build_58 (fun H locs hP hD hS => ?_)
        refine lv_iinc (v := (u13 + (-1 : Int32))) (lv' := [(3, .int (u13 + (-1 : Int32))), (0, .ref (a 0)), (1, .int v1), (2, .int v2)]) hx hb dX2_build_59 hl (k := 0) rfl rfl (by decide) rfl (fun ls hl => ?_)
        refine lv_goto (tgt := 15) hx hb dX2_build_62 (by decide) ?_
        obtain rfl := Option.some.inj hR
        exact ih1 _ rfl _ _ _ hP hD hS (lv_sub hl [0, 1, 2, 3] rfl)
  · replace hR := (if_neg c1).symm.trans hR
    refine lv_iconst (v := (-1 : Int32)) hx hb dX2_build_8 (by decide) ?_
    obtain rfl := Option.some.inj hR
    exact kk_ret_i hC hr hlocks hK hP hD hS dX2_build_9 rfl
set_option maxHeartbeats 8000000 in
set_option maxRecDepth 100000 in
theorem sX2_pullDown (l : Launch) (g : kG) (n : Nat) (a : Nat → Nat) (P : St1) (v1 : Int32) (r : St1) (hR : fX2_pullDown n P v1 = some r) : kSp l g yX2_pullDown wsX2_pullDown ({ frames := 0, cells := 0, slots := 0, locals := 0 }) [.ref (a 0), .int v1] (w_P g a P) (kQv g (w_P g a r)) := by
  refine kSp.of (cc := cX2_pullDown) (maxL := 3) (ret := none) (by decide) rfl (Nat.le_of_ble_eq_true rfl) ?_
  intro p e s m args below meth c ls A hC hr hlocks hA hK hl hP hD hS
  replace hC : CallFix p m c cX2_pullDown 3 s args wsX2_pullDown RX2 := hC
  obtain ⟨hx, hb, hml, hown, hts⟩ := id hC
  replace hl : lv_has ls 3 [(0, .ref (a 0)), (1, .int v1)] := hl
  unfold fX2_pullDown at hR
  have hw2 : ∀ w ∈ wsX20, w ∈ wsX2_pullDown := by decide +kernel
  have hl0 := hts (.fieldLink RX2 29 "FloatOrder$Parade" "bridges" "I") (by decide +kernel)
  have hl1 := hts (.fieldLink RX2 32 "FloatOrder$Parade" "distances" "[I") (by decide +kernel)
  have hl2 := hts (.fieldLink RX2 35 "FloatOrder$Parade" "clearances" "[I") (by decide +kernel)
  refine lv_iload_n hx hb dX2_pullDown_0 rfl (lv_at hl 1 rfl) ?_
  refine lv_iconst (v := (1 : Int32)) hx hb dX2_pullDown_1 (by decide) ?_
  refine lv_iadd hx hb dX2_pullDown_2 ?_
  refine lv_istore_n (lv' := [(2, .int (v1 + (1 : Int32))), (0, .ref (a 0)), (1, .int v1)]) hx hb dX2_pullDown_3 rfl hl (by decide) rfl (fun ls hl => ?_)
  obtain ⟨x13, hq13, hR⟩ := kk_bd_el hR
  refine kk_cut (g := g) (A := A) (w' := (w_P g a x13)) (nL := 3) (lv := [(0, .ref (a 0))]) (pcJ := 46) (st := []) (fun H locs ls hP hD hS hl => ?_) (fun hj13 => ?_)
  · refine lv_aload_n hx hb dX2_pullDown_46 rfl (lv_at hl 0 rfl) ?_
    refine lv_dup hx hb dX2_pullDown_47 rfl ?_
    refine va_get (ci := 2) (C := RX2) (T := TX2) (N := 11) hx hb hts hw2 hown hK hP 0 rfl rfl 5 (by decide) hl0 (fun _ h9 => h9) rfl dX2_pullDown_48 ?_
    refine lv_iconst (v := (1 : Int32)) hx hb dX2_pullDown_51 (by decide) ?_
    refine lv_isub hx hb dX2_pullDown_52 ?_
    obtain ⟨P21, eP21, hR⟩ := kk_nm_el hR
    refine kk_put (w' := (w_P g a P21)) (ci := 2) (C := RX2) (T := TX2) (N := 11) (ty := .int) (v := .int ((x13 5 0) - (1 : Int32))) hC hw2 tyX2 tyX2_ok nmX2 hK hP hD hS 0 rfl rfl 5 (by decide) hl0 rfl (by decide +kernel) rfl rfl (Nat.le_of_ble_eq_true rfl) (by rw [eP21]; rfl) dX2_pullDown_53 (fun H locs hP hD hS => ?_)
    obtain rfl := Option.some.inj hR
    exact kk_ret_v hC hr hlocks hK hP hD hS dX2_pullDown_56
  refine kk_loop (g := g) (A := A) (fun (st : Int32 × St1) => (w_P g a st.2)) (fun (st : Int32 × St1) => [(2, .int st.1), (0, .ref (a 0))]) 4 (nL := 3) hq13 (fun st xb12 hR ih1 hX1 => ?_) hP hD hS (lv_sub hl [0, 1] rfl)
  clear hP hD hS hl
  obtain ⟨u10, P11⟩ := st
  intro H locs ls hP hD hS hl
  replace hR : fX2_pullDown_b4 n u10 P11 = some xb12 := hR
  replace hP : va_P g.1 vwCl (w_P g a P11) H := hP
  replace hD : va_D A (w_P g a P11) := hD
  replace hl : lv_has ls 3 [(2, .int u10), (0, .ref (a 0))] := hl
  unfold fX2_pullDown_b4 at hR
  refine lv_iload_n hx hb dX2_pullDown_4 rfl (lv_at hl 0 rfl) ?_
  refine lv_aload_n hx hb dX2_pullDown_5 rfl (lv_at hl 1 rfl) ?_
  refine va_get (ci := 2) (C := RX2) (T := TX2) (N := 11) hx hb hts hw2 hown hK hP 0 rfl rfl 5 (by decide) hl0 (fun _ h9 => h9) rfl dX2_pullDown_6 ?_
  refine lv_icmp_ge (tgt := 46) hx hb dX2_pullDown_9 (by decide) (fun c14 => ?_) (fun c14 => ?_)
  · replace hR := (if_pos c14).symm.trans hR
    obtain rfl := Option.some.inj hR
    obtain rfl := hX1 _ rfl
    exact hj13 _ _ _ hP hD hS (lv_sub hl [1] rfl)
  · replace hR := (if_neg c14).symm.trans hR
    refine lv_aload_n hx hb dX2_pullDown_12 rfl (lv_at hl 1 rfl) ?_
    refine va_get (ci := 2) (C := RX2) (T := TX2) (N := 11) hx hb hts hw2 hown hK hP 0 rfl rfl 6 (by decide) hl1 (fun _ h9 => h9) rfl dX2_pullDown_13 ?_
    refine lv_iload_n hx hb dX2_pullDown_16 rfl (lv_at hl 0 rfl) ?_
    refine lv_iconst (v := (1 : Int32)) hx hb dX2_pullDown_17 (by decide) ?_
    refine lv_isub hx hb dX2_pullDown_18 ?_
    refine lv_aload_n hx hb dX2_pullDown_19 rfl (lv_at hl 1 rfl) ?_
    refine va_get (ci := 2) (C := RX2) (T := TX2) (N := 11) hx hb hts hw2 hown hK hP 0 rfl rfl 6 (by decide) hl1 (fun _ h9 => h9) rfl dX2_pullDown_20 ?_
    refine lv_iload_n hx hb dX2_pullDown_23 rfl (lv_at hl 0 rfl) ?_
    obtain ⟨hi15, hR⟩ := kk_ck_el hR
    refine va_iald hx hb hK hP 5 0 rfl rfl hi15 dX2_pullDown_24 ?_
    obtain ⟨hi17, hR⟩ := kk_ck_el hR
    obtain ⟨P16, eP16, hR⟩ := kk_nm_el hR
    refine kk_iast (w' := (w_P g a P16)) hC hK hP hD hS 5 rfl hi17 (by rw [eP16]; rfl) dX2_pullDown_25 (fun H locs hP hD hS => ?_)
    refine lv_aload_n hx hb dX2_pullDown_26 rfl (lv_at hl 1 rfl) ?_
    refine va_get (ci := 2) (C := RX2) (T := TX2) (N := 11) hx hb hts hw2 hown hK hP 0 rfl rfl 7 (by decide) hl2 (fun _ h9 => h9) rfl dX2_pullDown_27 ?_
    refine lv_iload_n hx hb dX2_pullDown_30 rfl (lv_at hl 0 rfl) ?_
    refine lv_iconst (v := (1 : Int32)) hx hb dX2_pullDown_31 (by decide) ?_
    refine lv_isub hx hb dX2_pullDown_32 ?_
    refine lv_aload_n hx hb dX2_pullDown_33 rfl (lv_at hl 1 rfl) ?_
    refine va_get (ci := 2) (C := RX2) (T := TX2) (N := 11) hx hb hts hw2 hown hK hP 0 rfl rfl 7 (by decide) hl2 (fun _ h9 => h9) rfl dX2_pullDown_34 ?_
    refine lv_iload_n hx hb dX2_pullDown_37 rfl (lv_at hl 0 rfl) ?_
    obtain ⟨hi18, hR⟩ := kk_ck_el hR
    refine va_iald hx hb hK hP 6 0 rfl rfl hi18 dX2_pullDown_38 ?_
    obtain ⟨hi20, hR⟩ := kk_ck_el hR
    obtain ⟨P19, eP19, hR⟩ := kk_nm_el hR
    refine kk_iast (w' := (w_P g a P19)) hC hK hP hD hS 6 rfl hi20 (by rw [eP19]; rfl) dX2_pullDown_39 (fun H locs hP hD hS => ?_)
    refine lv_iinc (v := (u10 + (1 : Int32))) (lv' := [(2, .int (u10 + (1 : Int32))), (0, .ref (a 0))]) hx hb dX2_pullDown_40 hl (k := 0) rfl rfl (by decide) rfl (fun ls hl => ?_)
    refine lv_goto (tgt := 4) hx hb dX2_pullDown_43 (by decide) ?_
    obtain rfl := Option.some.inj hR
    exact ih1 _ rfl _ _ _ hP hD hS (lv_sub hl [0, 1] rfl)
set_option maxHeartbeats 8000000 in
set_option maxRecDepth 100000 in
theorem sX2_isLowered (l : Launch) (g : kG) (n : Nat) (a : Nat → Nat) (P : St1) (v1 : Int32) (v2 : Int32) (r : Int32) (hR : fX2_isLowered n P v1 v2 = some r) : kSp l g yX2_isLowered wsX2_isLowered ({ frames := 1, cells := 0, slots := 0, locals := 22 }) [.ref (a 0), .int v1, .int v2] (w_P g a P) (kQi g (w_P g a P) r) := by
  refine kSp.of (cc := cX2_isLowered) (maxL := 3) (ret := (some .boolean)) (by decide) rfl (Nat.le_of_ble_eq_true rfl) ?_
  intro p e s m args below meth c ls A hC hr hlocks hA hK hl hP hD hS
  replace hC : CallFix p m c cX2_isLowered 3 s args wsX2_isLowered RX2 := hC
  obtain ⟨hx, hb, hml, hown, hts⟩ := id hC
  replace hl : lv_has ls 3 [(0, .ref (a 0)), (1, .int v1), (2, .int v2)] := hl
  unfold fX2_isLowered at hR
  have hw2 : ∀ w ∈ wsX20, w ∈ wsX2_isLowered := by decide +kernel
  have hl0 := hts (.fieldLink RX2 35 "FloatOrder$Parade" "clearances" "[I") (by decide +kernel)
  refine lv_aload_n hx hb dX2_isLowered_0 rfl (lv_at hl 0 rfl) ?_
  refine lv_iload_n hx hb dX2_isLowered_1 rfl (lv_at hl 1 rfl) ?_
  obtain ⟨x1, hq1, hR⟩ := kk_bd_el hR
  refine kk_call_Vi (w' := (w_P g a P)) (As := [.int v1]) (rest := []) 0 2 hC (sX2_countedHeight l g n a P v1 x1 hq1) (cwV 1 hts gX2_isLowered_X2_countedHeight rfl rfl rfl (by decide +kernel) ⟨Nat.le_of_ble_eq_true rfl, Nat.le_of_ble_eq_true rfl⟩) hK hP hD hS hA [0, 1, 2, 3, 4, 5, 6, 7, 8, 9] rfl (by decide +kernel) rfl rfl rfl rfl rfl rfl rfl hl.1 (Nat.le_of_ble_eq_true rfl) dX2_isLowered_2 (fun H locs hP hD hS => ?_)
  refine lv_aload_n hx hb dX2_isLowered_5 rfl (lv_at hl 0 rfl) ?_
  refine va_get (ci := 2) (C := RX2) (T := TX2) (N := 11) hx hb hts hw2 hown hK hP 0 rfl rfl 7 (by decide) hl0 (fun _ h9 => h9) rfl dX2_isLowered_6 ?_
  refine lv_iload_n hx hb dX2_isLowered_9 rfl (lv_at hl 2 rfl) ?_
  obtain ⟨hi2, hR⟩ := kk_ck_el hR
  refine va_iald hx hb hK hP 6 0 rfl rfl hi2 dX2_isLowered_10 ?_
  refine lv_icmp_le (tgt := 18) hx hb dX2_isLowered_11 (by decide) (fun c3 => ?_) (fun c3 => ?_)
  · replace hR := (if_pos c3).symm.trans hR
    refine lv_iconst (v := (0 : Int32)) hx hb dX2_isLowered_18 (by decide) ?_
    obtain rfl := Option.some.inj hR
    exact kk_ret_z hC hr hlocks hK hP hD hS dX2_isLowered_19 (by decide) rfl
  · replace hR := (if_neg c3).symm.trans hR
    refine lv_iconst (v := (1 : Int32)) hx hb dX2_isLowered_14 (by decide) ?_
    refine lv_goto (tgt := 19) hx hb dX2_isLowered_15 (by decide) ?_
    obtain rfl := Option.some.inj hR
    exact kk_ret_z hC hr hlocks hK hP hD hS dX2_isLowered_19 (by decide) rfl
set_option maxHeartbeats 8000000 in
set_option maxRecDepth 100000 in
theorem sX2_bridgesThatLower (l : Launch) (g : kG) (n : Nat) (a : Nat → Nat) (P : St1) (v1 : Int32) (r : Int32) (hR : fX2_bridgesThatLower n P v1 = some r) : kSp l g yX2_bridgesThatLower wsX2_bridgesThatLower ({ frames := 2, cells := 0, slots := 0, locals := 44 }) [.ref (a 0), .int v1] (w_P g a P) (kQi g (w_P g a P) r) := by
  refine kSp.of (cc := cX2_bridgesThatLower) (maxL := 4) (ret := (some .int)) (by decide) rfl (Nat.le_of_ble_eq_true rfl) ?_
  intro p e s m args below meth c ls A hC hr hlocks hA hK hl hP hD hS
  replace hC : CallFix p m c cX2_bridgesThatLower 4 s args wsX2_bridgesThatLower RX2 := hC
  obtain ⟨hx, hb, hml, hown, hts⟩ := id hC
  replace hl : lv_has ls 4 [(0, .ref (a 0)), (1, .int v1)] := hl
  unfold fX2_bridgesThatLower at hR
  have hw2 : ∀ w ∈ wsX20, w ∈ wsX2_bridgesThatLower := by decide +kernel
  have hl0 := hts (.fieldLink RX2 29 "FloatOrder$Parade" "bridges" "I") (by decide +kernel)
  refine lv_iconst (v := (0 : Int32)) hx hb dX2_bridgesThatLower_0 (by decide) ?_
  refine lv_istore_n (lv' := [(2, .int (0 : Int32)), (0, .ref (a 0)), (1, .int v1)]) hx hb dX2_bridgesThatLower_1 rfl hl (by decide) rfl (fun ls hl => ?_)
  refine lv_iconst (v := (0 : Int32)) hx hb dX2_bridgesThatLower_2 (by decide) ?_
  refine lv_istore_n (lv' := [(3, .int (0 : Int32)), (2, .int (0 : Int32)), (0, .ref (a 0)), (1, .int v1)]) hx hb dX2_bridgesThatLower_3 rfl hl (by decide) rfl (fun ls hl => ?_)
  obtain ⟨x10, hq10, hR⟩ := kk_bd_el hR
  refine kk_cut (g := g) (A := A) (w' := (w_P g a P)) (nL := 4) (lv := [(2, .int x10)]) (pcJ := 30) (st := []) (fun H locs ls hP hD hS hl => ?_) (fun hj10 => ?_)
  · refine lv_iload_n hx hb dX2_bridgesThatLower_30 rfl (lv_at hl 0 rfl) ?_
    obtain rfl := Option.some.inj hR
    exact kk_ret_i hC hr hlocks hK hP hD hS dX2_bridgesThatLower_31 rfl
  refine kk_loop (g := g) (A := A) (fun (st : Int32 × Int32) => (w_P g a P)) (fun (st : Int32 × Int32) => [(3, .int st.2), (2, .int st.1), (0, .ref (a 0)), (1, .int v1)]) 4 (nL := 4) hq10 (fun st xb9 hR ih1 hX1 => ?_) hP hD hS (lv_sub hl [0, 1, 2, 3] rfl)
  clear hP hD hS hl
  obtain ⟨u7, u8⟩ := st
  intro H locs ls hP hD hS hl
  replace hR : fX2_bridgesThatLower_b4 n P v1 u7 u8 = some xb9 := hR
  replace hP : va_P g.1 vwCl (w_P g a P) H := hP
  replace hD : va_D A (w_P g a P) := hD
  replace hl : lv_has ls 4 [(3, .int u8), (2, .int u7), (0, .ref (a 0)), (1, .int v1)] := hl
  unfold fX2_bridgesThatLower_b4 at hR
  refine lv_iload_n hx hb dX2_bridgesThatLower_4 rfl (lv_at hl 0 rfl) ?_
  refine lv_aload_n hx hb dX2_bridgesThatLower_5 rfl (lv_at hl 2 rfl) ?_
  refine va_get (ci := 2) (C := RX2) (T := TX2) (N := 11) hx hb hts hw2 hown hK hP 0 rfl rfl 5 (by decide) hl0 (fun _ h9 => h9) rfl dX2_bridgesThatLower_6 ?_
  refine lv_icmp_ge (tgt := 30) hx hb dX2_bridgesThatLower_9 (by decide) (fun c11 => ?_) (fun c11 => ?_)
  · replace hR := (if_pos c11).symm.trans hR
    obtain rfl := Option.some.inj hR
    obtain rfl := hX1 _ rfl
    exact hj10 _ _ _ hP hD hS (lv_sub hl [1] rfl)
  · replace hR := (if_neg c11).symm.trans hR
    refine lv_aload_n hx hb dX2_bridgesThatLower_12 rfl (lv_at hl 2 rfl) ?_
    refine lv_iload_n hx hb dX2_bridgesThatLower_13 rfl (lv_at hl 3 rfl) ?_
    refine lv_iload_n hx hb dX2_bridgesThatLower_14 rfl (lv_at hl 0 rfl) ?_
    obtain ⟨x12, hq12, hR⟩ := kk_bd_el hR
    refine kk_call_Vi (w' := (w_P g a P)) (As := [.int v1, .int u8]) (rest := []) 0 2 hC (sX2_isLowered l g n a P v1 u8 x12 hq12) (cwV 2 hts gX2_bridgesThatLower_X2_isLowered rfl rfl rfl (by decide +kernel) ⟨Nat.le_of_ble_eq_true rfl, Nat.le_of_ble_eq_true rfl⟩) hK hP hD hS hA [0, 1, 2, 3, 4, 5, 6, 7, 8, 9] rfl (by decide +kernel) rfl rfl rfl rfl rfl rfl rfl hl.1 (Nat.le_of_ble_eq_true rfl) dX2_bridgesThatLower_15 (fun H locs hP hD hS => ?_)
    refine lv_if_eq (tgt := 24) hx hb dX2_bridgesThatLower_18 (by decide) (fun c13 => ?_) (fun c13 => ?_)
    · replace hR := (if_pos c13).symm.trans hR
      refine lv_iinc (v := (u8 + (1 : Int32))) (lv' := [(3, .int (u8 + (1 : Int32))), (2, .int u7), (0, .ref (a 0)), (1, .int v1)]) hx hb dX2_bridgesThatLower_24 hl (k := 0) rfl rfl (by decide) rfl (fun ls hl => ?_)
      refine lv_goto (tgt := 4) hx hb dX2_bridgesThatLower_27 (by decide) ?_
      obtain rfl := Option.some.inj hR
      exact ih1 _ rfl _ _ _ hP hD hS (lv_sub hl [0, 1, 2, 3] rfl)
    · replace hR := (if_neg c13).symm.trans hR
      refine lv_iinc (v := (u7 + (1 : Int32))) (lv' := [(2, .int (u7 + (1 : Int32))), (3, .int u8), (0, .ref (a 0)), (1, .int v1)]) hx hb dX2_bridgesThatLower_21 hl (k := 1) rfl rfl (by decide) rfl (fun ls hl => ?_)
      refine lv_iinc (v := (u8 + (1 : Int32))) (lv' := [(3, .int (u8 + (1 : Int32))), (2, .int (u7 + (1 : Int32))), (0, .ref (a 0)), (1, .int v1)]) hx hb dX2_bridgesThatLower_24 hl (k := 1) rfl rfl (by decide) rfl (fun ls hl => ?_)
      refine lv_goto (tgt := 4) hx hb dX2_bridgesThatLower_27 (by decide) ?_
      obtain rfl := Option.some.inj hR
      exact ih1 _ rfl _ _ _ hP hD hS (lv_sub hl [0, 1, 2, 3] rfl)
set_option maxHeartbeats 8000000 in
set_option maxRecDepth 100000 in
theorem sX2_floatsLoweredAt (l : Launch) (g : kG) (n : Nat) (a : Nat → Nat) (P : St1) (v1 : Int32) (r : Int32) (hR : fX2_floatsLoweredAt n P v1 = some r) : kSp l g yX2_floatsLoweredAt wsX2_floatsLoweredAt ({ frames := 2, cells := 0, slots := 0, locals := 44 }) [.ref (a 0), .int v1] (w_P g a P) (kQi g (w_P g a P) r) := by
  refine kSp.of (cc := cX2_floatsLoweredAt) (maxL := 4) (ret := (some .int)) (by decide) rfl (Nat.le_of_ble_eq_true rfl) ?_
  intro p e s m args below meth c ls A hC hr hlocks hA hK hl hP hD hS
  replace hC : CallFix p m c cX2_floatsLoweredAt 4 s args wsX2_floatsLoweredAt RX2 := hC
  obtain ⟨hx, hb, hml, hown, hts⟩ := id hC
  replace hl : lv_has ls 4 [(0, .ref (a 0)), (1, .int v1)] := hl
  unfold fX2_floatsLoweredAt at hR
  have hw2 : ∀ w ∈ wsX20, w ∈ wsX2_floatsLoweredAt := by decide +kernel
  have hl0 := hts (.fieldLink RX2 9 "FloatOrder$Parade" "floats" "I") (by decide +kernel)
  refine lv_iconst (v := (0 : Int32)) hx hb dX2_floatsLoweredAt_0 (by decide) ?_
  refine lv_istore_n (lv' := [(2, .int (0 : Int32)), (0, .ref (a 0)), (1, .int v1)]) hx hb dX2_floatsLoweredAt_1 rfl hl (by decide) rfl (fun ls hl => ?_)
  refine lv_iconst (v := (0 : Int32)) hx hb dX2_floatsLoweredAt_2 (by decide) ?_
  refine lv_istore_n (lv' := [(3, .int (0 : Int32)), (2, .int (0 : Int32)), (0, .ref (a 0)), (1, .int v1)]) hx hb dX2_floatsLoweredAt_3 rfl hl (by decide) rfl (fun ls hl => ?_)
  obtain ⟨x10, hq10, hR⟩ := kk_bd_el hR
  refine kk_cut (g := g) (A := A) (w' := (w_P g a P)) (nL := 4) (lv := [(2, .int x10)]) (pcJ := 30) (st := []) (fun H locs ls hP hD hS hl => ?_) (fun hj10 => ?_)
  · refine lv_iload_n hx hb dX2_floatsLoweredAt_30 rfl (lv_at hl 0 rfl) ?_
    obtain rfl := Option.some.inj hR
    exact kk_ret_i hC hr hlocks hK hP hD hS dX2_floatsLoweredAt_31 rfl
  refine kk_loop (g := g) (A := A) (fun (st : Int32 × Int32) => (w_P g a P)) (fun (st : Int32 × Int32) => [(3, .int st.2), (2, .int st.1), (0, .ref (a 0)), (1, .int v1)]) 4 (nL := 4) hq10 (fun st xb9 hR ih1 hX1 => ?_) hP hD hS (lv_sub hl [0, 1, 2, 3] rfl)
  clear hP hD hS hl
  obtain ⟨u7, u8⟩ := st
  intro H locs ls hP hD hS hl
  replace hR : fX2_floatsLoweredAt_b4 n P v1 u7 u8 = some xb9 := hR
  replace hP : va_P g.1 vwCl (w_P g a P) H := hP
  replace hD : va_D A (w_P g a P) := hD
  replace hl : lv_has ls 4 [(3, .int u8), (2, .int u7), (0, .ref (a 0)), (1, .int v1)] := hl
  unfold fX2_floatsLoweredAt_b4 at hR
  refine lv_iload_n hx hb dX2_floatsLoweredAt_4 rfl (lv_at hl 0 rfl) ?_
  refine lv_aload_n hx hb dX2_floatsLoweredAt_5 rfl (lv_at hl 2 rfl) ?_
  refine va_get (ci := 2) (C := RX2) (T := TX2) (N := 11) hx hb hts hw2 hown hK hP 0 rfl rfl 0 (by decide) hl0 (fun _ h9 => h9) rfl dX2_floatsLoweredAt_6 ?_
  refine lv_icmp_ge (tgt := 30) hx hb dX2_floatsLoweredAt_9 (by decide) (fun c11 => ?_) (fun c11 => ?_)
  · replace hR := (if_pos c11).symm.trans hR
    obtain rfl := Option.some.inj hR
    obtain rfl := hX1 _ rfl
    exact hj10 _ _ _ hP hD hS (lv_sub hl [1] rfl)
  · replace hR := (if_neg c11).symm.trans hR
    refine lv_aload_n hx hb dX2_floatsLoweredAt_12 rfl (lv_at hl 2 rfl) ?_
    refine lv_iload_n hx hb dX2_floatsLoweredAt_13 rfl (lv_at hl 0 rfl) ?_
    refine lv_iload_n hx hb dX2_floatsLoweredAt_14 rfl (lv_at hl 3 rfl) ?_
    obtain ⟨x12, hq12, hR⟩ := kk_bd_el hR
    refine kk_call_Vi (w' := (w_P g a P)) (As := [.int u8, .int v1]) (rest := []) 0 2 hC (sX2_isLowered l g n a P u8 v1 x12 hq12) (cwV 2 hts gX2_floatsLoweredAt_X2_isLowered rfl rfl rfl (by decide +kernel) ⟨Nat.le_of_ble_eq_true rfl, Nat.le_of_ble_eq_true rfl⟩) hK hP hD hS hA [0, 1, 2, 3, 4, 5, 6, 7, 8, 9] rfl (by decide +kernel) rfl rfl rfl rfl rfl rfl rfl hl.1 (Nat.le_of_ble_eq_true rfl) dX2_floatsLoweredAt_15 (fun H locs hP hD hS => ?_)
    refine lv_if_eq (tgt := 24) hx hb dX2_floatsLoweredAt_18 (by decide) (fun c13 => ?_) (fun c13 => ?_)
    · replace hR := (if_pos c13).symm.trans hR
      refine lv_iinc (v := (u8 + (1 : Int32))) (lv' := [(3, .int (u8 + (1 : Int32))), (2, .int u7), (0, .ref (a 0)), (1, .int v1)]) hx hb dX2_floatsLoweredAt_24 hl (k := 0) rfl rfl (by decide) rfl (fun ls hl => ?_)
      refine lv_goto (tgt := 4) hx hb dX2_floatsLoweredAt_27 (by decide) ?_
      obtain rfl := Option.some.inj hR
      exact ih1 _ rfl _ _ _ hP hD hS (lv_sub hl [0, 1, 2, 3] rfl)
    · replace hR := (if_neg c13).symm.trans hR
      refine lv_iinc (v := (u7 + (1 : Int32))) (lv' := [(2, .int (u7 + (1 : Int32))), (3, .int u8), (0, .ref (a 0)), (1, .int v1)]) hx hb dX2_floatsLoweredAt_21 hl (k := 1) rfl rfl (by decide) rfl (fun ls hl => ?_)
      refine lv_iinc (v := (u8 + (1 : Int32))) (lv' := [(3, .int (u8 + (1 : Int32))), (2, .int (u7 + (1 : Int32))), (0, .ref (a 0)), (1, .int v1)]) hx hb dX2_floatsLoweredAt_24 hl (k := 1) rfl rfl (by decide) rfl (fun ls hl => ?_)
      refine lv_goto (tgt := 4) hx hb dX2_floatsLoweredAt_27 (by decide) ?_
      obtain rfl := Option.some.inj hR
      exact ih1 _ rfl _ _ _ hP hD hS (lv_sub hl [0, 1, 2, 3] rfl)
set_option maxHeartbeats 8000000 in
set_option maxRecDepth 100000 in
theorem sX2_loweredFloats (l : Launch) (g : kG) (n : Nat) (a : Nat → Nat) (P : St1) (r : Int32) (hR : fX2_loweredFloats n P = some r) : kSp l g yX2_loweredFloats wsX2_loweredFloats ({ frames := 3, cells := 0, slots := 0, locals := 67 }) [.ref (a 0)] (w_P g a P) (kQi g (w_P g a P) r) := by
  refine kSp.of (cc := cX2_loweredFloats) (maxL := 3) (ret := (some .int)) (by decide) rfl (Nat.le_of_ble_eq_true rfl) ?_
  intro p e s m args below meth c ls A hC hr hlocks hA hK hl hP hD hS
  replace hC : CallFix p m c cX2_loweredFloats 3 s args wsX2_loweredFloats RX2 := hC
  obtain ⟨hx, hb, hml, hown, hts⟩ := id hC
  replace hl : lv_has ls 3 [(0, .ref (a 0))] := hl
  unfold fX2_loweredFloats at hR
  have hw2 : ∀ w ∈ wsX20, w ∈ wsX2_loweredFloats := by decide +kernel
  have hl0 := hts (.fieldLink RX2 9 "FloatOrder$Parade" "floats" "I") (by decide +kernel)
  refine lv_iconst (v := (0 : Int32)) hx hb dX2_loweredFloats_0 (by decide) ?_
  refine lv_istore_n (lv' := [(1, .int (0 : Int32)), (0, .ref (a 0))]) hx hb dX2_loweredFloats_1 rfl hl (by decide) rfl (fun ls hl => ?_)
  refine lv_iconst (v := (0 : Int32)) hx hb dX2_loweredFloats_2 (by decide) ?_
  refine lv_istore_n (lv' := [(2, .int (0 : Int32)), (1, .int (0 : Int32)), (0, .ref (a 0))]) hx hb dX2_loweredFloats_3 rfl hl (by decide) rfl (fun ls hl => ?_)
  obtain ⟨x10, hq10, hR⟩ := kk_bd_el hR
  refine kk_cut (g := g) (A := A) (w' := (w_P g a P)) (nL := 3) (lv := [(1, .int x10)]) (pcJ := 29) (st := []) (fun H locs ls hP hD hS hl => ?_) (fun hj10 => ?_)
  · refine lv_iload_n hx hb dX2_loweredFloats_29 rfl (lv_at hl 0 rfl) ?_
    obtain rfl := Option.some.inj hR
    exact kk_ret_i hC hr hlocks hK hP hD hS dX2_loweredFloats_30 rfl
  refine kk_loop (g := g) (A := A) (fun (st : Int32 × Int32) => (w_P g a P)) (fun (st : Int32 × Int32) => [(2, .int st.2), (1, .int st.1), (0, .ref (a 0))]) 4 (nL := 3) hq10 (fun st xb9 hR ih1 hX1 => ?_) hP hD hS (lv_sub hl [0, 1, 2] rfl)
  clear hP hD hS hl
  obtain ⟨u7, u8⟩ := st
  intro H locs ls hP hD hS hl
  replace hR : fX2_loweredFloats_b4 n P u7 u8 = some xb9 := hR
  replace hP : va_P g.1 vwCl (w_P g a P) H := hP
  replace hD : va_D A (w_P g a P) := hD
  replace hl : lv_has ls 3 [(2, .int u8), (1, .int u7), (0, .ref (a 0))] := hl
  unfold fX2_loweredFloats_b4 at hR
  refine lv_iload_n hx hb dX2_loweredFloats_4 rfl (lv_at hl 0 rfl) ?_
  refine lv_aload_n hx hb dX2_loweredFloats_5 rfl (lv_at hl 2 rfl) ?_
  refine va_get (ci := 2) (C := RX2) (T := TX2) (N := 11) hx hb hts hw2 hown hK hP 0 rfl rfl 0 (by decide) hl0 (fun _ h9 => h9) rfl dX2_loweredFloats_6 ?_
  refine lv_icmp_ge (tgt := 29) hx hb dX2_loweredFloats_9 (by decide) (fun c11 => ?_) (fun c11 => ?_)
  · replace hR := (if_pos c11).symm.trans hR
    obtain rfl := Option.some.inj hR
    obtain rfl := hX1 _ rfl
    exact hj10 _ _ _ hP hD hS (lv_sub hl [1] rfl)
  · replace hR := (if_neg c11).symm.trans hR
    refine lv_aload_n hx hb dX2_loweredFloats_12 rfl (lv_at hl 2 rfl) ?_
    refine lv_iload_n hx hb dX2_loweredFloats_13 rfl (lv_at hl 0 rfl) ?_
    obtain ⟨x12, hq12, hR⟩ := kk_bd_el hR
    refine kk_call_Vi (w' := (w_P g a P)) (As := [.int u8]) (rest := []) 0 2 hC (sX2_bridgesThatLower l g n a P u8 x12 hq12) (cwV 1 hts gX2_loweredFloats_X2_bridgesThatLower rfl rfl rfl (by decide +kernel) ⟨Nat.le_of_ble_eq_true rfl, Nat.le_of_ble_eq_true rfl⟩) hK hP hD hS hA [0, 1, 2, 3, 4, 5, 6, 7, 8, 9] rfl (by decide +kernel) rfl rfl rfl rfl rfl rfl rfl hl.1 (Nat.le_of_ble_eq_true rfl) dX2_loweredFloats_14 (fun H locs hP hD hS => ?_)
    refine lv_if_le (tgt := 23) hx hb dX2_loweredFloats_17 (by decide) (fun c13 => ?_) (fun c13 => ?_)
    · replace hR := (if_pos c13).symm.trans hR
      refine lv_iinc (v := (u8 + (1 : Int32))) (lv' := [(2, .int (u8 + (1 : Int32))), (1, .int u7), (0, .ref (a 0))]) hx hb dX2_loweredFloats_23 hl (k := 0) rfl rfl (by decide) rfl (fun ls hl => ?_)
      refine lv_goto (tgt := 4) hx hb dX2_loweredFloats_26 (by decide) ?_
      obtain rfl := Option.some.inj hR
      exact ih1 _ rfl _ _ _ hP hD hS (lv_sub hl [0, 1, 2] rfl)
    · replace hR := (if_neg c13).symm.trans hR
      refine lv_iinc (v := (u7 + (1 : Int32))) (lv' := [(1, .int (u7 + (1 : Int32))), (2, .int u8), (0, .ref (a 0))]) hx hb dX2_loweredFloats_20 hl (k := 1) rfl rfl (by decide) rfl (fun ls hl => ?_)
      refine lv_iinc (v := (u8 + (1 : Int32))) (lv' := [(2, .int (u8 + (1 : Int32))), (1, .int (u7 + (1 : Int32))), (0, .ref (a 0))]) hx hb dX2_loweredFloats_23 hl (k := 1) rfl rfl (by decide) rfl (fun ls hl => ?_)
      refine lv_goto (tgt := 4) hx hb dX2_loweredFloats_26 (by decide) ?_
      obtain rfl := Option.some.inj hR
      exact ih1 _ rfl _ _ _ hP hD hS (lv_sub hl [0, 1, 2] rfl)
set_option maxHeartbeats 8000000 in
set_option maxRecDepth 100000 in
theorem sX2_bridgeProperty (l : Launch) (g : kG) (n : Nat) (a : Nat → Nat) (P : St1) (v1 : Int32) (v2 : Int32) (r : Int32) (hR : fX2_bridgeProperty n P v1 v2 = some r) : kSp l g yX2_bridgeProperty wsX2_bridgeProperty ({ frames := 3, cells := 0, slots := 0, locals := 67 }) [.ref (a 0), .int v1, .int v2] (w_P g a P) (kQi g (w_P g a P) r) := by
  refine kSp.of (cc := cX2_bridgeProperty) (maxL := 3) (ret := (some .int)) (by decide) rfl (Nat.le_of_ble_eq_true rfl) ?_
  intro p e s m args below meth c ls A hC hr hlocks hA hK hl hP hD hS
  replace hC : CallFix p m c cX2_bridgeProperty 3 s args wsX2_bridgeProperty RX2 := hC
  obtain ⟨hx, hb, hml, hown, hts⟩ := id hC
  replace hl : lv_has ls 3 [(0, .ref (a 0)), (1, .int v1), (2, .int v2)] := hl
  unfold fX2_bridgeProperty at hR
  have hw2 : ∀ w ∈ wsX20, w ∈ wsX2_bridgeProperty := by decide +kernel
  have hl0 := hts (.fieldLink RX2 32 "FloatOrder$Parade" "distances" "[I") (by decide +kernel)
  have hl1 := hts (.fieldLink RX2 35 "FloatOrder$Parade" "clearances" "[I") (by decide +kernel)
  refine lv_iload_n hx hb dX2_bridgeProperty_0 rfl (lv_at hl 2 rfl) ?_
  by_cases c1 : v2 = (0 : Int32)
  · replace hR := (if_pos c1).symm.trans hR
    refine lv_lookup (off := 27) (tgt := 28) hx hb dX2_bridgeProperty_1 (by decide) (by rw [c1]; rfl) (by decide) ?_
    refine lv_aload_n hx hb dX2_bridgeProperty_28 rfl (lv_at hl 0 rfl) ?_
    refine va_get (ci := 2) (C := RX2) (T := TX2) (N := 11) hx hb hts hw2 hown hK hP 0 rfl rfl 6 (by decide) hl0 (fun _ h9 => h9) rfl dX2_bridgeProperty_29 ?_
    refine lv_iload_n hx hb dX2_bridgeProperty_32 rfl (lv_at hl 1 rfl) ?_
    obtain ⟨hi2, hR⟩ := kk_ck_el hR
    refine va_iald hx hb hK hP 5 0 rfl rfl hi2 dX2_bridgeProperty_33 ?_
    obtain rfl := Option.some.inj hR
    exact kk_ret_i hC hr hlocks hK hP hD hS dX2_bridgeProperty_34 rfl
  replace hR := (if_neg c1).symm.trans hR
  by_cases c3 : v2 = (1 : Int32)
  · replace hR := (if_pos c3).symm.trans hR
    refine lv_lookup (off := 34) (tgt := 35) hx hb dX2_bridgeProperty_1 (by decide) (by rw [c3]; rfl) (by decide) ?_
    refine lv_aload_n hx hb dX2_bridgeProperty_35 rfl (lv_at hl 0 rfl) ?_
    refine va_get (ci := 2) (C := RX2) (T := TX2) (N := 11) hx hb hts hw2 hown hK hP 0 rfl rfl 7 (by decide) hl1 (fun _ h9 => h9) rfl dX2_bridgeProperty_36 ?_
    refine lv_iload_n hx hb dX2_bridgeProperty_39 rfl (lv_at hl 1 rfl) ?_
    obtain ⟨hi4, hR⟩ := kk_ck_el hR
    refine va_iald hx hb hK hP 6 0 rfl rfl hi4 dX2_bridgeProperty_40 ?_
    obtain rfl := Option.some.inj hR
    exact kk_ret_i hC hr hlocks hK hP hD hS dX2_bridgeProperty_41 rfl
  replace hR := (if_neg c3).symm.trans hR
  refine lv_lookup (off := 41) (tgt := 42) hx hb dX2_bridgeProperty_1 (by decide) ((lv_osw c1 rfl).trans ((lv_osw c3 rfl).trans (rfl))) (by decide) ?_
  refine lv_aload_n hx hb dX2_bridgeProperty_42 rfl (lv_at hl 0 rfl) ?_
  refine lv_iload_n hx hb dX2_bridgeProperty_43 rfl (lv_at hl 1 rfl) ?_
  obtain ⟨x5, hq5, hR⟩ := kk_bd_el hR
  refine kk_call_Vi (w' := (w_P g a P)) (As := [.int v1]) (rest := []) 0 2 hC (sX2_floatsLoweredAt l g n a P v1 x5 hq5) (cwV 1 hts gX2_bridgeProperty_X2_floatsLoweredAt rfl rfl rfl (by decide +kernel) ⟨Nat.le_of_ble_eq_true rfl, Nat.le_of_ble_eq_true rfl⟩) hK hP hD hS hA [0, 1, 2, 3, 4, 5, 6, 7, 8, 9] rfl (by decide +kernel) rfl rfl rfl rfl rfl rfl rfl hl.1 (Nat.le_of_ble_eq_true rfl) dX2_bridgeProperty_44 (fun H locs hP hD hS => ?_)
  obtain rfl := Option.some.inj hR
  exact kk_ret_i hC hr hlocks hK hP hD hS dX2_bridgeProperty_47 rfl
set_option maxHeartbeats 8000000 in
set_option maxRecDepth 100000 in
theorem sX2_floatProperty (l : Launch) (g : kG) (n : Nat) (a : Nat → Nat) (P : St1) (v1 : Int32) (v2 : Int32) (r : Int32) (hR : fX2_floatProperty n P v1 v2 = some r) : kSp l g yX2_floatProperty wsX2_floatProperty ({ frames := 3, cells := 0, slots := 0, locals := 67 }) [.ref (a 0), .int v1, .int v2] (w_P g a P) (kQi g (w_P g a P) r) := by
  refine kSp.of (cc := cX2_floatProperty) (maxL := 3) (ret := (some .int)) (by decide) rfl (Nat.le_of_ble_eq_true rfl) ?_
  intro p e s m args below meth c ls A hC hr hlocks hA hK hl hP hD hS
  replace hC : CallFix p m c cX2_floatProperty 3 s args wsX2_floatProperty RX2 := hC
  obtain ⟨hx, hb, hml, hown, hts⟩ := id hC
  replace hl : lv_has ls 3 [(0, .ref (a 0)), (1, .int v1), (2, .int v2)] := hl
  unfold fX2_floatProperty at hR
  have hw2 : ∀ w ∈ wsX20, w ∈ wsX2_floatProperty := by decide +kernel
  have hl0 := hts (.fieldLink RX2 15 "FloatOrder$Parade" "kinds" "[I") (by decide +kernel)
  have hl1 := hts (.fieldLink RX2 19 "FloatOrder$Parade" "heights" "[I") (by decide +kernel)
  have hl2 := hts (.fieldLink RX2 22 "FloatOrder$Parade" "masks" "[I") (by decide +kernel)
  have hl3 := hts (.fieldLink RX2 25 "FloatOrder$Parade" "folded" "[Z") (by decide +kernel)
  refine lv_iload_n hx hb dX2_floatProperty_0 rfl (lv_at hl 2 rfl) ?_
  by_cases c1 : v2 = (0 : Int32)
  · replace hR := (if_pos c1).symm.trans hR
    refine lv_tableIn (off := 39) (tgt := 40) hx hb dX2_floatProperty_1 (by rw [c1]; decide) (by rw [c1]; decide) (by rw [c1]; rfl) (by decide) ?_
    refine lv_aload_n hx hb dX2_floatProperty_40 rfl (lv_at hl 0 rfl) ?_
    refine va_get (ci := 2) (C := RX2) (T := TX2) (N := 11) hx hb hts hw2 hown hK hP 0 rfl rfl 1 (by decide) hl0 (fun _ h9 => h9) rfl dX2_floatProperty_41 ?_
    refine lv_iload_n hx hb dX2_floatProperty_44 rfl (lv_at hl 1 rfl) ?_
    obtain ⟨hi2, hR⟩ := kk_ck_el hR
    refine va_iald hx hb hK hP 1 0 rfl rfl hi2 dX2_floatProperty_45 ?_
    obtain rfl := Option.some.inj hR
    exact kk_ret_i hC hr hlocks hK hP hD hS dX2_floatProperty_46 rfl
  replace hR := (if_neg c1).symm.trans hR
  by_cases c3 : v2 = (1 : Int32)
  · replace hR := (if_pos c3).symm.trans hR
    refine lv_tableIn (off := 46) (tgt := 47) hx hb dX2_floatProperty_1 (by rw [c3]; decide) (by rw [c3]; decide) (by rw [c3]; rfl) (by decide) ?_
    refine lv_aload_n hx hb dX2_floatProperty_47 rfl (lv_at hl 0 rfl) ?_
    refine va_get (ci := 2) (C := RX2) (T := TX2) (N := 11) hx hb hts hw2 hown hK hP 0 rfl rfl 2 (by decide) hl1 (fun _ h9 => h9) rfl dX2_floatProperty_48 ?_
    refine lv_iload_n hx hb dX2_floatProperty_51 rfl (lv_at hl 1 rfl) ?_
    obtain ⟨hi4, hR⟩ := kk_ck_el hR
    refine va_iald hx hb hK hP 2 0 rfl rfl hi4 dX2_floatProperty_52 ?_
    obtain rfl := Option.some.inj hR
    exact kk_ret_i hC hr hlocks hK hP hD hS dX2_floatProperty_53 rfl
  replace hR := (if_neg c3).symm.trans hR
  by_cases c5 : v2 = (2 : Int32)
  · replace hR := (if_pos c5).symm.trans hR
    refine lv_tableIn (off := 53) (tgt := 54) hx hb dX2_floatProperty_1 (by rw [c5]; decide) (by rw [c5]; decide) (by rw [c5]; rfl) (by decide) ?_
    refine lv_aload_n hx hb dX2_floatProperty_54 rfl (lv_at hl 0 rfl) ?_
    refine va_get (ci := 2) (C := RX2) (T := TX2) (N := 11) hx hb hts hw2 hown hK hP 0 rfl rfl 3 (by decide) hl2 (fun _ h9 => h9) rfl dX2_floatProperty_55 ?_
    refine lv_iload_n hx hb dX2_floatProperty_58 rfl (lv_at hl 1 rfl) ?_
    obtain ⟨hi6, hR⟩ := kk_ck_el hR
    refine va_iald hx hb hK hP 3 0 rfl rfl hi6 dX2_floatProperty_59 ?_
    obtain rfl := Option.some.inj hR
    exact kk_ret_i hC hr hlocks hK hP hD hS dX2_floatProperty_60 rfl
  replace hR := (if_neg c5).symm.trans hR
  by_cases c7 : v2 = (3 : Int32)
  · replace hR := (if_pos c7).symm.trans hR
    refine lv_tableIn (off := 60) (tgt := 61) hx hb dX2_floatProperty_1 (by rw [c7]; decide) (by rw [c7]; decide) (by rw [c7]; rfl) (by decide) ?_
    refine lv_aload_n hx hb dX2_floatProperty_61 rfl (lv_at hl 0 rfl) ?_
    refine va_get (ci := 2) (C := RX2) (T := TX2) (N := 11) hx hb hts hw2 hown hK hP 0 rfl rfl 4 (by decide) hl3 (fun _ h9 => h9) rfl dX2_floatProperty_62 ?_
    refine lv_iload_n hx hb dX2_floatProperty_65 rfl (lv_at hl 1 rfl) ?_
    obtain ⟨hi8, hR⟩ := kk_ck_el hR
    refine va_zald hx hb hK hP 4 1 rfl rfl hi8 dX2_floatProperty_66 ?_
    refine lv_if_eq (tgt := 74) hx hb dX2_floatProperty_67 (by decide) (fun c9 => ?_) (fun c9 => ?_)
    · replace hR := (if_pos c9).symm.trans hR
      refine lv_iconst (v := (0 : Int32)) hx hb dX2_floatProperty_74 (by decide) ?_
      obtain rfl := Option.some.inj hR
      exact kk_ret_i hC hr hlocks hK hP hD hS dX2_floatProperty_75 rfl
    · replace hR := (if_neg c9).symm.trans hR
      refine lv_iconst (v := (1 : Int32)) hx hb dX2_floatProperty_70 (by decide) ?_
      refine lv_goto (tgt := 75) hx hb dX2_floatProperty_71 (by decide) ?_
      obtain rfl := Option.some.inj hR
      exact kk_ret_i hC hr hlocks hK hP hD hS dX2_floatProperty_75 rfl
  replace hR := (if_neg c7).symm.trans hR
  by_cases c10 : v2 = (4 : Int32)
  · replace hR := (if_pos c10).symm.trans hR
    refine lv_tableIn (off := 75) (tgt := 76) hx hb dX2_floatProperty_1 (by rw [c10]; decide) (by rw [c10]; decide) (by rw [c10]; rfl) (by decide) ?_
    refine lv_aload_n hx hb dX2_floatProperty_76 rfl (lv_at hl 0 rfl) ?_
    refine lv_iload_n hx hb dX2_floatProperty_77 rfl (lv_at hl 1 rfl) ?_
    obtain ⟨x11, hq11, hR⟩ := kk_bd_el hR
    refine kk_call_Vi (w' := (w_P g a P)) (As := [.int v1]) (rest := []) 0 2 hC (sX2_countedHeight l g n a P v1 x11 hq11) (cwV 1 hts gX2_floatProperty_X2_countedHeight rfl rfl rfl (by decide +kernel) ⟨Nat.le_of_ble_eq_true rfl, Nat.le_of_ble_eq_true rfl⟩) hK hP hD hS hA [0, 1, 2, 3, 4, 5, 6, 7, 8, 9] rfl (by decide +kernel) rfl rfl rfl rfl rfl rfl rfl hl.1 (Nat.le_of_ble_eq_true rfl) dX2_floatProperty_78 (fun H locs hP hD hS => ?_)
    obtain rfl := Option.some.inj hR
    exact kk_ret_i hC hr hlocks hK hP hD hS dX2_floatProperty_81 rfl
  replace hR := (if_neg c10).symm.trans hR
  by_cases c12 : v2 = (5 : Int32)
  · replace hR := (if_pos c12).symm.trans hR
    refine lv_tableIn (off := 81) (tgt := 82) hx hb dX2_floatProperty_1 (by rw [c12]; decide) (by rw [c12]; decide) (by rw [c12]; rfl) (by decide) ?_
    refine lv_aload_n hx hb dX2_floatProperty_82 rfl (lv_at hl 0 rfl) ?_
    refine lv_iload_n hx hb dX2_floatProperty_83 rfl (lv_at hl 1 rfl) ?_
    obtain ⟨x13, hq13, hR⟩ := kk_bd_el hR
    refine kk_call_Vi (w' := (w_P g a P)) (As := [.int v1]) (rest := []) 0 2 hC (sX2_bridgesThatLower l g n a P v1 x13 hq13) (cwV 1 hts gX2_floatProperty_X2_bridgesThatLower rfl rfl rfl (by decide +kernel) ⟨Nat.le_of_ble_eq_true rfl, Nat.le_of_ble_eq_true rfl⟩) hK hP hD hS hA [0, 1, 2, 3, 4, 5, 6, 7, 8, 9] rfl (by decide +kernel) rfl rfl rfl rfl rfl rfl rfl hl.1 (Nat.le_of_ble_eq_true rfl) dX2_floatProperty_84 (fun H locs hP hD hS => ?_)
    obtain rfl := Option.some.inj hR
    exact kk_ret_i hC hr hlocks hK hP hD hS dX2_floatProperty_87 rfl
  replace hR := (if_neg c12).symm.trans hR
  have m0 := lv_neT (k := (0 : Int32)) (a := 0) c1 rfl
  have m1 := lv_neT (k := (1 : Int32)) (a := 1) c3 rfl
  have m2 := lv_neT (k := (2 : Int32)) (a := 2) c5 rfl
  have m3 := lv_neT (k := (3 : Int32)) (a := 3) c7 rfl
  have m4 := lv_neT (k := (4 : Int32)) (a := 4) c10 rfl
  have m5 := lv_neT (k := (5 : Int32)) (a := 5) c12 rfl
  refine lv_tableOut (tgt := 88) hx hb dX2_floatProperty_1 (by omega) (by decide) ?_
  refine lv_aload_n hx hb dX2_floatProperty_88 rfl (lv_at hl 0 rfl) ?_
  refine lv_iload_n hx hb dX2_floatProperty_89 rfl (lv_at hl 1 rfl) ?_
  obtain ⟨x14, hq14, hR⟩ := kk_bd_el hR
  refine kk_call_Vi (w' := (w_P g a P)) (As := [.int v1]) (rest := []) 0 2 hC (sX2_troubleAt l g n a P v1 x14 hq14) (cwV 1 hts gX2_floatProperty_X2_troubleAt rfl rfl rfl (by decide +kernel) ⟨Nat.le_of_ble_eq_true rfl, Nat.le_of_ble_eq_true rfl⟩) hK hP hD hS hA [0, 1, 2, 3, 4, 5, 6, 7, 8, 9] rfl (by decide +kernel) rfl rfl rfl rfl rfl rfl rfl hl.1 (Nat.le_of_ble_eq_true rfl) dX2_floatProperty_90 (fun H locs hP hD hS => ?_)
  obtain rfl := Option.some.inj hR
  exact kk_ret_i hC hr hlocks hK hP hD hS dX2_floatProperty_93 rfl
set_option maxHeartbeats 8000000 in
set_option maxRecDepth 100000 in
theorem sX2_travel (l : Launch) (g : kG) (n : Nat) (a : Nat → Nat) (P : St1) (v1 : Int32) (r : St1) (hR : fX2_travel n P v1 = some r) : kSp l g yX2_travel wsX2_travel ({ frames := 1, cells := 0, slots := 0, locals := 22 }) [.ref (a 0), .int v1] (w_P g a P) (kQv g (w_P g a r)) := by
  refine kSp.of (cc := cX2_travel) (maxL := 8) (ret := none) (by decide) rfl (Nat.le_of_ble_eq_true rfl) ?_
  intro p e s m args below meth c ls A hC hr hlocks hA hK hl hP hD hS
  replace hC : CallFix p m c cX2_travel 8 s args wsX2_travel RX2 := hC
  obtain ⟨hx, hb, hml, hown, hts⟩ := id hC
  replace hl : lv_has ls 8 [(0, .ref (a 0)), (1, .int v1)] := hl
  unfold fX2_travel at hR
  have hw2 : ∀ w ∈ wsX20, w ∈ wsX2_travel := by decide +kernel
  have hl0 := hts (.fieldLink RX2 38 "FloatOrder$Parade" "settings" "[I") (by decide +kernel)
  have hl1 := hts (.fieldLink RX2 29 "FloatOrder$Parade" "bridges" "I") (by decide +kernel)
  have hl2 := hts (.fieldLink RX2 32 "FloatOrder$Parade" "distances" "[I") (by decide +kernel)
  have hl3 := hts (.fieldLink RX2 44 "FloatOrder$Parade" "left" "[I") (by decide +kernel)
  have hl4 := hts (.methodLink RX2 64 Lib.Math.max.name) (by decide +kernel)
  have hl5 := hts (.static Lib.Math.max.name) (by decide +kernel)
  have hl6 := hts (.initialized "java/lang/Math") (by decide +kernel)
  have hl7 := hts (.code Lib.Math.max.name Lib.Math.max.code 2 (some .int)) (by decide +kernel)
  have hl8 := hts (.fieldLink RX2 41 "FloatOrder$Parade" "came" "[I") (by decide +kernel)
  have hl9 := hts (.fieldLink RX2 35 "FloatOrder$Parade" "clearances" "[I") (by decide +kernel)
  refine lv_iconst (v := (0 : Int32)) hx hb dX2_travel_0 (by decide) ?_
  refine lv_istore_n (lv' := [(2, .int (0 : Int32)), (0, .ref (a 0)), (1, .int v1)]) hx hb dX2_travel_1 rfl hl (by decide) rfl (fun ls hl => ?_)
  obtain ⟨x62, hq62, hR⟩ := kk_bd_el hR
  refine kk_cut (g := g) (A := A) (w' := (w_P g a x62)) (nL := 8) (lv := []) (pcJ := 168) (st := []) (fun H locs ls hP hD hS hl => ?_) (fun hj62 => ?_)
  · obtain rfl := Option.some.inj hR
    exact kk_ret_v hC hr hlocks hK hP hD hS dX2_travel_168
  refine kk_loop (g := g) (A := A) (fun (st : Int32 × St1) => (w_P g a st.2)) (fun (st : Int32 × St1) => [(2, .int st.1), (0, .ref (a 0)), (1, .int v1)]) 2 (nL := 8) hq62 (fun st xb61 hR ih2 hX2 => ?_) hP hD hS (lv_sub hl [0, 1, 2] rfl)
  clear hP hD hS hl
  obtain ⟨u59, P60⟩ := st
  intro H locs ls hP hD hS hl
  replace hR : fX2_travel_b2 n v1 u59 P60 = some xb61 := hR
  replace hP : va_P g.1 vwCl (w_P g a P60) H := hP
  replace hD : va_D A (w_P g a P60) := hD
  replace hl : lv_has ls 8 [(2, .int u59), (0, .ref (a 0)), (1, .int v1)] := hl
  unfold fX2_travel_b2 at hR
  refine lv_iload_n hx hb dX2_travel_2 rfl (lv_at hl 0 rfl) ?_
  refine lv_iload_n hx hb dX2_travel_3 rfl (lv_at hl 2 rfl) ?_
  refine lv_icmp_gt (tgt := 168) hx hb dX2_travel_4 (by decide) (fun c63 => ?_) (fun c63 => ?_)
  · replace hR := (if_pos c63).symm.trans hR
    obtain rfl := Option.some.inj hR
    obtain rfl := hX2 _ rfl
    exact hj62 _ _ _ hP hD hS (lv_sub hl [] rfl)
  · replace hR := (if_neg c63).symm.trans hR
    refine lv_aload_n hx hb dX2_travel_7 rfl (lv_at hl 1 rfl) ?_
    refine lv_iload_n hx hb dX2_travel_8 rfl (lv_at hl 0 rfl) ?_
    obtain ⟨x64, hq64, hR⟩ := kk_bd_el hR
    refine kk_call_Vi (w' := (w_P g a P60)) (As := [.int u59]) (rest := []) 0 2 hC (sX2_countedHeight l g n a P60 u59 x64 hq64) (cwV 1 hts gX2_travel_X2_countedHeight rfl rfl rfl (by decide +kernel) ⟨Nat.le_of_ble_eq_true rfl, Nat.le_of_ble_eq_true rfl⟩) hK hP hD hS hA [0, 1, 2, 3, 4, 5, 6, 7, 8, 9] rfl (by decide +kernel) rfl rfl rfl rfl rfl rfl rfl hl.1 (Nat.le_of_ble_eq_true rfl) dX2_travel_9 (fun H locs hP hD hS => ?_)
    refine lv_istore_n (lv' := [(3, .int x64), (2, .int u59), (0, .ref (a 0)), (1, .int v1)]) hx hb dX2_travel_12 rfl hl (by decide) rfl (fun ls hl => ?_)
    refine lv_iload_n hx hb dX2_travel_13 rfl (lv_at hl 1 rfl) ?_
    refine lv_aload_n hx hb dX2_travel_14 rfl (lv_at hl 2 rfl) ?_
    refine va_get (ci := 2) (C := RX2) (T := TX2) (N := 11) hx hb hts hw2 hown hK hP 0 rfl rfl 8 (by decide) hl0 (fun _ h9 => h9) rfl dX2_travel_15 ?_
    refine lv_iconst (v := (1 : Int32)) hx hb dX2_travel_18 (by decide) ?_
    refine va_iald hx hb hK hP 7 0 rfl rfl (kk_in 1 4 (by decide) (by decide) rfl) dX2_travel_19 ?_
    refine lv_imul hx hb dX2_travel_20 ?_
    refine lv_istore (lv' := [(4, .int (u59 * ((P60 8) (1 : Int32).toNatClampNeg))), (3, .int x64), (2, .int u59), (0, .ref (a 0)), (1, .int v1)]) hx hb dX2_travel_21 hl (by decide) rfl (fun ls hl => ?_)
    refine lv_iconst (v := (0 : Int32)) hx hb dX2_travel_23 (by decide) ?_
    refine lv_istore (lv' := [(5, .int (0 : Int32)), (4, .int (u59 * ((P60 8) (1 : Int32).toNatClampNeg))), (3, .int x64), (2, .int u59), (0, .ref (a 0)), (1, .int v1)]) hx hb dX2_travel_24 hl (by decide) rfl (fun ls hl => ?_)
    refine lv_iconst (v := (0 : Int32)) hx hb dX2_travel_26 (by decide) ?_
    refine lv_istore (lv' := [(6, .int (0 : Int32)), (5, .int (0 : Int32)), (4, .int (u59 * ((P60 8) (1 : Int32).toNatClampNeg))), (3, .int x64), (2, .int u59), (0, .ref (a 0)), (1, .int v1)]) hx hb dX2_travel_27 hl (by decide) rfl (fun ls hl => ?_)
    obtain ⟨x96, hq96, hR⟩ := kk_bd_el hR
    refine kk_cut (g := g) (A := A) (w' := (w_P g a x96)) (nL := 8) (lv := [(2, .int u59), (0, .ref (a 0)), (1, .int v1)]) (pcJ := 162) (st := []) (fun H locs ls hP hD hS hl => ?_) (fun hj96 => ?_)
    · refine lv_iinc (v := (u59 + (1 : Int32))) (lv' := [(2, .int (u59 + (1 : Int32))), (0, .ref (a 0)), (1, .int v1)]) hx hb dX2_travel_162 hl (k := 0) rfl rfl (by decide) rfl (fun ls hl => ?_)
      refine lv_goto (tgt := 2) hx hb dX2_travel_165 (by decide) ?_
      obtain rfl := Option.some.inj hR
      exact ih2 _ rfl _ _ _ hP hD hS (lv_sub hl [0, 1, 2] rfl)
    refine kk_loop (g := g) (A := A) (fun (st : Int32 × Int32 × Int32 × St1) => (w_P g a st.2.2.2)) (fun (st : Int32 × Int32 × Int32 × St1) => [(6, .int st.2.2.1), (5, .int st.2.1), (4, .int st.1), (3, .int x64), (2, .int u59), (0, .ref (a 0)), (1, .int v1)]) 29 (nL := 8) hq96 (fun st xb95 hR ih3 hX3 => ?_) hP hD hS (lv_sub hl [0, 1, 2, 3, 4, 5, 6] rfl)
    clear hP hD hS hl
    obtain ⟨u91, u92, u93, P94⟩ := st
    intro H locs ls hP hD hS hl
    replace hR : fX2_travel_b29 n u59 x64 u91 u92 u93 P94 = some xb95 := hR
    replace hP : va_P g.1 vwCl (w_P g a P94) H := hP
    replace hD : va_D A (w_P g a P94) := hD
    replace hl : lv_has ls 8 [(6, .int u93), (5, .int u92), (4, .int u91), (3, .int x64), (2, .int u59), (0, .ref (a 0)), (1, .int v1)] := hl
    unfold fX2_travel_b29 at hR
    refine lv_iload hx hb dX2_travel_29 (lv_at hl 0 rfl) ?_
    refine lv_aload_n hx hb dX2_travel_31 rfl (lv_at hl 5 rfl) ?_
    refine va_get (ci := 2) (C := RX2) (T := TX2) (N := 11) hx hb hts hw2 hown hK hP 0 rfl rfl 5 (by decide) hl1 (fun _ h9 => h9) rfl dX2_travel_32 ?_
    refine lv_icmp_gt (tgt := 162) hx hb dX2_travel_35 (by decide) (fun c97 => ?_) (fun c97 => ?_)
    · replace hR := (if_pos c97).symm.trans hR
      obtain rfl := Option.some.inj hR
      obtain rfl := hX3 _ rfl
      exact hj96 _ _ _ hP hD hS (lv_sub hl [4, 5, 6] rfl)
    · replace hR := (if_neg c97).symm.trans hR
      refine lv_iload hx hb dX2_travel_38 (lv_at hl 0 rfl) ?_
      refine lv_aload_n hx hb dX2_travel_40 rfl (lv_at hl 5 rfl) ?_
      refine va_get (ci := 2) (C := RX2) (T := TX2) (N := 11) hx hb hts hw2 hown hK hP 0 rfl rfl 5 (by decide) hl1 (fun _ h9 => h9) rfl dX2_travel_41 ?_
      obtain ⟨x100, hq100, hR⟩ := kk_bd_el hR
      refine kk_cut (g := g) (A := A) (w' := (w_P g a P94)) (nL := 8) (lv := [(6, .int u93), (5, .int u92), (4, .int u91), (3, .int x64), (2, .int u59), (0, .ref (a 0)), (1, .int v1)]) (pcJ := 59) (st := [.int x100]) (fun H locs ls hP hD hS hl => ?_) (fun hj100 => ?_)
      · refine lv_istore (lv' := [(7, .int x100), (6, .int u93), (5, .int u92), (4, .int u91), (3, .int x64), (2, .int u59), (0, .ref (a 0)), (1, .int v1)]) hx hb dX2_travel_59 hl (by decide) rfl (fun ls hl => ?_)
        refine lv_iload hx hb dX2_travel_61 (lv_at hl 3 rfl) ?_
        refine lv_iload hx hb dX2_travel_63 (lv_at hl 0 rfl) ?_
        refine lv_iload hx hb dX2_travel_65 (lv_at hl 2 rfl) ?_
        refine lv_isub hx hb dX2_travel_67 ?_
        refine lv_aload_n hx hb dX2_travel_68 rfl (lv_at hl 6 rfl) ?_
        refine va_get (ci := 2) (C := RX2) (T := TX2) (N := 11) hx hb hts hw2 hown hK hP 0 rfl rfl 8 (by decide) hl0 (fun _ h9 => h9) rfl dX2_travel_69 ?_
        refine lv_iconst (v := (2 : Int32)) hx hb dX2_travel_72 (by decide) ?_
        refine va_iald hx hb hK hP 7 0 rfl rfl (kk_in 2 4 (by decide) (by decide) rfl) dX2_travel_73 ?_
        refine lv_imul hx hb dX2_travel_74 ?_
        refine lv_iadd hx hb dX2_travel_75 ?_
        refine lv_istore (lv' := [(4, .int (u91 + ((x100 - u92) * ((P94 8) (2 : Int32).toNatClampNeg)))), (7, .int x100), (6, .int u93), (5, .int u92), (3, .int x64), (2, .int u59), (0, .ref (a 0)), (1, .int v1)]) hx hb dX2_travel_76 hl (by decide) rfl (fun ls hl => ?_)
        refine lv_iload_n hx hb dX2_travel_78 rfl (lv_at hl 5 rfl) ?_
        obtain ⟨x105, hq105, hR⟩ := kk_bd_el hR
        refine kk_cut (g := g) (A := A) (w' := (w_P g a P94)) (nL := 8) (lv := [(4, .int x105), (7, .int x100), (6, .int u93), (3, .int x64), (2, .int u59), (0, .ref (a 0)), (1, .int v1)]) (pcJ := 103) (st := []) (fun H locs ls hP hD hS hl => ?_) (fun hj105 => ?_)
        · refine lv_aload_n hx hb dX2_travel_103 rfl (lv_at hl 5 rfl) ?_
          refine va_get (ci := 2) (C := RX2) (T := TX2) (N := 11) hx hb hts hw2 hown hK hP 0 rfl rfl 9 (by decide) hl8 (fun _ h9 => h9) rfl dX2_travel_104 ?_
          refine lv_iload hx hb dX2_travel_107 (lv_at hl 2 rfl) ?_
          refine lv_iload hx hb dX2_travel_109 (lv_at hl 0 rfl) ?_
          obtain ⟨hi109, hR⟩ := kk_ck_el hR
          obtain ⟨P108, eP108, hR⟩ := kk_nm_el hR
          refine kk_iast (w' := (w_P g a P108)) hC hK hP hD hS 8 rfl hi109 (by rw [eP108]; rfl) dX2_travel_111 (fun H locs hP hD hS => ?_)
          refine lv_iload hx hb dX2_travel_112 (lv_at hl 2 rfl) ?_
          refine lv_aload_n hx hb dX2_travel_114 rfl (lv_at hl 5 rfl) ?_
          refine va_get (ci := 2) (C := RX2) (T := TX2) (N := 11) hx hb hts hw2 hown hK hP 0 rfl rfl 5 (by decide) hl1 (fun _ h9 => h9) rfl dX2_travel_115 ?_
          obtain ⟨x113, hq113, hR⟩ := kk_bd_el hR
          refine kk_cut (g := g) (A := A) (w' := (w_P g a P108)) (nL := 8) (lv := [(4, .int x113), (7, .int x100), (6, .int u93), (3, .int x64), (2, .int u59), (0, .ref (a 0)), (1, .int v1)]) (pcJ := 143) (st := []) (fun H locs ls hP hD hS hl => ?_) (fun hj113 => ?_)
          · refine lv_aload_n hx hb dX2_travel_143 rfl (lv_at hl 5 rfl) ?_
            refine va_get (ci := 2) (C := RX2) (T := TX2) (N := 11) hx hb hts hw2 hown hK hP 0 rfl rfl 10 (by decide) hl3 (fun _ h9 => h9) rfl dX2_travel_144 ?_
            refine lv_iload hx hb dX2_travel_147 (lv_at hl 2 rfl) ?_
            refine lv_iload hx hb dX2_travel_149 (lv_at hl 0 rfl) ?_
            obtain ⟨hi118, hR⟩ := kk_ck_el hR
            obtain ⟨P117, eP117, hR⟩ := kk_nm_el hR
            refine kk_iast (w' := (w_P g a P117)) hC hK hP hD hS 9 rfl hi118 (by rw [eP117]; rfl) dX2_travel_151 (fun H locs hP hD hS => ?_)
            refine lv_iload hx hb dX2_travel_152 (lv_at hl 1 rfl) ?_
            refine lv_istore (lv' := [(5, .int x100), (4, .int x113), (7, .int x100), (6, .int u93), (3, .int x64), (2, .int u59), (0, .ref (a 0)), (1, .int v1)]) hx hb dX2_travel_154 hl (by decide) rfl (fun ls hl => ?_)
            refine lv_iinc (v := (u93 + (1 : Int32))) (lv' := [(6, .int (u93 + (1 : Int32))), (5, .int x100), (4, .int x113), (7, .int x100), (3, .int x64), (2, .int u59), (0, .ref (a 0)), (1, .int v1)]) hx hb dX2_travel_156 hl (k := 3) rfl rfl (by decide) rfl (fun ls hl => ?_)
            refine lv_goto (tgt := 29) hx hb dX2_travel_159 (by decide) ?_
            obtain rfl := Option.some.inj hR
            exact ih3 _ rfl _ _ _ hP hD hS (lv_sub hl [0, 1, 2, 4, 5, 6, 7] rfl)
          replace hR := hq113
          refine lv_icmp_ge (tgt := 143) hx hb dX2_travel_118 (by decide) (fun c114 => ?_) (fun c114 => ?_)
          · replace hR := (if_pos c114).symm.trans hR
            obtain rfl := Option.some.inj hR
            exact hj113 _ _ _ hP hD hS (lv_sub hl [0, 1, 2, 3, 4, 5, 6] rfl)
          · replace hR := (if_neg c114).symm.trans hR
            refine lv_iload_n hx hb dX2_travel_121 rfl (lv_at hl 3 rfl) ?_
            refine lv_aload_n hx hb dX2_travel_122 rfl (lv_at hl 5 rfl) ?_
            refine va_get (ci := 2) (C := RX2) (T := TX2) (N := 11) hx hb hts hw2 hown hK hP 0 rfl rfl 7 (by decide) hl9 (fun _ h9 => h9) rfl dX2_travel_123 ?_
            refine lv_iload hx hb dX2_travel_126 (lv_at hl 2 rfl) ?_
            obtain ⟨hi115, hR⟩ := kk_ck_el hR
            refine va_iald hx hb hK hP 6 0 rfl rfl hi115 dX2_travel_128 ?_
            refine lv_icmp_le (tgt := 143) hx hb dX2_travel_129 (by decide) (fun c116 => ?_) (fun c116 => ?_)
            · replace hR := (if_pos c116).symm.trans hR
              obtain rfl := Option.some.inj hR
              exact hj113 _ _ _ hP hD hS (lv_sub hl [0, 1, 2, 3, 4, 5, 6] rfl)
            · replace hR := (if_neg c116).symm.trans hR
              refine lv_iload hx hb dX2_travel_132 (lv_at hl 0 rfl) ?_
              refine lv_aload_n hx hb dX2_travel_134 rfl (lv_at hl 5 rfl) ?_
              refine va_get (ci := 2) (C := RX2) (T := TX2) (N := 11) hx hb hts hw2 hown hK hP 0 rfl rfl 8 (by decide) hl0 (fun _ h9 => h9) rfl dX2_travel_135 ?_
              refine lv_iconst (v := (3 : Int32)) hx hb dX2_travel_138 (by decide) ?_
              refine va_iald hx hb hK hP 7 0 rfl rfl (kk_in 3 4 (by decide) (by decide) rfl) dX2_travel_139 ?_
              refine lv_iadd hx hb dX2_travel_140 ?_
              refine lv_istore (lv' := [(4, .int (x105 + ((P108 8) (3 : Int32).toNatClampNeg))), (7, .int x100), (6, .int u93), (3, .int x64), (2, .int u59), (0, .ref (a 0)), (1, .int v1)]) hx hb dX2_travel_141 hl (by decide) rfl (fun ls hl => ?_)
              obtain rfl := Option.some.inj hR
              exact hj113 _ _ _ hP hD hS (lv_sub hl [0, 1, 2, 3, 4, 5, 6] rfl)
        replace hR := hq105
        refine lv_if_le (tgt := 103) hx hb dX2_travel_79 (by decide) (fun c106 => ?_) (fun c106 => ?_)
        · replace hR := (if_pos c106).symm.trans hR
          obtain rfl := Option.some.inj hR
          exact hj105 _ _ _ hP hD hS (lv_sub hl [0, 1, 2, 4, 5, 6, 7] rfl)
        · replace hR := (if_neg c106).symm.trans hR
          refine lv_iload hx hb dX2_travel_82 (lv_at hl 0 rfl) ?_
          refine lv_aload_n hx hb dX2_travel_84 rfl (lv_at hl 6 rfl) ?_
          refine va_get (ci := 2) (C := RX2) (T := TX2) (N := 11) hx hb hts hw2 hown hK hP 0 rfl rfl 10 (by decide) hl3 (fun _ h9 => h9) rfl dX2_travel_85 ?_
          refine lv_iload hx hb dX2_travel_88 (lv_at hl 2 rfl) ?_
          obtain ⟨hi107, hR⟩ := kk_ck_el hR
          refine va_iald hx hb hK hP 9 0 rfl rfl hi107 dX2_travel_90 ?_
          refine lv_aload_n hx hb dX2_travel_91 rfl (lv_at hl 6 rfl) ?_
          refine va_get (ci := 2) (C := RX2) (T := TX2) (N := 11) hx hb hts hw2 hown hK hP 0 rfl rfl 8 (by decide) hl0 (fun _ h9 => h9) rfl dX2_travel_92 ?_
          refine lv_iconst (v := (1 : Int32)) hx hb dX2_travel_95 (by decide) ?_
          refine va_iald hx hb hK hP 7 0 rfl rfl (kk_in 1 4 (by decide) (by decide) rfl) dX2_travel_96 ?_
          refine lv_iadd hx hb dX2_travel_97 ?_
          refine va_mmax hx hb (hml.trans hl.1.symm) hown hl4 hl5 hl6 hl7 (Nat.le_of_ble_eq_true rfl) (Nat.le_of_ble_eq_true rfl) (Nat.zero_le _) (Nat.zero_le _) dX2_travel_98 ?_
          refine lv_istore (lv' := [(4, .int (if (u91 + ((x100 - u92) * ((P94 8) (2 : Int32).toNatClampNeg))) < (((P94 10) u93.toNatClampNeg) + ((P94 8) (1 : Int32).toNatClampNeg)) then (((P94 10) u93.toNatClampNeg) + ((P94 8) (1 : Int32).toNatClampNeg)) else (u91 + ((x100 - u92) * ((P94 8) (2 : Int32).toNatClampNeg))))), (7, .int x100), (6, .int u93), (5, .int u92), (3, .int x64), (2, .int u59), (0, .ref (a 0)), (1, .int v1)]) hx hb dX2_travel_101 hl (by decide) rfl (fun ls hl => ?_)
          obtain rfl := Option.some.inj hR
          exact hj105 _ _ _ hP hD hS (lv_sub hl [0, 1, 2, 4, 5, 6, 7] rfl)
      replace hR := hq100
      refine lv_icmp_ge (tgt := 57) hx hb dX2_travel_44 (by decide) (fun c101 => ?_) (fun c101 => ?_)
      · replace hR := (if_pos c101).symm.trans hR
        refine lv_bipush (v := (60 : Int32)) hx hb dX2_travel_57 (by decide) ?_
        obtain rfl := Option.some.inj hR
        exact hj100 _ _ _ hP hD hS (lv_sub hl [0, 1, 2, 3, 4, 5, 6] rfl)
      · replace hR := (if_neg c101).symm.trans hR
        refine lv_aload_n hx hb dX2_travel_47 rfl (lv_at hl 5 rfl) ?_
        refine va_get (ci := 2) (C := RX2) (T := TX2) (N := 11) hx hb hts hw2 hown hK hP 0 rfl rfl 6 (by decide) hl2 (fun _ h9 => h9) rfl dX2_travel_48 ?_
        refine lv_iload hx hb dX2_travel_51 (lv_at hl 0 rfl) ?_
        obtain ⟨hi102, hR⟩ := kk_ck_el hR
        refine va_iald hx hb hK hP 5 0 rfl rfl hi102 dX2_travel_53 ?_
        refine lv_goto (tgt := 59) hx hb dX2_travel_54 (by decide) ?_
        obtain rfl := Option.some.inj hR
        exact hj100 _ _ _ hP hD hS (lv_sub hl [0, 1, 2, 3, 4, 5, 6] rfl)
set_option maxHeartbeats 8000000 in
set_option maxRecDepth 100000 in
theorem sX2_end (l : Launch) (g : kG) (n : Nat) (a : Nat → Nat) (P : St1) (r : Int32 × St1) (hR : fX2_end n P = some r) : kSp l g yX2_end wsX2_end ({ frames := 2, cells := 0, slots := 0, locals := 49 }) [.ref (a 0)] (w_P g a P) (kQi g (w_P g a r.2) r.1) := by
  refine kSp.of (cc := cX2_end) (maxL := 1) (ret := (some .int)) (by decide) rfl (Nat.le_of_ble_eq_true rfl) ?_
  intro p e s m args below meth c ls A hC hr hlocks hA hK hl hP hD hS
  replace hC : CallFix p m c cX2_end 1 s args wsX2_end RX2 := hC
  obtain ⟨hx, hb, hml, hown, hts⟩ := id hC
  replace hl : lv_has ls 1 [(0, .ref (a 0))] := hl
  unfold fX2_end at hR
  have hw2 : ∀ w ∈ wsX20, w ∈ wsX2_end := by decide +kernel
  have hl0 := hts (.fieldLink RX2 9 "FloatOrder$Parade" "floats" "I") (by decide +kernel)
  have hl1 := hts (.fieldLink RX2 41 "FloatOrder$Parade" "came" "[I") (by decide +kernel)
  have hl2 := hts (.fieldLink RX2 29 "FloatOrder$Parade" "bridges" "I") (by decide +kernel)
  refine lv_aload_n hx hb dX2_end_0 rfl (lv_at hl 0 rfl) ?_
  refine va_get (ci := 2) (C := RX2) (T := TX2) (N := 11) hx hb hts hw2 hown hK hP 0 rfl rfl 0 (by decide) hl0 (fun _ h9 => h9) rfl dX2_end_1 ?_
  refine lv_if_gt (tgt := 9) hx hb dX2_end_4 (by decide) (fun c1 => ?_) (fun c1 => ?_)
  · replace hR := (if_pos c1).symm.trans hR
    refine lv_aload_n hx hb dX2_end_9 rfl (lv_at hl 0 rfl) ?_
    refine lv_aload_n hx hb dX2_end_10 rfl (lv_at hl 0 rfl) ?_
    refine va_get (ci := 2) (C := RX2) (T := TX2) (N := 11) hx hb hts hw2 hown hK hP 0 rfl rfl 0 (by decide) hl0 (fun _ h9 => h9) rfl dX2_end_11 ?_
    refine lv_iconst (v := (1 : Int32)) hx hb dX2_end_14 (by decide) ?_
    refine lv_isub hx hb dX2_end_15 ?_
    obtain ⟨x2, hq2, hR⟩ := kk_bd_el hR
    refine kk_call_Vv (w' := (w_P g a x2)) (As := [.int ((P 0 0) - (1 : Int32))]) (rest := []) 0 2 hC (sX2_travel l g n a P ((P 0 0) - (1 : Int32)) x2 hq2) (cwV 1 hts gX2_end_X2_travel rfl rfl rfl (by decide +kernel) ⟨Nat.le_of_ble_eq_true rfl, Nat.le_of_ble_eq_true rfl⟩) hK hP hD hS hA [0, 1, 2, 3, 4, 5, 6, 7, 8, 9] rfl (by decide +kernel) rfl rfl rfl rfl rfl rfl rfl hl.1 (Nat.le_of_ble_eq_true rfl) dX2_end_16 (fun H locs hP hD hS => ?_)
    refine lv_aload_n hx hb dX2_end_19 rfl (lv_at hl 0 rfl) ?_
    refine va_get (ci := 2) (C := RX2) (T := TX2) (N := 11) hx hb hts hw2 hown hK hP 0 rfl rfl 9 (by decide) hl1 (fun _ h9 => h9) rfl dX2_end_20 ?_
    refine lv_aload_n hx hb dX2_end_23 rfl (lv_at hl 0 rfl) ?_
    refine va_get (ci := 2) (C := RX2) (T := TX2) (N := 11) hx hb hts hw2 hown hK hP 0 rfl rfl 5 (by decide) hl2 (fun _ h9 => h9) rfl dX2_end_24 ?_
    obtain ⟨hi3, hR⟩ := kk_ck_el hR
    refine va_iald hx hb hK hP 8 0 rfl rfl hi3 dX2_end_27 ?_
    obtain rfl := Option.some.inj hR
    exact kk_ret_i hC hr hlocks hK hP hD hS dX2_end_28 rfl
  · replace hR := (if_neg c1).symm.trans hR
    refine lv_iconst (v := (0 : Int32)) hx hb dX2_end_7 (by decide) ?_
    obtain rfl := Option.some.inj hR
    exact kk_ret_i hC hr hlocks hK hP hD hS dX2_end_8 rfl
set_option maxHeartbeats 8000000 in
set_option maxRecDepth 100000 in
theorem sX2_waiting (l : Launch) (g : kG) (n : Nat) (a : Nat → Nat) (P : St1) (r : Int32 × St1) (hR : fX2_waiting n P = some r) : kSp l g yX2_waiting wsX2_waiting ({ frames := 3, cells := 0, slots := 0, locals := 69 }) [.ref (a 0)] (w_P g a P) (kQi g (w_P g a r.2) r.1) := by
  refine kSp.of (cc := cX2_waiting) (maxL := 1) (ret := (some .int)) (by decide) rfl (Nat.le_of_ble_eq_true rfl) ?_
  intro p e s m args below meth c ls A hC hr hlocks hA hK hl hP hD hS
  replace hC : CallFix p m c cX2_waiting 1 s args wsX2_waiting RX2 := hC
  obtain ⟨hx, hb, hml, hown, hts⟩ := id hC
  replace hl : lv_has ls 1 [(0, .ref (a 0))] := hl
  unfold fX2_waiting at hR
  have hw2 : ∀ w ∈ wsX20, w ∈ wsX2_waiting := by decide +kernel
  have hl0 := hts (.fieldLink RX2 9 "FloatOrder$Parade" "floats" "I") (by decide +kernel)
  have hl1 := hts (.fieldLink RX2 38 "FloatOrder$Parade" "settings" "[I") (by decide +kernel)
  refine lv_aload_n hx hb dX2_waiting_0 rfl (lv_at hl 0 rfl) ?_
  refine va_get (ci := 2) (C := RX2) (T := TX2) (N := 11) hx hb hts hw2 hown hK hP 0 rfl rfl 0 (by decide) hl0 (fun _ h9 => h9) rfl dX2_waiting_1 ?_
  refine lv_if_gt (tgt := 9) hx hb dX2_waiting_4 (by decide) (fun c1 => ?_) (fun c1 => ?_)
  · replace hR := (if_pos c1).symm.trans hR
    refine lv_aload_n hx hb dX2_waiting_9 rfl (lv_at hl 0 rfl) ?_
    obtain ⟨x2, hq2, hR⟩ := kk_bd_el hR
    refine kk_call_Vi (w' := (w_P g a x2.2)) (As := []) (rest := []) 0 2 hC (sX2_end l g n a P  x2 hq2) (cwV 0 hts gX2_waiting_X2_end rfl rfl rfl (by decide +kernel) ⟨Nat.le_of_ble_eq_true rfl, Nat.le_of_ble_eq_true rfl⟩) hK hP hD hS hA [0, 1, 2, 3, 4, 5, 6, 7, 8, 9] rfl (by decide +kernel) rfl rfl rfl rfl rfl rfl rfl hl.1 (Nat.le_of_ble_eq_true rfl) dX2_waiting_10 (fun H locs hP hD hS => ?_)
    refine lv_aload_n hx hb dX2_waiting_13 rfl (lv_at hl 0 rfl) ?_
    refine va_get (ci := 2) (C := RX2) (T := TX2) (N := 11) hx hb hts hw2 hown hK hP 0 rfl rfl 0 (by decide) hl0 (fun _ h9 => h9) rfl dX2_waiting_14 ?_
    refine lv_iconst (v := (1 : Int32)) hx hb dX2_waiting_17 (by decide) ?_
    refine lv_isub hx hb dX2_waiting_18 ?_
    refine lv_aload_n hx hb dX2_waiting_19 rfl (lv_at hl 0 rfl) ?_
    refine va_get (ci := 2) (C := RX2) (T := TX2) (N := 11) hx hb hts hw2 hown hK hP 0 rfl rfl 8 (by decide) hl1 (fun _ h9 => h9) rfl dX2_waiting_20 ?_
    refine lv_iconst (v := (1 : Int32)) hx hb dX2_waiting_23 (by decide) ?_
    refine va_iald hx hb hK hP 7 0 rfl rfl (kk_in 1 4 (by decide) (by decide) rfl) dX2_waiting_24 ?_
    refine lv_imul hx hb dX2_waiting_25 ?_
    refine lv_isub hx hb dX2_waiting_26 ?_
    refine lv_bipush (v := (60 : Int32)) hx hb dX2_waiting_27 (by decide) ?_
    refine lv_aload_n hx hb dX2_waiting_29 rfl (lv_at hl 0 rfl) ?_
    refine va_get (ci := 2) (C := RX2) (T := TX2) (N := 11) hx hb hts hw2 hown hK hP 0 rfl rfl 8 (by decide) hl1 (fun _ h9 => h9) rfl dX2_waiting_30 ?_
    refine lv_iconst (v := (2 : Int32)) hx hb dX2_waiting_33 (by decide) ?_
    refine va_iald hx hb hK hP 7 0 rfl rfl (kk_in 2 4 (by decide) (by decide) rfl) dX2_waiting_34 ?_
    refine lv_imul hx hb dX2_waiting_35 ?_
    refine lv_isub hx hb dX2_waiting_36 ?_
    obtain rfl := Option.some.inj hR
    exact kk_ret_i hC hr hlocks hK hP hD hS dX2_waiting_37 rfl
  · replace hR := (if_neg c1).symm.trans hR
    refine lv_iconst (v := (0 : Int32)) hx hb dX2_waiting_7 (by decide) ?_
    obtain rfl := Option.some.inj hR
    exact kk_ret_i hC hr hlocks hK hP hD hS dX2_waiting_8 rfl
end
