section
-- ===== PART A: goes FIRST, ahead of the names: the tables' words, and 'selects' of the private methods out of them =====
/-- a private method of a class that the tables say can be made, by its rows of tables_1 -/
def lw_okq (q : MethodName × Nat) : Prop := (q.1.cls ≠ "java/lang/invoke/MethodHandle" ∧ q.1.cls ≠ "java/lang/invoke/VarHandle") ∧ Cond.instantiable q.1.cls q.2 ∈ tables_1 ∧ Cond.privateMethod q.1 ∈ tables_1 ∧ Cond.instanceMethod q.1 ∈ tables_1
theorem lw_p0 : lw_okq (⟨"MorningBill$Text", "fits", "(II)Z"⟩, 2) := ⟨⟨by decide +kernel, by decide +kernel⟩, List.mem_of_getElem? (i := 25) (by decide +kernel), List.mem_of_getElem? (i := 391) (by decide +kernel), List.mem_of_getElem? (i := 392) (by decide +kernel)⟩
theorem lw_p1 : lw_okq (⟨"MorningBill$Text", "fitsHead", "(I)Z"⟩, 2) := ⟨⟨by decide +kernel, by decide +kernel⟩, List.mem_of_getElem? (i := 25) (by decide +kernel), List.mem_of_getElem? (i := 395) (by decide +kernel), List.mem_of_getElem? (i := 396) (by decide +kernel)⟩
theorem lw_p2 : lw_okq (⟨"MorningBill$Text", "isFigure", "(III)Z"⟩, 2) := ⟨⟨by decide +kernel, by decide +kernel⟩, List.mem_of_getElem? (i := 25) (by decide +kernel), List.mem_of_getElem? (i := 399) (by decide +kernel), List.mem_of_getElem? (i := 400) (by decide +kernel)⟩
theorem lw_p3 : lw_okq (⟨"MorningBill$Text", "fitsNose", "(II)Z"⟩, 2) := ⟨⟨by decide +kernel, by decide +kernel⟩, List.mem_of_getElem? (i := 25) (by decide +kernel), List.mem_of_getElem? (i := 407) (by decide +kernel), List.mem_of_getElem? (i := 408) (by decide +kernel)⟩
theorem lw_p4 : lw_okq (⟨"MorningBill$Text", "isWhole", "(I)Z"⟩, 2) := ⟨⟨by decide +kernel, by decide +kernel⟩, List.mem_of_getElem? (i := 25) (by decide +kernel), List.mem_of_getElem? (i := 411) (by decide +kernel), List.mem_of_getElem? (i := 412) (by decide +kernel)⟩
theorem lw_p5 : lw_okq (⟨"MorningBill", "hoursLeft", "()I"⟩, 12) := ⟨⟨by decide +kernel, by decide +kernel⟩, List.mem_of_getElem? (i := 17) (by decide +kernel), List.mem_of_getElem? (i := 479) (by decide +kernel), List.mem_of_getElem? (i := 480) (by decide +kernel)⟩
theorem lw_p6 : lw_okq (⟨"MorningBill$Walk", "pass", "(I)V"⟩, 13) := ⟨⟨by decide +kernel, by decide +kernel⟩, List.mem_of_getElem? (i := 198) (by decide +kernel), List.mem_of_getElem? (i := 507) (by decide +kernel), List.mem_of_getElem? (i := 508) (by decide +kernel)⟩
theorem lw_p7 : lw_okq (⟨"MorningBill$Walk", "emptyChimneys", "([I)V"⟩, 13) := ⟨⟨by decide +kernel, by decide +kernel⟩, List.mem_of_getElem? (i := 198) (by decide +kernel), List.mem_of_getElem? (i := 514) (by decide +kernel), List.mem_of_getElem? (i := 515) (by decide +kernel)⟩
theorem lw_p8 : lw_okq (⟨"MorningBill$Walk", "settle", "(IZZ)V"⟩, 13) := ⟨⟨by decide +kernel, by decide +kernel⟩, List.mem_of_getElem? (i := 198) (by decide +kernel), List.mem_of_getElem? (i := 518) (by decide +kernel), List.mem_of_getElem? (i := 519) (by decide +kernel)⟩
theorem lw_p9 : lw_okq (⟨"MorningBill", "follow", "(I)V"⟩, 12) := ⟨⟨by decide +kernel, by decide +kernel⟩, List.mem_of_getElem? (i := 17) (by decide +kernel), List.mem_of_getElem? (i := 551) (by decide +kernel), List.mem_of_getElem? (i := 552) (by decide +kernel)⟩
theorem lw_p10 : lw_okq (⟨"MorningBill$Groups", "addUp", "(I)V"⟩, 4) := ⟨⟨by decide +kernel, by decide +kernel⟩, List.mem_of_getElem? (i := 270) (by decide +kernel), List.mem_of_getElem? (i := 604) (by decide +kernel), List.mem_of_getElem? (i := 605) (by decide +kernel)⟩
theorem lw_p11 : lw_okq (⟨"MorningBill", "planOfFigures", "(II)I"⟩, 12) := ⟨⟨by decide +kernel, by decide +kernel⟩, List.mem_of_getElem? (i := 17) (by decide +kernel), List.mem_of_getElem? (i := 639) (by decide +kernel), List.mem_of_getElem? (i := 640) (by decide +kernel)⟩
theorem lw_p12 : lw_okq (⟨"MorningBill$Sights", "agree", "(LMorningBill$Street;LMorningBill$Walk;)Z"⟩, 7) := ⟨⟨by decide +kernel, by decide +kernel⟩, List.mem_of_getElem? (i := 166) (by decide +kernel), List.mem_of_getElem? (i := 690) (by decide +kernel), List.mem_of_getElem? (i := 691) (by decide +kernel)⟩
theorem lw_p13 : lw_okq (⟨"MorningBill", "meanAbove", "(III)J"⟩, 12) := ⟨⟨by decide +kernel, by decide +kernel⟩, List.mem_of_getElem? (i := 17) (by decide +kernel), List.mem_of_getElem? (i := 703) (by decide +kernel), List.mem_of_getElem? (i := 704) (by decide +kernel)⟩
theorem lw_p14 : lw_okq (⟨"MorningBill$Rivals", "follow", "(LMorningBill$Morning;I[[I)V"⟩, 8) := ⟨⟨by decide +kernel, by decide +kernel⟩, List.mem_of_getElem? (i := 289) (by decide +kernel), List.mem_of_getElem? (i := 728) (by decide +kernel), List.mem_of_getElem? (i := 729) (by decide +kernel)⟩
theorem lw_p15 : lw_okq (⟨"MorningBill$Rivals", "divide", "(II)V"⟩, 8) := ⟨⟨by decide +kernel, by decide +kernel⟩, List.mem_of_getElem? (i := 289) (by decide +kernel), List.mem_of_getElem? (i := 734) (by decide +kernel), List.mem_of_getElem? (i := 735) (by decide +kernel)⟩
def lw_privs_1 : List (MethodName × Nat) := [(⟨"MorningBill$Text", "fits", "(II)Z"⟩, 2), (⟨"MorningBill$Text", "fitsHead", "(I)Z"⟩, 2), (⟨"MorningBill$Text", "isFigure", "(III)Z"⟩, 2), (⟨"MorningBill$Text", "fitsNose", "(II)Z"⟩, 2), (⟨"MorningBill$Text", "isWhole", "(I)Z"⟩, 2), (⟨"MorningBill", "hoursLeft", "()I"⟩, 12), (⟨"MorningBill$Walk", "pass", "(I)V"⟩, 13), (⟨"MorningBill$Walk", "emptyChimneys", "([I)V"⟩, 13), (⟨"MorningBill$Walk", "settle", "(IZZ)V"⟩, 13), (⟨"MorningBill", "follow", "(I)V"⟩, 12), (⟨"MorningBill$Groups", "addUp", "(I)V"⟩, 4), (⟨"MorningBill", "planOfFigures", "(II)I"⟩, 12), (⟨"MorningBill$Sights", "agree", "(LMorningBill$Street;LMorningBill$Walk;)Z"⟩, 7), (⟨"MorningBill", "meanAbove", "(III)J"⟩, 12), (⟨"MorningBill$Rivals", "follow", "(LMorningBill$Morning;I[[I)V"⟩, 8), (⟨"MorningBill$Rivals", "divide", "(II)V"⟩, 8)]
theorem lw_r1 : ∀ q ∈ lw_privs_1, lw_okq q := List.forall_mem_cons.mpr ⟨lw_p0, List.forall_mem_cons.mpr ⟨lw_p1, List.forall_mem_cons.mpr ⟨lw_p2, List.forall_mem_cons.mpr ⟨lw_p3, List.forall_mem_cons.mpr ⟨lw_p4, List.forall_mem_cons.mpr ⟨lw_p5, List.forall_mem_cons.mpr ⟨lw_p6, List.forall_mem_cons.mpr ⟨lw_p7, List.forall_mem_cons.mpr ⟨lw_p8, List.forall_mem_cons.mpr ⟨lw_p9, List.forall_mem_cons.mpr ⟨lw_p10, List.forall_mem_cons.mpr ⟨lw_p11, List.forall_mem_cons.mpr ⟨lw_p12, List.forall_mem_cons.mpr ⟨lw_p13, List.forall_mem_cons.mpr ⟨lw_p14, List.forall_mem_cons.mpr ⟨lw_p15, fun _ h => absurd h List.not_mem_nil⟩⟩⟩⟩⟩⟩⟩⟩⟩⟩⟩⟩⟩⟩⟩⟩
theorem lw_p16 : lw_okq (⟨"MorningBill$Rivals", "findRest", "()V"⟩, 8) := ⟨⟨by decide +kernel, by decide +kernel⟩, List.mem_of_getElem? (i := 289) (by decide +kernel), List.mem_of_getElem? (i := 742) (by decide +kernel), List.mem_of_getElem? (i := 743) (by decide +kernel)⟩
theorem lw_p17 : lw_okq (⟨"MorningBill$Rivals", "isAtRest", "(II)Z"⟩, 8) := ⟨⟨by decide +kernel, by decide +kernel⟩, List.mem_of_getElem? (i := 289) (by decide +kernel), List.mem_of_getElem? (i := 746) (by decide +kernel), List.mem_of_getElem? (i := 747) (by decide +kernel)⟩
theorem lw_p18 : lw_okq (⟨"MorningBill$Rivals", "hourOf", "(I)I"⟩, 8) := ⟨⟨by decide +kernel, by decide +kernel⟩, List.mem_of_getElem? (i := 289) (by decide +kernel), List.mem_of_getElem? (i := 750) (by decide +kernel), List.mem_of_getElem? (i := 751) (by decide +kernel)⟩
theorem lw_p19 : lw_okq (⟨"MorningBill", "planOfSeed", "()I"⟩, 12) := ⟨⟨by decide +kernel, by decide +kernel⟩, List.mem_of_getElem? (i := 17) (by decide +kernel), List.mem_of_getElem? (i := 762) (by decide +kernel), List.mem_of_getElem? (i := 763) (by decide +kernel)⟩
theorem lw_p20 : lw_okq (⟨"MorningBillModel", "readText", "()I"⟩, 37) := ⟨⟨by decide +kernel, by decide +kernel⟩, List.mem_of_getElem? (i := 790) (by decide +kernel), List.mem_of_getElem? (i := 924) (by decide +kernel), List.mem_of_getElem? (i := 925) (by decide +kernel)⟩
theorem lw_p21 : lw_okq (⟨"MorningBillModel", "figure", "(II)I"⟩, 37) := ⟨⟨by decide +kernel, by decide +kernel⟩, List.mem_of_getElem? (i := 790) (by decide +kernel), List.mem_of_getElem? (i := 928) (by decide +kernel), List.mem_of_getElem? (i := 929) (by decide +kernel)⟩
theorem lw_p22 : lw_okq (⟨"MorningBillModel", "readNose", "()V"⟩, 37) := ⟨⟨by decide +kernel, by decide +kernel⟩, List.mem_of_getElem? (i := 790) (by decide +kernel), List.mem_of_getElem? (i := 935) (by decide +kernel), List.mem_of_getElem? (i := 936) (by decide +kernel)⟩
theorem lw_p23 : lw_okq (⟨"MorningBillModel", "isNose", "(I)Z"⟩, 37) := ⟨⟨by decide +kernel, by decide +kernel⟩, List.mem_of_getElem? (i := 790) (by decide +kernel), List.mem_of_getElem? (i := 956) (by decide +kernel), List.mem_of_getElem? (i := 957) (by decide +kernel)⟩
theorem lw_p24 : lw_okq (⟨"MorningBillModel", "hasIt", "(II)Z"⟩, 37) := ⟨⟨by decide +kernel, by decide +kernel⟩, List.mem_of_getElem? (i := 790) (by decide +kernel), List.mem_of_getElem? (i := 961) (by decide +kernel), List.mem_of_getElem? (i := 962) (by decide +kernel)⟩
theorem lw_p25 : lw_okq (⟨"MorningBillModel", "keepAct", "()V"⟩, 37) := ⟨⟨by decide +kernel, by decide +kernel⟩, List.mem_of_getElem? (i := 790) (by decide +kernel), List.mem_of_getElem? (i := 973) (by decide +kernel), List.mem_of_getElem? (i := 974) (by decide +kernel)⟩
theorem lw_p26 : lw_okq (⟨"MorningBillModel", "layWinds", "()V"⟩, 37) := ⟨⟨by decide +kernel, by decide +kernel⟩, List.mem_of_getElem? (i := 790) (by decide +kernel), List.mem_of_getElem? (i := 977) (by decide +kernel), List.mem_of_getElem? (i := 978) (by decide +kernel)⟩
theorem lw_p27 : lw_okq (⟨"MorningBillModel", "pass", "(IZI)I"⟩, 37) := ⟨⟨by decide +kernel, by decide +kernel⟩, List.mem_of_getElem? (i := 790) (by decide +kernel), List.mem_of_getElem? (i := 981) (by decide +kernel), List.mem_of_getElem? (i := 982) (by decide +kernel)⟩
theorem lw_p28 : lw_okq (⟨"MorningBillModel", "drift", "(III)V"⟩, 37) := ⟨⟨by decide +kernel, by decide +kernel⟩, List.mem_of_getElem? (i := 790) (by decide +kernel), List.mem_of_getElem? (i := 985) (by decide +kernel), List.mem_of_getElem? (i := 986) (by decide +kernel)⟩
theorem lw_p29 : lw_okq (⟨"MorningBillModel", "pays", "(IZI)I"⟩, 37) := ⟨⟨by decide +kernel, by decide +kernel⟩, List.mem_of_getElem? (i := 790) (by decide +kernel), List.mem_of_getElem? (i := 992) (by decide +kernel), List.mem_of_getElem? (i := 993) (by decide +kernel)⟩
theorem lw_p30 : lw_okq (⟨"MorningBillModel", "whoHas", "(I)I"⟩, 37) := ⟨⟨by decide +kernel, by decide +kernel⟩, List.mem_of_getElem? (i := 790) (by decide +kernel), List.mem_of_getElem? (i := 996) (by decide +kernel), List.mem_of_getElem? (i := 997) (by decide +kernel)⟩
theorem lw_p31 : lw_okq (⟨"MorningBillModel", "run", "(II)I"⟩, 37) := ⟨⟨by decide +kernel, by decide +kernel⟩, List.mem_of_getElem? (i := 790) (by decide +kernel), List.mem_of_getElem? (i := 1013) (by decide +kernel), List.mem_of_getElem? (i := 1014) (by decide +kernel)⟩
def lw_privs_2 : List (MethodName × Nat) := [(⟨"MorningBill$Rivals", "findRest", "()V"⟩, 8), (⟨"MorningBill$Rivals", "isAtRest", "(II)Z"⟩, 8), (⟨"MorningBill$Rivals", "hourOf", "(I)I"⟩, 8), (⟨"MorningBill", "planOfSeed", "()I"⟩, 12), (⟨"MorningBillModel", "readText", "()I"⟩, 37), (⟨"MorningBillModel", "figure", "(II)I"⟩, 37), (⟨"MorningBillModel", "readNose", "()V"⟩, 37), (⟨"MorningBillModel", "isNose", "(I)Z"⟩, 37), (⟨"MorningBillModel", "hasIt", "(II)Z"⟩, 37), (⟨"MorningBillModel", "keepAct", "()V"⟩, 37), (⟨"MorningBillModel", "layWinds", "()V"⟩, 37), (⟨"MorningBillModel", "pass", "(IZI)I"⟩, 37), (⟨"MorningBillModel", "drift", "(III)V"⟩, 37), (⟨"MorningBillModel", "pays", "(IZI)I"⟩, 37), (⟨"MorningBillModel", "whoHas", "(I)I"⟩, 37), (⟨"MorningBillModel", "run", "(II)I"⟩, 37)]
theorem lw_r2 : ∀ q ∈ lw_privs_2, lw_okq q := List.forall_mem_cons.mpr ⟨lw_p16, List.forall_mem_cons.mpr ⟨lw_p17, List.forall_mem_cons.mpr ⟨lw_p18, List.forall_mem_cons.mpr ⟨lw_p19, List.forall_mem_cons.mpr ⟨lw_p20, List.forall_mem_cons.mpr ⟨lw_p21, List.forall_mem_cons.mpr ⟨lw_p22, List.forall_mem_cons.mpr ⟨lw_p23, List.forall_mem_cons.mpr ⟨lw_p24, List.forall_mem_cons.mpr ⟨lw_p25, List.forall_mem_cons.mpr ⟨lw_p26, List.forall_mem_cons.mpr ⟨lw_p27, List.forall_mem_cons.mpr ⟨lw_p28, List.forall_mem_cons.mpr ⟨lw_p29, List.forall_mem_cons.mpr ⟨lw_p30, List.forall_mem_cons.mpr ⟨lw_p31, fun _ h => absurd h List.not_mem_nil⟩⟩⟩⟩⟩⟩⟩⟩⟩⟩⟩⟩⟩⟩⟩⟩
theorem lw_p32 : lw_okq (⟨"MorningBillModel", "lay", "(II)V"⟩, 37) := ⟨⟨by decide +kernel, by decide +kernel⟩, List.mem_of_getElem? (i := 790) (by decide +kernel), List.mem_of_getElem? (i := 1017) (by decide +kernel), List.mem_of_getElem? (i := 1018) (by decide +kernel)⟩
theorem lw_p33 : lw_okq (⟨"MorningBillModel", "bestBy", "(I)I"⟩, 37) := ⟨⟨by decide +kernel, by decide +kernel⟩, List.mem_of_getElem? (i := 790) (by decide +kernel), List.mem_of_getElem? (i := 1025) (by decide +kernel), List.mem_of_getElem? (i := 1026) (by decide +kernel)⟩
theorem lw_p34 : lw_okq (⟨"MorningBillModel", "left", "()I"⟩, 37) := ⟨⟨by decide +kernel, by decide +kernel⟩, List.mem_of_getElem? (i := 790) (by decide +kernel), List.mem_of_getElem? (i := 1029) (by decide +kernel), List.mem_of_getElem? (i := 1030) (by decide +kernel)⟩
theorem lw_p35 : lw_okq (⟨"MorningBillModel", "isSeen", "(I)Z"⟩, 37) := ⟨⟨by decide +kernel, by decide +kernel⟩, List.mem_of_getElem? (i := 790) (by decide +kernel), List.mem_of_getElem? (i := 1081) (by decide +kernel), List.mem_of_getElem? (i := 1082) (by decide +kernel)⟩
theorem lw_p36 : lw_okq (⟨"MorningBillModel", "meanOf", "(IIIZ)J"⟩, 37) := ⟨⟨by decide +kernel, by decide +kernel⟩, List.mem_of_getElem? (i := 790) (by decide +kernel), List.mem_of_getElem? (i := 1091) (by decide +kernel), List.mem_of_getElem? (i := 1092) (by decide +kernel)⟩
theorem lw_p37 : lw_okq (⟨"MorningBillModel", "isChoice", "(I)Z"⟩, 37) := ⟨⟨by decide +kernel, by decide +kernel⟩, List.mem_of_getElem? (i := 790) (by decide +kernel), List.mem_of_getElem? (i := 1104) (by decide +kernel), List.mem_of_getElem? (i := 1105) (by decide +kernel)⟩
theorem lw_p38 : lw_okq (⟨"MorningBillModel", "runTwo", "(III)V"⟩, 37) := ⟨⟨by decide +kernel, by decide +kernel⟩, List.mem_of_getElem? (i := 790) (by decide +kernel), List.mem_of_getElem? (i := 1108) (by decide +kernel), List.mem_of_getElem? (i := 1109) (by decide +kernel)⟩
theorem lw_p39 : lw_okq (⟨"MorningBillModel", "isRest", "(II)Z"⟩, 37) := ⟨⟨by decide +kernel, by decide +kernel⟩, List.mem_of_getElem? (i := 790) (by decide +kernel), List.mem_of_getElem? (i := 1112) (by decide +kernel), List.mem_of_getElem? (i := 1113) (by decide +kernel)⟩
def lw_privs_3 : List (MethodName × Nat) := [(⟨"MorningBillModel", "lay", "(II)V"⟩, 37), (⟨"MorningBillModel", "bestBy", "(I)I"⟩, 37), (⟨"MorningBillModel", "left", "()I"⟩, 37), (⟨"MorningBillModel", "isSeen", "(I)Z"⟩, 37), (⟨"MorningBillModel", "meanOf", "(IIIZ)J"⟩, 37), (⟨"MorningBillModel", "isChoice", "(I)Z"⟩, 37), (⟨"MorningBillModel", "runTwo", "(III)V"⟩, 37), (⟨"MorningBillModel", "isRest", "(II)Z"⟩, 37)]
theorem lw_r3 : ∀ q ∈ lw_privs_3, lw_okq q := List.forall_mem_cons.mpr ⟨lw_p32, List.forall_mem_cons.mpr ⟨lw_p33, List.forall_mem_cons.mpr ⟨lw_p34, List.forall_mem_cons.mpr ⟨lw_p35, List.forall_mem_cons.mpr ⟨lw_p36, List.forall_mem_cons.mpr ⟨lw_p37, List.forall_mem_cons.mpr ⟨lw_p38, List.forall_mem_cons.mpr ⟨lw_p39, fun _ h => absurd h List.not_mem_nil⟩⟩⟩⟩⟩⟩⟩⟩
def lw_privs : List (MethodName × Nat) := lw_privs_1 ++ (lw_privs_2 ++ (lw_privs_3))
def lw_tbl : List Cond := k2_sels lw_privs ++ tables_1
theorem lw_privs_ok : ∀ q ∈ lw_privs, lw_okq q := by
  show ∀ q ∈ lw_privs_1 ++ (lw_privs_2 ++ (lw_privs_3)), lw_okq q
  exact List.forall_mem_append.mpr ⟨lw_r1, List.forall_mem_append.mpr ⟨lw_r2, lw_r3⟩⟩
end
section
def gb_nl : List String := ["MorningBill$Acts", "MorningBill$Choice", "MorningBill$Groups", "MorningBill$Morning", "MorningBill$Rivals", "MorningBill$Sights", "MorningBill$Slots", "MorningBill$Street", "MorningBill$Text", "MorningBill$Walk", "MorningBill", "MorningBillModel", "MorningBillLaw", "java/lang/Integer", "java/lang/Math"]
def gb_n (c : Nat) : String := gb_nl.getD c ""
def gb_Fl : List (List (String × String × String × Bool)) := [[("MorningBill$Acts", "before", "[LMorningBill$Morning;", true), ("MorningBill$Acts", "next", "I", false), ("MorningBill$Acts", "size", "I", false)],
  [("MorningBill$Choice", "walk", "LMorningBill$Walk;", true), ("MorningBill$Choice", "plan", "I", false), ("MorningBill$Choice", "comes", "I", false)],
  [("MorningBill$Groups", "street", "LMorningBill$Street;", true), ("MorningBill$Groups", "walk", "LMorningBill$Walk;", true), ("MorningBill$Groups", "worth", "[I", true), ("MorningBill$Groups", "comes", "[I", true)],
  [("MorningBill$Morning", "smells", "[I", true), ("MorningBill$Morning", "chimneys", "I", false), ("MorningBill$Morning", "pennies", "I", false), ("MorningBill$Morning", "hour", "I", false)],
  [("MorningBill$Rivals", "street", "LMorningBill$Street;", true), ("MorningBill$Rivals", "walk", "LMorningBill$Walk;", true), ("MorningBill$Rivals", "ofFirst", "[[I", true), ("MorningBill$Rivals", "ofSecond", "[[I", true), ("MorningBill$Rivals", "firstHas", "[[I", true), ("MorningBill$Rivals", "secondHas", "[[I", true), ("MorningBill$Rivals", "pairsAtRest", "I", false), ("MorningBill$Rivals", "firstAtRest", "I", false)],
  [("MorningBill$Sights", "noses", "[I", true), ("MorningBill$Sights", "hours", "[I", true), ("MorningBill$Sights", "had", "[Z", true), ("MorningBill$Sights", "size", "I", false), ("MorningBill$Sights", "plans", "I", false), ("MorningBill$Sights", "hoursOfAll", "I", false), ("MorningBill$Sights", "hoursOfNone", "I", false)],
  [("MorningBill$Slots", "kept", "[LMorningBill$Morning;", true), ("MorningBill$Slots", "isKept", "[Z", true)],
  [("MorningBill$Street", "baker", "I", false), ("MorningBill$Street", "strength", "I", false), ("MorningBill$Street", "cost", "I", false), ("MorningBill$Street", "winds", "I", false), ("MorningBill$Street", "noses", "I", false), ("MorningBill$Street", "wind", "[I", true), ("MorningBill$Street", "cell", "[I", true), ("MorningBill$Street", "wants", "[I", true), ("MorningBill$Street", "price", "[I", true), ("MorningBill$Street", "contract", "[I", true)],
  [("MorningBill$Text", "letters", "[I", true), ("MorningBill$Text", "length", "I", false)],
  [("MorningBill$Walk", "street", "LMorningBill$Street;", true), ("MorningBill$Walk", "smells", "[[I", true), ("MorningBill$Walk", "paid", "[[I", true), ("MorningBill$Walk", "pennies", "[I", true), ("MorningBill$Walk", "had", "[I", true), ("MorningBill$Walk", "has", "[I", true), ("MorningBill$Walk", "chimneys", "I", false), ("MorningBill$Walk", "baker", "I", false), ("MorningBill$Walk", "plan", "I", false), ("MorningBill$Walk", "turns", "I", false), ("MorningBill$Walk", "followed", "I", false), ("MorningBill$Walk", "firstHour", "I", false), ("MorningBill$Walk", "left", "I", false)],
  [("MorningBill", "text", "LMorningBill$Text;", true), ("MorningBill", "street", "LMorningBill$Street;", true), ("MorningBill", "now", "LMorningBill$Morning;", true), ("MorningBill", "supposed", "LMorningBill$Morning;", true), ("MorningBill", "acts", "LMorningBill$Acts;", true), ("MorningBill", "slots", "LMorningBill$Slots;", true), ("MorningBill", "sights", "LMorningBill$Sights;", true), ("MorningBill", "walk", "LMorningBill$Walk;", true), ("MorningBill", "choice", "LMorningBill$Choice;", true), ("MorningBill", "groups", "LMorningBill$Groups;", true), ("MorningBill", "rivals", "LMorningBill$Rivals;", true), ("MorningBill", "theSeed", "J", false)],
  [("MorningBillModel", "baker", "I", false), ("MorningBillModel", "strength", "I", false), ("MorningBillModel", "cost", "I", false), ("MorningBillModel", "winds", "I", false), ("MorningBillModel", "noses", "I", false), ("MorningBillModel", "wind", "[I", true), ("MorningBillModel", "blows", "[I", true), ("MorningBillModel", "nose", "[I", true), ("MorningBillModel", "read", "[I", true), ("MorningBillModel", "readWind", "[I", true), ("MorningBillModel", "readNose", "[I", true), ("MorningBillModel", "readWinds", "I", false), ("MorningBillModel", "readNoses", "I", false), ("MorningBillModel", "now", "[I", true), ("MorningBillModel", "text", "[I", true), ("MorningBillModel", "length", "I", false), ("MorningBillModel", "at", "I", false), ("MorningBillModel", "faultAt", "I", false), ("MorningBillModel", "then", "[I", true), ("MorningBillModel", "acts", "I", false), ("MorningBillModel", "next", "I", false), ("MorningBillModel", "row", "[I", true), ("MorningBillModel", "hadBy", "I", false), ("MorningBillModel", "bestPlan", "I", false), ("MorningBillModel", "bests", "[I", true), ("MorningBillModel", "seen", "I", false), ("MorningBillModel", "seenOf", "[I", true), ("MorningBillModel", "seenAt", "[I", true), ("MorningBillModel", "seenHas", "[Z", true), ("MorningBillModel", "parts", "J", false), ("MorningBillModel", "firstHas", "I", false), ("MorningBillModel", "secondHas", "I", false), ("MorningBillModel", "firsts", "[I", true), ("MorningBillModel", "seconds", "[I", true), ("MorningBillModel", "seed", "J", false), ("MorningBillModel", "isKept", "[Z", true), ("MorningBillModel", "kept", "[I", true)]]
def gb_F (c : Nat) : u_T := fun k => (gb_Fl.getD c []).getD k ("", "", "", false)
def gb_Kl : List Nat := [3, 3, 4, 4, 8, 7, 2, 10, 2, 13, 12, 37]
def gb_K (c : Nat) : Nat := gb_Kl.getD c 0
def gb_Tl : List (List FieldType) := [[(.array (.object "MorningBill$Morning")), .int, .int],
  [(.object "MorningBill$Walk"), .int, .int],
  [(.object "MorningBill$Street"), (.object "MorningBill$Walk"), (.array .int), (.array .int)],
  [(.array .int), .int, .int, .int],
  [(.object "MorningBill$Street"), (.object "MorningBill$Walk"), (.array (.array .int)), (.array (.array .int)), (.array (.array .int)), (.array (.array .int)), .int, .int],
  [(.array .int), (.array .int), (.array .boolean), .int, .int, .int, .int],
  [(.array (.object "MorningBill$Morning")), (.array .boolean)],
  [.int, .int, .int, .int, .int, (.array .int), (.array .int), (.array .int), (.array .int), (.array .int)],
  [(.array .int), .int],
  [(.object "MorningBill$Street"), (.array (.array .int)), (.array (.array .int)), (.array .int), (.array .int), (.array .int), .int, .int, .int, .int, .int, .int, .int],
  [(.object "MorningBill$Text"), (.object "MorningBill$Street"), (.object "MorningBill$Morning"), (.object "MorningBill$Morning"), (.object "MorningBill$Acts"), (.object "MorningBill$Slots"), (.object "MorningBill$Sights"), (.object "MorningBill$Walk"), (.object "MorningBill$Choice"), (.object "MorningBill$Groups"), (.object "MorningBill$Rivals"), .long],
  [.int, .int, .int, .int, .int, (.array .int), (.array .int), (.array .int), (.array .int), (.array .int), (.array .int), .int, .int, (.array .int), (.array .int), .int, .int, .int, (.array .int), .int, .int, (.array .int), .int, .int, (.array .int), .int, (.array .int), (.array .int), (.array .boolean), .long, .int, .int, (.array .int), (.array .int), .long, (.array .boolean), (.array .int)]]
def gb_ty (c : Nat) : Nat → FieldType := fun k => (gb_Tl.getD c []).getD k .int
/-- the kind of a slot: 0 an int, 1 a long, 2 a reference -/
def gb_Sl : List (List Nat) := [[2, 0, 0], [2, 0, 0], [2, 2, 2, 2], [2, 0, 0, 0], [2, 2, 2, 2, 2, 2, 0, 0], [2, 2, 2, 0, 0, 0, 0], [2, 2], [0, 0, 0, 0, 0, 2, 2, 2, 2, 2], [2, 0], [2, 2, 2, 2, 2, 2, 0, 0, 0, 0, 0, 0, 0], [2, 2, 2, 2, 2, 2, 2, 2, 2, 2, 2, 1], [0, 0, 0, 0, 0, 2, 2, 2, 2, 2, 2, 0, 0, 2, 2, 0, 0, 0, 2, 0, 0, 2, 0, 0, 2, 0, 2, 2, 2, 1, 0, 0, 2, 2, 1, 2, 2]]
def gb_s (c k : Nat) : Nat := (gb_Sl.getD c []).getD k 9
def gb_cl : List vw_C := (List.range 12).map (fun c => (gb_n c, gb_F c, gb_K c))
def gb_t : List Cond := lw_tbl.filter goodWord
theorem gb_tin {w : Cond} (h : w ∈ lw_tbl) (g : goodWord w = true) : w ∈ gb_t := List.mem_filter.mpr ⟨h, g⟩
theorem gb_at {w : Cond} (i : Nat) (h : (lw_tbl[i]? == some w) = true) : w ∈ lw_tbl := List.mem_of_getElem? (i := i) (by simpa using h)
theorem gb_cl_get {c : Nat} (h : c < 12) : gb_cl[c]? = some (gb_n c, gb_F c, gb_K c) := by
  unfold gb_cl
  rw [List.getElem?_map, List.getElem?_range h]
  rfl
theorem gb_nm : ∀ c, c < 12 → ∀ a, a < gb_K c → ∀ b, b < gb_K c → a ≠ b → (gb_F c a).2.1 ≠ (gb_F c b).2.1 := by decide +kernel
theorem gb_tok : ∀ c, c < 12 → ∀ k, k < gb_K c → parseFieldDescriptor (gb_F c k).2.2.1 = some (gb_ty c k) := by decide +kernel
set_option maxRecDepth 100000 in
theorem gb_lay0 : ∀ c, c < 12 → ∀ w ∈ u_ws (gb_n c) (gb_F c) (gb_K c), w ∈ lw_tbl ∧ goodWord w = true := by decide +kernel
theorem gb_lay {c : Nat} (h : c < 12) : ∀ w ∈ u_ws (gb_n c) (gb_F c) (gb_K c), w ∈ gb_t := fun w hw => gb_tin (gb_lay0 c h w hw).1 (gb_lay0 c h w hw).2
/-- the methods: name, bytes, locals, answer, class, kind (0 static, 1 of an object, 2 a constructor), parameters; room: frames, words, cells, slots -/
abbrev gb_R : Type := MethodName × ByteArray × Nat × Option FieldType × Nat × Nat × Nat × Nat × Nat × Nat × Nat
def gb_M0 : List gb_R := [
  (⟨"MorningBill$Acts", "<init>", "()V"⟩, prog_2_method_1_code, 2, none, 0, 2, 0, 2, 40, 29, 210),
  (⟨"MorningBill$Acts", "forget", "()V"⟩, prog_2_method_2_code, 1, none, 0, 1, 0, 0, 0, 0, 0),
  (⟨"MorningBill$Acts", "remember", "(LMorningBill$Morning;)V"⟩, prog_2_method_3_code, 2, none, 0, 1, 1, 2, 47, 0, 0),
  (⟨"MorningBill$Acts", "takeBack", "(LMorningBill$Morning;)Z"⟩, prog_2_method_4_code, 2, (some .boolean), 0, 1, 1, 2, 47, 0, 0),
  (⟨"MorningBill$Choice", "<init>", "(LMorningBill$Walk;)V"⟩, prog_3_method_1_code, 2, none, 1, 2, 1, 1, 20, 0, 0),
  (⟨"MorningBill$Choice", "findBest", "()V"⟩, prog_3_method_2_code, 4, none, 1, 1, 0, 4, 100, 0, 0),
  (⟨"MorningBill$Choice", "findOnly", "(I)Z"⟩, prog_3_method_3_code, 5, (some .boolean), 1, 1, 1, 4, 100, 0, 0),
  (⟨"MorningBill$Choice", "isSmaller", "(II)Z"⟩, prog_3_method_4_code, 3, (some .boolean), 1, 0, 2, 1, 20, 0, 0),
  (⟨"MorningBill$Groups", "<init>", "(LMorningBill$Street;LMorningBill$Walk;)V"⟩, prog_4_method_1_code, 3, none, 2, 2, 2, 1, 20, 2, 128),
  (⟨"MorningBill$Groups", "weigh", "()V"⟩, prog_4_method_2_code, 4, none, 2, 1, 0, 4, 100, 0, 0),
  (⟨"MorningBill$Groups", "addUp", "(I)V"⟩, prog_4_method_3_code, 5, none, 2, 1, 1, 1, 21, 0, 0),
  (⟨"MorningBill$Groups", "shareAbove", "(I)J"⟩, prog_4_method_4_code, 8, (some .long), 2, 1, 1, 1, 21, 0, 0),
  (⟨"MorningBill$Morning", "<init>", "()V"⟩, prog_5_method_1_code, 1, none, 3, 2, 0, 1, 20, 1, 10),
  (⟨"MorningBill$Morning", "begin", "()V"⟩, prog_5_method_2_code, 1, none, 3, 1, 0, 1, 21, 0, 0),
  (⟨"MorningBill$Morning", "clearSmells", "()V"⟩, prog_5_method_3_code, 2, none, 3, 1, 0, 0, 0, 0, 0),
  (⟨"MorningBill$Morning", "copyFrom", "(LMorningBill$Morning;)V"⟩, prog_5_method_4_code, 2, none, 3, 1, 1, 1, 26, 0, 0),
  (⟨"MorningBill$Rivals", "<init>", "(LMorningBill$Street;LMorningBill$Walk;)V"⟩, prog_6_method_1_code, 3, none, 4, 2, 2, 1, 20, 40, 1062),
  (⟨"MorningBill$Rivals", "meet", "(LMorningBill$Morning;LMorningBill$Morning;I)V"⟩, prog_6_method_2_code, 6, none, 4, 1, 3, 5, 126, 0, 0),
  (⟨"MorningBill$Rivals", "follow", "(LMorningBill$Morning;I[[I)V"⟩, prog_6_method_3_code, 7, none, 4, 1, 3, 4, 100, 0, 0),
  (⟨"MorningBill$Rivals", "divide", "(II)V"⟩, prog_6_method_4_code, 11, none, 4, 1, 2, 1, 26, 0, 0)]
def gb_M1 : List gb_R := [
  (⟨"MorningBill$Rivals", "findRest", "()V"⟩, prog_6_method_5_code, 3, none, 4, 1, 0, 1, 23, 0, 0),
  (⟨"MorningBill$Rivals", "isAtRest", "(II)Z"⟩, prog_6_method_6_code, 4, (some .boolean), 4, 1, 2, 0, 0, 0, 0),
  (⟨"MorningBill$Rivals", "hourOf", "(I)I"⟩, prog_6_method_7_code, 2, (some .int), 4, 1, 1, 0, 0, 0, 0),
  (⟨"MorningBill$Sights", "<init>", "()V"⟩, prog_7_method_1_code, 1, none, 5, 2, 0, 1, 20, 3, 18),
  (⟨"MorningBill$Sights", "add", "(IIZ)Z"⟩, prog_7_method_2_code, 4, (some .boolean), 5, 1, 3, 0, 0, 0, 0),
  (⟨"MorningBill$Sights", "explain", "(LMorningBill$Street;LMorningBill$Walk;)V"⟩, prog_7_method_3_code, 5, none, 5, 1, 2, 4, 100, 0, 0),
  (⟨"MorningBill$Sights", "agree", "(LMorningBill$Street;LMorningBill$Walk;)Z"⟩, prog_7_method_4_code, 5, (some .boolean), 5, 1, 2, 1, 21, 0, 0),
  (⟨"MorningBill$Slots", "<init>", "()V"⟩, prog_8_method_1_code, 2, none, 6, 2, 0, 2, 40, 6, 32),
  (⟨"MorningBill$Slots", "forget", "()V"⟩, prog_8_method_2_code, 2, none, 6, 1, 0, 0, 0, 0, 0),
  (⟨"MorningBill$Slots", "put", "(ILMorningBill$Morning;)V"⟩, prog_8_method_3_code, 3, none, 6, 1, 2, 2, 47, 0, 0),
  (⟨"MorningBill$Slots", "give", "(ILMorningBill$Morning;)Z"⟩, prog_8_method_4_code, 3, (some .boolean), 6, 1, 2, 2, 47, 0, 0),
  (⟨"MorningBill$Street", "<init>", "()V"⟩, prog_9_method_1_code, 1, none, 7, 2, 0, 1, 20, 5, 32),
  (⟨"MorningBill$Street", "readFrom", "(LMorningBill$Text;)V"⟩, prog_9_method_2_code, 4, none, 7, 1, 1, 2, 42, 0, 0),
  (⟨"MorningBill$Street", "windOf", "(I)I"⟩, prog_9_method_3_code, 1, (some .int), 7, 0, 1, 0, 0, 0, 0),
  (⟨"MorningBill$Street", "hasNose", "(I)Z"⟩, prog_9_method_4_code, 2, (some .boolean), 7, 1, 1, 0, 0, 0, 0),
  (⟨"MorningBill$Street", "whoHas", "([I)I"⟩, prog_9_method_5_code, 4, (some .int), 7, 1, 1, 0, 0, 0, 0),
  (⟨"MorningBill$Street", "due", "(IZZ)I"⟩, prog_9_method_6_code, 4, (some .int), 7, 1, 3, 0, 0, 0, 0),
  (⟨"MorningBill$Text", "<init>", "()V"⟩, prog_10_method_1_code, 1, none, 8, 2, 0, 1, 20, 1, 48),
  (⟨"MorningBill$Text", "add", "(I)Z"⟩, prog_10_method_2_code, 2, (some .boolean), 8, 1, 1, 0, 0, 0, 0),
  (⟨"MorningBill$Text", "letterAt", "(I)I"⟩, prog_10_method_3_code, 2, (some .int), 8, 1, 1, 0, 0, 0, 0)]
def gb_M2 : List gb_R := [
  (⟨"MorningBill$Text", "figure", "(I)I"⟩, prog_10_method_4_code, 2, (some .int), 8, 1, 1, 1, 21, 0, 0),
  (⟨"MorningBill$Text", "windsTold", "()I"⟩, prog_10_method_5_code, 2, (some .int), 8, 1, 0, 1, 21, 0, 0),
  (⟨"MorningBill$Text", "faultPlace", "()I"⟩, prog_10_method_6_code, 3, (some .int), 8, 1, 0, 5, 110, 0, 0),
  (⟨"MorningBill$Text", "isWhole", "(I)Z"⟩, prog_10_method_7_code, 2, (some .boolean), 8, 1, 1, 0, 0, 0, 0),
  (⟨"MorningBill$Text", "fits", "(II)Z"⟩, prog_10_method_8_code, 4, (some .boolean), 8, 1, 2, 4, 87, 0, 0),
  (⟨"MorningBill$Text", "fitsHead", "(I)Z"⟩, prog_10_method_9_code, 2, (some .boolean), 8, 1, 1, 3, 65, 0, 0),
  (⟨"MorningBill$Text", "fitsNose", "(II)Z"⟩, prog_10_method_10_code, 3, (some .boolean), 8, 1, 2, 3, 65, 0, 0),
  (⟨"MorningBill$Text", "isFigure", "(III)Z"⟩, prog_10_method_11_code, 4, (some .boolean), 8, 1, 3, 2, 42, 0, 0),
  (⟨"MorningBill$Text", "isWind", "(I)Z"⟩, prog_10_method_12_code, 1, (some .boolean), 8, 0, 1, 0, 0, 0, 0),
  (⟨"MorningBill$Walk", "<init>", "(LMorningBill$Street;)V"⟩, prog_11_method_1_code, 2, none, 9, 2, 1, 1, 20, 23, 189),
  (⟨"MorningBill$Walk", "start", "(LMorningBill$Morning;I)V"⟩, prog_11_method_2_code, 3, none, 9, 1, 2, 1, 26, 0, 0),
  (⟨"MorningBill$Walk", "sets", "()I"⟩, prog_11_method_3_code, 1, (some .int), 9, 1, 0, 0, 0, 0, 0),
  (⟨"MorningBill$Walk", "set", "(I)I"⟩, prog_11_method_4_code, 4, (some .int), 9, 1, 1, 1, 21, 0, 0),
  (⟨"MorningBill$Walk", "take", "(II)V"⟩, prog_11_method_5_code, 6, none, 9, 1, 2, 3, 75, 0, 0),
  (⟨"MorningBill$Walk", "pass", "(I)V"⟩, prog_11_method_6_code, 6, none, 9, 1, 1, 2, 50, 0, 0),
  (⟨"MorningBill$Walk", "drift", "([I[II)V"⟩, prog_11_method_7_code, 6, none, 9, 0, 3, 0, 0, 0, 0),
  (⟨"MorningBill$Walk", "emptyChimneys", "([I)V"⟩, prog_11_method_8_code, 3, none, 9, 1, 1, 1, 21, 0, 0),
  (⟨"MorningBill$Walk", "settle", "(IZZ)V"⟩, prog_11_method_9_code, 8, none, 9, 1, 3, 1, 23, 0, 0),
  (⟨"MorningBill$Walk", "comes", "()I"⟩, prog_11_method_10_code, 1, (some .int), 9, 1, 0, 0, 0, 0, 0),
  (⟨"MorningBill$Walk", "comesInHour", "(I)I"⟩, prog_11_method_11_code, 2, (some .int), 9, 1, 1, 0, 0, 0, 0)]
def gb_M3 : List gb_R := [
  (⟨"MorningBill$Walk", "paidBy", "(I)I"⟩, prog_11_method_12_code, 2, (some .int), 9, 1, 1, 0, 0, 0, 0),
  (⟨"MorningBill$Walk", "whoHad", "()I"⟩, prog_11_method_13_code, 1, (some .int), 9, 1, 0, 0, 0, 0, 0),
  (⟨"MorningBill$Walk", "leadOneHourOn", "(LMorningBill$Morning;)V"⟩, prog_11_method_14_code, 2, none, 9, 1, 1, 1, 26, 0, 0),
  (⟨"MorningBill", "<init>", "()V"⟩, prog_1_method_1_code, 1, none, 10, 2, 0, 3, 61, 122, 1799),
  (⟨"MorningBill", "write", "(I)I"⟩, prog_1_method_2_code, 2, (some .int), 10, 1, 1, 1, 21, 0, 0),
  (⟨"MorningBill", "wipe", "()I"⟩, prog_1_method_3_code, 2, (some .int), 10, 1, 0, 0, 0, 0, 0),
  (⟨"MorningBill", "fault", "()I"⟩, prog_1_method_4_code, 1, (some .int), 10, 1, 0, 6, 132, 0, 0),
  (⟨"MorningBill", "street", "()I"⟩, prog_1_method_5_code, 1, (some .int), 10, 1, 0, 6, 132, 0, 0),
  (⟨"MorningBill", "smell", "(I)I"⟩, prog_1_method_6_code, 2, (some .int), 10, 1, 1, 1, 20, 0, 0),
  (⟨"MorningBill", "wind", "(I)I"⟩, prog_1_method_7_code, 2, (some .int), 10, 1, 1, 0, 0, 0, 0),
  (⟨"MorningBill", "nose", "(II)I"⟩, prog_1_method_8_code, 3, (some .int), 10, 1, 2, 1, 23, 0, 0),
  (⟨"MorningBill", "pennies", "()I"⟩, prog_1_method_9_code, 1, (some .int), 10, 1, 0, 0, 0, 0, 0),
  (⟨"MorningBill", "hour", "(Z)I"⟩, prog_1_method_10_code, 2, (some .int), 10, 1, 1, 4, 100, 0, 0),
  (⟨"MorningBill", "chimney", "(I)I"⟩, prog_1_method_11_code, 2, (some .int), 10, 1, 1, 3, 68, 0, 0),
  (⟨"MorningBill", "undo", "()I"⟩, prog_1_method_12_code, 1, (some .int), 10, 1, 0, 3, 68, 0, 0),
  (⟨"MorningBill", "by", "(I)I"⟩, prog_1_method_13_code, 2, (some .int), 10, 1, 1, 5, 121, 0, 0),
  (⟨"MorningBill", "best", "(Z)I"⟩, prog_1_method_14_code, 2, (some .int), 10, 1, 1, 5, 123, 0, 0),
  (⟨"MorningBill", "bestChimney", "()I"⟩, prog_1_method_15_code, 4, (some .int), 10, 1, 0, 6, 144, 0, 0),
  (⟨"MorningBill", "share", "(IZ)I"⟩, prog_1_method_16_code, 3, (some .int), 10, 1, 2, 5, 123, 0, 0),
  (⟨"MorningBill", "judge", "(II)I"⟩, prog_1_method_17_code, 4, (some .int), 10, 1, 2, 5, 121, 0, 0)]
def gb_M4 : List gb_R := [
  (⟨"MorningBill", "had", "(I)I"⟩, prog_1_method_18_code, 2, (some .int), 10, 1, 1, 5, 121, 0, 0),
  (⟨"MorningBill", "only", "(I)I"⟩, prog_1_method_19_code, 2, (some .int), 10, 1, 1, 5, 124, 0, 0),
  (⟨"MorningBill", "see", "(IIZ)I"⟩, prog_1_method_20_code, 4, (some .int), 10, 1, 3, 1, 23, 0, 0),
  (⟨"MorningBill", "unsee", "()I"⟩, prog_1_method_21_code, 2, (some .int), 10, 1, 0, 0, 0, 0, 0),
  (⟨"MorningBill", "when", "(I)I"⟩, prog_1_method_22_code, 2, (some .int), 10, 1, 1, 5, 124, 0, 0),
  (⟨"MorningBill", "mean", "(IIZ)J"⟩, prog_1_method_23_code, 4, (some .long), 10, 1, 3, 5, 130, 0, 0),
  (⟨"MorningBill", "fair", "(IIIZ)J"⟩, prog_1_method_24_code, 5, (some .long), 10, 1, 4, 5, 130, 0, 0),
  (⟨"MorningBill", "bakers", "(II)I"⟩, prog_1_method_25_code, 3, (some .int), 10, 1, 2, 6, 151, 0, 0),
  (⟨"MorningBill", "seed", "(J)J"⟩, prog_1_method_26_code, 5, (some .long), 10, 1, 1, 0, 0, 0, 0),
  (⟨"MorningBill", "mornings", "(I)I"⟩, prog_1_method_27_code, 4, (some .int), 10, 1, 1, 5, 121, 0, 0),
  (⟨"MorningBill", "keep", "(I)I"⟩, prog_1_method_28_code, 2, (some .int), 10, 1, 1, 3, 69, 0, 0),
  (⟨"MorningBill", "again", "(I)I"⟩, prog_1_method_29_code, 2, (some .int), 10, 1, 1, 3, 69, 0, 0),
  (⟨"MorningBill", "count", "(I)I"⟩, prog_1_method_30_code, 2, (some .int), 10, 1, 1, 1, 23, 0, 0),
  (⟨"MorningBill", "isCell", "(I)Z"⟩, prog_1_method_31_code, 1, (some .boolean), 10, 0, 1, 0, 0, 0, 0),
  (⟨"MorningBill", "isPlan", "(I)Z"⟩, prog_1_method_32_code, 1, (some .boolean), 10, 0, 1, 0, 0, 0, 0),
  (⟨"MorningBill", "areTenths", "(I)Z"⟩, prog_1_method_33_code, 1, (some .boolean), 10, 0, 1, 0, 0, 0, 0),
  (⟨"MorningBill", "isIn", "(II)Z"⟩, prog_1_method_34_code, 2, (some .boolean), 10, 0, 2, 0, 0, 0, 0),
  (⟨"MorningBill", "hoursLeft", "()I"⟩, prog_1_method_35_code, 1, (some .int), 10, 1, 0, 0, 0, 0, 0),
  (⟨"MorningBill", "follow", "(I)V"⟩, prog_1_method_36_code, 2, none, 10, 1, 1, 4, 100, 0, 0),
  (⟨"MorningBill", "figureAt", "(III)I"⟩, prog_1_method_37_code, 4, (some .int), 10, 0, 3, 0, 0, 0, 0)]
def gb_M5 : List gb_R := [
  (⟨"MorningBill", "planOfFigures", "(II)I"⟩, prog_1_method_38_code, 5, (some .int), 10, 1, 2, 1, 23, 0, 0),
  (⟨"MorningBill", "planOfSeed", "()I"⟩, prog_1_method_39_code, 3, (some .int), 10, 1, 0, 0, 0, 0, 0),
  (⟨"MorningBill", "meanAbove", "(III)J"⟩, prog_1_method_40_code, 11, (some .long), 10, 1, 3, 4, 100, 0, 0),
  (⟨"MorningBill", "power", "(II)J"⟩, prog_1_method_41_code, 5, (some .long), 10, 0, 2, 0, 0, 0, 0),
  (⟨"MorningBill", "told", "(JJZ)J"⟩, prog_1_method_42_code, 7, (some .long), 10, 0, 3, 2, 52, 0, 0),
  (⟨"MorningBill", "commonDivisor", "(JJ)J"⟩, prog_1_method_43_code, 7, (some .long), 10, 0, 2, 1, 26, 0, 0),
  (⟨"MorningBillModel", "<init>", "()V"⟩, prog_13_method_1_code, 1, none, 11, 2, 0, 1, 20, 18, 678),
  (⟨"MorningBillModel", "in", "(JJJ)Z"⟩, prog_13_method_3_code, 6, (some .boolean), 11, 0, 3, 0, 0, 0, 0),
  (⟨"MorningBillModel", "has", "(II)Z"⟩, prog_13_method_4_code, 2, (some .boolean), 11, 0, 2, 0, 0, 0, 0),
  (⟨"MorningBillModel", "ones", "(I)I"⟩, prog_13_method_5_code, 3, (some .int), 11, 0, 1, 0, 0, 0, 0),
  (⟨"MorningBillModel", "write", "(I)I"⟩, prog_13_method_6_code, 2, (some .int), 11, 1, 1, 1, 25, 0, 0),
  (⟨"MorningBillModel", "wipe", "()I"⟩, prog_13_method_7_code, 2, (some .int), 11, 1, 0, 0, 0, 0, 0),
  (⟨"MorningBillModel", "figure", "(II)I"⟩, prog_13_method_8_code, 4, (some .int), 11, 1, 2, 1, 25, 0, 0),
  (⟨"MorningBillModel", "isWind", "(I)Z"⟩, prog_13_method_9_code, 1, (some .boolean), 11, 0, 1, 0, 0, 0, 0),
  (⟨"MorningBillModel", "readText", "()I"⟩, prog_13_method_10_code, 1, (some .int), 11, 1, 0, 3, 69, 0, 0),
  (⟨"MorningBillModel", "readNose", "()V"⟩, prog_13_method_11_code, 2, none, 11, 1, 0, 2, 48, 0, 0),
  (⟨"MorningBillModel", "fault", "()I"⟩, prog_13_method_12_code, 1, (some .int), 11, 1, 0, 4, 89, 0, 0),
  (⟨"MorningBillModel", "street", "()I"⟩, prog_13_method_13_code, 2, (some .int), 11, 1, 0, 4, 89, 0, 0),
  (⟨"MorningBillModel", "isNose", "(I)Z"⟩, prog_13_method_14_code, 2, (some .boolean), 11, 1, 1, 1, 25, 0, 0),
  (⟨"MorningBillModel", "smell", "(I)I"⟩, prog_13_method_15_code, 2, (some .int), 11, 1, 1, 1, 25, 0, 0)]
def gb_M6 : List gb_R := [
  (⟨"MorningBillModel", "wind", "(I)I"⟩, prog_13_method_16_code, 2, (some .int), 11, 1, 1, 1, 25, 0, 0),
  (⟨"MorningBillModel", "hasIt", "(II)Z"⟩, prog_13_method_17_code, 3, (some .boolean), 11, 1, 2, 0, 0, 0, 0),
  (⟨"MorningBillModel", "whoHas", "(I)I"⟩, prog_13_method_18_code, 4, (some .int), 11, 1, 1, 1, 22, 0, 0),
  (⟨"MorningBillModel", "nose", "(II)I"⟩, prog_13_method_19_code, 3, (some .int), 11, 1, 2, 2, 46, 0, 0),
  (⟨"MorningBillModel", "pennies", "()I"⟩, prog_13_method_20_code, 1, (some .int), 11, 1, 0, 0, 0, 0, 0),
  (⟨"MorningBillModel", "drift", "(III)V"⟩, prog_13_method_21_code, 7, none, 11, 1, 3, 1, 25, 0, 0),
  (⟨"MorningBillModel", "pays", "(IZI)I"⟩, prog_13_method_22_code, 5, (some .int), 11, 1, 3, 0, 0, 0, 0),
  (⟨"MorningBillModel", "pass", "(IZI)I"⟩, prog_13_method_23_code, 8, (some .int), 11, 1, 3, 2, 51, 0, 0),
  (⟨"MorningBillModel", "layWinds", "()V"⟩, prog_13_method_24_code, 2, none, 11, 1, 0, 0, 0, 0, 0),
  (⟨"MorningBillModel", "lay", "(II)V"⟩, prog_13_method_25_code, 4, none, 11, 1, 2, 0, 0, 0, 0),
  (⟨"MorningBillModel", "keepAct", "()V"⟩, prog_13_method_26_code, 2, none, 11, 1, 0, 0, 0, 0, 0),
  (⟨"MorningBillModel", "hour", "(Z)I"⟩, prog_13_method_27_code, 2, (some .int), 11, 1, 1, 3, 78, 0, 0),
  (⟨"MorningBillModel", "chimney", "(I)I"⟩, prog_13_method_28_code, 2, (some .int), 11, 1, 1, 1, 25, 0, 0),
  (⟨"MorningBillModel", "undo", "()I"⟩, prog_13_method_29_code, 2, (some .int), 11, 1, 0, 0, 0, 0, 0),
  (⟨"MorningBillModel", "run", "(II)I"⟩, prog_13_method_30_code, 4, (some .int), 11, 1, 2, 3, 78, 0, 0),
  (⟨"MorningBillModel", "left", "()I"⟩, prog_13_method_31_code, 1, (some .int), 11, 1, 0, 0, 0, 0, 0),
  (⟨"MorningBillModel", "by", "(I)I"⟩, prog_13_method_32_code, 2, (some .int), 11, 1, 1, 4, 101, 0, 0),
  (⟨"MorningBillModel", "bestBy", "(I)I"⟩, prog_13_method_33_code, 6, (some .int), 11, 1, 1, 4, 101, 0, 0),
  (⟨"MorningBillModel", "best", "(Z)I"⟩, prog_13_method_34_code, 3, (some .int), 11, 1, 1, 5, 126, 0, 0),
  (⟨"MorningBillModel", "bestChimney", "()I"⟩, prog_13_method_35_code, 5, (some .int), 11, 1, 0, 5, 126, 0, 0)]
def gb_M7 : List gb_R := [
  (⟨"MorningBillModel", "factorial", "(I)I"⟩, prog_13_method_36_code, 3, (some .int), 11, 0, 1, 0, 0, 0, 0),
  (⟨"MorningBillModel", "common", "(JJ)J"⟩, prog_13_method_37_code, 10, (some .long), 11, 0, 2, 0, 0, 0, 0),
  (⟨"MorningBillModel", "share", "(IZ)I"⟩, prog_13_method_38_code, 7, (some .int), 11, 1, 2, 5, 126, 0, 0),
  (⟨"MorningBillModel", "tenTo", "(I)I"⟩, prog_13_method_39_code, 3, (some .int), 11, 0, 1, 0, 0, 0, 0),
  (⟨"MorningBillModel", "judge", "(II)I"⟩, prog_13_method_40_code, 5, (some .int), 11, 1, 2, 3, 78, 0, 0),
  (⟨"MorningBillModel", "had", "(I)I"⟩, prog_13_method_41_code, 2, (some .int), 11, 1, 1, 4, 101, 0, 0),
  (⟨"MorningBillModel", "only", "(I)I"⟩, prog_13_method_42_code, 4, (some .int), 11, 1, 1, 4, 101, 0, 0),
  (⟨"MorningBillModel", "see", "(IIZ)I"⟩, prog_13_method_43_code, 4, (some .int), 11, 1, 3, 2, 46, 0, 0),
  (⟨"MorningBillModel", "unsee", "()I"⟩, prog_13_method_44_code, 2, (some .int), 11, 1, 0, 0, 0, 0, 0),
  (⟨"MorningBillModel", "isSeen", "(I)Z"⟩, prog_13_method_45_code, 6, (some .boolean), 11, 1, 1, 3, 78, 0, 0),
  (⟨"MorningBillModel", "when", "(I)I"⟩, prog_13_method_46_code, 6, (some .int), 11, 1, 1, 4, 103, 0, 0),
  (⟨"MorningBillModel", "meanOf", "(IIIZ)J"⟩, prog_13_method_47_code, 13, (some .long), 11, 1, 4, 4, 101, 0, 0),
  (⟨"MorningBillModel", "mean", "(IIZ)J"⟩, prog_13_method_48_code, 8, (some .long), 11, 1, 3, 5, 133, 0, 0),
  (⟨"MorningBillModel", "fair", "(IIIZ)J"⟩, prog_13_method_49_code, 9, (some .long), 11, 1, 4, 5, 133, 0, 0),
  (⟨"MorningBillModel", "runTwo", "(III)V"⟩, prog_13_method_50_code, 10, none, 11, 1, 3, 2, 51, 0, 0),
  (⟨"MorningBillModel", "isChoice", "(I)Z"⟩, prog_13_method_51_code, 2, (some .boolean), 11, 1, 1, 1, 25, 0, 0),
  (⟨"MorningBillModel", "isRest", "(II)Z"⟩, prog_13_method_52_code, 5, (some .boolean), 11, 1, 2, 2, 46, 0, 0),
  (⟨"MorningBillModel", "bakers", "(II)I"⟩, prog_13_method_53_code, 6, (some .int), 11, 1, 2, 3, 80, 0, 0),
  (⟨"MorningBillModel", "seed", "(J)J"⟩, prog_13_method_54_code, 5, (some .long), 11, 1, 1, 0, 0, 0, 0),
  (⟨"MorningBillModel", "mornings", "(I)I"⟩, prog_13_method_55_code, 4, (some .int), 11, 1, 1, 3, 78, 0, 0)]
def gb_M8 : List gb_R := [
  (⟨"MorningBillModel", "keep", "(I)I"⟩, prog_13_method_56_code, 3, (some .int), 11, 1, 1, 1, 25, 0, 0),
  (⟨"MorningBillModel", "again", "(I)I"⟩, prog_13_method_57_code, 3, (some .int), 11, 1, 1, 1, 25, 0, 0),
  (⟨"MorningBillModel", "count", "(I)I"⟩, prog_13_method_58_code, 2, (some .int), 11, 1, 1, 2, 45, 0, 0),
  (⟨"java/lang/Integer", "bitCount", "(I)I"⟩, prog_14_method_49_code, 1, (some .int), 13, 0, 1, 0, 0, 0, 0),
  (⟨"MorningBillLaw", "law", "([I)Z"⟩, code, 4, (some .boolean), 12, 0, 1, 7, 173, 142, 2526)]
def gb_M : List gb_R := gb_M0 ++ (gb_M1 ++ (gb_M2 ++ (gb_M3 ++ (gb_M4 ++ (gb_M5 ++ (gb_M6 ++ (gb_M7 ++ (gb_M8))))))))
def gb_m (i : Nat) : gb_R := gb_M.getD i (⟨"", "", ""⟩, .mk #[], 0, none, 99, 9, 0, 0, 0, 0, 0)
def gm_y (i : Nat) : MethodName := (gb_m i).1
def gm_b (i : Nat) : ByteArray := (gb_m i).2.1
def gm_L (i : Nat) : Nat := (gb_m i).2.2.1
def gm_r (i : Nat) : Option FieldType := (gb_m i).2.2.2.1
def gm_o (i : Nat) : Nat := (gb_m i).2.2.2.2.1
def gm_k (i : Nat) : Nat := (gb_m i).2.2.2.2.2.1
def gm_p (i : Nat) : Nat := (gb_m i).2.2.2.2.2.2.1
def gm_f (i : Nat) : Nat := (gb_m i).2.2.2.2.2.2.2.1
def gm_x (i : Nat) : Nat := (gb_m i).2.2.2.2.2.2.2.2.1
def gm_c (i : Nat) : Nat := (gb_m i).2.2.2.2.2.2.2.2.2.1
def gm_s (i : Nat) : Nat := (gb_m i).2.2.2.2.2.2.2.2.2.2
end
section
def gl_F : List (Nat × Nat × Nat × Nat × Nat) := [
  (8, 9, 8, 0, 70), (8, 15, 8, 1, 71), (10, 92, 8, 1, 72), (7, 56, 8, 1, 73), (7, 37, 7, 0, 86), (4, 33, 7, 0, 87), (10, 160, 7, 0, 88), (7, 9, 7, 1, 89),
  (9, 89, 7, 1, 90), (10, 314, 7, 1, 91), (7, 40, 7, 2, 92), (2, 50, 7, 2, 93), (4, 75, 7, 2, 94), (9, 104, 7, 2, 95), (10, 317, 7, 2, 96), (7, 47, 7, 3, 97),
  (9, 57, 7, 3, 98), (5, 57, 7, 3, 99), (10, 111, 7, 3, 100), (2, 44, 7, 4, 101), (7, 59, 7, 4, 102), (4, 65, 7, 4, 103), (5, 53, 7, 4, 104), (10, 114, 7, 4, 105),
  (9, 107, 7, 4, 106), (7, 15, 7, 5, 107), (4, 78, 7, 5, 108), (9, 82, 7, 5, 109), (10, 124, 7, 5, 110), (7, 19, 7, 6, 111), (4, 71, 7, 6, 112), (10, 130, 7, 6, 113),
  (7, 22, 7, 7, 114), (4, 87, 7, 7, 115), (10, 133, 7, 7, 116), (7, 25, 7, 8, 117), (10, 136, 7, 8, 118), (7, 28, 7, 9, 119), (10, 139, 7, 9, 120), (3, 9, 3, 0, 148),
  (9, 33, 3, 0, 149), (10, 120, 3, 0, 150), (3, 18, 3, 1, 151), (9, 43, 3, 1, 152), (10, 180, 3, 1, 153), (3, 22, 3, 2, 154), (10, 150, 3, 2, 155), (9, 114, 3, 2, 156),
  (3, 25, 3, 3, 157), (9, 51, 3, 3, 158), (10, 167, 3, 3, 159), (0, 11, 0, 0, 178), (0, 22, 0, 1, 179), (0, 18, 0, 2, 180), (10, 187, 0, 2, 181), (6, 11, 6, 0, 197),
  (6, 17, 6, 1, 198), (5, 9, 5, 0, 211), (5, 15, 5, 1, 212), (5, 18, 5, 2, 213), (5, 22, 5, 3, 214), (10, 258, 5, 3, 215), (5, 26, 5, 4, 216), (10, 262, 5, 4, 217),
  (5, 35, 5, 5, 218), (10, 265, 5, 5, 219), (5, 38, 5, 6, 220), (10, 268, 5, 6, 221), (9, 29, 9, 0, 245), (9, 11, 9, 1, 246), (4, 68, 9, 1, 247), (9, 16, 9, 2, 248),
  (9, 19, 9, 3, 249), (9, 23, 9, 4, 250), (9, 26, 9, 5, 251), (5, 60, 9, 5, 252), (10, 177, 9, 5, 253), (9, 47, 9, 6, 254), (9, 48, 9, 7, 255), (9, 72, 9, 8, 256),
  (9, 75, 9, 9, 257), (9, 65, 9, 10, 258), (9, 54, 9, 11, 259), (4, 59, 9, 11, 260), (4, 43, 9, 12, 261), (9, 62, 9, 12, 262), (10, 238, 9, 12, 263), (1, 7, 1, 0, 297),
  (1, 33, 1, 1, 298), (10, 206, 1, 1, 299), (1, 30, 1, 2, 300), (10, 204, 1, 2, 301), (2, 18, 2, 0, 315), (2, 22, 2, 1, 316), (2, 9, 2, 2, 317), (2, 15, 2, 3, 318),
  (4, 25, 4, 0, 335), (4, 29, 4, 1, 336), (4, 11, 4, 2, 337), (4, 16, 4, 3, 338), (4, 19, 4, 4, 339), (4, 22, 4, 5, 340), (4, 94, 4, 6, 341), (10, 293, 4, 6, 342),
  (4, 97, 4, 7, 343), (10, 296, 4, 7, 344), (10, 10, 10, 0, 362), (10, 19, 10, 1, 363), (10, 26, 10, 2, 364), (10, 30, 10, 3, 365), (10, 36, 10, 4, 366), (10, 43, 10, 5, 367),
  (10, 50, 10, 6, 368), (10, 59, 10, 7, 369), (10, 68, 10, 8, 370), (10, 77, 10, 9, 371), (10, 84, 10, 10, 372), (10, 299, 10, 11, 373), (11, 104, 11, 0, 835), (11, 65, 11, 1, 836),
  (11, 107, 11, 2, 837), (11, 110, 11, 3, 838), (11, 113, 11, 4, 839), (11, 7, 11, 5, 840), (11, 13, 11, 6, 841), (11, 16, 11, 7, 842), (11, 19, 11, 8, 843), (11, 22, 11, 9, 844),
  (11, 25, 11, 10, 845), (11, 84, 11, 11, 846), (11, 87, 11, 12, 847), (11, 28, 11, 13, 848), (11, 31, 11, 14, 849), (11, 75, 11, 15, 850), (11, 81, 11, 16, 851), (11, 78, 11, 17, 852),
  (11, 34, 11, 18, 853), (11, 116, 11, 19, 854), (11, 141, 11, 20, 855), (11, 37, 11, 21, 856), (11, 161, 11, 22, 857), (11, 168, 11, 23, 858), (11, 40, 11, 24, 859), (11, 195, 11, 25, 860),
  (11, 43, 11, 26, 861), (11, 46, 11, 27, 862), (11, 49, 11, 28, 863), (11, 203, 11, 29, 864), (11, 217, 11, 30, 865), (11, 220, 11, 31, 866), (11, 53, 11, 32, 867), (11, 56, 11, 33, 868),
  (11, 232, 11, 34, 869), (11, 59, 11, 35, 870), (11, 62, 11, 36, 871)]
theorem gl_F_ok : (gl_F.all (fun r => (lw_tbl[r.2.2.2.2]? == some (.fieldLink (gb_n r.1) r.2.1 (gb_F r.2.2.1 r.2.2.2.1).1 (gb_F r.2.2.1 r.2.2.2.1).2.1 (gb_F r.2.2.1 r.2.2.2.1).2.2.1)) && (decide (r.2.2.1 < 12) && decide (r.2.2.2.1 < gb_K r.2.2.1)))) = true := by decide +kernel
/-- static arrays: class, entry, which (1, 2), by a nest mate -/
def gl_S : List (Nat × Nat × Nat × Nat) := [(10, 224, 1, 0), (10, 231, 2, 0), (2, 65, 1, 1)]
def gl_sn (k : Nat) : String := if k = 1 then "FACTORIALS" else "TENS"
theorem gl_S_ok : (gl_S.all (fun r => (if r.2.2.2 = 0 then decide (Cond.fieldLink (gb_n r.1) r.2.1 "MorningBill" (gl_sn r.2.2.1) "[I" ∈ lw_tbl) else decide (Cond.fieldLinkNest (gb_n r.1) r.2.1 "MorningBill" (gl_sn r.2.2.1) "[I" "MorningBill" ∈ lw_tbl)))) = true := by decide +kernel
def gl_y (j : Nat) : MethodName := match j with | 1000 => objectInit | 1001 => arraycopyName | 1002 => Lib.Math.max.name | 1003 => Lib.Math.min.name | 1004 => Lib.MathLoose.max_long.x | 1005 => Lib.MathLoose.abs_long.x | _ => gm_y j
def gl_M : List (Nat × Nat × Nat × Nat) := [
  (12, 9, 63, 58), (10, 1, 1000, 61), (8, 3, 1000, 69), (7, 3, 1000, 85), (3, 3, 1000, 147), (10, 35, 0, 171), (0, 3, 1000, 174), (10, 42, 27, 191),
  (6, 3, 1000, 194), (5, 3, 1000, 210), (10, 56, 49, 239), (9, 3, 1000, 242), (10, 65, 4, 293), (1, 1, 1000, 296), (10, 74, 8, 311), (2, 3, 1000, 314),
  (10, 83, 16, 330), (4, 3, 1000, 333), (12, 13, 64, 399), (10, 88, 38, 403), (12, 18, 65, 407), (12, 23, 66, 411), (10, 96, 42, 415), (8, 27, 41, 419),
  (8, 19, 39, 423), (8, 23, 48, 427), (8, 31, 44, 430), (8, 38, 45, 434), (8, 44, 47, 438), (8, 48, 40, 442), (8, 41, 46, 446), (8, 35, 43, 450),
  (12, 27, 67, 454), (10, 100, 32, 458), (7, 31, 40, 462), (7, 43, 41, 463), (7, 50, 39, 464), (7, 53, 33, 465), (10, 104, 13, 468), (3, 15, 14, 472),
  (10, 107, 1, 476), (10, 110, 28, 480), (12, 31, 68, 484), (10, 117, 93, 488), (12, 35, 69, 491), (12, 39, 70, 495), (10, 127, 34, 499), (10, 142, 35, 503),
  (10, 146, 96, 507), (12, 44, 71, 510), (12, 48, 72, 514), (10, 153, 97, 518), (10, 156, 2, 522), (0, 25, 15, 526), (3, 28, 1001, 530), (0, 29, 1003, 533),
  (10, 163, 50, 536), (9, 37, 1001, 540), (10, 170, 53, 541), (9, 78, 54, 546), (9, 85, 55, 550), (9, 92, 56, 553), (9, 96, 57, 557), (9, 100, 35, 561),
  (9, 110, 36, 562), (10, 174, 62, 566), (12, 53, 73, 570), (12, 57, 74, 574), (10, 183, 3, 578), (12, 61, 75, 582), (10, 190, 94, 586), (10, 194, 98, 590),
  (10, 198, 58, 594), (12, 65, 76, 598), (10, 201, 5, 602), (1, 13, 51, 606), (1, 19, 52, 610), (1, 23, 53, 614), (1, 27, 58, 615), (1, 36, 7, 616),
  (1, 43, 163, 619), (12, 69, 77, 625), (10, 209, 76, 629), (10, 213, 15, 630), (12, 73, 78, 631), (10, 217, 9, 636), (2, 26, 51, 640), (2, 32, 52, 641),
  (2, 36, 53, 642), (2, 40, 10, 643), (2, 53, 163, 647), (2, 58, 60, 648), (10, 220, 11, 652), (10, 227, 104, 660), (10, 340, 1005, 663), (10, 346, 105, 666),
  (10, 350, 1004, 669), (12, 78, 79, 672), (10, 234, 100, 678), (10, 241, 99, 682), (10, 245, 59, 685), (12, 82, 80, 689), (10, 249, 61, 693), (12, 86, 81, 697),
  (10, 252, 6, 701), (1, 40, 61, 705), (12, 90, 82, 706), (10, 255, 24, 710), (12, 95, 83, 714), (12, 99, 84, 718), (10, 259, 25, 722), (5, 29, 51, 726),
  (5, 41, 52, 727), (5, 45, 53, 728), (5, 49, 26, 729), (12, 103, 85, 734), (10, 271, 95, 738), (10, 276, 102, 742), (10, 326, 51, 746), (10, 329, 52, 747),
  (10, 332, 163, 748), (10, 280, 103, 749), (10, 337, 60, 752), (12, 108, 86, 753), (12, 113, 87, 758), (10, 286, 14, 762), (10, 289, 17, 763), (4, 39, 18, 767),
  (4, 55, 50, 771), (4, 62, 53, 772), (4, 48, 19, 773), (4, 81, 1002, 777), (4, 90, 36, 780), (4, 52, 20, 781), (4, 100, 21, 785), (4, 104, 22, 789),
  (12, 119, 88, 793), (12, 124, 89, 797), (10, 303, 101, 801), (12, 128, 90, 808), (10, 306, 29, 812), (6, 22, 15, 816), (12, 132, 91, 817), (10, 310, 30, 821),
  (12, 136, 92, 825), (12, 12, 106, 831), (11, 1, 1000, 834), (12, 17, 110, 947), (11, 71, 107, 952), (12, 22, 111, 955), (12, 26, 116, 959), (11, 100, 114, 963),
  (11, 90, 112, 967), (11, 94, 113, 971), (11, 98, 115, 974), (12, 30, 117, 978), (12, 34, 119, 982), (12, 38, 120, 987), (12, 43, 123, 991), (11, 125, 118, 995),
  (11, 121, 121, 1000), (12, 47, 124, 1004), (12, 52, 131, 1008), (11, 144, 130, 1012), (11, 147, 128, 1016), (11, 150, 127, 1020), (11, 133, 125, 1024), (11, 130, 108, 1028),
  (11, 137, 126, 1031), (11, 153, 122, 1035), (12, 56, 132, 1039), (12, 60, 133, 1043), (12, 64, 136, 1047), (11, 165, 134, 1052), (11, 157, 129, 1056), (12, 68, 138, 1060),
  (11, 177, 137, 1064), (11, 171, 135, 1068), (11, 174, 109, 1072), (12, 72, 139, 1075), (12, 77, 142, 1079), (11, 181, 140, 1084), (11, 184, 141, 1087), (12, 81, 144, 1090),
  (11, 190, 143, 1095), (12, 85, 145, 1098), (12, 89, 146, 1102), (12, 94, 147, 1106), (12, 98, 148, 1111), (12, 102, 150, 1115), (11, 200, 149, 1120), (12, 107, 152, 1124),
  (11, 211, 151, 1130), (12, 112, 153, 1134), (12, 116, 157, 1139), (11, 223, 155, 1143), (11, 226, 154, 1147), (11, 229, 156, 1151), (12, 123, 158, 1155), (12, 127, 159, 1159),
  (12, 131, 160, 1166), (12, 135, 161, 1170), (12, 139, 162, 1174)]
theorem gl_M_ok : (gl_M.all (fun r => lw_tbl[r.2.2.2]? == some (.methodLink (gb_n r.1) r.2.1 (gl_y r.2.2.1)))) = true := by decide +kernel
def gl_N : List (Nat × Nat × Nat × Nat) := [(10, 9, 37, 66), (10, 18, 31, 82), (10, 25, 12, 144), (0, 17, 12, 177), (6, 21, 12, 196), (10, 49, 23, 207), (9, 68, 96, 545), (2, 61, 96, 656), (5, 63, 96, 733)]
theorem gl_N_ok : (gl_N.all (fun r => lw_tbl[r.2.2.2]? == some (.methodLinkNest (gb_n r.1) r.2.1 (gl_y r.2.2.1) "MorningBill"))) = true := by decide +kernel
def gl_cn (t : Nat) : String := if t = 15 then "[[I" else gb_n t
def gl_C : List (Nat × Nat × Nat × Nat) := [(12, 7, 10, 56), (10, 7, 8, 64), (10, 16, 7, 80), (10, 23, 3, 142), (10, 33, 0, 169), (0, 9, 3, 175), (10, 40, 6, 189), (6, 9, 3, 195), (10, 47, 5, 205), (10, 54, 9, 237), (9, 9, 15, 243), (10, 63, 1, 291), (10, 72, 2, 309), (10, 81, 4, 328), (4, 9, 15, 334), (12, 10, 11, 829)]
theorem gl_C_ok : (gl_C.all (fun r => lw_tbl[r.2.2.2]? == some (.classLink (gb_n r.1) r.2.1 (gl_cn r.2.2.1)))) = true := by decide +kernel
def gb_iv (a b : Nat) : Int32 := match b with | 0 => Int32.ofNat a | _ => -(Int32.ofNat a)
def gb_lv (a b : Nat) : Int64 := match b with | 0 => Int64.ofNat a | _ => -(Int64.ofNat a)
def gl_K : List (Nat × Nat × Nat × Nat × Nat) := [(10, 193, 1000002, 1, 589), (13, 265, 1431655765, 0, 622), (13, 266, 858993459, 0, 623), (13, 267, 252645135, 0, 624), (10, 216, 1000001, 1, 635), (11, 164, 1000002, 1, 1051), (11, 180, 1000001, 1, 1083)]
theorem gl_K_ok : (gl_K.all (fun r => lw_tbl[r.2.2.2.2]? == some (.constant (gb_n r.1) r.2.1 (gb_iv r.2.2.1 r.2.2.2.1)))) = true := by decide +kernel
def gl_L : List (Nat × Nat × Nat × Nat × Nat) := [(10, 274, 1000000000002, 1, 741), (10, 284, 1000000000001, 1, 757), (10, 320, 6364136223846793005, 0, 805), (10, 322, 1442695040888963407, 0, 806), (10, 324, 2, 0, 807), (11, 69, 255, 0, 951), (11, 119, 9, 0, 986), (11, 128, 3, 0, 999), (11, 188, 8, 0, 1094), (11, 193, 7, 0, 1110), (11, 198, 2, 0, 1119), (11, 207, 10, 0, 1128), (11, 209, 1000000000002, 1, 1129), (11, 215, 1000000000001, 1, 1138), (11, 235, 20, 0, 1163), (11, 237, 6364136223846793005, 0, 1164), (11, 239, 1442695040888963407, 0, 1165), (12, 117, 4294967295, 0, 1178)]
theorem gl_L_ok : (gl_L.all (fun r => lw_tbl[r.2.2.2.2]? == some (.constantLong (gb_n r.1) r.2.1 (gb_lv r.2.2.1 r.2.2.2.1)))) = true := by decide +kernel
def gb_mw (i : Nat) : List Cond := Cond.code (gm_y i) (gm_b i) (gm_L i) (gm_r i) :: .initialized (gm_y i).cls :: (if gm_k i = 0 then [.static (gm_y i)] else if gm_k i = 1 then [.instanceMethod (gm_y i), .selects (gm_y i).cls (gm_y i) (gm_y i)] else [.instanceMethod (gm_y i)])
def gb_mr (i : Nat) : List Cond := .initialized (gm_y i).cls :: (if gm_k i = 0 then [.static (gm_y i)] else if gm_k i = 1 then [.instanceMethod (gm_y i), .selects (gm_y i).cls (gm_y i) (gm_y i)] else [.instanceMethod (gm_y i)])
def gb_P : List (List Nat) := [
  [173, 45, 172], [479, 45, 477, 478], [525, 45, 523, 524], [581, 45, 579, 580], [295, 49, 294], [605, 49, 603, 604], [704, 49, 702, 703], [618, 49, 617],
  [313, 50, 312], [639, 50, 637, 638], [646, 50, 645, 10], [655, 50, 653, 654], [146, 44, 145], [471, 44, 469, 470], [475, 44, 473, 474], [529, 44, 527, 528],
  [332, 51, 331], [766, 51, 764, 765], [770, 51, 769, 14], [776, 51, 775, 15], [784, 51, 783, 16], [788, 51, 787, 17], [792, 51, 791, 18], [209, 47, 208],
  [713, 47, 711, 712], [725, 47, 723, 724], [732, 47, 731, 12], [193, 46, 192], [483, 46, 481, 482], [815, 46, 813, 814], [824, 46, 822, 823], [84, 43, 83],
  [461, 43, 459, 460], [467, 43, 466], [502, 43, 500, 501], [506, 43, 504, 505], [565, 43, 563, 564], [68, 42, 67], [406, 42, 404, 405], [426, 42, 424, 425],
  [445, 42, 443, 444], [422, 42, 420, 421], [418, 42, 416, 417], [453, 42, 452, 4], [433, 42, 432, 0], [437, 42, 436, 1], [449, 42, 448, 3], [441, 42, 440, 2],
  [429, 42, 428], [241, 48, 240], [539, 48, 537, 538], [609, 48, 607, 608], [613, 48, 611, 612], [544, 48, 542, 543], [549, 48, 548, 6], [552, 48, 551],
  [556, 48, 555, 7], [560, 48, 559, 8], [597, 48, 595, 596], [688, 48, 686, 687], [651, 48, 649, 650], [696, 48, 694, 695], [569, 48, 567, 568], [60, 41, 59],
  [402, 41, 400, 401], [410, 41, 408, 409], [414, 41, 412, 413], [457, 41, 455, 456], [487, 41, 485, 486], [494, 41, 492, 493], [498, 41, 496, 497], [513, 41, 511, 512],
  [517, 41, 515, 516], [573, 41, 571, 572], [577, 41, 575, 576], [585, 41, 583, 584], [601, 41, 599, 600], [628, 41, 626, 627], [634, 41, 632, 633], [675, 41, 673, 674],
  [692, 41, 690, 691], [700, 41, 698, 699], [709, 41, 707, 708], [717, 41, 715, 716], [721, 41, 719, 720], [737, 41, 735, 736], [756, 41, 754, 755], [761, 41, 759, 760],
  [796, 41, 794, 795], [800, 41, 798, 799], [811, 41, 809, 810], [820, 41, 818, 819], [828, 41, 826, 827], [490, 41, 489], [588, 41, 587], [740, 41, 739],
  [509, 41, 508], [521, 41, 520, 5], [593, 41, 592, 9], [684, 41, 683], [681, 41, 680, 11], [804, 41, 803, 19], [745, 41, 744, 13], [751, 41, 750],
  [662, 41, 661], [668, 41, 667], [833, 52, 832], [954, 52, 953], [1030, 52, 1029], [1074, 52, 1073], [950, 52, 948, 949], [958, 52, 956, 957],
  [970, 52, 969, 21], [973, 52, 972], [966, 52, 965, 20], [977, 52, 976, 22], [962, 52, 960, 961], [981, 52, 979, 980], [998, 52, 997, 23], [985, 52, 983, 984],
  [990, 52, 988, 989], [1003, 52, 1002, 24], [1038, 52, 1037, 30], [994, 52, 992, 993], [1007, 52, 1005, 1006], [1027, 52, 1026, 28], [1034, 52, 1033, 29], [1023, 52, 1022, 27],
  [1019, 52, 1018, 26], [1059, 52, 1058, 32], [1015, 52, 1014, 25], [1011, 52, 1009, 1010], [1042, 52, 1040, 1041], [1046, 52, 1044, 1045], [1055, 52, 1054, 31], [1071, 52, 1070, 34],
  [1050, 52, 1048, 1049], [1067, 52, 1066, 33], [1063, 52, 1061, 1062], [1078, 52, 1076, 1077], [1086, 52, 1085], [1089, 52, 1088], [1082, 52, 1080, 1081], [1097, 52, 1096],
  [1093, 52, 1091, 1092], [1101, 52, 1099, 1100], [1105, 52, 1103, 1104], [1109, 52, 1107, 1108], [1114, 52, 1112, 1113], [1123, 52, 1122, 35], [1118, 52, 1116, 1117], [1133, 52, 1132, 36],
  [1127, 52, 1125, 1126], [1137, 52, 1135, 1136], [1150, 52, 1149, 38], [1146, 52, 1145, 37], [1154, 52, 1153, 39], [1142, 52, 1140, 1141], [1158, 52, 1156, 1157], [1162, 52, 1160, 1161],
  [1169, 52, 1167, 1168], [1173, 52, 1171, 1172], [1177, 52, 1175, 1176], [621, 55, 620]]
def gb_in : List Nat → List Cond → Bool
  | p :: ps, w :: ws => (lw_tbl[p]? == some w) && (goodWord w && gb_in ps ws)
  | [], [] => true
  | _, _ => false
theorem gb_in_ok : ∀ (ps : List Nat) (ws : List Cond), gb_in ps ws = true → ∀ w ∈ ws, w ∈ gb_t
  | [], [], _, w, h => by simp at h
  | [], _ :: _, h, _, _ => by simp [gb_in] at h
  | _ :: _, [], h, _, _ => by simp [gb_in] at h
  | p :: ps, x :: xs, h, w, hw => by
    simp only [gb_in, Bool.and_eq_true] at h
    rcases List.mem_cons.mp hw with e | e
    · rw [e]; exact gb_tin (gb_at p h.1) h.2.1
    · exact gb_in_ok ps xs h.2.2 w e
def gb_mk (i : Nat) : Bool := (plainName (gm_y i).cls && decide ((parseMethodDescriptor (gm_y i).desc).map (fun d => d.parameters.length) = some (gm_p i))) && (decide ((gm_y i).cls ≠ "java/lang/invoke/MethodHandle") && (decide ((gm_y i).cls ≠ "java/lang/invoke/VarHandle") && (decide ((gm_y i).cls = gb_n (gm_o i)) && (decide (gm_k i = 2) == decide ((gm_y i).name = "<init>")))))
set_option maxRecDepth 100000 in
theorem gb_mkA : ∀ i, i < 164 → gb_mk i = true := by decide +kernel
set_option maxRecDepth 100000 in
theorem gb_w0 : ∀ i, i < 20 → gb_in ((gb_P.getD (i + 0) []).tail) (gb_mr (i + 0)) = true := by decide +kernel
set_option maxRecDepth 100000 in
theorem gb_w1 : ∀ i, i < 20 → gb_in ((gb_P.getD (i + 20) []).tail) (gb_mr (i + 20)) = true := by decide +kernel
set_option maxRecDepth 100000 in
theorem gb_w2 : ∀ i, i < 20 → gb_in ((gb_P.getD (i + 40) []).tail) (gb_mr (i + 40)) = true := by decide +kernel
set_option maxRecDepth 100000 in
theorem gb_w3 : ∀ i, i < 20 → gb_in ((gb_P.getD (i + 60) []).tail) (gb_mr (i + 60)) = true := by decide +kernel
set_option maxRecDepth 100000 in
theorem gb_w4 : ∀ i, i < 20 → gb_in ((gb_P.getD (i + 80) []).tail) (gb_mr (i + 80)) = true := by decide +kernel
set_option maxRecDepth 100000 in
theorem gb_w5 : ∀ i, i < 20 → gb_in ((gb_P.getD (i + 100) []).tail) (gb_mr (i + 100)) = true := by decide +kernel
set_option maxRecDepth 100000 in
theorem gb_w6 : ∀ i, i < 20 → gb_in ((gb_P.getD (i + 120) []).tail) (gb_mr (i + 120)) = true := by decide +kernel
set_option maxRecDepth 100000 in
theorem gb_w7 : ∀ i, i < 20 → gb_in ((gb_P.getD (i + 140) []).tail) (gb_mr (i + 140)) = true := by decide +kernel
set_option maxRecDepth 100000 in
theorem gb_w8 : ∀ i, i < 4 → gb_in ((gb_P.getD (i + 160) []).tail) (gb_mr (i + 160)) = true := by decide +kernel
theorem gb_wA {i : Nat} (h : i < 164) : gb_in ((gb_P.getD i []).tail) (gb_mr i) = true := by
  by_cases h0 : i < 20
  · have := gb_w0 (i - 0) (by omega)
    rwa [Nat.sub_add_cancel (by omega)] at this
  by_cases h1 : i < 40
  · have := gb_w1 (i - 20) (by omega)
    rwa [Nat.sub_add_cancel (by omega)] at this
  by_cases h2 : i < 60
  · have := gb_w2 (i - 40) (by omega)
    rwa [Nat.sub_add_cancel (by omega)] at this
  by_cases h3 : i < 80
  · have := gb_w3 (i - 60) (by omega)
    rwa [Nat.sub_add_cancel (by omega)] at this
  by_cases h4 : i < 100
  · have := gb_w4 (i - 80) (by omega)
    rwa [Nat.sub_add_cancel (by omega)] at this
  by_cases h5 : i < 120
  · have := gb_w5 (i - 100) (by omega)
    rwa [Nat.sub_add_cancel (by omega)] at this
  by_cases h6 : i < 140
  · have := gb_w6 (i - 120) (by omega)
    rwa [Nat.sub_add_cancel (by omega)] at this
  by_cases h7 : i < 160
  · have := gb_w7 (i - 140) (by omega)
    rwa [Nat.sub_add_cancel (by omega)] at this
  by_cases h8 : i < 164
  · have := gb_w8 (i - 160) (by omega)
    rwa [Nat.sub_add_cancel (by omega)] at this
  omega
def gb_cP (l : List Nat) (n : Nat) : Prop := ∀ (k p : Nat), l[k]? = some p → lw_tbl[p]? = some (Cond.code (gm_y (n + k)) (gm_b (n + k)) (gm_L (n + k)) (gm_r (n + k)))
theorem gb_cnil (n : Nat) : gb_cP [] n := fun k c h => by simp at h
theorem gb_ccons {p : Nat} {l : List Nat} {n : Nat} (h : lw_tbl[p]? = some (Cond.code (gm_y n) (gm_b n) (gm_L n) (gm_r n))) (t : gb_cP l (n + 1)) : gb_cP (p :: l) n := by
  intro k x hx
  cases k with
  | zero => cases hx; exact h
  | succ k => rw [List.getElem?_cons_succ] at hx; have := t k x hx; rwa [show n + 1 + k = n + (k + 1) by omega] at this
def gb_cl0 : List Nat := [173, 479, 525, 581, 295, 605, 704, 618, 313, 639, 646, 655, 146, 471, 475, 529, 332, 766, 770, 776, 784, 788, 792, 209, 713, 725, 732, 193, 483, 815, 824, 84, 461, 467, 502, 506, 565, 68, 406, 426, 445, 422, 418, 453, 433, 437, 449, 441, 429, 241, 539, 609, 613, 544, 549, 552, 556, 560, 597, 688, 651, 696, 569, 60, 402, 410, 414, 457, 487, 494, 498, 513, 517, 573, 577, 585, 601, 628, 634, 675, 692, 700, 709, 717, 721, 737, 756, 761, 796, 800, 811, 820, 828, 490, 588, 740, 509, 521, 593, 684, 681, 804, 745, 751, 662, 668, 833, 954, 1030, 1074, 950, 958, 970, 973, 966, 977, 962, 981, 998, 985, 990, 1003, 1038, 994, 1007, 1027, 1034, 1023, 1019, 1059, 1015, 1011, 1042, 1046, 1055, 1071, 1050, 1067, 1063, 1078, 1086, 1089, 1082, 1097, 1093, 1101, 1105, 1109, 1114, 1123, 1118, 1133, 1127, 1137, 1150, 1146, 1154, 1142, 1158, 1162, 1169, 1173, 1177, 621]
set_option maxRecDepth 100000 in
theorem gb_c_0 : lw_tbl[173]? = some (Cond.code (gm_y 0) (gm_b 0) (gm_L 0) (gm_r 0)) := rfl
set_option maxRecDepth 100000 in
theorem gb_c_1 : lw_tbl[479]? = some (Cond.code (gm_y 1) (gm_b 1) (gm_L 1) (gm_r 1)) := rfl
set_option maxRecDepth 100000 in
theorem gb_c_2 : lw_tbl[525]? = some (Cond.code (gm_y 2) (gm_b 2) (gm_L 2) (gm_r 2)) := rfl
set_option maxRecDepth 100000 in
theorem gb_c_3 : lw_tbl[581]? = some (Cond.code (gm_y 3) (gm_b 3) (gm_L 3) (gm_r 3)) := rfl
set_option maxRecDepth 100000 in
theorem gb_c_4 : lw_tbl[295]? = some (Cond.code (gm_y 4) (gm_b 4) (gm_L 4) (gm_r 4)) := rfl
set_option maxRecDepth 100000 in
theorem gb_c_5 : lw_tbl[605]? = some (Cond.code (gm_y 5) (gm_b 5) (gm_L 5) (gm_r 5)) := rfl
set_option maxRecDepth 100000 in
theorem gb_c_6 : lw_tbl[704]? = some (Cond.code (gm_y 6) (gm_b 6) (gm_L 6) (gm_r 6)) := rfl
set_option maxRecDepth 100000 in
theorem gb_c_7 : lw_tbl[618]? = some (Cond.code (gm_y 7) (gm_b 7) (gm_L 7) (gm_r 7)) := rfl
set_option maxRecDepth 100000 in
theorem gb_c_8 : lw_tbl[313]? = some (Cond.code (gm_y 8) (gm_b 8) (gm_L 8) (gm_r 8)) := rfl
set_option maxRecDepth 100000 in
theorem gb_c_9 : lw_tbl[639]? = some (Cond.code (gm_y 9) (gm_b 9) (gm_L 9) (gm_r 9)) := rfl
set_option maxRecDepth 100000 in
theorem gb_c_10 : lw_tbl[646]? = some (Cond.code (gm_y 10) (gm_b 10) (gm_L 10) (gm_r 10)) := rfl
set_option maxRecDepth 100000 in
theorem gb_c_11 : lw_tbl[655]? = some (Cond.code (gm_y 11) (gm_b 11) (gm_L 11) (gm_r 11)) := rfl
set_option maxRecDepth 100000 in
theorem gb_c_12 : lw_tbl[146]? = some (Cond.code (gm_y 12) (gm_b 12) (gm_L 12) (gm_r 12)) := rfl
set_option maxRecDepth 100000 in
theorem gb_c_13 : lw_tbl[471]? = some (Cond.code (gm_y 13) (gm_b 13) (gm_L 13) (gm_r 13)) := rfl
set_option maxRecDepth 100000 in
theorem gb_c_14 : lw_tbl[475]? = some (Cond.code (gm_y 14) (gm_b 14) (gm_L 14) (gm_r 14)) := rfl
set_option maxRecDepth 100000 in
theorem gb_c_15 : lw_tbl[529]? = some (Cond.code (gm_y 15) (gm_b 15) (gm_L 15) (gm_r 15)) := rfl
set_option maxRecDepth 100000 in
theorem gb_c_16 : lw_tbl[332]? = some (Cond.code (gm_y 16) (gm_b 16) (gm_L 16) (gm_r 16)) := rfl
set_option maxRecDepth 100000 in
theorem gb_c_17 : lw_tbl[766]? = some (Cond.code (gm_y 17) (gm_b 17) (gm_L 17) (gm_r 17)) := rfl
set_option maxRecDepth 100000 in
theorem gb_c_18 : lw_tbl[770]? = some (Cond.code (gm_y 18) (gm_b 18) (gm_L 18) (gm_r 18)) := rfl
set_option maxRecDepth 100000 in
theorem gb_c_19 : lw_tbl[776]? = some (Cond.code (gm_y 19) (gm_b 19) (gm_L 19) (gm_r 19)) := rfl
set_option maxRecDepth 100000 in
theorem gb_c_20 : lw_tbl[784]? = some (Cond.code (gm_y 20) (gm_b 20) (gm_L 20) (gm_r 20)) := rfl
set_option maxRecDepth 100000 in
theorem gb_c_21 : lw_tbl[788]? = some (Cond.code (gm_y 21) (gm_b 21) (gm_L 21) (gm_r 21)) := rfl
set_option maxRecDepth 100000 in
theorem gb_c_22 : lw_tbl[792]? = some (Cond.code (gm_y 22) (gm_b 22) (gm_L 22) (gm_r 22)) := rfl
set_option maxRecDepth 100000 in
theorem gb_c_23 : lw_tbl[209]? = some (Cond.code (gm_y 23) (gm_b 23) (gm_L 23) (gm_r 23)) := rfl
set_option maxRecDepth 100000 in
theorem gb_c_24 : lw_tbl[713]? = some (Cond.code (gm_y 24) (gm_b 24) (gm_L 24) (gm_r 24)) := rfl
set_option maxRecDepth 100000 in
theorem gb_c_25 : lw_tbl[725]? = some (Cond.code (gm_y 25) (gm_b 25) (gm_L 25) (gm_r 25)) := rfl
set_option maxRecDepth 100000 in
theorem gb_c_26 : lw_tbl[732]? = some (Cond.code (gm_y 26) (gm_b 26) (gm_L 26) (gm_r 26)) := rfl
set_option maxRecDepth 100000 in
theorem gb_c_27 : lw_tbl[193]? = some (Cond.code (gm_y 27) (gm_b 27) (gm_L 27) (gm_r 27)) := rfl
set_option maxRecDepth 100000 in
theorem gb_c_28 : lw_tbl[483]? = some (Cond.code (gm_y 28) (gm_b 28) (gm_L 28) (gm_r 28)) := rfl
set_option maxRecDepth 100000 in
theorem gb_c_29 : lw_tbl[815]? = some (Cond.code (gm_y 29) (gm_b 29) (gm_L 29) (gm_r 29)) := rfl
set_option maxRecDepth 100000 in
theorem gb_c_30 : lw_tbl[824]? = some (Cond.code (gm_y 30) (gm_b 30) (gm_L 30) (gm_r 30)) := rfl
set_option maxRecDepth 100000 in
theorem gb_c_31 : lw_tbl[84]? = some (Cond.code (gm_y 31) (gm_b 31) (gm_L 31) (gm_r 31)) := rfl
set_option maxRecDepth 100000 in
theorem gb_c_32 : lw_tbl[461]? = some (Cond.code (gm_y 32) (gm_b 32) (gm_L 32) (gm_r 32)) := rfl
set_option maxRecDepth 100000 in
theorem gb_c_33 : lw_tbl[467]? = some (Cond.code (gm_y 33) (gm_b 33) (gm_L 33) (gm_r 33)) := rfl
set_option maxRecDepth 100000 in
theorem gb_c_34 : lw_tbl[502]? = some (Cond.code (gm_y 34) (gm_b 34) (gm_L 34) (gm_r 34)) := rfl
set_option maxRecDepth 100000 in
theorem gb_c_35 : lw_tbl[506]? = some (Cond.code (gm_y 35) (gm_b 35) (gm_L 35) (gm_r 35)) := rfl
set_option maxRecDepth 100000 in
theorem gb_c_36 : lw_tbl[565]? = some (Cond.code (gm_y 36) (gm_b 36) (gm_L 36) (gm_r 36)) := rfl
set_option maxRecDepth 100000 in
theorem gb_c_37 : lw_tbl[68]? = some (Cond.code (gm_y 37) (gm_b 37) (gm_L 37) (gm_r 37)) := rfl
set_option maxRecDepth 100000 in
theorem gb_c_38 : lw_tbl[406]? = some (Cond.code (gm_y 38) (gm_b 38) (gm_L 38) (gm_r 38)) := rfl
set_option maxRecDepth 100000 in
theorem gb_c_39 : lw_tbl[426]? = some (Cond.code (gm_y 39) (gm_b 39) (gm_L 39) (gm_r 39)) := rfl
set_option maxRecDepth 100000 in
theorem gb_c_40 : lw_tbl[445]? = some (Cond.code (gm_y 40) (gm_b 40) (gm_L 40) (gm_r 40)) := rfl
set_option maxRecDepth 100000 in
theorem gb_c_41 : lw_tbl[422]? = some (Cond.code (gm_y 41) (gm_b 41) (gm_L 41) (gm_r 41)) := rfl
set_option maxRecDepth 100000 in
theorem gb_c_42 : lw_tbl[418]? = some (Cond.code (gm_y 42) (gm_b 42) (gm_L 42) (gm_r 42)) := rfl
set_option maxRecDepth 100000 in
theorem gb_c_43 : lw_tbl[453]? = some (Cond.code (gm_y 43) (gm_b 43) (gm_L 43) (gm_r 43)) := rfl
set_option maxRecDepth 100000 in
theorem gb_c_44 : lw_tbl[433]? = some (Cond.code (gm_y 44) (gm_b 44) (gm_L 44) (gm_r 44)) := rfl
set_option maxRecDepth 100000 in
theorem gb_c_45 : lw_tbl[437]? = some (Cond.code (gm_y 45) (gm_b 45) (gm_L 45) (gm_r 45)) := rfl
set_option maxRecDepth 100000 in
theorem gb_c_46 : lw_tbl[449]? = some (Cond.code (gm_y 46) (gm_b 46) (gm_L 46) (gm_r 46)) := rfl
set_option maxRecDepth 100000 in
theorem gb_c_47 : lw_tbl[441]? = some (Cond.code (gm_y 47) (gm_b 47) (gm_L 47) (gm_r 47)) := rfl
set_option maxRecDepth 100000 in
theorem gb_c_48 : lw_tbl[429]? = some (Cond.code (gm_y 48) (gm_b 48) (gm_L 48) (gm_r 48)) := rfl
set_option maxRecDepth 100000 in
theorem gb_c_49 : lw_tbl[241]? = some (Cond.code (gm_y 49) (gm_b 49) (gm_L 49) (gm_r 49)) := rfl
set_option maxRecDepth 100000 in
theorem gb_c_50 : lw_tbl[539]? = some (Cond.code (gm_y 50) (gm_b 50) (gm_L 50) (gm_r 50)) := rfl
set_option maxRecDepth 100000 in
theorem gb_c_51 : lw_tbl[609]? = some (Cond.code (gm_y 51) (gm_b 51) (gm_L 51) (gm_r 51)) := rfl
set_option maxRecDepth 100000 in
theorem gb_c_52 : lw_tbl[613]? = some (Cond.code (gm_y 52) (gm_b 52) (gm_L 52) (gm_r 52)) := rfl
set_option maxRecDepth 100000 in
theorem gb_c_53 : lw_tbl[544]? = some (Cond.code (gm_y 53) (gm_b 53) (gm_L 53) (gm_r 53)) := rfl
set_option maxRecDepth 100000 in
theorem gb_c_54 : lw_tbl[549]? = some (Cond.code (gm_y 54) (gm_b 54) (gm_L 54) (gm_r 54)) := rfl
set_option maxRecDepth 100000 in
theorem gb_c_55 : lw_tbl[552]? = some (Cond.code (gm_y 55) (gm_b 55) (gm_L 55) (gm_r 55)) := rfl
set_option maxRecDepth 100000 in
theorem gb_c_56 : lw_tbl[556]? = some (Cond.code (gm_y 56) (gm_b 56) (gm_L 56) (gm_r 56)) := rfl
set_option maxRecDepth 100000 in
theorem gb_c_57 : lw_tbl[560]? = some (Cond.code (gm_y 57) (gm_b 57) (gm_L 57) (gm_r 57)) := rfl
set_option maxRecDepth 100000 in
theorem gb_c_58 : lw_tbl[597]? = some (Cond.code (gm_y 58) (gm_b 58) (gm_L 58) (gm_r 58)) := rfl
set_option maxRecDepth 100000 in
theorem gb_c_59 : lw_tbl[688]? = some (Cond.code (gm_y 59) (gm_b 59) (gm_L 59) (gm_r 59)) := rfl
set_option maxRecDepth 100000 in
theorem gb_c_60 : lw_tbl[651]? = some (Cond.code (gm_y 60) (gm_b 60) (gm_L 60) (gm_r 60)) := rfl
set_option maxRecDepth 100000 in
theorem gb_c_61 : lw_tbl[696]? = some (Cond.code (gm_y 61) (gm_b 61) (gm_L 61) (gm_r 61)) := rfl
set_option maxRecDepth 100000 in
theorem gb_c_62 : lw_tbl[569]? = some (Cond.code (gm_y 62) (gm_b 62) (gm_L 62) (gm_r 62)) := rfl
set_option maxRecDepth 100000 in
theorem gb_c_63 : lw_tbl[60]? = some (Cond.code (gm_y 63) (gm_b 63) (gm_L 63) (gm_r 63)) := rfl
set_option maxRecDepth 100000 in
theorem gb_c_64 : lw_tbl[402]? = some (Cond.code (gm_y 64) (gm_b 64) (gm_L 64) (gm_r 64)) := rfl
set_option maxRecDepth 100000 in
theorem gb_c_65 : lw_tbl[410]? = some (Cond.code (gm_y 65) (gm_b 65) (gm_L 65) (gm_r 65)) := rfl
set_option maxRecDepth 100000 in
theorem gb_c_66 : lw_tbl[414]? = some (Cond.code (gm_y 66) (gm_b 66) (gm_L 66) (gm_r 66)) := rfl
set_option maxRecDepth 100000 in
theorem gb_c_67 : lw_tbl[457]? = some (Cond.code (gm_y 67) (gm_b 67) (gm_L 67) (gm_r 67)) := rfl
set_option maxRecDepth 100000 in
theorem gb_c_68 : lw_tbl[487]? = some (Cond.code (gm_y 68) (gm_b 68) (gm_L 68) (gm_r 68)) := rfl
set_option maxRecDepth 100000 in
theorem gb_c_69 : lw_tbl[494]? = some (Cond.code (gm_y 69) (gm_b 69) (gm_L 69) (gm_r 69)) := rfl
set_option maxRecDepth 100000 in
theorem gb_c_70 : lw_tbl[498]? = some (Cond.code (gm_y 70) (gm_b 70) (gm_L 70) (gm_r 70)) := rfl
set_option maxRecDepth 100000 in
theorem gb_c_71 : lw_tbl[513]? = some (Cond.code (gm_y 71) (gm_b 71) (gm_L 71) (gm_r 71)) := rfl
set_option maxRecDepth 100000 in
theorem gb_c_72 : lw_tbl[517]? = some (Cond.code (gm_y 72) (gm_b 72) (gm_L 72) (gm_r 72)) := rfl
set_option maxRecDepth 100000 in
theorem gb_c_73 : lw_tbl[573]? = some (Cond.code (gm_y 73) (gm_b 73) (gm_L 73) (gm_r 73)) := rfl
set_option maxRecDepth 100000 in
theorem gb_c_74 : lw_tbl[577]? = some (Cond.code (gm_y 74) (gm_b 74) (gm_L 74) (gm_r 74)) := rfl
set_option maxRecDepth 100000 in
theorem gb_c_75 : lw_tbl[585]? = some (Cond.code (gm_y 75) (gm_b 75) (gm_L 75) (gm_r 75)) := rfl
set_option maxRecDepth 100000 in
theorem gb_c_76 : lw_tbl[601]? = some (Cond.code (gm_y 76) (gm_b 76) (gm_L 76) (gm_r 76)) := rfl
set_option maxRecDepth 100000 in
theorem gb_c_77 : lw_tbl[628]? = some (Cond.code (gm_y 77) (gm_b 77) (gm_L 77) (gm_r 77)) := rfl
set_option maxRecDepth 100000 in
theorem gb_c_78 : lw_tbl[634]? = some (Cond.code (gm_y 78) (gm_b 78) (gm_L 78) (gm_r 78)) := rfl
set_option maxRecDepth 100000 in
theorem gb_c_79 : lw_tbl[675]? = some (Cond.code (gm_y 79) (gm_b 79) (gm_L 79) (gm_r 79)) := rfl
set_option maxRecDepth 100000 in
theorem gb_c_80 : lw_tbl[692]? = some (Cond.code (gm_y 80) (gm_b 80) (gm_L 80) (gm_r 80)) := rfl
set_option maxRecDepth 100000 in
theorem gb_c_81 : lw_tbl[700]? = some (Cond.code (gm_y 81) (gm_b 81) (gm_L 81) (gm_r 81)) := rfl
set_option maxRecDepth 100000 in
theorem gb_c_82 : lw_tbl[709]? = some (Cond.code (gm_y 82) (gm_b 82) (gm_L 82) (gm_r 82)) := rfl
set_option maxRecDepth 100000 in
theorem gb_c_83 : lw_tbl[717]? = some (Cond.code (gm_y 83) (gm_b 83) (gm_L 83) (gm_r 83)) := rfl
set_option maxRecDepth 100000 in
theorem gb_c_84 : lw_tbl[721]? = some (Cond.code (gm_y 84) (gm_b 84) (gm_L 84) (gm_r 84)) := rfl
set_option maxRecDepth 100000 in
theorem gb_c_85 : lw_tbl[737]? = some (Cond.code (gm_y 85) (gm_b 85) (gm_L 85) (gm_r 85)) := rfl
set_option maxRecDepth 100000 in
theorem gb_c_86 : lw_tbl[756]? = some (Cond.code (gm_y 86) (gm_b 86) (gm_L 86) (gm_r 86)) := rfl
set_option maxRecDepth 100000 in
theorem gb_c_87 : lw_tbl[761]? = some (Cond.code (gm_y 87) (gm_b 87) (gm_L 87) (gm_r 87)) := rfl
set_option maxRecDepth 100000 in
theorem gb_c_88 : lw_tbl[796]? = some (Cond.code (gm_y 88) (gm_b 88) (gm_L 88) (gm_r 88)) := rfl
set_option maxRecDepth 100000 in
theorem gb_c_89 : lw_tbl[800]? = some (Cond.code (gm_y 89) (gm_b 89) (gm_L 89) (gm_r 89)) := rfl
set_option maxRecDepth 100000 in
theorem gb_c_90 : lw_tbl[811]? = some (Cond.code (gm_y 90) (gm_b 90) (gm_L 90) (gm_r 90)) := rfl
set_option maxRecDepth 100000 in
theorem gb_c_91 : lw_tbl[820]? = some (Cond.code (gm_y 91) (gm_b 91) (gm_L 91) (gm_r 91)) := rfl
set_option maxRecDepth 100000 in
theorem gb_c_92 : lw_tbl[828]? = some (Cond.code (gm_y 92) (gm_b 92) (gm_L 92) (gm_r 92)) := rfl
set_option maxRecDepth 100000 in
theorem gb_c_93 : lw_tbl[490]? = some (Cond.code (gm_y 93) (gm_b 93) (gm_L 93) (gm_r 93)) := rfl
set_option maxRecDepth 100000 in
theorem gb_c_94 : lw_tbl[588]? = some (Cond.code (gm_y 94) (gm_b 94) (gm_L 94) (gm_r 94)) := rfl
set_option maxRecDepth 100000 in
theorem gb_c_95 : lw_tbl[740]? = some (Cond.code (gm_y 95) (gm_b 95) (gm_L 95) (gm_r 95)) := rfl
set_option maxRecDepth 100000 in
theorem gb_c_96 : lw_tbl[509]? = some (Cond.code (gm_y 96) (gm_b 96) (gm_L 96) (gm_r 96)) := rfl
set_option maxRecDepth 100000 in
theorem gb_c_97 : lw_tbl[521]? = some (Cond.code (gm_y 97) (gm_b 97) (gm_L 97) (gm_r 97)) := rfl
set_option maxRecDepth 100000 in
theorem gb_c_98 : lw_tbl[593]? = some (Cond.code (gm_y 98) (gm_b 98) (gm_L 98) (gm_r 98)) := rfl
set_option maxRecDepth 100000 in
theorem gb_c_99 : lw_tbl[684]? = some (Cond.code (gm_y 99) (gm_b 99) (gm_L 99) (gm_r 99)) := rfl
set_option maxRecDepth 100000 in
theorem gb_c_100 : lw_tbl[681]? = some (Cond.code (gm_y 100) (gm_b 100) (gm_L 100) (gm_r 100)) := rfl
set_option maxRecDepth 100000 in
theorem gb_c_101 : lw_tbl[804]? = some (Cond.code (gm_y 101) (gm_b 101) (gm_L 101) (gm_r 101)) := rfl
set_option maxRecDepth 100000 in
theorem gb_c_102 : lw_tbl[745]? = some (Cond.code (gm_y 102) (gm_b 102) (gm_L 102) (gm_r 102)) := rfl
set_option maxRecDepth 100000 in
theorem gb_c_103 : lw_tbl[751]? = some (Cond.code (gm_y 103) (gm_b 103) (gm_L 103) (gm_r 103)) := rfl
set_option maxRecDepth 100000 in
theorem gb_c_104 : lw_tbl[662]? = some (Cond.code (gm_y 104) (gm_b 104) (gm_L 104) (gm_r 104)) := rfl
set_option maxRecDepth 100000 in
theorem gb_c_105 : lw_tbl[668]? = some (Cond.code (gm_y 105) (gm_b 105) (gm_L 105) (gm_r 105)) := rfl
set_option maxRecDepth 100000 in
theorem gb_c_106 : lw_tbl[833]? = some (Cond.code (gm_y 106) (gm_b 106) (gm_L 106) (gm_r 106)) := rfl
set_option maxRecDepth 100000 in
theorem gb_c_107 : lw_tbl[954]? = some (Cond.code (gm_y 107) (gm_b 107) (gm_L 107) (gm_r 107)) := rfl
set_option maxRecDepth 100000 in
theorem gb_c_108 : lw_tbl[1030]? = some (Cond.code (gm_y 108) (gm_b 108) (gm_L 108) (gm_r 108)) := rfl
set_option maxRecDepth 100000 in
theorem gb_c_109 : lw_tbl[1074]? = some (Cond.code (gm_y 109) (gm_b 109) (gm_L 109) (gm_r 109)) := rfl
set_option maxRecDepth 100000 in
theorem gb_c_110 : lw_tbl[950]? = some (Cond.code (gm_y 110) (gm_b 110) (gm_L 110) (gm_r 110)) := rfl
set_option maxRecDepth 100000 in
theorem gb_c_111 : lw_tbl[958]? = some (Cond.code (gm_y 111) (gm_b 111) (gm_L 111) (gm_r 111)) := rfl
set_option maxRecDepth 100000 in
theorem gb_c_112 : lw_tbl[970]? = some (Cond.code (gm_y 112) (gm_b 112) (gm_L 112) (gm_r 112)) := rfl
set_option maxRecDepth 100000 in
theorem gb_c_113 : lw_tbl[973]? = some (Cond.code (gm_y 113) (gm_b 113) (gm_L 113) (gm_r 113)) := rfl
set_option maxRecDepth 100000 in
theorem gb_c_114 : lw_tbl[966]? = some (Cond.code (gm_y 114) (gm_b 114) (gm_L 114) (gm_r 114)) := rfl
set_option maxRecDepth 100000 in
theorem gb_c_115 : lw_tbl[977]? = some (Cond.code (gm_y 115) (gm_b 115) (gm_L 115) (gm_r 115)) := rfl
set_option maxRecDepth 100000 in
theorem gb_c_116 : lw_tbl[962]? = some (Cond.code (gm_y 116) (gm_b 116) (gm_L 116) (gm_r 116)) := rfl
set_option maxRecDepth 100000 in
theorem gb_c_117 : lw_tbl[981]? = some (Cond.code (gm_y 117) (gm_b 117) (gm_L 117) (gm_r 117)) := rfl
set_option maxRecDepth 100000 in
theorem gb_c_118 : lw_tbl[998]? = some (Cond.code (gm_y 118) (gm_b 118) (gm_L 118) (gm_r 118)) := rfl
set_option maxRecDepth 100000 in
theorem gb_c_119 : lw_tbl[985]? = some (Cond.code (gm_y 119) (gm_b 119) (gm_L 119) (gm_r 119)) := rfl
set_option maxRecDepth 100000 in
theorem gb_c_120 : lw_tbl[990]? = some (Cond.code (gm_y 120) (gm_b 120) (gm_L 120) (gm_r 120)) := rfl
set_option maxRecDepth 100000 in
theorem gb_c_121 : lw_tbl[1003]? = some (Cond.code (gm_y 121) (gm_b 121) (gm_L 121) (gm_r 121)) := rfl
set_option maxRecDepth 100000 in
theorem gb_c_122 : lw_tbl[1038]? = some (Cond.code (gm_y 122) (gm_b 122) (gm_L 122) (gm_r 122)) := rfl
set_option maxRecDepth 100000 in
theorem gb_c_123 : lw_tbl[994]? = some (Cond.code (gm_y 123) (gm_b 123) (gm_L 123) (gm_r 123)) := rfl
set_option maxRecDepth 100000 in
theorem gb_c_124 : lw_tbl[1007]? = some (Cond.code (gm_y 124) (gm_b 124) (gm_L 124) (gm_r 124)) := rfl
set_option maxRecDepth 100000 in
theorem gb_c_125 : lw_tbl[1027]? = some (Cond.code (gm_y 125) (gm_b 125) (gm_L 125) (gm_r 125)) := rfl
set_option maxRecDepth 100000 in
theorem gb_c_126 : lw_tbl[1034]? = some (Cond.code (gm_y 126) (gm_b 126) (gm_L 126) (gm_r 126)) := rfl
set_option maxRecDepth 100000 in
theorem gb_c_127 : lw_tbl[1023]? = some (Cond.code (gm_y 127) (gm_b 127) (gm_L 127) (gm_r 127)) := rfl
set_option maxRecDepth 100000 in
theorem gb_c_128 : lw_tbl[1019]? = some (Cond.code (gm_y 128) (gm_b 128) (gm_L 128) (gm_r 128)) := rfl
set_option maxRecDepth 100000 in
theorem gb_c_129 : lw_tbl[1059]? = some (Cond.code (gm_y 129) (gm_b 129) (gm_L 129) (gm_r 129)) := rfl
set_option maxRecDepth 100000 in
theorem gb_c_130 : lw_tbl[1015]? = some (Cond.code (gm_y 130) (gm_b 130) (gm_L 130) (gm_r 130)) := rfl
set_option maxRecDepth 100000 in
theorem gb_c_131 : lw_tbl[1011]? = some (Cond.code (gm_y 131) (gm_b 131) (gm_L 131) (gm_r 131)) := rfl
set_option maxRecDepth 100000 in
theorem gb_c_132 : lw_tbl[1042]? = some (Cond.code (gm_y 132) (gm_b 132) (gm_L 132) (gm_r 132)) := rfl
set_option maxRecDepth 100000 in
theorem gb_c_133 : lw_tbl[1046]? = some (Cond.code (gm_y 133) (gm_b 133) (gm_L 133) (gm_r 133)) := rfl
set_option maxRecDepth 100000 in
theorem gb_c_134 : lw_tbl[1055]? = some (Cond.code (gm_y 134) (gm_b 134) (gm_L 134) (gm_r 134)) := rfl
set_option maxRecDepth 100000 in
theorem gb_c_135 : lw_tbl[1071]? = some (Cond.code (gm_y 135) (gm_b 135) (gm_L 135) (gm_r 135)) := rfl
set_option maxRecDepth 100000 in
theorem gb_c_136 : lw_tbl[1050]? = some (Cond.code (gm_y 136) (gm_b 136) (gm_L 136) (gm_r 136)) := rfl
set_option maxRecDepth 100000 in
theorem gb_c_137 : lw_tbl[1067]? = some (Cond.code (gm_y 137) (gm_b 137) (gm_L 137) (gm_r 137)) := rfl
set_option maxRecDepth 100000 in
theorem gb_c_138 : lw_tbl[1063]? = some (Cond.code (gm_y 138) (gm_b 138) (gm_L 138) (gm_r 138)) := rfl
set_option maxRecDepth 100000 in
theorem gb_c_139 : lw_tbl[1078]? = some (Cond.code (gm_y 139) (gm_b 139) (gm_L 139) (gm_r 139)) := rfl
set_option maxRecDepth 100000 in
theorem gb_c_140 : lw_tbl[1086]? = some (Cond.code (gm_y 140) (gm_b 140) (gm_L 140) (gm_r 140)) := rfl
set_option maxRecDepth 100000 in
theorem gb_c_141 : lw_tbl[1089]? = some (Cond.code (gm_y 141) (gm_b 141) (gm_L 141) (gm_r 141)) := rfl
set_option maxRecDepth 100000 in
theorem gb_c_142 : lw_tbl[1082]? = some (Cond.code (gm_y 142) (gm_b 142) (gm_L 142) (gm_r 142)) := rfl
set_option maxRecDepth 100000 in
theorem gb_c_143 : lw_tbl[1097]? = some (Cond.code (gm_y 143) (gm_b 143) (gm_L 143) (gm_r 143)) := rfl
set_option maxRecDepth 100000 in
theorem gb_c_144 : lw_tbl[1093]? = some (Cond.code (gm_y 144) (gm_b 144) (gm_L 144) (gm_r 144)) := rfl
set_option maxRecDepth 100000 in
theorem gb_c_145 : lw_tbl[1101]? = some (Cond.code (gm_y 145) (gm_b 145) (gm_L 145) (gm_r 145)) := rfl
set_option maxRecDepth 100000 in
theorem gb_c_146 : lw_tbl[1105]? = some (Cond.code (gm_y 146) (gm_b 146) (gm_L 146) (gm_r 146)) := rfl
set_option maxRecDepth 100000 in
theorem gb_c_147 : lw_tbl[1109]? = some (Cond.code (gm_y 147) (gm_b 147) (gm_L 147) (gm_r 147)) := rfl
set_option maxRecDepth 100000 in
theorem gb_c_148 : lw_tbl[1114]? = some (Cond.code (gm_y 148) (gm_b 148) (gm_L 148) (gm_r 148)) := rfl
set_option maxRecDepth 100000 in
theorem gb_c_149 : lw_tbl[1123]? = some (Cond.code (gm_y 149) (gm_b 149) (gm_L 149) (gm_r 149)) := rfl
set_option maxRecDepth 100000 in
theorem gb_c_150 : lw_tbl[1118]? = some (Cond.code (gm_y 150) (gm_b 150) (gm_L 150) (gm_r 150)) := rfl
set_option maxRecDepth 100000 in
theorem gb_c_151 : lw_tbl[1133]? = some (Cond.code (gm_y 151) (gm_b 151) (gm_L 151) (gm_r 151)) := rfl
set_option maxRecDepth 100000 in
theorem gb_c_152 : lw_tbl[1127]? = some (Cond.code (gm_y 152) (gm_b 152) (gm_L 152) (gm_r 152)) := rfl
set_option maxRecDepth 100000 in
theorem gb_c_153 : lw_tbl[1137]? = some (Cond.code (gm_y 153) (gm_b 153) (gm_L 153) (gm_r 153)) := rfl
set_option maxRecDepth 100000 in
theorem gb_c_154 : lw_tbl[1150]? = some (Cond.code (gm_y 154) (gm_b 154) (gm_L 154) (gm_r 154)) := rfl
set_option maxRecDepth 100000 in
theorem gb_c_155 : lw_tbl[1146]? = some (Cond.code (gm_y 155) (gm_b 155) (gm_L 155) (gm_r 155)) := rfl
set_option maxRecDepth 100000 in
theorem gb_c_156 : lw_tbl[1154]? = some (Cond.code (gm_y 156) (gm_b 156) (gm_L 156) (gm_r 156)) := rfl
set_option maxRecDepth 100000 in
theorem gb_c_157 : lw_tbl[1142]? = some (Cond.code (gm_y 157) (gm_b 157) (gm_L 157) (gm_r 157)) := rfl
set_option maxRecDepth 100000 in
theorem gb_c_158 : lw_tbl[1158]? = some (Cond.code (gm_y 158) (gm_b 158) (gm_L 158) (gm_r 158)) := rfl
set_option maxRecDepth 100000 in
theorem gb_c_159 : lw_tbl[1162]? = some (Cond.code (gm_y 159) (gm_b 159) (gm_L 159) (gm_r 159)) := rfl
set_option maxRecDepth 100000 in
theorem gb_c_160 : lw_tbl[1169]? = some (Cond.code (gm_y 160) (gm_b 160) (gm_L 160) (gm_r 160)) := rfl
set_option maxRecDepth 100000 in
theorem gb_c_161 : lw_tbl[1173]? = some (Cond.code (gm_y 161) (gm_b 161) (gm_L 161) (gm_r 161)) := rfl
set_option maxRecDepth 100000 in
theorem gb_c_162 : lw_tbl[1177]? = some (Cond.code (gm_y 162) (gm_b 162) (gm_L 162) (gm_r 162)) := rfl
set_option maxRecDepth 100000 in
theorem gb_c_163 : lw_tbl[621]? = some (Cond.code (gm_y 163) (gm_b 163) (gm_L 163) (gm_r 163)) := rfl
set_option maxRecDepth 100000 in
theorem gb_call : gb_cP gb_cl0 0 := gb_ccons gb_c_0 (gb_ccons gb_c_1 (gb_ccons gb_c_2 (gb_ccons gb_c_3 (gb_ccons gb_c_4 (gb_ccons gb_c_5 (gb_ccons gb_c_6 (gb_ccons gb_c_7 (gb_ccons gb_c_8 (gb_ccons gb_c_9 (gb_ccons gb_c_10 (gb_ccons gb_c_11 (gb_ccons gb_c_12 (gb_ccons gb_c_13 (gb_ccons gb_c_14 (gb_ccons gb_c_15 (gb_ccons gb_c_16 (gb_ccons gb_c_17 (gb_ccons gb_c_18 (gb_ccons gb_c_19 (gb_ccons gb_c_20 (gb_ccons gb_c_21 (gb_ccons gb_c_22 (gb_ccons gb_c_23 (gb_ccons gb_c_24 (gb_ccons gb_c_25 (gb_ccons gb_c_26 (gb_ccons gb_c_27 (gb_ccons gb_c_28 (gb_ccons gb_c_29 (gb_ccons gb_c_30 (gb_ccons gb_c_31 (gb_ccons gb_c_32 (gb_ccons gb_c_33 (gb_ccons gb_c_34 (gb_ccons gb_c_35 (gb_ccons gb_c_36 (gb_ccons gb_c_37 (gb_ccons gb_c_38 (gb_ccons gb_c_39 (gb_ccons gb_c_40 (gb_ccons gb_c_41 (gb_ccons gb_c_42 (gb_ccons gb_c_43 (gb_ccons gb_c_44 (gb_ccons gb_c_45 (gb_ccons gb_c_46 (gb_ccons gb_c_47 (gb_ccons gb_c_48 (gb_ccons gb_c_49 (gb_ccons gb_c_50 (gb_ccons gb_c_51 (gb_ccons gb_c_52 (gb_ccons gb_c_53 (gb_ccons gb_c_54 (gb_ccons gb_c_55 (gb_ccons gb_c_56 (gb_ccons gb_c_57 (gb_ccons gb_c_58 (gb_ccons gb_c_59 (gb_ccons gb_c_60 (gb_ccons gb_c_61 (gb_ccons gb_c_62 (gb_ccons gb_c_63 (gb_ccons gb_c_64 (gb_ccons gb_c_65 (gb_ccons gb_c_66 (gb_ccons gb_c_67 (gb_ccons gb_c_68 (gb_ccons gb_c_69 (gb_ccons gb_c_70 (gb_ccons gb_c_71 (gb_ccons gb_c_72 (gb_ccons gb_c_73 (gb_ccons gb_c_74 (gb_ccons gb_c_75 (gb_ccons gb_c_76 (gb_ccons gb_c_77 (gb_ccons gb_c_78 (gb_ccons gb_c_79 (gb_ccons gb_c_80 (gb_ccons gb_c_81 (gb_ccons gb_c_82 (gb_ccons gb_c_83 (gb_ccons gb_c_84 (gb_ccons gb_c_85 (gb_ccons gb_c_86 (gb_ccons gb_c_87 (gb_ccons gb_c_88 (gb_ccons gb_c_89 (gb_ccons gb_c_90 (gb_ccons gb_c_91 (gb_ccons gb_c_92 (gb_ccons gb_c_93 (gb_ccons gb_c_94 (gb_ccons gb_c_95 (gb_ccons gb_c_96 (gb_ccons gb_c_97 (gb_ccons gb_c_98 (gb_ccons gb_c_99 (gb_ccons gb_c_100 (gb_ccons gb_c_101 (gb_ccons gb_c_102 (gb_ccons gb_c_103 (gb_ccons gb_c_104 (gb_ccons gb_c_105 (gb_ccons gb_c_106 (gb_ccons gb_c_107 (gb_ccons gb_c_108 (gb_ccons gb_c_109 (gb_ccons gb_c_110 (gb_ccons gb_c_111 (gb_ccons gb_c_112 (gb_ccons gb_c_113 (gb_ccons gb_c_114 (gb_ccons gb_c_115 (gb_ccons gb_c_116 (gb_ccons gb_c_117 (gb_ccons gb_c_118 (gb_ccons gb_c_119 (gb_ccons gb_c_120 (gb_ccons gb_c_121 (gb_ccons gb_c_122 (gb_ccons gb_c_123 (gb_ccons gb_c_124 (gb_ccons gb_c_125 (gb_ccons gb_c_126 (gb_ccons gb_c_127 (gb_ccons gb_c_128 (gb_ccons gb_c_129 (gb_ccons gb_c_130 (gb_ccons gb_c_131 (gb_ccons gb_c_132 (gb_ccons gb_c_133 (gb_ccons gb_c_134 (gb_ccons gb_c_135 (gb_ccons gb_c_136 (gb_ccons gb_c_137 (gb_ccons gb_c_138 (gb_ccons gb_c_139 (gb_ccons gb_c_140 (gb_ccons gb_c_141 (gb_ccons gb_c_142 (gb_ccons gb_c_143 (gb_ccons gb_c_144 (gb_ccons gb_c_145 (gb_ccons gb_c_146 (gb_ccons gb_c_147 (gb_ccons gb_c_148 (gb_ccons gb_c_149 (gb_ccons gb_c_150 (gb_ccons gb_c_151 (gb_ccons gb_c_152 (gb_ccons gb_c_153 (gb_ccons gb_c_154 (gb_ccons gb_c_155 (gb_ccons gb_c_156 (gb_ccons gb_c_157 (gb_ccons gb_c_158 (gb_ccons gb_c_159 (gb_ccons gb_c_160 (gb_ccons gb_c_161 (gb_ccons gb_c_162 (gb_ccons gb_c_163 (gb_cnil _))))))))))))))))))))))))))))))))))))))))))))))))))))))))))))))))))))))))))))))))))))))))))))))))))))))))))))))))))))))))))))))))))))))))))))))))))))))))))))))))))))
theorem gb_code {i : Nat} (h : i < 164) : Cond.code (gm_y i) (gm_b i) (gm_L i) (gm_r i) ∈ gb_t := by
  have hl : gb_cl0.length = 164 := by decide +kernel
  have := gb_call i (gb_cl0[i]'(by omega)) (List.getElem?_eq_getElem (by omega))
  rw [Nat.zero_add] at this
  exact gb_tin (List.mem_of_getElem? this) rfl
theorem gb_word {i : Nat} (h : i < 164) : ∀ w ∈ gb_mw i, w ∈ gb_t := by
  intro w hw
  rcases List.mem_cons.mp hw with e | e
  · rw [e]; exact gb_code h
  · exact gb_in_ok _ _ (gb_wA h) w e
end
section
abbrev gc_O : Type := Nat × Instr × Nat × Nat × Nat
def gc_lk (i : Nat) : Instr → Nat → Nat → Nat → Bool := fun ins pc a b => match ins with
  | .iconst n => Int32.ofInt n == gb_iv a b
  | .bipush n => (Int8.ofInt n).toInt32 == gb_iv a b
  | .sipush n => (Int16.ofInt n).toInt32 == gb_iv a b
  | .lconst n => Int64.ofNat n.val == gb_lv a b
  | .ldc x | .ldc_w x => gl_K.any (fun r => r.1 == gm_o i && (r.2.1 == x && (r.2.2.1 == a && r.2.2.2.1 == b)))
  | .ldc2_w x => gl_L.any (fun r => r.1 == gm_o i && (r.2.1 == x && (r.2.2.1 == a && r.2.2.2.1 == b)))
  | .iload_n k | .aload_n k | .lload_n k | .istore_n k | .astore_n k | .lstore_n k => k.val == a
  | .iload k | .aload k | .lload k | .istore k | .astore k | .lstore k => k == a
  | .iinc _ n => Int32.ofInt n == gb_iv a b
  | .ifCond _ off | .if_icmp _ off | .goto off => (pc : Int) + off == (a : Int)
  | .getfield x | .putfield x => gl_F.any (fun r => r.1 == gm_o i && (r.2.1 == x && (r.2.2.1 == a && r.2.2.2.1 == b)))
  | .getstatic x => gl_S.any (fun r => r.1 == gm_o i && (r.2.1 == x && r.2.2.1 == a))
  | .invokevirtual x | .invokestatic x | .invokespecial x => (gl_M.any (fun r => r.1 == gm_o i && (r.2.1 == x && r.2.2.1 == a))) || (gl_N.any (fun r => r.1 == gm_o i && (r.2.1 == x && r.2.2.1 == a)))
  | .new x | .anewarray x | .multianewarray x _ => gl_C.any (fun r => r.1 == gm_o i && (r.2.1 == x && r.2.2.1 == (if a = 14 then 3 else a)))
  | .newarray .int => a == 12
  | .newarray .boolean => a == 13
  | .tableswitch d lo _ offs => (decide (0 ≤ (pc : Int) + d)) && (offs.toList.all (fun f => decide (0 ≤ (pc : Int) + f)))
  | _ => true
def gc_ok (i : Nat) (r : gc_O) : Bool := decide (decode (gm_b i) r.1 = .ok (r.2.1, r.2.2.1)) && gc_lk i r.2.1 r.1 r.2.2.2.1 r.2.2.2.2
def gc_0 : List gc_O := [
  (0, .aload_n 0, 1, 0, 0), (1, .invokespecial 3, 3, 1000, 0), (4, .aload_n 0, 1, 0, 0), (5, .bipush 14, 2, 14, 0), (7, .anewarray 9, 3, 14, 0), (10, .putfield 11, 3, 0, 0),
  (13, .iconst 0, 1, 0, 0), (14, .istore_n 1, 1, 1, 0), (15, .iload_n 1, 1, 1, 0), (16, .bipush 14, 2, 14, 0), (18, .if_icmp .ge 22, 3, 40, 0), (21, .aload_n 0, 1, 0, 0),
  (22, .getfield 11, 3, 0, 0), (25, .iload_n 1, 1, 1, 0), (26, .new 9, 3, 3, 0), (29, .dup, 1, 0, 0), (30, .invokespecial 17, 3, 12, 0), (33, .aastore, 1, 0, 0),
  (34, .iinc 1 1, 3, 1, 0), (37, .goto (-22), 3, 15, 0), (40, .return_, 1, 0, 0)]
def gc_1 : List gc_O := [
  (0, .aload_n 0, 1, 0, 0), (1, .iconst 0, 1, 0, 0), (2, .putfield 18, 3, 0, 2), (5, .return_, 1, 0, 0)]
def gc_2 : List gc_O := [
  (0, .aload_n 0, 1, 0, 0), (1, .getfield 11, 3, 0, 0), (4, .aload_n 0, 1, 0, 0), (5, .getfield 22, 3, 0, 1), (8, .aaload, 1, 0, 0), (9, .aload_n 1, 1, 1, 0),
  (10, .invokevirtual 25, 3, 15, 1), (13, .aload_n 0, 1, 0, 0), (14, .aload_n 0, 1, 0, 0), (15, .getfield 22, 3, 0, 1), (18, .iconst 1, 1, 1, 0), (19, .iadd, 1, 0, 0),
  (20, .bipush 14, 2, 14, 0), (22, .irem, 1, 0, 0), (23, .putfield 22, 3, 0, 1), (26, .aload_n 0, 1, 0, 0), (27, .aload_n 0, 1, 0, 0), (28, .getfield 18, 3, 0, 2),
  (31, .iconst 1, 1, 1, 0), (32, .iadd, 1, 0, 0), (33, .bipush 14, 2, 14, 0), (35, .invokestatic 29, 3, 1003, 2), (38, .putfield 18, 3, 0, 2), (41, .return_, 1, 0, 0)]
def gc_3 : List gc_O := [
  (0, .aload_n 0, 1, 0, 0), (1, .getfield 18, 3, 0, 2), (4, .ifCond .ne 5, 3, 9, 0), (7, .iconst 0, 1, 0, 0), (8, .ireturn, 1, 0, 0), (9, .aload_n 0, 1, 0, 0),
  (10, .aload_n 0, 1, 0, 0), (11, .getfield 22, 3, 0, 1), (14, .bipush 14, 2, 14, 0), (16, .iadd, 1, 0, 0), (17, .iconst 1, 1, 1, 0), (18, .isub, 1, 0, 0),
  (19, .bipush 14, 2, 14, 0), (21, .irem, 1, 0, 0), (22, .putfield 22, 3, 0, 1), (25, .aload_n 1, 1, 1, 0), (26, .aload_n 0, 1, 0, 0), (27, .getfield 11, 3, 0, 0),
  (30, .aload_n 0, 1, 0, 0), (31, .getfield 22, 3, 0, 1), (34, .aaload, 1, 0, 0), (35, .invokevirtual 25, 3, 15, 1), (38, .aload_n 0, 1, 0, 0), (39, .dup, 1, 0, 0),
  (40, .getfield 18, 3, 0, 2), (43, .iconst 1, 1, 1, 0), (44, .isub, 1, 0, 0), (45, .putfield 18, 3, 0, 2), (48, .iconst 1, 1, 1, 0), (49, .ireturn, 1, 0, 0)]
def gc_4 : List gc_O := [
  (0, .aload_n 0, 1, 0, 0), (1, .invokespecial 1, 3, 1000, 0), (4, .aload_n 0, 1, 0, 0), (5, .aload_n 1, 1, 1, 0), (6, .putfield 7, 3, 1, 0), (9, .return_, 1, 0, 0)]
def gc_5 : List gc_O := [
  (0, .iconst 0, 1, 0, 0), (1, .istore_n 1, 1, 1, 0), (2, .iload_n 1, 1, 1, 0), (3, .aload_n 0, 1, 0, 0), (4, .getfield 7, 3, 1, 0), (7, .invokevirtual 13, 3, 51, 0),
  (10, .if_icmp .ge 79, 3, 89, 0), (13, .aload_n 0, 1, 0, 0), (14, .getfield 7, 3, 1, 0), (17, .iload_n 1, 1, 1, 0), (18, .invokevirtual 19, 3, 52, 1), (21, .istore_n 2, 1, 2, 0),
  (22, .aload_n 0, 1, 0, 0), (23, .getfield 7, 3, 1, 0), (26, .iload_n 2, 1, 2, 0), (27, .iconst 0, 1, 0, 0), (28, .invokevirtual 23, 3, 53, 2), (31, .aload_n 0, 1, 0, 0),
  (32, .getfield 7, 3, 1, 0), (35, .invokevirtual 27, 3, 58, 0), (38, .aload_n 0, 1, 0, 0), (39, .getfield 30, 3, 1, 2), (42, .isub, 1, 0, 0), (43, .istore_n 3, 1, 3, 0),
  (44, .iload_n 1, 1, 1, 0), (45, .ifCond .eq 22, 3, 67, 0), (48, .iload_n 3, 1, 3, 0), (49, .ifCond .gt 18, 3, 67, 0), (52, .iload_n 3, 1, 3, 0), (53, .ifCond .ne 30, 3, 83, 0),
  (56, .iload_n 2, 1, 2, 0), (57, .aload_n 0, 1, 0, 0), (58, .getfield 33, 3, 1, 1), (61, .invokestatic 36, 3, 7, 2), (64, .ifCond .eq 19, 3, 83, 0), (67, .aload_n 0, 1, 0, 0),
  (68, .iload_n 2, 1, 2, 0), (69, .putfield 33, 3, 1, 1), (72, .aload_n 0, 1, 0, 0), (73, .aload_n 0, 1, 0, 0), (74, .getfield 7, 3, 1, 0), (77, .invokevirtual 27, 3, 58, 0),
  (80, .putfield 30, 3, 1, 2), (83, .iinc 1 1, 3, 1, 0), (86, .goto (-84), 3, 2, 0), (89, .return_, 1, 0, 0)]
def gc_6 : List gc_O := [
  (0, .iconst 0, 1, 0, 0), (1, .istore_n 2, 1, 2, 0), (2, .iconst 0, 1, 0, 0), (3, .istore_n 3, 1, 3, 0), (4, .iload_n 3, 1, 3, 0), (5, .aload_n 0, 1, 0, 0),
  (6, .getfield 7, 3, 1, 0), (9, .invokevirtual 13, 3, 51, 0), (12, .if_icmp .ge 64, 3, 76, 0), (15, .aload_n 0, 1, 0, 0), (16, .getfield 7, 3, 1, 0), (19, .iload_n 3, 1, 3, 0),
  (20, .invokevirtual 19, 3, 52, 1), (23, .istore 4, 2, 4, 0), (25, .aload_n 0, 1, 0, 0), (26, .getfield 7, 3, 1, 0), (29, .iload 4, 2, 4, 0), (31, .iconst 0, 1, 0, 0),
  (32, .invokevirtual 23, 3, 53, 2), (35, .aload_n 0, 1, 0, 0), (36, .getfield 7, 3, 1, 0), (39, .invokevirtual 40, 3, 61, 0), (42, .iload_n 1, 1, 1, 0), (43, .if_icmp .ne 27, 3, 70, 0),
  (46, .iload_n 2, 1, 2, 0), (47, .ifCond .eq 15, 3, 62, 0), (50, .iload 4, 2, 4, 0), (52, .aload_n 0, 1, 0, 0), (53, .getfield 33, 3, 1, 1), (56, .invokestatic 36, 3, 7, 2),
  (59, .ifCond .eq 11, 3, 70, 0), (62, .aload_n 0, 1, 0, 0), (63, .iload 4, 2, 4, 0), (65, .putfield 33, 3, 1, 1), (68, .iconst 1, 1, 1, 0), (69, .istore_n 2, 1, 2, 0),
  (70, .iinc 3 1, 3, 1, 0), (73, .goto (-69), 3, 4, 0), (76, .iload_n 2, 1, 2, 0), (77, .ireturn, 1, 0, 0)]
def gc_7 : List gc_O := [
  (0, .iload_n 1, 1, 1, 0), (1, .invokestatic 43, 3, 163, 1), (4, .iload_n 0, 1, 0, 0), (5, .invokestatic 43, 3, 163, 1), (8, .isub, 1, 0, 0), (9, .istore_n 2, 1, 2, 0),
  (10, .iload_n 2, 1, 2, 0), (11, .ifCond .gt 12, 3, 23, 0), (14, .iload_n 2, 1, 2, 0), (15, .ifCond .ne 12, 3, 27, 0), (18, .iload_n 0, 1, 0, 0), (19, .iload_n 1, 1, 1, 0),
  (20, .if_icmp .ge 7, 3, 27, 0), (23, .iconst 1, 1, 1, 0), (24, .goto 4, 3, 28, 0), (27, .iconst 0, 1, 0, 0), (28, .ireturn, 1, 0, 0)]
def gc_8 : List gc_O := [
  (0, .aload_n 0, 1, 0, 0), (1, .invokespecial 3, 3, 1000, 0), (4, .aload_n 0, 1, 0, 0), (5, .bipush 64, 2, 64, 0), (7, .newarray .int, 2, 12, 0), (9, .putfield 9, 3, 2, 2),
  (12, .aload_n 0, 1, 0, 0), (13, .bipush 64, 2, 64, 0), (15, .newarray .int, 2, 12, 0), (17, .putfield 15, 3, 2, 3), (20, .aload_n 0, 1, 0, 0), (21, .aload_n 1, 1, 1, 0),
  (22, .putfield 18, 3, 2, 0), (25, .aload_n 0, 1, 0, 0), (26, .aload_n 2, 1, 2, 0), (27, .putfield 22, 3, 2, 1), (30, .return_, 1, 0, 0)]
def gc_9 : List gc_O := [
  (0, .iconst 0, 1, 0, 0), (1, .istore_n 1, 1, 1, 0), (2, .iload_n 1, 1, 1, 0), (3, .aload_n 0, 1, 0, 0), (4, .getfield 22, 3, 2, 1), (7, .invokevirtual 26, 3, 51, 0),
  (10, .if_icmp .ge 84, 3, 94, 0), (13, .aload_n 0, 1, 0, 0), (14, .getfield 22, 3, 2, 1), (17, .iload_n 1, 1, 1, 0), (18, .invokevirtual 32, 3, 52, 1), (21, .istore_n 2, 1, 2, 0),
  (22, .aload_n 0, 1, 0, 0), (23, .getfield 22, 3, 2, 1), (26, .iload_n 2, 1, 2, 0), (27, .iconst 0, 1, 0, 0), (28, .invokevirtual 36, 3, 53, 2), (31, .aload_n 0, 1, 0, 0),
  (32, .iload_n 2, 1, 2, 0), (33, .invokevirtual 40, 3, 10, 1), (36, .iconst 0, 1, 0, 0), (37, .istore_n 3, 1, 3, 0), (38, .iload_n 3, 1, 3, 0), (39, .iconst 1, 1, 1, 0),
  (40, .aload_n 0, 1, 0, 0), (41, .getfield 18, 3, 2, 0), (44, .getfield 44, 3, 7, 4), (47, .ishl, 1, 0, 0), (48, .if_icmp .ge 40, 3, 88, 0), (51, .iload_n 1, 1, 1, 0),
  (52, .ifCond .eq 18, 3, 70, 0), (55, .aload_n 0, 1, 0, 0), (56, .getfield 15, 3, 2, 3), (59, .iload_n 3, 1, 3, 0), (60, .iaload, 1, 0, 0), (61, .aload_n 0, 1, 0, 0),
  (62, .getfield 9, 3, 2, 2), (65, .iload_n 3, 1, 3, 0), (66, .iaload, 1, 0, 0), (67, .if_icmp .le 15, 3, 82, 0), (70, .aload_n 0, 1, 0, 0), (71, .getfield 9, 3, 2, 2),
  (74, .iload_n 3, 1, 3, 0), (75, .aload_n 0, 1, 0, 0), (76, .getfield 15, 3, 2, 3), (79, .iload_n 3, 1, 3, 0), (80, .iaload, 1, 0, 0), (81, .iastore, 1, 0, 0),
  (82, .iinc 3 1, 3, 1, 0), (85, .goto (-47), 3, 38, 0), (88, .iinc 1 1, 3, 1, 0), (91, .goto (-89), 3, 2, 0), (94, .return_, 1, 0, 0)]
def gc_10 : List gc_O := [
  (0, .aload_n 0, 1, 0, 0), (1, .getfield 15, 3, 2, 3), (4, .iconst 0, 1, 0, 0), (5, .aload_n 0, 1, 0, 0), (6, .getfield 18, 3, 2, 0), (9, .getfield 50, 3, 7, 2),
  (12, .ineg, 1, 0, 0), (13, .iload_n 1, 1, 1, 0), (14, .invokestatic 53, 3, 163, 1), (17, .imul, 1, 0, 0), (18, .iastore, 1, 0, 0), (19, .iconst 0, 1, 0, 0),
  (20, .istore_n 2, 1, 2, 0), (21, .iload_n 2, 1, 2, 0), (22, .aload_n 0, 1, 0, 0), (23, .getfield 18, 3, 2, 0), (26, .getfield 44, 3, 7, 4), (29, .if_icmp .ge 53, 3, 82, 0),
  (32, .iconst 1, 1, 1, 0), (33, .iload_n 2, 1, 2, 0), (34, .ishl, 1, 0, 0), (35, .istore_n 3, 1, 3, 0), (36, .iconst 0, 1, 0, 0), (37, .istore 4, 2, 4, 0),
  (39, .iload 4, 2, 4, 0), (41, .iload_n 3, 1, 3, 0), (42, .if_icmp .ge 34, 3, 76, 0), (45, .aload_n 0, 1, 0, 0), (46, .getfield 15, 3, 2, 3), (49, .iload_n 3, 1, 3, 0),
  (50, .iload 4, 2, 4, 0), (52, .ior, 1, 0, 0), (53, .aload_n 0, 1, 0, 0), (54, .getfield 15, 3, 2, 3), (57, .iload 4, 2, 4, 0), (59, .iaload, 1, 0, 0),
  (60, .aload_n 0, 1, 0, 0), (61, .getfield 22, 3, 2, 1), (64, .iload_n 2, 1, 2, 0), (65, .invokevirtual 58, 3, 60, 1), (68, .iadd, 1, 0, 0), (69, .iastore, 1, 0, 0),
  (70, .iinc 4 1, 3, 1, 0), (73, .goto (-34), 3, 39, 0), (76, .iinc 2 1, 3, 1, 0), (79, .goto (-58), 3, 21, 0), (82, .return_, 1, 0, 0)]
def gc_11 : List gc_O := [
  (0, .lconst 0, 1, 0, 0), (1, .lstore_n 2, 1, 2, 0), (2, .aload_n 0, 1, 0, 0), (3, .getfield 18, 3, 2, 0), (6, .getfield 44, 3, 7, 4), (9, .iconst 1, 1, 1, 0),
  (10, .isub, 1, 0, 0), (11, .istore 4, 2, 4, 0), (13, .iconst 0, 1, 0, 0), (14, .istore 5, 2, 5, 0), (16, .iload 5, 2, 5, 0), (18, .iconst 1, 1, 1, 0),
  (19, .aload_n 0, 1, 0, 0), (20, .getfield 18, 3, 2, 0), (23, .getfield 44, 3, 7, 4), (26, .ishl, 1, 0, 0), (27, .if_icmp .ge 70, 3, 97, 0), (30, .iload 5, 2, 5, 0),
  (32, .iload_n 1, 1, 1, 0), (33, .invokestatic 61, 3, 96, 2), (36, .ifCond .ne 55, 3, 91, 0), (39, .iload 5, 2, 5, 0), (41, .invokestatic 53, 3, 163, 1), (44, .istore 6, 2, 6, 0),
  (46, .getstatic 65, 3, 1, 0), (49, .iload 6, 2, 6, 0), (51, .iaload, 1, 0, 0), (52, .getstatic 65, 3, 1, 0), (55, .iload 4, 2, 4, 0), (57, .iload 6, 2, 6, 0),
  (59, .isub, 1, 0, 0), (60, .iaload, 1, 0, 0), (61, .imul, 1, 0, 0), (62, .istore 7, 2, 7, 0), (64, .lload_n 2, 1, 2, 0), (65, .iload 7, 2, 7, 0),
  (67, .i2l, 1, 0, 0), (68, .aload_n 0, 1, 0, 0), (69, .getfield 9, 3, 2, 2), (72, .iload 5, 2, 5, 0), (74, .iconst 1, 1, 1, 0), (75, .iload_n 1, 1, 1, 0),
  (76, .ishl, 1, 0, 0), (77, .ior, 1, 0, 0), (78, .iaload, 1, 0, 0), (79, .aload_n 0, 1, 0, 0), (80, .getfield 9, 3, 2, 2), (83, .iload 5, 2, 5, 0),
  (85, .iaload, 1, 0, 0), (86, .isub, 1, 0, 0), (87, .i2l, 1, 0, 0), (88, .lmul, 1, 0, 0), (89, .ladd, 1, 0, 0), (90, .lstore_n 2, 1, 2, 0),
  (91, .iinc 5 1, 3, 1, 0), (94, .goto (-78), 3, 16, 0), (97, .lload_n 2, 1, 2, 0), (98, .lreturn, 1, 0, 0)]
def gc_12 : List gc_O := [
  (0, .aload_n 0, 1, 0, 0), (1, .invokespecial 3, 3, 1000, 0), (4, .aload_n 0, 1, 0, 0), (5, .bipush 10, 2, 10, 0), (7, .newarray .int, 2, 12, 0), (9, .putfield 9, 3, 3, 0),
  (12, .return_, 1, 0, 0)]
def gc_13 : List gc_O := [
  (0, .aload_n 0, 1, 0, 0), (1, .invokevirtual 15, 3, 14, 0), (4, .aload_n 0, 1, 0, 0), (5, .iconst 0, 1, 0, 0), (6, .putfield 18, 3, 3, 1), (9, .aload_n 0, 1, 0, 0),
  (10, .iconst 0, 1, 0, 0), (11, .putfield 22, 3, 3, 2), (14, .aload_n 0, 1, 0, 0), (15, .iconst 0, 1, 0, 0), (16, .putfield 25, 3, 3, 3), (19, .return_, 1, 0, 0)]
def gc_14 : List gc_O := [
  (0, .iconst 0, 1, 0, 0), (1, .istore_n 1, 1, 1, 0), (2, .iload_n 1, 1, 1, 0), (3, .bipush 10, 2, 10, 0), (5, .if_icmp .ge 16, 3, 21, 0), (8, .aload_n 0, 1, 0, 0),
  (9, .getfield 9, 3, 3, 0), (12, .iload_n 1, 1, 1, 0), (13, .iconst 0, 1, 0, 0), (14, .iastore, 1, 0, 0), (15, .iinc 1 1, 3, 1, 0), (18, .goto (-16), 3, 2, 0),
  (21, .return_, 1, 0, 0)]
def gc_15 : List gc_O := [
  (0, .aload_n 1, 1, 1, 0), (1, .getfield 9, 3, 3, 0), (4, .iconst 0, 1, 0, 0), (5, .aload_n 0, 1, 0, 0), (6, .getfield 9, 3, 3, 0), (9, .iconst 0, 1, 0, 0),
  (10, .bipush 10, 2, 10, 0), (12, .invokestatic 28, 3, 1001, 5), (15, .aload_n 0, 1, 0, 0), (16, .aload_n 1, 1, 1, 0), (17, .getfield 18, 3, 3, 1), (20, .putfield 18, 3, 3, 1),
  (23, .aload_n 0, 1, 0, 0), (24, .aload_n 1, 1, 1, 0), (25, .getfield 22, 3, 3, 2), (28, .putfield 22, 3, 3, 2), (31, .aload_n 0, 1, 0, 0), (32, .aload_n 1, 1, 1, 0),
  (33, .getfield 25, 3, 3, 3), (36, .putfield 25, 3, 3, 3), (39, .return_, 1, 0, 0)]
def gc_16 : List gc_O := [
  (0, .aload_n 0, 1, 0, 0), (1, .invokespecial 3, 3, 1000, 0), (4, .aload_n 0, 1, 0, 0), (5, .bipush 9, 2, 9, 0), (7, .bipush 48, 2, 48, 0), (9, .multianewarray 9 2, 4, 15, 0),
  (13, .putfield 11, 3, 4, 2), (16, .aload_n 0, 1, 0, 0), (17, .bipush 9, 2, 9, 0), (19, .bipush 48, 2, 48, 0), (21, .multianewarray 9 2, 4, 15, 0), (25, .putfield 16, 3, 4, 3),
  (28, .aload_n 0, 1, 0, 0), (29, .bipush 9, 2, 9, 0), (31, .bipush 9, 2, 9, 0), (33, .multianewarray 9 2, 4, 15, 0), (37, .putfield 19, 3, 4, 4), (40, .aload_n 0, 1, 0, 0),
  (41, .bipush 9, 2, 9, 0), (43, .bipush 9, 2, 9, 0), (45, .multianewarray 9 2, 4, 15, 0), (49, .putfield 22, 3, 4, 5), (52, .aload_n 0, 1, 0, 0), (53, .aload_n 1, 1, 1, 0),
  (54, .putfield 25, 3, 4, 0), (57, .aload_n 0, 1, 0, 0), (58, .aload_n 2, 1, 2, 0), (59, .putfield 29, 3, 4, 1), (62, .return_, 1, 0, 0)]
def gc_17 : List gc_O := [
  (0, .aload_n 0, 1, 0, 0), (1, .aload_n 1, 1, 1, 0), (2, .aload_n 0, 1, 0, 0), (3, .getfield 25, 3, 4, 0), (6, .getfield 33, 3, 7, 0), (9, .aload_n 0, 1, 0, 0),
  (10, .getfield 11, 3, 4, 2), (13, .invokevirtual 39, 3, 18, 3), (16, .aload_n 0, 1, 0, 0), (17, .aload_n 2, 1, 2, 0), (18, .iload_n 3, 1, 3, 0), (19, .aload_n 0, 1, 0, 0),
  (20, .getfield 16, 3, 4, 3), (23, .invokevirtual 39, 3, 18, 3), (26, .iconst 0, 1, 0, 0), (27, .istore 4, 2, 4, 0), (29, .iload 4, 2, 4, 0), (31, .aload_n 0, 1, 0, 0),
  (32, .getfield 29, 3, 4, 1), (35, .getfield 43, 3, 9, 12), (38, .if_icmp .gt 38, 3, 76, 0), (41, .iconst 0, 1, 0, 0), (42, .istore 5, 2, 5, 0), (44, .iload 5, 2, 5, 0),
  (46, .aload_n 0, 1, 0, 0), (47, .getfield 29, 3, 4, 1), (50, .getfield 43, 3, 9, 12), (53, .if_icmp .gt 17, 3, 70, 0), (56, .aload_n 0, 1, 0, 0), (57, .iload 4, 2, 4, 0),
  (59, .iload 5, 2, 5, 0), (61, .invokevirtual 48, 3, 19, 2), (64, .iinc 5 1, 3, 1, 0), (67, .goto (-23), 3, 44, 0), (70, .iinc 4 1, 3, 1, 0), (73, .goto (-44), 3, 29, 0),
  (76, .aload_n 0, 1, 0, 0), (77, .invokevirtual 52, 3, 20, 0), (80, .return_, 1, 0, 0)]
def gc_18 : List gc_O := [
  (0, .aload_n 0, 1, 0, 0), (1, .getfield 29, 3, 4, 1), (4, .aload_n 1, 1, 1, 0), (5, .iload_n 2, 1, 2, 0), (6, .invokevirtual 55, 3, 50, 2), (9, .iconst 0, 1, 0, 0),
  (10, .istore 4, 2, 4, 0), (12, .iload 4, 2, 4, 0), (14, .aload_n 0, 1, 0, 0), (15, .getfield 29, 3, 4, 1), (18, .getfield 43, 3, 9, 12), (21, .if_icmp .gt 123, 3, 144, 0),
  (24, .aload_n 0, 1, 0, 0), (25, .getfield 29, 3, 4, 1), (28, .iload 4, 2, 4, 0), (30, .aload_n 0, 1, 0, 0), (31, .getfield 29, 3, 4, 1), (34, .getfield 43, 3, 9, 12),
  (37, .if_icmp .ge 18, 3, 55, 0), (40, .iconst 1, 1, 1, 0), (41, .aload_n 0, 1, 0, 0), (42, .getfield 29, 3, 4, 1), (45, .getfield 59, 3, 9, 11), (48, .iload 4, 2, 4, 0),
  (50, .iadd, 1, 0, 0), (51, .ishl, 1, 0, 0), (52, .goto 4, 3, 56, 0), (55, .iconst 0, 1, 0, 0), (56, .iconst 0, 1, 0, 0), (57, .invokevirtual 62, 3, 53, 2),
  (60, .iconst 0, 1, 0, 0), (61, .istore 5, 2, 5, 0), (63, .iload 5, 2, 5, 0), (65, .aload_n 0, 1, 0, 0), (66, .getfield 29, 3, 4, 1), (69, .getfield 43, 3, 9, 12),
  (72, .if_icmp .ge 66, 3, 138, 0), (75, .iconst 0, 1, 0, 0), (76, .istore 6, 2, 6, 0), (78, .iload 6, 2, 6, 0), (80, .aload_n 0, 1, 0, 0), (81, .getfield 25, 3, 4, 0),
  (84, .getfield 65, 3, 7, 4), (87, .if_icmp .ge 45, 3, 132, 0), (90, .aload_n 3, 1, 3, 0), (91, .iload 4, 2, 4, 0), (93, .aaload, 1, 0, 0), (94, .iload 5, 2, 5, 0),
  (96, .bipush 6, 2, 6, 0), (98, .imul, 1, 0, 0), (99, .iload 6, 2, 6, 0), (101, .iadd, 1, 0, 0), (102, .aload_n 0, 1, 0, 0), (103, .getfield 29, 3, 4, 1),
  (106, .getfield 68, 3, 9, 1), (109, .iload 5, 2, 5, 0), (111, .iconst 1, 1, 1, 0), (112, .iadd, 1, 0, 0), (113, .aaload, 1, 0, 0), (114, .aload_n 0, 1, 0, 0),
  (115, .getfield 25, 3, 4, 0), (118, .getfield 71, 3, 7, 6), (121, .iload 6, 2, 6, 0), (123, .iaload, 1, 0, 0), (124, .iaload, 1, 0, 0), (125, .iastore, 1, 0, 0),
  (126, .iinc 6 1, 3, 1, 0), (129, .goto (-51), 3, 78, 0), (132, .iinc 5 1, 3, 1, 0), (135, .goto (-72), 3, 63, 0), (138, .iinc 4 1, 3, 1, 0), (141, .goto (-129), 3, 12, 0),
  (144, .return_, 1, 0, 0)]
def gc_19 : List gc_O := [
  (0, .iload_n 1, 1, 1, 0), (1, .aload_n 0, 1, 0, 0), (2, .getfield 29, 3, 4, 1), (5, .getfield 43, 3, 9, 12), (8, .if_icmp .ge 14, 3, 22, 0), (11, .aload_n 0, 1, 0, 0),
  (12, .getfield 25, 3, 4, 0), (15, .getfield 75, 3, 7, 2), (18, .ineg, 1, 0, 0), (19, .goto 4, 3, 23, 0), (22, .iconst 0, 1, 0, 0), (23, .istore_n 3, 1, 3, 0),
  (24, .iload_n 2, 1, 2, 0), (25, .aload_n 0, 1, 0, 0), (26, .getfield 29, 3, 4, 1), (29, .getfield 43, 3, 9, 12), (32, .if_icmp .ge 14, 3, 46, 0), (35, .aload_n 0, 1, 0, 0),
  (36, .getfield 25, 3, 4, 0), (39, .getfield 75, 3, 7, 2), (42, .ineg, 1, 0, 0), (43, .goto 4, 3, 47, 0), (46, .iconst 0, 1, 0, 0), (47, .istore 4, 2, 4, 0),
  (49, .iconst 0, 1, 0, 0), (50, .istore 5, 2, 5, 0), (52, .iload 5, 2, 5, 0), (54, .aload_n 0, 1, 0, 0), (55, .getfield 29, 3, 4, 1), (58, .getfield 43, 3, 9, 12),
  (61, .if_icmp .ge 158, 3, 219, 0), (64, .aload_n 0, 1, 0, 0), (65, .getfield 25, 3, 4, 0), (68, .getfield 78, 3, 7, 5), (71, .aload_n 0, 1, 0, 0), (72, .getfield 29, 3, 4, 1),
  (75, .getfield 59, 3, 9, 11), (78, .iload 5, 2, 5, 0), (80, .iadd, 1, 0, 0), (81, .iaload, 1, 0, 0), (82, .iconst 1, 1, 1, 0), (83, .if_icmp .ne 7, 3, 90, 0),
  (86, .iconst 1, 1, 1, 0), (87, .goto 4, 3, 91, 0), (90, .iconst 0, 1, 0, 0), (91, .istore 6, 2, 6, 0), (93, .iconst 0, 1, 0, 0), (94, .istore 7, 2, 7, 0),
  (96, .iload 7, 2, 7, 0), (98, .aload_n 0, 1, 0, 0), (99, .getfield 25, 3, 4, 0), (102, .getfield 65, 3, 7, 4), (105, .if_icmp .ge 108, 3, 213, 0), (108, .aload_n 0, 1, 0, 0),
  (109, .getfield 11, 3, 4, 2), (112, .iload_n 1, 1, 1, 0), (113, .aaload, 1, 0, 0), (114, .iload 5, 2, 5, 0), (116, .bipush 6, 2, 6, 0), (118, .imul, 1, 0, 0),
  (119, .iload 7, 2, 7, 0), (121, .iadd, 1, 0, 0), (122, .iaload, 1, 0, 0), (123, .istore 8, 2, 8, 0), (125, .aload_n 0, 1, 0, 0), (126, .getfield 16, 3, 4, 3),
  (129, .iload_n 2, 1, 2, 0), (130, .aaload, 1, 0, 0), (131, .iload 5, 2, 5, 0), (133, .bipush 6, 2, 6, 0), (135, .imul, 1, 0, 0), (136, .iload 7, 2, 7, 0),
  (138, .iadd, 1, 0, 0), (139, .iaload, 1, 0, 0), (140, .istore 9, 2, 9, 0), (142, .aload_n 0, 1, 0, 0), (143, .getfield 25, 3, 4, 0), (146, .iload 7, 2, 7, 0),
  (148, .iload 8, 2, 8, 0), (150, .iload 9, 2, 9, 0), (152, .invokestatic 81, 3, 1002, 2), (155, .aload_n 0, 1, 0, 0), (156, .getfield 25, 3, 4, 0), (159, .getfield 87, 3, 7, 7),
  (162, .iload 7, 2, 7, 0), (164, .iaload, 1, 0, 0), (165, .if_icmp .lt 7, 3, 172, 0), (168, .iconst 1, 1, 1, 0), (169, .goto 4, 3, 173, 0), (172, .iconst 0, 1, 0, 0),
  (173, .iload 6, 2, 6, 0), (175, .invokevirtual 90, 3, 36, 3), (178, .istore 10, 2, 10, 0), (180, .iload 10, 2, 10, 0), (182, .ifCond .le 20, 3, 202, 0), (185, .iload 9, 2, 9, 0),
  (187, .iload 8, 2, 8, 0), (189, .if_icmp .le 13, 3, 202, 0), (192, .iload 4, 2, 4, 0), (194, .iload 10, 2, 10, 0), (196, .iadd, 1, 0, 0), (197, .istore 4, 2, 4, 0),
  (199, .goto 8, 3, 207, 0), (202, .iload_n 3, 1, 3, 0), (203, .iload 10, 2, 10, 0), (205, .iadd, 1, 0, 0), (206, .istore_n 3, 1, 3, 0), (207, .iinc 7 1, 3, 1, 0),
  (210, .goto (-114), 3, 96, 0), (213, .iinc 5 1, 3, 1, 0), (216, .goto (-164), 3, 52, 0), (219, .aload_n 0, 1, 0, 0), (220, .getfield 19, 3, 4, 4), (223, .iload_n 1, 1, 1, 0),
  (224, .aaload, 1, 0, 0), (225, .iload_n 2, 1, 2, 0), (226, .iload_n 3, 1, 3, 0), (227, .iastore, 1, 0, 0), (228, .aload_n 0, 1, 0, 0), (229, .getfield 22, 3, 4, 5),
  (232, .iload_n 1, 1, 1, 0), (233, .aaload, 1, 0, 0), (234, .iload_n 2, 1, 2, 0), (235, .iload 4, 2, 4, 0), (237, .iastore, 1, 0, 0), (238, .return_, 1, 0, 0)]
def gc_20 : List gc_O := [
  (0, .aload_n 0, 1, 0, 0), (1, .iconst 0, 1, 0, 0), (2, .putfield 94, 3, 4, 6), (5, .aload_n 0, 1, 0, 0), (6, .bipush (-99), 2, 99, 1), (8, .putfield 97, 3, 4, 7),
  (11, .iconst 0, 1, 0, 0), (12, .istore_n 1, 1, 1, 0), (13, .iload_n 1, 1, 1, 0), (14, .aload_n 0, 1, 0, 0), (15, .getfield 29, 3, 4, 1), (18, .getfield 43, 3, 9, 12),
  (21, .if_icmp .gt 73, 3, 94, 0), (24, .iconst 0, 1, 0, 0), (25, .istore_n 2, 1, 2, 0), (26, .iload_n 2, 1, 2, 0), (27, .aload_n 0, 1, 0, 0), (28, .getfield 29, 3, 4, 1),
  (31, .getfield 43, 3, 9, 12), (34, .if_icmp .gt 54, 3, 88, 0), (37, .aload_n 0, 1, 0, 0), (38, .iload_n 1, 1, 1, 0), (39, .iload_n 2, 1, 2, 0), (40, .invokevirtual 100, 3, 21, 2),
  (43, .ifCond .eq 39, 3, 82, 0), (46, .aload_n 0, 1, 0, 0), (47, .dup, 1, 0, 0), (48, .getfield 94, 3, 4, 6), (51, .iconst 1, 1, 1, 0), (52, .iadd, 1, 0, 0),
  (53, .putfield 94, 3, 4, 6), (56, .aload_n 0, 1, 0, 0), (57, .getfield 94, 3, 4, 6), (60, .iconst 1, 1, 1, 0), (61, .if_icmp .ne 21, 3, 82, 0), (64, .aload_n 0, 1, 0, 0),
  (65, .bipush 10, 2, 10, 0), (67, .aload_n 0, 1, 0, 0), (68, .iload_n 1, 1, 1, 0), (69, .invokevirtual 104, 3, 22, 1), (72, .imul, 1, 0, 0), (73, .aload_n 0, 1, 0, 0),
  (74, .iload_n 2, 1, 2, 0), (75, .invokevirtual 104, 3, 22, 1), (78, .iadd, 1, 0, 0), (79, .putfield 97, 3, 4, 7), (82, .iinc 2 1, 3, 1, 0), (85, .goto (-59), 3, 26, 0),
  (88, .iinc 1 1, 3, 1, 0), (91, .goto (-78), 3, 13, 0), (94, .return_, 1, 0, 0)]
def gc_21 : List gc_O := [
  (0, .iconst 0, 1, 0, 0), (1, .istore_n 3, 1, 3, 0), (2, .iload_n 3, 1, 3, 0), (3, .aload_n 0, 1, 0, 0), (4, .getfield 29, 3, 4, 1), (7, .getfield 43, 3, 9, 12),
  (10, .if_icmp .gt 49, 3, 59, 0), (13, .aload_n 0, 1, 0, 0), (14, .getfield 19, 3, 4, 4), (17, .iload_n 3, 1, 3, 0), (18, .aaload, 1, 0, 0), (19, .iload_n 2, 1, 2, 0),
  (20, .iaload, 1, 0, 0), (21, .aload_n 0, 1, 0, 0), (22, .getfield 19, 3, 4, 4), (25, .iload_n 1, 1, 1, 0), (26, .aaload, 1, 0, 0), (27, .iload_n 2, 1, 2, 0),
  (28, .iaload, 1, 0, 0), (29, .if_icmp .gt 22, 3, 51, 0), (32, .aload_n 0, 1, 0, 0), (33, .getfield 22, 3, 4, 5), (36, .iload_n 1, 1, 1, 0), (37, .aaload, 1, 0, 0),
  (38, .iload_n 3, 1, 3, 0), (39, .iaload, 1, 0, 0), (40, .aload_n 0, 1, 0, 0), (41, .getfield 22, 3, 4, 5), (44, .iload_n 1, 1, 1, 0), (45, .aaload, 1, 0, 0),
  (46, .iload_n 2, 1, 2, 0), (47, .iaload, 1, 0, 0), (48, .if_icmp .le 5, 3, 53, 0), (51, .iconst 0, 1, 0, 0), (52, .ireturn, 1, 0, 0), (53, .iinc 3 1, 3, 1, 0),
  (56, .goto (-54), 3, 2, 0), (59, .iconst 1, 1, 1, 0), (60, .ireturn, 1, 0, 0)]
def gc_22 : List gc_O := [
  (0, .iload_n 1, 1, 1, 0), (1, .aload_n 0, 1, 0, 0), (2, .getfield 29, 3, 4, 1), (5, .getfield 43, 3, 9, 12), (8, .if_icmp .ge 15, 3, 23, 0), (11, .aload_n 0, 1, 0, 0),
  (12, .getfield 29, 3, 4, 1), (15, .getfield 59, 3, 9, 11), (18, .iload_n 1, 1, 1, 0), (19, .iadd, 1, 0, 0), (20, .goto 5, 3, 25, 0), (23, .bipush 9, 2, 9, 0),
  (25, .ireturn, 1, 0, 0)]
def gc_23 : List gc_O := [
  (0, .aload_n 0, 1, 0, 0), (1, .invokespecial 3, 3, 1000, 0), (4, .aload_n 0, 1, 0, 0), (5, .bipush 6, 2, 6, 0), (7, .newarray .int, 2, 12, 0), (9, .putfield 9, 3, 5, 0),
  (12, .aload_n 0, 1, 0, 0), (13, .bipush 6, 2, 6, 0), (15, .newarray .int, 2, 12, 0), (17, .putfield 15, 3, 5, 1), (20, .aload_n 0, 1, 0, 0), (21, .bipush 6, 2, 6, 0),
  (23, .newarray .boolean, 2, 13, 0), (25, .putfield 18, 3, 5, 2), (28, .return_, 1, 0, 0)]
def gc_24 : List gc_O := [
  (0, .aload_n 0, 1, 0, 0), (1, .getfield 22, 3, 5, 3), (4, .bipush 6, 2, 6, 0), (6, .if_icmp .lt 5, 3, 11, 0), (9, .iconst 0, 1, 0, 0), (10, .ireturn, 1, 0, 0),
  (11, .aload_n 0, 1, 0, 0), (12, .getfield 9, 3, 5, 0), (15, .aload_n 0, 1, 0, 0), (16, .getfield 22, 3, 5, 3), (19, .iload_n 1, 1, 1, 0), (20, .iastore, 1, 0, 0),
  (21, .aload_n 0, 1, 0, 0), (22, .getfield 15, 3, 5, 1), (25, .aload_n 0, 1, 0, 0), (26, .getfield 22, 3, 5, 3), (29, .iload_n 2, 1, 2, 0), (30, .iastore, 1, 0, 0),
  (31, .aload_n 0, 1, 0, 0), (32, .getfield 18, 3, 5, 2), (35, .aload_n 0, 1, 0, 0), (36, .getfield 22, 3, 5, 3), (39, .iload_n 3, 1, 3, 0), (40, .bastore, 1, 0, 0),
  (41, .aload_n 0, 1, 0, 0), (42, .dup, 1, 0, 0), (43, .getfield 22, 3, 5, 3), (46, .iconst 1, 1, 1, 0), (47, .iadd, 1, 0, 0), (48, .putfield 22, 3, 5, 3),
  (51, .iconst 1, 1, 1, 0), (52, .ireturn, 1, 0, 0)]
def gc_25 : List gc_O := [
  (0, .aload_n 0, 1, 0, 0), (1, .iconst 0, 1, 0, 0), (2, .putfield 26, 3, 5, 4), (5, .aload_n 0, 1, 0, 0), (6, .aload_n 2, 1, 2, 0), (7, .invokevirtual 29, 3, 51, 0),
  (10, .iconst 1, 1, 1, 0), (11, .isub, 1, 0, 0), (12, .putfield 35, 3, 5, 5), (15, .aload_n 0, 1, 0, 0), (16, .aload_n 0, 1, 0, 0), (17, .getfield 35, 3, 5, 5),
  (20, .putfield 38, 3, 5, 6), (23, .iconst 0, 1, 0, 0), (24, .istore_n 3, 1, 3, 0), (25, .iload_n 3, 1, 3, 0), (26, .aload_n 2, 1, 2, 0), (27, .invokevirtual 29, 3, 51, 0),
  (30, .if_icmp .ge 66, 3, 96, 0), (33, .aload_n 2, 1, 2, 0), (34, .iload_n 3, 1, 3, 0), (35, .invokevirtual 41, 3, 52, 1), (38, .istore 4, 2, 4, 0), (40, .aload_n 2, 1, 2, 0),
  (41, .iload 4, 2, 4, 0), (43, .iconst 0, 1, 0, 0), (44, .invokevirtual 45, 3, 53, 2), (47, .aload_n 0, 1, 0, 0), (48, .aload_n 1, 1, 1, 0), (49, .aload_n 2, 1, 2, 0),
  (50, .invokevirtual 49, 3, 26, 2), (53, .ifCond .eq 37, 3, 90, 0), (56, .aload_n 0, 1, 0, 0), (57, .dup, 1, 0, 0), (58, .getfield 26, 3, 5, 4), (61, .iconst 1, 1, 1, 0),
  (62, .iadd, 1, 0, 0), (63, .putfield 26, 3, 5, 4), (66, .aload_n 0, 1, 0, 0), (67, .dup, 1, 0, 0), (68, .getfield 35, 3, 5, 5), (71, .iload 4, 2, 4, 0),
  (73, .iand, 1, 0, 0), (74, .putfield 35, 3, 5, 5), (77, .aload_n 0, 1, 0, 0), (78, .dup, 1, 0, 0), (79, .getfield 38, 3, 5, 6), (82, .iload 4, 2, 4, 0),
  (84, .iconst (-1), 1, 1, 1), (85, .ixor, 1, 0, 0), (86, .iand, 1, 0, 0), (87, .putfield 38, 3, 5, 6), (90, .iinc 3 1, 3, 1, 0), (93, .goto (-68), 3, 25, 0),
  (96, .return_, 1, 0, 0)]
def gc_26 : List gc_O := [
  (0, .iconst 0, 1, 0, 0), (1, .istore_n 3, 1, 3, 0), (2, .iload_n 3, 1, 3, 0), (3, .aload_n 0, 1, 0, 0), (4, .getfield 22, 3, 5, 3), (7, .if_icmp .ge 80, 3, 87, 0),
  (10, .aload_n 0, 1, 0, 0), (11, .getfield 9, 3, 5, 0), (14, .iload_n 3, 1, 3, 0), (15, .iaload, 1, 0, 0), (16, .aload_n 1, 1, 1, 0), (17, .getfield 53, 3, 7, 4),
  (20, .if_icmp .ge 20, 3, 40, 0), (23, .aload_n 0, 1, 0, 0), (24, .getfield 15, 3, 5, 1), (27, .iload_n 3, 1, 3, 0), (28, .iaload, 1, 0, 0), (29, .aload_n 1, 1, 1, 0),
  (30, .getfield 57, 3, 7, 3), (33, .if_icmp .ge 7, 3, 40, 0), (36, .iconst 1, 1, 1, 0), (37, .goto 4, 3, 41, 0), (40, .iconst 0, 1, 0, 0), (41, .istore 4, 2, 4, 0),
  (43, .iload 4, 2, 4, 0), (45, .ifCond .eq 36, 3, 81, 0), (48, .aload_n 2, 1, 2, 0), (49, .getfield 60, 3, 9, 5), (52, .aload_n 0, 1, 0, 0), (53, .getfield 15, 3, 5, 1),
  (56, .iload_n 3, 1, 3, 0), (57, .iaload, 1, 0, 0), (58, .iconst 1, 1, 1, 0), (59, .iadd, 1, 0, 0), (60, .iaload, 1, 0, 0), (61, .aload_n 0, 1, 0, 0),
  (62, .getfield 9, 3, 5, 0), (65, .iload_n 3, 1, 3, 0), (66, .iaload, 1, 0, 0), (67, .invokestatic 63, 3, 96, 2), (70, .aload_n 0, 1, 0, 0), (71, .getfield 18, 3, 5, 2),
  (74, .iload_n 3, 1, 3, 0), (75, .baload, 1, 0, 0), (76, .if_icmp .eq 5, 3, 81, 0), (79, .iconst 0, 1, 0, 0), (80, .ireturn, 1, 0, 0), (81, .iinc 3 1, 3, 1, 0),
  (84, .goto (-82), 3, 2, 0), (87, .iconst 1, 1, 1, 0), (88, .ireturn, 1, 0, 0)]
def gc_27 : List gc_O := [
  (0, .aload_n 0, 1, 0, 0), (1, .invokespecial 3, 3, 1000, 0), (4, .aload_n 0, 1, 0, 0), (5, .iconst 2, 1, 2, 0), (6, .anewarray 9, 3, 14, 0), (9, .putfield 11, 3, 6, 0),
  (12, .aload_n 0, 1, 0, 0), (13, .iconst 2, 1, 2, 0), (14, .newarray .boolean, 2, 13, 0), (16, .putfield 17, 3, 6, 1), (19, .iconst 0, 1, 0, 0), (20, .istore_n 1, 1, 1, 0),
  (21, .iload_n 1, 1, 1, 0), (22, .iconst 2, 1, 2, 0), (23, .if_icmp .ge 22, 3, 45, 0), (26, .aload_n 0, 1, 0, 0), (27, .getfield 11, 3, 6, 0), (30, .iload_n 1, 1, 1, 0),
  (31, .new 9, 3, 3, 0), (34, .dup, 1, 0, 0), (35, .invokespecial 21, 3, 12, 0), (38, .aastore, 1, 0, 0), (39, .iinc 1 1, 3, 1, 0), (42, .goto (-21), 3, 21, 0),
  (45, .return_, 1, 0, 0)]
def gc_28 : List gc_O := [
  (0, .iconst 0, 1, 0, 0), (1, .istore_n 1, 1, 1, 0), (2, .iload_n 1, 1, 1, 0), (3, .iconst 2, 1, 2, 0), (4, .if_icmp .ge 16, 3, 20, 0), (7, .aload_n 0, 1, 0, 0),
  (8, .getfield 17, 3, 6, 1), (11, .iload_n 1, 1, 1, 0), (12, .iconst 0, 1, 0, 0), (13, .bastore, 1, 0, 0), (14, .iinc 1 1, 3, 1, 0), (17, .goto (-15), 3, 2, 0),
  (20, .return_, 1, 0, 0)]
def gc_29 : List gc_O := [
  (0, .aload_n 0, 1, 0, 0), (1, .getfield 11, 3, 6, 0), (4, .iload_n 1, 1, 1, 0), (5, .aaload, 1, 0, 0), (6, .aload_n 2, 1, 2, 0), (7, .invokevirtual 22, 3, 15, 1),
  (10, .aload_n 0, 1, 0, 0), (11, .getfield 17, 3, 6, 1), (14, .iload_n 1, 1, 1, 0), (15, .iconst 1, 1, 1, 0), (16, .bastore, 1, 0, 0), (17, .return_, 1, 0, 0)]
def gc_30 : List gc_O := [
  (0, .aload_n 0, 1, 0, 0), (1, .getfield 17, 3, 6, 1), (4, .iload_n 1, 1, 1, 0), (5, .baload, 1, 0, 0), (6, .ifCond .eq 13, 3, 19, 0), (9, .aload_n 2, 1, 2, 0),
  (10, .aload_n 0, 1, 0, 0), (11, .getfield 11, 3, 6, 0), (14, .iload_n 1, 1, 1, 0), (15, .aaload, 1, 0, 0), (16, .invokevirtual 22, 3, 15, 1), (19, .aload_n 0, 1, 0, 0),
  (20, .getfield 17, 3, 6, 1), (23, .iload_n 1, 1, 1, 0), (24, .baload, 1, 0, 0), (25, .ireturn, 1, 0, 0)]
def gc_31 : List gc_O := [
  (0, .aload_n 0, 1, 0, 0), (1, .invokespecial 3, 3, 1000, 0), (4, .aload_n 0, 1, 0, 0), (5, .iconst 1, 1, 1, 0), (6, .putfield 9, 3, 7, 1), (9, .aload_n 0, 1, 0, 0),
  (10, .bipush 8, 2, 8, 0), (12, .newarray .int, 2, 12, 0), (14, .putfield 15, 3, 7, 5), (17, .aload_n 0, 1, 0, 0), (18, .bipush 6, 2, 6, 0), (20, .newarray .int, 2, 12, 0),
  (22, .putfield 19, 3, 7, 6), (25, .aload_n 0, 1, 0, 0), (26, .bipush 6, 2, 6, 0), (28, .newarray .int, 2, 12, 0), (30, .putfield 22, 3, 7, 7), (33, .aload_n 0, 1, 0, 0),
  (34, .bipush 6, 2, 6, 0), (36, .newarray .int, 2, 12, 0), (38, .putfield 25, 3, 7, 8), (41, .aload_n 0, 1, 0, 0), (42, .bipush 6, 2, 6, 0), (44, .newarray .int, 2, 12, 0),
  (46, .putfield 28, 3, 7, 9), (49, .return_, 1, 0, 0)]
def gc_32 : List gc_O := [
  (0, .aload_n 0, 1, 0, 0), (1, .aload_n 1, 1, 1, 0), (2, .iconst 1, 1, 1, 0), (3, .invokevirtual 31, 3, 40, 1), (6, .putfield 37, 3, 7, 0), (9, .aload_n 0, 1, 0, 0),
  (10, .aload_n 1, 1, 1, 0), (11, .iconst 2, 1, 2, 0), (12, .invokevirtual 31, 3, 40, 1), (15, .putfield 9, 3, 7, 1), (18, .aload_n 0, 1, 0, 0), (19, .aload_n 1, 1, 1, 0),
  (20, .iconst 3, 1, 3, 0), (21, .invokevirtual 31, 3, 40, 1), (24, .putfield 40, 3, 7, 2), (27, .aload_n 0, 1, 0, 0), (28, .aload_n 1, 1, 1, 0), (29, .invokevirtual 43, 3, 41, 0),
  (32, .putfield 47, 3, 7, 3), (35, .iconst 0, 1, 0, 0), (36, .istore_n 2, 1, 2, 0), (37, .iload_n 2, 1, 2, 0), (38, .aload_n 0, 1, 0, 0), (39, .getfield 47, 3, 7, 3),
  (42, .if_icmp .ge 25, 3, 67, 0), (45, .aload_n 0, 1, 0, 0), (46, .getfield 15, 3, 7, 5), (49, .iload_n 2, 1, 2, 0), (50, .aload_n 1, 1, 1, 0), (51, .iconst 4, 1, 4, 0),
  (52, .iload_n 2, 1, 2, 0), (53, .iadd, 1, 0, 0), (54, .invokevirtual 50, 3, 39, 1), (57, .invokestatic 53, 3, 33, 1), (60, .iastore, 1, 0, 0), (61, .iinc 2 1, 3, 1, 0),
  (64, .goto (-27), 3, 37, 0), (67, .aload_n 0, 1, 0, 0), (68, .aload_n 1, 1, 1, 0), (69, .getfield 56, 3, 8, 1), (72, .iconst 4, 1, 4, 0), (73, .isub, 1, 0, 0),
  (74, .aload_n 0, 1, 0, 0), (75, .getfield 47, 3, 7, 3), (78, .isub, 1, 0, 0), (79, .iconst 5, 1, 5, 0), (80, .idiv, 1, 0, 0), (81, .putfield 59, 3, 7, 4),
  (84, .iconst 0, 1, 0, 0), (85, .istore_n 2, 1, 2, 0), (86, .iload_n 2, 1, 2, 0), (87, .aload_n 0, 1, 0, 0), (88, .getfield 59, 3, 7, 4), (91, .if_icmp .ge 72, 3, 163, 0),
  (94, .iconst 4, 1, 4, 0), (95, .aload_n 0, 1, 0, 0), (96, .getfield 47, 3, 7, 3), (99, .iadd, 1, 0, 0), (100, .iload_n 2, 1, 2, 0), (101, .iconst 5, 1, 5, 0),
  (102, .imul, 1, 0, 0), (103, .iadd, 1, 0, 0), (104, .istore_n 3, 1, 3, 0), (105, .aload_n 0, 1, 0, 0), (106, .getfield 19, 3, 7, 6), (109, .iload_n 2, 1, 2, 0),
  (110, .aload_n 1, 1, 1, 0), (111, .iload_n 3, 1, 3, 0), (112, .iconst 1, 1, 1, 0), (113, .iadd, 1, 0, 0), (114, .invokevirtual 31, 3, 40, 1), (117, .iastore, 1, 0, 0),
  (118, .aload_n 0, 1, 0, 0), (119, .getfield 22, 3, 7, 7), (122, .iload_n 2, 1, 2, 0), (123, .aload_n 1, 1, 1, 0), (124, .iload_n 3, 1, 3, 0), (125, .iconst 2, 1, 2, 0),
  (126, .iadd, 1, 0, 0), (127, .invokevirtual 31, 3, 40, 1), (130, .iastore, 1, 0, 0), (131, .aload_n 0, 1, 0, 0), (132, .getfield 25, 3, 7, 8), (135, .iload_n 2, 1, 2, 0),
  (136, .aload_n 1, 1, 1, 0), (137, .iload_n 3, 1, 3, 0), (138, .iconst 3, 1, 3, 0), (139, .iadd, 1, 0, 0), (140, .invokevirtual 31, 3, 40, 1), (143, .iastore, 1, 0, 0),
  (144, .aload_n 0, 1, 0, 0), (145, .getfield 28, 3, 7, 9), (148, .iload_n 2, 1, 2, 0), (149, .aload_n 1, 1, 1, 0), (150, .iload_n 3, 1, 3, 0), (151, .iconst 4, 1, 4, 0),
  (152, .iadd, 1, 0, 0), (153, .invokevirtual 31, 3, 40, 1), (156, .iastore, 1, 0, 0), (157, .iinc 2 1, 3, 1, 0), (160, .goto (-74), 3, 86, 0), (163, .return_, 1, 0, 0)]
def gc_33 : List gc_O := [
  (0, .iload_n 0, 1, 0, 0), (1, .bipush 69, 2, 69, 0), (3, .if_icmp .ne 5, 3, 8, 0), (6, .iconst 1, 1, 1, 0), (7, .ireturn, 1, 0, 0), (8, .iload_n 0, 1, 0, 0),
  (9, .bipush 87, 2, 87, 0), (11, .if_icmp .ne 7, 3, 18, 0), (14, .iconst (-1), 1, 1, 1), (15, .goto 4, 3, 19, 0), (18, .iconst 0, 1, 0, 0), (19, .ireturn, 1, 0, 0)]
def gc_34 : List gc_O := [
  (0, .iload_n 1, 1, 1, 0), (1, .ifCond .lt 15, 3, 16, 0), (4, .iload_n 1, 1, 1, 0), (5, .aload_n 0, 1, 0, 0), (6, .getfield 59, 3, 7, 4), (9, .if_icmp .ge 7, 3, 16, 0),
  (12, .iconst 1, 1, 1, 0), (13, .goto 4, 3, 17, 0), (16, .iconst 0, 1, 0, 0), (17, .ireturn, 1, 0, 0)]
def gc_35 : List gc_O := [
  (0, .iconst 0, 1, 0, 0), (1, .istore_n 2, 1, 2, 0), (2, .iconst 0, 1, 0, 0), (3, .istore_n 3, 1, 3, 0), (4, .iload_n 3, 1, 3, 0), (5, .aload_n 0, 1, 0, 0),
  (6, .getfield 59, 3, 7, 4), (9, .if_icmp .ge 32, 3, 41, 0), (12, .aload_n 1, 1, 1, 0), (13, .aload_n 0, 1, 0, 0), (14, .getfield 19, 3, 7, 6), (17, .iload_n 3, 1, 3, 0),
  (18, .iaload, 1, 0, 0), (19, .iaload, 1, 0, 0), (20, .aload_n 0, 1, 0, 0), (21, .getfield 22, 3, 7, 7), (24, .iload_n 3, 1, 3, 0), (25, .iaload, 1, 0, 0),
  (26, .if_icmp .lt 9, 3, 35, 0), (29, .iload_n 2, 1, 2, 0), (30, .iconst 1, 1, 1, 0), (31, .iload_n 3, 1, 3, 0), (32, .ishl, 1, 0, 0), (33, .ior, 1, 0, 0),
  (34, .istore_n 2, 1, 2, 0), (35, .iinc 3 1, 3, 1, 0), (38, .goto (-34), 3, 4, 0), (41, .iload_n 2, 1, 2, 0), (42, .ireturn, 1, 0, 0)]
def gc_36 : List gc_O := [
  (0, .aload_n 0, 1, 0, 0), (1, .getfield 28, 3, 7, 9), (4, .iload_n 1, 1, 1, 0), (5, .iaload, 1, 0, 0), (6, .tableswitch 76 0 2 #[26, 41, 57], 26, 0, 0), (32, .iload_n 2, 1, 2, 0),
  (33, .ifCond .eq 12, 3, 45, 0), (36, .aload_n 0, 1, 0, 0), (37, .getfield 25, 3, 7, 8), (40, .iload_n 1, 1, 1, 0), (41, .iaload, 1, 0, 0), (42, .goto 4, 3, 46, 0),
  (45, .iconst 0, 1, 0, 0), (46, .ireturn, 1, 0, 0), (47, .iload_n 2, 1, 2, 0), (48, .ifCond .eq 7, 3, 55, 0), (51, .iconst 0, 1, 0, 0), (52, .goto 10, 3, 62, 0),
  (55, .aload_n 0, 1, 0, 0), (56, .getfield 25, 3, 7, 8), (59, .iload_n 1, 1, 1, 0), (60, .iaload, 1, 0, 0), (61, .ineg, 1, 0, 0), (62, .ireturn, 1, 0, 0),
  (63, .iload_n 2, 1, 2, 0), (64, .ifCond .eq 16, 3, 80, 0), (67, .iload_n 3, 1, 3, 0), (68, .ifCond .eq 12, 3, 80, 0), (71, .aload_n 0, 1, 0, 0), (72, .getfield 25, 3, 7, 8),
  (75, .iload_n 1, 1, 1, 0), (76, .iaload, 1, 0, 0), (77, .goto 4, 3, 81, 0), (80, .iconst 0, 1, 0, 0), (81, .ireturn, 1, 0, 0), (82, .iload_n 2, 1, 2, 0),
  (83, .ifCond .eq 13, 3, 96, 0), (86, .aload_n 0, 1, 0, 0), (87, .getfield 25, 3, 7, 8), (90, .iload_n 1, 1, 1, 0), (91, .iaload, 1, 0, 0), (92, .ineg, 1, 0, 0),
  (93, .goto 4, 3, 97, 0), (96, .iconst 0, 1, 0, 0), (97, .ireturn, 1, 0, 0)]
def gc_37 : List gc_O := [
  (0, .aload_n 0, 1, 0, 0), (1, .invokespecial 3, 3, 1000, 0), (4, .aload_n 0, 1, 0, 0), (5, .bipush 48, 2, 48, 0), (7, .newarray .int, 2, 12, 0), (9, .putfield 9, 3, 8, 0),
  (12, .return_, 1, 0, 0)]
def gc_38 : List gc_O := [
  (0, .aload_n 0, 1, 0, 0), (1, .getfield 15, 3, 8, 1), (4, .bipush 48, 2, 48, 0), (6, .if_icmp .lt 5, 3, 11, 0), (9, .iconst 0, 1, 0, 0), (10, .ireturn, 1, 0, 0),
  (11, .aload_n 0, 1, 0, 0), (12, .getfield 9, 3, 8, 0), (15, .aload_n 0, 1, 0, 0), (16, .getfield 15, 3, 8, 1), (19, .iload_n 1, 1, 1, 0), (20, .iastore, 1, 0, 0),
  (21, .aload_n 0, 1, 0, 0), (22, .dup, 1, 0, 0), (23, .getfield 15, 3, 8, 1), (26, .iconst 1, 1, 1, 0), (27, .iadd, 1, 0, 0), (28, .putfield 15, 3, 8, 1),
  (31, .iconst 1, 1, 1, 0), (32, .ireturn, 1, 0, 0)]
def gc_39 : List gc_O := [
  (0, .iload_n 1, 1, 1, 0), (1, .ifCond .lt 20, 3, 21, 0), (4, .iload_n 1, 1, 1, 0), (5, .aload_n 0, 1, 0, 0), (6, .getfield 15, 3, 8, 1), (9, .if_icmp .ge 12, 3, 21, 0),
  (12, .aload_n 0, 1, 0, 0), (13, .getfield 9, 3, 8, 0), (16, .iload_n 1, 1, 1, 0), (17, .iaload, 1, 0, 0), (18, .goto 4, 3, 22, 0), (21, .iconst 0, 1, 0, 0),
  (22, .ireturn, 1, 0, 0)]
def gc_40 : List gc_O := [
  (0, .aload_n 0, 1, 0, 0), (1, .iload_n 1, 1, 1, 0), (2, .invokevirtual 19, 3, 39, 1), (5, .bipush 48, 2, 48, 0), (7, .isub, 1, 0, 0), (8, .ireturn, 1, 0, 0)]
def gc_41 : List gc_O := [
  (0, .iconst 0, 1, 0, 0), (1, .istore_n 1, 1, 1, 0), (2, .iload_n 1, 1, 1, 0), (3, .bipush 8, 2, 8, 0), (5, .if_icmp .ge 22, 3, 27, 0), (8, .aload_n 0, 1, 0, 0),
  (9, .iconst 4, 1, 4, 0), (10, .iload_n 1, 1, 1, 0), (11, .iadd, 1, 0, 0), (12, .invokevirtual 19, 3, 39, 1), (15, .invokestatic 23, 3, 48, 1), (18, .ifCond .eq 9, 3, 27, 0),
  (21, .iinc 1 1, 3, 1, 0), (24, .goto (-22), 3, 2, 0), (27, .iload_n 1, 1, 1, 0), (28, .ireturn, 1, 0, 0)]
def gc_42 : List gc_O := [
  (0, .aload_n 0, 1, 0, 0), (1, .invokevirtual 27, 3, 41, 0), (4, .istore_n 1, 1, 1, 0), (5, .iconst 0, 1, 0, 0), (6, .istore_n 2, 1, 2, 0), (7, .iload_n 2, 1, 2, 0),
  (8, .aload_n 0, 1, 0, 0), (9, .getfield 15, 3, 8, 1), (12, .if_icmp .ge 20, 3, 32, 0), (15, .aload_n 0, 1, 0, 0), (16, .iload_n 2, 1, 2, 0), (17, .iload_n 1, 1, 1, 0),
  (18, .invokevirtual 31, 3, 44, 2), (21, .ifCond .ne 5, 3, 26, 0), (24, .iload_n 2, 1, 2, 0), (25, .ireturn, 1, 0, 0), (26, .iinc 2 1, 3, 1, 0), (29, .goto (-22), 3, 7, 0),
  (32, .aload_n 0, 1, 0, 0), (33, .iload_n 1, 1, 1, 0), (34, .invokevirtual 35, 3, 43, 1), (37, .ifCond .eq 8, 3, 45, 0), (40, .bipush (-99), 2, 99, 1), (42, .goto 7, 3, 49, 0),
  (45, .aload_n 0, 1, 0, 0), (46, .getfield 15, 3, 8, 1), (49, .ireturn, 1, 0, 0)]
def gc_43 : List gc_O := [
  (0, .aload_n 0, 1, 0, 0), (1, .getfield 15, 3, 8, 1), (4, .iconst 4, 1, 4, 0), (5, .if_icmp .lt 20, 3, 25, 0), (8, .aload_n 0, 1, 0, 0), (9, .getfield 15, 3, 8, 1),
  (12, .iconst 4, 1, 4, 0), (13, .isub, 1, 0, 0), (14, .iload_n 1, 1, 1, 0), (15, .isub, 1, 0, 0), (16, .iconst 5, 1, 5, 0), (17, .irem, 1, 0, 0),
  (18, .ifCond .ne 7, 3, 25, 0), (21, .iconst 1, 1, 1, 0), (22, .goto 4, 3, 26, 0), (25, .iconst 0, 1, 0, 0), (26, .ireturn, 1, 0, 0)]
def gc_44 : List gc_O := [
  (0, .iload_n 1, 1, 1, 0), (1, .iconst 4, 1, 4, 0), (2, .if_icmp .ge 9, 3, 11, 0), (5, .aload_n 0, 1, 0, 0), (6, .iload_n 1, 1, 1, 0), (7, .invokevirtual 38, 3, 45, 1),
  (10, .ireturn, 1, 0, 0), (11, .iload_n 1, 1, 1, 0), (12, .iconst 4, 1, 4, 0), (13, .isub, 1, 0, 0), (14, .iload_n 2, 1, 2, 0), (15, .isub, 1, 0, 0),
  (16, .istore_n 3, 1, 3, 0), (17, .iload_n 3, 1, 3, 0), (18, .ifCond .lt 20, 3, 38, 0), (21, .iload_n 3, 1, 3, 0), (22, .bipush 30, 2, 30, 0), (24, .if_icmp .ge 18, 3, 42, 0),
  (27, .aload_n 0, 1, 0, 0), (28, .iload_n 1, 1, 1, 0), (29, .iload_n 3, 1, 3, 0), (30, .iconst 5, 1, 5, 0), (31, .irem, 1, 0, 0), (32, .invokevirtual 41, 3, 46, 2),
  (35, .ifCond .eq 7, 3, 42, 0), (38, .iconst 1, 1, 1, 0), (39, .goto 4, 3, 43, 0), (42, .iconst 0, 1, 0, 0), (43, .ireturn, 1, 0, 0)]
def gc_45 : List gc_O := [
  (0, .iload_n 1, 1, 1, 0), (1, .ifCond .ne 19, 3, 20, 0), (4, .aload_n 0, 1, 0, 0), (5, .iload_n 1, 1, 1, 0), (6, .invokevirtual 19, 3, 39, 1), (9, .bipush 83, 2, 83, 0),
  (11, .if_icmp .ne 7, 3, 18, 0), (14, .iconst 1, 1, 1, 0), (15, .goto 4, 3, 19, 0), (18, .iconst 0, 1, 0, 0), (19, .ireturn, 1, 0, 0), (20, .aload_n 0, 1, 0, 0),
  (21, .iload_n 1, 1, 1, 0), (22, .iload_n 1, 1, 1, 0), (23, .iconst 2, 1, 2, 0), (24, .if_icmp .ne 7, 3, 31, 0), (27, .iconst 1, 1, 1, 0), (28, .goto 4, 3, 32, 0),
  (31, .iconst 0, 1, 0, 0), (32, .bipush 9, 2, 9, 0), (34, .invokevirtual 44, 3, 47, 3), (37, .ireturn, 1, 0, 0)]
def gc_46 : List gc_O := [
  (0, .iload_n 2, 1, 2, 0), (1, .ifCond .ne 19, 3, 20, 0), (4, .aload_n 0, 1, 0, 0), (5, .iload_n 1, 1, 1, 0), (6, .invokevirtual 19, 3, 39, 1), (9, .bipush 78, 2, 78, 0),
  (11, .if_icmp .ne 7, 3, 18, 0), (14, .iconst 1, 1, 1, 0), (15, .goto 4, 3, 19, 0), (18, .iconst 0, 1, 0, 0), (19, .ireturn, 1, 0, 0), (20, .aload_n 0, 1, 0, 0),
  (21, .iload_n 1, 1, 1, 0), (22, .iload_n 2, 1, 2, 0), (23, .iconst 2, 1, 2, 0), (24, .if_icmp .ne 7, 3, 31, 0), (27, .iconst 1, 1, 1, 0), (28, .goto 4, 3, 32, 0),
  (31, .iconst 0, 1, 0, 0), (32, .iload_n 2, 1, 2, 0), (33, .iconst 4, 1, 4, 0), (34, .if_icmp .ne 7, 3, 41, 0), (37, .iconst 3, 1, 3, 0), (38, .goto 5, 3, 43, 0),
  (41, .bipush 9, 2, 9, 0), (43, .invokevirtual 44, 3, 47, 3), (46, .ireturn, 1, 0, 0)]
def gc_47 : List gc_O := [
  (0, .aload_n 0, 1, 0, 0), (1, .iload_n 1, 1, 1, 0), (2, .invokevirtual 48, 3, 40, 1), (5, .iload_n 2, 1, 2, 0), (6, .if_icmp .lt 16, 3, 22, 0), (9, .aload_n 0, 1, 0, 0),
  (10, .iload_n 1, 1, 1, 0), (11, .invokevirtual 48, 3, 40, 1), (14, .iload_n 3, 1, 3, 0), (15, .if_icmp .gt 7, 3, 22, 0), (18, .iconst 1, 1, 1, 0), (19, .goto 4, 3, 23, 0),
  (22, .iconst 0, 1, 0, 0), (23, .ireturn, 1, 0, 0)]
def gc_48 : List gc_O := [
  (0, .iload_n 0, 1, 0, 0), (1, .bipush 69, 2, 69, 0), (3, .if_icmp .eq 15, 3, 18, 0), (6, .iload_n 0, 1, 0, 0), (7, .bipush 87, 2, 87, 0), (9, .if_icmp .eq 9, 3, 18, 0),
  (12, .iload_n 0, 1, 0, 0), (13, .bipush 45, 2, 45, 0), (15, .if_icmp .ne 7, 3, 22, 0), (18, .iconst 1, 1, 1, 0), (19, .goto 4, 3, 23, 0), (22, .iconst 0, 1, 0, 0),
  (23, .ireturn, 1, 0, 0)]
def gc_49 : List gc_O := [
  (0, .aload_n 0, 1, 0, 0), (1, .invokespecial 3, 3, 1000, 0), (4, .aload_n 0, 1, 0, 0), (5, .bipush 9, 2, 9, 0), (7, .bipush 10, 2, 10, 0), (9, .multianewarray 9 2, 4, 15, 0),
  (13, .putfield 11, 3, 9, 1), (16, .aload_n 0, 1, 0, 0), (17, .bipush 9, 2, 9, 0), (19, .bipush 6, 2, 6, 0), (21, .multianewarray 9 2, 4, 15, 0), (25, .putfield 16, 3, 9, 2),
  (28, .aload_n 0, 1, 0, 0), (29, .bipush 9, 2, 9, 0), (31, .newarray .int, 2, 12, 0), (33, .putfield 19, 3, 9, 3), (36, .aload_n 0, 1, 0, 0), (37, .bipush 9, 2, 9, 0),
  (39, .newarray .int, 2, 12, 0), (41, .putfield 23, 3, 9, 4), (44, .aload_n 0, 1, 0, 0), (45, .bipush 9, 2, 9, 0), (47, .newarray .int, 2, 12, 0), (49, .putfield 26, 3, 9, 5),
  (52, .aload_n 0, 1, 0, 0), (53, .aload_n 1, 1, 1, 0), (54, .putfield 29, 3, 9, 0), (57, .return_, 1, 0, 0)]
def gc_50 : List gc_O := [
  (0, .aload_n 1, 1, 1, 0), (1, .getfield 33, 3, 3, 0), (4, .iconst 0, 1, 0, 0), (5, .aload_n 0, 1, 0, 0), (6, .getfield 11, 3, 9, 1), (9, .iconst 0, 1, 0, 0),
  (10, .aaload, 1, 0, 0), (11, .iconst 0, 1, 0, 0), (12, .bipush 10, 2, 10, 0), (14, .invokestatic 37, 3, 1001, 5), (17, .aload_n 0, 1, 0, 0), (18, .aload_n 1, 1, 1, 0),
  (19, .getfield 43, 3, 3, 1), (22, .putfield 47, 3, 9, 6), (25, .aload_n 0, 1, 0, 0), (26, .iload_n 2, 1, 2, 0), (27, .putfield 48, 3, 9, 7), (30, .aload_n 0, 1, 0, 0),
  (31, .aload_n 1, 1, 1, 0), (32, .getfield 51, 3, 3, 3), (35, .putfield 54, 3, 9, 11), (38, .aload_n 0, 1, 0, 0), (39, .aload_n 0, 1, 0, 0), (40, .getfield 29, 3, 9, 0),
  (43, .getfield 57, 3, 7, 3), (46, .aload_n 1, 1, 1, 0), (47, .getfield 51, 3, 3, 3), (50, .isub, 1, 0, 0), (51, .putfield 62, 3, 9, 12), (54, .aload_n 0, 1, 0, 0),
  (55, .iconst 0, 1, 0, 0), (56, .putfield 65, 3, 9, 10), (59, .return_, 1, 0, 0)]
def gc_51 : List gc_O := [
  (0, .iconst 1, 1, 1, 0), (1, .aload_n 0, 1, 0, 0), (2, .getfield 62, 3, 9, 12), (5, .ishl, 1, 0, 0), (6, .ireturn, 1, 0, 0)]
def gc_52 : List gc_O := [
  (0, .iconst 0, 1, 0, 0), (1, .istore_n 2, 1, 2, 0), (2, .iconst 0, 1, 0, 0), (3, .istore_n 3, 1, 3, 0), (4, .iload_n 3, 1, 3, 0), (5, .aload_n 0, 1, 0, 0),
  (6, .getfield 62, 3, 9, 12), (9, .if_icmp .ge 35, 3, 44, 0), (12, .iload_n 1, 1, 1, 0), (13, .iload_n 3, 1, 3, 0), (14, .invokestatic 68, 3, 96, 2), (17, .ifCond .eq 21, 3, 38, 0),
  (20, .iload_n 2, 1, 2, 0), (21, .iconst 1, 1, 1, 0), (22, .aload_n 0, 1, 0, 0), (23, .getfield 54, 3, 9, 11), (26, .aload_n 0, 1, 0, 0), (27, .getfield 62, 3, 9, 12),
  (30, .iadd, 1, 0, 0), (31, .iconst 1, 1, 1, 0), (32, .isub, 1, 0, 0), (33, .iload_n 3, 1, 3, 0), (34, .isub, 1, 0, 0), (35, .ishl, 1, 0, 0),
  (36, .ior, 1, 0, 0), (37, .istore_n 2, 1, 2, 0), (38, .iinc 3 1, 3, 1, 0), (41, .goto (-37), 3, 4, 0), (44, .iload_n 2, 1, 2, 0), (45, .ireturn, 1, 0, 0)]
def gc_53 : List gc_O := [
  (0, .iload_n 1, 1, 1, 0), (1, .aload_n 0, 1, 0, 0), (2, .getfield 72, 3, 9, 8), (5, .ixor, 1, 0, 0), (6, .iload_n 2, 1, 2, 0), (7, .aload_n 0, 1, 0, 0),
  (8, .getfield 75, 3, 9, 9), (11, .ixor, 1, 0, 0), (12, .ior, 1, 0, 0), (13, .istore_n 3, 1, 3, 0), (14, .iconst 0, 1, 0, 0), (15, .istore 4, 2, 4, 0),
  (17, .iload 4, 2, 4, 0), (19, .aload_n 0, 1, 0, 0), (20, .getfield 65, 3, 9, 10), (23, .if_icmp .ge 23, 3, 46, 0), (26, .iload_n 3, 1, 3, 0), (27, .aload_n 0, 1, 0, 0),
  (28, .getfield 54, 3, 9, 11), (31, .iload 4, 2, 4, 0), (33, .iadd, 1, 0, 0), (34, .invokestatic 68, 3, 96, 2), (37, .ifCond .ne 9, 3, 46, 0), (40, .iinc 4 1, 3, 1, 0),
  (43, .goto (-26), 3, 17, 0), (46, .aload_n 0, 1, 0, 0), (47, .iload_n 1, 1, 1, 0), (48, .putfield 72, 3, 9, 8), (51, .aload_n 0, 1, 0, 0), (52, .iload_n 2, 1, 2, 0),
  (53, .putfield 75, 3, 9, 9), (56, .iload 4, 2, 4, 0), (58, .istore 5, 2, 5, 0), (60, .iload 5, 2, 5, 0), (62, .aload_n 0, 1, 0, 0), (63, .getfield 62, 3, 9, 12),
  (66, .if_icmp .ge 15, 3, 81, 0), (69, .aload_n 0, 1, 0, 0), (70, .iload 5, 2, 5, 0), (72, .invokevirtual 78, 3, 54, 1), (75, .iinc 5 1, 3, 1, 0), (78, .goto (-18), 3, 60, 0),
  (81, .aload_n 0, 1, 0, 0), (82, .aload_n 0, 1, 0, 0), (83, .getfield 62, 3, 9, 12), (86, .putfield 65, 3, 9, 10), (89, .return_, 1, 0, 0)]
def gc_54 : List gc_O := [
  (0, .aload_n 0, 1, 0, 0), (1, .getfield 54, 3, 9, 11), (4, .iload_n 1, 1, 1, 0), (5, .iadd, 1, 0, 0), (6, .istore_n 2, 1, 2, 0), (7, .aload_n 0, 1, 0, 0),
  (8, .getfield 75, 3, 9, 9), (11, .iload_n 2, 1, 2, 0), (12, .invokestatic 68, 3, 96, 2), (15, .ifCond .eq 16, 3, 31, 0), (18, .aload_n 0, 1, 0, 0), (19, .getfield 29, 3, 9, 0),
  (22, .getfield 82, 3, 7, 5), (25, .iload_n 2, 1, 2, 0), (26, .iaload, 1, 0, 0), (27, .ineg, 1, 0, 0), (28, .goto 12, 3, 40, 0), (31, .aload_n 0, 1, 0, 0),
  (32, .getfield 29, 3, 9, 0), (35, .getfield 82, 3, 7, 5), (38, .iload_n 2, 1, 2, 0), (39, .iaload, 1, 0, 0), (40, .istore_n 3, 1, 3, 0), (41, .aload_n 0, 1, 0, 0),
  (42, .getfield 72, 3, 9, 8), (45, .iload_n 2, 1, 2, 0), (46, .invokestatic 68, 3, 96, 2), (49, .istore 4, 2, 4, 0), (51, .aload_n 0, 1, 0, 0), (52, .getfield 11, 3, 9, 1),
  (55, .iload_n 1, 1, 1, 0), (56, .iconst 1, 1, 1, 0), (57, .iadd, 1, 0, 0), (58, .aaload, 1, 0, 0), (59, .astore 5, 2, 5, 0), (61, .aload_n 0, 1, 0, 0),
  (62, .getfield 11, 3, 9, 1), (65, .iload_n 1, 1, 1, 0), (66, .aaload, 1, 0, 0), (67, .aload 5, 2, 5, 0), (69, .iload_n 3, 1, 3, 0), (70, .invokestatic 85, 3, 55, 3),
  (73, .iload 4, 2, 4, 0), (75, .ifCond .eq 20, 3, 95, 0), (78, .aload 5, 2, 5, 0), (80, .aload_n 0, 1, 0, 0), (81, .getfield 48, 3, 9, 7), (84, .dup2, 1, 0, 0),
  (85, .iaload, 1, 0, 0), (86, .aload_n 0, 1, 0, 0), (87, .getfield 29, 3, 9, 0), (90, .getfield 89, 3, 7, 1), (93, .iadd, 1, 0, 0), (94, .iastore, 1, 0, 0),
  (95, .aload_n 0, 1, 0, 0), (96, .aload 5, 2, 5, 0), (98, .invokevirtual 92, 3, 56, 1), (101, .aload_n 0, 1, 0, 0), (102, .iload_n 1, 1, 1, 0), (103, .iload 4, 2, 4, 0),
  (105, .iload_n 3, 1, 3, 0), (106, .iconst 1, 1, 1, 0), (107, .if_icmp .ne 7, 3, 114, 0), (110, .iconst 1, 1, 1, 0), (111, .goto 4, 3, 115, 0), (114, .iconst 0, 1, 0, 0),
  (115, .invokevirtual 96, 3, 57, 3), (118, .return_, 1, 0, 0)]
def gc_55 : List gc_O := [
  (0, .iconst 0, 1, 0, 0), (1, .istore_n 3, 1, 3, 0), (2, .iload_n 3, 1, 3, 0), (3, .bipush 10, 2, 10, 0), (5, .if_icmp .ge 52, 3, 57, 0), (8, .iload_n 3, 1, 3, 0),
  (9, .iload_n 2, 1, 2, 0), (10, .isub, 1, 0, 0), (11, .istore 4, 2, 4, 0), (13, .iload 4, 2, 4, 0), (15, .ifCond .lt 17, 3, 32, 0), (18, .iload 4, 2, 4, 0),
  (20, .bipush 10, 2, 10, 0), (22, .if_icmp .ge 10, 3, 32, 0), (25, .aload_n 0, 1, 0, 0), (26, .iload 4, 2, 4, 0), (28, .iaload, 1, 0, 0), (29, .goto 4, 3, 33, 0),
  (32, .iconst 0, 1, 0, 0), (33, .istore 5, 2, 5, 0), (35, .aload_n 1, 1, 1, 0), (36, .iload_n 3, 1, 3, 0), (37, .iload 5, 2, 5, 0), (39, .ifCond .le 10, 3, 49, 0),
  (42, .iload 5, 2, 5, 0), (44, .iconst 1, 1, 1, 0), (45, .isub, 1, 0, 0), (46, .goto 4, 3, 50, 0), (49, .iconst 0, 1, 0, 0), (50, .iastore, 1, 0, 0),
  (51, .iinc 3 1, 3, 1, 0), (54, .goto (-52), 3, 2, 0), (57, .return_, 1, 0, 0)]
def gc_56 : List gc_O := [
  (0, .iconst 0, 1, 0, 0), (1, .istore_n 2, 1, 2, 0), (2, .iload_n 2, 1, 2, 0), (3, .bipush 10, 2, 10, 0), (5, .if_icmp .ge 33, 3, 38, 0), (8, .aload_n 0, 1, 0, 0),
  (9, .getfield 47, 3, 9, 6), (12, .iload_n 2, 1, 2, 0), (13, .ishr, 1, 0, 0), (14, .ifCond .eq 24, 3, 38, 0), (17, .aload_n 0, 1, 0, 0), (18, .getfield 47, 3, 9, 6),
  (21, .iload_n 2, 1, 2, 0), (22, .invokestatic 68, 3, 96, 2), (25, .ifCond .eq 7, 3, 32, 0), (28, .aload_n 1, 1, 1, 0), (29, .iload_n 2, 1, 2, 0), (30, .iconst 0, 1, 0, 0),
  (31, .iastore, 1, 0, 0), (32, .iinc 2 1, 3, 1, 0), (35, .goto (-33), 3, 2, 0), (38, .return_, 1, 0, 0)]
def gc_57 : List gc_O := [
  (0, .aload_n 0, 1, 0, 0), (1, .getfield 29, 3, 9, 0), (4, .aload_n 0, 1, 0, 0), (5, .getfield 11, 3, 9, 1), (8, .iload_n 1, 1, 1, 0), (9, .iconst 1, 1, 1, 0),
  (10, .iadd, 1, 0, 0), (11, .aaload, 1, 0, 0), (12, .invokevirtual 100, 3, 35, 1), (15, .istore 4, 2, 4, 0), (17, .iload_n 2, 1, 2, 0), (18, .ifCond .eq 14, 3, 32, 0),
  (21, .aload_n 0, 1, 0, 0), (22, .getfield 29, 3, 9, 0), (25, .getfield 104, 3, 7, 2), (28, .ineg, 1, 0, 0), (29, .goto 4, 3, 33, 0), (32, .iconst 0, 1, 0, 0),
  (33, .istore 5, 2, 5, 0), (35, .iconst 0, 1, 0, 0), (36, .istore 6, 2, 6, 0), (38, .iload 6, 2, 6, 0), (40, .aload_n 0, 1, 0, 0), (41, .getfield 29, 3, 9, 0),
  (44, .getfield 107, 3, 7, 4), (47, .if_icmp .ge 58, 3, 105, 0), (50, .aload_n 0, 1, 0, 0), (51, .getfield 29, 3, 9, 0), (54, .iload 6, 2, 6, 0), (56, .iload 4, 2, 4, 0),
  (58, .iload 6, 2, 6, 0), (60, .invokestatic 68, 3, 96, 2), (63, .iload_n 3, 1, 3, 0), (64, .invokevirtual 110, 3, 36, 3), (67, .istore 7, 2, 7, 0), (69, .aload_n 0, 1, 0, 0),
  (70, .getfield 16, 3, 9, 2), (73, .iload_n 1, 1, 1, 0), (74, .iconst 1, 1, 1, 0), (75, .iadd, 1, 0, 0), (76, .aaload, 1, 0, 0), (77, .iload 6, 2, 6, 0),
  (79, .aload_n 0, 1, 0, 0), (80, .getfield 16, 3, 9, 2), (83, .iload_n 1, 1, 1, 0), (84, .aaload, 1, 0, 0), (85, .iload 6, 2, 6, 0), (87, .iaload, 1, 0, 0),
  (88, .iload 7, 2, 7, 0), (90, .iadd, 1, 0, 0), (91, .iastore, 1, 0, 0), (92, .iload 5, 2, 5, 0), (94, .iload 7, 2, 7, 0), (96, .iadd, 1, 0, 0),
  (97, .istore 5, 2, 5, 0), (99, .iinc 6 1, 3, 1, 0), (102, .goto (-64), 3, 38, 0), (105, .aload_n 0, 1, 0, 0), (106, .getfield 19, 3, 9, 3), (109, .iload_n 1, 1, 1, 0),
  (110, .iconst 1, 1, 1, 0), (111, .iadd, 1, 0, 0), (112, .aload_n 0, 1, 0, 0), (113, .getfield 19, 3, 9, 3), (116, .iload_n 1, 1, 1, 0), (117, .iaload, 1, 0, 0),
  (118, .iload 5, 2, 5, 0), (120, .iadd, 1, 0, 0), (121, .iastore, 1, 0, 0), (122, .aload_n 0, 1, 0, 0), (123, .getfield 23, 3, 9, 4), (126, .iload_n 1, 1, 1, 0),
  (127, .iconst 1, 1, 1, 0), (128, .iadd, 1, 0, 0), (129, .aload_n 0, 1, 0, 0), (130, .getfield 23, 3, 9, 4), (133, .iload_n 1, 1, 1, 0), (134, .iaload, 1, 0, 0),
  (135, .iload 4, 2, 4, 0), (137, .ior, 1, 0, 0), (138, .iastore, 1, 0, 0), (139, .aload_n 0, 1, 0, 0), (140, .getfield 26, 3, 9, 5), (143, .iload_n 1, 1, 1, 0),
  (144, .iconst 1, 1, 1, 0), (145, .iadd, 1, 0, 0), (146, .iload 4, 2, 4, 0), (148, .iastore, 1, 0, 0), (149, .return_, 1, 0, 0)]
def gc_58 : List gc_O := [
  (0, .aload_n 0, 1, 0, 0), (1, .getfield 19, 3, 9, 3), (4, .aload_n 0, 1, 0, 0), (5, .getfield 62, 3, 9, 12), (8, .iaload, 1, 0, 0), (9, .ireturn, 1, 0, 0)]
def gc_59 : List gc_O := [
  (0, .aload_n 0, 1, 0, 0), (1, .getfield 19, 3, 9, 3), (4, .iload_n 1, 1, 1, 0), (5, .iconst 1, 1, 1, 0), (6, .iadd, 1, 0, 0), (7, .iaload, 1, 0, 0),
  (8, .aload_n 0, 1, 0, 0), (9, .getfield 19, 3, 9, 3), (12, .iload_n 1, 1, 1, 0), (13, .iaload, 1, 0, 0), (14, .isub, 1, 0, 0), (15, .ireturn, 1, 0, 0)]
def gc_60 : List gc_O := [
  (0, .aload_n 0, 1, 0, 0), (1, .getfield 16, 3, 9, 2), (4, .aload_n 0, 1, 0, 0), (5, .getfield 62, 3, 9, 12), (8, .aaload, 1, 0, 0), (9, .iload_n 1, 1, 1, 0),
  (10, .iaload, 1, 0, 0), (11, .ireturn, 1, 0, 0)]
def gc_61 : List gc_O := [
  (0, .aload_n 0, 1, 0, 0), (1, .getfield 23, 3, 9, 4), (4, .aload_n 0, 1, 0, 0), (5, .getfield 62, 3, 9, 12), (8, .iaload, 1, 0, 0), (9, .ireturn, 1, 0, 0)]
def gc_62 : List gc_O := [
  (0, .aload_n 0, 1, 0, 0), (1, .getfield 11, 3, 9, 1), (4, .iconst 1, 1, 1, 0), (5, .aaload, 1, 0, 0), (6, .iconst 0, 1, 0, 0), (7, .aload_n 1, 1, 1, 0),
  (8, .getfield 33, 3, 3, 0), (11, .iconst 0, 1, 0, 0), (12, .bipush 10, 2, 10, 0), (14, .invokestatic 37, 3, 1001, 5), (17, .aload_n 1, 1, 1, 0), (18, .dup, 1, 0, 0),
  (19, .getfield 114, 3, 3, 2), (22, .aload_n 0, 1, 0, 0), (23, .getfield 19, 3, 9, 3), (26, .iconst 1, 1, 1, 0), (27, .iaload, 1, 0, 0), (28, .iadd, 1, 0, 0),
  (29, .putfield 114, 3, 3, 2), (32, .aload_n 1, 1, 1, 0), (33, .dup, 1, 0, 0), (34, .getfield 51, 3, 3, 3), (37, .iconst 1, 1, 1, 0), (38, .iadd, 1, 0, 0),
  (39, .putfield 51, 3, 3, 3), (42, .return_, 1, 0, 0)]
def gc_63 : List gc_O := [
  (0, .aload_n 0, 1, 0, 0), (1, .invokespecial 1, 3, 1000, 0), (4, .aload_n 0, 1, 0, 0), (5, .new 7, 3, 8, 0), (8, .dup, 1, 0, 0), (9, .invokespecial 9, 3, 37, 0),
  (12, .putfield 10, 3, 10, 0), (15, .aload_n 0, 1, 0, 0), (16, .new 16, 3, 7, 0), (19, .dup, 1, 0, 0), (20, .invokespecial 18, 3, 31, 0), (23, .putfield 19, 3, 10, 1),
  (26, .aload_n 0, 1, 0, 0), (27, .new 23, 3, 3, 0), (30, .dup, 1, 0, 0), (31, .invokespecial 25, 3, 12, 0), (34, .putfield 26, 3, 10, 2), (37, .aload_n 0, 1, 0, 0),
  (38, .new 23, 3, 3, 0), (41, .dup, 1, 0, 0), (42, .invokespecial 25, 3, 12, 0), (45, .putfield 30, 3, 10, 3), (48, .aload_n 0, 1, 0, 0), (49, .new 33, 3, 0, 0),
  (52, .dup, 1, 0, 0), (53, .invokespecial 35, 3, 0, 0), (56, .putfield 36, 3, 10, 4), (59, .aload_n 0, 1, 0, 0), (60, .new 40, 3, 6, 0), (63, .dup, 1, 0, 0),
  (64, .invokespecial 42, 3, 27, 0), (67, .putfield 43, 3, 10, 5), (70, .aload_n 0, 1, 0, 0), (71, .new 47, 3, 5, 0), (74, .dup, 1, 0, 0), (75, .invokespecial 49, 3, 23, 0),
  (78, .putfield 50, 3, 10, 6), (81, .aload_n 0, 1, 0, 0), (82, .new 54, 3, 9, 0), (85, .dup, 1, 0, 0), (86, .aload_n 0, 1, 0, 0), (87, .getfield 19, 3, 10, 1),
  (90, .invokespecial 56, 3, 49, 1), (93, .putfield 59, 3, 10, 7), (96, .aload_n 0, 1, 0, 0), (97, .new 63, 3, 1, 0), (100, .dup, 1, 0, 0), (101, .aload_n 0, 1, 0, 0),
  (102, .getfield 59, 3, 10, 7), (105, .invokespecial 65, 3, 4, 1), (108, .putfield 68, 3, 10, 8), (111, .aload_n 0, 1, 0, 0), (112, .new 72, 3, 2, 0), (115, .dup, 1, 0, 0),
  (116, .aload_n 0, 1, 0, 0), (117, .getfield 19, 3, 10, 1), (120, .aload_n 0, 1, 0, 0), (121, .getfield 59, 3, 10, 7), (124, .invokespecial 74, 3, 8, 2), (127, .putfield 77, 3, 10, 9),
  (130, .aload_n 0, 1, 0, 0), (131, .new 81, 3, 4, 0), (134, .dup, 1, 0, 0), (135, .aload_n 0, 1, 0, 0), (136, .getfield 19, 3, 10, 1), (139, .aload_n 0, 1, 0, 0),
  (140, .getfield 59, 3, 10, 7), (143, .invokespecial 83, 3, 16, 2), (146, .putfield 84, 3, 10, 10), (149, .return_, 1, 0, 0)]
def gc_64 : List gc_O := [
  (0, .iload_n 1, 1, 1, 0), (1, .ifCond .lt 10, 3, 11, 0), (4, .iload_n 1, 1, 1, 0), (5, .sipush 255, 3, 255, 0), (8, .if_icmp .le 6, 3, 14, 0), (11, .bipush (-2), 2, 2, 1),
  (13, .ireturn, 1, 0, 0), (14, .aload_n 0, 1, 0, 0), (15, .getfield 10, 3, 10, 0), (18, .iload_n 1, 1, 1, 0), (19, .invokevirtual 88, 3, 38, 1), (22, .ifCond .eq 13, 3, 35, 0),
  (25, .aload_n 0, 1, 0, 0), (26, .getfield 10, 3, 10, 0), (29, .getfield 92, 3, 8, 1), (32, .goto 5, 3, 37, 0), (35, .bipush (-4), 2, 4, 1), (37, .ireturn, 1, 0, 0)]
def gc_65 : List gc_O := [
  (0, .aload_n 0, 1, 0, 0), (1, .getfield 10, 3, 10, 0), (4, .getfield 92, 3, 8, 1), (7, .istore_n 1, 1, 1, 0), (8, .aload_n 0, 1, 0, 0), (9, .getfield 10, 3, 10, 0),
  (12, .iconst 0, 1, 0, 0), (13, .putfield 92, 3, 8, 1), (16, .iload_n 1, 1, 1, 0), (17, .ireturn, 1, 0, 0)]
def gc_66 : List gc_O := [
  (0, .aload_n 0, 1, 0, 0), (1, .getfield 10, 3, 10, 0), (4, .invokevirtual 96, 3, 42, 0), (7, .ireturn, 1, 0, 0)]
def gc_67 : List gc_O := [
  (0, .aload_n 0, 1, 0, 0), (1, .getfield 10, 3, 10, 0), (4, .invokevirtual 96, 3, 42, 0), (7, .bipush (-99), 2, 99, 1), (9, .if_icmp .eq 6, 3, 15, 0), (12, .bipush (-3), 2, 3, 1),
  (14, .ireturn, 1, 0, 0), (15, .aload_n 0, 1, 0, 0), (16, .getfield 19, 3, 10, 1), (19, .aload_n 0, 1, 0, 0), (20, .getfield 10, 3, 10, 0), (23, .invokevirtual 100, 3, 32, 1),
  (26, .aload_n 0, 1, 0, 0), (27, .getfield 26, 3, 10, 2), (30, .invokevirtual 104, 3, 13, 0), (33, .aload_n 0, 1, 0, 0), (34, .getfield 36, 3, 10, 4), (37, .invokevirtual 107, 3, 1, 0),
  (40, .aload_n 0, 1, 0, 0), (41, .getfield 43, 3, 10, 5), (44, .invokevirtual 110, 3, 28, 0), (47, .bipush 10, 2, 10, 0), (49, .aload_n 0, 1, 0, 0), (50, .getfield 19, 3, 10, 1),
  (53, .getfield 111, 3, 7, 3), (56, .imul, 1, 0, 0), (57, .aload_n 0, 1, 0, 0), (58, .getfield 19, 3, 10, 1), (61, .getfield 114, 3, 7, 4), (64, .iadd, 1, 0, 0),
  (65, .ireturn, 1, 0, 0)]
def gc_68 : List gc_O := [
  (0, .iload_n 1, 1, 1, 0), (1, .invokestatic 117, 3, 93, 1), (4, .ifCond .eq 15, 3, 19, 0), (7, .aload_n 0, 1, 0, 0), (8, .getfield 26, 3, 10, 2), (11, .getfield 120, 3, 3, 0),
  (14, .iload_n 1, 1, 1, 0), (15, .iaload, 1, 0, 0), (16, .goto 5, 3, 21, 0), (19, .bipush (-2), 2, 2, 1), (21, .ireturn, 1, 0, 0)]
def gc_69 : List gc_O := [
  (0, .iload_n 1, 1, 1, 0), (1, .ifCond .lt 26, 3, 27, 0), (4, .iload_n 1, 1, 1, 0), (5, .aload_n 0, 1, 0, 0), (6, .getfield 19, 3, 10, 1), (9, .getfield 111, 3, 7, 3),
  (12, .if_icmp .ge 15, 3, 27, 0), (15, .aload_n 0, 1, 0, 0), (16, .getfield 19, 3, 10, 1), (19, .getfield 124, 3, 7, 5), (22, .iload_n 1, 1, 1, 0), (23, .iaload, 1, 0, 0),
  (24, .goto 5, 3, 29, 0), (27, .bipush (-99), 2, 99, 1), (29, .ireturn, 1, 0, 0)]
def gc_70 : List gc_O := [
  (0, .aload_n 0, 1, 0, 0), (1, .getfield 19, 3, 10, 1), (4, .iload_n 1, 1, 1, 0), (5, .invokevirtual 127, 3, 34, 1), (8, .ifCond .ne 5, 3, 13, 0), (11, .iconst (-1), 1, 1, 1),
  (12, .ireturn, 1, 0, 0), (13, .iload_n 2, 1, 2, 0), (14, .tableswitch 101 0 4 #[34, 44, 54, 64, 74], 34, 0, 0), (48, .aload_n 0, 1, 0, 0), (49, .getfield 19, 3, 10, 1), (52, .getfield 130, 3, 7, 6),
  (55, .iload_n 1, 1, 1, 0), (56, .iaload, 1, 0, 0), (57, .ireturn, 1, 0, 0), (58, .aload_n 0, 1, 0, 0), (59, .getfield 19, 3, 10, 1), (62, .getfield 133, 3, 7, 7),
  (65, .iload_n 1, 1, 1, 0), (66, .iaload, 1, 0, 0), (67, .ireturn, 1, 0, 0), (68, .aload_n 0, 1, 0, 0), (69, .getfield 19, 3, 10, 1), (72, .getfield 136, 3, 7, 8),
  (75, .iload_n 1, 1, 1, 0), (76, .iaload, 1, 0, 0), (77, .ireturn, 1, 0, 0), (78, .aload_n 0, 1, 0, 0), (79, .getfield 19, 3, 10, 1), (82, .getfield 139, 3, 7, 9),
  (85, .iload_n 1, 1, 1, 0), (86, .iaload, 1, 0, 0), (87, .ireturn, 1, 0, 0), (88, .aload_n 0, 1, 0, 0), (89, .getfield 19, 3, 10, 1), (92, .aload_n 0, 1, 0, 0),
  (93, .getfield 26, 3, 10, 2), (96, .getfield 120, 3, 3, 0), (99, .invokevirtual 142, 3, 35, 1), (102, .iload_n 1, 1, 1, 0), (103, .invokestatic 146, 3, 96, 2), (106, .ifCond .eq 7, 3, 113, 0),
  (109, .iconst 1, 1, 1, 0), (110, .goto 4, 3, 114, 0), (113, .iconst 0, 1, 0, 0), (114, .ireturn, 1, 0, 0), (115, .bipush (-2), 2, 2, 1), (117, .ireturn, 1, 0, 0)]
def gc_71 : List gc_O := [
  (0, .aload_n 0, 1, 0, 0), (1, .getfield 26, 3, 10, 2), (4, .getfield 150, 3, 3, 2), (7, .ireturn, 1, 0, 0)]
def gc_72 : List gc_O := [
  (0, .aload_n 0, 1, 0, 0), (1, .invokevirtual 153, 3, 97, 0), (4, .ifCond .ne 6, 3, 10, 0), (7, .bipush (-3), 2, 3, 1), (9, .ireturn, 1, 0, 0), (10, .aload_n 0, 1, 0, 0),
  (11, .getfield 36, 3, 10, 4), (14, .aload_n 0, 1, 0, 0), (15, .getfield 26, 3, 10, 2), (18, .invokevirtual 156, 3, 2, 1), (21, .aload_n 0, 1, 0, 0), (22, .getfield 59, 3, 10, 7),
  (25, .aload_n 0, 1, 0, 0), (26, .getfield 26, 3, 10, 2), (29, .aload_n 0, 1, 0, 0), (30, .getfield 19, 3, 10, 1), (33, .getfield 160, 3, 7, 0), (36, .invokevirtual 163, 3, 50, 2),
  (39, .aload_n 0, 1, 0, 0), (40, .getfield 59, 3, 10, 7), (43, .iload_n 1, 1, 1, 0), (44, .ifCond .eq 15, 3, 59, 0), (47, .iconst 1, 1, 1, 0), (48, .aload_n 0, 1, 0, 0),
  (49, .getfield 26, 3, 10, 2), (52, .getfield 167, 3, 3, 3), (55, .ishl, 1, 0, 0), (56, .goto 4, 3, 60, 0), (59, .iconst 0, 1, 0, 0), (60, .iconst 0, 1, 0, 0),
  (61, .invokevirtual 170, 3, 53, 2), (64, .aload_n 0, 1, 0, 0), (65, .getfield 59, 3, 10, 7), (68, .aload_n 0, 1, 0, 0), (69, .getfield 26, 3, 10, 2), (72, .invokevirtual 174, 3, 62, 1),
  (75, .aload_n 0, 1, 0, 0), (76, .getfield 59, 3, 10, 7), (79, .getfield 177, 3, 9, 5), (82, .iconst 1, 1, 1, 0), (83, .iaload, 1, 0, 0), (84, .ireturn, 1, 0, 0)]
def gc_73 : List gc_O := [
  (0, .iload_n 1, 1, 1, 0), (1, .invokestatic 117, 3, 93, 1), (4, .ifCond .ne 6, 3, 10, 0), (7, .bipush (-2), 2, 2, 1), (9, .ireturn, 1, 0, 0), (10, .aload_n 0, 1, 0, 0),
  (11, .invokevirtual 153, 3, 97, 0), (14, .ifCond .ne 6, 3, 20, 0), (17, .bipush (-3), 2, 3, 1), (19, .ireturn, 1, 0, 0), (20, .aload_n 0, 1, 0, 0), (21, .getfield 36, 3, 10, 4),
  (24, .aload_n 0, 1, 0, 0), (25, .getfield 26, 3, 10, 2), (28, .invokevirtual 156, 3, 2, 1), (31, .aload_n 0, 1, 0, 0), (32, .getfield 26, 3, 10, 2), (35, .dup, 1, 0, 0),
  (36, .getfield 180, 3, 3, 1), (39, .iconst 1, 1, 1, 0), (40, .iload_n 1, 1, 1, 0), (41, .ishl, 1, 0, 0), (42, .ixor, 1, 0, 0), (43, .putfield 180, 3, 3, 1),
  (46, .aload_n 0, 1, 0, 0), (47, .getfield 26, 3, 10, 2), (50, .getfield 180, 3, 3, 1), (53, .iload_n 1, 1, 1, 0), (54, .invokestatic 146, 3, 96, 2), (57, .ifCond .eq 7, 3, 64, 0),
  (60, .iconst 1, 1, 1, 0), (61, .goto 4, 3, 65, 0), (64, .iconst 0, 1, 0, 0), (65, .ireturn, 1, 0, 0)]
def gc_74 : List gc_O := [
  (0, .aload_n 0, 1, 0, 0), (1, .getfield 36, 3, 10, 4), (4, .aload_n 0, 1, 0, 0), (5, .getfield 26, 3, 10, 2), (8, .invokevirtual 183, 3, 3, 1), (11, .ifCond .eq 13, 3, 24, 0),
  (14, .aload_n 0, 1, 0, 0), (15, .getfield 36, 3, 10, 4), (18, .getfield 187, 3, 0, 2), (21, .goto 5, 3, 26, 0), (24, .bipush (-3), 2, 3, 1), (26, .ireturn, 1, 0, 0)]
def gc_75 : List gc_O := [
  (0, .iload_n 1, 1, 1, 0), (1, .invokestatic 190, 3, 94, 1), (4, .ifCond .ne 6, 3, 10, 0), (7, .ldc 193, 2, 1000002, 1), (9, .ireturn, 1, 0, 0), (10, .aload_n 0, 1, 0, 0),
  (11, .iload_n 1, 1, 1, 0), (12, .invokevirtual 194, 3, 98, 1), (15, .aload_n 0, 1, 0, 0), (16, .getfield 59, 3, 10, 7), (19, .invokevirtual 198, 3, 58, 0), (22, .ireturn, 1, 0, 0)]
def gc_76 : List gc_O := [
  (0, .aload_n 0, 1, 0, 0), (1, .getfield 59, 3, 10, 7), (4, .aload_n 0, 1, 0, 0), (5, .getfield 26, 3, 10, 2), (8, .aload_n 0, 1, 0, 0), (9, .getfield 19, 3, 10, 1),
  (12, .getfield 160, 3, 7, 0), (15, .invokevirtual 163, 3, 50, 2), (18, .aload_n 0, 1, 0, 0), (19, .getfield 68, 3, 10, 8), (22, .invokevirtual 201, 3, 5, 0), (25, .iload_n 1, 1, 1, 0),
  (26, .ifCond .eq 13, 3, 39, 0), (29, .aload_n 0, 1, 0, 0), (30, .getfield 68, 3, 10, 8), (33, .getfield 204, 3, 1, 2), (36, .goto 10, 3, 46, 0), (39, .aload_n 0, 1, 0, 0),
  (40, .getfield 68, 3, 10, 8), (43, .getfield 206, 3, 1, 1), (46, .ireturn, 1, 0, 0)]
def gc_77 : List gc_O := [
  (0, .aload_n 0, 1, 0, 0), (1, .iconst 1, 1, 1, 0), (2, .invokevirtual 209, 3, 76, 1), (5, .istore_n 1, 1, 1, 0), (6, .bipush (-99), 2, 99, 1), (8, .istore_n 2, 1, 2, 0),
  (9, .iconst 0, 1, 0, 0), (10, .istore_n 3, 1, 3, 0), (11, .iload_n 3, 1, 3, 0), (12, .bipush 10, 2, 10, 0), (14, .if_icmp .ge 81, 3, 95, 0), (17, .aload_n 0, 1, 0, 0),
  (18, .getfield 30, 3, 10, 3), (21, .aload_n 0, 1, 0, 0), (22, .getfield 26, 3, 10, 2), (25, .invokevirtual 213, 3, 15, 1), (28, .aload_n 0, 1, 0, 0), (29, .getfield 30, 3, 10, 3),
  (32, .dup, 1, 0, 0), (33, .getfield 180, 3, 3, 1), (36, .iconst 1, 1, 1, 0), (37, .iload_n 3, 1, 3, 0), (38, .ishl, 1, 0, 0), (39, .ixor, 1, 0, 0),
  (40, .putfield 180, 3, 3, 1), (43, .aload_n 0, 1, 0, 0), (44, .getfield 59, 3, 10, 7), (47, .aload_n 0, 1, 0, 0), (48, .getfield 30, 3, 10, 3), (51, .aload_n 0, 1, 0, 0),
  (52, .getfield 19, 3, 10, 1), (55, .getfield 160, 3, 7, 0), (58, .invokevirtual 163, 3, 50, 2), (61, .aload_n 0, 1, 0, 0), (62, .getfield 68, 3, 10, 8), (65, .invokevirtual 201, 3, 5, 0),
  (68, .aload_n 0, 1, 0, 0), (69, .getfield 68, 3, 10, 8), (72, .getfield 204, 3, 1, 2), (75, .iload_n 1, 1, 1, 0), (76, .if_icmp .le 13, 3, 89, 0), (79, .aload_n 0, 1, 0, 0),
  (80, .getfield 68, 3, 10, 8), (83, .getfield 204, 3, 1, 2), (86, .istore_n 1, 1, 1, 0), (87, .iload_n 3, 1, 3, 0), (88, .istore_n 2, 1, 2, 0), (89, .iinc 3 1, 3, 1, 0),
  (92, .goto (-81), 3, 11, 0), (95, .iload_n 2, 1, 2, 0), (96, .ireturn, 1, 0, 0)]
def gc_78 : List gc_O := [
  (0, .aload_n 0, 1, 0, 0), (1, .getfield 19, 3, 10, 1), (4, .iload_n 1, 1, 1, 0), (5, .invokevirtual 127, 3, 34, 1), (8, .ifCond .ne 6, 3, 14, 0), (11, .ldc 216, 2, 1000001, 1),
  (13, .ireturn, 1, 0, 0), (14, .aload_n 0, 1, 0, 0), (15, .getfield 59, 3, 10, 7), (18, .aload_n 0, 1, 0, 0), (19, .getfield 26, 3, 10, 2), (22, .aload_n 0, 1, 0, 0),
  (23, .getfield 19, 3, 10, 1), (26, .getfield 160, 3, 7, 0), (29, .invokevirtual 163, 3, 50, 2), (32, .aload_n 0, 1, 0, 0), (33, .getfield 77, 3, 10, 9), (36, .invokevirtual 217, 3, 9, 0),
  (39, .aload_n 0, 1, 0, 0), (40, .getfield 77, 3, 10, 9), (43, .iload_n 1, 1, 1, 0), (44, .invokevirtual 220, 3, 11, 1), (47, .getstatic 224, 3, 1, 0), (50, .aload_n 0, 1, 0, 0),
  (51, .getfield 19, 3, 10, 1), (54, .getfield 114, 3, 7, 4), (57, .iaload, 1, 0, 0), (58, .i2l, 1, 0, 0), (59, .iload_n 2, 1, 2, 0), (60, .invokestatic 227, 3, 104, 3),
  (63, .l2i, 1, 0, 0), (64, .ireturn, 1, 0, 0)]
def gc_79 : List gc_O := [
  (0, .iload_n 1, 1, 1, 0), (1, .iconst 1, 1, 1, 0), (2, .if_icmp .lt 22, 3, 24, 0), (5, .iload_n 1, 1, 1, 0), (6, .bipush 8, 2, 8, 0), (8, .if_icmp .gt 16, 3, 24, 0),
  (11, .iload_n 2, 1, 2, 0), (12, .ifCond .lt 12, 3, 24, 0), (15, .iload_n 2, 1, 2, 0), (16, .getstatic 231, 3, 2, 0), (19, .iload_n 1, 1, 1, 0), (20, .iaload, 1, 0, 0),
  (21, .if_icmp .lt 6, 3, 27, 0), (24, .bipush (-2), 2, 2, 1), (26, .ireturn, 1, 0, 0), (27, .aload_n 0, 1, 0, 0), (28, .aload_n 0, 1, 0, 0), (29, .iload_n 1, 1, 1, 0),
  (30, .iload_n 2, 1, 2, 0), (31, .invokevirtual 234, 3, 100, 2), (34, .invokevirtual 194, 3, 98, 1), (37, .iconst 0, 1, 0, 0), (38, .istore_n 3, 1, 3, 0), (39, .iload_n 3, 1, 3, 0),
  (40, .iload_n 1, 1, 1, 0), (41, .if_icmp .ge 43, 3, 84, 0), (44, .iload_n 3, 1, 3, 0), (45, .aload_n 0, 1, 0, 0), (46, .getfield 59, 3, 10, 7), (49, .getfield 238, 3, 9, 12),
  (52, .if_icmp .ge 24, 3, 76, 0), (55, .iload_n 1, 1, 1, 0), (56, .iload_n 2, 1, 2, 0), (57, .iload_n 3, 1, 3, 0), (58, .invokestatic 241, 3, 99, 3), (61, .iconst 1, 1, 1, 0),
  (62, .if_icmp .gt 14, 3, 76, 0), (65, .aload_n 0, 1, 0, 0), (66, .getfield 59, 3, 10, 7), (69, .iload_n 3, 1, 3, 0), (70, .invokevirtual 245, 3, 59, 1), (73, .ifCond .ge 5, 3, 78, 0),
  (76, .iload_n 3, 1, 3, 0), (77, .ireturn, 1, 0, 0), (78, .iinc 3 1, 3, 1, 0), (81, .goto (-42), 3, 39, 0), (84, .bipush (-99), 2, 99, 1), (86, .ireturn, 1, 0, 0)]
def gc_80 : List gc_O := [
  (0, .iload_n 1, 1, 1, 0), (1, .invokestatic 190, 3, 94, 1), (4, .ifCond .ne 6, 3, 10, 0), (7, .bipush (-2), 2, 2, 1), (9, .ireturn, 1, 0, 0), (10, .aload_n 0, 1, 0, 0),
  (11, .iload_n 1, 1, 1, 0), (12, .invokevirtual 194, 3, 98, 1), (15, .aload_n 0, 1, 0, 0), (16, .getfield 59, 3, 10, 7), (19, .invokevirtual 249, 3, 61, 0), (22, .ireturn, 1, 0, 0)]
def gc_81 : List gc_O := [
  (0, .iload_n 1, 1, 1, 0), (1, .ifCond .lt 16, 3, 17, 0), (4, .iload_n 1, 1, 1, 0), (5, .iconst 1, 1, 1, 0), (6, .aload_n 0, 1, 0, 0), (7, .getfield 19, 3, 10, 1),
  (10, .getfield 114, 3, 7, 4), (13, .ishl, 1, 0, 0), (14, .if_icmp .lt 6, 3, 20, 0), (17, .bipush (-2), 2, 2, 1), (19, .ireturn, 1, 0, 0), (20, .aload_n 0, 1, 0, 0),
  (21, .getfield 59, 3, 10, 7), (24, .aload_n 0, 1, 0, 0), (25, .getfield 26, 3, 10, 2), (28, .aload_n 0, 1, 0, 0), (29, .getfield 19, 3, 10, 1), (32, .getfield 160, 3, 7, 0),
  (35, .invokevirtual 163, 3, 50, 2), (38, .aload_n 0, 1, 0, 0), (39, .getfield 68, 3, 10, 8), (42, .iload_n 1, 1, 1, 0), (43, .invokevirtual 252, 3, 6, 1), (46, .ifCond .eq 13, 3, 59, 0),
  (49, .aload_n 0, 1, 0, 0), (50, .getfield 68, 3, 10, 8), (53, .getfield 206, 3, 1, 1), (56, .goto 5, 3, 61, 0), (59, .bipush (-99), 2, 99, 1), (61, .ireturn, 1, 0, 0)]
def gc_82 : List gc_O := [
  (0, .aload_n 0, 1, 0, 0), (1, .getfield 19, 3, 10, 1), (4, .iload_n 1, 1, 1, 0), (5, .invokevirtual 127, 3, 34, 1), (8, .ifCond .ne 5, 3, 13, 0), (11, .iconst (-1), 1, 1, 1),
  (12, .ireturn, 1, 0, 0), (13, .iload_n 2, 1, 2, 0), (14, .ifCond .lt 9, 3, 23, 0), (17, .iload_n 2, 1, 2, 0), (18, .bipush 8, 2, 8, 0), (20, .if_icmp .lt 6, 3, 26, 0),
  (23, .bipush (-2), 2, 2, 1), (25, .ireturn, 1, 0, 0), (26, .aload_n 0, 1, 0, 0), (27, .getfield 50, 3, 10, 6), (30, .iload_n 1, 1, 1, 0), (31, .iload_n 2, 1, 2, 0),
  (32, .iload_n 3, 1, 3, 0), (33, .invokevirtual 255, 3, 24, 3), (36, .ifCond .eq 13, 3, 49, 0), (39, .aload_n 0, 1, 0, 0), (40, .getfield 50, 3, 10, 6), (43, .getfield 258, 3, 5, 3),
  (46, .goto 5, 3, 51, 0), (49, .bipush (-4), 2, 4, 1), (51, .ireturn, 1, 0, 0)]
def gc_83 : List gc_O := [
  (0, .aload_n 0, 1, 0, 0), (1, .getfield 50, 3, 10, 6), (4, .getfield 258, 3, 5, 3), (7, .istore_n 1, 1, 1, 0), (8, .aload_n 0, 1, 0, 0), (9, .getfield 50, 3, 10, 6),
  (12, .iconst 0, 1, 0, 0), (13, .putfield 258, 3, 5, 3), (16, .iload_n 1, 1, 1, 0), (17, .ireturn, 1, 0, 0)]
def gc_84 : List gc_O := [
  (0, .iload_n 1, 1, 1, 0), (1, .ifCond .lt 8, 3, 9, 0), (4, .iload_n 1, 1, 1, 0), (5, .iconst 2, 1, 2, 0), (6, .if_icmp .le 6, 3, 12, 0), (9, .bipush (-2), 2, 2, 1),
  (11, .ireturn, 1, 0, 0), (12, .aload_n 0, 1, 0, 0), (13, .getfield 30, 3, 10, 3), (16, .invokevirtual 104, 3, 13, 0), (19, .aload_n 0, 1, 0, 0), (20, .getfield 59, 3, 10, 7),
  (23, .aload_n 0, 1, 0, 0), (24, .getfield 30, 3, 10, 3), (27, .aload_n 0, 1, 0, 0), (28, .getfield 19, 3, 10, 1), (31, .getfield 160, 3, 7, 0), (34, .invokevirtual 163, 3, 50, 2),
  (37, .aload_n 0, 1, 0, 0), (38, .getfield 50, 3, 10, 6), (41, .aload_n 0, 1, 0, 0), (42, .getfield 19, 3, 10, 1), (45, .aload_n 0, 1, 0, 0), (46, .getfield 59, 3, 10, 7),
  (49, .invokevirtual 259, 3, 25, 2), (52, .iload_n 1, 1, 1, 0), (53, .ifCond .ne 11, 3, 64, 0), (56, .aload_n 0, 1, 0, 0), (57, .getfield 50, 3, 10, 6), (60, .getfield 262, 3, 5, 4),
  (63, .ireturn, 1, 0, 0), (64, .aload_n 0, 1, 0, 0), (65, .getfield 50, 3, 10, 6), (68, .getfield 262, 3, 5, 4), (71, .ifCond .ne 6, 3, 77, 0), (74, .bipush (-99), 2, 99, 1),
  (76, .ireturn, 1, 0, 0), (77, .iload_n 1, 1, 1, 0), (78, .iconst 1, 1, 1, 0), (79, .if_icmp .ne 13, 3, 92, 0), (82, .aload_n 0, 1, 0, 0), (83, .getfield 50, 3, 10, 6),
  (86, .getfield 265, 3, 5, 5), (89, .goto 10, 3, 99, 0), (92, .aload_n 0, 1, 0, 0), (93, .getfield 50, 3, 10, 6), (96, .getfield 268, 3, 5, 6), (99, .ireturn, 1, 0, 0)]
def gc_85 : List gc_O := [
  (0, .iload_n 1, 1, 1, 0), (1, .invokestatic 190, 3, 94, 1), (4, .ifCond .eq 10, 3, 14, 0), (7, .iload_n 2, 1, 2, 0), (8, .invokestatic 271, 3, 95, 1), (11, .ifCond .ne 7, 3, 18, 0),
  (14, .ldc2_w 274, 3, 1000000000002, 1), (17, .lreturn, 1, 0, 0), (18, .aload_n 0, 1, 0, 0), (19, .iconst (-1), 1, 1, 1), (20, .iload_n 1, 1, 1, 0), (21, .iload_n 2, 1, 2, 0),
  (22, .invokevirtual 276, 3, 102, 3), (25, .bipush 10, 2, 10, 0), (27, .aload_n 0, 1, 0, 0), (28, .invokevirtual 153, 3, 97, 0), (31, .invokestatic 280, 3, 103, 2), (34, .iload_n 3, 1, 3, 0),
  (35, .invokestatic 227, 3, 104, 3), (38, .lreturn, 1, 0, 0)]
def gc_86 : List gc_O := [
  (0, .aload_n 0, 1, 0, 0), (1, .getfield 19, 3, 10, 1), (4, .iload_n 1, 1, 1, 0), (5, .invokevirtual 127, 3, 34, 1), (8, .ifCond .ne 7, 3, 15, 0), (11, .ldc2_w 284, 3, 1000000000001, 1),
  (14, .lreturn, 1, 0, 0), (15, .iload_n 2, 1, 2, 0), (16, .invokestatic 190, 3, 94, 1), (19, .ifCond .eq 10, 3, 29, 0), (22, .iload_n 3, 1, 3, 0), (23, .invokestatic 271, 3, 95, 1),
  (26, .ifCond .ne 7, 3, 33, 0), (29, .ldc2_w 274, 3, 1000000000002, 1), (32, .lreturn, 1, 0, 0), (33, .aload_n 0, 1, 0, 0), (34, .iload_n 1, 1, 1, 0), (35, .iload_n 2, 1, 2, 0),
  (36, .iload_n 3, 1, 3, 0), (37, .invokevirtual 276, 3, 102, 3), (40, .bipush 10, 2, 10, 0), (42, .aload_n 0, 1, 0, 0), (43, .invokevirtual 153, 3, 97, 0), (46, .invokestatic 280, 3, 103, 2),
  (49, .iload 4, 2, 4, 0), (51, .invokestatic 227, 3, 104, 3), (54, .lreturn, 1, 0, 0)]
def gc_87 : List gc_O := [
  (0, .iload_n 1, 1, 1, 0), (1, .invokestatic 117, 3, 93, 1), (4, .ifCond .eq 12, 3, 16, 0), (7, .iload_n 2, 1, 2, 0), (8, .ifCond .lt 8, 3, 16, 0), (11, .iload_n 2, 1, 2, 0),
  (12, .iconst 1, 1, 1, 0), (13, .if_icmp .le 6, 3, 19, 0), (16, .bipush (-2), 2, 2, 1), (18, .ireturn, 1, 0, 0), (19, .aload_n 0, 1, 0, 0), (20, .getfield 30, 3, 10, 3),
  (23, .aload_n 0, 1, 0, 0), (24, .getfield 26, 3, 10, 2), (27, .invokevirtual 213, 3, 15, 1), (30, .aload_n 0, 1, 0, 0), (31, .getfield 30, 3, 10, 3), (34, .invokevirtual 286, 3, 14, 0),
  (37, .aload_n 0, 1, 0, 0), (38, .getfield 84, 3, 10, 10), (41, .aload_n 0, 1, 0, 0), (42, .getfield 26, 3, 10, 2), (45, .aload_n 0, 1, 0, 0), (46, .getfield 30, 3, 10, 3),
  (49, .iload_n 1, 1, 1, 0), (50, .invokevirtual 289, 3, 17, 3), (53, .iload_n 2, 1, 2, 0), (54, .ifCond .ne 13, 3, 67, 0), (57, .aload_n 0, 1, 0, 0), (58, .getfield 84, 3, 10, 10),
  (61, .getfield 293, 3, 4, 6), (64, .goto 10, 3, 74, 0), (67, .aload_n 0, 1, 0, 0), (68, .getfield 84, 3, 10, 10), (71, .getfield 296, 3, 4, 7), (74, .ireturn, 1, 0, 0)]
def gc_88 : List gc_O := [
  (0, .aload_n 0, 1, 0, 0), (1, .getfield 299, 3, 10, 11), (4, .lstore_n 3, 1, 3, 0), (5, .aload_n 0, 1, 0, 0), (6, .lload_n 1, 1, 1, 0), (7, .putfield 299, 3, 10, 11),
  (10, .lload_n 3, 1, 3, 0), (11, .lreturn, 1, 0, 0)]
def gc_89 : List gc_O := [
  (0, .iload_n 1, 1, 1, 0), (1, .iconst 1, 1, 1, 0), (2, .if_icmp .lt 9, 3, 11, 0), (5, .iload_n 1, 1, 1, 0), (6, .bipush 20, 2, 20, 0), (8, .if_icmp .le 6, 3, 14, 0),
  (11, .ldc 193, 2, 1000002, 1), (13, .ireturn, 1, 0, 0), (14, .iconst 0, 1, 0, 0), (15, .istore_n 2, 1, 2, 0), (16, .iconst 0, 1, 0, 0), (17, .istore_n 3, 1, 3, 0),
  (18, .iload_n 3, 1, 3, 0), (19, .iload_n 1, 1, 1, 0), (20, .if_icmp .ge 27, 3, 47, 0), (23, .aload_n 0, 1, 0, 0), (24, .aload_n 0, 1, 0, 0), (25, .invokevirtual 303, 3, 101, 0),
  (28, .invokevirtual 194, 3, 98, 1), (31, .iload_n 2, 1, 2, 0), (32, .aload_n 0, 1, 0, 0), (33, .getfield 59, 3, 10, 7), (36, .invokevirtual 198, 3, 58, 0), (39, .iadd, 1, 0, 0),
  (40, .istore_n 2, 1, 2, 0), (41, .iinc 3 1, 3, 1, 0), (44, .goto (-26), 3, 18, 0), (47, .iload_n 2, 1, 2, 0), (48, .ireturn, 1, 0, 0)]
def gc_90 : List gc_O := [
  (0, .iload_n 1, 1, 1, 0), (1, .ifCond .lt 8, 3, 9, 0), (4, .iload_n 1, 1, 1, 0), (5, .iconst 2, 1, 2, 0), (6, .if_icmp .lt 5, 3, 11, 0), (9, .iconst (-1), 1, 1, 1),
  (10, .ireturn, 1, 0, 0), (11, .aload_n 0, 1, 0, 0), (12, .getfield 43, 3, 10, 5), (15, .iload_n 1, 1, 1, 0), (16, .aload_n 0, 1, 0, 0), (17, .getfield 26, 3, 10, 2),
  (20, .invokevirtual 306, 3, 29, 2), (23, .aload_n 0, 1, 0, 0), (24, .getfield 26, 3, 10, 2), (27, .getfield 167, 3, 3, 3), (30, .ireturn, 1, 0, 0)]
def gc_91 : List gc_O := [
  (0, .iload_n 1, 1, 1, 0), (1, .ifCond .lt 8, 3, 9, 0), (4, .iload_n 1, 1, 1, 0), (5, .iconst 2, 1, 2, 0), (6, .if_icmp .lt 5, 3, 11, 0), (9, .iconst (-1), 1, 1, 1),
  (10, .ireturn, 1, 0, 0), (11, .aload_n 0, 1, 0, 0), (12, .getfield 43, 3, 10, 5), (15, .iload_n 1, 1, 1, 0), (16, .aload_n 0, 1, 0, 0), (17, .getfield 26, 3, 10, 2),
  (20, .invokevirtual 310, 3, 30, 2), (23, .ifCond .ne 6, 3, 29, 0), (26, .bipush (-3), 2, 3, 1), (28, .ireturn, 1, 0, 0), (29, .aload_n 0, 1, 0, 0), (30, .getfield 36, 3, 10, 4),
  (33, .invokevirtual 107, 3, 1, 0), (36, .aload_n 0, 1, 0, 0), (37, .getfield 26, 3, 10, 2), (40, .getfield 167, 3, 3, 3), (43, .ireturn, 1, 0, 0)]
def gc_92 : List gc_O := [
  (0, .iload_n 1, 1, 1, 0), (1, .tableswitch 154 0 10 #[59, 67, 75, 83, 91, 99, 107, 115, 123, 138, 146], 59, 0, 0), (60, .aload_n 0, 1, 0, 0), (61, .getfield 10, 3, 10, 0), (64, .getfield 92, 3, 8, 1), (67, .ireturn, 1, 0, 0),
  (68, .aload_n 0, 1, 0, 0), (69, .getfield 19, 3, 10, 1), (72, .getfield 111, 3, 7, 3), (75, .ireturn, 1, 0, 0), (76, .aload_n 0, 1, 0, 0), (77, .getfield 19, 3, 10, 1),
  (80, .getfield 114, 3, 7, 4), (83, .ireturn, 1, 0, 0), (84, .aload_n 0, 1, 0, 0), (85, .getfield 19, 3, 10, 1), (88, .getfield 160, 3, 7, 0), (91, .ireturn, 1, 0, 0),
  (92, .aload_n 0, 1, 0, 0), (93, .getfield 19, 3, 10, 1), (96, .getfield 314, 3, 7, 1), (99, .ireturn, 1, 0, 0), (100, .aload_n 0, 1, 0, 0), (101, .getfield 19, 3, 10, 1),
  (104, .getfield 317, 3, 7, 2), (107, .ireturn, 1, 0, 0), (108, .aload_n 0, 1, 0, 0), (109, .getfield 26, 3, 10, 2), (112, .getfield 167, 3, 3, 3), (115, .ireturn, 1, 0, 0),
  (116, .aload_n 0, 1, 0, 0), (117, .getfield 26, 3, 10, 2), (120, .getfield 180, 3, 3, 1), (123, .ireturn, 1, 0, 0), (124, .aload_n 0, 1, 0, 0), (125, .getfield 19, 3, 10, 1),
  (128, .aload_n 0, 1, 0, 0), (129, .getfield 26, 3, 10, 2), (132, .getfield 120, 3, 3, 0), (135, .invokevirtual 142, 3, 35, 1), (138, .ireturn, 1, 0, 0), (139, .aload_n 0, 1, 0, 0),
  (140, .getfield 36, 3, 10, 4), (143, .getfield 187, 3, 0, 2), (146, .ireturn, 1, 0, 0), (147, .aload_n 0, 1, 0, 0), (148, .getfield 50, 3, 10, 6), (151, .getfield 258, 3, 5, 3),
  (154, .ireturn, 1, 0, 0), (155, .bipush (-2), 2, 2, 1), (157, .ireturn, 1, 0, 0)]
def gc_93 : List gc_O := [
  (0, .iload_n 0, 1, 0, 0), (1, .ifCond .lt 13, 3, 14, 0), (4, .iload_n 0, 1, 0, 0), (5, .bipush 10, 2, 10, 0), (7, .if_icmp .ge 7, 3, 14, 0), (10, .iconst 1, 1, 1, 0),
  (11, .goto 4, 3, 15, 0), (14, .iconst 0, 1, 0, 0), (15, .ireturn, 1, 0, 0)]
def gc_94 : List gc_O := [
  (0, .iload_n 0, 1, 0, 0), (1, .ifCond .lt 14, 3, 15, 0), (4, .iload_n 0, 1, 0, 0), (5, .sipush 256, 3, 256, 0), (8, .if_icmp .ge 7, 3, 15, 0), (11, .iconst 1, 1, 1, 0),
  (12, .goto 4, 3, 16, 0), (15, .iconst 0, 1, 0, 0), (16, .ireturn, 1, 0, 0)]
def gc_95 : List gc_O := [
  (0, .iload_n 0, 1, 0, 0), (1, .ifCond .lt 13, 3, 14, 0), (4, .iload_n 0, 1, 0, 0), (5, .bipush 10, 2, 10, 0), (7, .if_icmp .gt 7, 3, 14, 0), (10, .iconst 1, 1, 1, 0),
  (11, .goto 4, 3, 15, 0), (14, .iconst 0, 1, 0, 0), (15, .ireturn, 1, 0, 0)]
def gc_96 : List gc_O := [
  (0, .iload_n 0, 1, 0, 0), (1, .iload_n 1, 1, 1, 0), (2, .ishr, 1, 0, 0), (3, .iconst 1, 1, 1, 0), (4, .iand, 1, 0, 0), (5, .iconst 1, 1, 1, 0),
  (6, .if_icmp .ne 7, 3, 13, 0), (9, .iconst 1, 1, 1, 0), (10, .goto 4, 3, 14, 0), (13, .iconst 0, 1, 0, 0), (14, .ireturn, 1, 0, 0)]
def gc_97 : List gc_O := [
  (0, .aload_n 0, 1, 0, 0), (1, .getfield 19, 3, 10, 1), (4, .getfield 111, 3, 7, 3), (7, .aload_n 0, 1, 0, 0), (8, .getfield 26, 3, 10, 2), (11, .getfield 167, 3, 3, 3),
  (14, .isub, 1, 0, 0), (15, .ireturn, 1, 0, 0)]
def gc_98 : List gc_O := [
  (0, .aload_n 0, 1, 0, 0), (1, .getfield 59, 3, 10, 7), (4, .aload_n 0, 1, 0, 0), (5, .getfield 26, 3, 10, 2), (8, .aload_n 0, 1, 0, 0), (9, .getfield 19, 3, 10, 1),
  (12, .getfield 160, 3, 7, 0), (15, .invokevirtual 163, 3, 50, 2), (18, .aload_n 0, 1, 0, 0), (19, .getfield 59, 3, 10, 7), (22, .iload_n 1, 1, 1, 0), (23, .iconst 0, 1, 0, 0),
  (24, .invokevirtual 170, 3, 53, 2), (27, .return_, 1, 0, 0)]
def gc_99 : List gc_O := [
  (0, .iload_n 0, 1, 0, 0), (1, .iconst 1, 1, 1, 0), (2, .isub, 1, 0, 0), (3, .iload_n 2, 1, 2, 0), (4, .isub, 1, 0, 0), (5, .istore_n 3, 1, 3, 0),
  (6, .iload_n 3, 1, 3, 0), (7, .ifCond .lt 24, 3, 31, 0), (10, .iload_n 3, 1, 3, 0), (11, .getstatic 231, 3, 2, 0), (14, .arraylength, 1, 0, 0), (15, .if_icmp .ge 16, 3, 31, 0),
  (18, .iload_n 1, 1, 1, 0), (19, .getstatic 231, 3, 2, 0), (22, .iload_n 3, 1, 3, 0), (23, .iaload, 1, 0, 0), (24, .idiv, 1, 0, 0), (25, .bipush 10, 2, 10, 0),
  (27, .irem, 1, 0, 0), (28, .goto 4, 3, 32, 0), (31, .iconst 0, 1, 0, 0), (32, .ireturn, 1, 0, 0)]
def gc_100 : List gc_O := [
  (0, .iconst 0, 1, 0, 0), (1, .istore_n 3, 1, 3, 0), (2, .iconst 0, 1, 0, 0), (3, .istore 4, 2, 4, 0), (5, .iload 4, 2, 4, 0), (7, .iload_n 1, 1, 1, 0),
  (8, .if_icmp .ge 35, 3, 43, 0), (11, .iload_n 1, 1, 1, 0), (12, .iload_n 2, 1, 2, 0), (13, .iload 4, 2, 4, 0), (15, .invokestatic 241, 3, 99, 3), (18, .iconst 1, 1, 1, 0),
  (19, .if_icmp .ne 18, 3, 37, 0), (22, .iload_n 3, 1, 3, 0), (23, .iconst 1, 1, 1, 0), (24, .aload_n 0, 1, 0, 0), (25, .getfield 26, 3, 10, 2), (28, .getfield 167, 3, 3, 3),
  (31, .iload 4, 2, 4, 0), (33, .iadd, 1, 0, 0), (34, .ishl, 1, 0, 0), (35, .ior, 1, 0, 0), (36, .istore_n 3, 1, 3, 0), (37, .iinc 4 1, 3, 1, 0),
  (40, .goto (-35), 3, 5, 0), (43, .iload_n 3, 1, 3, 0), (44, .ireturn, 1, 0, 0)]
def gc_101 : List gc_O := [
  (0, .iconst 0, 1, 0, 0), (1, .istore_n 1, 1, 1, 0), (2, .aload_n 0, 1, 0, 0), (3, .getfield 26, 3, 10, 2), (6, .getfield 167, 3, 3, 3), (9, .istore_n 2, 1, 2, 0),
  (10, .iload_n 2, 1, 2, 0), (11, .aload_n 0, 1, 0, 0), (12, .getfield 19, 3, 10, 1), (15, .getfield 111, 3, 7, 3), (18, .if_icmp .ge 47, 3, 65, 0), (21, .aload_n 0, 1, 0, 0),
  (22, .aload_n 0, 1, 0, 0), (23, .getfield 299, 3, 10, 11), (26, .ldc2_w 320, 3, 6364136223846793005, 0), (29, .lmul, 1, 0, 0), (30, .ldc2_w 322, 3, 1442695040888963407, 0), (33, .ladd, 1, 0, 0),
  (34, .putfield 299, 3, 10, 11), (37, .aload_n 0, 1, 0, 0), (38, .getfield 299, 3, 10, 11), (41, .bipush 33, 2, 33, 0), (43, .lushr, 1, 0, 0), (44, .ldc2_w 324, 3, 2, 0),
  (47, .lrem, 1, 0, 0), (48, .lconst 1, 1, 1, 0), (49, .lcmp, 1, 0, 0), (50, .ifCond .ne 9, 3, 59, 0), (53, .iload_n 1, 1, 1, 0), (54, .iconst 1, 1, 1, 0),
  (55, .iload_n 2, 1, 2, 0), (56, .ishl, 1, 0, 0), (57, .ior, 1, 0, 0), (58, .istore_n 1, 1, 1, 0), (59, .iinc 2 1, 3, 1, 0), (62, .goto (-52), 3, 10, 0),
  (65, .iload_n 1, 1, 1, 0), (66, .ireturn, 1, 0, 0)]
def gc_102 : List gc_O := [
  (0, .aload_n 0, 1, 0, 0), (1, .getfield 59, 3, 10, 7), (4, .aload_n 0, 1, 0, 0), (5, .getfield 26, 3, 10, 2), (8, .aload_n 0, 1, 0, 0), (9, .getfield 19, 3, 10, 1),
  (12, .getfield 160, 3, 7, 0), (15, .invokevirtual 163, 3, 50, 2), (18, .lconst 0, 1, 0, 0), (19, .lstore 4, 2, 4, 0), (21, .iconst 0, 1, 0, 0), (22, .istore 6, 2, 6, 0),
  (24, .iload 6, 2, 6, 0), (26, .aload_n 0, 1, 0, 0), (27, .getfield 59, 3, 10, 7), (30, .invokevirtual 326, 3, 51, 0), (33, .if_icmp .ge 95, 3, 128, 0), (36, .aload_n 0, 1, 0, 0),
  (37, .getfield 59, 3, 10, 7), (40, .iload 6, 2, 6, 0), (42, .invokevirtual 329, 3, 52, 1), (45, .istore 7, 2, 7, 0), (47, .aload_n 0, 1, 0, 0), (48, .getfield 59, 3, 10, 7),
  (51, .iload_n 2, 1, 2, 0), (52, .iload 7, 2, 7, 0), (54, .invokevirtual 170, 3, 53, 2), (57, .iload 7, 2, 7, 0), (59, .invokestatic 332, 3, 163, 1), (62, .istore 8, 2, 8, 0),
  (64, .iload_n 3, 1, 3, 0), (65, .iload 8, 2, 8, 0), (67, .invokestatic 280, 3, 103, 2), (70, .bipush 10, 2, 10, 0), (72, .iload_n 3, 1, 3, 0), (73, .isub, 1, 0, 0),
  (74, .aload_n 0, 1, 0, 0), (75, .getfield 59, 3, 10, 7), (78, .getfield 238, 3, 9, 12), (81, .iload 8, 2, 8, 0), (83, .isub, 1, 0, 0), (84, .invokestatic 280, 3, 103, 2),
  (87, .lmul, 1, 0, 0), (88, .lstore 9, 2, 9, 0), (90, .lload 4, 2, 4, 0), (92, .lload 9, 2, 9, 0), (94, .iload_n 1, 1, 1, 0), (95, .iconst (-1), 1, 1, 1),
  (96, .if_icmp .ne 13, 3, 109, 0), (99, .aload_n 0, 1, 0, 0), (100, .getfield 59, 3, 10, 7), (103, .invokevirtual 198, 3, 58, 0), (106, .goto 11, 3, 117, 0), (109, .aload_n 0, 1, 0, 0),
  (110, .getfield 59, 3, 10, 7), (113, .iload_n 1, 1, 1, 0), (114, .invokevirtual 337, 3, 60, 1), (117, .i2l, 1, 0, 0), (118, .lmul, 1, 0, 0), (119, .ladd, 1, 0, 0),
  (120, .lstore 4, 2, 4, 0), (122, .iinc 6 1, 3, 1, 0), (125, .goto (-101), 3, 24, 0), (128, .lload 4, 2, 4, 0), (130, .lreturn, 1, 0, 0)]
def gc_103 : List gc_O := [
  (0, .lconst 1, 1, 1, 0), (1, .lstore_n 2, 1, 2, 0), (2, .iconst 0, 1, 0, 0), (3, .istore 4, 2, 4, 0), (5, .iload 4, 2, 4, 0), (7, .iload_n 1, 1, 1, 0),
  (8, .if_icmp .ge 14, 3, 22, 0), (11, .lload_n 2, 1, 2, 0), (12, .iload_n 0, 1, 0, 0), (13, .i2l, 1, 0, 0), (14, .lmul, 1, 0, 0), (15, .lstore_n 2, 1, 2, 0),
  (16, .iinc 4 1, 3, 1, 0), (19, .goto (-14), 3, 5, 0), (22, .lload_n 2, 1, 2, 0), (23, .lreturn, 1, 0, 0)]
def gc_104 : List gc_O := [
  (0, .lload_n 0, 1, 0, 0), (1, .invokestatic 340, 3, 1005, 1), (4, .lload_n 2, 1, 2, 0), (5, .invokestatic 346, 3, 105, 2), (8, .lstore 5, 2, 5, 0), (10, .iload 4, 2, 4, 0),
  (12, .ifCond .eq 7, 3, 19, 0), (15, .lload_n 0, 1, 0, 0), (16, .goto 4, 3, 20, 0), (19, .lload_n 2, 1, 2, 0), (20, .lload 5, 2, 5, 0), (22, .ldiv, 1, 0, 0),
  (23, .lreturn, 1, 0, 0)]
def gc_105 : List gc_O := [
  (0, .iconst 0, 1, 0, 0), (1, .istore 4, 2, 4, 0), (3, .iload 4, 2, 4, 0), (5, .bipush 100, 2, 100, 0), (7, .if_icmp .ge 25, 3, 32, 0), (10, .lload_n 2, 1, 2, 0),
  (11, .lconst 0, 1, 0, 0), (12, .lcmp, 1, 0, 0), (13, .ifCond .eq 19, 3, 32, 0), (16, .lload_n 0, 1, 0, 0), (17, .lload_n 2, 1, 2, 0), (18, .lrem, 1, 0, 0),
  (19, .lstore 5, 2, 5, 0), (21, .lload_n 2, 1, 2, 0), (22, .lstore_n 0, 1, 0, 0), (23, .lload 5, 2, 5, 0), (25, .lstore_n 2, 1, 2, 0), (26, .iinc 4 1, 3, 1, 0),
  (29, .goto (-26), 3, 3, 0), (32, .lload_n 0, 1, 0, 0), (33, .lconst 1, 1, 1, 0), (34, .invokestatic 350, 3, 1004, 2), (37, .lreturn, 1, 0, 0)]
def gc_106 : List gc_O := [
  (0, .aload_n 0, 1, 0, 0), (1, .invokespecial 1, 3, 1000, 0), (4, .aload_n 0, 1, 0, 0), (5, .bipush 8, 2, 8, 0), (7, .newarray .int, 2, 12, 0), (9, .putfield 7, 3, 11, 5),
  (12, .aload_n 0, 1, 0, 0), (13, .bipush 8, 2, 8, 0), (15, .newarray .int, 2, 12, 0), (17, .putfield 13, 3, 11, 6), (20, .aload_n 0, 1, 0, 0), (21, .bipush 24, 2, 24, 0),
  (23, .newarray .int, 2, 12, 0), (25, .putfield 16, 3, 11, 7), (28, .aload_n 0, 1, 0, 0), (29, .iconst 4, 1, 4, 0), (30, .newarray .int, 2, 12, 0), (32, .putfield 19, 3, 11, 8),
  (35, .aload_n 0, 1, 0, 0), (36, .bipush 8, 2, 8, 0), (38, .newarray .int, 2, 12, 0), (40, .putfield 22, 3, 11, 9), (43, .aload_n 0, 1, 0, 0), (44, .bipush 24, 2, 24, 0),
  (46, .newarray .int, 2, 12, 0), (48, .putfield 25, 3, 11, 10), (51, .aload_n 0, 1, 0, 0), (52, .bipush 52, 2, 52, 0), (54, .newarray .int, 2, 12, 0), (56, .putfield 28, 3, 11, 13),
  (59, .aload_n 0, 1, 0, 0), (60, .bipush 48, 2, 48, 0), (62, .newarray .int, 2, 12, 0), (64, .putfield 31, 3, 11, 14), (67, .aload_n 0, 1, 0, 0), (68, .bipush 10, 2, 10, 0),
  (70, .newarray .int, 2, 12, 0), (72, .putfield 34, 3, 11, 18), (75, .aload_n 0, 1, 0, 0), (76, .sipush 182, 3, 182, 0), (79, .newarray .int, 2, 12, 0), (81, .putfield 37, 3, 11, 21),
  (84, .aload_n 0, 1, 0, 0), (85, .bipush 64, 2, 64, 0), (87, .newarray .int, 2, 12, 0), (89, .putfield 40, 3, 11, 24), (92, .aload_n 0, 1, 0, 0), (93, .bipush 6, 2, 6, 0),
  (95, .newarray .int, 2, 12, 0), (97, .putfield 43, 3, 11, 26), (100, .aload_n 0, 1, 0, 0), (101, .bipush 6, 2, 6, 0), (103, .newarray .int, 2, 12, 0), (105, .putfield 46, 3, 11, 27),
  (108, .aload_n 0, 1, 0, 0), (109, .bipush 6, 2, 6, 0), (111, .newarray .boolean, 2, 13, 0), (113, .putfield 49, 3, 11, 28), (116, .aload_n 0, 1, 0, 0), (117, .bipush 100, 2, 100, 0),
  (119, .newarray .int, 2, 12, 0), (121, .putfield 53, 3, 11, 32), (124, .aload_n 0, 1, 0, 0), (125, .bipush 100, 2, 100, 0), (127, .newarray .int, 2, 12, 0), (129, .putfield 56, 3, 11, 33),
  (132, .aload_n 0, 1, 0, 0), (133, .iconst 2, 1, 2, 0), (134, .newarray .boolean, 2, 13, 0), (136, .putfield 59, 3, 11, 35), (139, .aload_n 0, 1, 0, 0), (140, .bipush 26, 2, 26, 0),
  (142, .newarray .int, 2, 12, 0), (144, .putfield 62, 3, 11, 36), (147, .aload_n 0, 1, 0, 0), (148, .iconst 1, 1, 1, 0), (149, .putfield 65, 3, 11, 1), (152, .return_, 1, 0, 0)]
def gc_107 : List gc_O := [
  (0, .lload_n 0, 1, 0, 0), (1, .lload_n 2, 1, 2, 0), (2, .lcmp, 1, 0, 0), (3, .ifCond .lt 14, 3, 17, 0), (6, .lload_n 0, 1, 0, 0), (7, .lload 4, 2, 4, 0),
  (9, .lcmp, 1, 0, 0), (10, .ifCond .gt 7, 3, 17, 0), (13, .iconst 1, 1, 1, 0), (14, .goto 4, 3, 18, 0), (17, .iconst 0, 1, 0, 0), (18, .ireturn, 1, 0, 0)]
def gc_108 : List gc_O := [
  (0, .iload_n 0, 1, 0, 0), (1, .iload_n 1, 1, 1, 0), (2, .ishr, 1, 0, 0), (3, .iconst 1, 1, 1, 0), (4, .iand, 1, 0, 0), (5, .iconst 1, 1, 1, 0),
  (6, .if_icmp .ne 7, 3, 13, 0), (9, .iconst 1, 1, 1, 0), (10, .goto 4, 3, 14, 0), (13, .iconst 0, 1, 0, 0), (14, .ireturn, 1, 0, 0)]
def gc_109 : List gc_O := [
  (0, .iconst 0, 1, 0, 0), (1, .istore_n 1, 1, 1, 0), (2, .iconst 0, 1, 0, 0), (3, .istore_n 2, 1, 2, 0), (4, .iload_n 2, 1, 2, 0), (5, .bipush 8, 2, 8, 0),
  (7, .if_icmp .ge 17, 3, 24, 0), (10, .iload_n 1, 1, 1, 0), (11, .iload_n 0, 1, 0, 0), (12, .iload_n 2, 1, 2, 0), (13, .ishr, 1, 0, 0), (14, .iconst 1, 1, 1, 0),
  (15, .iand, 1, 0, 0), (16, .iadd, 1, 0, 0), (17, .istore_n 1, 1, 1, 0), (18, .iinc 2 1, 3, 1, 0), (21, .goto (-17), 3, 4, 0), (24, .iload_n 1, 1, 1, 0),
  (25, .ireturn, 1, 0, 0)]
def gc_110 : List gc_O := [
  (0, .iload_n 1, 1, 1, 0), (1, .i2l, 1, 0, 0), (2, .lconst 0, 1, 0, 0), (3, .ldc2_w 69, 3, 255, 0), (6, .invokestatic 71, 3, 107, 3), (9, .ifCond .ne 6, 3, 15, 0),
  (12, .bipush (-2), 2, 2, 1), (14, .ireturn, 1, 0, 0), (15, .aload_n 0, 1, 0, 0), (16, .getfield 75, 3, 11, 15), (19, .bipush 48, 2, 48, 0), (21, .if_icmp .ne 6, 3, 27, 0),
  (24, .bipush (-4), 2, 4, 1), (26, .ireturn, 1, 0, 0), (27, .aload_n 0, 1, 0, 0), (28, .getfield 31, 3, 11, 14), (31, .aload_n 0, 1, 0, 0), (32, .getfield 75, 3, 11, 15),
  (35, .iload_n 1, 1, 1, 0), (36, .iastore, 1, 0, 0), (37, .aload_n 0, 1, 0, 0), (38, .dup, 1, 0, 0), (39, .getfield 75, 3, 11, 15), (42, .iconst 1, 1, 1, 0),
  (43, .iadd, 1, 0, 0), (44, .putfield 75, 3, 11, 15), (47, .aload_n 0, 1, 0, 0), (48, .getfield 75, 3, 11, 15), (51, .ireturn, 1, 0, 0)]
def gc_111 : List gc_O := [
  (0, .aload_n 0, 1, 0, 0), (1, .getfield 75, 3, 11, 15), (4, .istore_n 1, 1, 1, 0), (5, .aload_n 0, 1, 0, 0), (6, .iconst 0, 1, 0, 0), (7, .putfield 75, 3, 11, 15),
  (10, .iload_n 1, 1, 1, 0), (11, .ireturn, 1, 0, 0)]
def gc_112 : List gc_O := [
  (0, .aload_n 0, 1, 0, 0), (1, .getfield 78, 3, 11, 17), (4, .bipush (-99), 2, 99, 1), (6, .if_icmp .ne 29, 3, 35, 0), (9, .aload_n 0, 1, 0, 0), (10, .getfield 81, 3, 11, 16),
  (13, .aload_n 0, 1, 0, 0), (14, .getfield 75, 3, 11, 15), (17, .if_icmp .ge 18, 3, 35, 0), (20, .aload_n 0, 1, 0, 0), (21, .getfield 31, 3, 11, 14), (24, .aload_n 0, 1, 0, 0),
  (25, .getfield 81, 3, 11, 16), (28, .iaload, 1, 0, 0), (29, .bipush 48, 2, 48, 0), (31, .isub, 1, 0, 0), (32, .goto 4, 3, 36, 0), (35, .iconst (-1), 1, 1, 1),
  (36, .istore_n 3, 1, 3, 0), (37, .iload_n 3, 1, 3, 0), (38, .i2l, 1, 0, 0), (39, .iload_n 1, 1, 1, 0), (40, .i2l, 1, 0, 0), (41, .iload_n 2, 1, 2, 0),
  (42, .i2l, 1, 0, 0), (43, .invokestatic 71, 3, 107, 3), (46, .ifCond .ne 29, 3, 75, 0), (49, .aload_n 0, 1, 0, 0), (50, .aload_n 0, 1, 0, 0), (51, .getfield 78, 3, 11, 17),
  (54, .bipush (-99), 2, 99, 1), (56, .if_icmp .ne 10, 3, 66, 0), (59, .aload_n 0, 1, 0, 0), (60, .getfield 81, 3, 11, 16), (63, .goto 7, 3, 70, 0), (66, .aload_n 0, 1, 0, 0),
  (67, .getfield 78, 3, 11, 17), (70, .putfield 78, 3, 11, 17), (73, .iload_n 1, 1, 1, 0), (74, .ireturn, 1, 0, 0), (75, .aload_n 0, 1, 0, 0), (76, .dup, 1, 0, 0),
  (77, .getfield 81, 3, 11, 16), (80, .iconst 1, 1, 1, 0), (81, .iadd, 1, 0, 0), (82, .putfield 81, 3, 11, 16), (85, .iload_n 3, 1, 3, 0), (86, .ireturn, 1, 0, 0)]
def gc_113 : List gc_O := [
  (0, .iload_n 0, 1, 0, 0), (1, .bipush 69, 2, 69, 0), (3, .if_icmp .eq 15, 3, 18, 0), (6, .iload_n 0, 1, 0, 0), (7, .bipush 87, 2, 87, 0), (9, .if_icmp .eq 9, 3, 18, 0),
  (12, .iload_n 0, 1, 0, 0), (13, .bipush 45, 2, 45, 0), (15, .if_icmp .ne 7, 3, 22, 0), (18, .iconst 1, 1, 1, 0), (19, .goto 4, 3, 23, 0), (22, .iconst 0, 1, 0, 0),
  (23, .ireturn, 1, 0, 0)]
def gc_114 : List gc_O := [
  (0, .aload_n 0, 1, 0, 0), (1, .iconst 0, 1, 0, 0), (2, .putfield 81, 3, 11, 16), (5, .aload_n 0, 1, 0, 0), (6, .bipush (-99), 2, 99, 1), (8, .putfield 78, 3, 11, 17),
  (11, .aload_n 0, 1, 0, 0), (12, .iconst 0, 1, 0, 0), (13, .putfield 84, 3, 11, 11), (16, .aload_n 0, 1, 0, 0), (17, .iconst 0, 1, 0, 0), (18, .putfield 87, 3, 11, 12),
  (21, .aload_n 0, 1, 0, 0), (22, .getfield 75, 3, 11, 15), (25, .ifCond .eq 14, 3, 39, 0), (28, .aload_n 0, 1, 0, 0), (29, .getfield 31, 3, 11, 14), (32, .iconst 0, 1, 0, 0),
  (33, .iaload, 1, 0, 0), (34, .bipush 83, 2, 83, 0), (36, .if_icmp .eq 5, 3, 41, 0), (39, .iconst 0, 1, 0, 0), (40, .ireturn, 1, 0, 0), (41, .aload_n 0, 1, 0, 0),
  (42, .iconst 1, 1, 1, 0), (43, .putfield 81, 3, 11, 16), (46, .aload_n 0, 1, 0, 0), (47, .getfield 19, 3, 11, 8), (50, .iconst 1, 1, 1, 0), (51, .aload_n 0, 1, 0, 0),
  (52, .iconst 0, 1, 0, 0), (53, .bipush 9, 2, 9, 0), (55, .invokevirtual 90, 3, 112, 2), (58, .iastore, 1, 0, 0), (59, .aload_n 0, 1, 0, 0), (60, .getfield 19, 3, 11, 8),
  (63, .iconst 2, 1, 2, 0), (64, .aload_n 0, 1, 0, 0), (65, .iconst 1, 1, 1, 0), (66, .bipush 9, 2, 9, 0), (68, .invokevirtual 90, 3, 112, 2), (71, .iastore, 1, 0, 0),
  (72, .aload_n 0, 1, 0, 0), (73, .getfield 19, 3, 11, 8), (76, .iconst 3, 1, 3, 0), (77, .aload_n 0, 1, 0, 0), (78, .iconst 0, 1, 0, 0), (79, .bipush 9, 2, 9, 0),
  (81, .invokevirtual 90, 3, 112, 2), (84, .iastore, 1, 0, 0), (85, .aload_n 0, 1, 0, 0), (86, .getfield 78, 3, 11, 17), (89, .bipush (-99), 2, 99, 1), (91, .if_icmp .ne 107, 3, 198, 0),
  (94, .aload_n 0, 1, 0, 0), (95, .getfield 81, 3, 11, 16), (98, .aload_n 0, 1, 0, 0), (99, .getfield 75, 3, 11, 15), (102, .if_icmp .ge 96, 3, 198, 0), (105, .aload_n 0, 1, 0, 0),
  (106, .getfield 84, 3, 11, 11), (109, .bipush 8, 2, 8, 0), (111, .if_icmp .ge 87, 3, 198, 0), (114, .aload_n 0, 1, 0, 0), (115, .getfield 31, 3, 11, 14), (118, .aload_n 0, 1, 0, 0),
  (119, .getfield 81, 3, 11, 16), (122, .iaload, 1, 0, 0), (123, .invokestatic 94, 3, 113, 1), (126, .ifCond .eq 72, 3, 198, 0), (129, .aload_n 0, 1, 0, 0), (130, .getfield 22, 3, 11, 9),
  (133, .aload_n 0, 1, 0, 0), (134, .getfield 84, 3, 11, 11), (137, .aload_n 0, 1, 0, 0), (138, .getfield 31, 3, 11, 14), (141, .aload_n 0, 1, 0, 0), (142, .getfield 81, 3, 11, 16),
  (145, .iaload, 1, 0, 0), (146, .bipush 69, 2, 69, 0), (148, .if_icmp .ne 7, 3, 155, 0), (151, .iconst 1, 1, 1, 0), (152, .goto 22, 3, 174, 0), (155, .aload_n 0, 1, 0, 0),
  (156, .getfield 31, 3, 11, 14), (159, .aload_n 0, 1, 0, 0), (160, .getfield 81, 3, 11, 16), (163, .iaload, 1, 0, 0), (164, .bipush 87, 2, 87, 0), (166, .if_icmp .ne 7, 3, 173, 0),
  (169, .iconst (-1), 1, 1, 1), (170, .goto 4, 3, 174, 0), (173, .iconst 0, 1, 0, 0), (174, .iastore, 1, 0, 0), (175, .aload_n 0, 1, 0, 0), (176, .dup, 1, 0, 0),
  (177, .getfield 84, 3, 11, 11), (180, .iconst 1, 1, 1, 0), (181, .iadd, 1, 0, 0), (182, .putfield 84, 3, 11, 11), (185, .aload_n 0, 1, 0, 0), (186, .dup, 1, 0, 0),
  (187, .getfield 81, 3, 11, 16), (190, .iconst 1, 1, 1, 0), (191, .iadd, 1, 0, 0), (192, .putfield 81, 3, 11, 16), (195, .goto (-110), 3, 85, 0), (198, .aload_n 0, 1, 0, 0),
  (199, .getfield 78, 3, 11, 17), (202, .bipush (-99), 2, 99, 1), (204, .if_icmp .ne 55, 3, 259, 0), (207, .aload_n 0, 1, 0, 0), (208, .getfield 81, 3, 11, 16), (211, .aload_n 0, 1, 0, 0),
  (212, .getfield 75, 3, 11, 15), (215, .if_icmp .ge 44, 3, 259, 0), (218, .aload_n 0, 1, 0, 0), (219, .getfield 31, 3, 11, 14), (222, .aload_n 0, 1, 0, 0), (223, .getfield 81, 3, 11, 16),
  (226, .iaload, 1, 0, 0), (227, .bipush 78, 2, 78, 0), (229, .if_icmp .ne 19, 3, 248, 0), (232, .aload_n 0, 1, 0, 0), (233, .getfield 87, 3, 11, 12), (236, .bipush 6, 2, 6, 0),
  (238, .if_icmp .ge 10, 3, 248, 0), (241, .aload_n 0, 1, 0, 0), (242, .invokevirtual 98, 3, 115, 0), (245, .goto (-47), 3, 198, 0), (248, .aload_n 0, 1, 0, 0), (249, .aload_n 0, 1, 0, 0),
  (250, .getfield 81, 3, 11, 16), (253, .putfield 78, 3, 11, 17), (256, .goto (-58), 3, 198, 0), (259, .aload_n 0, 1, 0, 0), (260, .getfield 78, 3, 11, 17), (263, .ireturn, 1, 0, 0)]
def gc_115 : List gc_O := [
  (0, .aload_n 0, 1, 0, 0), (1, .dup, 1, 0, 0), (2, .getfield 81, 3, 11, 16), (5, .iconst 1, 1, 1, 0), (6, .iadd, 1, 0, 0), (7, .putfield 81, 3, 11, 16),
  (10, .iconst 4, 1, 4, 0), (11, .aload_n 0, 1, 0, 0), (12, .getfield 87, 3, 11, 12), (15, .imul, 1, 0, 0), (16, .istore_n 1, 1, 1, 0), (17, .aload_n 0, 1, 0, 0),
  (18, .getfield 25, 3, 11, 10), (21, .iload_n 1, 1, 1, 0), (22, .aload_n 0, 1, 0, 0), (23, .iconst 0, 1, 0, 0), (24, .bipush 9, 2, 9, 0), (26, .invokevirtual 90, 3, 112, 2),
  (29, .iastore, 1, 0, 0), (30, .aload_n 0, 1, 0, 0), (31, .getfield 25, 3, 11, 10), (34, .iload_n 1, 1, 1, 0), (35, .iconst 1, 1, 1, 0), (36, .iadd, 1, 0, 0),
  (37, .aload_n 0, 1, 0, 0), (38, .iconst 1, 1, 1, 0), (39, .bipush 9, 2, 9, 0), (41, .invokevirtual 90, 3, 112, 2), (44, .iastore, 1, 0, 0), (45, .aload_n 0, 1, 0, 0),
  (46, .getfield 25, 3, 11, 10), (49, .iload_n 1, 1, 1, 0), (50, .iconst 2, 1, 2, 0), (51, .iadd, 1, 0, 0), (52, .aload_n 0, 1, 0, 0), (53, .iconst 0, 1, 0, 0),
  (54, .bipush 9, 2, 9, 0), (56, .invokevirtual 90, 3, 112, 2), (59, .iastore, 1, 0, 0), (60, .aload_n 0, 1, 0, 0), (61, .getfield 25, 3, 11, 10), (64, .iload_n 1, 1, 1, 0),
  (65, .iconst 3, 1, 3, 0), (66, .iadd, 1, 0, 0), (67, .aload_n 0, 1, 0, 0), (68, .iconst 0, 1, 0, 0), (69, .iconst 3, 1, 3, 0), (70, .invokevirtual 90, 3, 112, 2),
  (73, .iastore, 1, 0, 0), (74, .aload_n 0, 1, 0, 0), (75, .dup, 1, 0, 0), (76, .getfield 87, 3, 11, 12), (79, .iconst 1, 1, 1, 0), (80, .iadd, 1, 0, 0),
  (81, .putfield 87, 3, 11, 12), (84, .return_, 1, 0, 0)]
def gc_116 : List gc_O := [
  (0, .aload_n 0, 1, 0, 0), (1, .invokevirtual 100, 3, 114, 0), (4, .ireturn, 1, 0, 0)]
def gc_117 : List gc_O := [
  (0, .aload_n 0, 1, 0, 0), (1, .invokevirtual 100, 3, 114, 0), (4, .bipush (-99), 2, 99, 1), (6, .if_icmp .eq 6, 3, 12, 0), (9, .bipush (-3), 2, 3, 1), (11, .ireturn, 1, 0, 0),
  (12, .aload_n 0, 1, 0, 0), (13, .aload_n 0, 1, 0, 0), (14, .getfield 19, 3, 11, 8), (17, .iconst 1, 1, 1, 0), (18, .iaload, 1, 0, 0), (19, .putfield 104, 3, 11, 0),
  (22, .aload_n 0, 1, 0, 0), (23, .aload_n 0, 1, 0, 0), (24, .getfield 19, 3, 11, 8), (27, .iconst 2, 1, 2, 0), (28, .iaload, 1, 0, 0), (29, .putfield 65, 3, 11, 1),
  (32, .aload_n 0, 1, 0, 0), (33, .aload_n 0, 1, 0, 0), (34, .getfield 19, 3, 11, 8), (37, .iconst 3, 1, 3, 0), (38, .iaload, 1, 0, 0), (39, .putfield 107, 3, 11, 2),
  (42, .aload_n 0, 1, 0, 0), (43, .aload_n 0, 1, 0, 0), (44, .getfield 84, 3, 11, 11), (47, .putfield 110, 3, 11, 3), (50, .aload_n 0, 1, 0, 0), (51, .aload_n 0, 1, 0, 0),
  (52, .getfield 87, 3, 11, 12), (55, .putfield 113, 3, 11, 4), (58, .iconst 0, 1, 0, 0), (59, .istore_n 1, 1, 1, 0), (60, .iload_n 1, 1, 1, 0), (61, .bipush 8, 2, 8, 0),
  (63, .if_icmp .ge 21, 3, 84, 0), (66, .aload_n 0, 1, 0, 0), (67, .getfield 7, 3, 11, 5), (70, .iload_n 1, 1, 1, 0), (71, .aload_n 0, 1, 0, 0), (72, .getfield 22, 3, 11, 9),
  (75, .iload_n 1, 1, 1, 0), (76, .iaload, 1, 0, 0), (77, .iastore, 1, 0, 0), (78, .iinc 1 1, 3, 1, 0), (81, .goto (-21), 3, 60, 0), (84, .iconst 0, 1, 0, 0),
  (85, .istore_n 1, 1, 1, 0), (86, .iload_n 1, 1, 1, 0), (87, .bipush 24, 2, 24, 0), (89, .if_icmp .ge 21, 3, 110, 0), (92, .aload_n 0, 1, 0, 0), (93, .getfield 16, 3, 11, 7),
  (96, .iload_n 1, 1, 1, 0), (97, .aload_n 0, 1, 0, 0), (98, .getfield 25, 3, 11, 10), (101, .iload_n 1, 1, 1, 0), (102, .iaload, 1, 0, 0), (103, .iastore, 1, 0, 0),
  (104, .iinc 1 1, 3, 1, 0), (107, .goto (-21), 3, 86, 0), (110, .iconst 0, 1, 0, 0), (111, .istore_n 1, 1, 1, 0), (112, .iload_n 1, 1, 1, 0), (113, .bipush 13, 2, 13, 0),
  (115, .if_icmp .ge 16, 3, 131, 0), (118, .aload_n 0, 1, 0, 0), (119, .getfield 28, 3, 11, 13), (122, .iload_n 1, 1, 1, 0), (123, .iconst 0, 1, 0, 0), (124, .iastore, 1, 0, 0),
  (125, .iinc 1 1, 3, 1, 0), (128, .goto (-16), 3, 112, 0), (131, .aload_n 0, 1, 0, 0), (132, .iconst 0, 1, 0, 0), (133, .putfield 116, 3, 11, 19), (136, .aload_n 0, 1, 0, 0),
  (137, .getfield 59, 3, 11, 35), (140, .iconst 0, 1, 0, 0), (141, .iconst 0, 1, 0, 0), (142, .bastore, 1, 0, 0), (143, .aload_n 0, 1, 0, 0), (144, .getfield 59, 3, 11, 35),
  (147, .iconst 1, 1, 1, 0), (148, .iconst 0, 1, 0, 0), (149, .bastore, 1, 0, 0), (150, .bipush 10, 2, 10, 0), (152, .aload_n 0, 1, 0, 0), (153, .getfield 110, 3, 11, 3),
  (156, .imul, 1, 0, 0), (157, .aload_n 0, 1, 0, 0), (158, .getfield 113, 3, 11, 4), (161, .iadd, 1, 0, 0), (162, .ireturn, 1, 0, 0)]
def gc_118 : List gc_O := [
  (0, .iload_n 1, 1, 1, 0), (1, .i2l, 1, 0, 0), (2, .lconst 0, 1, 0, 0), (3, .aload_n 0, 1, 0, 0), (4, .getfield 113, 3, 11, 4), (7, .iconst 1, 1, 1, 0),
  (8, .isub, 1, 0, 0), (9, .i2l, 1, 0, 0), (10, .invokestatic 71, 3, 107, 3), (13, .ireturn, 1, 0, 0)]
def gc_119 : List gc_O := [
  (0, .iload_n 1, 1, 1, 0), (1, .i2l, 1, 0, 0), (2, .lconst 0, 1, 0, 0), (3, .ldc2_w 119, 3, 9, 0), (6, .invokestatic 71, 3, 107, 3), (9, .ifCond .eq 12, 3, 21, 0),
  (12, .aload_n 0, 1, 0, 0), (13, .getfield 28, 3, 11, 13), (16, .iload_n 1, 1, 1, 0), (17, .iaload, 1, 0, 0), (18, .goto 5, 3, 23, 0), (21, .bipush (-2), 2, 2, 1),
  (23, .ireturn, 1, 0, 0)]
def gc_120 : List gc_O := [
  (0, .iload_n 1, 1, 1, 0), (1, .i2l, 1, 0, 0), (2, .lconst 0, 1, 0, 0), (3, .aload_n 0, 1, 0, 0), (4, .getfield 110, 3, 11, 3), (7, .iconst 1, 1, 1, 0),
  (8, .isub, 1, 0, 0), (9, .i2l, 1, 0, 0), (10, .invokestatic 71, 3, 107, 3), (13, .ifCond .eq 12, 3, 25, 0), (16, .aload_n 0, 1, 0, 0), (17, .getfield 7, 3, 11, 5),
  (20, .iload_n 1, 1, 1, 0), (21, .iaload, 1, 0, 0), (22, .goto 5, 3, 27, 0), (25, .bipush (-99), 2, 99, 1), (27, .ireturn, 1, 0, 0)]
def gc_121 : List gc_O := [
  (0, .aload_n 0, 1, 0, 0), (1, .getfield 28, 3, 11, 13), (4, .bipush 13, 2, 13, 0), (6, .iload_n 1, 1, 1, 0), (7, .imul, 1, 0, 0), (8, .aload_n 0, 1, 0, 0),
  (9, .getfield 16, 3, 11, 7), (12, .iconst 4, 1, 4, 0), (13, .iload_n 2, 1, 2, 0), (14, .imul, 1, 0, 0), (15, .iaload, 1, 0, 0), (16, .iadd, 1, 0, 0),
  (17, .iaload, 1, 0, 0), (18, .aload_n 0, 1, 0, 0), (19, .getfield 16, 3, 11, 7), (22, .iconst 4, 1, 4, 0), (23, .iload_n 2, 1, 2, 0), (24, .imul, 1, 0, 0),
  (25, .iconst 1, 1, 1, 0), (26, .iadd, 1, 0, 0), (27, .iaload, 1, 0, 0), (28, .if_icmp .lt 7, 3, 35, 0), (31, .iconst 1, 1, 1, 0), (32, .goto 4, 3, 36, 0),
  (35, .iconst 0, 1, 0, 0), (36, .ireturn, 1, 0, 0)]
def gc_122 : List gc_O := [
  (0, .iconst 0, 1, 0, 0), (1, .istore_n 2, 1, 2, 0), (2, .iconst 0, 1, 0, 0), (3, .istore_n 3, 1, 3, 0), (4, .iload_n 3, 1, 3, 0), (5, .aload_n 0, 1, 0, 0),
  (6, .getfield 113, 3, 11, 4), (9, .if_icmp .ge 28, 3, 37, 0), (12, .iload_n 2, 1, 2, 0), (13, .aload_n 0, 1, 0, 0), (14, .iload_n 1, 1, 1, 0), (15, .iload_n 3, 1, 3, 0),
  (16, .invokevirtual 121, 3, 121, 2), (19, .ifCond .eq 9, 3, 28, 0), (22, .iconst 1, 1, 1, 0), (23, .iload_n 3, 1, 3, 0), (24, .ishl, 1, 0, 0), (25, .goto 4, 3, 29, 0),
  (28, .iconst 0, 1, 0, 0), (29, .ior, 1, 0, 0), (30, .istore_n 2, 1, 2, 0), (31, .iinc 3 1, 3, 1, 0), (34, .goto (-30), 3, 4, 0), (37, .iload_n 2, 1, 2, 0),
  (38, .ireturn, 1, 0, 0)]
def gc_123 : List gc_O := [
  (0, .aload_n 0, 1, 0, 0), (1, .iload_n 1, 1, 1, 0), (2, .invokevirtual 125, 3, 118, 1), (5, .ifCond .ne 5, 3, 10, 0), (8, .iconst (-1), 1, 1, 1), (9, .ireturn, 1, 0, 0),
  (10, .iload_n 2, 1, 2, 0), (11, .i2l, 1, 0, 0), (12, .lconst 0, 1, 0, 0), (13, .ldc2_w 128, 3, 3, 0), (16, .invokestatic 71, 3, 107, 3), (19, .ifCond .eq 14, 3, 33, 0),
  (22, .aload_n 0, 1, 0, 0), (23, .getfield 16, 3, 11, 7), (26, .iconst 4, 1, 4, 0), (27, .iload_n 1, 1, 1, 0), (28, .imul, 1, 0, 0), (29, .iload_n 2, 1, 2, 0),
  (30, .iadd, 1, 0, 0), (31, .iaload, 1, 0, 0), (32, .ireturn, 1, 0, 0), (33, .iload_n 2, 1, 2, 0), (34, .iconst 4, 1, 4, 0), (35, .if_icmp .ne 20, 3, 55, 0),
  (38, .aload_n 0, 1, 0, 0), (39, .iconst 0, 1, 0, 0), (40, .iload_n 1, 1, 1, 0), (41, .invokevirtual 121, 3, 121, 2), (44, .ifCond .eq 7, 3, 51, 0), (47, .iconst 1, 1, 1, 0),
  (48, .goto 9, 3, 57, 0), (51, .iconst 0, 1, 0, 0), (52, .goto 5, 3, 57, 0), (55, .bipush (-2), 2, 2, 1), (57, .ireturn, 1, 0, 0)]
def gc_124 : List gc_O := [
  (0, .aload_n 0, 1, 0, 0), (1, .getfield 28, 3, 11, 13), (4, .bipush 11, 2, 11, 0), (6, .iaload, 1, 0, 0), (7, .ireturn, 1, 0, 0)]
def gc_125 : List gc_O := [
  (0, .bipush 13, 2, 13, 0), (2, .iload_n 1, 1, 1, 0), (3, .imul, 1, 0, 0), (4, .istore 4, 2, 4, 0), (6, .iconst 0, 1, 0, 0), (7, .istore 5, 2, 5, 0),
  (9, .iload 5, 2, 5, 0), (11, .bipush 10, 2, 10, 0), (13, .if_icmp .ge 17, 3, 30, 0), (16, .aload_n 0, 1, 0, 0), (17, .getfield 34, 3, 11, 18), (20, .iload 5, 2, 5, 0),
  (22, .iconst 0, 1, 0, 0), (23, .iastore, 1, 0, 0), (24, .iinc 5 1, 3, 1, 0), (27, .goto (-18), 3, 9, 0), (30, .iconst 0, 1, 0, 0), (31, .istore 5, 2, 5, 0),
  (33, .iload 5, 2, 5, 0), (35, .bipush 10, 2, 10, 0), (37, .if_icmp .ge 60, 3, 97, 0), (40, .iload 5, 2, 5, 0), (42, .iload_n 2, 1, 2, 0), (43, .iadd, 1, 0, 0),
  (44, .istore 6, 2, 6, 0), (46, .iload 6, 2, 6, 0), (48, .i2l, 1, 0, 0), (49, .lconst 0, 1, 0, 0), (50, .ldc2_w 119, 3, 9, 0), (53, .invokestatic 71, 3, 107, 3),
  (56, .ifCond .eq 35, 3, 91, 0), (59, .aload_n 0, 1, 0, 0), (60, .getfield 28, 3, 11, 13), (63, .iload 4, 2, 4, 0), (65, .iload 5, 2, 5, 0), (67, .iadd, 1, 0, 0),
  (68, .iaload, 1, 0, 0), (69, .ifCond .le 22, 3, 91, 0), (72, .aload_n 0, 1, 0, 0), (73, .getfield 34, 3, 11, 18), (76, .iload 6, 2, 6, 0), (78, .aload_n 0, 1, 0, 0),
  (79, .getfield 28, 3, 11, 13), (82, .iload 4, 2, 4, 0), (84, .iload 5, 2, 5, 0), (86, .iadd, 1, 0, 0), (87, .iaload, 1, 0, 0), (88, .iconst 1, 1, 1, 0),
  (89, .isub, 1, 0, 0), (90, .iastore, 1, 0, 0), (91, .iinc 5 1, 3, 1, 0), (94, .goto (-61), 3, 33, 0), (97, .iconst 0, 1, 0, 0), (98, .istore 5, 2, 5, 0),
  (100, .iload 5, 2, 5, 0), (102, .bipush 10, 2, 10, 0), (104, .if_icmp .ge 67, 3, 171, 0), (107, .aload_n 0, 1, 0, 0), (108, .getfield 34, 3, 11, 18), (111, .iload 5, 2, 5, 0),
  (113, .iaload, 1, 0, 0), (114, .iload 5, 2, 5, 0), (116, .iload_n 3, 1, 3, 0), (117, .if_icmp .ne 10, 3, 127, 0), (120, .aload_n 0, 1, 0, 0), (121, .getfield 65, 3, 11, 1),
  (124, .goto 4, 3, 128, 0), (127, .iconst 0, 1, 0, 0), (128, .iadd, 1, 0, 0), (129, .istore 6, 2, 6, 0), (131, .aload_n 0, 1, 0, 0), (132, .getfield 28, 3, 11, 13),
  (135, .iload 4, 2, 4, 0), (137, .iload 5, 2, 5, 0), (139, .iadd, 1, 0, 0), (140, .aload_n 0, 1, 0, 0), (141, .getfield 28, 3, 11, 13), (144, .iload 4, 2, 4, 0),
  (146, .bipush 10, 2, 10, 0), (148, .iadd, 1, 0, 0), (149, .iaload, 1, 0, 0), (150, .iload 5, 2, 5, 0), (152, .invokestatic 130, 3, 108, 2), (155, .ifCond .eq 7, 3, 162, 0),
  (158, .iconst 0, 1, 0, 0), (159, .goto 5, 3, 164, 0), (162, .iload 6, 2, 6, 0), (164, .iastore, 1, 0, 0), (165, .iinc 5 1, 3, 1, 0), (168, .goto (-68), 3, 100, 0),
  (171, .return_, 1, 0, 0)]
def gc_126 : List gc_O := [
  (0, .aload_n 0, 1, 0, 0), (1, .getfield 16, 3, 11, 7), (4, .iconst 4, 1, 4, 0), (5, .iload_n 1, 1, 1, 0), (6, .imul, 1, 0, 0), (7, .iconst 2, 1, 2, 0),
  (8, .iadd, 1, 0, 0), (9, .iaload, 1, 0, 0), (10, .istore 4, 2, 4, 0), (12, .aload_n 0, 1, 0, 0), (13, .getfield 16, 3, 11, 7), (16, .iconst 4, 1, 4, 0),
  (17, .iload_n 1, 1, 1, 0), (18, .imul, 1, 0, 0), (19, .iconst 3, 1, 3, 0), (20, .iadd, 1, 0, 0), (21, .iaload, 1, 0, 0), (22, .tableswitch 65 0 2 #[26, 37, 49], 26, 0, 0),
  (48, .iload_n 2, 1, 2, 0), (49, .ifCond .eq 8, 3, 57, 0), (52, .iload 4, 2, 4, 0), (54, .goto 4, 3, 58, 0), (57, .iconst 0, 1, 0, 0), (58, .ireturn, 1, 0, 0),
  (59, .iload_n 2, 1, 2, 0), (60, .ifCond .eq 7, 3, 67, 0), (63, .iconst 0, 1, 0, 0), (64, .goto 6, 3, 70, 0), (67, .iload 4, 2, 4, 0), (69, .ineg, 1, 0, 0),
  (70, .ireturn, 1, 0, 0), (71, .iload_n 2, 1, 2, 0), (72, .ifCond .eq 13, 3, 85, 0), (75, .iload_n 3, 1, 3, 0), (76, .iconst 1, 1, 1, 0), (77, .if_icmp .ne 8, 3, 85, 0),
  (80, .iload 4, 2, 4, 0), (82, .goto 4, 3, 86, 0), (85, .iconst 0, 1, 0, 0), (86, .ireturn, 1, 0, 0), (87, .iload_n 2, 1, 2, 0), (88, .ifCond .eq 9, 3, 97, 0),
  (91, .iload 4, 2, 4, 0), (93, .ineg, 1, 0, 0), (94, .goto 4, 3, 98, 0), (97, .iconst 0, 1, 0, 0), (98, .ireturn, 1, 0, 0)]
def gc_127 : List gc_O := [
  (0, .bipush 13, 2, 13, 0), (2, .iload_n 1, 1, 1, 0), (3, .imul, 1, 0, 0), (4, .istore 4, 2, 4, 0), (6, .aload_n 0, 1, 0, 0), (7, .getfield 13, 3, 11, 6),
  (10, .aload_n 0, 1, 0, 0), (11, .getfield 28, 3, 11, 13), (14, .iload 4, 2, 4, 0), (16, .bipush 12, 2, 12, 0), (18, .iadd, 1, 0, 0), (19, .iaload, 1, 0, 0),
  (20, .iaload, 1, 0, 0), (21, .istore 5, 2, 5, 0), (23, .aload_n 0, 1, 0, 0), (24, .iload_n 1, 1, 1, 0), (25, .iload 5, 2, 5, 0), (27, .iload_n 2, 1, 2, 0),
  (28, .ifCond .eq 10, 3, 38, 0), (31, .aload_n 0, 1, 0, 0), (32, .getfield 104, 3, 11, 0), (35, .goto 5, 3, 40, 0), (38, .bipush (-99), 2, 99, 1), (40, .invokevirtual 133, 3, 125, 3),
  (43, .iload_n 2, 1, 2, 0), (44, .ifCond .eq 11, 3, 55, 0), (47, .aload_n 0, 1, 0, 0), (48, .getfield 107, 3, 11, 2), (51, .ineg, 1, 0, 0), (52, .goto 4, 3, 56, 0),
  (55, .iconst 0, 1, 0, 0), (56, .istore 6, 2, 6, 0), (58, .iconst 0, 1, 0, 0), (59, .istore 7, 2, 7, 0), (61, .iload 7, 2, 7, 0), (63, .aload_n 0, 1, 0, 0),
  (64, .getfield 113, 3, 11, 4), (67, .if_icmp .ge 42, 3, 109, 0), (70, .iload 6, 2, 6, 0), (72, .iload_n 3, 1, 3, 0), (73, .iload 7, 2, 7, 0), (75, .invokestatic 130, 3, 108, 2),
  (78, .ifCond .eq 21, 3, 99, 0), (81, .aload_n 0, 1, 0, 0), (82, .iload 7, 2, 7, 0), (84, .aload_n 0, 1, 0, 0), (85, .iload_n 1, 1, 1, 0), (86, .iload 7, 2, 7, 0),
  (88, .invokevirtual 121, 3, 121, 2), (91, .iload 5, 2, 5, 0), (93, .invokevirtual 137, 3, 126, 3), (96, .goto 4, 3, 100, 0), (99, .iconst 0, 1, 0, 0), (100, .iadd, 1, 0, 0),
  (101, .istore 6, 2, 6, 0), (103, .iinc 7 1, 3, 1, 0), (106, .goto (-45), 3, 61, 0), (109, .aload_n 0, 1, 0, 0), (110, .getfield 28, 3, 11, 13), (113, .iload 4, 2, 4, 0),
  (115, .bipush 12, 2, 12, 0), (117, .iadd, 1, 0, 0), (118, .dup2, 1, 0, 0), (119, .iaload, 1, 0, 0), (120, .iconst 1, 1, 1, 0), (121, .iadd, 1, 0, 0),
  (122, .iastore, 1, 0, 0), (123, .aload_n 0, 1, 0, 0), (124, .getfield 28, 3, 11, 13), (127, .iload 4, 2, 4, 0), (129, .bipush 11, 2, 11, 0), (131, .iadd, 1, 0, 0),
  (132, .dup2, 1, 0, 0), (133, .iaload, 1, 0, 0), (134, .iload 6, 2, 6, 0), (136, .iadd, 1, 0, 0), (137, .iastore, 1, 0, 0), (138, .iload 6, 2, 6, 0),
  (140, .ireturn, 1, 0, 0)]
def gc_128 : List gc_O := [
  (0, .iconst 0, 1, 0, 0), (1, .istore_n 1, 1, 1, 0), (2, .iload_n 1, 1, 1, 0), (3, .bipush 8, 2, 8, 0), (5, .if_icmp .ge 21, 3, 26, 0), (8, .aload_n 0, 1, 0, 0),
  (9, .getfield 13, 3, 11, 6), (12, .iload_n 1, 1, 1, 0), (13, .aload_n 0, 1, 0, 0), (14, .getfield 7, 3, 11, 5), (17, .iload_n 1, 1, 1, 0), (18, .iaload, 1, 0, 0),
  (19, .iastore, 1, 0, 0), (20, .iinc 1 1, 3, 1, 0), (23, .goto (-21), 3, 2, 0), (26, .return_, 1, 0, 0)]
def gc_129 : List gc_O := [
  (0, .iconst 0, 1, 0, 0), (1, .istore_n 3, 1, 3, 0), (2, .iload_n 3, 1, 3, 0), (3, .bipush 13, 2, 13, 0), (5, .if_icmp .ge 31, 3, 36, 0), (8, .aload_n 0, 1, 0, 0),
  (9, .getfield 28, 3, 11, 13), (12, .bipush 13, 2, 13, 0), (14, .iload_n 2, 1, 2, 0), (15, .imul, 1, 0, 0), (16, .iload_n 3, 1, 3, 0), (17, .iadd, 1, 0, 0),
  (18, .aload_n 0, 1, 0, 0), (19, .getfield 28, 3, 11, 13), (22, .bipush 13, 2, 13, 0), (24, .iload_n 1, 1, 1, 0), (25, .imul, 1, 0, 0), (26, .iload_n 3, 1, 3, 0),
  (27, .iadd, 1, 0, 0), (28, .iaload, 1, 0, 0), (29, .iastore, 1, 0, 0), (30, .iinc 3 1, 3, 1, 0), (33, .goto (-31), 3, 2, 0), (36, .return_, 1, 0, 0)]
def gc_130 : List gc_O := [
  (0, .iconst 0, 1, 0, 0), (1, .istore_n 1, 1, 1, 0), (2, .iload_n 1, 1, 1, 0), (3, .bipush 13, 2, 13, 0), (5, .if_icmp .ge 29, 3, 34, 0), (8, .aload_n 0, 1, 0, 0),
  (9, .getfield 37, 3, 11, 21), (12, .bipush 13, 2, 13, 0), (14, .aload_n 0, 1, 0, 0), (15, .getfield 141, 3, 11, 20), (18, .imul, 1, 0, 0), (19, .iload_n 1, 1, 1, 0),
  (20, .iadd, 1, 0, 0), (21, .aload_n 0, 1, 0, 0), (22, .getfield 28, 3, 11, 13), (25, .iload_n 1, 1, 1, 0), (26, .iaload, 1, 0, 0), (27, .iastore, 1, 0, 0),
  (28, .iinc 1 1, 3, 1, 0), (31, .goto (-29), 3, 2, 0), (34, .aload_n 0, 1, 0, 0), (35, .aload_n 0, 1, 0, 0), (36, .getfield 141, 3, 11, 20), (39, .iconst 1, 1, 1, 0),
  (40, .iadd, 1, 0, 0), (41, .bipush 14, 2, 14, 0), (43, .irem, 1, 0, 0), (44, .putfield 141, 3, 11, 20), (47, .aload_n 0, 1, 0, 0), (48, .aload_n 0, 1, 0, 0),
  (49, .getfield 116, 3, 11, 19), (52, .bipush 14, 2, 14, 0), (54, .if_icmp .ge 12, 3, 66, 0), (57, .aload_n 0, 1, 0, 0), (58, .getfield 116, 3, 11, 19), (61, .iconst 1, 1, 1, 0),
  (62, .iadd, 1, 0, 0), (63, .goto 5, 3, 68, 0), (66, .bipush 14, 2, 14, 0), (68, .putfield 116, 3, 11, 19), (71, .return_, 1, 0, 0)]
def gc_131 : List gc_O := [
  (0, .aload_n 0, 1, 0, 0), (1, .getfield 28, 3, 11, 13), (4, .bipush 12, 2, 12, 0), (6, .iaload, 1, 0, 0), (7, .aload_n 0, 1, 0, 0), (8, .getfield 110, 3, 11, 3),
  (11, .if_icmp .ne 6, 3, 17, 0), (14, .bipush (-3), 2, 3, 1), (16, .ireturn, 1, 0, 0), (17, .aload_n 0, 1, 0, 0), (18, .invokevirtual 144, 3, 130, 0), (21, .aload_n 0, 1, 0, 0),
  (22, .invokevirtual 147, 3, 128, 0), (25, .aload_n 0, 1, 0, 0), (26, .iconst 0, 1, 0, 0), (27, .iload_n 1, 1, 1, 0), (28, .bipush 63, 2, 63, 0), (30, .invokevirtual 150, 3, 127, 3),
  (33, .pop, 1, 0, 0), (34, .aload_n 0, 1, 0, 0), (35, .iconst 0, 1, 0, 0), (36, .invokevirtual 153, 3, 122, 1), (39, .ireturn, 1, 0, 0)]
def gc_132 : List gc_O := [
  (0, .iload_n 1, 1, 1, 0), (1, .i2l, 1, 0, 0), (2, .lconst 0, 1, 0, 0), (3, .ldc2_w 119, 3, 9, 0), (6, .invokestatic 71, 3, 107, 3), (9, .ifCond .ne 6, 3, 15, 0),
  (12, .bipush (-2), 2, 2, 1), (14, .ireturn, 1, 0, 0), (15, .aload_n 0, 1, 0, 0), (16, .getfield 28, 3, 11, 13), (19, .bipush 12, 2, 12, 0), (21, .iaload, 1, 0, 0),
  (22, .aload_n 0, 1, 0, 0), (23, .getfield 110, 3, 11, 3), (26, .if_icmp .ne 6, 3, 32, 0), (29, .bipush (-3), 2, 3, 1), (31, .ireturn, 1, 0, 0), (32, .aload_n 0, 1, 0, 0),
  (33, .invokevirtual 144, 3, 130, 0), (36, .aload_n 0, 1, 0, 0), (37, .getfield 28, 3, 11, 13), (40, .bipush 10, 2, 10, 0), (42, .dup2, 1, 0, 0), (43, .iaload, 1, 0, 0),
  (44, .iconst 1, 1, 1, 0), (45, .iload_n 1, 1, 1, 0), (46, .ishl, 1, 0, 0), (47, .ixor, 1, 0, 0), (48, .iastore, 1, 0, 0), (49, .aload_n 0, 1, 0, 0),
  (50, .getfield 28, 3, 11, 13), (53, .bipush 10, 2, 10, 0), (55, .iaload, 1, 0, 0), (56, .iload_n 1, 1, 1, 0), (57, .ishr, 1, 0, 0), (58, .iconst 1, 1, 1, 0),
  (59, .iand, 1, 0, 0), (60, .ireturn, 1, 0, 0)]
def gc_133 : List gc_O := [
  (0, .aload_n 0, 1, 0, 0), (1, .getfield 116, 3, 11, 19), (4, .ifCond .ne 6, 3, 10, 0), (7, .bipush (-3), 2, 3, 1), (9, .ireturn, 1, 0, 0), (10, .aload_n 0, 1, 0, 0),
  (11, .dup, 1, 0, 0), (12, .getfield 116, 3, 11, 19), (15, .iconst 1, 1, 1, 0), (16, .isub, 1, 0, 0), (17, .putfield 116, 3, 11, 19), (20, .aload_n 0, 1, 0, 0),
  (21, .aload_n 0, 1, 0, 0), (22, .getfield 141, 3, 11, 20), (25, .bipush 13, 2, 13, 0), (27, .iadd, 1, 0, 0), (28, .bipush 14, 2, 14, 0), (30, .irem, 1, 0, 0),
  (31, .putfield 141, 3, 11, 20), (34, .iconst 0, 1, 0, 0), (35, .istore_n 1, 1, 1, 0), (36, .iload_n 1, 1, 1, 0), (37, .bipush 13, 2, 13, 0), (39, .if_icmp .ge 29, 3, 68, 0),
  (42, .aload_n 0, 1, 0, 0), (43, .getfield 28, 3, 11, 13), (46, .iload_n 1, 1, 1, 0), (47, .aload_n 0, 1, 0, 0), (48, .getfield 37, 3, 11, 21), (51, .bipush 13, 2, 13, 0),
  (53, .aload_n 0, 1, 0, 0), (54, .getfield 141, 3, 11, 20), (57, .imul, 1, 0, 0), (58, .iload_n 1, 1, 1, 0), (59, .iadd, 1, 0, 0), (60, .iaload, 1, 0, 0),
  (61, .iastore, 1, 0, 0), (62, .iinc 1 1, 3, 1, 0), (65, .goto (-29), 3, 36, 0), (68, .aload_n 0, 1, 0, 0), (69, .getfield 116, 3, 11, 19), (72, .ireturn, 1, 0, 0)]
def gc_134 : List gc_O := [
  (0, .aload_n 0, 1, 0, 0), (1, .iconst 0, 1, 0, 0), (2, .iconst 1, 1, 1, 0), (3, .invokevirtual 157, 3, 129, 2), (6, .aload_n 0, 1, 0, 0), (7, .iconst 0, 1, 0, 0),
  (8, .putfield 161, 3, 11, 22), (11, .iconst 0, 1, 0, 0), (12, .istore_n 3, 1, 3, 0), (13, .aload_n 0, 1, 0, 0), (14, .getfield 28, 3, 11, 13), (17, .bipush 25, 2, 25, 0),
  (19, .iaload, 1, 0, 0), (20, .aload_n 0, 1, 0, 0), (21, .getfield 110, 3, 11, 3), (24, .if_icmp .ge 40, 3, 64, 0), (27, .iload_n 3, 1, 3, 0), (28, .aload_n 0, 1, 0, 0),
  (29, .iconst 1, 1, 1, 0), (30, .iload_n 1, 1, 1, 0), (31, .aload_n 0, 1, 0, 0), (32, .getfield 28, 3, 11, 13), (35, .bipush 25, 2, 25, 0), (37, .iaload, 1, 0, 0),
  (38, .invokestatic 130, 3, 108, 2), (41, .iload_n 2, 1, 2, 0), (42, .invokevirtual 150, 3, 127, 3), (45, .iadd, 1, 0, 0), (46, .istore_n 3, 1, 3, 0), (47, .aload_n 0, 1, 0, 0),
  (48, .dup, 1, 0, 0), (49, .getfield 161, 3, 11, 22), (52, .aload_n 0, 1, 0, 0), (53, .iconst 1, 1, 1, 0), (54, .invokevirtual 153, 3, 122, 1), (57, .ior, 1, 0, 0),
  (58, .putfield 161, 3, 11, 22), (61, .goto (-48), 3, 13, 0), (64, .iload_n 3, 1, 3, 0), (65, .ireturn, 1, 0, 0)]
def gc_135 : List gc_O := [
  (0, .iconst 1, 1, 1, 0), (1, .aload_n 0, 1, 0, 0), (2, .getfield 110, 3, 11, 3), (5, .ishl, 1, 0, 0), (6, .iconst 1, 1, 1, 0), (7, .isub, 1, 0, 0),
  (8, .iconst 1, 1, 1, 0), (9, .aload_n 0, 1, 0, 0), (10, .getfield 28, 3, 11, 13), (13, .bipush 12, 2, 12, 0), (15, .iaload, 1, 0, 0), (16, .ishl, 1, 0, 0),
  (17, .iconst 1, 1, 1, 0), (18, .isub, 1, 0, 0), (19, .iconst (-1), 1, 1, 1), (20, .ixor, 1, 0, 0), (21, .iand, 1, 0, 0), (22, .ireturn, 1, 0, 0)]
def gc_136 : List gc_O := [
  (0, .iload_n 1, 1, 1, 0), (1, .i2l, 1, 0, 0), (2, .lconst 0, 1, 0, 0), (3, .ldc2_w 69, 3, 255, 0), (6, .invokestatic 71, 3, 107, 3), (9, .ifCond .ne 6, 3, 15, 0),
  (12, .ldc 164, 2, 1000002, 1), (14, .ireturn, 1, 0, 0), (15, .aload_n 0, 1, 0, 0), (16, .invokevirtual 147, 3, 128, 0), (19, .aload_n 0, 1, 0, 0), (20, .iload_n 1, 1, 1, 0),
  (21, .bipush 63, 2, 63, 0), (23, .invokevirtual 165, 3, 134, 2), (26, .ireturn, 1, 0, 0)]
def gc_137 : List gc_O := [
  (0, .aload_n 0, 1, 0, 0), (1, .invokevirtual 147, 3, 128, 0), (4, .aload_n 0, 1, 0, 0), (5, .iconst 0, 1, 0, 0), (6, .putfield 168, 3, 11, 23), (9, .aload_n 0, 1, 0, 0),
  (10, .iconst 0, 1, 0, 0), (11, .iload_n 1, 1, 1, 0), (12, .invokevirtual 165, 3, 134, 2), (15, .istore_n 2, 1, 2, 0), (16, .iconst 1, 1, 1, 0), (17, .istore_n 3, 1, 3, 0),
  (18, .iload_n 3, 1, 3, 0), (19, .iconst 1, 1, 1, 0), (20, .aload_n 0, 1, 0, 0), (21, .getfield 110, 3, 11, 3), (24, .ishl, 1, 0, 0), (25, .if_icmp .ge 90, 3, 115, 0),
  (28, .iload_n 3, 1, 3, 0), (29, .aload_n 0, 1, 0, 0), (30, .invokevirtual 171, 3, 135, 0), (33, .iconst (-1), 1, 1, 1), (34, .ixor, 1, 0, 0), (35, .iand, 1, 0, 0),
  (36, .ifCond .ne 73, 3, 109, 0), (39, .aload_n 0, 1, 0, 0), (40, .iload_n 3, 1, 3, 0), (41, .iload_n 1, 1, 1, 0), (42, .invokevirtual 165, 3, 134, 2), (45, .istore 4, 2, 4, 0),
  (47, .iload 4, 2, 4, 0), (49, .iload_n 2, 1, 2, 0), (50, .if_icmp .gt 23, 3, 73, 0), (53, .iload 4, 2, 4, 0), (55, .iload_n 2, 1, 2, 0), (56, .if_icmp .ne 21, 3, 77, 0),
  (59, .iload_n 3, 1, 3, 0), (60, .invokestatic 174, 3, 109, 1), (63, .aload_n 0, 1, 0, 0), (64, .getfield 168, 3, 11, 23), (67, .invokestatic 174, 3, 109, 1), (70, .if_icmp .ge 7, 3, 77, 0),
  (73, .iconst 1, 1, 1, 0), (74, .goto 4, 3, 78, 0), (77, .iconst 0, 1, 0, 0), (78, .istore 5, 2, 5, 0), (80, .aload_n 0, 1, 0, 0), (81, .iload 5, 2, 5, 0),
  (83, .ifCond .eq 7, 3, 90, 0), (86, .iload_n 3, 1, 3, 0), (87, .goto 7, 3, 94, 0), (90, .aload_n 0, 1, 0, 0), (91, .getfield 168, 3, 11, 23), (94, .putfield 168, 3, 11, 23),
  (97, .iload 5, 2, 5, 0), (99, .ifCond .eq 8, 3, 107, 0), (102, .iload 4, 2, 4, 0), (104, .goto 4, 3, 108, 0), (107, .iload_n 2, 1, 2, 0), (108, .istore_n 2, 1, 2, 0),
  (109, .iinc 3 1, 3, 1, 0), (112, .goto (-94), 3, 18, 0), (115, .iload_n 2, 1, 2, 0), (116, .ireturn, 1, 0, 0)]
def gc_138 : List gc_O := [
  (0, .aload_n 0, 1, 0, 0), (1, .bipush 63, 2, 63, 0), (3, .invokevirtual 177, 3, 137, 1), (6, .istore_n 2, 1, 2, 0), (7, .iload_n 1, 1, 1, 0), (8, .ifCond .eq 7, 3, 15, 0),
  (11, .iload_n 2, 1, 2, 0), (12, .goto 7, 3, 19, 0), (15, .aload_n 0, 1, 0, 0), (16, .getfield 168, 3, 11, 23), (19, .ireturn, 1, 0, 0)]
def gc_139 : List gc_O := [
  (0, .aload_n 0, 1, 0, 0), (1, .getfield 28, 3, 11, 13), (4, .bipush 12, 2, 12, 0), (6, .iaload, 1, 0, 0), (7, .aload_n 0, 1, 0, 0), (8, .getfield 110, 3, 11, 3),
  (11, .if_icmp .ne 6, 3, 17, 0), (14, .bipush (-99), 2, 99, 1), (16, .ireturn, 1, 0, 0), (17, .aload_n 0, 1, 0, 0), (18, .bipush 63, 2, 63, 0), (20, .invokevirtual 177, 3, 137, 1),
  (23, .istore_n 1, 1, 1, 0), (24, .bipush (-99), 2, 99, 1), (26, .istore_n 2, 1, 2, 0), (27, .iconst 0, 1, 0, 0), (28, .istore_n 3, 1, 3, 0), (29, .iload_n 3, 1, 3, 0),
  (30, .bipush 10, 2, 10, 0), (32, .if_icmp .ge 68, 3, 100, 0), (35, .aload_n 0, 1, 0, 0), (36, .getfield 28, 3, 11, 13), (39, .bipush 10, 2, 10, 0), (41, .dup2, 1, 0, 0),
  (42, .iaload, 1, 0, 0), (43, .iconst 1, 1, 1, 0), (44, .iload_n 3, 1, 3, 0), (45, .ishl, 1, 0, 0), (46, .ixor, 1, 0, 0), (47, .iastore, 1, 0, 0),
  (48, .aload_n 0, 1, 0, 0), (49, .bipush 63, 2, 63, 0), (51, .invokevirtual 177, 3, 137, 1), (54, .istore 4, 2, 4, 0), (56, .aload_n 0, 1, 0, 0), (57, .getfield 28, 3, 11, 13),
  (60, .bipush 10, 2, 10, 0), (62, .dup2, 1, 0, 0), (63, .iaload, 1, 0, 0), (64, .iconst 1, 1, 1, 0), (65, .iload_n 3, 1, 3, 0), (66, .ishl, 1, 0, 0),
  (67, .ixor, 1, 0, 0), (68, .iastore, 1, 0, 0), (69, .iload 4, 2, 4, 0), (71, .iload_n 1, 1, 1, 0), (72, .if_icmp .le 7, 3, 79, 0), (75, .iload_n 3, 1, 3, 0),
  (76, .goto 4, 3, 80, 0), (79, .iload_n 2, 1, 2, 0), (80, .istore_n 2, 1, 2, 0), (81, .iload 4, 2, 4, 0), (83, .iload_n 1, 1, 1, 0), (84, .if_icmp .le 8, 3, 92, 0),
  (87, .iload 4, 2, 4, 0), (89, .goto 4, 3, 93, 0), (92, .iload_n 1, 1, 1, 0), (93, .istore_n 1, 1, 1, 0), (94, .iinc 3 1, 3, 1, 0), (97, .goto (-68), 3, 29, 0),
  (100, .iload_n 2, 1, 2, 0), (101, .ireturn, 1, 0, 0)]
def gc_140 : List gc_O := [
  (0, .iconst 1, 1, 1, 0), (1, .istore_n 1, 1, 1, 0), (2, .iconst 2, 1, 2, 0), (3, .istore_n 2, 1, 2, 0), (4, .iload_n 2, 1, 2, 0), (5, .iload_n 0, 1, 0, 0),
  (6, .if_icmp .gt 13, 3, 19, 0), (9, .iload_n 1, 1, 1, 0), (10, .iload_n 2, 1, 2, 0), (11, .imul, 1, 0, 0), (12, .istore_n 1, 1, 1, 0), (13, .iinc 2 1, 3, 1, 0),
  (16, .goto (-12), 3, 4, 0), (19, .iload_n 1, 1, 1, 0), (20, .ireturn, 1, 0, 0)]
def gc_141 : List gc_O := [
  (0, .lload_n 0, 1, 0, 0), (1, .lconst 0, 1, 0, 0), (2, .lcmp, 1, 0, 0), (3, .ifCond .ge 8, 3, 11, 0), (6, .lload_n 0, 1, 0, 0), (7, .lneg, 1, 0, 0),
  (8, .goto 4, 3, 12, 0), (11, .lload_n 0, 1, 0, 0), (12, .lstore 4, 2, 4, 0), (14, .lload_n 2, 1, 2, 0), (15, .lstore 6, 2, 6, 0), (17, .lload 6, 2, 6, 0),
  (19, .lconst 0, 1, 0, 0), (20, .lcmp, 1, 0, 0), (21, .ifCond .eq 21, 3, 42, 0), (24, .lload 4, 2, 4, 0), (26, .lload 6, 2, 6, 0), (28, .lrem, 1, 0, 0),
  (29, .lstore 8, 2, 8, 0), (31, .lload 6, 2, 6, 0), (33, .lstore 4, 2, 4, 0), (35, .lload 8, 2, 8, 0), (37, .lstore 6, 2, 6, 0), (39, .goto (-22), 3, 17, 0),
  (42, .lload 4, 2, 4, 0), (44, .lreturn, 1, 0, 0)]
def gc_142 : List gc_O := [
  (0, .aload_n 0, 1, 0, 0), (1, .iload_n 1, 1, 1, 0), (2, .invokevirtual 125, 3, 118, 1), (5, .ifCond .ne 6, 3, 11, 0), (8, .ldc 180, 2, 1000001, 1), (10, .ireturn, 1, 0, 0),
  (11, .iconst 0, 1, 0, 0), (12, .istore_n 3, 1, 3, 0), (13, .iload_n 3, 1, 3, 0), (14, .iconst 1, 1, 1, 0), (15, .aload_n 0, 1, 0, 0), (16, .getfield 113, 3, 11, 4),
  (19, .ishl, 1, 0, 0), (20, .if_icmp .ge 20, 3, 40, 0), (23, .aload_n 0, 1, 0, 0), (24, .getfield 40, 3, 11, 24), (27, .iload_n 3, 1, 3, 0), (28, .aload_n 0, 1, 0, 0),
  (29, .iload_n 3, 1, 3, 0), (30, .invokevirtual 177, 3, 137, 1), (33, .iastore, 1, 0, 0), (34, .iinc 3 1, 3, 1, 0), (37, .goto (-24), 3, 13, 0), (40, .lconst 0, 1, 0, 0),
  (41, .lstore_n 3, 1, 3, 0), (42, .iconst 0, 1, 0, 0), (43, .istore 5, 2, 5, 0), (45, .iload 5, 2, 5, 0), (47, .iconst 1, 1, 1, 0), (48, .aload_n 0, 1, 0, 0),
  (49, .getfield 113, 3, 11, 4), (52, .ishl, 1, 0, 0), (53, .if_icmp .ge 70, 3, 123, 0), (56, .iload 5, 2, 5, 0), (58, .iload_n 1, 1, 1, 0), (59, .invokestatic 130, 3, 108, 2),
  (62, .ifCond .ne 55, 3, 117, 0), (65, .iload 5, 2, 5, 0), (67, .invokestatic 174, 3, 109, 1), (70, .invokestatic 181, 3, 140, 1), (73, .aload_n 0, 1, 0, 0), (74, .getfield 113, 3, 11, 4),
  (77, .iconst 1, 1, 1, 0), (78, .isub, 1, 0, 0), (79, .iload 5, 2, 5, 0), (81, .invokestatic 174, 3, 109, 1), (84, .isub, 1, 0, 0), (85, .invokestatic 181, 3, 140, 1),
  (88, .imul, 1, 0, 0), (89, .istore 6, 2, 6, 0), (91, .lload_n 3, 1, 3, 0), (92, .iload 6, 2, 6, 0), (94, .aload_n 0, 1, 0, 0), (95, .getfield 40, 3, 11, 24),
  (98, .iload 5, 2, 5, 0), (100, .iconst 1, 1, 1, 0), (101, .iload_n 1, 1, 1, 0), (102, .ishl, 1, 0, 0), (103, .ior, 1, 0, 0), (104, .iaload, 1, 0, 0),
  (105, .aload_n 0, 1, 0, 0), (106, .getfield 40, 3, 11, 24), (109, .iload 5, 2, 5, 0), (111, .iaload, 1, 0, 0), (112, .isub, 1, 0, 0), (113, .imul, 1, 0, 0),
  (114, .i2l, 1, 0, 0), (115, .ladd, 1, 0, 0), (116, .lstore_n 3, 1, 3, 0), (117, .iinc 5 1, 3, 1, 0), (120, .goto (-75), 3, 45, 0), (123, .lload_n 3, 1, 3, 0),
  (124, .aload_n 0, 1, 0, 0), (125, .getfield 113, 3, 11, 4), (128, .invokestatic 181, 3, 140, 1), (131, .i2l, 1, 0, 0), (132, .invokestatic 184, 3, 141, 2), (135, .lstore 5, 2, 5, 0),
  (137, .iload_n 2, 1, 2, 0), (138, .ifCond .eq 10, 3, 148, 0), (141, .lload_n 3, 1, 3, 0), (142, .lload 5, 2, 5, 0), (144, .ldiv, 1, 0, 0), (145, .goto 14, 3, 159, 0),
  (148, .aload_n 0, 1, 0, 0), (149, .getfield 113, 3, 11, 4), (152, .invokestatic 181, 3, 140, 1), (155, .i2l, 1, 0, 0), (156, .lload 5, 2, 5, 0), (158, .ldiv, 1, 0, 0),
  (159, .l2i, 1, 0, 0), (160, .ireturn, 1, 0, 0)]
def gc_143 : List gc_O := [
  (0, .iconst 1, 1, 1, 0), (1, .istore_n 1, 1, 1, 0), (2, .iconst 0, 1, 0, 0), (3, .istore_n 2, 1, 2, 0), (4, .iload_n 2, 1, 2, 0), (5, .iload_n 0, 1, 0, 0),
  (6, .if_icmp .ge 14, 3, 20, 0), (9, .iload_n 1, 1, 1, 0), (10, .bipush 10, 2, 10, 0), (12, .imul, 1, 0, 0), (13, .istore_n 1, 1, 1, 0), (14, .iinc 2 1, 3, 1, 0),
  (17, .goto (-13), 3, 4, 0), (20, .iload_n 1, 1, 1, 0), (21, .ireturn, 1, 0, 0)]
def gc_144 : List gc_O := [
  (0, .iload_n 1, 1, 1, 0), (1, .i2l, 1, 0, 0), (2, .lconst 1, 1, 1, 0), (3, .ldc2_w 188, 3, 8, 0), (6, .invokestatic 71, 3, 107, 3), (9, .ifCond .eq 19, 3, 28, 0),
  (12, .iload_n 2, 1, 2, 0), (13, .i2l, 1, 0, 0), (14, .lconst 0, 1, 0, 0), (15, .iload_n 1, 1, 1, 0), (16, .invokestatic 190, 3, 143, 1), (19, .iconst 1, 1, 1, 0),
  (20, .isub, 1, 0, 0), (21, .i2l, 1, 0, 0), (22, .invokestatic 71, 3, 107, 3), (25, .ifCond .ne 6, 3, 31, 0), (28, .bipush (-2), 2, 2, 1), (30, .ireturn, 1, 0, 0),
  (31, .aload_n 0, 1, 0, 0), (32, .invokevirtual 147, 3, 128, 0), (35, .aload_n 0, 1, 0, 0), (36, .iconst 0, 1, 0, 0), (37, .iconst 1, 1, 1, 0), (38, .invokevirtual 157, 3, 129, 2),
  (41, .iconst 0, 1, 0, 0), (42, .istore_n 3, 1, 3, 0), (43, .iload_n 3, 1, 3, 0), (44, .iload_n 1, 1, 1, 0), (45, .if_icmp .ge 67, 3, 112, 0), (48, .iload_n 2, 1, 2, 0),
  (49, .iload_n 1, 1, 1, 0), (50, .iconst 1, 1, 1, 0), (51, .isub, 1, 0, 0), (52, .iload_n 3, 1, 3, 0), (53, .isub, 1, 0, 0), (54, .invokestatic 190, 3, 143, 1),
  (57, .idiv, 1, 0, 0), (58, .bipush 10, 2, 10, 0), (60, .irem, 1, 0, 0), (61, .istore 4, 2, 4, 0), (63, .iload 4, 2, 4, 0), (65, .iconst 1, 1, 1, 0),
  (66, .if_icmp .gt 38, 3, 104, 0), (69, .aload_n 0, 1, 0, 0), (70, .getfield 28, 3, 11, 13), (73, .bipush 25, 2, 25, 0), (75, .iaload, 1, 0, 0), (76, .aload_n 0, 1, 0, 0),
  (77, .getfield 110, 3, 11, 3), (80, .if_icmp .eq 24, 3, 104, 0), (83, .aload_n 0, 1, 0, 0), (84, .iconst 1, 1, 1, 0), (85, .iload 4, 2, 4, 0), (87, .iconst 1, 1, 1, 0),
  (88, .if_icmp .ne 7, 3, 95, 0), (91, .iconst 1, 1, 1, 0), (92, .goto 4, 3, 96, 0), (95, .iconst 0, 1, 0, 0), (96, .bipush 63, 2, 63, 0), (98, .invokevirtual 150, 3, 127, 3),
  (101, .ifCond .ge 5, 3, 106, 0), (104, .iload_n 3, 1, 3, 0), (105, .ireturn, 1, 0, 0), (106, .iinc 3 1, 3, 1, 0), (109, .goto (-66), 3, 43, 0), (112, .bipush (-99), 2, 99, 1),
  (114, .ireturn, 1, 0, 0)]
def gc_145 : List gc_O := [
  (0, .iload_n 1, 1, 1, 0), (1, .i2l, 1, 0, 0), (2, .lconst 0, 1, 0, 0), (3, .ldc2_w 69, 3, 255, 0), (6, .invokestatic 71, 3, 107, 3), (9, .ifCond .ne 6, 3, 15, 0),
  (12, .bipush (-2), 2, 2, 1), (14, .ireturn, 1, 0, 0), (15, .aload_n 0, 1, 0, 0), (16, .invokevirtual 147, 3, 128, 0), (19, .aload_n 0, 1, 0, 0), (20, .iload_n 1, 1, 1, 0),
  (21, .bipush 63, 2, 63, 0), (23, .invokevirtual 165, 3, 134, 2), (26, .pop, 1, 0, 0), (27, .aload_n 0, 1, 0, 0), (28, .getfield 161, 3, 11, 22), (31, .ireturn, 1, 0, 0)]
def gc_146 : List gc_O := [
  (0, .iload_n 1, 1, 1, 0), (1, .i2l, 1, 0, 0), (2, .lconst 0, 1, 0, 0), (3, .iconst 1, 1, 1, 0), (4, .aload_n 0, 1, 0, 0), (5, .getfield 113, 3, 11, 4),
  (8, .ishl, 1, 0, 0), (9, .iconst 1, 1, 1, 0), (10, .isub, 1, 0, 0), (11, .i2l, 1, 0, 0), (12, .invokestatic 71, 3, 107, 3), (15, .ifCond .ne 6, 3, 21, 0),
  (18, .bipush (-2), 2, 2, 1), (20, .ireturn, 1, 0, 0), (21, .aload_n 0, 1, 0, 0), (22, .invokevirtual 147, 3, 128, 0), (25, .bipush (-99), 2, 99, 1), (27, .istore_n 2, 1, 2, 0),
  (28, .iconst 0, 1, 0, 0), (29, .istore_n 3, 1, 3, 0), (30, .iload_n 3, 1, 3, 0), (31, .iconst 1, 1, 1, 0), (32, .aload_n 0, 1, 0, 0), (33, .getfield 110, 3, 11, 3),
  (36, .ishl, 1, 0, 0), (37, .if_icmp .ge 59, 3, 96, 0), (40, .iload_n 3, 1, 3, 0), (41, .aload_n 0, 1, 0, 0), (42, .invokevirtual 171, 3, 135, 0), (45, .iconst (-1), 1, 1, 1),
  (46, .ixor, 1, 0, 0), (47, .iand, 1, 0, 0), (48, .ifCond .ne 42, 3, 90, 0), (51, .iload_n 2, 1, 2, 0), (52, .bipush (-99), 2, 99, 1), (54, .if_icmp .eq 14, 3, 68, 0),
  (57, .iload_n 3, 1, 3, 0), (58, .invokestatic 174, 3, 109, 1), (61, .iload_n 2, 1, 2, 0), (62, .invokestatic 174, 3, 109, 1), (65, .if_icmp .ge 25, 3, 90, 0), (68, .aload_n 0, 1, 0, 0),
  (69, .iload_n 3, 1, 3, 0), (70, .bipush 63, 2, 63, 0), (72, .invokevirtual 165, 3, 134, 2), (75, .pop, 1, 0, 0), (76, .aload_n 0, 1, 0, 0), (77, .getfield 161, 3, 11, 22),
  (80, .iload_n 1, 1, 1, 0), (81, .if_icmp .ne 7, 3, 88, 0), (84, .iload_n 3, 1, 3, 0), (85, .goto 4, 3, 89, 0), (88, .iload_n 2, 1, 2, 0), (89, .istore_n 2, 1, 2, 0),
  (90, .iinc 3 1, 3, 1, 0), (93, .goto (-63), 3, 30, 0), (96, .iload_n 2, 1, 2, 0), (97, .ireturn, 1, 0, 0)]
def gc_147 : List gc_O := [
  (0, .aload_n 0, 1, 0, 0), (1, .iload_n 1, 1, 1, 0), (2, .invokevirtual 125, 3, 118, 1), (5, .ifCond .ne 5, 3, 10, 0), (8, .iconst (-1), 1, 1, 1), (9, .ireturn, 1, 0, 0),
  (10, .iload_n 2, 1, 2, 0), (11, .i2l, 1, 0, 0), (12, .lconst 0, 1, 0, 0), (13, .ldc2_w 193, 3, 7, 0), (16, .invokestatic 71, 3, 107, 3), (19, .ifCond .ne 6, 3, 25, 0),
  (22, .bipush (-2), 2, 2, 1), (24, .ireturn, 1, 0, 0), (25, .aload_n 0, 1, 0, 0), (26, .getfield 195, 3, 11, 25), (29, .bipush 6, 2, 6, 0), (31, .if_icmp .ne 6, 3, 37, 0),
  (34, .bipush (-4), 2, 4, 1), (36, .ireturn, 1, 0, 0), (37, .aload_n 0, 1, 0, 0), (38, .getfield 43, 3, 11, 26), (41, .aload_n 0, 1, 0, 0), (42, .getfield 195, 3, 11, 25),
  (45, .iload_n 1, 1, 1, 0), (46, .iastore, 1, 0, 0), (47, .aload_n 0, 1, 0, 0), (48, .getfield 46, 3, 11, 27), (51, .aload_n 0, 1, 0, 0), (52, .getfield 195, 3, 11, 25),
  (55, .iload_n 2, 1, 2, 0), (56, .iastore, 1, 0, 0), (57, .aload_n 0, 1, 0, 0), (58, .getfield 49, 3, 11, 28), (61, .aload_n 0, 1, 0, 0), (62, .getfield 195, 3, 11, 25),
  (65, .iload_n 3, 1, 3, 0), (66, .bastore, 1, 0, 0), (67, .aload_n 0, 1, 0, 0), (68, .dup, 1, 0, 0), (69, .getfield 195, 3, 11, 25), (72, .iconst 1, 1, 1, 0),
  (73, .iadd, 1, 0, 0), (74, .putfield 195, 3, 11, 25), (77, .aload_n 0, 1, 0, 0), (78, .getfield 195, 3, 11, 25), (81, .ireturn, 1, 0, 0)]
def gc_148 : List gc_O := [
  (0, .aload_n 0, 1, 0, 0), (1, .getfield 195, 3, 11, 25), (4, .istore_n 1, 1, 1, 0), (5, .aload_n 0, 1, 0, 0), (6, .iconst 0, 1, 0, 0), (7, .putfield 195, 3, 11, 25),
  (10, .iload_n 1, 1, 1, 0), (11, .ireturn, 1, 0, 0)]
def gc_149 : List gc_O := [
  (0, .iconst 0, 1, 0, 0), (1, .istore_n 2, 1, 2, 0), (2, .iload_n 2, 1, 2, 0), (3, .bipush 13, 2, 13, 0), (5, .if_icmp .ge 19, 3, 24, 0), (8, .aload_n 0, 1, 0, 0),
  (9, .getfield 28, 3, 11, 13), (12, .bipush 26, 2, 26, 0), (14, .iload_n 2, 1, 2, 0), (15, .iadd, 1, 0, 0), (16, .iconst 0, 1, 0, 0), (17, .iastore, 1, 0, 0),
  (18, .iinc 2 1, 3, 1, 0), (21, .goto (-19), 3, 2, 0), (24, .iconst 1, 1, 1, 0), (25, .istore_n 2, 1, 2, 0), (26, .iconst 0, 1, 0, 0), (27, .istore_n 3, 1, 3, 0),
  (28, .iload_n 3, 1, 3, 0), (29, .aload_n 0, 1, 0, 0), (30, .getfield 110, 3, 11, 3), (33, .if_icmp .ge 109, 3, 142, 0), (36, .aload_n 0, 1, 0, 0), (37, .iconst 2, 1, 2, 0),
  (38, .iload_n 1, 1, 1, 0), (39, .iload_n 3, 1, 3, 0), (40, .invokestatic 130, 3, 108, 2), (43, .bipush 63, 2, 63, 0), (45, .invokevirtual 150, 3, 127, 3), (48, .pop, 1, 0, 0),
  (49, .iconst 0, 1, 0, 0), (50, .istore 4, 2, 4, 0), (52, .iload 4, 2, 4, 0), (54, .aload_n 0, 1, 0, 0), (55, .getfield 195, 3, 11, 25), (58, .if_icmp .ge 78, 3, 136, 0),
  (61, .aload_n 0, 1, 0, 0), (62, .getfield 46, 3, 11, 27), (65, .iload 4, 2, 4, 0), (67, .iaload, 1, 0, 0), (68, .iload_n 3, 1, 3, 0), (69, .if_icmp .ne 21, 3, 90, 0),
  (72, .aload_n 0, 1, 0, 0), (73, .aload_n 0, 1, 0, 0), (74, .getfield 43, 3, 11, 26), (77, .iload 4, 2, 4, 0), (79, .iaload, 1, 0, 0), (80, .invokevirtual 125, 3, 118, 1),
  (83, .ifCond .eq 7, 3, 90, 0), (86, .iconst 1, 1, 1, 0), (87, .goto 4, 3, 91, 0), (90, .iconst 0, 1, 0, 0), (91, .istore 5, 2, 5, 0), (93, .iload_n 2, 1, 2, 0),
  (94, .ifCond .eq 34, 3, 128, 0), (97, .iload 5, 2, 5, 0), (99, .ifCond .eq 25, 3, 124, 0), (102, .aload_n 0, 1, 0, 0), (103, .iconst 2, 1, 2, 0), (104, .aload_n 0, 1, 0, 0),
  (105, .getfield 43, 3, 11, 26), (108, .iload 4, 2, 4, 0), (110, .iaload, 1, 0, 0), (111, .invokevirtual 121, 3, 121, 2), (114, .aload_n 0, 1, 0, 0), (115, .getfield 49, 3, 11, 28),
  (118, .iload 4, 2, 4, 0), (120, .baload, 1, 0, 0), (121, .if_icmp .ne 7, 3, 128, 0), (124, .iconst 1, 1, 1, 0), (125, .goto 4, 3, 129, 0), (128, .iconst 0, 1, 0, 0),
  (129, .istore_n 2, 1, 2, 0), (130, .iinc 4 1, 3, 1, 0), (133, .goto (-81), 3, 52, 0), (136, .iinc 3 1, 3, 1, 0), (139, .goto (-111), 3, 28, 0), (142, .iload_n 2, 1, 2, 0),
  (143, .ireturn, 1, 0, 0)]
def gc_150 : List gc_O := [
  (0, .iload_n 1, 1, 1, 0), (1, .i2l, 1, 0, 0), (2, .lconst 0, 1, 0, 0), (3, .ldc2_w 198, 3, 2, 0), (6, .invokestatic 71, 3, 107, 3), (9, .ifCond .ne 6, 3, 15, 0),
  (12, .bipush (-2), 2, 2, 1), (14, .ireturn, 1, 0, 0), (15, .aload_n 0, 1, 0, 0), (16, .invokevirtual 147, 3, 128, 0), (19, .iconst 0, 1, 0, 0), (20, .istore_n 2, 1, 2, 0),
  (21, .iconst 1, 1, 1, 0), (22, .aload_n 0, 1, 0, 0), (23, .getfield 110, 3, 11, 3), (26, .ishl, 1, 0, 0), (27, .iconst 1, 1, 1, 0), (28, .isub, 1, 0, 0),
  (29, .istore_n 3, 1, 3, 0), (30, .iconst 0, 1, 0, 0), (31, .istore 4, 2, 4, 0), (33, .iconst 0, 1, 0, 0), (34, .istore 5, 2, 5, 0), (36, .iload 5, 2, 5, 0),
  (38, .iconst 1, 1, 1, 0), (39, .aload_n 0, 1, 0, 0), (40, .getfield 110, 3, 11, 3), (43, .ishl, 1, 0, 0), (44, .if_icmp .ge 33, 3, 77, 0), (47, .aload_n 0, 1, 0, 0),
  (48, .iload 5, 2, 5, 0), (50, .invokevirtual 200, 3, 149, 1), (53, .ifCond .eq 18, 3, 71, 0), (56, .iinc 2 1, 3, 1, 0), (59, .iload_n 3, 1, 3, 0), (60, .iload 5, 2, 5, 0),
  (62, .iand, 1, 0, 0), (63, .istore_n 3, 1, 3, 0), (64, .iload 4, 2, 4, 0), (66, .iload 5, 2, 5, 0), (68, .ior, 1, 0, 0), (69, .istore 4, 2, 4, 0),
  (71, .iinc 5 1, 3, 1, 0), (74, .goto (-38), 3, 36, 0), (77, .iload_n 1, 1, 1, 0), (78, .ifCond .ne 7, 3, 85, 0), (81, .iload_n 2, 1, 2, 0), (82, .goto 34, 3, 116, 0),
  (85, .iload_n 2, 1, 2, 0), (86, .ifCond .ne 8, 3, 94, 0), (89, .bipush (-99), 2, 99, 1), (91, .goto 25, 3, 116, 0), (94, .iload_n 1, 1, 1, 0), (95, .iconst 1, 1, 1, 0),
  (96, .if_icmp .ne 7, 3, 103, 0), (99, .iload_n 3, 1, 3, 0), (100, .goto 16, 3, 116, 0), (103, .iconst 1, 1, 1, 0), (104, .aload_n 0, 1, 0, 0), (105, .getfield 110, 3, 11, 3),
  (108, .ishl, 1, 0, 0), (109, .iconst 1, 1, 1, 0), (110, .isub, 1, 0, 0), (111, .iload 4, 2, 4, 0), (113, .iconst (-1), 1, 1, 1), (114, .ixor, 1, 0, 0),
  (115, .iand, 1, 0, 0), (116, .ireturn, 1, 0, 0)]
def gc_151 : List gc_O := [
  (0, .lconst 0, 1, 0, 0), (1, .lstore 5, 2, 5, 0), (3, .aload_n 0, 1, 0, 0), (4, .lconst 0, 1, 0, 0), (5, .putfield 203, 3, 11, 29), (8, .iconst 0, 1, 0, 0),
  (9, .istore 7, 2, 7, 0), (11, .iload 7, 2, 7, 0), (13, .iconst 1, 1, 1, 0), (14, .aload_n 0, 1, 0, 0), (15, .getfield 110, 3, 11, 3), (18, .ishl, 1, 0, 0),
  (19, .if_icmp .ge 224, 3, 243, 0), (22, .iload 7, 2, 7, 0), (24, .aload_n 0, 1, 0, 0), (25, .invokevirtual 171, 3, 135, 0), (28, .iconst (-1), 1, 1, 1), (29, .ixor, 1, 0, 0),
  (30, .iand, 1, 0, 0), (31, .ifCond .ne 7, 3, 38, 0), (34, .iconst 1, 1, 1, 0), (35, .goto 4, 3, 39, 0), (38, .iconst 0, 1, 0, 0), (39, .istore 8, 2, 8, 0),
  (41, .lconst 1, 1, 1, 0), (42, .lstore 9, 2, 9, 0), (44, .iconst 0, 1, 0, 0), (45, .istore 11, 2, 11, 0), (47, .iload 11, 2, 11, 0), (49, .aload_n 0, 1, 0, 0),
  (50, .getfield 110, 3, 11, 3), (53, .if_icmp .ge 121, 3, 174, 0), (56, .iload 7, 2, 7, 0), (58, .iload 11, 2, 11, 0), (60, .invokestatic 130, 3, 108, 2), (63, .istore 12, 2, 12, 0),
  (65, .iload 8, 2, 8, 0), (67, .ifCond .eq 22, 3, 89, 0), (70, .iload 12, 2, 12, 0), (72, .ifCond .eq 13, 3, 85, 0), (75, .aload_n 0, 1, 0, 0), (76, .getfield 7, 3, 11, 5),
  (79, .iload 11, 2, 11, 0), (81, .iaload, 1, 0, 0), (82, .ifCond .eq 7, 3, 89, 0), (85, .iconst 1, 1, 1, 0), (86, .goto 4, 3, 90, 0), (89, .iconst 0, 1, 0, 0),
  (90, .istore 8, 2, 8, 0), (92, .aload_n 0, 1, 0, 0), (93, .getfield 13, 3, 11, 6), (96, .iload 11, 2, 11, 0), (98, .iload 12, 2, 12, 0), (100, .ifCond .eq 14, 3, 114, 0),
  (103, .aload_n 0, 1, 0, 0), (104, .getfield 7, 3, 11, 5), (107, .iload 11, 2, 11, 0), (109, .iaload, 1, 0, 0), (110, .ineg, 1, 0, 0), (111, .goto 10, 3, 121, 0),
  (114, .aload_n 0, 1, 0, 0), (115, .getfield 7, 3, 11, 5), (118, .iload 11, 2, 11, 0), (120, .iaload, 1, 0, 0), (121, .iastore, 1, 0, 0), (122, .lload 9, 2, 9, 0),
  (124, .aload_n 0, 1, 0, 0), (125, .invokevirtual 171, 3, 135, 0), (128, .iload 11, 2, 11, 0), (130, .invokestatic 130, 3, 108, 2), (133, .ifCond .eq 13, 3, 146, 0), (136, .aload_n 0, 1, 0, 0),
  (137, .getfield 7, 3, 11, 5), (140, .iload 11, 2, 11, 0), (142, .iaload, 1, 0, 0), (143, .ifCond .ne 7, 3, 150, 0), (146, .lconst 1, 1, 1, 0), (147, .goto 18, 3, 165, 0),
  (150, .iload 12, 2, 12, 0), (152, .ifCond .eq 8, 3, 160, 0), (155, .iload_n 2, 1, 2, 0), (156, .i2l, 1, 0, 0), (157, .goto 8, 3, 165, 0), (160, .bipush 10, 2, 10, 0),
  (162, .iload_n 2, 1, 2, 0), (163, .isub, 1, 0, 0), (164, .i2l, 1, 0, 0), (165, .lmul, 1, 0, 0), (166, .lstore 9, 2, 9, 0), (168, .iinc 11 1, 3, 1, 0),
  (171, .goto (-124), 3, 47, 0), (174, .iload 8, 2, 8, 0), (176, .ifCond .eq 61, 3, 237, 0), (179, .aload_n 0, 1, 0, 0), (180, .iload_n 1, 1, 1, 0), (181, .iload_n 3, 1, 3, 0),
  (182, .invokevirtual 165, 3, 134, 2), (185, .istore 11, 2, 11, 0), (187, .iload 11, 2, 11, 0), (189, .iload 4, 2, 4, 0), (191, .ifCond .eq 7, 3, 198, 0), (194, .iconst 0, 1, 0, 0),
  (195, .goto 17, 3, 212, 0), (198, .aload_n 0, 1, 0, 0), (199, .getfield 107, 3, 11, 2), (202, .iload_n 1, 1, 1, 0), (203, .aload_n 0, 1, 0, 0), (204, .invokevirtual 171, 3, 135, 0),
  (207, .iand, 1, 0, 0), (208, .invokestatic 174, 3, 109, 1), (211, .imul, 1, 0, 0), (212, .iadd, 1, 0, 0), (213, .istore 11, 2, 11, 0), (215, .lload 5, 2, 5, 0),
  (217, .lload 9, 2, 9, 0), (219, .iload 11, 2, 11, 0), (221, .i2l, 1, 0, 0), (222, .lmul, 1, 0, 0), (223, .ladd, 1, 0, 0), (224, .lstore 5, 2, 5, 0),
  (226, .aload_n 0, 1, 0, 0), (227, .dup, 1, 0, 0), (228, .getfield 203, 3, 11, 29), (231, .lload 9, 2, 9, 0), (233, .ladd, 1, 0, 0), (234, .putfield 203, 3, 11, 29),
  (237, .iinc 7 1, 3, 1, 0), (240, .goto (-229), 3, 11, 0), (243, .lload 5, 2, 5, 0), (245, .lreturn, 1, 0, 0)]
def gc_152 : List gc_O := [
  (0, .iload_n 1, 1, 1, 0), (1, .i2l, 1, 0, 0), (2, .lconst 0, 1, 0, 0), (3, .ldc2_w 69, 3, 255, 0), (6, .invokestatic 71, 3, 107, 3), (9, .ifCond .eq 15, 3, 24, 0),
  (12, .iload_n 2, 1, 2, 0), (13, .i2l, 1, 0, 0), (14, .lconst 0, 1, 0, 0), (15, .ldc2_w 207, 3, 10, 0), (18, .invokestatic 71, 3, 107, 3), (21, .ifCond .ne 7, 3, 28, 0),
  (24, .ldc2_w 209, 3, 1000000000002, 1), (27, .lreturn, 1, 0, 0), (28, .aload_n 0, 1, 0, 0), (29, .iload_n 1, 1, 1, 0), (30, .iload_n 2, 1, 2, 0), (31, .bipush 63, 2, 63, 0),
  (33, .iconst 1, 1, 1, 0), (34, .invokevirtual 211, 3, 151, 4), (37, .lstore 4, 2, 4, 0), (39, .lload 4, 2, 4, 0), (41, .aload_n 0, 1, 0, 0), (42, .getfield 203, 3, 11, 29),
  (45, .invokestatic 184, 3, 141, 2), (48, .lstore 6, 2, 6, 0), (50, .iload_n 3, 1, 3, 0), (51, .ifCond .eq 11, 3, 62, 0), (54, .lload 4, 2, 4, 0), (56, .lload 6, 2, 6, 0),
  (58, .ldiv, 1, 0, 0), (59, .goto 10, 3, 69, 0), (62, .aload_n 0, 1, 0, 0), (63, .getfield 203, 3, 11, 29), (66, .lload 6, 2, 6, 0), (68, .ldiv, 1, 0, 0),
  (69, .lreturn, 1, 0, 0)]
def gc_153 : List gc_O := [
  (0, .aload_n 0, 1, 0, 0), (1, .iload_n 1, 1, 1, 0), (2, .invokevirtual 125, 3, 118, 1), (5, .ifCond .ne 7, 3, 12, 0), (8, .ldc2_w 215, 3, 1000000000001, 1), (11, .lreturn, 1, 0, 0),
  (12, .iload_n 2, 1, 2, 0), (13, .i2l, 1, 0, 0), (14, .lconst 0, 1, 0, 0), (15, .ldc2_w 69, 3, 255, 0), (18, .invokestatic 71, 3, 107, 3), (21, .ifCond .eq 15, 3, 36, 0),
  (24, .iload_n 3, 1, 3, 0), (25, .i2l, 1, 0, 0), (26, .lconst 0, 1, 0, 0), (27, .ldc2_w 207, 3, 10, 0), (30, .invokestatic 71, 3, 107, 3), (33, .ifCond .ne 7, 3, 40, 0),
  (36, .ldc2_w 209, 3, 1000000000002, 1), (39, .lreturn, 1, 0, 0), (40, .aload_n 0, 1, 0, 0), (41, .iload_n 2, 1, 2, 0), (42, .iload_n 3, 1, 3, 0), (43, .iconst 1, 1, 1, 0),
  (44, .iload_n 1, 1, 1, 0), (45, .ishl, 1, 0, 0), (46, .iconst 0, 1, 0, 0), (47, .invokevirtual 211, 3, 151, 4), (50, .lstore 5, 2, 5, 0), (52, .lload 5, 2, 5, 0),
  (54, .aload_n 0, 1, 0, 0), (55, .getfield 203, 3, 11, 29), (58, .invokestatic 184, 3, 141, 2), (61, .lstore 7, 2, 7, 0), (63, .iload 4, 2, 4, 0), (65, .ifCond .eq 11, 3, 76, 0),
  (68, .lload 5, 2, 5, 0), (70, .lload 7, 2, 7, 0), (72, .ldiv, 1, 0, 0), (73, .goto 10, 3, 83, 0), (76, .aload_n 0, 1, 0, 0), (77, .getfield 203, 3, 11, 29),
  (80, .lload 7, 2, 7, 0), (82, .ldiv, 1, 0, 0), (83, .lreturn, 1, 0, 0)]
def gc_154 : List gc_O := [
  (0, .aload_n 0, 1, 0, 0), (1, .invokevirtual 147, 3, 128, 0), (4, .aload_n 0, 1, 0, 0), (5, .iconst 0, 1, 0, 0), (6, .iconst 1, 1, 1, 0), (7, .invokevirtual 157, 3, 129, 2),
  (10, .aload_n 0, 1, 0, 0), (11, .iconst 0, 1, 0, 0), (12, .iconst 2, 1, 2, 0), (13, .invokevirtual 157, 3, 129, 2), (16, .iconst 0, 1, 0, 0), (17, .istore 4, 2, 4, 0),
  (19, .iload 4, 2, 4, 0), (21, .bipush 10, 2, 10, 0), (23, .if_icmp .ge 20, 3, 43, 0), (26, .aload_n 0, 1, 0, 0), (27, .getfield 28, 3, 11, 13), (30, .bipush 26, 2, 26, 0),
  (32, .iload 4, 2, 4, 0), (34, .iadd, 1, 0, 0), (35, .iconst 0, 1, 0, 0), (36, .iastore, 1, 0, 0), (37, .iinc 4 1, 3, 1, 0), (40, .goto (-21), 3, 19, 0),
  (43, .aload_n 0, 1, 0, 0), (44, .iload_n 1, 1, 1, 0), (45, .bipush 9, 2, 9, 0), (47, .if_icmp .ge 11, 3, 58, 0), (50, .aload_n 0, 1, 0, 0), (51, .getfield 107, 3, 11, 2),
  (54, .ineg, 1, 0, 0), (55, .goto 4, 3, 59, 0), (58, .iconst 0, 1, 0, 0), (59, .putfield 217, 3, 11, 30), (62, .aload_n 0, 1, 0, 0), (63, .iload_n 2, 1, 2, 0),
  (64, .bipush 9, 2, 9, 0), (66, .if_icmp .ge 11, 3, 77, 0), (69, .aload_n 0, 1, 0, 0), (70, .getfield 107, 3, 11, 2), (73, .ineg, 1, 0, 0), (74, .goto 4, 3, 78, 0),
  (77, .iconst 0, 1, 0, 0), (78, .putfield 220, 3, 11, 31), (81, .aload_n 0, 1, 0, 0), (82, .getfield 28, 3, 11, 13), (85, .bipush 12, 2, 12, 0), (87, .iaload, 1, 0, 0),
  (88, .istore 4, 2, 4, 0), (90, .iload 4, 2, 4, 0), (92, .aload_n 0, 1, 0, 0), (93, .getfield 110, 3, 11, 3), (96, .if_icmp .ge 223, 3, 319, 0), (99, .aload_n 0, 1, 0, 0),
  (100, .iconst 1, 1, 1, 0), (101, .aload_n 0, 1, 0, 0), (102, .getfield 13, 3, 11, 6), (105, .iload 4, 2, 4, 0), (107, .iaload, 1, 0, 0), (108, .iload 4, 2, 4, 0),
  (110, .iload_n 1, 1, 1, 0), (111, .if_icmp .ne 10, 3, 121, 0), (114, .aload_n 0, 1, 0, 0), (115, .getfield 104, 3, 11, 0), (118, .goto 5, 3, 123, 0), (121, .bipush (-99), 2, 99, 1),
  (123, .invokevirtual 133, 3, 125, 3), (126, .aload_n 0, 1, 0, 0), (127, .iconst 2, 1, 2, 0), (128, .aload_n 0, 1, 0, 0), (129, .getfield 13, 3, 11, 6), (132, .iload 4, 2, 4, 0),
  (134, .iaload, 1, 0, 0), (135, .iload 4, 2, 4, 0), (137, .iload_n 2, 1, 2, 0), (138, .if_icmp .ne 7, 3, 145, 0), (141, .iload_n 3, 1, 3, 0), (142, .goto 5, 3, 147, 0),
  (145, .bipush (-99), 2, 99, 1), (147, .invokevirtual 133, 3, 125, 3), (150, .iconst 0, 1, 0, 0), (151, .istore 5, 2, 5, 0), (153, .iload 5, 2, 5, 0), (155, .aload_n 0, 1, 0, 0),
  (156, .getfield 113, 3, 11, 4), (159, .if_icmp .ge 154, 3, 313, 0), (162, .aload_n 0, 1, 0, 0), (163, .getfield 28, 3, 11, 13), (166, .bipush 13, 2, 13, 0), (168, .aload_n 0, 1, 0, 0),
  (169, .getfield 16, 3, 11, 7), (172, .iconst 4, 1, 4, 0), (173, .iload 5, 2, 5, 0), (175, .imul, 1, 0, 0), (176, .iaload, 1, 0, 0), (177, .iadd, 1, 0, 0),
  (178, .iaload, 1, 0, 0), (179, .istore 6, 2, 6, 0), (181, .aload_n 0, 1, 0, 0), (182, .getfield 28, 3, 11, 13), (185, .bipush 26, 2, 26, 0), (187, .aload_n 0, 1, 0, 0),
  (188, .getfield 16, 3, 11, 7), (191, .iconst 4, 1, 4, 0), (192, .iload 5, 2, 5, 0), (194, .imul, 1, 0, 0), (195, .iaload, 1, 0, 0), (196, .iadd, 1, 0, 0),
  (197, .iaload, 1, 0, 0), (198, .istore 7, 2, 7, 0), (200, .aload_n 0, 1, 0, 0), (201, .iload 5, 2, 5, 0), (203, .iload 6, 2, 6, 0), (205, .iload 7, 2, 7, 0),
  (207, .if_icmp .le 8, 3, 215, 0), (210, .iload 6, 2, 6, 0), (212, .goto 5, 3, 217, 0), (215, .iload 7, 2, 7, 0), (217, .aload_n 0, 1, 0, 0), (218, .getfield 16, 3, 11, 7),
  (221, .iconst 4, 1, 4, 0), (222, .iload 5, 2, 5, 0), (224, .imul, 1, 0, 0), (225, .iconst 1, 1, 1, 0), (226, .iadd, 1, 0, 0), (227, .iaload, 1, 0, 0),
  (228, .if_icmp .lt 7, 3, 235, 0), (231, .iconst 1, 1, 1, 0), (232, .goto 4, 3, 236, 0), (235, .iconst 0, 1, 0, 0), (236, .aload_n 0, 1, 0, 0), (237, .getfield 13, 3, 11, 6),
  (240, .iload 4, 2, 4, 0), (242, .iaload, 1, 0, 0), (243, .invokevirtual 137, 3, 126, 3), (246, .istore 8, 2, 8, 0), (248, .iload 8, 2, 8, 0), (250, .ifCond .le 14, 3, 264, 0),
  (253, .iload 7, 2, 7, 0), (255, .iload 6, 2, 6, 0), (257, .if_icmp .le 7, 3, 264, 0), (260, .iconst 1, 1, 1, 0), (261, .goto 4, 3, 265, 0), (264, .iconst 0, 1, 0, 0),
  (265, .istore 9, 2, 9, 0), (267, .aload_n 0, 1, 0, 0), (268, .dup, 1, 0, 0), (269, .getfield 217, 3, 11, 30), (272, .iload 9, 2, 9, 0), (274, .ifCond .eq 7, 3, 281, 0),
  (277, .iconst 0, 1, 0, 0), (278, .goto 5, 3, 283, 0), (281, .iload 8, 2, 8, 0), (283, .iadd, 1, 0, 0), (284, .putfield 217, 3, 11, 30), (287, .aload_n 0, 1, 0, 0),
  (288, .dup, 1, 0, 0), (289, .getfield 220, 3, 11, 31), (292, .iload 9, 2, 9, 0), (294, .ifCond .eq 8, 3, 302, 0), (297, .iload 8, 2, 8, 0), (299, .goto 4, 3, 303, 0),
  (302, .iconst 0, 1, 0, 0), (303, .iadd, 1, 0, 0), (304, .putfield 220, 3, 11, 31), (307, .iinc 5 1, 3, 1, 0), (310, .goto (-157), 3, 153, 0), (313, .iinc 4 1, 3, 1, 0),
  (316, .goto (-226), 3, 90, 0), (319, .return_, 1, 0, 0)]
def gc_155 : List gc_O := [
  (0, .iload_n 1, 1, 1, 0), (1, .bipush 9, 2, 9, 0), (3, .if_icmp .eq 26, 3, 29, 0), (6, .iload_n 1, 1, 1, 0), (7, .i2l, 1, 0, 0), (8, .aload_n 0, 1, 0, 0),
  (9, .getfield 28, 3, 11, 13), (12, .bipush 12, 2, 12, 0), (14, .iaload, 1, 0, 0), (15, .i2l, 1, 0, 0), (16, .aload_n 0, 1, 0, 0), (17, .getfield 110, 3, 11, 3),
  (20, .iconst 1, 1, 1, 0), (21, .isub, 1, 0, 0), (22, .i2l, 1, 0, 0), (23, .invokestatic 71, 3, 107, 3), (26, .ifCond .eq 7, 3, 33, 0), (29, .iconst 1, 1, 1, 0),
  (30, .goto 4, 3, 34, 0), (33, .iconst 0, 1, 0, 0), (34, .ireturn, 1, 0, 0)]
def gc_156 : List gc_O := [
  (0, .iconst 1, 1, 1, 0), (1, .istore_n 3, 1, 3, 0), (2, .iconst 0, 1, 0, 0), (3, .istore 4, 2, 4, 0), (5, .iload 4, 2, 4, 0), (7, .bipush 10, 2, 10, 0),
  (9, .if_icmp .ge 80, 3, 89, 0), (12, .aload_n 0, 1, 0, 0), (13, .iload 4, 2, 4, 0), (15, .invokevirtual 223, 3, 155, 1), (18, .ifCond .eq 65, 3, 83, 0), (21, .iload_n 3, 1, 3, 0),
  (22, .ifCond .eq 59, 3, 81, 0), (25, .aload_n 0, 1, 0, 0), (26, .getfield 53, 3, 11, 32), (29, .bipush 10, 2, 10, 0), (31, .iload 4, 2, 4, 0), (33, .imul, 1, 0, 0),
  (34, .iload_n 2, 1, 2, 0), (35, .iadd, 1, 0, 0), (36, .iaload, 1, 0, 0), (37, .aload_n 0, 1, 0, 0), (38, .getfield 53, 3, 11, 32), (41, .bipush 10, 2, 10, 0),
  (43, .iload_n 1, 1, 1, 0), (44, .imul, 1, 0, 0), (45, .iload_n 2, 1, 2, 0), (46, .iadd, 1, 0, 0), (47, .iaload, 1, 0, 0), (48, .if_icmp .gt 33, 3, 81, 0),
  (51, .aload_n 0, 1, 0, 0), (52, .getfield 56, 3, 11, 33), (55, .bipush 10, 2, 10, 0), (57, .iload_n 1, 1, 1, 0), (58, .imul, 1, 0, 0), (59, .iload 4, 2, 4, 0),
  (61, .iadd, 1, 0, 0), (62, .iaload, 1, 0, 0), (63, .aload_n 0, 1, 0, 0), (64, .getfield 56, 3, 11, 33), (67, .bipush 10, 2, 10, 0), (69, .iload_n 1, 1, 1, 0),
  (70, .imul, 1, 0, 0), (71, .iload_n 2, 1, 2, 0), (72, .iadd, 1, 0, 0), (73, .iaload, 1, 0, 0), (74, .if_icmp .gt 7, 3, 81, 0), (77, .iconst 1, 1, 1, 0),
  (78, .goto 4, 3, 82, 0), (81, .iconst 0, 1, 0, 0), (82, .istore_n 3, 1, 3, 0), (83, .iinc 4 1, 3, 1, 0), (86, .goto (-81), 3, 5, 0), (89, .iload_n 3, 1, 3, 0),
  (90, .ireturn, 1, 0, 0)]
def gc_157 : List gc_O := [
  (0, .iload_n 1, 1, 1, 0), (1, .i2l, 1, 0, 0), (2, .lconst 0, 1, 0, 0), (3, .ldc2_w 119, 3, 9, 0), (6, .invokestatic 71, 3, 107, 3), (9, .ifCond .eq 13, 3, 22, 0),
  (12, .iload_n 2, 1, 2, 0), (13, .i2l, 1, 0, 0), (14, .lconst 0, 1, 0, 0), (15, .lconst 1, 1, 1, 0), (16, .invokestatic 71, 3, 107, 3), (19, .ifCond .ne 6, 3, 25, 0),
  (22, .bipush (-2), 2, 2, 1), (24, .ireturn, 1, 0, 0), (25, .iconst 0, 1, 0, 0), (26, .istore_n 3, 1, 3, 0), (27, .iload_n 3, 1, 3, 0), (28, .bipush 100, 2, 100, 0),
  (30, .if_icmp .ge 64, 3, 94, 0), (33, .aload_n 0, 1, 0, 0), (34, .iload_n 3, 1, 3, 0), (35, .bipush 10, 2, 10, 0), (37, .idiv, 1, 0, 0), (38, .invokevirtual 223, 3, 155, 1),
  (41, .ifCond .eq 47, 3, 88, 0), (44, .aload_n 0, 1, 0, 0), (45, .iload_n 3, 1, 3, 0), (46, .bipush 10, 2, 10, 0), (48, .irem, 1, 0, 0), (49, .invokevirtual 223, 3, 155, 1),
  (52, .ifCond .eq 36, 3, 88, 0), (55, .aload_n 0, 1, 0, 0), (56, .iload_n 3, 1, 3, 0), (57, .bipush 10, 2, 10, 0), (59, .idiv, 1, 0, 0), (60, .iload_n 3, 1, 3, 0),
  (61, .bipush 10, 2, 10, 0), (63, .irem, 1, 0, 0), (64, .iload_n 1, 1, 1, 0), (65, .invokevirtual 226, 3, 154, 3), (68, .aload_n 0, 1, 0, 0), (69, .getfield 53, 3, 11, 32),
  (72, .iload_n 3, 1, 3, 0), (73, .aload_n 0, 1, 0, 0), (74, .getfield 217, 3, 11, 30), (77, .iastore, 1, 0, 0), (78, .aload_n 0, 1, 0, 0), (79, .getfield 56, 3, 11, 33),
  (82, .iload_n 3, 1, 3, 0), (83, .aload_n 0, 1, 0, 0), (84, .getfield 220, 3, 11, 31), (87, .iastore, 1, 0, 0), (88, .iinc 3 1, 3, 1, 0), (91, .goto (-64), 3, 27, 0),
  (94, .iconst 0, 1, 0, 0), (95, .istore_n 3, 1, 3, 0), (96, .bipush (-99), 2, 99, 1), (98, .istore 4, 2, 4, 0), (100, .iconst 0, 1, 0, 0), (101, .istore 5, 2, 5, 0),
  (103, .iload 5, 2, 5, 0), (105, .bipush 100, 2, 100, 0), (107, .if_icmp .ge 66, 3, 173, 0), (110, .aload_n 0, 1, 0, 0), (111, .iload 5, 2, 5, 0), (113, .bipush 10, 2, 10, 0),
  (115, .idiv, 1, 0, 0), (116, .invokevirtual 223, 3, 155, 1), (119, .ifCond .eq 48, 3, 167, 0), (122, .aload_n 0, 1, 0, 0), (123, .iload 5, 2, 5, 0), (125, .bipush 10, 2, 10, 0),
  (127, .irem, 1, 0, 0), (128, .invokevirtual 223, 3, 155, 1), (131, .ifCond .eq 36, 3, 167, 0), (134, .aload_n 0, 1, 0, 0), (135, .iload 5, 2, 5, 0), (137, .bipush 10, 2, 10, 0),
  (139, .idiv, 1, 0, 0), (140, .iload 5, 2, 5, 0), (142, .bipush 10, 2, 10, 0), (144, .irem, 1, 0, 0), (145, .invokevirtual 229, 3, 156, 2), (148, .ifCond .eq 19, 3, 167, 0),
  (151, .iload_n 3, 1, 3, 0), (152, .ifCond .ne 8, 3, 160, 0), (155, .iload 5, 2, 5, 0), (157, .goto 5, 3, 162, 0), (160, .iload 4, 2, 4, 0), (162, .istore 4, 2, 4, 0),
  (164, .iinc 3 1, 3, 1, 0), (167, .iinc 5 1, 3, 1, 0), (170, .goto (-67), 3, 103, 0), (173, .iload_n 2, 1, 2, 0), (174, .ifCond .ne 7, 3, 181, 0), (177, .iload_n 3, 1, 3, 0),
  (178, .goto 5, 3, 183, 0), (181, .iload 4, 2, 4, 0), (183, .ireturn, 1, 0, 0)]
def gc_158 : List gc_O := [
  (0, .aload_n 0, 1, 0, 0), (1, .getfield 232, 3, 11, 34), (4, .lstore_n 3, 1, 3, 0), (5, .aload_n 0, 1, 0, 0), (6, .lload_n 1, 1, 1, 0), (7, .putfield 232, 3, 11, 34),
  (10, .lload_n 3, 1, 3, 0), (11, .lreturn, 1, 0, 0)]
def gc_159 : List gc_O := [
  (0, .iload_n 1, 1, 1, 0), (1, .i2l, 1, 0, 0), (2, .lconst 1, 1, 1, 0), (3, .ldc2_w 235, 3, 20, 0), (6, .invokestatic 71, 3, 107, 3), (9, .ifCond .ne 6, 3, 15, 0),
  (12, .ldc 164, 2, 1000002, 1), (14, .ireturn, 1, 0, 0), (15, .aload_n 0, 1, 0, 0), (16, .invokevirtual 147, 3, 128, 0), (19, .iconst 0, 1, 0, 0), (20, .istore_n 2, 1, 2, 0),
  (21, .iconst 0, 1, 0, 0), (22, .istore_n 3, 1, 3, 0), (23, .iload_n 3, 1, 3, 0), (24, .iload_n 1, 1, 1, 0), (25, .if_icmp .ge 79, 3, 104, 0), (28, .aload_n 0, 1, 0, 0),
  (29, .iconst 0, 1, 0, 0), (30, .iconst 1, 1, 1, 0), (31, .invokevirtual 157, 3, 129, 2), (34, .aload_n 0, 1, 0, 0), (35, .getfield 28, 3, 11, 13), (38, .bipush 25, 2, 25, 0),
  (40, .iaload, 1, 0, 0), (41, .aload_n 0, 1, 0, 0), (42, .getfield 110, 3, 11, 3), (45, .if_icmp .ge 53, 3, 98, 0), (48, .aload_n 0, 1, 0, 0), (49, .aload_n 0, 1, 0, 0),
  (50, .getfield 232, 3, 11, 34), (53, .ldc2_w 237, 3, 6364136223846793005, 0), (56, .lmul, 1, 0, 0), (57, .ldc2_w 239, 3, 1442695040888963407, 0), (60, .ladd, 1, 0, 0), (61, .putfield 232, 3, 11, 34),
  (64, .iload_n 2, 1, 2, 0), (65, .aload_n 0, 1, 0, 0), (66, .iconst 1, 1, 1, 0), (67, .aload_n 0, 1, 0, 0), (68, .getfield 232, 3, 11, 34), (71, .bipush 33, 2, 33, 0),
  (73, .lushr, 1, 0, 0), (74, .ldc2_w 198, 3, 2, 0), (77, .lrem, 1, 0, 0), (78, .lconst 1, 1, 1, 0), (79, .lcmp, 1, 0, 0), (80, .ifCond .ne 7, 3, 87, 0),
  (83, .iconst 1, 1, 1, 0), (84, .goto 4, 3, 88, 0), (87, .iconst 0, 1, 0, 0), (88, .bipush 63, 2, 63, 0), (90, .invokevirtual 150, 3, 127, 3), (93, .iadd, 1, 0, 0),
  (94, .istore_n 2, 1, 2, 0), (95, .goto (-61), 3, 34, 0), (98, .iinc 3 1, 3, 1, 0), (101, .goto (-78), 3, 23, 0), (104, .iload_n 2, 1, 2, 0), (105, .ireturn, 1, 0, 0)]
def gc_160 : List gc_O := [
  (0, .iload_n 1, 1, 1, 0), (1, .i2l, 1, 0, 0), (2, .lconst 0, 1, 0, 0), (3, .lconst 1, 1, 1, 0), (4, .invokestatic 71, 3, 107, 3), (7, .ifCond .ne 5, 3, 12, 0),
  (10, .iconst (-1), 1, 1, 1), (11, .ireturn, 1, 0, 0), (12, .aload_n 0, 1, 0, 0), (13, .getfield 59, 3, 11, 35), (16, .iload_n 1, 1, 1, 0), (17, .iconst 1, 1, 1, 0),
  (18, .bastore, 1, 0, 0), (19, .iconst 0, 1, 0, 0), (20, .istore_n 2, 1, 2, 0), (21, .iload_n 2, 1, 2, 0), (22, .bipush 13, 2, 13, 0), (24, .if_icmp .ge 26, 3, 50, 0),
  (27, .aload_n 0, 1, 0, 0), (28, .getfield 62, 3, 11, 36), (31, .bipush 13, 2, 13, 0), (33, .iload_n 1, 1, 1, 0), (34, .imul, 1, 0, 0), (35, .iload_n 2, 1, 2, 0),
  (36, .iadd, 1, 0, 0), (37, .aload_n 0, 1, 0, 0), (38, .getfield 28, 3, 11, 13), (41, .iload_n 2, 1, 2, 0), (42, .iaload, 1, 0, 0), (43, .iastore, 1, 0, 0),
  (44, .iinc 2 1, 3, 1, 0), (47, .goto (-26), 3, 21, 0), (50, .aload_n 0, 1, 0, 0), (51, .getfield 28, 3, 11, 13), (54, .bipush 12, 2, 12, 0), (56, .iaload, 1, 0, 0),
  (57, .ireturn, 1, 0, 0)]
def gc_161 : List gc_O := [
  (0, .iload_n 1, 1, 1, 0), (1, .i2l, 1, 0, 0), (2, .lconst 0, 1, 0, 0), (3, .lconst 1, 1, 1, 0), (4, .invokestatic 71, 3, 107, 3), (7, .ifCond .ne 5, 3, 12, 0),
  (10, .iconst (-1), 1, 1, 1), (11, .ireturn, 1, 0, 0), (12, .aload_n 0, 1, 0, 0), (13, .getfield 59, 3, 11, 35), (16, .iload_n 1, 1, 1, 0), (17, .baload, 1, 0, 0),
  (18, .ifCond .ne 6, 3, 24, 0), (21, .bipush (-3), 2, 3, 1), (23, .ireturn, 1, 0, 0), (24, .iconst 0, 1, 0, 0), (25, .istore_n 2, 1, 2, 0), (26, .iload_n 2, 1, 2, 0),
  (27, .bipush 13, 2, 13, 0), (29, .if_icmp .ge 26, 3, 55, 0), (32, .aload_n 0, 1, 0, 0), (33, .getfield 28, 3, 11, 13), (36, .iload_n 2, 1, 2, 0), (37, .aload_n 0, 1, 0, 0),
  (38, .getfield 62, 3, 11, 36), (41, .bipush 13, 2, 13, 0), (43, .iload_n 1, 1, 1, 0), (44, .imul, 1, 0, 0), (45, .iload_n 2, 1, 2, 0), (46, .iadd, 1, 0, 0),
  (47, .iaload, 1, 0, 0), (48, .iastore, 1, 0, 0), (49, .iinc 2 1, 3, 1, 0), (52, .goto (-26), 3, 26, 0), (55, .aload_n 0, 1, 0, 0), (56, .iconst 0, 1, 0, 0),
  (57, .putfield 116, 3, 11, 19), (60, .aload_n 0, 1, 0, 0), (61, .getfield 28, 3, 11, 13), (64, .bipush 12, 2, 12, 0), (66, .iaload, 1, 0, 0), (67, .ireturn, 1, 0, 0)]
def gc_162 : List gc_O := [
  (0, .iload_n 1, 1, 1, 0), (1, .tableswitch 121 0 10 #[59, 64, 69, 74, 79, 84, 89, 97, 105, 111, 116], 59, 0, 0), (60, .aload_n 0, 1, 0, 0), (61, .getfield 75, 3, 11, 15), (64, .ireturn, 1, 0, 0), (65, .aload_n 0, 1, 0, 0),
  (66, .getfield 110, 3, 11, 3), (69, .ireturn, 1, 0, 0), (70, .aload_n 0, 1, 0, 0), (71, .getfield 113, 3, 11, 4), (74, .ireturn, 1, 0, 0), (75, .aload_n 0, 1, 0, 0),
  (76, .getfield 104, 3, 11, 0), (79, .ireturn, 1, 0, 0), (80, .aload_n 0, 1, 0, 0), (81, .getfield 65, 3, 11, 1), (84, .ireturn, 1, 0, 0), (85, .aload_n 0, 1, 0, 0),
  (86, .getfield 107, 3, 11, 2), (89, .ireturn, 1, 0, 0), (90, .aload_n 0, 1, 0, 0), (91, .getfield 28, 3, 11, 13), (94, .bipush 12, 2, 12, 0), (96, .iaload, 1, 0, 0),
  (97, .ireturn, 1, 0, 0), (98, .aload_n 0, 1, 0, 0), (99, .getfield 28, 3, 11, 13), (102, .bipush 10, 2, 10, 0), (104, .iaload, 1, 0, 0), (105, .ireturn, 1, 0, 0),
  (106, .aload_n 0, 1, 0, 0), (107, .iconst 0, 1, 0, 0), (108, .invokevirtual 153, 3, 122, 1), (111, .ireturn, 1, 0, 0), (112, .aload_n 0, 1, 0, 0), (113, .getfield 116, 3, 11, 19),
  (116, .ireturn, 1, 0, 0), (117, .aload_n 0, 1, 0, 0), (118, .getfield 195, 3, 11, 25), (121, .ireturn, 1, 0, 0), (122, .bipush (-2), 2, 2, 1), (124, .ireturn, 1, 0, 0)]
def gc_163 : List gc_O := [
  (0, .iload_n 0, 1, 0, 0), (1, .iload_n 0, 1, 0, 0), (2, .iconst 1, 1, 1, 0), (3, .iushr, 1, 0, 0), (4, .ldc_w 265, 3, 1431655765, 0), (7, .iand, 1, 0, 0),
  (8, .isub, 1, 0, 0), (9, .istore_n 0, 1, 0, 0), (10, .iload_n 0, 1, 0, 0), (11, .ldc_w 266, 3, 858993459, 0), (14, .iand, 1, 0, 0), (15, .iload_n 0, 1, 0, 0),
  (16, .iconst 2, 1, 2, 0), (17, .iushr, 1, 0, 0), (18, .ldc_w 266, 3, 858993459, 0), (21, .iand, 1, 0, 0), (22, .iadd, 1, 0, 0), (23, .istore_n 0, 1, 0, 0),
  (24, .iload_n 0, 1, 0, 0), (25, .iload_n 0, 1, 0, 0), (26, .iconst 4, 1, 4, 0), (27, .iushr, 1, 0, 0), (28, .iadd, 1, 0, 0), (29, .ldc_w 267, 3, 252645135, 0),
  (32, .iand, 1, 0, 0), (33, .istore_n 0, 1, 0, 0), (34, .iload_n 0, 1, 0, 0), (35, .iload_n 0, 1, 0, 0), (36, .bipush 8, 2, 8, 0), (38, .iushr, 1, 0, 0),
  (39, .iadd, 1, 0, 0), (40, .istore_n 0, 1, 0, 0), (41, .iload_n 0, 1, 0, 0), (42, .iload_n 0, 1, 0, 0), (43, .bipush 16, 2, 16, 0), (45, .iushr, 1, 0, 0),
  (46, .iadd, 1, 0, 0), (47, .istore_n 0, 1, 0, 0), (48, .iload_n 0, 1, 0, 0), (49, .bipush 63, 2, 63, 0), (51, .iand, 1, 0, 0), (52, .ireturn, 1, 0, 0)]
def gc_164_0 : List gc_O := [
  (0, .new 7, 3, 10, 0), (3, .dup, 1, 0, 0), (4, .invokespecial 9, 3, 63, 0), (7, .astore_n 1, 1, 1, 0), (8, .new 10, 3, 11, 0), (11, .dup, 1, 0, 0),
  (12, .invokespecial 12, 3, 106, 0), (15, .astore_n 2, 1, 2, 0), (16, .iconst 0, 1, 0, 0), (17, .istore_n 3, 1, 3, 0), (18, .iload_n 3, 1, 3, 0), (19, .aload_n 0, 1, 0, 0),
  (20, .arraylength, 1, 0, 0), (21, .iconst 5, 1, 5, 0), (22, .isub, 1, 0, 0), (23, .if_icmp .gt 983, 3, 1006, 0), (26, .aload_n 0, 1, 0, 0), (27, .iload_n 3, 1, 3, 0),
  (28, .iaload, 1, 0, 0), (29, .bipush 31, 2, 31, 0), (31, .iand, 1, 0, 0), (32, .tableswitch 968 0 28 #[132, 155, 168, 181, 194, 217, 240, 273, 286, 325, 348, 361, 384, 423, 436, 485, 518, 541, 564, 623, 636, 659, 719, 789, 822, 876, 899, 922, 945], 132, 0, 0), (164, .aload_n 1, 1, 1, 0), (165, .aload_n 0, 1, 0, 0),
  (166, .iload_n 3, 1, 3, 0), (167, .iconst 1, 1, 1, 0), (168, .iadd, 1, 0, 0), (169, .iaload, 1, 0, 0), (170, .invokevirtual 13, 3, 64, 1), (173, .aload_n 2, 1, 2, 0),
  (174, .aload_n 0, 1, 0, 0), (175, .iload_n 3, 1, 3, 0), (176, .iconst 1, 1, 1, 0), (177, .iadd, 1, 0, 0), (178, .iaload, 1, 0, 0), (179, .invokevirtual 17, 3, 110, 1),
  (182, .if_icmp .eq 818, 3, 1000, 0), (185, .iconst 0, 1, 0, 0), (186, .ireturn, 1, 0, 0), (187, .aload_n 1, 1, 1, 0)]
def gc_164_1 : List gc_O := [
  (188, .invokevirtual 18, 3, 65, 0), (191, .aload_n 2, 1, 2, 0), (192, .invokevirtual 22, 3, 111, 0), (195, .if_icmp .eq 805, 3, 1000, 0), (198, .iconst 0, 1, 0, 0), (199, .ireturn, 1, 0, 0),
  (200, .aload_n 1, 1, 1, 0), (201, .invokevirtual 23, 3, 66, 0), (204, .aload_n 2, 1, 2, 0), (205, .invokevirtual 26, 3, 116, 0), (208, .if_icmp .eq 792, 3, 1000, 0), (211, .iconst 0, 1, 0, 0),
  (212, .ireturn, 1, 0, 0), (213, .aload_n 1, 1, 1, 0), (214, .invokevirtual 27, 3, 67, 0), (217, .aload_n 2, 1, 2, 0), (218, .invokevirtual 30, 3, 117, 0), (221, .if_icmp .eq 779, 3, 1000, 0),
  (224, .iconst 0, 1, 0, 0), (225, .ireturn, 1, 0, 0), (226, .aload_n 1, 1, 1, 0), (227, .aload_n 0, 1, 0, 0), (228, .iload_n 3, 1, 3, 0), (229, .iconst 1, 1, 1, 0),
  (230, .iadd, 1, 0, 0), (231, .iaload, 1, 0, 0), (232, .invokevirtual 31, 3, 68, 1), (235, .aload_n 2, 1, 2, 0), (236, .aload_n 0, 1, 0, 0), (237, .iload_n 3, 1, 3, 0),
  (238, .iconst 1, 1, 1, 0), (239, .iadd, 1, 0, 0), (240, .iaload, 1, 0, 0), (241, .invokevirtual 34, 3, 119, 1), (244, .if_icmp .eq 756, 3, 1000, 0), (247, .iconst 0, 1, 0, 0),
  (248, .ireturn, 1, 0, 0), (249, .aload_n 1, 1, 1, 0), (250, .aload_n 0, 1, 0, 0), (251, .iload_n 3, 1, 3, 0)]
def gc_164_2 : List gc_O := [
  (252, .iconst 1, 1, 1, 0), (253, .iadd, 1, 0, 0), (254, .iaload, 1, 0, 0), (255, .invokevirtual 35, 3, 69, 1), (258, .aload_n 2, 1, 2, 0), (259, .aload_n 0, 1, 0, 0),
  (260, .iload_n 3, 1, 3, 0), (261, .iconst 1, 1, 1, 0), (262, .iadd, 1, 0, 0), (263, .iaload, 1, 0, 0), (264, .invokevirtual 38, 3, 120, 1), (267, .if_icmp .eq 733, 3, 1000, 0),
  (270, .iconst 0, 1, 0, 0), (271, .ireturn, 1, 0, 0), (272, .aload_n 1, 1, 1, 0), (273, .aload_n 0, 1, 0, 0), (274, .iload_n 3, 1, 3, 0), (275, .iconst 1, 1, 1, 0),
  (276, .iadd, 1, 0, 0), (277, .iaload, 1, 0, 0), (278, .aload_n 0, 1, 0, 0), (279, .iload_n 3, 1, 3, 0), (280, .iconst 2, 1, 2, 0), (281, .iadd, 1, 0, 0),
  (282, .iaload, 1, 0, 0), (283, .invokevirtual 39, 3, 70, 2), (286, .aload_n 2, 1, 2, 0), (287, .aload_n 0, 1, 0, 0), (288, .iload_n 3, 1, 3, 0), (289, .iconst 1, 1, 1, 0),
  (290, .iadd, 1, 0, 0), (291, .iaload, 1, 0, 0), (292, .aload_n 0, 1, 0, 0), (293, .iload_n 3, 1, 3, 0), (294, .iconst 2, 1, 2, 0), (295, .iadd, 1, 0, 0),
  (296, .iaload, 1, 0, 0), (297, .invokevirtual 43, 3, 123, 2), (300, .if_icmp .eq 700, 3, 1000, 0), (303, .iconst 0, 1, 0, 0)]
def gc_164_3 : List gc_O := [
  (304, .ireturn, 1, 0, 0), (305, .aload_n 1, 1, 1, 0), (306, .invokevirtual 44, 3, 71, 0), (309, .aload_n 2, 1, 2, 0), (310, .invokevirtual 47, 3, 124, 0), (313, .if_icmp .eq 687, 3, 1000, 0),
  (316, .iconst 0, 1, 0, 0), (317, .ireturn, 1, 0, 0), (318, .aload_n 1, 1, 1, 0), (319, .aload_n 0, 1, 0, 0), (320, .iload_n 3, 1, 3, 0), (321, .iconst 1, 1, 1, 0),
  (322, .iadd, 1, 0, 0), (323, .iaload, 1, 0, 0), (324, .ifCond .eq 7, 3, 331, 0), (327, .iconst 1, 1, 1, 0), (328, .goto 4, 3, 332, 0), (331, .iconst 0, 1, 0, 0),
  (332, .invokevirtual 48, 3, 72, 1), (335, .aload_n 2, 1, 2, 0), (336, .aload_n 0, 1, 0, 0), (337, .iload_n 3, 1, 3, 0), (338, .iconst 1, 1, 1, 0), (339, .iadd, 1, 0, 0),
  (340, .iaload, 1, 0, 0), (341, .ifCond .eq 7, 3, 348, 0), (344, .iconst 1, 1, 1, 0), (345, .goto 4, 3, 349, 0), (348, .iconst 0, 1, 0, 0), (349, .invokevirtual 52, 3, 131, 1),
  (352, .if_icmp .eq 648, 3, 1000, 0), (355, .iconst 0, 1, 0, 0), (356, .ireturn, 1, 0, 0), (357, .aload_n 1, 1, 1, 0), (358, .aload_n 0, 1, 0, 0), (359, .iload_n 3, 1, 3, 0),
  (360, .iconst 1, 1, 1, 0), (361, .iadd, 1, 0, 0), (362, .iaload, 1, 0, 0), (363, .invokevirtual 53, 3, 73, 1)]
def gc_164_4 : List gc_O := [
  (366, .aload_n 2, 1, 2, 0), (367, .aload_n 0, 1, 0, 0), (368, .iload_n 3, 1, 3, 0), (369, .iconst 1, 1, 1, 0), (370, .iadd, 1, 0, 0), (371, .iaload, 1, 0, 0),
  (372, .invokevirtual 56, 3, 132, 1), (375, .if_icmp .eq 625, 3, 1000, 0), (378, .iconst 0, 1, 0, 0), (379, .ireturn, 1, 0, 0), (380, .aload_n 1, 1, 1, 0), (381, .invokevirtual 57, 3, 74, 0),
  (384, .aload_n 2, 1, 2, 0), (385, .invokevirtual 60, 3, 133, 0), (388, .if_icmp .eq 612, 3, 1000, 0), (391, .iconst 0, 1, 0, 0), (392, .ireturn, 1, 0, 0), (393, .aload_n 1, 1, 1, 0),
  (394, .aload_n 0, 1, 0, 0), (395, .iload_n 3, 1, 3, 0), (396, .iconst 1, 1, 1, 0), (397, .iadd, 1, 0, 0), (398, .iaload, 1, 0, 0), (399, .invokevirtual 61, 3, 75, 1),
  (402, .aload_n 2, 1, 2, 0), (403, .aload_n 0, 1, 0, 0), (404, .iload_n 3, 1, 3, 0), (405, .iconst 1, 1, 1, 0), (406, .iadd, 1, 0, 0), (407, .iaload, 1, 0, 0),
  (408, .invokevirtual 64, 3, 136, 1), (411, .if_icmp .eq 589, 3, 1000, 0), (414, .iconst 0, 1, 0, 0), (415, .ireturn, 1, 0, 0), (416, .aload_n 1, 1, 1, 0), (417, .aload_n 0, 1, 0, 0),
  (418, .iload_n 3, 1, 3, 0), (419, .iconst 1, 1, 1, 0), (420, .iadd, 1, 0, 0), (421, .iaload, 1, 0, 0)]
def gc_164_5 : List gc_O := [
  (422, .ifCond .eq 7, 3, 429, 0), (425, .iconst 1, 1, 1, 0), (426, .goto 4, 3, 430, 0), (429, .iconst 0, 1, 0, 0), (430, .invokevirtual 65, 3, 76, 1), (433, .aload_n 2, 1, 2, 0),
  (434, .aload_n 0, 1, 0, 0), (435, .iload_n 3, 1, 3, 0), (436, .iconst 1, 1, 1, 0), (437, .iadd, 1, 0, 0), (438, .iaload, 1, 0, 0), (439, .ifCond .eq 7, 3, 446, 0),
  (442, .iconst 1, 1, 1, 0), (443, .goto 4, 3, 447, 0), (446, .iconst 0, 1, 0, 0), (447, .invokevirtual 68, 3, 138, 1), (450, .if_icmp .eq 550, 3, 1000, 0), (453, .iconst 0, 1, 0, 0),
  (454, .ireturn, 1, 0, 0), (455, .aload_n 1, 1, 1, 0), (456, .invokevirtual 69, 3, 77, 0), (459, .aload_n 2, 1, 2, 0), (460, .invokevirtual 72, 3, 139, 0), (463, .if_icmp .eq 537, 3, 1000, 0),
  (466, .iconst 0, 1, 0, 0), (467, .ireturn, 1, 0, 0), (468, .aload_n 1, 1, 1, 0), (469, .aload_n 0, 1, 0, 0), (470, .iload_n 3, 1, 3, 0), (471, .iconst 1, 1, 1, 0),
  (472, .iadd, 1, 0, 0), (473, .iaload, 1, 0, 0), (474, .aload_n 0, 1, 0, 0), (475, .iload_n 3, 1, 3, 0), (476, .iconst 2, 1, 2, 0), (477, .iadd, 1, 0, 0),
  (478, .iaload, 1, 0, 0), (479, .ifCond .eq 7, 3, 486, 0), (482, .iconst 1, 1, 1, 0), (483, .goto 4, 3, 487, 0)]
def gc_164_6 : List gc_O := [
  (486, .iconst 0, 1, 0, 0), (487, .invokevirtual 73, 3, 78, 2), (490, .aload_n 2, 1, 2, 0), (491, .aload_n 0, 1, 0, 0), (492, .iload_n 3, 1, 3, 0), (493, .iconst 1, 1, 1, 0),
  (494, .iadd, 1, 0, 0), (495, .iaload, 1, 0, 0), (496, .aload_n 0, 1, 0, 0), (497, .iload_n 3, 1, 3, 0), (498, .iconst 2, 1, 2, 0), (499, .iadd, 1, 0, 0),
  (500, .iaload, 1, 0, 0), (501, .ifCond .eq 7, 3, 508, 0), (504, .iconst 1, 1, 1, 0), (505, .goto 4, 3, 509, 0), (508, .iconst 0, 1, 0, 0), (509, .invokevirtual 77, 3, 142, 2),
  (512, .if_icmp .eq 488, 3, 1000, 0), (515, .iconst 0, 1, 0, 0), (516, .ireturn, 1, 0, 0), (517, .aload_n 1, 1, 1, 0), (518, .aload_n 0, 1, 0, 0), (519, .iload_n 3, 1, 3, 0),
  (520, .iconst 1, 1, 1, 0), (521, .iadd, 1, 0, 0), (522, .iaload, 1, 0, 0), (523, .aload_n 0, 1, 0, 0), (524, .iload_n 3, 1, 3, 0), (525, .iconst 2, 1, 2, 0),
  (526, .iadd, 1, 0, 0), (527, .iaload, 1, 0, 0), (528, .invokevirtual 78, 3, 79, 2), (531, .aload_n 2, 1, 2, 0), (532, .aload_n 0, 1, 0, 0), (533, .iload_n 3, 1, 3, 0),
  (534, .iconst 1, 1, 1, 0), (535, .iadd, 1, 0, 0), (536, .iaload, 1, 0, 0), (537, .aload_n 0, 1, 0, 0)]
def gc_164_7 : List gc_O := [
  (538, .iload_n 3, 1, 3, 0), (539, .iconst 2, 1, 2, 0), (540, .iadd, 1, 0, 0), (541, .iaload, 1, 0, 0), (542, .invokevirtual 81, 3, 144, 2), (545, .if_icmp .eq 455, 3, 1000, 0),
  (548, .iconst 0, 1, 0, 0), (549, .ireturn, 1, 0, 0), (550, .aload_n 1, 1, 1, 0), (551, .aload_n 0, 1, 0, 0), (552, .iload_n 3, 1, 3, 0), (553, .iconst 1, 1, 1, 0),
  (554, .iadd, 1, 0, 0), (555, .iaload, 1, 0, 0), (556, .invokevirtual 82, 3, 80, 1), (559, .aload_n 2, 1, 2, 0), (560, .aload_n 0, 1, 0, 0), (561, .iload_n 3, 1, 3, 0),
  (562, .iconst 1, 1, 1, 0), (563, .iadd, 1, 0, 0), (564, .iaload, 1, 0, 0), (565, .invokevirtual 85, 3, 145, 1), (568, .if_icmp .eq 432, 3, 1000, 0), (571, .iconst 0, 1, 0, 0),
  (572, .ireturn, 1, 0, 0), (573, .aload_n 1, 1, 1, 0), (574, .aload_n 0, 1, 0, 0), (575, .iload_n 3, 1, 3, 0), (576, .iconst 1, 1, 1, 0), (577, .iadd, 1, 0, 0),
  (578, .iaload, 1, 0, 0), (579, .invokevirtual 86, 3, 81, 1), (582, .aload_n 2, 1, 2, 0), (583, .aload_n 0, 1, 0, 0), (584, .iload_n 3, 1, 3, 0), (585, .iconst 1, 1, 1, 0),
  (586, .iadd, 1, 0, 0), (587, .iaload, 1, 0, 0), (588, .invokevirtual 89, 3, 146, 1), (591, .if_icmp .eq 409, 3, 1000, 0)]
def gc_164_8 : List gc_O := [
  (594, .iconst 0, 1, 0, 0), (595, .ireturn, 1, 0, 0), (596, .aload_n 1, 1, 1, 0), (597, .aload_n 0, 1, 0, 0), (598, .iload_n 3, 1, 3, 0), (599, .iconst 1, 1, 1, 0),
  (600, .iadd, 1, 0, 0), (601, .iaload, 1, 0, 0), (602, .aload_n 0, 1, 0, 0), (603, .iload_n 3, 1, 3, 0), (604, .iconst 2, 1, 2, 0), (605, .iadd, 1, 0, 0),
  (606, .iaload, 1, 0, 0), (607, .aload_n 0, 1, 0, 0), (608, .iload_n 3, 1, 3, 0), (609, .iconst 3, 1, 3, 0), (610, .iadd, 1, 0, 0), (611, .iaload, 1, 0, 0),
  (612, .ifCond .eq 7, 3, 619, 0), (615, .iconst 1, 1, 1, 0), (616, .goto 4, 3, 620, 0), (619, .iconst 0, 1, 0, 0), (620, .invokevirtual 90, 3, 82, 3), (623, .aload_n 2, 1, 2, 0),
  (624, .aload_n 0, 1, 0, 0), (625, .iload_n 3, 1, 3, 0), (626, .iconst 1, 1, 1, 0), (627, .iadd, 1, 0, 0), (628, .iaload, 1, 0, 0), (629, .aload_n 0, 1, 0, 0),
  (630, .iload_n 3, 1, 3, 0), (631, .iconst 2, 1, 2, 0), (632, .iadd, 1, 0, 0), (633, .iaload, 1, 0, 0), (634, .aload_n 0, 1, 0, 0), (635, .iload_n 3, 1, 3, 0),
  (636, .iconst 3, 1, 3, 0), (637, .iadd, 1, 0, 0), (638, .iaload, 1, 0, 0), (639, .ifCond .eq 7, 3, 646, 0)]
def gc_164_9 : List gc_O := [
  (642, .iconst 1, 1, 1, 0), (643, .goto 4, 3, 647, 0), (646, .iconst 0, 1, 0, 0), (647, .invokevirtual 94, 3, 147, 3), (650, .if_icmp .eq 350, 3, 1000, 0), (653, .iconst 0, 1, 0, 0),
  (654, .ireturn, 1, 0, 0), (655, .aload_n 1, 1, 1, 0), (656, .invokevirtual 95, 3, 83, 0), (659, .aload_n 2, 1, 2, 0), (660, .invokevirtual 98, 3, 148, 0), (663, .if_icmp .eq 337, 3, 1000, 0),
  (666, .iconst 0, 1, 0, 0), (667, .ireturn, 1, 0, 0), (668, .aload_n 1, 1, 1, 0), (669, .aload_n 0, 1, 0, 0), (670, .iload_n 3, 1, 3, 0), (671, .iconst 1, 1, 1, 0),
  (672, .iadd, 1, 0, 0), (673, .iaload, 1, 0, 0), (674, .invokevirtual 99, 3, 84, 1), (677, .aload_n 2, 1, 2, 0), (678, .aload_n 0, 1, 0, 0), (679, .iload_n 3, 1, 3, 0),
  (680, .iconst 1, 1, 1, 0), (681, .iadd, 1, 0, 0), (682, .iaload, 1, 0, 0), (683, .invokevirtual 102, 3, 150, 1), (686, .if_icmp .eq 314, 3, 1000, 0), (689, .iconst 0, 1, 0, 0),
  (690, .ireturn, 1, 0, 0), (691, .aload_n 1, 1, 1, 0), (692, .aload_n 0, 1, 0, 0), (693, .iload_n 3, 1, 3, 0), (694, .iconst 1, 1, 1, 0), (695, .iadd, 1, 0, 0),
  (696, .iaload, 1, 0, 0), (697, .aload_n 0, 1, 0, 0), (698, .iload_n 3, 1, 3, 0), (699, .iconst 2, 1, 2, 0)]
def gc_164_10 : List gc_O := [
  (700, .iadd, 1, 0, 0), (701, .iaload, 1, 0, 0), (702, .aload_n 0, 1, 0, 0), (703, .iload_n 3, 1, 3, 0), (704, .iconst 3, 1, 3, 0), (705, .iadd, 1, 0, 0),
  (706, .iaload, 1, 0, 0), (707, .ifCond .eq 7, 3, 714, 0), (710, .iconst 1, 1, 1, 0), (711, .goto 4, 3, 715, 0), (714, .iconst 0, 1, 0, 0), (715, .invokevirtual 103, 3, 85, 3),
  (718, .aload_n 2, 1, 2, 0), (719, .aload_n 0, 1, 0, 0), (720, .iload_n 3, 1, 3, 0), (721, .iconst 1, 1, 1, 0), (722, .iadd, 1, 0, 0), (723, .iaload, 1, 0, 0),
  (724, .aload_n 0, 1, 0, 0), (725, .iload_n 3, 1, 3, 0), (726, .iconst 2, 1, 2, 0), (727, .iadd, 1, 0, 0), (728, .iaload, 1, 0, 0), (729, .aload_n 0, 1, 0, 0),
  (730, .iload_n 3, 1, 3, 0), (731, .iconst 3, 1, 3, 0), (732, .iadd, 1, 0, 0), (733, .iaload, 1, 0, 0), (734, .ifCond .eq 7, 3, 741, 0), (737, .iconst 1, 1, 1, 0),
  (738, .goto 4, 3, 742, 0), (741, .iconst 0, 1, 0, 0), (742, .invokevirtual 107, 3, 152, 3), (745, .lcmp, 1, 0, 0), (746, .ifCond .eq 254, 3, 1000, 0), (749, .iconst 0, 1, 0, 0),
  (750, .ireturn, 1, 0, 0), (751, .aload_n 1, 1, 1, 0), (752, .aload_n 0, 1, 0, 0), (753, .iload_n 3, 1, 3, 0)]
def gc_164_11 : List gc_O := [
  (754, .iconst 1, 1, 1, 0), (755, .iadd, 1, 0, 0), (756, .iaload, 1, 0, 0), (757, .aload_n 0, 1, 0, 0), (758, .iload_n 3, 1, 3, 0), (759, .iconst 2, 1, 2, 0),
  (760, .iadd, 1, 0, 0), (761, .iaload, 1, 0, 0), (762, .aload_n 0, 1, 0, 0), (763, .iload_n 3, 1, 3, 0), (764, .iconst 3, 1, 3, 0), (765, .iadd, 1, 0, 0),
  (766, .iaload, 1, 0, 0), (767, .aload_n 0, 1, 0, 0), (768, .iload_n 3, 1, 3, 0), (769, .iconst 4, 1, 4, 0), (770, .iadd, 1, 0, 0), (771, .iaload, 1, 0, 0),
  (772, .ifCond .eq 7, 3, 779, 0), (775, .iconst 1, 1, 1, 0), (776, .goto 4, 3, 780, 0), (779, .iconst 0, 1, 0, 0), (780, .invokevirtual 108, 3, 86, 4), (783, .aload_n 2, 1, 2, 0),
  (784, .aload_n 0, 1, 0, 0), (785, .iload_n 3, 1, 3, 0), (786, .iconst 1, 1, 1, 0), (787, .iadd, 1, 0, 0), (788, .iaload, 1, 0, 0), (789, .aload_n 0, 1, 0, 0),
  (790, .iload_n 3, 1, 3, 0), (791, .iconst 2, 1, 2, 0), (792, .iadd, 1, 0, 0), (793, .iaload, 1, 0, 0), (794, .aload_n 0, 1, 0, 0), (795, .iload_n 3, 1, 3, 0),
  (796, .iconst 3, 1, 3, 0), (797, .iadd, 1, 0, 0), (798, .iaload, 1, 0, 0), (799, .aload_n 0, 1, 0, 0)]
def gc_164_12 : List gc_O := [
  (800, .iload_n 3, 1, 3, 0), (801, .iconst 4, 1, 4, 0), (802, .iadd, 1, 0, 0), (803, .iaload, 1, 0, 0), (804, .ifCond .eq 7, 3, 811, 0), (807, .iconst 1, 1, 1, 0),
  (808, .goto 4, 3, 812, 0), (811, .iconst 0, 1, 0, 0), (812, .invokevirtual 112, 3, 153, 4), (815, .lcmp, 1, 0, 0), (816, .ifCond .eq 184, 3, 1000, 0), (819, .iconst 0, 1, 0, 0),
  (820, .ireturn, 1, 0, 0), (821, .aload_n 1, 1, 1, 0), (822, .aload_n 0, 1, 0, 0), (823, .iload_n 3, 1, 3, 0), (824, .iconst 1, 1, 1, 0), (825, .iadd, 1, 0, 0),
  (826, .iaload, 1, 0, 0), (827, .aload_n 0, 1, 0, 0), (828, .iload_n 3, 1, 3, 0), (829, .iconst 2, 1, 2, 0), (830, .iadd, 1, 0, 0), (831, .iaload, 1, 0, 0),
  (832, .invokevirtual 113, 3, 87, 2), (835, .aload_n 2, 1, 2, 0), (836, .aload_n 0, 1, 0, 0), (837, .iload_n 3, 1, 3, 0), (838, .iconst 1, 1, 1, 0), (839, .iadd, 1, 0, 0),
  (840, .iaload, 1, 0, 0), (841, .aload_n 0, 1, 0, 0), (842, .iload_n 3, 1, 3, 0), (843, .iconst 2, 1, 2, 0), (844, .iadd, 1, 0, 0), (845, .iaload, 1, 0, 0),
  (846, .invokevirtual 116, 3, 157, 2), (849, .if_icmp .eq 151, 3, 1000, 0), (852, .iconst 0, 1, 0, 0), (853, .ireturn, 1, 0, 0)]
def gc_164_13 : List gc_O := [
  (854, .aload_n 1, 1, 1, 0), (855, .aload_n 0, 1, 0, 0), (856, .iload_n 3, 1, 3, 0), (857, .iconst 1, 1, 1, 0), (858, .iadd, 1, 0, 0), (859, .iaload, 1, 0, 0),
  (860, .i2l, 1, 0, 0), (861, .bipush 32, 2, 32, 0), (863, .lshl, 1, 0, 0), (864, .aload_n 0, 1, 0, 0), (865, .iload_n 3, 1, 3, 0), (866, .iconst 2, 1, 2, 0),
  (867, .iadd, 1, 0, 0), (868, .iaload, 1, 0, 0), (869, .i2l, 1, 0, 0), (870, .ldc2_w 117, 3, 4294967295, 0), (873, .land, 1, 0, 0), (874, .lor, 1, 0, 0),
  (875, .invokevirtual 119, 3, 88, 1), (878, .aload_n 2, 1, 2, 0), (879, .aload_n 0, 1, 0, 0), (880, .iload_n 3, 1, 3, 0), (881, .iconst 1, 1, 1, 0), (882, .iadd, 1, 0, 0),
  (883, .iaload, 1, 0, 0), (884, .i2l, 1, 0, 0), (885, .bipush 32, 2, 32, 0), (887, .lshl, 1, 0, 0), (888, .aload_n 0, 1, 0, 0), (889, .iload_n 3, 1, 3, 0),
  (890, .iconst 2, 1, 2, 0), (891, .iadd, 1, 0, 0), (892, .iaload, 1, 0, 0), (893, .i2l, 1, 0, 0), (894, .ldc2_w 117, 3, 4294967295, 0), (897, .land, 1, 0, 0),
  (898, .lor, 1, 0, 0), (899, .invokevirtual 123, 3, 158, 1), (902, .lcmp, 1, 0, 0), (903, .ifCond .eq 97, 3, 1000, 0)]
def gc_164_14 : List gc_O := [
  (906, .iconst 0, 1, 0, 0), (907, .ireturn, 1, 0, 0), (908, .aload_n 1, 1, 1, 0), (909, .aload_n 0, 1, 0, 0), (910, .iload_n 3, 1, 3, 0), (911, .iconst 1, 1, 1, 0),
  (912, .iadd, 1, 0, 0), (913, .iaload, 1, 0, 0), (914, .invokevirtual 124, 3, 89, 1), (917, .aload_n 2, 1, 2, 0), (918, .aload_n 0, 1, 0, 0), (919, .iload_n 3, 1, 3, 0),
  (920, .iconst 1, 1, 1, 0), (921, .iadd, 1, 0, 0), (922, .iaload, 1, 0, 0), (923, .invokevirtual 127, 3, 159, 1), (926, .if_icmp .eq 74, 3, 1000, 0), (929, .iconst 0, 1, 0, 0),
  (930, .ireturn, 1, 0, 0), (931, .aload_n 1, 1, 1, 0), (932, .aload_n 0, 1, 0, 0), (933, .iload_n 3, 1, 3, 0), (934, .iconst 1, 1, 1, 0), (935, .iadd, 1, 0, 0),
  (936, .iaload, 1, 0, 0), (937, .invokevirtual 128, 3, 90, 1), (940, .aload_n 2, 1, 2, 0), (941, .aload_n 0, 1, 0, 0), (942, .iload_n 3, 1, 3, 0), (943, .iconst 1, 1, 1, 0),
  (944, .iadd, 1, 0, 0), (945, .iaload, 1, 0, 0), (946, .invokevirtual 131, 3, 160, 1), (949, .if_icmp .eq 51, 3, 1000, 0), (952, .iconst 0, 1, 0, 0), (953, .ireturn, 1, 0, 0),
  (954, .aload_n 1, 1, 1, 0), (955, .aload_n 0, 1, 0, 0), (956, .iload_n 3, 1, 3, 0), (957, .iconst 1, 1, 1, 0)]
def gc_164_15 : List gc_O := [
  (958, .iadd, 1, 0, 0), (959, .iaload, 1, 0, 0), (960, .invokevirtual 132, 3, 91, 1), (963, .aload_n 2, 1, 2, 0), (964, .aload_n 0, 1, 0, 0), (965, .iload_n 3, 1, 3, 0),
  (966, .iconst 1, 1, 1, 0), (967, .iadd, 1, 0, 0), (968, .iaload, 1, 0, 0), (969, .invokevirtual 135, 3, 161, 1), (972, .if_icmp .eq 28, 3, 1000, 0), (975, .iconst 0, 1, 0, 0),
  (976, .ireturn, 1, 0, 0), (977, .aload_n 1, 1, 1, 0), (978, .aload_n 0, 1, 0, 0), (979, .iload_n 3, 1, 3, 0), (980, .iconst 1, 1, 1, 0), (981, .iadd, 1, 0, 0),
  (982, .iaload, 1, 0, 0), (983, .invokevirtual 136, 3, 92, 1), (986, .aload_n 2, 1, 2, 0), (987, .aload_n 0, 1, 0, 0), (988, .iload_n 3, 1, 3, 0), (989, .iconst 1, 1, 1, 0),
  (990, .iadd, 1, 0, 0), (991, .iaload, 1, 0, 0), (992, .invokevirtual 139, 3, 162, 1), (995, .if_icmp .eq 5, 3, 1000, 0), (998, .iconst 0, 1, 0, 0), (999, .ireturn, 1, 0, 0),
  (1000, .iinc 3 5, 3, 5, 0), (1003, .goto (-985), 3, 18, 0), (1006, .iconst 1, 1, 1, 0), (1007, .ireturn, 1, 0, 0)]
def gc_164 : List gc_O := gc_164_0 ++ (gc_164_1 ++ (gc_164_2 ++ (gc_164_3 ++ (gc_164_4 ++ (gc_164_5 ++ (gc_164_6 ++ (gc_164_7 ++ (gc_164_8 ++ (gc_164_9 ++ (gc_164_10 ++ (gc_164_11 ++ (gc_164_12 ++ (gc_164_13 ++ (gc_164_14 ++ (gc_164_15)))))))))))))))
def gc_l : List (List gc_O) := [gc_0, gc_1, gc_2, gc_3, gc_4, gc_5, gc_6, gc_7, gc_8, gc_9, gc_10, gc_11, gc_12, gc_13, gc_14, gc_15, gc_16, gc_17, gc_18, gc_19, gc_20, gc_21, gc_22, gc_23, gc_24, gc_25, gc_26, gc_27, gc_28, gc_29, gc_30, gc_31, gc_32, gc_33, gc_34, gc_35, gc_36, gc_37, gc_38, gc_39, gc_40, gc_41, gc_42, gc_43, gc_44, gc_45, gc_46, gc_47, gc_48, gc_49, gc_50, gc_51, gc_52, gc_53, gc_54, gc_55, gc_56, gc_57, gc_58, gc_59, gc_60, gc_61, gc_62, gc_63, gc_64, gc_65, gc_66, gc_67, gc_68, gc_69, gc_70, gc_71, gc_72, gc_73, gc_74, gc_75, gc_76, gc_77, gc_78, gc_79, gc_80, gc_81, gc_82, gc_83, gc_84, gc_85, gc_86, gc_87, gc_88, gc_89, gc_90, gc_91, gc_92, gc_93, gc_94, gc_95, gc_96, gc_97, gc_98, gc_99, gc_100, gc_101, gc_102, gc_103, gc_104, gc_105, gc_106, gc_107, gc_108, gc_109, gc_110, gc_111, gc_112, gc_113, gc_114, gc_115, gc_116, gc_117, gc_118, gc_119, gc_120, gc_121, gc_122, gc_123, gc_124, gc_125, gc_126, gc_127, gc_128, gc_129, gc_130, gc_131, gc_132, gc_133, gc_134, gc_135, gc_136, gc_137, gc_138, gc_139, gc_140, gc_141, gc_142, gc_143, gc_144, gc_145, gc_146, gc_147, gc_148, gc_149, gc_150, gc_151, gc_152, gc_153, gc_154, gc_155, gc_156, gc_157, gc_158, gc_159, gc_160, gc_161, gc_162, gc_163, gc_164]
def gc_C (i : Nat) : List gc_O := gc_l.getD i []
end
section
set_option maxRecDepth 100000 in
theorem gk_0 : ∀ r ∈ gc_0, gc_ok 0 r = true := by decide +kernel
set_option maxRecDepth 100000 in
theorem gk_1 : ∀ r ∈ gc_1, gc_ok 1 r = true := by decide +kernel
set_option maxRecDepth 100000 in
theorem gk_2 : ∀ r ∈ gc_2, gc_ok 2 r = true := by decide +kernel
set_option maxRecDepth 100000 in
theorem gk_3 : ∀ r ∈ gc_3, gc_ok 3 r = true := by decide +kernel
set_option maxRecDepth 100000 in
theorem gk_4 : ∀ r ∈ gc_4, gc_ok 4 r = true := by decide +kernel
set_option maxRecDepth 100000 in
theorem gk_5 : ∀ r ∈ gc_5, gc_ok 5 r = true := by decide +kernel
set_option maxRecDepth 100000 in
theorem gk_6 : ∀ r ∈ gc_6, gc_ok 6 r = true := by decide +kernel
set_option maxRecDepth 100000 in
theorem gk_7 : ∀ r ∈ gc_7, gc_ok 7 r = true := by decide +kernel
set_option maxRecDepth 100000 in
theorem gk_8 : ∀ r ∈ gc_8, gc_ok 8 r = true := by decide +kernel
set_option maxRecDepth 100000 in
theorem gk_9 : ∀ r ∈ gc_9, gc_ok 9 r = true := by decide +kernel
set_option maxRecDepth 100000 in
theorem gk_10 : ∀ r ∈ gc_10, gc_ok 10 r = true := by decide +kernel
set_option maxRecDepth 100000 in
theorem gk_11 : ∀ r ∈ gc_11, gc_ok 11 r = true := by decide +kernel
set_option maxRecDepth 100000 in
theorem gk_12 : ∀ r ∈ gc_12, gc_ok 12 r = true := by decide +kernel
set_option maxRecDepth 100000 in
theorem gk_13 : ∀ r ∈ gc_13, gc_ok 13 r = true := by decide +kernel
set_option maxRecDepth 100000 in
theorem gk_14 : ∀ r ∈ gc_14, gc_ok 14 r = true := by decide +kernel
set_option maxRecDepth 100000 in
theorem gk_15 : ∀ r ∈ gc_15, gc_ok 15 r = true := by decide +kernel
set_option maxRecDepth 100000 in
theorem gk_16 : ∀ r ∈ gc_16, gc_ok 16 r = true := by decide +kernel
set_option maxRecDepth 100000 in
theorem gk_17 : ∀ r ∈ gc_17, gc_ok 17 r = true := by decide +kernel
set_option maxRecDepth 100000 in
theorem gk_18 : ∀ r ∈ gc_18, gc_ok 18 r = true := by decide +kernel
set_option maxRecDepth 100000 in
theorem gk_19 : ∀ r ∈ gc_19, gc_ok 19 r = true := by decide +kernel
set_option maxRecDepth 100000 in
theorem gk_20 : ∀ r ∈ gc_20, gc_ok 20 r = true := by decide +kernel
set_option maxRecDepth 100000 in
theorem gk_21 : ∀ r ∈ gc_21, gc_ok 21 r = true := by decide +kernel
set_option maxRecDepth 100000 in
theorem gk_22 : ∀ r ∈ gc_22, gc_ok 22 r = true := by decide +kernel
set_option maxRecDepth 100000 in
theorem gk_23 : ∀ r ∈ gc_23, gc_ok 23 r = true := by decide +kernel
set_option maxRecDepth 100000 in
theorem gk_24 : ∀ r ∈ gc_24, gc_ok 24 r = true := by decide +kernel
set_option maxRecDepth 100000 in
theorem gk_25 : ∀ r ∈ gc_25, gc_ok 25 r = true := by decide +kernel
set_option maxRecDepth 100000 in
theorem gk_26 : ∀ r ∈ gc_26, gc_ok 26 r = true := by decide +kernel
set_option maxRecDepth 100000 in
theorem gk_27 : ∀ r ∈ gc_27, gc_ok 27 r = true := by decide +kernel
set_option maxRecDepth 100000 in
theorem gk_28 : ∀ r ∈ gc_28, gc_ok 28 r = true := by decide +kernel
set_option maxRecDepth 100000 in
theorem gk_29 : ∀ r ∈ gc_29, gc_ok 29 r = true := by decide +kernel
set_option maxRecDepth 100000 in
theorem gk_30 : ∀ r ∈ gc_30, gc_ok 30 r = true := by decide +kernel
set_option maxRecDepth 100000 in
theorem gk_31 : ∀ r ∈ gc_31, gc_ok 31 r = true := by decide +kernel
set_option maxRecDepth 100000 in
theorem gk_32 : ∀ r ∈ gc_32, gc_ok 32 r = true := by decide +kernel
set_option maxRecDepth 100000 in
theorem gk_33 : ∀ r ∈ gc_33, gc_ok 33 r = true := by decide +kernel
set_option maxRecDepth 100000 in
theorem gk_34 : ∀ r ∈ gc_34, gc_ok 34 r = true := by decide +kernel
set_option maxRecDepth 100000 in
theorem gk_35 : ∀ r ∈ gc_35, gc_ok 35 r = true := by decide +kernel
set_option maxRecDepth 100000 in
theorem gk_36 : ∀ r ∈ gc_36, gc_ok 36 r = true := by decide +kernel
set_option maxRecDepth 100000 in
theorem gk_37 : ∀ r ∈ gc_37, gc_ok 37 r = true := by decide +kernel
set_option maxRecDepth 100000 in
theorem gk_38 : ∀ r ∈ gc_38, gc_ok 38 r = true := by decide +kernel
set_option maxRecDepth 100000 in
theorem gk_39 : ∀ r ∈ gc_39, gc_ok 39 r = true := by decide +kernel
set_option maxRecDepth 100000 in
theorem gk_40 : ∀ r ∈ gc_40, gc_ok 40 r = true := by decide +kernel
set_option maxRecDepth 100000 in
theorem gk_41 : ∀ r ∈ gc_41, gc_ok 41 r = true := by decide +kernel
set_option maxRecDepth 100000 in
theorem gk_42 : ∀ r ∈ gc_42, gc_ok 42 r = true := by decide +kernel
set_option maxRecDepth 100000 in
theorem gk_43 : ∀ r ∈ gc_43, gc_ok 43 r = true := by decide +kernel
set_option maxRecDepth 100000 in
theorem gk_44 : ∀ r ∈ gc_44, gc_ok 44 r = true := by decide +kernel
set_option maxRecDepth 100000 in
theorem gk_45 : ∀ r ∈ gc_45, gc_ok 45 r = true := by decide +kernel
set_option maxRecDepth 100000 in
theorem gk_46 : ∀ r ∈ gc_46, gc_ok 46 r = true := by decide +kernel
set_option maxRecDepth 100000 in
theorem gk_47 : ∀ r ∈ gc_47, gc_ok 47 r = true := by decide +kernel
set_option maxRecDepth 100000 in
theorem gk_48 : ∀ r ∈ gc_48, gc_ok 48 r = true := by decide +kernel
set_option maxRecDepth 100000 in
theorem gk_49 : ∀ r ∈ gc_49, gc_ok 49 r = true := by decide +kernel
set_option maxRecDepth 100000 in
theorem gk_50 : ∀ r ∈ gc_50, gc_ok 50 r = true := by decide +kernel
set_option maxRecDepth 100000 in
theorem gk_51 : ∀ r ∈ gc_51, gc_ok 51 r = true := by decide +kernel
set_option maxRecDepth 100000 in
theorem gk_52 : ∀ r ∈ gc_52, gc_ok 52 r = true := by decide +kernel
set_option maxRecDepth 100000 in
theorem gk_53 : ∀ r ∈ gc_53, gc_ok 53 r = true := by decide +kernel
set_option maxRecDepth 100000 in
theorem gk_54 : ∀ r ∈ gc_54, gc_ok 54 r = true := by decide +kernel
set_option maxRecDepth 100000 in
theorem gk_55 : ∀ r ∈ gc_55, gc_ok 55 r = true := by decide +kernel
set_option maxRecDepth 100000 in
theorem gk_56 : ∀ r ∈ gc_56, gc_ok 56 r = true := by decide +kernel
set_option maxRecDepth 100000 in
theorem gk_57 : ∀ r ∈ gc_57, gc_ok 57 r = true := by decide +kernel
set_option maxRecDepth 100000 in
theorem gk_58 : ∀ r ∈ gc_58, gc_ok 58 r = true := by decide +kernel
set_option maxRecDepth 100000 in
theorem gk_59 : ∀ r ∈ gc_59, gc_ok 59 r = true := by decide +kernel
set_option maxRecDepth 100000 in
theorem gk_60 : ∀ r ∈ gc_60, gc_ok 60 r = true := by decide +kernel
set_option maxRecDepth 100000 in
theorem gk_61 : ∀ r ∈ gc_61, gc_ok 61 r = true := by decide +kernel
set_option maxRecDepth 100000 in
theorem gk_62 : ∀ r ∈ gc_62, gc_ok 62 r = true := by decide +kernel
end
section
set_option maxRecDepth 100000 in
theorem gk_63 : ∀ r ∈ gc_63, gc_ok 63 r = true := by decide +kernel
set_option maxRecDepth 100000 in
theorem gk_64 : ∀ r ∈ gc_64, gc_ok 64 r = true := by decide +kernel
set_option maxRecDepth 100000 in
theorem gk_65 : ∀ r ∈ gc_65, gc_ok 65 r = true := by decide +kernel
set_option maxRecDepth 100000 in
theorem gk_66 : ∀ r ∈ gc_66, gc_ok 66 r = true := by decide +kernel
set_option maxRecDepth 100000 in
theorem gk_67 : ∀ r ∈ gc_67, gc_ok 67 r = true := by decide +kernel
set_option maxRecDepth 100000 in
theorem gk_68 : ∀ r ∈ gc_68, gc_ok 68 r = true := by decide +kernel
set_option maxRecDepth 100000 in
theorem gk_69 : ∀ r ∈ gc_69, gc_ok 69 r = true := by decide +kernel
set_option maxRecDepth 100000 in
theorem gk_70 : ∀ r ∈ gc_70, gc_ok 70 r = true := by decide +kernel
set_option maxRecDepth 100000 in
theorem gk_71 : ∀ r ∈ gc_71, gc_ok 71 r = true := by decide +kernel
set_option maxRecDepth 100000 in
theorem gk_72 : ∀ r ∈ gc_72, gc_ok 72 r = true := by decide +kernel
set_option maxRecDepth 100000 in
theorem gk_73 : ∀ r ∈ gc_73, gc_ok 73 r = true := by decide +kernel
set_option maxRecDepth 100000 in
theorem gk_74 : ∀ r ∈ gc_74, gc_ok 74 r = true := by decide +kernel
set_option maxRecDepth 100000 in
theorem gk_75 : ∀ r ∈ gc_75, gc_ok 75 r = true := by decide +kernel
set_option maxRecDepth 100000 in
theorem gk_76 : ∀ r ∈ gc_76, gc_ok 76 r = true := by decide +kernel
set_option maxRecDepth 100000 in
theorem gk_77 : ∀ r ∈ gc_77, gc_ok 77 r = true := by decide +kernel
set_option maxRecDepth 100000 in
theorem gk_78 : ∀ r ∈ gc_78, gc_ok 78 r = true := by decide +kernel
set_option maxRecDepth 100000 in
theorem gk_79 : ∀ r ∈ gc_79, gc_ok 79 r = true := by decide +kernel
set_option maxRecDepth 100000 in
theorem gk_80 : ∀ r ∈ gc_80, gc_ok 80 r = true := by decide +kernel
set_option maxRecDepth 100000 in
theorem gk_81 : ∀ r ∈ gc_81, gc_ok 81 r = true := by decide +kernel
set_option maxRecDepth 100000 in
theorem gk_82 : ∀ r ∈ gc_82, gc_ok 82 r = true := by decide +kernel
set_option maxRecDepth 100000 in
theorem gk_83 : ∀ r ∈ gc_83, gc_ok 83 r = true := by decide +kernel
set_option maxRecDepth 100000 in
theorem gk_84 : ∀ r ∈ gc_84, gc_ok 84 r = true := by decide +kernel
set_option maxRecDepth 100000 in
theorem gk_85 : ∀ r ∈ gc_85, gc_ok 85 r = true := by decide +kernel
set_option maxRecDepth 100000 in
theorem gk_86 : ∀ r ∈ gc_86, gc_ok 86 r = true := by decide +kernel
set_option maxRecDepth 100000 in
theorem gk_87 : ∀ r ∈ gc_87, gc_ok 87 r = true := by decide +kernel
set_option maxRecDepth 100000 in
theorem gk_88 : ∀ r ∈ gc_88, gc_ok 88 r = true := by decide +kernel
set_option maxRecDepth 100000 in
theorem gk_89 : ∀ r ∈ gc_89, gc_ok 89 r = true := by decide +kernel
set_option maxRecDepth 100000 in
theorem gk_90 : ∀ r ∈ gc_90, gc_ok 90 r = true := by decide +kernel
set_option maxRecDepth 100000 in
theorem gk_91 : ∀ r ∈ gc_91, gc_ok 91 r = true := by decide +kernel
set_option maxRecDepth 100000 in
theorem gk_92 : ∀ r ∈ gc_92, gc_ok 92 r = true := by decide +kernel
set_option maxRecDepth 100000 in
theorem gk_93 : ∀ r ∈ gc_93, gc_ok 93 r = true := by decide +kernel
set_option maxRecDepth 100000 in
theorem gk_94 : ∀ r ∈ gc_94, gc_ok 94 r = true := by decide +kernel
set_option maxRecDepth 100000 in
theorem gk_95 : ∀ r ∈ gc_95, gc_ok 95 r = true := by decide +kernel
set_option maxRecDepth 100000 in
theorem gk_96 : ∀ r ∈ gc_96, gc_ok 96 r = true := by decide +kernel
set_option maxRecDepth 100000 in
theorem gk_97 : ∀ r ∈ gc_97, gc_ok 97 r = true := by decide +kernel
set_option maxRecDepth 100000 in
theorem gk_98 : ∀ r ∈ gc_98, gc_ok 98 r = true := by decide +kernel
set_option maxRecDepth 100000 in
theorem gk_99 : ∀ r ∈ gc_99, gc_ok 99 r = true := by decide +kernel
set_option maxRecDepth 100000 in
theorem gk_100 : ∀ r ∈ gc_100, gc_ok 100 r = true := by decide +kernel
set_option maxRecDepth 100000 in
theorem gk_101 : ∀ r ∈ gc_101, gc_ok 101 r = true := by decide +kernel
set_option maxRecDepth 100000 in
theorem gk_102 : ∀ r ∈ gc_102, gc_ok 102 r = true := by decide +kernel
set_option maxRecDepth 100000 in
theorem gk_103 : ∀ r ∈ gc_103, gc_ok 103 r = true := by decide +kernel
set_option maxRecDepth 100000 in
theorem gk_104 : ∀ r ∈ gc_104, gc_ok 104 r = true := by decide +kernel
set_option maxRecDepth 100000 in
theorem gk_105 : ∀ r ∈ gc_105, gc_ok 105 r = true := by decide +kernel
end
section
set_option maxRecDepth 100000 in
theorem gk_106 : ∀ r ∈ gc_106, gc_ok 106 r = true := by decide +kernel
set_option maxRecDepth 100000 in
theorem gk_107 : ∀ r ∈ gc_107, gc_ok 107 r = true := by decide +kernel
set_option maxRecDepth 100000 in
theorem gk_108 : ∀ r ∈ gc_108, gc_ok 108 r = true := by decide +kernel
set_option maxRecDepth 100000 in
theorem gk_109 : ∀ r ∈ gc_109, gc_ok 109 r = true := by decide +kernel
set_option maxRecDepth 100000 in
theorem gk_110 : ∀ r ∈ gc_110, gc_ok 110 r = true := by decide +kernel
set_option maxRecDepth 100000 in
theorem gk_111 : ∀ r ∈ gc_111, gc_ok 111 r = true := by decide +kernel
set_option maxRecDepth 100000 in
theorem gk_112 : ∀ r ∈ gc_112, gc_ok 112 r = true := by decide +kernel
set_option maxRecDepth 100000 in
theorem gk_113 : ∀ r ∈ gc_113, gc_ok 113 r = true := by decide +kernel
set_option maxRecDepth 100000 in
theorem gk_114 : ∀ r ∈ gc_114, gc_ok 114 r = true := by decide +kernel
set_option maxRecDepth 100000 in
theorem gk_115 : ∀ r ∈ gc_115, gc_ok 115 r = true := by decide +kernel
set_option maxRecDepth 100000 in
theorem gk_116 : ∀ r ∈ gc_116, gc_ok 116 r = true := by decide +kernel
set_option maxRecDepth 100000 in
theorem gk_117 : ∀ r ∈ gc_117, gc_ok 117 r = true := by decide +kernel
set_option maxRecDepth 100000 in
theorem gk_118 : ∀ r ∈ gc_118, gc_ok 118 r = true := by decide +kernel
set_option maxRecDepth 100000 in
theorem gk_119 : ∀ r ∈ gc_119, gc_ok 119 r = true := by decide +kernel
set_option maxRecDepth 100000 in
theorem gk_120 : ∀ r ∈ gc_120, gc_ok 120 r = true := by decide +kernel
set_option maxRecDepth 100000 in
theorem gk_121 : ∀ r ∈ gc_121, gc_ok 121 r = true := by decide +kernel
set_option maxRecDepth 100000 in
theorem gk_122 : ∀ r ∈ gc_122, gc_ok 122 r = true := by decide +kernel
set_option maxRecDepth 100000 in
theorem gk_123 : ∀ r ∈ gc_123, gc_ok 123 r = true := by decide +kernel
set_option maxRecDepth 100000 in
theorem gk_124 : ∀ r ∈ gc_124, gc_ok 124 r = true := by decide +kernel
set_option maxRecDepth 100000 in
theorem gk_125 : ∀ r ∈ gc_125, gc_ok 125 r = true := by decide +kernel
set_option maxRecDepth 100000 in
theorem gk_126 : ∀ r ∈ gc_126, gc_ok 126 r = true := by decide +kernel
set_option maxRecDepth 100000 in
theorem gk_127 : ∀ r ∈ gc_127, gc_ok 127 r = true := by decide +kernel
set_option maxRecDepth 100000 in
theorem gk_128 : ∀ r ∈ gc_128, gc_ok 128 r = true := by decide +kernel
set_option maxRecDepth 100000 in
theorem gk_129 : ∀ r ∈ gc_129, gc_ok 129 r = true := by decide +kernel
set_option maxRecDepth 100000 in
theorem gk_130 : ∀ r ∈ gc_130, gc_ok 130 r = true := by decide +kernel
set_option maxRecDepth 100000 in
theorem gk_131 : ∀ r ∈ gc_131, gc_ok 131 r = true := by decide +kernel
set_option maxRecDepth 100000 in
theorem gk_132 : ∀ r ∈ gc_132, gc_ok 132 r = true := by decide +kernel
set_option maxRecDepth 100000 in
theorem gk_133 : ∀ r ∈ gc_133, gc_ok 133 r = true := by decide +kernel
set_option maxRecDepth 100000 in
theorem gk_134 : ∀ r ∈ gc_134, gc_ok 134 r = true := by decide +kernel
set_option maxRecDepth 100000 in
theorem gk_135 : ∀ r ∈ gc_135, gc_ok 135 r = true := by decide +kernel
set_option maxRecDepth 100000 in
theorem gk_136 : ∀ r ∈ gc_136, gc_ok 136 r = true := by decide +kernel
set_option maxRecDepth 100000 in
theorem gk_137 : ∀ r ∈ gc_137, gc_ok 137 r = true := by decide +kernel
set_option maxRecDepth 100000 in
theorem gk_138 : ∀ r ∈ gc_138, gc_ok 138 r = true := by decide +kernel
set_option maxRecDepth 100000 in
theorem gk_139 : ∀ r ∈ gc_139, gc_ok 139 r = true := by decide +kernel
end
section
set_option maxRecDepth 100000 in
theorem gk_140 : ∀ r ∈ gc_140, gc_ok 140 r = true := by decide +kernel
set_option maxRecDepth 100000 in
theorem gk_141 : ∀ r ∈ gc_141, gc_ok 141 r = true := by decide +kernel
set_option maxRecDepth 100000 in
theorem gk_142 : ∀ r ∈ gc_142, gc_ok 142 r = true := by decide +kernel
set_option maxRecDepth 100000 in
theorem gk_143 : ∀ r ∈ gc_143, gc_ok 143 r = true := by decide +kernel
set_option maxRecDepth 100000 in
theorem gk_144 : ∀ r ∈ gc_144, gc_ok 144 r = true := by decide +kernel
set_option maxRecDepth 100000 in
theorem gk_145 : ∀ r ∈ gc_145, gc_ok 145 r = true := by decide +kernel
set_option maxRecDepth 100000 in
theorem gk_146 : ∀ r ∈ gc_146, gc_ok 146 r = true := by decide +kernel
set_option maxRecDepth 100000 in
theorem gk_147 : ∀ r ∈ gc_147, gc_ok 147 r = true := by decide +kernel
set_option maxRecDepth 100000 in
theorem gk_148 : ∀ r ∈ gc_148, gc_ok 148 r = true := by decide +kernel
set_option maxRecDepth 100000 in
theorem gk_149 : ∀ r ∈ gc_149, gc_ok 149 r = true := by decide +kernel
set_option maxRecDepth 100000 in
theorem gk_150 : ∀ r ∈ gc_150, gc_ok 150 r = true := by decide +kernel
set_option maxRecDepth 100000 in
theorem gk_151 : ∀ r ∈ gc_151, gc_ok 151 r = true := by decide +kernel
set_option maxRecDepth 100000 in
theorem gk_152 : ∀ r ∈ gc_152, gc_ok 152 r = true := by decide +kernel
set_option maxRecDepth 100000 in
theorem gk_153 : ∀ r ∈ gc_153, gc_ok 153 r = true := by decide +kernel
set_option maxRecDepth 100000 in
theorem gk_154 : ∀ r ∈ gc_154, gc_ok 154 r = true := by decide +kernel
set_option maxRecDepth 100000 in
theorem gk_155 : ∀ r ∈ gc_155, gc_ok 155 r = true := by decide +kernel
set_option maxRecDepth 100000 in
theorem gk_156 : ∀ r ∈ gc_156, gc_ok 156 r = true := by decide +kernel
set_option maxRecDepth 100000 in
theorem gk_157 : ∀ r ∈ gc_157, gc_ok 157 r = true := by decide +kernel
set_option maxRecDepth 100000 in
theorem gk_158 : ∀ r ∈ gc_158, gc_ok 158 r = true := by decide +kernel
set_option maxRecDepth 100000 in
theorem gk_159 : ∀ r ∈ gc_159, gc_ok 159 r = true := by decide +kernel
set_option maxRecDepth 100000 in
theorem gk_160 : ∀ r ∈ gc_160, gc_ok 160 r = true := by decide +kernel
set_option maxRecDepth 100000 in
theorem gk_161 : ∀ r ∈ gc_161, gc_ok 161 r = true := by decide +kernel
set_option maxRecDepth 100000 in
theorem gk_162 : ∀ r ∈ gc_162, gc_ok 162 r = true := by decide +kernel
set_option maxRecDepth 100000 in
theorem gk_163 : ∀ r ∈ gc_163, gc_ok 163 r = true := by decide +kernel
end
section
set_option maxRecDepth 100000 in
theorem gk_164_0 : ∀ r ∈ gc_164_0, gc_ok 164 r = true := by decide +kernel
set_option maxRecDepth 100000 in
theorem gk_164_1 : ∀ r ∈ gc_164_1, gc_ok 164 r = true := by decide +kernel
set_option maxRecDepth 100000 in
theorem gk_164_2 : ∀ r ∈ gc_164_2, gc_ok 164 r = true := by decide +kernel
set_option maxRecDepth 100000 in
theorem gk_164_3 : ∀ r ∈ gc_164_3, gc_ok 164 r = true := by decide +kernel
set_option maxRecDepth 100000 in
theorem gk_164_4 : ∀ r ∈ gc_164_4, gc_ok 164 r = true := by decide +kernel
set_option maxRecDepth 100000 in
theorem gk_164_5 : ∀ r ∈ gc_164_5, gc_ok 164 r = true := by decide +kernel
set_option maxRecDepth 100000 in
theorem gk_164_6 : ∀ r ∈ gc_164_6, gc_ok 164 r = true := by decide +kernel
set_option maxRecDepth 100000 in
theorem gk_164_7 : ∀ r ∈ gc_164_7, gc_ok 164 r = true := by decide +kernel
set_option maxRecDepth 100000 in
theorem gk_164_8 : ∀ r ∈ gc_164_8, gc_ok 164 r = true := by decide +kernel
set_option maxRecDepth 100000 in
theorem gk_164_9 : ∀ r ∈ gc_164_9, gc_ok 164 r = true := by decide +kernel
set_option maxRecDepth 100000 in
theorem gk_164_10 : ∀ r ∈ gc_164_10, gc_ok 164 r = true := by decide +kernel
set_option maxRecDepth 100000 in
theorem gk_164_11 : ∀ r ∈ gc_164_11, gc_ok 164 r = true := by decide +kernel
set_option maxRecDepth 100000 in
theorem gk_164_12 : ∀ r ∈ gc_164_12, gc_ok 164 r = true := by decide +kernel
set_option maxRecDepth 100000 in
theorem gk_164_13 : ∀ r ∈ gc_164_13, gc_ok 164 r = true := by decide +kernel
set_option maxRecDepth 100000 in
theorem gk_164_14 : ∀ r ∈ gc_164_14, gc_ok 164 r = true := by decide +kernel
set_option maxRecDepth 100000 in
theorem gk_164_15 : ∀ r ∈ gc_164_15, gc_ok 164 r = true := by decide +kernel
theorem gk_164 : ∀ r ∈ gc_164, gc_ok 164 r = true := List.forall_mem_append.mpr ⟨gk_164_0, List.forall_mem_append.mpr ⟨gk_164_1, List.forall_mem_append.mpr ⟨gk_164_2, List.forall_mem_append.mpr ⟨gk_164_3, List.forall_mem_append.mpr ⟨gk_164_4, List.forall_mem_append.mpr ⟨gk_164_5, List.forall_mem_append.mpr ⟨gk_164_6, List.forall_mem_append.mpr ⟨gk_164_7, List.forall_mem_append.mpr ⟨gk_164_8, List.forall_mem_append.mpr ⟨gk_164_9, List.forall_mem_append.mpr ⟨gk_164_10, List.forall_mem_append.mpr ⟨gk_164_11, List.forall_mem_append.mpr ⟨gk_164_12, List.forall_mem_append.mpr ⟨gk_164_13, List.forall_mem_append.mpr ⟨gk_164_14, gk_164_15⟩⟩⟩⟩⟩⟩⟩⟩⟩⟩⟩⟩⟩⟩⟩
end
section
def gk_P (l : List (List gc_O)) (n : Nat) : Prop := ∀ (k : Nat) (c : List gc_O), l[k]? = some c → ∀ r ∈ c, gc_ok (n + k) r = true
theorem gk_nil (n : Nat) : gk_P [] n := fun k c h => by simp at h
theorem gk_cons {c : List gc_O} {l : List (List gc_O)} {n : Nat} (h : ∀ r ∈ c, gc_ok n r = true) (t : gk_P l (n + 1)) : gk_P (c :: l) n := by
  intro k x hx
  cases k with
  | zero => cases hx; exact h
  | succ k => rw [List.getElem?_cons_succ] at hx; have := t k x hx; rwa [show n + 1 + k = n + (k + 1) by omega] at this
set_option maxRecDepth 100000 in
theorem gk_all : gk_P gc_l 0 := gk_cons gk_0 (gk_cons gk_1 (gk_cons gk_2 (gk_cons gk_3 (gk_cons gk_4 (gk_cons gk_5 (gk_cons gk_6 (gk_cons gk_7 (gk_cons gk_8 (gk_cons gk_9 (gk_cons gk_10 (gk_cons gk_11 (gk_cons gk_12 (gk_cons gk_13 (gk_cons gk_14 (gk_cons gk_15 (gk_cons gk_16 (gk_cons gk_17 (gk_cons gk_18 (gk_cons gk_19 (gk_cons gk_20 (gk_cons gk_21 (gk_cons gk_22 (gk_cons gk_23 (gk_cons gk_24 (gk_cons gk_25 (gk_cons gk_26 (gk_cons gk_27 (gk_cons gk_28 (gk_cons gk_29 (gk_cons gk_30 (gk_cons gk_31 (gk_cons gk_32 (gk_cons gk_33 (gk_cons gk_34 (gk_cons gk_35 (gk_cons gk_36 (gk_cons gk_37 (gk_cons gk_38 (gk_cons gk_39 (gk_cons gk_40 (gk_cons gk_41 (gk_cons gk_42 (gk_cons gk_43 (gk_cons gk_44 (gk_cons gk_45 (gk_cons gk_46 (gk_cons gk_47 (gk_cons gk_48 (gk_cons gk_49 (gk_cons gk_50 (gk_cons gk_51 (gk_cons gk_52 (gk_cons gk_53 (gk_cons gk_54 (gk_cons gk_55 (gk_cons gk_56 (gk_cons gk_57 (gk_cons gk_58 (gk_cons gk_59 (gk_cons gk_60 (gk_cons gk_61 (gk_cons gk_62 (gk_cons gk_63 (gk_cons gk_64 (gk_cons gk_65 (gk_cons gk_66 (gk_cons gk_67 (gk_cons gk_68 (gk_cons gk_69 (gk_cons gk_70 (gk_cons gk_71 (gk_cons gk_72 (gk_cons gk_73 (gk_cons gk_74 (gk_cons gk_75 (gk_cons gk_76 (gk_cons gk_77 (gk_cons gk_78 (gk_cons gk_79 (gk_cons gk_80 (gk_cons gk_81 (gk_cons gk_82 (gk_cons gk_83 (gk_cons gk_84 (gk_cons gk_85 (gk_cons gk_86 (gk_cons gk_87 (gk_cons gk_88 (gk_cons gk_89 (gk_cons gk_90 (gk_cons gk_91 (gk_cons gk_92 (gk_cons gk_93 (gk_cons gk_94 (gk_cons gk_95 (gk_cons gk_96 (gk_cons gk_97 (gk_cons gk_98 (gk_cons gk_99 (gk_cons gk_100 (gk_cons gk_101 (gk_cons gk_102 (gk_cons gk_103 (gk_cons gk_104 (gk_cons gk_105 (gk_cons gk_106 (gk_cons gk_107 (gk_cons gk_108 (gk_cons gk_109 (gk_cons gk_110 (gk_cons gk_111 (gk_cons gk_112 (gk_cons gk_113 (gk_cons gk_114 (gk_cons gk_115 (gk_cons gk_116 (gk_cons gk_117 (gk_cons gk_118 (gk_cons gk_119 (gk_cons gk_120 (gk_cons gk_121 (gk_cons gk_122 (gk_cons gk_123 (gk_cons gk_124 (gk_cons gk_125 (gk_cons gk_126 (gk_cons gk_127 (gk_cons gk_128 (gk_cons gk_129 (gk_cons gk_130 (gk_cons gk_131 (gk_cons gk_132 (gk_cons gk_133 (gk_cons gk_134 (gk_cons gk_135 (gk_cons gk_136 (gk_cons gk_137 (gk_cons gk_138 (gk_cons gk_139 (gk_cons gk_140 (gk_cons gk_141 (gk_cons gk_142 (gk_cons gk_143 (gk_cons gk_144 (gk_cons gk_145 (gk_cons gk_146 (gk_cons gk_147 (gk_cons gk_148 (gk_cons gk_149 (gk_cons gk_150 (gk_cons gk_151 (gk_cons gk_152 (gk_cons gk_153 (gk_cons gk_154 (gk_cons gk_155 (gk_cons gk_156 (gk_cons gk_157 (gk_cons gk_158 (gk_cons gk_159 (gk_cons gk_160 (gk_cons gk_161 (gk_cons gk_162 (gk_cons gk_163 (gk_cons gk_164 (gk_nil _)))))))))))))))))))))))))))))))))))))))))))))))))))))))))))))))))))))))))))))))))))))))))))))))))))))))))))))))))))))))))))))))))))))))))))))))))))))))))))))))))))))
theorem gc_sure {i : Nat} {r : gc_O} (h : r ∈ gc_C i) : gc_ok i r = true := by
  unfold gc_C at h
  rw [List.getD_eq_getElem?_getD] at h
  cases hc : gc_l[i]? with
  | none => rw [hc] at h; simp at h
  | some c => rw [hc] at h; have := gk_all i c hc r h; rwa [Nat.zero_add] at this
end
section
/-! ===== the abstract machine's world: cells by number; 0, 1, 2 are arrays that nobody writes (the script, FACTORIALS, TENS) ===== -/
/-- the shapes (kind, length), the ints, the longs, the references (0: null) -/
abbrev gw_W : Type := List (Nat × Nat) × (Nat → Nat → Int32) × (Nat → Nat → Int64) × (Nat → Nat → Nat)
/-- the classes' numbers, the array classes' numbers, where our cells begin, where the three arrays lie -/
abbrev gw_V : Type := va_G × (Nat → ClassId) × Nat × (Nat → Nat)
def gw_T (w : gw_W) (a : Nat) : Nat := (w.1.getD a (99, 0)).1
def gw_N (w : gw_W) (a : Nat) : Nat := (w.1.getD a (99, 0)).2
def gw_ad (V : gw_V) (r : Nat) : Nat := if r < 3 then V.2.2.2 r else V.2.2.1 + (r - 3)
def gw_mv (V : gw_V) : Value → Value
  | .ref r => .ref (gw_ad V r)
  | v => v
def gw_ro (V : gw_V) (r : Nat) : Option Nat := if r = 0 then none else some (gw_ad V r)
def gw_fv (V : gw_V) (w : gw_W) (c k j : Nat) : Value := if gb_s c j = 0 then .int (w.2.1 k j) else if gb_s c j = 1 then .long (w.2.2.1 k j) else va_rf (gw_ro V (w.2.2.2 k j))
def gw_fs (V : gw_V) (w : gw_W) (c k : Nat) : List Value := (List.range (gb_K c)).map (gw_fv V w c k)
def gw_cell (V : gw_V) (w : gw_W) (k : Nat) : va_E :=
  if gw_T w k = 12 then .inl (V.2.1 0, gw_N w k, .inl (w.2.1 k))
  else if gw_T w k = 13 then .inl (V.2.1 1, gw_N w k, .inl (w.2.1 k))
  else if gw_T w k = 14 then .inl (V.2.1 2, gw_N w k, .inr (.inr (.inr (.inr (fun j => gw_ro V (w.2.2.2 k j))))))
  else if gw_T w k = 15 then .inl (V.2.1 3, gw_N w k, .inr (.inr (.inr (.inr (fun j => gw_ro V (w.2.2.2 k j))))))
  else .inr (gw_T w k, gw_fs V w (gw_T w k) k)
def gw_ws (V : gw_V) (w : gw_W) : va_W := (List.range (w.1.length - 3)).map (fun j => (V.2.2.1 + j, gw_cell V w (j + 3)))
def gw_A (V : gw_V) : Nat → Prop := fun q => V.2.2.1 ≤ q
def gw_ty (V : gw_V) : List (ClassId × FieldType) := [(V.2.1 0, .int), (V.2.1 1, .boolean), (V.2.1 2, .object "MorningBill$Morning"), (V.2.1 3, .array .int)]
theorem gw_ws_get {V : gw_V} {w : gw_W} {a : Nat} (h3 : 3 ≤ a) (h : a < w.1.length) : (gw_ws V w)[a - 3]? = some (gw_ad V a, gw_cell V w a) := by
  unfold gw_ws
  rw [List.getElem?_map, List.getElem?_range (by omega)]
  show some (_, _) = _
  rw [Nat.sub_add_cancel h3]
  unfold gw_ad
  rw [if_neg (by omega)]
theorem gw_ws_at {V : gw_V} {w : gw_W} {k : Nat} {q : Nat × va_E} (h : (gw_ws V w)[k]? = some q) : k + 3 < w.1.length ∧ q = (V.2.2.1 + k, gw_cell V w (k + 3)) := by
  unfold gw_ws at h
  rw [List.getElem?_map] at h
  by_cases hk : k < w.1.length - 3
  · rw [List.getElem?_range hk] at h
    exact ⟨by omega, (Option.some.inj h).symm⟩
  · have hn : (List.range (w.1.length - 3))[k]? = none := List.getElem?_eq_none (by rw [List.length_range]; omega)
    rw [hn] at h
    cases h
theorem gw_ws_D {V : gw_V} {w : gw_W} : va_D (gw_A V) (gw_ws V w) := by
  refine ⟨fun i j p q hi hj e => ?_, fun k q hk => ?_⟩
  · obtain ⟨-, rfl⟩ := gw_ws_at hi
    obtain ⟨-, rfl⟩ := gw_ws_at hj
    have e : V.2.2.1 + i = V.2.2.1 + j := e
    omega
  · obtain ⟨-, rfl⟩ := gw_ws_at hk
    exact Nat.le_add_right _ _
theorem gw_ws_set {V : gw_V} {w w' : gw_W} {a : Nat} {x : va_E} (h3 : 3 ≤ a) (h : a < w.1.length) (hs : w'.1.length = w.1.length) (ho : ∀ k, k ≠ a → gw_cell V w' k = gw_cell V w k) (hx : gw_cell V w' a = x) : (gw_ws V w).set (a - 3) (gw_ad V a, x) = gw_ws V w' := by
  apply List.ext_getElem?
  intro k
  by_cases hk : k = a - 3
  · subst hk
    rw [gw_ws_get (w := w') h3 (by omega), List.getElem?_set_self (by unfold gw_ws; simp; omega), hx]
  · rw [List.getElem?_set_ne (Ne.symm hk)]
    unfold gw_ws
    rw [List.getElem?_map, List.getElem?_map, hs]
    by_cases hl : k < w.1.length - 3
    · rw [List.getElem?_range hl]
      show some (_, _) = some (_, _)
      rw [ho (k + 3) (by omega)]
    · have hn : (List.range (w.1.length - 3))[k]? = none := List.getElem?_eq_none (by rw [List.length_range]; omega)
      rw [hn]; rfl
/-- an int is written -/
def gw_u (f : Nat → Nat → Int32) (a k : Nat) (x : Int32) : Nat → Nat → Int32 := fun p q => if p = a ∧ q = k then x else f p q
def gw_uJ (f : Nat → Nat → Int64) (a k : Nat) (x : Int64) : Nat → Nat → Int64 := fun p q => if p = a ∧ q = k then x else f p q
def gw_uR (f : Nat → Nat → Nat) (a k : Nat) (x : Nat) : Nat → Nat → Nat := fun p q => if p = a ∧ q = k then x else f p q
theorem gw_u_o {f : Nat → Nat → Int32} {a k : Nat} {x : Int32} {p : Nat} (h : p ≠ a) : gw_u f a k x p = f p := by funext q; simp [gw_u, h]
theorem gw_u_s {f : Nat → Nat → Int32} {a k : Nat} {x : Int32} : gw_u f a k x a = upd (f a) k x := by funext q; simp [gw_u, upd]
theorem gw_uJ_o {f : Nat → Nat → Int64} {a k : Nat} {x : Int64} {p : Nat} (h : p ≠ a) : gw_uJ f a k x p = f p := by funext q; simp [gw_uJ, h]
theorem gw_uR_o {f : Nat → Nat → Nat} {a k : Nat} {x : Nat} {p : Nat} (h : p ≠ a) : gw_uR f a k x p = f p := by funext q; simp [gw_uR, h]
theorem gw_fs_get {V : gw_V} {w : gw_W} {c k j : Nat} (h : j < gb_K c) : (gw_fs V w c k)[j]? = some (gw_fv V w c k j) := by
  unfold gw_fs
  rw [List.getElem?_map, List.getElem?_range h]; rfl
theorem gw_fs_len {V : gw_V} {w : gw_W} {c k : Nat} : (gw_fs V w c k).length = gb_K c := by simp [gw_fs]
theorem gw_fs_set {V : gw_V} {w w' : gw_W} {c k j : Nat} {v : Value} (h : j < gb_K c) (ho : ∀ q, q ≠ j → gw_fv V w' c k q = gw_fv V w c k q) (hv : gw_fv V w' c k j = v) : (gw_fs V w c k).set j v = gw_fs V w' c k := by
  apply List.ext_getElem?
  intro q
  by_cases hq : q = j
  · subst hq
    rw [gw_fs_get h, List.getElem?_set_self (by rw [gw_fs_len]; exact h), hv]
  · rw [List.getElem?_set_ne (Ne.symm hq)]
    unfold gw_fs
    rw [List.getElem?_map, List.getElem?_map]
    cases he : (List.range (gb_K c))[q]? with
    | none => rfl
    | some z =>
      have hz : z = q := by
        have := List.getElem?_eq_some_iff.mp he
        obtain ⟨h1, h2⟩ := this
        rw [List.getElem_range] at h2
        exact h2.symm
      subst hz
      show some _ = some _
      rw [ho z hq]
/-- what the tables say of the classes, of the static arrays, of nest mates' words -/
def gw_NW (s : State) : Prop := (∀ r ∈ gl_N, va_Nw (.methodLinkNest (gb_n r.1) r.2.1 (gl_y r.2.2.1) "MorningBill") s) ∧ va_Nw (.fieldLinkNest "MorningBill$Groups" 65 "MorningBill" "FACTORIALS" "[I" "MorningBill") s ∧ va_AO "MorningBill$Morning" s ∧ (Cond.arrayOver (.array .int)).before #[] s = true
def gw_K (V : gw_V) (s : State) : Prop := va_K V.1 gb_cl (gw_ty V) s ∧ V.2.2.1 ≤ s.heap.size ∧ va_Z "MorningBill" "FACTORIALS" "[I" (.ref (V.2.2.2 1)) (gw_A V) s s.heap ∧ va_Z "MorningBill" "TENS" "[I" (.ref (V.2.2.2 2)) (gw_A V) s s.heap ∧ gw_NW s
/-- the heap is the world's, since the frame's start nothing outside of it has changed -/
def gw_H (V : gw_V) (w : gw_W) (s : State) (H : Heap) (locs : List Loc) : Prop :=
  va_P V.1 gb_cl (gw_ws V w) H ∧ (w.1.length < 145 → H.size = V.2.2.1 + (w.1.length - 3)) ∧ 3 ≤ w.1.length ∧ va_S (gw_A V) s.heap H locs ∧ ∀ k, k < 3 → gw_T w k = 16 ∧ va_T .int (V.2.2.2 k) (gw_N w k) (fun j => .int (w.2.1 k j)) (gw_A V) s s.heap
/-- a frame of method i -/
def gw_X (V : gw_V) (i : Nat) (p : Program) (R : Room) (s : State) (m : MethodId) (args : Array Value) (meth : Method) (c : Code) : Prop :=
  p.tables.exec = Jvm.exec ∧ c.code = gm_b i ∧ c.maxLocals = gm_L i ∧ s.vm.findClass (gb_n (gm_o i)) = some m.cls ∧ (∀ w ∈ gb_t, w.before args s = true) ∧ meth.locks = false ∧ (gm_k i = 2 → meth.name = "<init>") ∧ meth.sig.returnType = gm_r i ∧ gm_f i ≤ R.frames ∧ gm_x i ≤ R.locals ∧ gm_c i ≤ R.cells ∧ gm_s i ≤ R.slots ∧ gw_K V s
/-- where a walk stands: counter, locals, stack, world, cells and slots made -/
abbrev gw_c : Type := Nat × List (Nat × Value) × List Value × gw_W × Nat × Nat
def gw_lm (V : gw_V) (ls : List (Nat × Value)) : List (Nat × Value) := ls.map (fun q => (q.1, gw_mv V q.2))
/-- an end of method i at pc, with an answer -/
def gw_end (i pc : Nat) : Option Value → Prop
  | none => decode (gm_b i) pc = .ok (.return_, 1) ∧ gm_r i = none
  | some (.int x) => decode (gm_b i) pc = .ok (.ireturn, 1) ∧ ∃ ty, gm_r i = some ty ∧ narrow ty (.int x) = .int x
  | some (.long _) => decode (gm_b i) pc = .ok (.lreturn, 1) ∧ gm_r i = some .long
  | _ => False
/-- THE JUDGEMENT: from here method i comes to its end, with an answer and a world of which Q holds -/
def gw_E (V : gw_V) (i : Nat) (c : gw_c) (Q : Option Value → gw_W → Prop) : Prop :=
  ∀ (p : Program) (l : Launch) (e : Env) (R : Room) (s : State) (m : MethodId) (args : Array Value) (below : List Frame) (meth : Method) (cd : Code) (QQ : State → Prop) (H : Heap) (locs : List Loc) (L : Array Slot),
    gw_X V i p R s m args meth cd → gw_H V c.2.2.2.1 s H locs → lv_has L (gm_L i) (gw_lm V c.2.1) →
    (∀ (v : Option Value) (w' : gw_W) (H' : Heap) (locs' : List Loc) (pc' : Nat) (L' : Array Slot) (cu su : Nat), Q v w' → gw_H V w' s H' locs' → gw_end i pc' v → cu ≤ gm_c i → su ≤ gm_s i → W p l e R s m args below meth cd H' locs' cu su QQ (F0 m pc' L' (v.toList.map (gw_mv V)))) →
    W p l e R s m args below meth cd H locs c.2.2.2.2.1 c.2.2.2.2.2 QQ (F0 m c.1 L (c.2.2.1.map (gw_mv V)))
/-- a row of the code table -/
def gw_D (i pc : Nat) (ins : Instr) (len a b : Nat) : Prop := decode (gm_b i) pc = .ok (ins, len) ∧ gc_lk i ins pc a b = true
theorem gd {i : Nat} {l : List gc_O} (h : ∀ r ∈ l, gc_ok i r = true) (k : Nat) {pc : Nat} {ins : Instr} {len a b : Nat} (hk : l[k]? = some (pc, ins, len, a, b)) : gw_D i pc ins len a b := by
  have := h _ (List.mem_of_getElem? hk)
  unfold gc_ok at this
  rw [Bool.and_eq_true, decide_eq_true_eq] at this
  exact this
theorem gw_cat (V : gw_V) (v : Value) : (gw_mv V v).category = v.category := by cases v <;> rfl
end
section
/-! ===== the rules: locals ===== -/
theorem gw_look {V : gw_V} {n : Nat} {L : Array Slot} : ∀ {ls : List (Nat × Value)} {a : Nat} {v : Value}, lv_has L n (gw_lm V ls) → ls.lookup a = some v → L[a]? = some (.val (gw_mv V v)) := by
  intro ls a v h hk
  have hm : (a, v) ∈ ls := by
    induction ls with
    | nil => simp at hk
    | cons q t ih =>
      obtain ⟨q1, q2⟩ := q
      rw [List.lookup_cons] at hk
      by_cases e : a = q1
      · subst e
        simp at hk
        subst hk
        exact List.mem_cons_self
      · have e' : (a == q1) = false := by simpa using e
        rw [e'] at hk
        exact List.mem_cons_of_mem _ (ih ⟨h.1, h.2.1, fun q hq => h.2.2 q (List.mem_cons_of_mem _ hq)⟩ hk)
  exact h.2.2 (a, gw_mv V v) (List.mem_map.mpr ⟨(a, v), hm, rfl⟩)
/-- into its place by the number -/
def gw_ins (k : Nat) (v : Value) : List (Nat × Value) → List (Nat × Value)
  | [] => [(k, v)]
  | q :: t => match Nat.blt q.1 k with
    | true => q :: gw_ins k v t
    | false => (k, v) :: q :: t
theorem gw_ins_mem {k : Nat} {v : Value} {q : Nat × Value} : ∀ {l : List (Nat × Value)}, q ∈ gw_ins k v l → q ∈ (k, v) :: l
  | [], h => h
  | x :: t, h => by
    unfold gw_ins at h
    split at h
    · rcases List.mem_cons.mp h with e | e
      · rw [e]; exact List.mem_cons_of_mem _ List.mem_cons_self
      · rcases List.mem_cons.mp (gw_ins_mem e) with f | f
        · rw [f]; exact List.mem_cons_self
        · exact List.mem_cons_of_mem _ (List.mem_cons_of_mem _ f)
    · exact h
def gw_f1 (k : Nat) (ls : List (Nat × Value)) : List (Nat × Value) := ls.filter (fun q => !(q.1 == k) && !(q.1 + 1 == k && q.2.category == 2))
def gw_f2 (k : Nat) (ls : List (Nat × Value)) : List (Nat × Value) := ls.filter (fun q => !(q.1 == k) && (!(q.1 == k + 1) && !(q.1 + 1 == k && q.2.category == 2)))
theorem gw_f1_map (V : gw_V) (k : Nat) (ls : List (Nat × Value)) : (gw_lm V ls).filter (fun q => !(q.1 == k) && !(q.1 + 1 == k && q.2.category == 2)) = gw_lm V (gw_f1 k ls) := by
  unfold gw_lm gw_f1
  rw [List.filter_map]
  congr 2
  funext q
  simp [gw_cat]
theorem gw_f2_map (V : gw_V) (k : Nat) (ls : List (Nat × Value)) : (gw_lm V ls).filter (fun q => !(q.1 == k) && (!(q.1 == k + 1) && !(q.1 + 1 == k && q.2.category == 2))) = gw_lm V (gw_f2 k ls) := by
  unfold gw_lm gw_f2
  rw [List.filter_map]
  congr 2
  funext q
  simp [gw_cat]
theorem gw_has_ins {V : gw_V} {n k : Nat} {v : Value} {L : Array Slot} {ls : List (Nat × Value)} (h : lv_has L n ((k, gw_mv V v) :: gw_lm V ls)) : lv_has L n (gw_lm V (gw_ins k v ls)) := by
  refine ⟨h.1, h.2.1, fun q hq => ?_⟩
  obtain ⟨q0, h0, rfl⟩ := List.mem_map.mp hq
  rcases List.mem_cons.mp (gw_ins_mem h0) with e | e
  · rw [e]; exact h.2.2 _ List.mem_cons_self
  · exact h.2.2 _ (List.mem_cons_of_mem _ (List.mem_map.mpr ⟨q0, e, rfl⟩))
section GR
variable {V : gw_V} {i pc len a b : Nat} {ls ls2 : List (Nat × Value)} {st : List Value} {w : gw_W} {cu su : Nat} {Q : Option Value → gw_W → Prop}
/-- fewer locals are looked at -/
theorem gs_drop (ks : List Nat) (h : ks.filterMap (fun q => ls[q]?) = ls2) (k : gw_E V i (pc, ls2, st, w, cu, su) Q) : gw_E V i (pc, ls, st, w, cu, su) Q := by
  intro p l e R s m args below meth cd QQ H locs L X hH hl hret
  refine k p l e R s m args below meth cd QQ H locs L X hH ⟨hl.1, hl.2.1, fun q hq => ?_⟩ hret
  subst h
  obtain ⟨q0, h0, rfl⟩ := List.mem_map.mp hq
  obtain ⟨j, -, hj⟩ := List.mem_filterMap.mp h0
  exact hl.2.2 _ (List.mem_map.mpr ⟨q0, List.mem_of_getElem? hj, rfl⟩)
/-- a weaker end -/
theorem gs_mono {c : gw_c} {Q1 : Option Value → gw_W → Prop} (h : ∀ v w, Q1 v w → Q v w) (k : gw_E V i c Q1) : gw_E V i c Q := by
  intro p l e R s m args below meth cd QQ H locs L X hH hl hret
  exact k p l e R s m args below meth cd QQ H locs L X hH hl (fun v w' H' locs' pc' L' cu su hq => hret v w' H' locs' pc' L' cu su (h v w' hq))
theorem gs_eq {c c2 : gw_c} (h : c = c2) (k : gw_E V i c2 Q) : gw_E V i c Q := h ▸ k
theorem gs_iadd {x y : Int32} (hd : gw_D i pc (.iadd) 1 a b) (k : gw_E V i (pc + 1, ls, .int (x + y) :: st, w, cu, su) Q) : gw_E V i (pc, ls, .int y :: .int x :: st, w, cu, su) Q := by
  intro p l e R s m args below meth cd QQ H locs L X hH hl hret
  exact lv_iadd X.1 X.2.1 hd.1 (k p l e R s m args below meth cd QQ H locs L X hH hl hret)
theorem gs_isub {x y : Int32} (hd : gw_D i pc (.isub) 1 a b) (k : gw_E V i (pc + 1, ls, .int (x - y) :: st, w, cu, su) Q) : gw_E V i (pc, ls, .int y :: .int x :: st, w, cu, su) Q := by
  intro p l e R s m args below meth cd QQ H locs L X hH hl hret
  exact lv_isub X.1 X.2.1 hd.1 (k p l e R s m args below meth cd QQ H locs L X hH hl hret)
theorem gs_imul {x y : Int32} (hd : gw_D i pc (.imul) 1 a b) (k : gw_E V i (pc + 1, ls, .int (x * y) :: st, w, cu, su) Q) : gw_E V i (pc, ls, .int y :: .int x :: st, w, cu, su) Q := by
  intro p l e R s m args below meth cd QQ H locs L X hH hl hret
  exact lv_imul X.1 X.2.1 hd.1 (k p l e R s m args below meth cd QQ H locs L X hH hl hret)
theorem gs_iand {x y : Int32} (hd : gw_D i pc (.iand) 1 a b) (k : gw_E V i (pc + 1, ls, .int (x &&& y) :: st, w, cu, su) Q) : gw_E V i (pc, ls, .int y :: .int x :: st, w, cu, su) Q := by
  intro p l e R s m args below meth cd QQ H locs L X hH hl hret
  exact lv_iand X.1 X.2.1 hd.1 (k p l e R s m args below meth cd QQ H locs L X hH hl hret)
theorem gs_ior {x y : Int32} (hd : gw_D i pc (.ior) 1 a b) (k : gw_E V i (pc + 1, ls, .int (x ||| y) :: st, w, cu, su) Q) : gw_E V i (pc, ls, .int y :: .int x :: st, w, cu, su) Q := by
  intro p l e R s m args below meth cd QQ H locs L X hH hl hret
  exact lv_ior X.1 X.2.1 hd.1 (k p l e R s m args below meth cd QQ H locs L X hH hl hret)
theorem gs_ixor {x y : Int32} (hd : gw_D i pc (.ixor) 1 a b) (k : gw_E V i (pc + 1, ls, .int (x ^^^ y) :: st, w, cu, su) Q) : gw_E V i (pc, ls, .int y :: .int x :: st, w, cu, su) Q := by
  intro p l e R s m args below meth cd QQ H locs L X hH hl hret
  exact lv_ixor X.1 X.2.1 hd.1 (k p l e R s m args below meth cd QQ H locs L X hH hl hret)
theorem gs_ishl {x y : Int32} (hd : gw_D i pc (.ishl) 1 a b) (k : gw_E V i (pc + 1, ls, .int (x <<< (y &&& 31)) :: st, w, cu, su) Q) : gw_E V i (pc, ls, .int y :: .int x :: st, w, cu, su) Q := by
  intro p l e R s m args below meth cd QQ H locs L X hH hl hret
  exact lv_ishl X.1 X.2.1 hd.1 (k p l e R s m args below meth cd QQ H locs L X hH hl hret)
theorem gs_ishr {x y : Int32} (hd : gw_D i pc (.ishr) 1 a b) (k : gw_E V i (pc + 1, ls, .int (x >>> (y &&& 31)) :: st, w, cu, su) Q) : gw_E V i (pc, ls, .int y :: .int x :: st, w, cu, su) Q := by
  intro p l e R s m args below meth cd QQ H locs L X hH hl hret
  exact lv_ishr X.1 X.2.1 hd.1 (k p l e R s m args below meth cd QQ H locs L X hH hl hret)
theorem gs_idiv {x y : Int32} (hd : gw_D i pc (.idiv) 1 a b) (hne : ¬ y = 0) (k : gw_E V i (pc + 1, ls, .int (x / y) :: st, w, cu, su) Q) : gw_E V i (pc, ls, .int y :: .int x :: st, w, cu, su) Q := by
  intro p l e R s m args below meth cd QQ H locs L X hH hl hret
  exact lv_idiv X.1 X.2.1 hd.1 hne (k p l e R s m args below meth cd QQ H locs L X hH hl hret)
theorem gs_irem {x y : Int32} (hd : gw_D i pc (.irem) 1 a b) (hne : ¬ y = 0) (k : gw_E V i (pc + 1, ls, .int (x - x / y * y) :: st, w, cu, su) Q) : gw_E V i (pc, ls, .int y :: .int x :: st, w, cu, su) Q := by
  intro p l e R s m args below meth cd QQ H locs L X hH hl hret
  exact lv_irem X.1 X.2.1 hd.1 hne (k p l e R s m args below meth cd QQ H locs L X hH hl hret)
theorem gs_ladd {x y : Int64} (hd : gw_D i pc (.ladd) 1 a b) (k : gw_E V i (pc + 1, ls, .long (x + y) :: st, w, cu, su) Q) : gw_E V i (pc, ls, .long y :: .long x :: st, w, cu, su) Q := by
  intro p l e R s m args below meth cd QQ H locs L X hH hl hret
  exact lv_ladd X.1 X.2.1 hd.1 (k p l e R s m args below meth cd QQ H locs L X hH hl hret)
theorem gs_lmul {x y : Int64} (hd : gw_D i pc (.lmul) 1 a b) (k : gw_E V i (pc + 1, ls, .long (x * y) :: st, w, cu, su) Q) : gw_E V i (pc, ls, .long y :: .long x :: st, w, cu, su) Q := by
  intro p l e R s m args below meth cd QQ H locs L X hH hl hret
  exact lv_lmul X.1 X.2.1 hd.1 (k p l e R s m args below meth cd QQ H locs L X hH hl hret)
theorem gs_land {x y : Int64} (hd : gw_D i pc (.land) 1 a b) (k : gw_E V i (pc + 1, ls, .long (x &&& y) :: st, w, cu, su) Q) : gw_E V i (pc, ls, .long y :: .long x :: st, w, cu, su) Q := by
  intro p l e R s m args below meth cd QQ H locs L X hH hl hret
  exact lv_land X.1 X.2.1 hd.1 (k p l e R s m args below meth cd QQ H locs L X hH hl hret)
theorem gs_lor {x y : Int64} (hd : gw_D i pc (.lor) 1 a b) (k : gw_E V i (pc + 1, ls, .long (x ||| y) :: st, w, cu, su) Q) : gw_E V i (pc, ls, .long y :: .long x :: st, w, cu, su) Q := by
  intro p l e R s m args below meth cd QQ H locs L X hH hl hret
  exact lv_lor X.1 X.2.1 hd.1 (k p l e R s m args below meth cd QQ H locs L X hH hl hret)
theorem gs_ldiv {x y : Int64} (hd : gw_D i pc (.ldiv) 1 a b) (hne : ¬ y = 0) (k : gw_E V i (pc + 1, ls, .long (x / y) :: st, w, cu, su) Q) : gw_E V i (pc, ls, .long y :: .long x :: st, w, cu, su) Q := by
  intro p l e R s m args below meth cd QQ H locs L X hH hl hret
  exact lv_ldiv X.1 X.2.1 hd.1 hne (k p l e R s m args below meth cd QQ H locs L X hH hl hret)
theorem gs_lrem {x y : Int64} (hd : gw_D i pc (.lrem) 1 a b) (hne : ¬ y = 0) (k : gw_E V i (pc + 1, ls, .long (x - x / y * y) :: st, w, cu, su) Q) : gw_E V i (pc, ls, .long y :: .long x :: st, w, cu, su) Q := by
  intro p l e R s m args below meth cd QQ H locs L X hH hl hret
  exact lv_lrem X.1 X.2.1 hd.1 hne (k p l e R s m args below meth cd QQ H locs L X hH hl hret)
theorem gs_ineg {x : Int32} (hd : gw_D i pc (.ineg) 1 a b) (k : gw_E V i (pc + 1, ls, .int (-x) :: st, w, cu, su) Q) : gw_E V i (pc, ls, .int x :: st, w, cu, su) Q := by
  intro p l e R s m args below meth cd QQ H locs L X hH hl hret
  exact lv_ineg X.1 X.2.1 hd.1 (k p l e R s m args below meth cd QQ H locs L X hH hl hret)
theorem gs_lneg {x : Int64} (hd : gw_D i pc (.lneg) 1 a b) (k : gw_E V i (pc + 1, ls, .long (-x) :: st, w, cu, su) Q) : gw_E V i (pc, ls, .long x :: st, w, cu, su) Q := by
  intro p l e R s m args below meth cd QQ H locs L X hH hl hret
  exact lv_lneg X.1 X.2.1 hd.1 (k p l e R s m args below meth cd QQ H locs L X hH hl hret)
theorem gs_iushr {x y : Int32} (hd : gw_D i pc (.iushr) 1 a b) (k : gw_E V i (pc + 1, ls, .int ((x.toUInt32 >>> (y.toUInt32 &&& Int32.toUInt32 31)).toInt32) :: st, w, cu, su) Q) : gw_E V i (pc, ls, .int y :: .int x :: st, w, cu, su) Q := by
  intro p l e R s m args below meth cd QQ H locs L X hH hl hret
  exact lv_iushr X.1 X.2.1 hd.1 rfl (k p l e R s m args below meth cd QQ H locs L X hH hl hret)
theorem gs_lushr {x : Int64} {y : Int32} (hd : gw_D i pc (.lushr) 1 a b) (k : gw_E V i (pc + 1, ls, .long ((x.toUInt64 >>> (y.toInt64.toUInt64 &&& Int64.toUInt64 63)).toInt64) :: st, w, cu, su) Q) : gw_E V i (pc, ls, .int y :: .long x :: st, w, cu, su) Q := by
  intro p l e R s m args below meth cd QQ H locs L X hH hl hret
  exact lv_lushr X.1 X.2.1 hd.1 rfl (k p l e R s m args below meth cd QQ H locs L X hH hl hret)
theorem gs_lshl {x : Int64} {y : Int32} (hd : gw_D i pc (.lshl) 1 a b) (k : gw_E V i (pc + 1, ls, .long (x <<< (y.toInt64 &&& 63)) :: st, w, cu, su) Q) : gw_E V i (pc, ls, .int y :: .long x :: st, w, cu, su) Q := by
  intro p l e R s m args below meth cd QQ H locs L X hH hl hret
  exact lv_lshl X.1 X.2.1 hd.1 rfl (k p l e R s m args below meth cd QQ H locs L X hH hl hret)
theorem gs_i2l {x : Int32} (hd : gw_D i pc (.i2l) 1 a b) (k : gw_E V i (pc + 1, ls, .long x.toInt64 :: st, w, cu, su) Q) : gw_E V i (pc, ls, .int x :: st, w, cu, su) Q := by
  intro p l e R s m args below meth cd QQ H locs L X hH hl hret
  exact lv_i2l X.1 X.2.1 hd.1 rfl (k p l e R s m args below meth cd QQ H locs L X hH hl hret)
theorem gs_l2i {x : Int64} (hd : gw_D i pc (.l2i) 1 a b) (k : gw_E V i (pc + 1, ls, .int x.toInt32 :: st, w, cu, su) Q) : gw_E V i (pc, ls, .long x :: st, w, cu, su) Q := by
  intro p l e R s m args below meth cd QQ H locs L X hH hl hret
  exact lv_l2i X.1 X.2.1 hd.1 rfl (k p l e R s m args below meth cd QQ H locs L X hH hl hret)
theorem gs_lcmp {x y : Int64} (hd : gw_D i pc (.lcmp) 1 a b) (k : gw_E V i (pc + 1, ls, .int (lg_cmp x y) :: st, w, cu, su) Q) : gw_E V i (pc, ls, .long y :: .long x :: st, w, cu, su) Q := by
  intro p l e R s m args below meth cd QQ H locs L X hH hl hret
  exact W.lcmp X.1 X.2.1 hd.1 (k p l e R s m args below meth cd QQ H locs L X hH hl hret)
theorem gs_dup {v : Value} (hd : gw_D i pc (.dup) 1 a b) (hv : v.category = 1) (k : gw_E V i (pc + 1, ls, v :: v :: st, w, cu, su) Q) : gw_E V i (pc, ls, v :: st, w, cu, su) Q := by
  intro p l e R s m args below meth cd QQ H locs L X hH hl hret
  exact lv_dup X.1 X.2.1 hd.1 ((gw_cat V v).trans hv) (k p l e R s m args below meth cd QQ H locs L X hH hl hret)
theorem gs_pop {v : Value} (hd : gw_D i pc (.pop) 1 a b) (hv : v.category = 1) (k : gw_E V i (pc + 1, ls, st, w, cu, su) Q) : gw_E V i (pc, ls, v :: st, w, cu, su) Q := by
  intro p l e R s m args below meth cd QQ H locs L X hH hl hret
  exact lv_pop X.1 X.2.1 hd.1 ((gw_cat V v).trans hv) (k p l e R s m args below meth cd QQ H locs L X hH hl hret)
theorem gs_dup2 {v u : Value} (hd : gw_D i pc (.dup2) 1 a b) (hv : v.category = 1) (hu : u.category = 1) (k : gw_E V i (pc + 1, ls, v :: u :: v :: u :: st, w, cu, su) Q) : gw_E V i (pc, ls, v :: u :: st, w, cu, su) Q := by
  intro p l e R s m args below meth cd QQ H locs L X hH hl hret
  exact lv_dup2_11 X.1 X.2.1 hd.1 ((gw_cat V v).trans hv) ((gw_cat V u).trans hu) (k p l e R s m args below meth cd QQ H locs L X hH hl hret)
theorem gs_dup2L {x : Int64} (hd : gw_D i pc (.dup2) 1 a b) (k : gw_E V i (pc + 1, ls, .long x :: .long x :: st, w, cu, su) Q) : gw_E V i (pc, ls, .long x :: st, w, cu, su) Q := by
  intro p l e R s m args below meth cd QQ H locs L X hH hl hret
  exact lv_dup2_2 X.1 X.2.1 hd.1 rfl (k p l e R s m args below meth cd QQ H locs L X hH hl hret)
theorem gs_iconst {n : Int} (hd : gw_D i pc (.iconst n) 1 a b) (v : Int32) (hv : gb_iv a b = v) (k : gw_E V i (pc + 1, ls, .int v :: st, w, cu, su) Q) : gw_E V i (pc, ls, st, w, cu, su) Q := by
  intro p l e R s m args below meth cd QQ H locs L X hH hl hret
  subst hv
  exact lv_iconst X.1 X.2.1 hd.1 (by have := hd.2; unfold gc_lk at this; simpa using this) (k p l e R s m args below meth cd QQ H locs L X hH hl hret)
theorem gs_bipush {n : Int} (hd : gw_D i pc (.bipush n) 2 a b) (v : Int32) (hv : gb_iv a b = v) (k : gw_E V i (pc + 2, ls, .int v :: st, w, cu, su) Q) : gw_E V i (pc, ls, st, w, cu, su) Q := by
  intro p l e R s m args below meth cd QQ H locs L X hH hl hret
  subst hv
  exact lv_bipush X.1 X.2.1 hd.1 (by have := hd.2; unfold gc_lk at this; simpa using this) (k p l e R s m args below meth cd QQ H locs L X hH hl hret)
theorem gs_sipush {n : Int} (hd : gw_D i pc (.sipush n) 3 a b) (v : Int32) (hv : gb_iv a b = v) (k : gw_E V i (pc + 3, ls, .int v :: st, w, cu, su) Q) : gw_E V i (pc, ls, st, w, cu, su) Q := by
  intro p l e R s m args below meth cd QQ H locs L X hH hl hret
  subst hv
  exact lv_sipush X.1 X.2.1 hd.1 (by have := hd.2; unfold gc_lk at this; simpa using this) (k p l e R s m args below meth cd QQ H locs L X hH hl hret)
theorem gs_lconst {n : Fin 2} (hd : gw_D i pc (.lconst n) 1 a b) (v : Int64) (hv : gb_lv a b = v) (k : gw_E V i (pc + 1, ls, .long v :: st, w, cu, su) Q) : gw_E V i (pc, ls, st, w, cu, su) Q := by
  intro p l e R s m args below meth cd QQ H locs L X hH hl hret
  subst hv
  exact lv_lconst X.1 X.2.1 hd.1 (by have := hd.2; unfold gc_lk at this; simpa using this) (k p l e R s m args below meth cd QQ H locs L X hH hl hret)
theorem gl_K_in {o x a b : Nat} (h : gl_K.any (fun r => r.1 == o && (r.2.1 == x && (r.2.2.1 == a && r.2.2.2.1 == b))) = true) : Cond.constant (gb_n o) x (gb_iv a b) ∈ gb_t := by
  obtain ⟨r, hr, h⟩ := List.any_eq_true.mp h
  simp only [Bool.and_eq_true, beq_iff_eq] at h
  obtain ⟨rfl, rfl, rfl, rfl⟩ := h
  exact gb_tin (gb_at _ (List.all_eq_true.mp gl_K_ok r hr)) rfl
theorem gl_L_in {o x a b : Nat} (h : gl_L.any (fun r => r.1 == o && (r.2.1 == x && (r.2.2.1 == a && r.2.2.2.1 == b))) = true) : Cond.constantLong (gb_n o) x (gb_lv a b) ∈ gb_t := by
  obtain ⟨r, hr, h⟩ := List.any_eq_true.mp h
  simp only [Bool.and_eq_true, beq_iff_eq] at h
  obtain ⟨rfl, rfl, rfl, rfl⟩ := h
  exact gb_tin (gb_at _ (List.all_eq_true.mp gl_L_ok r hr)) rfl
theorem gs_ldc {x : Nat} (hd : gw_D i pc (.ldc x) 2 a b) (v : Int32) (hv : gb_iv a b = v) (k : gw_E V i (pc + 2, ls, .int v :: st, w, cu, su) Q) : gw_E V i (pc, ls, st, w, cu, su) Q := by
  intro p l e R s m args below meth cd QQ H locs L X hH hl hret
  subst hv
  exact lv_ldc X.1 X.2.1 X.2.2.2.1 (X.2.2.2.2.1 _ (gl_K_in hd.2)) hd.1 (k p l e R s m args below meth cd QQ H locs L X hH hl hret)
theorem gs_ldc_w {x : Nat} (hd : gw_D i pc (.ldc_w x) 3 a b) (v : Int32) (hv : gb_iv a b = v) (k : gw_E V i (pc + 3, ls, .int v :: st, w, cu, su) Q) : gw_E V i (pc, ls, st, w, cu, su) Q := by
  intro p l e R s m args below meth cd QQ H locs L X hH hl hret
  subst hv
  exact lv_ldcw X.1 X.2.1 X.2.2.2.1 (X.2.2.2.2.1 _ (gl_K_in hd.2)) hd.1 (k p l e R s m args below meth cd QQ H locs L X hH hl hret)
theorem gs_ldc2_w {x : Nat} (hd : gw_D i pc (.ldc2_w x) 3 a b) (v : Int64) (hv : gb_lv a b = v) (k : gw_E V i (pc + 3, ls, .long v :: st, w, cu, su) Q) : gw_E V i (pc, ls, st, w, cu, su) Q := by
  intro p l e R s m args below meth cd QQ H locs L X hH hl hret
  subst hv
  exact lv_ldc2 X.1 X.2.1 X.2.2.2.1 (X.2.2.2.2.1 _ (gl_L_in hd.2)) hd.1 (k p l e R s m args below meth cd QQ H locs L X hH hl hret)
theorem gs_iload_n {n : Fin 4} {x : Int32} (hd : gw_D i pc (.iload_n n) 1 a b) (hx : ls.lookup a = some (.int x)) (k : gw_E V i (pc + 1, ls, .int x :: st, w, cu, su) Q) : gw_E V i (pc, ls, st, w, cu, su) Q := by
  intro p l e R s m args below meth cd QQ H locs L X hH hl hret
  exact lv_iload_n X.1 X.2.1 hd.1 (by have := hd.2; unfold gc_lk at this; simpa using this) (gw_look hl hx) (k p l e R s m args below meth cd QQ H locs L X hH hl hret)
theorem gs_iload {n : Nat} {x : Int32} (hd : gw_D i pc (.iload n) 2 a b) (hx : ls.lookup a = some (.int x)) (k : gw_E V i (pc + 2, ls, .int x :: st, w, cu, su) Q) : gw_E V i (pc, ls, st, w, cu, su) Q := by
  intro p l e R s m args below meth cd QQ H locs L X hH hl hret
  have hn : n = a := by have := hd.2; unfold gc_lk at this; simpa using this
  exact lv_iload X.1 X.2.1 hd.1 (hn ▸ gw_look hl hx) (k p l e R s m args below meth cd QQ H locs L X hH hl hret)
theorem gs_lload_n {n : Fin 4} {x : Int64} (hd : gw_D i pc (.lload_n n) 1 a b) (hx : ls.lookup a = some (.long x)) (k : gw_E V i (pc + 1, ls, .long x :: st, w, cu, su) Q) : gw_E V i (pc, ls, st, w, cu, su) Q := by
  intro p l e R s m args below meth cd QQ H locs L X hH hl hret
  exact lv_lload_n X.1 X.2.1 hd.1 (by have := hd.2; unfold gc_lk at this; simpa using this) (gw_look hl hx) (k p l e R s m args below meth cd QQ H locs L X hH hl hret)
theorem gs_lload {n : Nat} {x : Int64} (hd : gw_D i pc (.lload n) 2 a b) (hx : ls.lookup a = some (.long x)) (k : gw_E V i (pc + 2, ls, .long x :: st, w, cu, su) Q) : gw_E V i (pc, ls, st, w, cu, su) Q := by
  intro p l e R s m args below meth cd QQ H locs L X hH hl hret
  have hn : n = a := by have := hd.2; unfold gc_lk at this; simpa using this
  exact lv_lload X.1 X.2.1 hd.1 (hn ▸ gw_look hl hx) (k p l e R s m args below meth cd QQ H locs L X hH hl hret)
theorem gs_aload_n {n : Fin 4} {x : Nat} (hd : gw_D i pc (.aload_n n) 1 a b) (hx : ls.lookup a = some (.ref x)) (k : gw_E V i (pc + 1, ls, .ref x :: st, w, cu, su) Q) : gw_E V i (pc, ls, st, w, cu, su) Q := by
  intro p l e R s m args below meth cd QQ H locs L X hH hl hret
  exact lv_aload_n X.1 X.2.1 hd.1 (by have := hd.2; unfold gc_lk at this; simpa using this) (gw_look hl hx) (k p l e R s m args below meth cd QQ H locs L X hH hl hret)
theorem gs_aload {n : Nat} {x : Nat} (hd : gw_D i pc (.aload n) 2 a b) (hx : ls.lookup a = some (.ref x)) (k : gw_E V i (pc + 2, ls, .ref x :: st, w, cu, su) Q) : gw_E V i (pc, ls, st, w, cu, su) Q := by
  intro p l e R s m args below meth cd QQ H locs L X hH hl hret
  have hn : n = a := by have := hd.2; unfold gc_lk at this; simpa using this
  exact lv_aload X.1 X.2.1 hd.1 (hn ▸ gw_look hl hx) (k p l e R s m args below meth cd QQ H locs L X hH hl hret)
theorem gs_istore_n {n : Fin 4} {x : Int32} {ls2 : Int32 → List (Nat × Value)} (hd : gw_D i pc (.istore_n n) 1 a b) (hn : a < gm_L i) (hs : ∀ v, gw_ins a (.int v) (gw_f1 a ls) = ls2 v) (k : ∀ v, v = x → gw_E V i (pc + 1, ls2 v, st, w, cu, su) Q) : gw_E V i (pc, ls, .int x :: st, w, cu, su) Q := by
  intro p l e R s m args below meth cd QQ H locs L X hH hl hret
  have ha : n.val = a := by have := hd.2; unfold gc_lk at this; simpa using this
  refine lv_istore_n X.1 X.2.1 hd.1 ha hl hn rfl (fun L2 hl2 => ?_)
  rw [gw_f1_map] at hl2
  have h9 := gw_has_ins (V := V) (v := .int x) hl2
  rw [hs] at h9
  exact k x rfl p l e R s m args below meth cd QQ H locs L2 X hH h9 hret
theorem gs_istore {n : Nat} {x : Int32} {ls2 : Int32 → List (Nat × Value)} (hd : gw_D i pc (.istore n) 2 a b) (hn : a < gm_L i) (hs : ∀ v, gw_ins a (.int v) (gw_f1 a ls) = ls2 v) (k : ∀ v, v = x → gw_E V i (pc + 2, ls2 v, st, w, cu, su) Q) : gw_E V i (pc, ls, .int x :: st, w, cu, su) Q := by
  intro p l e R s m args below meth cd QQ H locs L X hH hl hret
  have ha : n = a := by have := hd.2; unfold gc_lk at this; simpa using this
  subst ha
  refine lv_istore X.1 X.2.1 hd.1 hl hn rfl (fun L2 hl2 => ?_)
  rw [gw_f1_map] at hl2
  have h9 := gw_has_ins (V := V) (v := .int x) hl2
  rw [hs] at h9
  exact k x rfl p l e R s m args below meth cd QQ H locs L2 X hH h9 hret
theorem gs_lstore_n {n : Fin 4} {x : Int64} {ls2 : Int64 → List (Nat × Value)} (hd : gw_D i pc (.lstore_n n) 1 a b) (hn : a + 1 < gm_L i) (hs : ∀ v, gw_ins a (.long v) (gw_f2 a ls) = ls2 v) (k : ∀ v, v = x → gw_E V i (pc + 1, ls2 v, st, w, cu, su) Q) : gw_E V i (pc, ls, .long x :: st, w, cu, su) Q := by
  intro p l e R s m args below meth cd QQ H locs L X hH hl hret
  have ha : n.val = a := by have := hd.2; unfold gc_lk at this; simpa using this
  refine lv_lstore_n X.1 X.2.1 hd.1 ha hl hn rfl (fun L2 hl2 => ?_)
  rw [gw_f2_map] at hl2
  have h9 := gw_has_ins (V := V) (v := .long x) hl2
  rw [hs] at h9
  exact k x rfl p l e R s m args below meth cd QQ H locs L2 X hH h9 hret
theorem gs_lstore {n : Nat} {x : Int64} {ls2 : Int64 → List (Nat × Value)} (hd : gw_D i pc (.lstore n) 2 a b) (hn : a + 1 < gm_L i) (hs : ∀ v, gw_ins a (.long v) (gw_f2 a ls) = ls2 v) (k : ∀ v, v = x → gw_E V i (pc + 2, ls2 v, st, w, cu, su) Q) : gw_E V i (pc, ls, .long x :: st, w, cu, su) Q := by
  intro p l e R s m args below meth cd QQ H locs L X hH hl hret
  have ha : n = a := by have := hd.2; unfold gc_lk at this; simpa using this
  subst ha
  refine lv_lstore X.1 X.2.1 hd.1 hl hn rfl (fun L2 hl2 => ?_)
  rw [gw_f2_map] at hl2
  have h9 := gw_has_ins (V := V) (v := .long x) hl2
  rw [hs] at h9
  exact k x rfl p l e R s m args below meth cd QQ H locs L2 X hH h9 hret
theorem gs_astore_n {n : Fin 4} {x : Nat} {ls2 : Nat → List (Nat × Value)} (hd : gw_D i pc (.astore_n n) 1 a b) (hn : a < gm_L i) (hs : ∀ v, gw_ins a (.ref v) (gw_f1 a ls) = ls2 v) (k : ∀ v, v = x → gw_E V i (pc + 1, ls2 v, st, w, cu, su) Q) : gw_E V i (pc, ls, .ref x :: st, w, cu, su) Q := by
  intro p l e R s m args below meth cd QQ H locs L X hH hl hret
  have ha : n.val = a := by have := hd.2; unfold gc_lk at this; simpa using this
  refine lv_astore_n X.1 X.2.1 hd.1 ha hl hn rfl (fun L2 hl2 => ?_)
  rw [gw_f1_map] at hl2
  have h9 := gw_has_ins (V := V) (v := .ref x) hl2
  rw [hs] at h9
  exact k x rfl p l e R s m args below meth cd QQ H locs L2 X hH h9 hret
theorem gs_astore {n : Nat} {x : Nat} {ls2 : Nat → List (Nat × Value)} (hd : gw_D i pc (.astore n) 2 a b) (hn : a < gm_L i) (hs : ∀ v, gw_ins a (.ref v) (gw_f1 a ls) = ls2 v) (k : ∀ v, v = x → gw_E V i (pc + 2, ls2 v, st, w, cu, su) Q) : gw_E V i (pc, ls, .ref x :: st, w, cu, su) Q := by
  intro p l e R s m args below meth cd QQ H locs L X hH hl hret
  have ha : n = a := by have := hd.2; unfold gc_lk at this; simpa using this
  subst ha
  refine lv_astore X.1 X.2.1 hd.1 hl hn rfl (fun L2 hl2 => ?_)
  rw [gw_f1_map] at hl2
  have h9 := gw_has_ins (V := V) (v := .ref x) hl2
  rw [hs] at h9
  exact k x rfl p l e R s m args below meth cd QQ H locs L2 X hH h9 hret
theorem gw_lookk {ls : List (Nat × Value)} {a : Nat} {v : Value} (h : ls.lookup a = some v) : ∃ k : Nat, ls[k]? = some (a, v) := by
  induction ls with
  | nil => simp at h
  | cons q t ih =>
    obtain ⟨q1, q2⟩ := q
    rw [List.lookup_cons] at h
    by_cases e : a = q1
    · subst e
      simp at h
      subst h
      exact ⟨0, rfl⟩
    · have e2 : (a == q1) = false := by simpa using e
      rw [e2] at h
      obtain ⟨k, hk⟩ := ih h
      exact ⟨k + 1, hk⟩
theorem gs_iinc {n : Nat} {d : Int} {x : Int32} {ls2 : Int32 → List (Nat × Value)} (hd : gw_D i pc (.iinc n d) 3 a b) (hx : ls.lookup n = some (.int x)) (hn : n < gm_L i) (hs : ∀ v, gw_ins n (.int v) (gw_f1 n ls) = ls2 v) (dl : Int32) (hdl : gb_iv a b = dl) (k : ∀ v, v = x + dl → gw_E V i (pc + 3, ls2 v, st, w, cu, su) Q) : gw_E V i (pc, ls, st, w, cu, su) Q := by
  intro p l e R s m args below meth cd QQ H locs L X hH hl hret
  subst hdl
  have hv : Int32.ofInt d = gb_iv a b := by have := hd.2; unfold gc_lk at this; simpa using this
  obtain ⟨j, hj⟩ := gw_lookk hx
  refine lv_iinc X.1 X.2.1 hd.1 hl (k := j) (x := x) (v := x + gb_iv a b) (by show (gw_lm V ls)[j]? = _; unfold gw_lm; rw [List.getElem?_map, hj]; rfl) (by rw [hv]) hn rfl (fun L2 hl2 => ?_)
  rw [gw_f1_map] at hl2
  have h9 := gw_has_ins (V := V) (v := .int (x + gb_iv a b)) hl2
  rw [hs] at h9
  exact k _ rfl p l e R s m args below meth cd QQ H locs L2 X hH h9 hret
theorem gs_if_eq {x : Int32} {off : Int} (hd : gw_D i pc (.ifCond .eq off) 3 a b) (kt : x = 0 → gw_E V i (a, ls, st, w, cu, su) Q) (kf : ¬ (x = 0) → gw_E V i (pc + 3, ls, st, w, cu, su) Q) : gw_E V i (pc, ls, .int x :: st, w, cu, su) Q := by
  intro p l e R s m args below meth cd QQ H locs L X hH hl hret
  exact lv_if_eq X.1 X.2.1 hd.1 (by have := hd.2; unfold gc_lk at this; simpa using this) (fun h => kt h p l e R s m args below meth cd QQ H locs L X hH hl hret) (fun h => kf h p l e R s m args below meth cd QQ H locs L X hH hl hret)
theorem gs_icmp_eq {x y : Int32} {off : Int} (hd : gw_D i pc (.if_icmp .eq off) 3 a b) (kt : x = y → gw_E V i (a, ls, st, w, cu, su) Q) (kf : ¬ (x = y) → gw_E V i (pc + 3, ls, st, w, cu, su) Q) : gw_E V i (pc, ls, .int y :: .int x :: st, w, cu, su) Q := by
  intro p l e R s m args below meth cd QQ H locs L X hH hl hret
  exact lv_icmp_eq X.1 X.2.1 hd.1 (by have := hd.2; unfold gc_lk at this; simpa using this) (fun h => kt h p l e R s m args below meth cd QQ H locs L X hH hl hret) (fun h => kf h p l e R s m args below meth cd QQ H locs L X hH hl hret)
theorem gs_if_ne {x : Int32} {off : Int} (hd : gw_D i pc (.ifCond .ne off) 3 a b) (kt : ¬ x = 0 → gw_E V i (a, ls, st, w, cu, su) Q) (kf : x = 0 → gw_E V i (pc + 3, ls, st, w, cu, su) Q) : gw_E V i (pc, ls, .int x :: st, w, cu, su) Q := by
  intro p l e R s m args below meth cd QQ H locs L X hH hl hret
  exact lv_if_ne X.1 X.2.1 hd.1 (by have := hd.2; unfold gc_lk at this; simpa using this) (fun h => kt h p l e R s m args below meth cd QQ H locs L X hH hl hret) (fun h => kf h p l e R s m args below meth cd QQ H locs L X hH hl hret)
theorem gs_icmp_ne {x y : Int32} {off : Int} (hd : gw_D i pc (.if_icmp .ne off) 3 a b) (kt : ¬ x = y → gw_E V i (a, ls, st, w, cu, su) Q) (kf : x = y → gw_E V i (pc + 3, ls, st, w, cu, su) Q) : gw_E V i (pc, ls, .int y :: .int x :: st, w, cu, su) Q := by
  intro p l e R s m args below meth cd QQ H locs L X hH hl hret
  exact lv_icmp_ne X.1 X.2.1 hd.1 (by have := hd.2; unfold gc_lk at this; simpa using this) (fun h => kt h p l e R s m args below meth cd QQ H locs L X hH hl hret) (fun h => kf h p l e R s m args below meth cd QQ H locs L X hH hl hret)
theorem gs_if_lt {x : Int32} {off : Int} (hd : gw_D i pc (.ifCond .lt off) 3 a b) (kt : x < 0 → gw_E V i (a, ls, st, w, cu, su) Q) (kf : ¬ (x < 0) → gw_E V i (pc + 3, ls, st, w, cu, su) Q) : gw_E V i (pc, ls, .int x :: st, w, cu, su) Q := by
  intro p l e R s m args below meth cd QQ H locs L X hH hl hret
  exact lv_if_lt X.1 X.2.1 hd.1 (by have := hd.2; unfold gc_lk at this; simpa using this) (fun h => kt h p l e R s m args below meth cd QQ H locs L X hH hl hret) (fun h => kf h p l e R s m args below meth cd QQ H locs L X hH hl hret)
theorem gs_icmp_lt {x y : Int32} {off : Int} (hd : gw_D i pc (.if_icmp .lt off) 3 a b) (kt : x < y → gw_E V i (a, ls, st, w, cu, su) Q) (kf : ¬ (x < y) → gw_E V i (pc + 3, ls, st, w, cu, su) Q) : gw_E V i (pc, ls, .int y :: .int x :: st, w, cu, su) Q := by
  intro p l e R s m args below meth cd QQ H locs L X hH hl hret
  exact lv_icmp_lt X.1 X.2.1 hd.1 (by have := hd.2; unfold gc_lk at this; simpa using this) (fun h => kt h p l e R s m args below meth cd QQ H locs L X hH hl hret) (fun h => kf h p l e R s m args below meth cd QQ H locs L X hH hl hret)
theorem gs_if_ge {x : Int32} {off : Int} (hd : gw_D i pc (.ifCond .ge off) 3 a b) (kt : 0 ≤ x → gw_E V i (a, ls, st, w, cu, su) Q) (kf : ¬ (0 ≤ x) → gw_E V i (pc + 3, ls, st, w, cu, su) Q) : gw_E V i (pc, ls, .int x :: st, w, cu, su) Q := by
  intro p l e R s m args below meth cd QQ H locs L X hH hl hret
  exact lv_if_ge X.1 X.2.1 hd.1 (by have := hd.2; unfold gc_lk at this; simpa using this) (fun h => kt h p l e R s m args below meth cd QQ H locs L X hH hl hret) (fun h => kf h p l e R s m args below meth cd QQ H locs L X hH hl hret)
theorem gs_icmp_ge {x y : Int32} {off : Int} (hd : gw_D i pc (.if_icmp .ge off) 3 a b) (kt : y ≤ x → gw_E V i (a, ls, st, w, cu, su) Q) (kf : ¬ (y ≤ x) → gw_E V i (pc + 3, ls, st, w, cu, su) Q) : gw_E V i (pc, ls, .int y :: .int x :: st, w, cu, su) Q := by
  intro p l e R s m args below meth cd QQ H locs L X hH hl hret
  exact lv_icmp_ge X.1 X.2.1 hd.1 (by have := hd.2; unfold gc_lk at this; simpa using this) (fun h => kt h p l e R s m args below meth cd QQ H locs L X hH hl hret) (fun h => kf h p l e R s m args below meth cd QQ H locs L X hH hl hret)
theorem gs_if_gt {x : Int32} {off : Int} (hd : gw_D i pc (.ifCond .gt off) 3 a b) (kt : 0 < x → gw_E V i (a, ls, st, w, cu, su) Q) (kf : ¬ (0 < x) → gw_E V i (pc + 3, ls, st, w, cu, su) Q) : gw_E V i (pc, ls, .int x :: st, w, cu, su) Q := by
  intro p l e R s m args below meth cd QQ H locs L X hH hl hret
  exact lv_if_gt X.1 X.2.1 hd.1 (by have := hd.2; unfold gc_lk at this; simpa using this) (fun h => kt h p l e R s m args below meth cd QQ H locs L X hH hl hret) (fun h => kf h p l e R s m args below meth cd QQ H locs L X hH hl hret)
theorem gs_icmp_gt {x y : Int32} {off : Int} (hd : gw_D i pc (.if_icmp .gt off) 3 a b) (kt : y < x → gw_E V i (a, ls, st, w, cu, su) Q) (kf : ¬ (y < x) → gw_E V i (pc + 3, ls, st, w, cu, su) Q) : gw_E V i (pc, ls, .int y :: .int x :: st, w, cu, su) Q := by
  intro p l e R s m args below meth cd QQ H locs L X hH hl hret
  exact lv_icmp_gt X.1 X.2.1 hd.1 (by have := hd.2; unfold gc_lk at this; simpa using this) (fun h => kt h p l e R s m args below meth cd QQ H locs L X hH hl hret) (fun h => kf h p l e R s m args below meth cd QQ H locs L X hH hl hret)
theorem gs_if_le {x : Int32} {off : Int} (hd : gw_D i pc (.ifCond .le off) 3 a b) (kt : x ≤ 0 → gw_E V i (a, ls, st, w, cu, su) Q) (kf : ¬ (x ≤ 0) → gw_E V i (pc + 3, ls, st, w, cu, su) Q) : gw_E V i (pc, ls, .int x :: st, w, cu, su) Q := by
  intro p l e R s m args below meth cd QQ H locs L X hH hl hret
  exact lv_if_le X.1 X.2.1 hd.1 (by have := hd.2; unfold gc_lk at this; simpa using this) (fun h => kt h p l e R s m args below meth cd QQ H locs L X hH hl hret) (fun h => kf h p l e R s m args below meth cd QQ H locs L X hH hl hret)
theorem gs_icmp_le {x y : Int32} {off : Int} (hd : gw_D i pc (.if_icmp .le off) 3 a b) (kt : x ≤ y → gw_E V i (a, ls, st, w, cu, su) Q) (kf : ¬ (x ≤ y) → gw_E V i (pc + 3, ls, st, w, cu, su) Q) : gw_E V i (pc, ls, .int y :: .int x :: st, w, cu, su) Q := by
  intro p l e R s m args below meth cd QQ H locs L X hH hl hret
  exact lv_icmp_le X.1 X.2.1 hd.1 (by have := hd.2; unfold gc_lk at this; simpa using this) (fun h => kt h p l e R s m args below meth cd QQ H locs L X hH hl hret) (fun h => kf h p l e R s m args below meth cd QQ H locs L X hH hl hret)
theorem gs_goto {off : Int} (hd : gw_D i pc (.goto off) 3 a b) (k : gw_E V i (a, ls, st, w, cu, su) Q) : gw_E V i (pc, ls, st, w, cu, su) Q := by
  intro p l e R s m args below meth cd QQ H locs L X hH hl hret
  exact lv_goto X.1 X.2.1 hd.1 (by have := hd.2; unfold gc_lk at this; simpa using this) (k p l e R s m args below meth cd QQ H locs L X hH hl hret)
theorem gs_tblIn {dflt lo hi off : Int} {offs : Array Int} {x : Int32} (tgt : Nat) (hd : gw_D i pc (.tableswitch dflt lo hi offs) len a b) (h1 : ¬ x.toInt < lo) (h2 : ¬ hi < x.toInt) (ho : offs[(x.toInt - lo).toNat]? = some off) (ht : (pc : Int) + off = (tgt : Int)) (k : gw_E V i (tgt, ls, st, w, cu, su) Q) : gw_E V i (pc, ls, .int x :: st, w, cu, su) Q := by
  intro p l e R s m args below meth cd QQ H locs L X hH hl hret
  exact lv_tableIn X.1 X.2.1 hd.1 h1 h2 ho ht (k p l e R s m args below meth cd QQ H locs L X hH hl hret)
theorem gs_tblOut {dflt lo hi : Int} {offs : Array Int} {x : Int32} (tgt : Nat) (hd : gw_D i pc (.tableswitch dflt lo hi offs) len a b) (h1 : x.toInt < lo ∨ hi < x.toInt) (ht : (pc : Int) + dflt = (tgt : Int)) (k : gw_E V i (tgt, ls, st, w, cu, su) Q) : gw_E V i (pc, ls, .int x :: st, w, cu, su) Q := by
  intro p l e R s m args below meth cd QQ H locs L X hH hl hret
  exact lv_tableOut X.1 X.2.1 hd.1 h1 ht (k p l e R s m args below meth cd QQ H locs L X hH hl hret)
theorem gs_ret (hd : gw_D i pc .return_ 1 a b) (hr : gm_r i = none) (hc : cu ≤ gm_c i) (hs : su ≤ gm_s i) (q : Q none w) : gw_E V i (pc, ls, [], w, cu, su) Q := by
  intro p l e R s m args below meth cd QQ H locs L X hH hl hret
  exact hret none w H locs pc L cu su q hH ⟨hd.1, hr⟩ hc hs
theorem gs_iret {x : Int32} {ty : FieldType} (hd : gw_D i pc .ireturn 1 a b) (hr : gm_r i = some ty) (hn : narrow ty (.int x) = .int x) (hc : cu ≤ gm_c i) (hs : su ≤ gm_s i) (q : Q (some (.int x)) w) : gw_E V i (pc, ls, [.int x], w, cu, su) Q := by
  intro p l e R s m args below meth cd QQ H locs L X hH hl hret
  exact hret (some (.int x)) w H locs pc L cu su q hH ⟨hd.1, ty, hr, hn⟩ hc hs
theorem gs_lret {x : Int64} (hd : gw_D i pc .lreturn 1 a b) (hr : gm_r i = some .long) (hc : cu ≤ gm_c i) (hs : su ≤ gm_s i) (q : Q (some (.long x)) w) : gw_E V i (pc, ls, [.long x], w, cu, su) Q := by
  intro p l e R s m args below meth cd QQ H locs L X hH hl hret
  exact hret (some (.long x)) w H locs pc L cu su q hH ⟨hd.1, hr⟩ hc hs
end GR
end
section
/-! ===== the rules: cells ===== -/
theorem gl_F_in {o x c k : Nat} (h : gl_F.any (fun r => r.1 == o && (r.2.1 == x && (r.2.2.1 == c && r.2.2.2.1 == k))) = true) : Cond.fieldLink (gb_n o) x (gb_F c k).1 (gb_F c k).2.1 (gb_F c k).2.2.1 ∈ gb_t ∧ c < 12 ∧ k < gb_K c := by
  obtain ⟨r, hr, h⟩ := List.any_eq_true.mp h
  simp only [Bool.and_eq_true, beq_iff_eq] at h
  obtain ⟨rfl, rfl, rfl, rfl⟩ := h
  have := List.all_eq_true.mp gl_F_ok r hr
  simp only [Bool.and_eq_true, decide_eq_true_eq] at this
  exact ⟨gb_tin (gb_at _ this.1) rfl, this.2.1, this.2.2⟩
theorem gw_T_lt {w : gw_W} {a t : Nat} (h : gw_T w a = t) (ht : t ≠ 99) : a < w.1.length := by
  rcases Nat.lt_or_ge a w.1.length with q | q
  · exact q
  · unfold gw_T at h
    rw [List.getD_eq_getElem?_getD, List.getElem?_eq_none q] at h
    exact absurd h.symm ht
theorem gw_T_3 {V : gw_V} {w : gw_W} {s : State} {H : Heap} {locs : List Loc} (hH : gw_H V w s H locs) {a t : Nat} (h : gw_T w a = t) (ht : t ≠ 16) : 3 ≤ a := by
  rcases Nat.lt_or_ge a 3 with q | q
  · exact absurd (h.symm.trans (hH.2.2.2.2 a q).1) ht
  · exact q
theorem gw_cell_obj {V : gw_V} {w : gw_W} {a c : Nat} (h : gw_T w a = c) (hc : c < 12) : gw_cell V w a = .inr (c, gw_fs V w c a) := by
  unfold gw_cell
  rw [h, if_neg (by omega), if_neg (by omega), if_neg (by omega), if_neg (by omega)]
theorem gw_cell_I {V : gw_V} {w : gw_W} {a : Nat} (h : gw_T w a = 12) : gw_cell V w a = .inl (V.2.1 0, gw_N w a, .inl (w.2.1 a)) := by
  unfold gw_cell
  rw [if_pos h]
theorem gw_cell_Z {V : gw_V} {w : gw_W} {a : Nat} (h : gw_T w a = 13) : gw_cell V w a = .inl (V.2.1 1, gw_N w a, .inl (w.2.1 a)) := by
  unfold gw_cell
  rw [h, if_neg (by omega), if_pos rfl]
theorem gw_cell_M {V : gw_V} {w : gw_W} {a : Nat} (h : gw_T w a = 14) : gw_cell V w a = .inl (V.2.1 2, gw_N w a, .inr (.inr (.inr (.inr (fun j => gw_ro V (w.2.2.2 a j)))))) := by
  unfold gw_cell
  rw [h, if_neg (by omega), if_neg (by omega), if_pos rfl]
theorem gw_cell_A {V : gw_V} {w : gw_W} {a : Nat} (h : gw_T w a = 15) : gw_cell V w a = .inl (V.2.1 3, gw_N w a, .inr (.inr (.inr (.inr (fun j => gw_ro V (w.2.2.2 a j)))))) := by
  unfold gw_cell
  rw [h, if_neg (by omega), if_neg (by omega), if_neg (by omega), if_pos rfl]
/-- a cell as the world has it -/
theorem gw_at {V : gw_V} {w : gw_W} {s : State} {H : Heap} {locs : List Loc} (hH : gw_H V w s H locs) {a t : Nat} (h : gw_T w a = t) (ht : t < 16) : (gw_ws V w)[a - 3]? = some (gw_ad V a, gw_cell V w a) :=
  gw_ws_get (gw_T_3 hH h (by omega)) (gw_T_lt h (by omega))
/-- another world of the same shapes, that differs at one cell of ours -/
theorem gw_H_set {V : gw_V} {w w' : gw_W} {s : State} {H H1 : Heap} {locs locs1 : List Loc} (hH : gw_H V w s H locs) {a t : Nat} (h : gw_T w a = t) (ht : t < 16) (hw : w'.1 = w.1) (ho : ∀ k, k ≠ a → gw_cell V w' k = gw_cell V w k) (hI : ∀ k, k ≠ a → w'.2.1 k = w.2.1 k) {x : va_E} (hx : gw_cell V w' a = x) (hP : va_P V.1 gb_cl ((gw_ws V w).set (a - 3) (gw_ad V a, x)) H1) (hz : w.1.length < 145 → H1.size = H.size) (hS : va_S (gw_A V) s.heap H1 locs1) : gw_H V w' s H1 locs1 := by
  obtain ⟨h1, h2, h3, h4, h5⟩ := hH
  have hH : gw_H V w s H locs := ⟨h1, h2, h3, h4, h5⟩
  rw [gw_ws_set (w' := w') (gw_T_3 hH h (by omega)) (gw_T_lt h (by omega)) (by rw [hw]) ho hx] at hP
  refine ⟨hP, fun h9 => by rw [hw] at h9 ⊢; rw [hz h9, h2 h9], by rw [hw]; exact h3, hS, fun k hk => ?_⟩
  have ha : 3 ≤ a := gw_T_3 hH h (by omega)
  rw [hI k (by omega)]
  have hT : gw_T w' k = gw_T w k := by unfold gw_T; rw [hw]
  have hN : gw_N w' k = gw_N w k := by unfold gw_N; rw [hw]
  rw [hT, hN]
  exact h5 k hk
theorem gw_cell_ext {V : gw_V} {w w' : gw_W} {k : Nat} (hw : w'.1 = w.1) (h1 : w'.2.1 k = w.2.1 k) (h2 : w'.2.2.1 k = w.2.2.1 k) (h3 : w'.2.2.2 k = w.2.2.2 k) : gw_cell V w' k = gw_cell V w k := by
  unfold gw_cell gw_fs gw_T gw_N
  have e : gw_fv V w' ((w.1.getD k (99, 0)).1) k = gw_fv V w ((w.1.getD k (99, 0)).1) k := by
    funext j
    unfold gw_fv
    rw [h1, h2, h3]
  rw [hw, e, h1, h3]
theorem gw_ro_pos {V : gw_V} {r : Nat} (h : r ≠ 0) : va_rf (gw_ro V r) = gw_mv V (.ref r) := by
  unfold gw_ro
  rw [if_neg h]
  rfl
section GH
variable {V : gw_V} {i pc len a b c k : Nat} {ls : List (Nat × Value)} {st : List Value} {sh : List (Nat × Nat)} {I : Nat → Nat → Int32} {J : Nat → Nat → Int64} {F : Nat → Nat → Nat} {w : gw_W} {cu su : Nat} {Q : Option Value → gw_W → Prop}
theorem gs_getf {x : Nat} {v : Value} (hd : gw_D i pc (.getfield x) 3 c k) (ht : gw_T w a = c) (hv : gw_fv V w c a k = gw_mv V v) (kk : gw_E V i (pc + 3, ls, v :: st, w, cu, su) Q) : gw_E V i (pc, ls, .ref a :: st, w, cu, su) Q := by
  intro p l e R s m args below meth cd QQ H locs L X hH hl hret
  obtain ⟨hin, hc, hk⟩ := gl_F_in hd.2
  have he := gw_at hH ht (by omega)
  rw [gw_cell_obj ht hc] at he
  exact va_get X.1 X.2.1 X.2.2.2.2.1 (gb_lay hc) X.2.2.2.1 X.2.2.2.2.2.2.2.2.2.2.2.2.1 hH.1 (a - 3) he (gb_cl_get hc) k hk (X.2.2.2.2.1 _ hin) (fun _ h9 => h9) (gw_fs_get hk) hd.1 (by rw [hv]; exact kk p l e R s m args below meth cd QQ H locs L X hH hl hret)
theorem gs_getI {x : Nat} (hd : gw_D i pc (.getfield x) 3 c k) (ht : gw_T (sh, I, J, F) a = c) (hs : gb_s c k = 0) (kk : gw_E V i (pc + 3, ls, .int (I a k) :: st, (sh, I, J, F), cu, su) Q) : gw_E V i (pc, ls, .ref a :: st, (sh, I, J, F), cu, su) Q :=
  gs_getf hd ht (by unfold gw_fv; rw [if_pos hs]; rfl) kk
theorem gs_getJ {x : Nat} (hd : gw_D i pc (.getfield x) 3 c k) (ht : gw_T (sh, I, J, F) a = c) (hs : gb_s c k = 1) (kk : gw_E V i (pc + 3, ls, .long (J a k) :: st, (sh, I, J, F), cu, su) Q) : gw_E V i (pc, ls, .ref a :: st, (sh, I, J, F), cu, su) Q :=
  gs_getf hd ht (by unfold gw_fv; rw [if_neg (by omega), if_pos hs]; rfl) kk
theorem gs_getR {x r : Nat} (hd : gw_D i pc (.getfield x) 3 c k) (ht : gw_T (sh, I, J, F) a = c) (hs : gb_s c k = 2) (hr : F a k = r) (h0 : r ≠ 0) (kk : gw_E V i (pc + 3, ls, .ref r :: st, (sh, I, J, F), cu, su) Q) : gw_E V i (pc, ls, .ref a :: st, (sh, I, J, F), cu, su) Q :=
  gs_getf hd ht (by unfold gw_fv; rw [if_neg (by omega), if_neg (by omega)]; show va_rf (gw_ro V (F a k)) = _; rw [hr]; exact gw_ro_pos h0) kk
/-- a field is written: the new world differs at this slot -/
theorem gs_putf {x : Nat} {v : Value} {w' : gw_W} (hd : gw_D i pc (.putfield x) 3 c k) (ht : gw_T w a = c) (hf : (gb_F c k).2.2.2 = false ∨ (gm_k i = 2 ∧ (gb_F c k).1 = gb_n (gm_o i))) (hn : narrow (gb_ty c k) (gw_mv V v) = gw_mv V v) (hfit : fits (gb_ty c k) (gw_mv V v) = true)
    (hw : w'.1 = w.1) (ho : ∀ q, q ≠ a → w'.2.1 q = w.2.1 q ∧ w'.2.2.1 q = w.2.2.1 q ∧ w'.2.2.2 q = w.2.2.2 q) (hs : ∀ q, q ≠ k → gw_fv V w' c a q = gw_fv V w c a q) (hv : gw_fv V w' c a k = gw_mv V v) (kk : gw_E V i (pc + 3, ls, st, w', cu, su) Q) : gw_E V i (pc, ls, v :: .ref a :: st, w, cu, su) Q := by
  intro p l e R s m args below meth cd QQ H locs L X hH hl hret
  obtain ⟨hin, hc, hk⟩ := gl_F_in hd.2
  have he := gw_at hH ht (by omega)
  have hD : va_D (gw_A V) (gw_ws V w) := gw_ws_D
  rw [gw_cell_obj ht hc] at he
  have key : ∀ (H1 : Heap) (locs1 : List Loc), va_P V.1 gb_cl ((gw_ws V w).set (a - 3) (gw_ad V a, .inr (c, (gw_fs V w c a).set k (gw_mv V v)))) H1 → H1.size = H.size → va_S (gw_A V) s.heap H1 locs1 → W p l e R s m args below meth cd H1 locs1 cu su QQ (F0 m (pc + 3) L (st.map (gw_mv V))) := by
    intro H1 locs1 hP1 hz hS1
    refine kk p l e R s m args below meth cd QQ H1 locs1 L X ?_ hl hret
    refine gw_H_set hH ht (by omega) hw (fun q hq => gw_cell_ext hw (ho q hq).1 (ho q hq).2.1 (ho q hq).2.2) (fun q hq => (ho q hq).1) ?_ hP1 (fun _ => hz) hS1
    have hT : gw_T w' a = c := by unfold gw_T; rw [hw]; exact ht
    rw [gw_cell_obj hT hc, gw_fs_set hk hs hv]
  have ha : gw_ad V a < H.size := (hH.1 _ _ he).lt
  have hKK := X.2.2.2.2.2.2.2.2.2.2.2.2.1
  have hty := fun q hq => gb_tok c hc q hq
  have hnm := gb_nm c hc
  obtain ⟨r, h1, cell, q1, q2, q3, q4⟩ := hH.1 _ _ he
  have hr : r = (gb_n c, gb_F c, gb_K c) := Option.some.inj (h1.symm.trans (gb_cl_get hc))
  subst hr
  have hap := va_apart (own := gb_n (gm_o i)) X.2.2.2.2.1 (gb_lay hc) (gb_ty c) hty hnm hKK (gb_cl_get hc)
  obtain ⟨hS, hfc, kC, hkC, hkind⟩ := hKK.1 c _ (gb_cl_get hc)
  obtain ⟨cf, kf, fi, f, hi, hsl⟩ := hS k hk
  have hst := (u_facts hfc hkC (u_lays X.2.2.2.2.1 (gb_lay hc) hk) hi).1
  have fin : ∀ H' : Heap, H'[gw_ad V a]? = some (cell.setSlot f.slot (gw_mv V v)) → H'.size = H.size → (∀ q, q ≠ gw_ad V a → H'[q]? = H[q]?) → W p l e R s m args below meth cd H' (locs ++ [⟨gw_ad V a, f.slot⟩]) cu su QQ (F0 m (pc + 3) L (st.map (gw_mv V))) := by
    intro H' e1 e2 e3
    rw [hsl] at e1 ⊢
    exact key H' _ (hH.1.set hD he ⟨_, gb_cl_get hc, t_OB.to (V := updV (vp_V (gw_fs V w c a)) k (gw_mv V v)) ⟨_, e1, q2, q3, t_set q4 hap hk (gw_mv V v)⟩ (fun j _ => vp_updV_set (by rw [gw_fs_len]; exact hk) (gw_mv V v) j)⟩ e3) e2 (hH.2.2.2.1.put e2 e3 (hD.2 _ _ he))
  have hlay := X.2.2.2.2.1 _ (gb_lay hc _ (u_in_lay hk))
  unfold u_lay at hlay
  rcases hf with hf | ⟨hf1, hf2⟩
  · rw [if_neg (by rw [hf]; decide)] at hlay
    have h6 := u_store hfc hkC hkind hlay hi (hty k hk) hn hfit
    have h7 : k2_Sd s f cell.cls (gw_mv V v) := by rw [q2]; exact h6
    refine W.putf X.1 X.2.1 X.2.2.2.1 (X.2.2.2.2.1 _ hin) hi hst (Or.inl h7.1) q1 (by rw [q3]; exact fun h => by cases h) (by rw [hsl]; exact k2_hasslot (q4 k hk)) h7.2.1 (by rw [q3]; exact h7.2.2) rfl rfl hd.1 ?_
    refine fin _ ?_ ?_ ?_
    · simp [Array.getElem?_setIfInBounds, ha]
    · simp
    · intro q hq
      simp [Array.getElem?_setIfInBounds, Ne.symm hq]
  · by_cases hfb : (gb_F c k).2.2.2 = true
    · rw [if_pos hfb] at hlay
      have hcf : m.cls = cf := by
        obtain ⟨_, _, c', _, _, _, -, -, hf', -, -, -, hown2, -⟩ := Cond.laysFinal_spec hlay
        have e1 : c' = cf := by have := hi.symm.trans hf'; simp at this; exact this.1.symm
        rw [hf2] at hown2
        rw [← e1]; exact Option.some.inj (X.2.2.2.1.symm.trans hown2)
      have h6 := u_fits hfc hkC hkind (Or.inr hlay) hi (hty k hk) hn hfit
      exact W.putFinK X.1 X.2.1 X.2.2.2.1 (X.2.2.2.2.1 _ hin) hi hst hcf (X.2.2.2.2.2.2.1 hf1) (by rw [q2]; exact h6) q1 q3 (by rw [hsl]; exact k2_hasslot (q4 k hk)) rfl rfl hd.1 fin
    · rw [if_neg hfb] at hlay
      have h6 := u_store hfc hkC hkind hlay hi (hty k hk) hn hfit
      have h7 : k2_Sd s f cell.cls (gw_mv V v) := by rw [q2]; exact h6
      refine W.putf X.1 X.2.1 X.2.2.2.1 (X.2.2.2.2.1 _ hin) hi hst (Or.inl h7.1) q1 (by rw [q3]; exact fun h => by cases h) (by rw [hsl]; exact k2_hasslot (q4 k hk)) h7.2.1 (by rw [q3]; exact h7.2.2) rfl rfl hd.1 ?_
      refine fin _ ?_ ?_ ?_
      · simp [Array.getElem?_setIfInBounds, ha]
      · simp
      · intro q hq
        simp [Array.getElem?_setIfInBounds, Ne.symm hq]
theorem gs_putI {x : Nat} {v : Int32} (hd : gw_D i pc (.putfield x) 3 c k) (ht : gw_T (sh, I, J, F) a = c) (hs : gb_s c k = 0) (hty : gb_ty c k = .int) (hf : (gb_F c k).2.2.2 = false) (kk : ∀ I2, I2 = gw_u I a k v → gw_E V i (pc + 3, ls, st, (sh, I2, J, F), cu, su) Q) : gw_E V i (pc, ls, .int v :: .ref a :: st, (sh, I, J, F), cu, su) Q := by
  refine gs_putf (w' := (sh, gw_u I a k v, J, F)) hd ht (Or.inl hf) (by rw [hty]; rfl) (by rw [hty]; rfl) rfl (fun q hq => ⟨gw_u_o hq, rfl, rfl⟩) (fun q hq => ?_) ?_ (kk _ rfl)
  · unfold gw_fv
    show (if _ then Value.int (gw_u I a k v a q) else _) = _
    rw [gw_u_s]
    simp [upd, hq]
  · unfold gw_fv
    rw [if_pos hs]
    show Value.int (gw_u I a k v a k) = _
    rw [gw_u_s]
    simp [upd, gw_mv]
theorem gs_putJ {x : Nat} {v : Int64} (hd : gw_D i pc (.putfield x) 3 c k) (ht : gw_T (sh, I, J, F) a = c) (hs : gb_s c k = 1) (hty : gb_ty c k = .long) (hf : (gb_F c k).2.2.2 = false) (kk : ∀ J2, J2 = gw_uJ J a k v → gw_E V i (pc + 3, ls, st, (sh, I, J2, F), cu, su) Q) : gw_E V i (pc, ls, .long v :: .ref a :: st, (sh, I, J, F), cu, su) Q := by
  refine gs_putf (w' := (sh, I, gw_uJ J a k v, F)) hd ht (Or.inl hf) (by rw [hty]; rfl) (by rw [hty]; rfl) rfl (fun q hq => ⟨rfl, gw_uJ_o hq, rfl⟩) (fun q hq => ?_) ?_ (kk _ rfl)
  · unfold gw_fv
    show (if _ then _ else if _ then Value.long (gw_uJ J a k v a q) else _) = _
    simp [gw_uJ, hq]
  · unfold gw_fv
    rw [if_neg (by omega), if_pos hs]
    show Value.long (gw_uJ J a k v a k) = _
    simp [gw_uJ, gw_mv]
theorem gs_putR {x v : Nat} (hd : gw_D i pc (.putfield x) 3 c k) (ht : gw_T (sh, I, J, F) a = c) (hs : gb_s c k = 2) (hf : gm_k i = 2 ∧ (gb_F c k).1 = gb_n (gm_o i)) (hn : narrow (gb_ty c k) (.ref (gw_ad V v)) = .ref (gw_ad V v)) (hfit : fits (gb_ty c k) (.ref (gw_ad V v)) = true) (h0 : v ≠ 0) (kk : ∀ F2, F2 = gw_uR F a k v → gw_E V i (pc + 3, ls, st, (sh, I, J, F2), cu, su) Q) : gw_E V i (pc, ls, .ref v :: .ref a :: st, (sh, I, J, F), cu, su) Q := by
  refine gs_putf (w' := (sh, I, J, gw_uR F a k v)) hd ht (Or.inr hf) hn hfit rfl (fun q hq => ⟨rfl, rfl, gw_uR_o hq⟩) (fun q hq => ?_) ?_ (kk _ rfl)
  · unfold gw_fv
    show (if _ then _ else if _ then _ else va_rf (gw_ro V (gw_uR F a k v a q))) = _
    simp [gw_uR, hq]
  · unfold gw_fv
    rw [if_neg (by omega), if_neg (by omega)]
    show va_rf (gw_ro V (gw_uR F a k v a k)) = _
    simp [gw_uR]
    exact gw_ro_pos h0
/-- an int of an array: of ours, or of one of the three -/
theorem gs_iaload {j : Int32} (hd : gw_D i pc .iaload 1 b c) (ht : gw_T (sh, I, J, F) a = 12 ∨ gw_T (sh, I, J, F) a = 16 ∧ a < 3) (hin : vp_in j (gw_N (sh, I, J, F) a)) (kk : gw_E V i (pc + 1, ls, .int (I a j.toNatClampNeg) :: st, (sh, I, J, F), cu, su) Q) : gw_E V i (pc, ls, .int j :: .ref a :: st, (sh, I, J, F), cu, su) Q := by
  intro p l e R s m args below meth cd QQ H locs L X hH hl hret
  have hKK := X.2.2.2.2.2.2.2.2.2.2.2.2.1
  rcases ht with ht | ⟨ht, h3⟩
  · have he := gw_at hH ht (by omega)
    rw [gw_cell_I ht] at he
    exact va_iald X.1 X.2.1 hKK hH.1 (a - 3) 0 he rfl hin hd.1 (kk p l e R s m args below meth cd QQ H locs L X hH hl hret)
  · have hT := (hH.2.2.2.2 a h3).2
    have ha : gw_ad V a = V.2.2.2 a := by unfold gw_ad; rw [if_pos h3]
    show W _ _ _ _ _ _ _ _ _ _ _ _ _ _ _ (F0 m pc L (.int j :: .ref (gw_ad V a) :: st.map (gw_mv V)))
    rw [ha]
    exact va_ti X.1 X.2.1 hT hH.2.2.2.1 hin rfl hd.1 (kk p l e R s m args below meth cd QQ H locs L X hH hl hret)
theorem gs_baload {j : Int32} (hd : gw_D i pc .baload 1 b c) (ht : gw_T (sh, I, J, F) a = 13) (hin : vp_in j (gw_N (sh, I, J, F) a)) (kk : gw_E V i (pc + 1, ls, .int (I a j.toNatClampNeg) :: st, (sh, I, J, F), cu, su) Q) : gw_E V i (pc, ls, .int j :: .ref a :: st, (sh, I, J, F), cu, su) Q := by
  intro p l e R s m args below meth cd QQ H locs L X hH hl hret
  have he := gw_at hH ht (by omega)
  rw [gw_cell_Z ht] at he
  exact va_zald X.1 X.2.1 X.2.2.2.2.2.2.2.2.2.2.2.2.1 hH.1 (a - 3) 1 he rfl hin hd.1 (kk p l e R s m args below meth cd QQ H locs L X hH hl hret)
/-- a reference out of an array of mornings, or of rows -/
theorem gs_aaload {j : Int32} {r : Nat} (hd : gw_D i pc .aaload 1 b c) (ht : gw_T (sh, I, J, F) a = 14 ∨ gw_T (sh, I, J, F) a = 15) (hin : vp_in j (gw_N (sh, I, J, F) a)) (hr : F a j.toNatClampNeg = r) (h0 : r ≠ 0) (kk : gw_E V i (pc + 1, ls, .ref r :: st, (sh, I, J, F), cu, su) Q) : gw_E V i (pc, ls, .int j :: .ref a :: st, (sh, I, J, F), cu, su) Q := by
  intro p l e R s m args below meth cd QQ H locs L X hH hl hret
  have hKK := X.2.2.2.2.2.2.2.2.2.2.2.2.1
  have hlt : j.toNatClampNeg < gw_N (sh, I, J, F) a := Nat.not_le.mp fun q => hin (Or.inr q)
  have hkk := kk p l e R s m args below meth cd QQ H locs L X hH hl hret
  have hv : va_rf (gw_ro V (F a j.toNatClampNeg)) = gw_mv V (.ref r) := by rw [hr]; exact gw_ro_pos h0
  rcases ht with ht | ht
  · have he := gw_at hH ht (by omega)
    rw [gw_cell_M ht] at he
    exact va_aldq X.1 X.2.1 hKK hH.1 (a - 3) 2 he rfl hin hd.1 (by rw [hv]; exact hkk)
  · have he := gw_at hH ht (by omega)
    rw [gw_cell_A ht] at he
    refine W.aald (v := gw_mv V (.ref r)) (ty := .array .int) X.1 X.2.1 (hH.1 _ _ he) ((hKK.2 3 _ rfl).1 (gw_N (sh, I, J, F) a) (fun j => va_rf (gw_ro V (F a j)))) rfl (fun q => by cases q) (by show ¬ (j < 0 ∨ (arrV _ _ _).slots.size ≤ _); rw [arrV_size]; exact hin) ?_ rfl rfl hd.1 hkk
    show (arrV _ _ _).slots[j.toNatClampNeg]? = _
    rw [arrV_read _ _ hlt, ← hv]
theorem gs_iastore {j v : Int32} (hL : 145 ≤ sh.length) (hd : gw_D i pc .iastore 1 b c) (ht : gw_T (sh, I, J, F) a = 12) (hin : vp_in j (gw_N (sh, I, J, F) a)) (kk : ∀ I2, I2 = gw_u I a j.toNatClampNeg v → gw_E V i (pc + 1, ls, st, (sh, I2, J, F), cu, su) Q) : gw_E V i (pc, ls, .int v :: .int j :: .ref a :: st, (sh, I, J, F), cu, su) Q := by
  intro p l e R s m args below meth cd QQ H locs L X hH hl hret
  have he := gw_at hH ht (by omega)
  rw [gw_cell_I ht] at he
  refine va_iast X.1 X.2.1 X.2.2.2.2.2.2.2.2.2.2.2.2.1 hH.1 gw_ws_D hH.2.2.2.1 (a - 3) 0 he rfl hin hd.1 (fun H1 locs1 hP1 _ hS1 => ?_)
  refine kk _ rfl p l e R s m args below meth cd QQ H1 locs1 L X ?_ hl hret
  refine gw_H_set (w' := (sh, gw_u I a j.toNatClampNeg v, J, F)) hH ht (by omega) rfl (fun q hq => gw_cell_ext rfl (gw_u_o hq) rfl rfl) (fun q hq => gw_u_o hq) ?_ hP1 (fun h => absurd h (Nat.not_lt.mpr hL)) hS1
  rw [gw_cell_I (w := (sh, gw_u I a j.toNatClampNeg v, J, F)) ht]
  show Sum.inl (_, _, Sum.inl (gw_u I a j.toNatClampNeg v a)) = _
  rw [gw_u_s]
  rfl
theorem gs_bastore {j v : Int32} (hL : 145 ≤ sh.length) (hd : gw_D i pc .bastore 1 b c) (ht : gw_T (sh, I, J, F) a = 13) (hin : vp_in j (gw_N (sh, I, J, F) a)) (kk : ∀ I2, I2 = gw_u I a j.toNatClampNeg (vp_nar .boolean v) → gw_E V i (pc + 1, ls, st, (sh, I2, J, F), cu, su) Q) : gw_E V i (pc, ls, .int v :: .int j :: .ref a :: st, (sh, I, J, F), cu, su) Q := by
  intro p l e R s m args below meth cd QQ H locs L X hH hl hret
  have he := gw_at hH ht (by omega)
  rw [gw_cell_Z ht] at he
  refine va_zast X.1 X.2.1 X.2.2.2.2.2.2.2.2.2.2.2.2.1 hH.1 gw_ws_D hH.2.2.2.1 (a - 3) 1 he rfl hin hd.1 (fun H1 locs1 hP1 _ hS1 => ?_)
  refine kk _ rfl p l e R s m args below meth cd QQ H1 locs1 L X ?_ hl hret
  refine gw_H_set (w' := (sh, gw_u I a j.toNatClampNeg (vp_nar .boolean v), J, F)) hH ht (by omega) rfl (fun q hq => gw_cell_ext rfl (gw_u_o hq) rfl rfl) (fun q hq => gw_u_o hq) ?_ hP1 (fun h => absurd h (Nat.not_lt.mpr hL)) hS1
  rw [gw_cell_Z (w := (sh, gw_u I a j.toNatClampNeg (vp_nar .boolean v), J, F)) ht]
  show Sum.inl (_, _, Sum.inl (gw_u I a j.toNatClampNeg (vp_nar .boolean v) a)) = _
  rw [gw_u_s]
  rfl
theorem gs_alen {v : Int32} (hd : gw_D i pc .arraylength 1 b c) (ht : gw_T (sh, I, J, F) a = 16) (h3 : a < 3) (hv : Int32.ofNat (gw_N (sh, I, J, F) a) = v) (kk : gw_E V i (pc + 1, ls, .int v :: st, (sh, I, J, F), cu, su) Q) : gw_E V i (pc, ls, .ref a :: st, (sh, I, J, F), cu, su) Q := by
  intro p l e R s m args below meth cd QQ H locs L X hH hl hret
  have hT := (hH.2.2.2.2 a h3).2
  have ha : gw_ad V a = V.2.2.2 a := by unfold gw_ad; rw [if_pos h3]
  show W _ _ _ _ _ _ _ _ _ _ _ _ _ _ _ (F0 m pc L (.ref (gw_ad V a) :: st.map (gw_mv V)))
  rw [ha]
  exact va_tlen X.1 X.2.1 hT hH.2.2.2.1 hv hd.1 (kk p l e R s m args below meth cd QQ H locs L X hH hl hret)
theorem gl_S_in {o x : Nat} (h : gl_S.any (fun r => r.1 == o && (r.2.1 == x && r.2.2.1 == a)) = true) : Cond.fieldLink (gb_n o) x "MorningBill" (gl_sn a) "[I" ∈ gb_t ∨ (gb_n o = "MorningBill$Groups" ∧ x = 65 ∧ a = 1) := by
  obtain ⟨r, hr, h⟩ := List.any_eq_true.mp h
  simp only [Bool.and_eq_true, beq_iff_eq] at h
  obtain ⟨rfl, rfl, rfl⟩ := h
  have h1 := List.all_eq_true.mp gl_S_ok r hr
  by_cases e : r.2.2.2 = 0
  · rw [if_pos e, decide_eq_true_eq] at h1
    exact Or.inl (gb_tin h1 rfl)
  · right
    have : ∀ r ∈ gl_S, r.2.2.2 ≠ 0 → gb_n r.1 = "MorningBill$Groups" ∧ r.2.1 = 65 ∧ r.2.2.1 = 1 := by decide +kernel
    exact this r hr e
theorem gl_S_a {o x : Nat} (h : gl_S.any (fun r => r.1 == o && (r.2.1 == x && r.2.2.1 == a)) = true) : a = 1 ∨ a = 2 := by
  obtain ⟨r, hr, h⟩ := List.any_eq_true.mp h
  simp only [Bool.and_eq_true, beq_iff_eq] at h
  obtain ⟨rfl, rfl, rfl⟩ := h
  have : ∀ r ∈ gl_S, r.2.2.1 = 1 ∨ r.2.2.1 = 2 := by decide +kernel
  exact this r hr
end GH
end
section
/-! ===== the rules: static arrays, the machine's own methods, calls ===== -/
theorem gl_M_in {o x j : Nat} (h : gl_M.any (fun r => r.1 == o && (r.2.1 == x && r.2.2.1 == j)) = true) : Cond.methodLink (gb_n o) x (gl_y j) ∈ gb_t := by
  obtain ⟨r, hr, h⟩ := List.any_eq_true.mp h
  simp only [Bool.and_eq_true, beq_iff_eq] at h
  obtain ⟨rfl, rfl, rfl⟩ := h
  exact gb_tin (gb_at _ (List.all_eq_true.mp gl_M_ok r hr)) rfl
theorem gl_N_in {o x j : Nat} (h : gl_N.any (fun r => r.1 == o && (r.2.1 == x && r.2.2.1 == j)) = true) : ∃ r ∈ gl_N, r.1 = o ∧ r.2.1 = x ∧ r.2.2.1 = j := by
  obtain ⟨r, hr, h⟩ := List.any_eq_true.mp h
  simp only [Bool.and_eq_true, beq_iff_eq] at h
  exact ⟨r, hr, h.1, h.2.1, h.2.2⟩
theorem gl_N_own : ∀ r ∈ gl_N, r.2.2.1 < 165 := by decide +kernel
/-- the words of the machine's own methods -/
def gl_own : List Cond := [.code objectInit ⟨#[0xb1]⟩ 1 none, .instanceMethod objectInit, .native arraycopyName, .static arraycopyName, .initialized "java/lang/System", .initialized "java/lang/Math",
  .static Lib.Math.max.name, .code Lib.Math.max.name Lib.Math.max.code 2 (some .int), .static Lib.Math.min.name, .code Lib.Math.min.name Lib.Math.min.code 2 (some .int),
  .static Lib.MathLoose.max_long.x, .code Lib.MathLoose.max_long.x Lib.MathLoose.max_long.code 4 (some .long), .static Lib.MathLoose.abs_long.x, .code Lib.MathLoose.abs_long.x Lib.MathLoose.abs_long.code 2 (some .long), .arrayClass .int, .arrayClass .boolean]
set_option maxRecDepth 100000 in
theorem gl_own_ok : ∀ w ∈ gl_own, w ∈ lw_tbl ∧ goodWord w = true := by decide +kernel
theorem gl_own_in {w : Cond} (h : w ∈ gl_own) : w ∈ gb_t := gb_tin (gl_own_ok w h).1 (gl_own_ok w h).2
theorem gw_sum (V : gw_V) (st : List Value) : ((st.map (gw_mv V)).map fun v => v.category).sum = (st.map fun v => v.category).sum := by
  rw [List.map_map]
  congr 2
  funext v
  exact gw_cat V v
section GC
variable {V : gw_V} {i pc len a b c k : Nat} {ls : List (Nat × Value)} {st : List Value} {sh : List (Nat × Nat)} {I : Nat → Nat → Int32} {J : Nat → Nat → Int64} {F : Nat → Nat → Nat} {w : gw_W} {cu su : Nat} {Q : Option Value → gw_W → Prop}
theorem gs_gets {x : Nat} (hd : gw_D i pc (.getstatic x) 3 a b) (kk : gw_E V i (pc + 3, ls, .ref a :: st, w, cu, su) Q) : gw_E V i (pc, ls, st, w, cu, su) Q := by
  intro p l e R s m args below meth cd QQ H locs L X hH hl hret
  have hKK := X.2.2.2.2.2.2.2.2.2.2.2.2
  have h := kk p l e R s m args below meth cd QQ H locs L X hH hl hret
  have ha := gl_S_a hd.2
  have hZ : va_Z "MorningBill" (gl_sn a) "[I" (.ref (V.2.2.2 a)) (gw_A V) s s.heap := by
    rcases ha with rfl | rfl
    · exact hKK.2.2.1
    · exact hKK.2.2.2.1
  have hm : gw_mv V (.ref a) = .ref (V.2.2.2 a) := by
    show Value.ref (gw_ad V a) = _
    unfold gw_ad
    rw [if_pos (by omega)]
  have h' : W p l e R s m args below meth cd H locs cu su QQ (F0 m (pc + 3) L (.ref (V.2.2.2 a) :: st.map (gw_mv V))) := by rw [← hm]; exact h
  rcases gl_S_in hd.2 with q | ⟨q1, q2, q3⟩
  · exact va_gets X.1 X.2.1 hZ hH.2.2.2.1 X.2.2.2.1 (X.2.2.2.2.1 _ q) (fun _ z => z) hd.1 h'
  · have hn := hKK.2.2.2.2.2.1
    subst q3
    refine va_getsN X.1 X.2.1 hZ hH.2.2.2.1 (own := "MorningBill$Groups") (host := "MorningBill") (index := x) (ref := "MorningBill") (by rw [← q1]; exact X.2.2.2.1) ?_ (fun _ z => z) hd.1 h'
    rw [q2]
    exact va_Nw.use rfl hn
theorem gs_objInit {x : Nat} (hd : gw_D i pc (.invokespecial x) 3 1000 b) (hf : 1 ≤ gm_f i) (hx : 20 ≤ gm_x i) (hs : (st.map fun v => v.category).sum ≤ 8) (kk : gw_E V i (pc + 3, ls, st, w, cu, su) Q) : gw_E V i (pc, ls, .ref a :: st, w, cu, su) Q := by
  intro p l e R s m args below meth cd QQ H locs L X hH hl hret
  have hlk : (Cond.methodLink (gb_n (gm_o i)) x objectInit).before args s = true := by
    have := hd.2
    unfold gc_lk at this
    rcases Bool.or_eq_true_iff.mp this with q | q
    · exact X.2.2.2.2.1 _ (gl_M_in q)
    · obtain ⟨r, hr, -, -, h3⟩ := gl_N_in q
      exact absurd (gl_N_own r hr) (by omega)
  have h1 := X.2.2.2.2.2.2.2.2.1
  have h2 := X.2.2.2.2.2.2.2.2.2.1
  refine W.objInit X.1 X.2.1 X.2.2.2.1 hlk (X.2.2.2.2.1 _ (gl_own_in (by decide +kernel))) (X.2.2.2.2.1 _ (gl_own_in (List.mem_of_getElem? (i := 0) rfl))) rfl (by rw [X.2.2.1]; exact hl.1) rfl hd.1 (by omega) ?_ (kk p l e R s m args below meth cd QQ H locs L X hH hl hret)
  show 2 * 0 + ((st.map (gw_mv V)).map fun v => v.category).sum + 12 ≤ R.locals
  rw [gw_sum]
  omega
theorem gw_mlk {x j : Nat} {p : Program} {R : Room} {s : State} {m : MethodId} {args : Array Value} {meth : Method} {cd : Code} {y : MethodName} (X : gw_X V i p R s m args meth cd) (hd : gw_D i pc (.invokestatic x) 3 j b) (hj : 1000 ≤ j) (hy : gl_y j = y) : (Cond.methodLink (gb_n (gm_o i)) x y).before args s = true := by
  subst hy
  have := hd.2
  unfold gc_lk at this
  rcases Bool.or_eq_true_iff.mp this with q | q
  · exact X.2.2.2.2.1 _ (gl_M_in q)
  · obtain ⟨r, hr, -, -, h3⟩ := gl_N_in q
    exact absurd (gl_N_own r hr) (by omega)
theorem gs_mmax {q : Nat} {x y : Int32} (hd : gw_D i pc (.invokestatic q) 3 1002 b) (hf : 1 ≤ gm_f i) (hx : 26 ≤ gm_x i) (hcu : cu ≤ gm_c i) (hsu : su ≤ gm_s i) (hs : (st.map fun v => v.category).sum ≤ 8) (kk : gw_E V i (pc + 3, ls, .int (if x < y then y else x) :: st, w, cu, su) Q) : gw_E V i (pc, ls, .int y :: .int x :: st, w, cu, su) Q := by
  intro p l e R s m args below meth cd QQ H locs L X hH hl hret
  have h1 := X.2.2.2.2.2.2.2.2
  exact va_mmax X.1 X.2.1 (by rw [X.2.2.1]; exact hl.1.symm) X.2.2.2.1 (gw_mlk X hd (by omega) rfl) (X.2.2.2.2.1 _ (gl_own_in (by decide +kernel))) (X.2.2.2.2.1 _ (gl_own_in (by decide +kernel))) (X.2.2.2.2.1 _ (gl_own_in (List.mem_of_getElem? (i := 7) rfl))) (by omega) (by rw [gw_sum]; omega) (by show cu ≤ _; omega) (by show su ≤ _; omega) hd.1 (kk p l e R s m args below meth cd QQ H locs L X hH hl hret)
theorem gs_mmin {q : Nat} {x y : Int32} (hd : gw_D i pc (.invokestatic q) 3 1003 b) (hf : 1 ≤ gm_f i) (hx : 26 ≤ gm_x i) (hcu : cu ≤ gm_c i) (hsu : su ≤ gm_s i) (hs : (st.map fun v => v.category).sum ≤ 8) (kk : gw_E V i (pc + 3, ls, .int (if y < x then y else x) :: st, w, cu, su) Q) : gw_E V i (pc, ls, .int y :: .int x :: st, w, cu, su) Q := by
  intro p l e R s m args below meth cd QQ H locs L X hH hl hret
  have h1 := X.2.2.2.2.2.2.2.2
  exact va_mmin X.1 X.2.1 (by rw [X.2.2.1]; exact hl.1.symm) X.2.2.2.1 (gw_mlk X hd (by omega) rfl) (X.2.2.2.2.1 _ (gl_own_in (by decide +kernel))) (X.2.2.2.2.1 _ (gl_own_in (by decide +kernel))) (X.2.2.2.2.1 _ (gl_own_in (List.mem_of_getElem? (i := 9) rfl))) (by omega) (by rw [gw_sum]; omega) (by show cu ≤ _; omega) (by show su ≤ _; omega) hd.1 (kk p l e R s m args below meth cd QQ H locs L X hH hl hret)
theorem gs_mmaxL {q : Nat} {x y : Int64} (hd : gw_D i pc (.invokestatic q) 3 1004 b) (hf : 1 ≤ gm_f i) (hx : 26 ≤ gm_x i) (hcu : cu ≤ gm_c i) (hsu : su ≤ gm_s i) (hs : (st.map fun v => v.category).sum ≤ 8) (kk : gw_E V i (pc + 3, ls, .long (if y < x then x else y) :: st, w, cu, su) Q) : gw_E V i (pc, ls, .long y :: .long x :: st, w, cu, su) Q := by
  intro p l e R s m args below meth cd QQ H locs L X hH hl hret
  have h1 := X.2.2.2.2.2.2.2.2
  exact va_mmax_long X.1 X.2.1 (by rw [X.2.2.1]; exact hl.1.symm) X.2.2.2.1 (gw_mlk X hd (by omega) rfl) (X.2.2.2.2.1 _ (gl_own_in (by decide +kernel))) (X.2.2.2.2.1 _ (gl_own_in (by decide +kernel))) (X.2.2.2.2.1 _ (gl_own_in (List.mem_of_getElem? (i := 11) rfl))) (by omega) (by rw [gw_sum]; omega) (by show cu ≤ _; omega) (by show su ≤ _; omega) hd.1 (kk p l e R s m args below meth cd QQ H locs L X hH hl hret)
theorem gs_mabsL {q : Nat} {x : Int64} (hd : gw_D i pc (.invokestatic q) 3 1005 b) (hf : 1 ≤ gm_f i) (hx : 26 ≤ gm_x i) (hcu : cu ≤ gm_c i) (hsu : su ≤ gm_s i) (hs : (st.map fun v => v.category).sum ≤ 8) (kk : gw_E V i (pc + 3, ls, .long (if 0 < x then x else -x) :: st, w, cu, su) Q) : gw_E V i (pc, ls, .long x :: st, w, cu, su) Q := by
  intro p l e R s m args below meth cd QQ H locs L X hH hl hret
  have h1 := X.2.2.2.2.2.2.2.2
  exact va_mabs_long X.1 X.2.1 (by rw [X.2.2.1]; exact hl.1.symm) X.2.2.2.1 (gw_mlk X hd (by omega) rfl) (X.2.2.2.2.1 _ (gl_own_in (by decide +kernel))) (X.2.2.2.2.1 _ (gl_own_in (by decide +kernel))) (X.2.2.2.2.1 _ (gl_own_in (List.mem_of_getElem? (i := 13) rfl))) (by omega) (by rw [gw_sum]; omega) (by show cu ≤ _; omega) (by show su ≤ _; omega) hd.1 (kk p l e R s m args below meth cd QQ H locs L X hH hl hret)
/-- a row is copied -/
def gw_cp (f : Nat → Nat → Int32) (a0 a sp dp n : Nat) : Nat → Nat → Int32 := fun p q => if p = a then va_cpy (f a0) (f a) sp dp n q else f p q
theorem gs_copy {q a0 : Nat} {sp dp n : Int32} (hL : 145 ≤ sh.length) (hd : gw_D i pc (.invokestatic q) 3 1001 b) (hf : 1 ≤ gm_f i) (hx : 26 ≤ gm_x i) (hs : (st.map fun v => v.category).sum ≤ 8) (ht0 : gw_T (sh, I, J, F) a0 = 12) (ht : gw_T (sh, I, J, F) a = 12) (h1 : ¬ sp < 0) (h2 : ¬ dp < 0) (h3 : ¬ n < 0) (h4 : sp.toNatClampNeg + n.toNatClampNeg ≤ gw_N (sh, I, J, F) a0) (h5 : dp.toNatClampNeg + n.toNatClampNeg ≤ gw_N (sh, I, J, F) a)
    (kk : ∀ I2, I2 = gw_cp I a0 a sp.toNatClampNeg dp.toNatClampNeg n.toNatClampNeg → gw_E V i (pc + 3, ls, st, (sh, I2, J, F), cu, su) Q) : gw_E V i (pc, ls, .int n :: .int dp :: .ref a :: .int sp :: .ref a0 :: st, (sh, I, J, F), cu, su) Q := by
  intro p l e R s m args below meth cd QQ H locs L X hH hl hret
  have hroom := X.2.2.2.2.2.2.2.2
  have he := gw_at hH ht (by omega)
  have he0 := gw_at hH ht0 (by omega)
  rw [gw_cell_I ht] at he
  rw [gw_cell_I ht0] at he0
  refine va_copyi X.1 X.2.1 (by rw [X.2.2.1]; exact hl.1.symm) X.2.2.2.1 (gw_mlk X hd (by omega) rfl) (X.2.2.2.2.1 _ (gl_own_in (by decide +kernel))) (X.2.2.2.2.1 _ (gl_own_in (by decide +kernel))) (X.2.2.2.2.1 _ (gl_own_in (by decide +kernel))) X.2.2.2.2.2.2.2.2.2.2.2.2.1 hH.1 gw_ws_D hH.2.2.2.1 (a0 - 3) (a - 3) 0 0 he0 he rfl rfl rfl h1 h2 h3 h4 h5 (fun _ _ => rfl) (by omega) ?_ hd.1 (fun H1 locs1 hP1 _ hS1 => ?_)
  · rw [gw_sum]
    have : nativeFrameWords "java/lang/System" "arraycopy" 5 = 7 := by decide +kernel
    omega
  · refine kk _ rfl p l e R s m args below meth cd QQ H1 locs1 L X ?_ hl hret
    refine gw_H_set (w' := (sh, gw_cp I a0 a sp.toNatClampNeg dp.toNatClampNeg n.toNatClampNeg, J, F)) hH ht (by omega) rfl (fun q hq => gw_cell_ext rfl (by funext z; simp [gw_cp, hq]) rfl rfl) (fun q hq => by funext z; simp [gw_cp, hq]) ?_ hP1 (fun h => absurd h (Nat.not_lt.mpr hL)) hS1
    rw [gw_cell_I (w := (sh, gw_cp I a0 a sp.toNatClampNeg dp.toNatClampNeg n.toNatClampNeg, J, F)) ht]
    show Sum.inl (_, _, Sum.inl (gw_cp I a0 a sp.toNatClampNeg dp.toNatClampNeg n.toNatClampNeg a)) = _
    have : gw_cp I a0 a sp.toNatClampNeg dp.toNatClampNeg n.toNatClampNeg a = va_cpy (I a0) (I a) sp.toNatClampNeg dp.toNatClampNeg n.toNatClampNeg := by funext z; simp [gw_cp]
    rw [this]
    rfl
end GC
end
section
/-! ===== a judgement is a contract; calls ===== -/
theorem gw_AOA_moved {u U : State} (hvm : u.vm.Alike U.vm) (h : (Cond.arrayOver (.array .int)).before #[] u = true) : (Cond.arrayOver (.array .int)).before #[] U = true := by
  obtain ⟨comp, c, k, h1, h2, h3, h4, h5⟩ := arrayOverA_spec h
  obtain ⟨k', hk', he⟩ := hvm.2.2 _ _ h3
  have hb : U.vm.bare = u.vm.bare := by first | exact hvm.bare_eq | exact hvm.bare_eq.symm
  have e1 := va_idx_bare U.vm comp
  rw [hb] at e1
  have hi := e1.symm.trans ((va_idx_bare u.vm comp).trans h2)
  have hkind : k'.kind = .array comp (.array .int) := by rw [he]; exact h4
  have f1 : U.vm.findClass (FieldType.array .int).toString = some comp := by rw [hvm.findClass]; exact h1
  have f2 : U.vm.findClass ("[" ++ (FieldType.array .int).toString) = some c := by rw [hvm.findClass]; exact h5
  unfold Cond.before Cond.holds
  simp only [Cond.value]
  rw [f1, Option.bind_some]
  refine (congrArg (fun o : Option Nat => (o.bind (fun c => (U.vm.classes[c]?).map fun (k : Class) => match k.kind with | .array _ ty => decide (ty = FieldType.array .int) && decide (U.vm.findClass ("[" ++ (FieldType.array .int).toString) = some c) | _ => false) == some true)) hi).trans ?_
  simp [hk', hkind, f2]
theorem gw_NW_warm {s U : State} (hW : s.WarmedH U.vm) (h : gw_NW s) : gw_NW U :=
  ⟨fun r hr => va_Nw.warmM hW (h.1 r hr), va_Nw.warmF hW h.2.1, va_AO.moved hW.alike h.2.2.1, gw_AOA_moved hW.alike h.2.2.2⟩
theorem gw_NW_same {u U : State} (hv : u.vm = U.vm) (h : gw_NW u) : gw_NW U :=
  ⟨fun r hr => va_Nw.same rfl hv (h.1 r hr), va_Nw.same rfl hv h.2.1, va_AO.moved (by rw [hv]; exact Vm.Alike.refl _) h.2.2.1, gw_AOA_moved (by rw [hv]; exact Vm.Alike.refl _) h.2.2.2⟩
/-- what holds of a state between two calls -/
def gw_B (V : gw_V) (w : gw_W) (U : State) : Prop := gw_K V U ∧ gw_H V w U U.heap []
theorem gw_B_of {V : gw_V} {w : gw_W} {s U : State} {H : Heap} {locs : List Loc} (hal : s.vm.Alike U.vm) (hN : gw_NW U) (hU : U.heap = H) (hK : gw_K V s) (hH : gw_H V w s H locs) : gw_B V w U := by
  obtain ⟨k1, k2, k3, k4, k5⟩ := hK
  obtain ⟨h1, h2, h3, h4, h5⟩ := hH
  subst hU
  have ho : ∀ a : Nat, a < s.heap.size → ¬ gw_A V a → U.heap[a]? = s.heap[a]? := h4.2.1
  exact ⟨⟨va_K.moved hal k1, Nat.le_trans k2 h4.1, (va_Z.moved hal k3).kept ho, (va_Z.moved hal k4).kept ho, hN⟩, h1, h2, h3, va_S.rf, fun k hk => ⟨(h5 k hk).1, (va_T.moved hal (h5 k hk).2).kept ho⟩⟩
def gw_mws (i : Nat) : List Cond := Cond.code (gm_y i) (gm_b i) (gm_L i) (gm_r i) :: gb_t
def gw_rm (i : Nat) : Room := { frames := gm_f i, cells := gm_c i, slots := gm_s i, locals := gm_x i }
def gw_Qc (V : gw_V) (Q : Option Value → gw_W → Prop) : Array Value → State → Outcome → State → Prop := fun _ st oc t => (∃ (v : Option Value) (w' : gw_W), oc = .returned (v.map (gw_mv V)) ∧ Q v w' ∧ gw_B V w' t) ∧ va_F (gw_A V) st t
theorem gw_mk_spec {i : Nat} (h : i < 164) : plainName (gm_y i).cls = true ∧ (parseMethodDescriptor (gm_y i).desc).map (fun d => d.parameters.length) = some (gm_p i) ∧ (gm_y i).cls ≠ "java/lang/invoke/MethodHandle" ∧ (gm_y i).cls ≠ "java/lang/invoke/VarHandle" ∧ (gm_y i).cls = gb_n (gm_o i) ∧ (gm_k i = 2 ↔ (gm_y i).name = "<init>") := by
  have := gb_mkA i h
  unfold gb_mk at this
  simp only [Bool.and_eq_true, decide_eq_true_eq, beq_iff_eq] at this
  obtain ⟨⟨h1, h2⟩, h3, h4, h5, h6⟩ := this
  exact ⟨h1, h2, h3, h4, h5, decide_eq_decide.mp h6⟩
theorem gw_argm (V : gw_V) : ∀ (n : Nat) (as : List Value), lv_args n (as.map (gw_mv V)) = gw_lm V (lv_args n as)
  | _, [] => rfl
  | n, v :: vs => by
    show (n, gw_mv V v) :: lv_args (if (gw_mv V v).category = 2 then n + 2 else n + 1) (vs.map (gw_mv V)) = (n, gw_mv V v) :: gw_lm V (lv_args (if v.category = 2 then n + 2 else n + 1) vs)
    rw [gw_cat, gw_argm V]
theorem gw_argl (V : gw_V) : ∀ (as : List Value), (lg_sl (as.map (gw_mv V))).length = (lg_sl as).length
  | [] => rfl
  | v :: vs => by
    have := gw_argl V vs
    unfold lg_sl at this ⊢
    simp only [List.map_cons, List.flatMap_cons, List.length_append, gw_cat, this]
    by_cases h : v.category = 2 <;> simp [h]
set_option maxHeartbeats 1000000 in
theorem gw_met {V : gw_V} {i : Nat} {as : List Value} {w : gw_W} {Q : Option Value → gw_W → Prop} (l : Launch) (hi : i < 164) (hl : (lg_sl as).length ≤ gm_L i) (hE : gw_E V i (0, lv_args 0 as, [], w, 0, 0) Q) :
    Met l (gm_y i) (gw_mws i) (gw_rm i) (va_Pc (as.map (gw_mv V)) (gw_B V w)) (gw_Qc V Q) (gm_c i) (gm_s i) (gw_A V) := by
  obtain ⟨m1, m2, m3, m4, m5, m6⟩ := gw_mk_spec hi
  refine Met.ofW (cc := gm_b i) (maxL := gm_L i) (ret := gm_r i) m1 rfl ?_
  intro p e s m args below meth c s₁ B hml hv
  obtain ⟨rfl, hK, hH⟩ := hv
  have hts := atoms_spec (ws := gw_mws i) B.pre
  have hown : s.vm.findClass (gb_n (gm_o i)) = some m.cls := by rw [← m5]; exact findClass_of_methodNamed B.named
  have X : gw_X V i p (gw_rm i) s m ((as.map (gw_mv V)).toArray) meth c := ⟨B.exec, B.bytes, hml, hown, fun w hw => hts w (List.mem_cons_of_mem _ hw), B.notSynchronized, fun h => (name_of_methodNamed B.named B.method).1.trans (m6.mp h), B.returns, Nat.le_refl _, Nat.le_refl _, Nat.le_refl _, Nat.le_refl _, hK⟩
  have hl0 := lv_entry (as.map (gw_mv V)) (n := gm_L i) (by rw [gw_argl]; exact hl)
  rw [lg_entry_eq]
  rw [gw_argm] at hl0
  refine hE p l e (gw_rm i) s m _ below meth c _ s.heap [] _ X hH hl0 ?_
  intro v w' H' locs' pc' L' cu su hq hH' hend hcu hsu
  refine W.widen hcu hsu ?_
  have hfin : ∀ t : State, t.heap = H' → s.WarmedH t.vm → gw_Qc V Q ((as.map (gw_mv V)).toArray) s (.returned (v.map (gw_mv V))) t := fun t ht hW =>
    ⟨⟨v, w', rfl, hq, gw_B_of hW.alike (gw_NW_warm hW hK.2.2.2.2) ht hK hH'⟩, hH'.2.2.2.1.F ht⟩
  have hr := B.returns
  have hlocks := B.notSynchronized
  match v, hend, hfin with
  | none, hend, hfin => exact W.vret B.exec B.bytes (hr.trans hend.2) hfin hH'.2.2.2.1.2.2 hend.1
  | some (.int x), hend, hfin =>
    obtain ⟨h1, ty, h2, h3⟩ := hend
    exact W.zret B.exec B.bytes (hr.trans h2) h3 hfin hH'.2.2.2.1.2.2 h1
  | some (.long x), hend, hfin => exact W.lret B.exec B.bytes (hr.trans hend.2) hfin hH'.2.2.2.1.2.2 hend.1
theorem gw_good (i : Nat) (hi : i < 164) : GoodIn gb_t (gw_mws i) := by
  intro w hw
  have key : w ∈ gb_t := by
    rcases List.mem_cons.mp hw with h | h
    · rw [h]; exact gb_word hi _ List.mem_cons_self
    · exact h
  exact ⟨key, good_of_word (List.mem_filter.mp key).2⟩
theorem gw_blind (V : gw_V) (w : gw_W) (as : List Value) : FrameBlind (va_Pc as (gw_B V w)) := by
  intro a U g mk h
  refine ⟨h.1, ?_⟩
  exact gw_B_of (s := U) (Vm.Alike.refl U.vm) (gw_NW_same rfl h.2.1.2.2.2.2) rfl h.2.1 h.2.2
/-- a call that has run: what the caller goes on from -/
theorem gw_after {V : gw_V} {w : gw_W} {p : Program} {l : Launch} {e : Env} {R : Room} {s : State} {m : MethodId} {args : Array Value} {below : List Frame} {meth : Method} {cd : Code} {H : Heap} {locs : List Loc} {cu su mc ms pc : Nat} {L : Array Slot} {st0 rest : List Value} {QQ : State → Prop} {Q1 : Option Value → gw_W → Prop} {a : Array Value}
    (hr : va_Run p l e R s m args below meth cd H locs cu su mc ms (F0 m pc L st0) rest (gw_Qc V Q1 a) (gw_A V)) (hK : gw_K V s) (hH : gw_H V w s H locs)
    (kk : ∀ (v : Option Value) (w' : gw_W) (H1 : Heap) (locs1 : List Loc), Q1 v w' → gw_H V w' s H1 locs1 → W p l e R s m args below meth cd H1 locs1 (cu + mc) (su + ms) QQ (F0 m (pc + 3) L ((v.map (gw_mv V)).toList ++ rest))) : W p l e R s m args below meth cd H locs cu su QQ (F0 m pc L st0) := by
  intro T hT X
  obtain ⟨v0, st₀, t, T', LL, h0, X', hL, e1, e2, ⟨⟨v, w', hv, hq, hB⟩, hz, hk⟩, st⟩ := hr T hT X
  cases hv
  rw [h0] at hz hk
  have hal : s.vm.Alike t.vm := by rw [← e2]; exact X'.warmed.alike
  have hals : t.vm.Alike s.vm := hal.symm
  obtain ⟨-, g1, g2, g3, g4, g5⟩ := hB
  have hS1 : va_S (gw_A V) s.heap T'.heap (locs ++ LL) := ⟨Nat.le_trans hH.2.2.2.1.1 (by rw [e1]; exact hz), fun q h1 h2 => by rw [e1, hk q (Nat.lt_of_lt_of_le h1 hH.2.2.2.1.1) h2]; exact hH.2.2.2.1.2.1 q h1 h2, fun q hq => by
      rcases List.mem_append.mp hq with h | h
      · exact hH.2.2.2.1.2.2 q h
      · exact hL q h⟩
  have hH1 : gw_H V w' s T'.heap (locs ++ LL) := by
    refine ⟨by rw [e1]; exact g1, fun h => by rw [e1]; exact g2 h, g3, hS1, fun k hk' => ⟨(g5 k hk').1, ?_⟩⟩
    obtain ⟨cell0, z1, -, -, -, -, -, z7⟩ := (hH.2.2.2.2 k hk').2
    have hlt : V.2.2.2 k < s.heap.size := (Array.getElem?_eq_some_iff.mp z1).1
    obtain ⟨cell, y1, y2, y3, y4, y5, y6, y7⟩ := va_T.moved hals (g5 k hk').2
    rw [← e1, hS1.2.1 _ hlt z7] at y1
    exact ⟨cell, y1, y2, y3, y4, y5, y6, y7⟩
  obtain ⟨t2, a1, b1⟩ := kk v w' T'.heap (locs ++ LL) hq hH1 T' rfl X'
  exact ⟨t2, st t2 a1, b1⟩
section GCa
variable {V : gw_V} {i pc a b j : Nat} {ls : List (Nat × Value)} {st as : List Value} {w : gw_W} {cu su : Nat} {Q Q1 : Option Value → gw_W → Prop}
/-- the callee fits the caller's room -/
def gw_fit (i j cu su : Nat) : Prop := gm_f j + 1 ≤ gm_f i ∧ 8 + (gm_L j + 11) + gm_x j ≤ gm_x i ∧ cu + gm_c j ≤ gm_c i ∧ su + gm_s j ≤ gm_s i
theorem gw_ylt {j : Nat} (h : j < 164) : gl_y j = gm_y j := by
  unfold gl_y
  split <;> first | omega | rfl
theorem gw_vm {v : Option Value} {st : List Value} : (v.map (gw_mv V)).toList ++ st.map (gw_mv V) = (v.toList ++ st).map (gw_mv V) := by
  cases v <;> rfl
theorem gs_callS {x : Nat} (hd : gw_D i pc (.invokestatic x) 3 j b) (hj : j < 164) (hk : gm_k j = 0) (hn : as.length = gm_p j) (hl : (lg_sl as).length ≤ gm_L j) (hf : gw_fit i j cu su) (hs : (st.map fun v => v.category).sum ≤ 8) (hC : gw_E V j (0, lv_args 0 as, [], w, 0, 0) Q1)
    (kk : ∀ v w', Q1 v w' → gw_E V i (pc + 3, ls, v.toList ++ st, w', cu + gm_c j, su + gm_s j) Q) : gw_E V i (pc, ls, as.reverse ++ st, w, cu, su) Q := by
  intro p l e R s m args below meth cd QQ H locs L X hH hl0 hret
  obtain ⟨m1, m2, m3, m4, m5, m6⟩ := gw_mk_spec hj
  obtain ⟨hx, hb, hml, hown, hts, hlk, hnm, hr, hfr, hlo, hce, hsl, hK⟩ := id X
  have hM := gw_met l hj hl hC
  have hword := gb_word hj
  have hini := hts _ (hword (.initialized (gm_y j).cls) (by simp [gb_mw]))
  have hsta := hts _ (hword (.static (gm_y j)) (by simp [gb_mw, hk]))
  have hpre : PreS s H (va_Pc (as.map (gw_mv V)) (gw_B V w)) (as.map (gw_mv V)) := ⟨gw_blind V w _, fun U hU hW => ⟨rfl, gw_B_of hW.alike (gw_NW_warm hW hK.2.2.2.2) hU hK hH⟩⟩
  have hstk : (as.reverse ++ st).map (gw_mv V) = (as.map (gw_mv V)).reverse ++ st.map (gw_mv V) := by rw [List.map_append, List.map_reverse]
  have hcl := hd.2
  unfold gc_lk at hcl
  have hrun : va_Run p l e R s m args below meth cd H locs cu su (gm_c j) (gm_s j) (F0 m pc L ((as.reverse ++ st).map (gw_mv V))) (st.map (gw_mv V)) (gw_Qc V Q1 (as.map (gw_mv V)).toArray) (gw_A V) := by
    rcases Bool.or_eq_true_iff.mp hcl with q | q
    · have hlink := hts _ (gl_M_in q)
      rw [gw_ylt hj] at hlink
      exact va_runS (nL := gm_L i) (own := gb_n (gm_o i)) ⟨hx, hb, hml, hown, hts⟩ hM ⟨callB_of (gm_p j) hts (gw_good j hj) rfl rfl rfl hini hlink ⟨m3, m4, m2⟩ ⟨by show gm_f j + 1 ≤ _; have := hf.1; omega, by show 8 + (gm_L j + 11) + gm_x j ≤ _; have := hf.2.1; omega⟩, hsta⟩ hpre rfl (by simp [hn]) hl0.1 hstk (lv_room (by rw [gw_sum]; exact hs)) hd.1 ⟨by have := hf.2.2.1; omega, by have := hf.2.2.2; omega⟩
    · obtain ⟨r, hr1, r1, r2, r3⟩ := gl_N_in q
      have hlink := hK.2.2.2.2.1 r hr1
      rw [r1, r2, r3, gw_ylt hj] at hlink
      exact va_runSN (nL := gm_L i) (own := gb_n (gm_o i)) ⟨hx, hb, hml, hown, hts⟩ hM ⟨va_cnB (gm_p j) hts (gw_good j hj) rfl rfl rfl hlink hini ⟨m3, m4, m2⟩ ⟨by show gm_f j + 1 ≤ _; have := hf.1; omega, by show 8 + (gm_L j + 11) + gm_x j ≤ _; have := hf.2.1; omega⟩, hsta, trivial⟩ hpre rfl (by simp [hn]) hl0.1 hstk (lv_room (by rw [gw_sum]; exact hs)) hd.1 ⟨by have := hf.2.2.1; omega, by have := hf.2.2.2; omega⟩
  refine gw_after hrun hK hH (fun v w' H1 locs1 hq hH1 => ?_)
  rw [gw_vm]
  exact kk v w' hq p l e R s m args below meth cd QQ H1 locs1 L X hH1 hl0 hret
theorem gs_callV {x : Nat} (hd : gw_D i pc (.invokevirtual x) 3 j b) (hj : j < 164) (hk : gm_k j = 1) (ho : gm_o j < 12) (ht : gw_T w a = gm_o j) (hn : as.length = gm_p j) (hl : (lg_sl (.ref a :: as)).length ≤ gm_L j) (hf : gw_fit i j cu su) (hs : (st.map fun v => v.category).sum ≤ 8) (hC : gw_E V j (0, lv_args 0 (.ref a :: as), [], w, 0, 0) Q1)
    (kk : ∀ v w', Q1 v w' → gw_E V i (pc + 3, ls, v.toList ++ st, w', cu + gm_c j, su + gm_s j) Q) : gw_E V i (pc, ls, as.reverse ++ .ref a :: st, w, cu, su) Q := by
  intro p l e R s m args below meth cd QQ H locs L X hH hl0 hret
  obtain ⟨m1, m2, m3, m4, m5, m6⟩ := gw_mk_spec hj
  obtain ⟨hx, hb, hml, hown, hts, hlk, hnm, hr, hfr, hlo, hce, hsl, hK⟩ := id X
  have hM := gw_met l hj hl hC
  have hword := gb_word hj
  have hini := hts _ (hword (.initialized (gm_y j).cls) (by simp [gb_mw]))
  have hins := hts _ (hword (.instanceMethod (gm_y j)) (by simp [gb_mw, hk]))
  have hsel := hts _ (hword (.selects (gm_y j).cls (gm_y j) (gm_y j)) (by simp [gb_mw, hk]))
  have he := gw_at hH ht (by omega)
  rw [gw_cell_obj ht ho] at he
  have hrecv := va_recv hK.1 hH.1 (gb_cl_get ho) he
  rw [← m5] at hrecv
  have hpre : PreV s H (gm_y j).cls (gw_ad V a) (va_Pc ((.ref a :: as).map (gw_mv V)) (gw_B V w)) (as.map (gw_mv V)) := ⟨gw_blind V w _, hrecv, fun U hU hW => ⟨rfl, gw_B_of hW.alike (gw_NW_warm hW hK.2.2.2.2) hU hK hH⟩⟩
  have hstk : (as.reverse ++ .ref a :: st).map (gw_mv V) = (as.map (gw_mv V)).reverse ++ .ref (gw_ad V a) :: st.map (gw_mv V) := by rw [List.map_append, List.map_reverse]; rfl
  have hcl := hd.2
  unfold gc_lk at hcl
  have hrun : va_Run p l e R s m args below meth cd H locs cu su (gm_c j) (gm_s j) (F0 m pc L ((as.reverse ++ .ref a :: st).map (gw_mv V))) (st.map (gw_mv V)) (gw_Qc V Q1 (Value.ref (gw_ad V a) :: as.map (gw_mv V)).toArray) (gw_A V) := by
    rcases Bool.or_eq_true_iff.mp hcl with q | q
    · have hlink := hts _ (gl_M_in q)
      rw [gw_ylt hj] at hlink
      exact va_runV (nL := gm_L i) (own := gb_n (gm_o i)) (C := (gm_y j).cls) ⟨hx, hb, hml, hown, hts⟩ hM ⟨callB_of (gm_p j) hts (gw_good j hj) rfl rfl rfl hini hlink ⟨m3, m4, m2⟩ ⟨by show gm_f j + 1 ≤ _; have := hf.1; omega, by show 8 + (gm_L j + 11) + gm_x j ≤ _; have := hf.2.1; omega⟩, hins, hsel⟩ hpre rfl (by simp [hn]) hl0.1 hstk (lv_room (by rw [gw_sum]; exact hs)) hd.1 ⟨by have := hf.2.2.1; omega, by have := hf.2.2.2; omega⟩
    · obtain ⟨r, hr1, r1, r2, r3⟩ := gl_N_in q
      have hlink := hK.2.2.2.2.1 r hr1
      rw [r1, r2, r3, gw_ylt hj] at hlink
      exact va_runVN (nL := gm_L i) (own := gb_n (gm_o i)) (C := (gm_y j).cls) ⟨hx, hb, hml, hown, hts⟩ hM ⟨va_cnB (gm_p j) hts (gw_good j hj) rfl rfl rfl hlink hini ⟨m3, m4, m2⟩ ⟨by show gm_f j + 1 ≤ _; have := hf.1; omega, by show 8 + (gm_L j + 11) + gm_x j ≤ _; have := hf.2.1; omega⟩, hins, hsel⟩ hpre rfl (by simp [hn]) hl0.1 hstk (lv_room (by rw [gw_sum]; exact hs)) hd.1 ⟨by have := hf.2.2.1; omega, by have := hf.2.2.2; omega⟩
  refine gw_after hrun hK hH (fun v w' H1 locs1 hq hH1 => ?_)
  rw [gw_vm]
  exact kk v w' hq p l e R s m args below meth cd QQ H1 locs1 L X hH1 hl0 hret
theorem gs_callI {x : Nat} (hd : gw_D i pc (.invokespecial x) 3 j b) (hj : j < 164) (hk : gm_k j = 2) (hr0 : gm_r j = none) (hn : as.length = gm_p j) (hl : (lg_sl (.ref a :: as)).length ≤ gm_L j) (hf : gw_fit i j cu su) (hs : (st.map fun v => v.category).sum ≤ 8) (hC : gw_E V j (0, lv_args 0 (.ref a :: as), [], w, 0, 0) Q1)
    (kk : ∀ v w', Q1 v w' → gw_E V i (pc + 3, ls, v.toList ++ st, w', cu + gm_c j, su + gm_s j) Q) : gw_E V i (pc, ls, as.reverse ++ .ref a :: st, w, cu, su) Q := by
  intro p l e R s m args below meth cd QQ H locs L X hH hl0 hret
  obtain ⟨m1, m2, m3, m4, m5, m6⟩ := gw_mk_spec hj
  obtain ⟨hx, hb, hml, hown, hts, hlk, hnm, hr, hfr, hlo, hce, hsl, hK⟩ := id X
  have hM := gw_met l hj hl hC
  have hword := gb_word hj
  have hini := hts _ (hword (.initialized (gm_y j).cls) (by simp [gb_mw]))
  have hins := hts _ (hword (.instanceMethod (gm_y j)) (by simp [gb_mw, hk]))
  have hpre : PreS s H (va_Pc ((.ref a :: as).map (gw_mv V)) (gw_B V w)) (.ref (gw_ad V a) :: as.map (gw_mv V)) := ⟨gw_blind V w _, fun U hU hW => ⟨rfl, gw_B_of hW.alike (gw_NW_warm hW hK.2.2.2.2) hU hK hH⟩⟩
  have hstk : (as.reverse ++ .ref a :: st).map (gw_mv V) = (as.map (gw_mv V)).reverse ++ .ref (gw_ad V a) :: st.map (gw_mv V) := by rw [List.map_append, List.map_reverse]; rfl
  have hcl := hd.2
  unfold gc_lk at hcl
  have hgood := gw_good j hj
  have hmw : gw_mws j = Cond.code (gm_y j) (gm_b j) (gm_L j) none :: gb_t := by unfold gw_mws; rw [hr0]
  have hrun : va_Run p l e R s m args below meth cd H locs cu su (gm_c j) (gm_s j) (F0 m pc L ((as.reverse ++ .ref a :: st).map (gw_mv V))) (st.map (gw_mv V)) (gw_Qc V Q1 (Value.ref (gw_ad V a) :: as.map (gw_mv V)).toArray) (gw_A V) := by
    rcases Bool.or_eq_true_iff.mp hcl with q | q
    · have hlink := hts _ (gl_M_in q)
      rw [gw_ylt hj] at hlink
      exact va_runI (nL := gm_L i) (own := gb_n (gm_o i)) ⟨hx, hb, hml, hown, hts⟩ hM ⟨callB_of (gm_p j) hts hgood hmw rfl rfl hini hlink ⟨m3, m4, m2⟩ ⟨by show gm_f j + 1 ≤ _; have := hf.1; omega, by show 8 + (gm_L j + 11) + gm_x j ≤ _; have := hf.2.1; omega⟩, m6.mp hk, hins⟩ hpre rfl (by simp [hn]) hl0.1 hstk (lv_room (by rw [gw_sum]; exact hs)) hd.1 ⟨by have := hf.2.2.1; omega, by have := hf.2.2.2; omega⟩
    · obtain ⟨r, hr1, r1, r2, r3⟩ := gl_N_in q
      have hlink := hK.2.2.2.2.1 r hr1
      rw [r1, r2, r3, gw_ylt hj] at hlink
      exact va_runIN (nL := gm_L i) (own := gb_n (gm_o i)) ⟨hx, hb, hml, hown, hts⟩ hM ⟨va_cnB (gm_p j) hts hgood hmw rfl rfl hlink hini ⟨m3, m4, m2⟩ ⟨by show gm_f j + 1 ≤ _; have := hf.1; omega, by show 8 + (gm_L j + 11) + gm_x j ≤ _; have := hf.2.1; omega⟩, m6.mp hk, hins⟩ hpre rfl (by simp [hn]) hl0.1 hstk (lv_room (by rw [gw_sum]; exact hs)) hd.1 ⟨by have := hf.2.2.1; omega, by have := hf.2.2.2; omega⟩
  refine gw_after hrun hK hH (fun v w' H1 locs1 hq hH1 => ?_)
  rw [gw_vm]
  exact kk v w' hq p l e R s m args below meth cd QQ H1 locs1 L X hH1 hl0 hret
end GCa
end
section
/-! ===== the rules: cells that are made ===== -/
theorem gw_T_app {w w' : gw_W} {ex : List (Nat × Nat)} (h : w'.1 = w.1 ++ ex) {k : Nat} (hk : k < w.1.length) : gw_T w' k = gw_T w k ∧ gw_N w' k = gw_N w k := by
  unfold gw_T gw_N
  rw [h, List.getD_eq_getElem?_getD, List.getD_eq_getElem?_getD, List.getElem?_append_left hk]
  exact ⟨rfl, rfl⟩
theorem gw_cell_app {V : gw_V} {w w' : gw_W} {ex : List (Nat × Nat)} (h : w'.1 = w.1 ++ ex) {k : Nat} (hk : k < w.1.length) (h1 : w'.2.1 k = w.2.1 k) (h2 : w'.2.2.1 k = w.2.2.1 k) (h3 : w'.2.2.2 k = w.2.2.2 k) : gw_cell V w' k = gw_cell V w k := by
  have e : gw_fv V w' (gw_T w k) k = gw_fv V w (gw_T w k) k := by
    funext j
    unfold gw_fv
    rw [h1, h2, h3]
  unfold gw_cell gw_fs
  rw [(gw_T_app h hk).1, (gw_T_app h hk).2, e, h1, h3]
theorem gw_H_push {V : gw_V} {w w' : gw_W} {s : State} {H H1 : Heap} {locs : List Loc} {ex : List (Nat × Nat)} (hH : gw_H V w s H locs) (hn : w.1.length < 145) (hK : V.2.2.1 ≤ s.heap.size) (h : w'.1 = w.1 ++ ex) (hs : ∀ k, k < w.1.length → w'.2.1 k = w.2.1 k ∧ w'.2.2.1 k = w.2.2.1 k ∧ w'.2.2.2 k = w.2.2.2 k) (hz : H1.size = H.size + ex.length) (ho : ∀ q : Nat, q < H.size → H1[q]? = H[q]?)
    (hx : ∀ k, w.1.length ≤ k → k < w.1.length + ex.length → va_at V.1 gb_cl (gw_ad V k, gw_cell V w' k) H1) : gw_H V w' s H1 locs := by
  obtain ⟨h1, h2, h3, h4, h5⟩ := hH
  have hsz := h2 hn
  refine ⟨fun k q hk => ?_, fun _ => by rw [hz, hsz, h, List.length_append]; omega, by rw [h, List.length_append]; omega, ⟨by rw [hz]; exact Nat.le_trans h4.1 (Nat.le_add_right _ _), fun q g1 g2 => by rw [ho q (Nat.lt_of_lt_of_le g1 h4.1)]; exact h4.2.1 q g1 g2, h4.2.2⟩, fun k hk => ?_⟩
  · obtain ⟨g1, rfl⟩ := gw_ws_at hk
    by_cases hl : k + 3 < w.1.length
    · have hg := gw_ws_get (V := V) (w := w) (a := k + 3) (by omega) hl
      have hv := h1 _ _ hg
      have e1 : gw_ad V (k + 3) = V.2.2.1 + k := by unfold gw_ad; rw [if_neg (by omega)]; omega
      rw [e1] at hv
      rw [gw_cell_app h hl (hs _ hl).1 (hs _ hl).2.1 (hs _ hl).2.2]
      exact hv.kept (ho _ (by rw [hsz]; show V.2.2.1 + k < _; omega))
    · have e1 : gw_ad V (k + 3) = V.2.2.1 + k := by unfold gw_ad; rw [if_neg (by omega)]; omega
      have := hx (k + 3) (by omega) (by rw [h, List.length_append] at g1; exact g1)
      rw [e1] at this
      exact this
  · have hl : k < w.1.length := by omega
    rw [(gw_T_app h hl).1, (gw_T_app h hl).2, (hs k hl).1]
    exact h5 k hk
theorem gl_C_in {o x t : Nat} (h : gl_C.any (fun r => r.1 == o && (r.2.1 == x && r.2.2.1 == t)) = true) : Cond.classLink (gb_n o) x (gl_cn t) ∈ gb_t := by
  obtain ⟨r, hr, h⟩ := List.any_eq_true.mp h
  simp only [Bool.and_eq_true, beq_iff_eq] at h
  obtain ⟨rfl, rfl, rfl⟩ := h
  exact gb_tin (gb_at _ (List.all_eq_true.mp gl_C_ok r hr)) rfl
set_option maxRecDepth 100000 in
theorem gb_new : ∀ c, c < 12 → (Cond.instantiable (gb_n c) (gb_K c) ∈ lw_tbl ∧ goodWord (.instantiable (gb_n c) (gb_K c)) = true) ∧ (Cond.initialized (gb_n c) ∈ lw_tbl ∧ goodWord (.initialized (gb_n c)) = true) := by decide +kernel
theorem gb_dflt : ∀ c, c < 12 → ∀ k, k < gb_K c → defaultValue (gb_ty c k) = (if gb_s c k = 0 then .int 0 else if gb_s c k = 1 then .long 0 else .null) := by decide +kernel
/-- a cell's slots as they are born -/
def gw_z {α : Type} (f : Nat → Nat → α) (n m : Nat) (z : α) : Nat → Nat → α := fun p q => if n ≤ p ∧ p < n + m then z else f p q
theorem gw_z_lt {α : Type} {f : Nat → Nat → α} {n m k : Nat} {z : α} (h : k < n) : gw_z f n m z k = f k := by
  funext q
  unfold gw_z
  rw [if_neg (by omega)]
theorem gw_z_in {α : Type} {f : Nat → Nat → α} {n m k : Nat} {z : α} (h : n ≤ k) (h2 : k < n + m) : gw_z f n m z k = fun _ => z := by
  funext q
  unfold gw_z
  rw [if_pos ⟨h, h2⟩]
theorem gw_T_end {sh : List (Nat × Nat)} {t n : Nat} {I : Nat → Nat → Int32} {J : Nat → Nat → Int64} {F : Nat → Nat → Nat} : gw_T (sh ++ [(t, n)], I, J, F) sh.length = t ∧ gw_N (sh ++ [(t, n)], I, J, F) sh.length = n := by
  have e : (sh ++ [(t, n)]).getD sh.length (99, 0) = (t, n) := by
    rw [List.getD_eq_getElem?_getD, List.getElem?_append_right (Nat.le_refl _), Nat.sub_self]
    rfl
  exact ⟨congrArg Prod.fst e, congrArg Prod.snd e⟩
section GA
variable {V : gw_V} {i pc a b c k : Nat} {ls : List (Nat × Value)} {st : List Value} {sh : List (Nat × Nat)} {I : Nat → Nat → Int32} {J : Nat → Nat → Int64} {F : Nat → Nat → Nat} {cu su : Nat} {Q : Option Value → gw_W → Prop}
theorem gs_new {x : Nat} (hd : gw_D i pc (.new x) 3 c b) (hc : c < 12) (hn : sh.length < 145) (hcu : cu + 1 ≤ gm_c i) (hsu : su + gb_K c ≤ gm_s i)
    (kk : gw_E V i (pc + 3, ls, .ref sh.length :: st, (sh ++ [(c, gb_K c)], gw_z I sh.length 1 0, gw_z J sh.length 1 0, gw_z F sh.length 1 0), cu + 1, su + gb_K c) Q) : gw_E V i (pc, ls, st, (sh, I, J, F), cu, su) Q := by
  intro p l e R s m args below meth cd QQ H locs L X hH hl hret
  obtain ⟨hx, hb, hml, hown, hts, hlk, hnm, hr, hfr, hlo, hce, hsl, hK⟩ := id X
  have hcl := hd.2
  unfold gc_lk at hcl
  rw [if_neg (by omega)] at hcl
  have hlink := hts _ (gl_C_in hcl)
  have hcn : gl_cn c = gb_n c := by unfold gl_cn; rw [if_neg (by omega)]
  rw [hcn] at hlink
  obtain ⟨⟨g1, g2⟩, g3, g4⟩ := gb_new c hc
  have hKn := hK.1.1 c _ (gb_cl_get hc)
  have hsz : H.size = V.2.2.1 + (sh.length - 3) := hH.2.1 hn
  have had : gw_ad V sh.length = H.size := by
    have h3 : 3 ≤ sh.length := hH.2.2.1
    unfold gw_ad
    rw [if_neg (by omega), hsz]
  refine W.newcK hx hb hown hlink (hts _ (gb_tin g1 g2)) (hts _ (gb_tin g3 g4)) rfl hd.1 (by show cu + 1 ≤ _; omega) (by show su + gb_K c ≤ _; omega) hKn.2.1 rfl fun H1 kC hkC e1 z1 o1 => ?_
  have hborn := u_born (gb_ty c) hts (gb_lay hc) hKn hkC e1 (gb_tok c hc)
  have hH1 : gw_H V (sh ++ [(c, gb_K c)], gw_z I sh.length 1 0, gw_z J sh.length 1 0, gw_z F sh.length 1 0) s H1 locs := by
    refine gw_H_push (w := (sh, I, J, F)) hH hn hK.2.1 rfl (fun k hk => ⟨gw_z_lt hk, gw_z_lt hk, gw_z_lt hk⟩) z1 o1 (fun k hk1 hk2 => ?_)
    have hk : k = sh.length := by
      have : k < sh.length + 1 := hk2
      have : sh.length ≤ k := hk1
      omega
    subst hk
    rw [gw_cell_obj (gw_T_end).1 hc, had]
    refine ⟨_, gb_cl_get hc, hborn.to (fun j hj => ?_)⟩
    unfold vp_V
    rw [List.getD_eq_getElem?_getD, gw_fs_get hj]
    show _ = gw_fv V _ c sh.length j
    rw [gb_dflt c hc j hj]
    unfold gw_fv
    show _ = if _ then Value.int (gw_z I sh.length 1 0 sh.length j) else if _ then Value.long (gw_z J sh.length 1 0 sh.length j) else va_rf (gw_ro V (gw_z F sh.length 1 0 sh.length j))
    rw [gw_z_in (Nat.le_refl _) (by omega), gw_z_in (Nat.le_refl _) (by omega), gw_z_in (Nat.le_refl _) (by omega)]
    rfl
  have := kk p l e R s m args below meth cd QQ H1 locs L X hH1 hl hret
  show W _ _ _ _ _ _ _ _ _ _ _ _ _ _ _ { (F0 m pc L (st.map (gw_mv V))) with pc := pc + 3, stack := .ref H.size :: st.map (gw_mv V) }
  rw [← had]
  exact this
theorem gs_newarray {n : Int32} {N t : Nat} {aty : ArrayType} {ty : FieldType} (hd : gw_D i pc (.newarray aty) 2 t b) (hty : (aty = .int ∧ ty = .int ∧ t = 12) ∨ (aty = .boolean ∧ ty = .boolean ∧ t = 13)) (hsh : sh.length < 145) (hn : ¬ n < 0) (hN : n.toNatClampNeg = N) (hb1 : N * 4 ≤ 536870912) (hcu : cu + 1 ≤ gm_c i) (hsu : su + N ≤ gm_s i)
    (kk : gw_E V i (pc + 2, ls, .ref sh.length :: st, (sh ++ [(t, N)], gw_z I sh.length 1 0, gw_z J sh.length 1 0, gw_z F sh.length 1 0), cu + 1, su + N) Q) : gw_E V i (pc, ls, .int n :: st, (sh, I, J, F), cu, su) Q := by
  intro p l e R s m args below meth cd QQ H locs L X hH hl hret
  obtain ⟨hx, hb, hml, hown, hts, hlk, hnm, hr, hfr, hlo, hce, hsl, hK⟩ := id X
  have hsz : H.size = V.2.2.1 + (sh.length - 3) := hH.2.1 hsh
  have had : gw_ad V sh.length = H.size := by
    have h3 : 3 ≤ sh.length := hH.2.2.1
    unfold gw_ad
    rw [if_neg (by omega), hsz]
  have harr : (Cond.arrayClass (newarray.typeOf aty)).before args s = true := by
    rcases hty with ⟨rfl, -, -⟩ | ⟨rfl, -, -⟩
    · exact hts _ (gl_own_in (by decide +kernel))
    · exact hts _ (gl_own_in (by decide +kernel))
  refine va_newaK hx hb harr rfl hd.1 rfl hn hN ?_ (by show cu + 1 ≤ _; omega) (by show su + N ≤ _; omega) rfl fun H1 cA e1 z1 o1 hAr hNm => ?_
  · rcases hty with ⟨rfl, -, -⟩ | ⟨rfl, -, -⟩
    · exact hb1
    · show N * 1 ≤ _
      omega
  have hH1 : gw_H V (sh ++ [(t, N)], gw_z I sh.length 1 0, gw_z J sh.length 1 0, gw_z F sh.length 1 0) s H1 locs := by
    refine gw_H_push (w := (sh, I, J, F)) hH hsh hK.2.1 rfl (fun k hk => ⟨gw_z_lt hk, gw_z_lt hk, gw_z_lt hk⟩) z1 o1 (fun k hk1 hk2 => ?_)
    have hk : k = sh.length := by
      have : k < sh.length + 1 := hk2
      have : sh.length ≤ k := hk1
      omega
    subst hk
    rcases hty with ⟨rfl, -, rfl⟩ | ⟨rfl, -, rfl⟩
    · rw [gw_cell_I (gw_T_end).1, had]
      have hcA : V.2.1 0 = cA := Option.some.inj ((hK.1.2 0 _ rfl).2.symm.trans hNm)
      show H1[H.size]? = some (vp_cell (V.2.1 0) (gw_N _ sh.length, .inl (gw_z I sh.length 1 0 sh.length)))
      rw [gw_T_end.2, gw_z_in (Nat.le_refl _) (by omega), hcA]
      exact e1
    · rw [gw_cell_Z (gw_T_end).1, had]
      have hcA : V.2.1 1 = cA := Option.some.inj ((hK.1.2 1 _ rfl).2.symm.trans hNm)
      show H1[H.size]? = some (vp_cell (V.2.1 1) (gw_N _ sh.length, .inl (gw_z I sh.length 1 0 sh.length)))
      rw [gw_T_end.2, gw_z_in (Nat.le_refl _) (by omega), hcA]
      exact e1
  have := kk p l e R s m args below meth cd QQ H1 locs L X hH1 hl hret
  show W _ _ _ _ _ _ _ _ _ _ _ _ _ _ _ { (F0 m pc L ((.int n :: st).map (gw_mv V))) with pc := pc + 2, stack := .ref H.size :: st.map (gw_mv V) }
  rw [← had]
  exact this
theorem gs_anew {x : Nat} {n : Int32} {N : Nat} (hd : gw_D i pc (.anewarray x) 3 14 b) (hsh : sh.length < 145) (hn : ¬ n < 0) (hN : n.toNatClampNeg = N) (hb1 : N * 4 ≤ 536870912) (hcu : cu + 1 ≤ gm_c i) (hsu : su + N ≤ gm_s i)
    (kk : gw_E V i (pc + 3, ls, .ref sh.length :: st, (sh ++ [(14, N)], gw_z I sh.length 1 0, gw_z J sh.length 1 0, gw_z F sh.length 1 0), cu + 1, su + N) Q) : gw_E V i (pc, ls, .int n :: st, (sh, I, J, F), cu, su) Q := by
  intro p l e R s m args below meth cd QQ H locs L X hH hl hret
  obtain ⟨hx, hb, hml, hown, hts, hlk, hnm, hr, hfr, hlo, hce, hsl, hK⟩ := id X
  subst hN
  have hsz : H.size = V.2.2.1 + (sh.length - 3) := hH.2.1 hsh
  have had : gw_ad V sh.length = H.size := by
    have h3 : 3 ≤ sh.length := hH.2.2.1
    unfold gw_ad
    rw [if_neg (by omega), hsz]
  have hcl := hd.2
  unfold gc_lk at hcl
  rw [if_pos rfl] at hcl
  have hlink : (Cond.classLink (gb_n (gm_o i)) x "MorningBill$Morning").before args s = true := hts _ (gl_C_in hcl)
  refine W.anew hx hb hown hlink (va_AO.use hK.2.2.2.2.2.2.1) rfl hd.1 rfl hn hb1 (by show cu + 1 ≤ _; omega) (by show su + _ ≤ _; omega) fun cA kA comp f1 f2 f3 f4 => ?_
  generalize hH1 : H.push ({ cls := cA, slots := Array.replicate n.toNatClampNeg .null, vm := .none } : Cell) = H1
  have z1 : H1.size = H.size + 1 := by rw [← hH1, Array.size_push]
  have e1 : H1[H.size]? = some (arrV cA n.toNatClampNeg (fun _ => .null)) := by rw [← hH1, Array.getElem?_push_size, ← arrV_new]
  have o1 : ∀ q : Nat, q < H.size → H1[q]? = H[q]? := fun q hq => by rw [← hH1, Array.getElem?_push, if_neg (Nat.ne_of_lt hq)]
  have hH1 : gw_H V (sh ++ [(14, n.toNatClampNeg)], gw_z I sh.length 1 0, gw_z J sh.length 1 0, gw_z F sh.length 1 0) s H1 locs := by
    refine gw_H_push (w := (sh, I, J, F)) hH hsh hK.2.1 rfl (fun k hk => ⟨gw_z_lt hk, gw_z_lt hk, gw_z_lt hk⟩) z1 o1 (fun k hk1 hk2 => ?_)
    have hk : k = sh.length := by
      have : k < sh.length + 1 := hk2
      have : sh.length ≤ k := hk1
      omega
    subst hk
    rw [gw_cell_M (gw_T_end).1, had]
    have hcA : V.2.1 2 = cA := by
      obtain ⟨kA', comp', -, -, -, q4⟩ := (hK.1.2 2 _ rfl).2
      exact Option.some.inj (q4.symm.trans f1)
    show H1[H.size]? = some (vp_cell (V.2.1 2) (gw_N _ sh.length, .inr (.inr (.inr (.inr (fun j => gw_ro V (gw_z F sh.length 1 0 sh.length j)))))))
    rw [gw_T_end.2, gw_z_in (Nat.le_refl _) (by omega), hcA]
    exact e1
  have := kk p l e R s m args below meth cd QQ H1 locs L X hH1 hl hret
  show W _ _ _ _ _ _ _ _ _ _ _ _ _ _ _ { (F0 m pc L ((.int n :: st).map (gw_mv V))) with pc := pc + 3, stack := .ref H.size :: st.map (gw_mv V) }
  rw [← had]
  exact this
theorem gs_aastore {j : Int32} {v : Nat} (hd : gw_D i pc .aastore 1 b c) (ht : gw_T (sh, I, J, F) a = 14) (hv : gw_T (sh, I, J, F) v = 3) (hv0 : v ≠ 0) (hin : vp_in j (gw_N (sh, I, J, F) a)) (kk : ∀ F2, F2 = gw_uR F a j.toNatClampNeg v → gw_E V i (pc + 1, ls, st, (sh, I, J, F2), cu, su) Q) : gw_E V i (pc, ls, .ref v :: .int j :: .ref a :: st, (sh, I, J, F), cu, su) Q := by
  intro p l e R s m args below meth cd QQ H locs L X hH hl hret
  have hK := X.2.2.2.2.2.2.2.2.2.2.2.2
  have he := gw_at hH ht (by omega)
  rw [gw_cell_M ht] at he
  have hev := gw_at hH hv (by omega)
  rw [gw_cell_obj hv (by omega)] at hev
  have hlt : j.toNatClampNeg < gw_N (sh, I, J, F) a := Nat.not_le.mp fun q => hin (Or.inr q)
  have h0 : ¬ j < 0 := fun q => hin (Or.inl q)
  obtain ⟨r', hr', cellV, g1, g2, g3, -⟩ := hH.1 _ _ hev
  have hcls := (hK.1.1 3 _ (gb_cl_get (by omega))).2
  obtain ⟨kA, comp, k1, k2, k3, -⟩ := (hK.1.2 2 _ rfl).2
  have hcomp : comp = V.1.1 3 := Option.some.inj (k3.symm.trans hcls.1)
  subst hcomp
  obtain ⟨kC, hkC, hkk⟩ := id hcls.2
  refine W.aast X.1 X.2.1 (hH.1 _ _ he) (fun q h => by cases h) (fun h => by cases h) k1 k2 rfl hkC ⟨h0, by show _ < (arrV _ _ _).slots.size; rw [arrV_size]; exact hlt⟩ g1 (fun q h => by rw [g3] at h; cases h) (by rw [g2]; exact hkC) (by rw [g2]; exact va_assign hcls) rfl rfl hd.1 fun H1 e1 z oq => ?_
  refine kk _ rfl p l e R s m args below meth cd QQ H1 _ L X ?_ hl hret
  have hD : va_D (gw_A V) (gw_ws V (sh, I, J, F)) := gw_ws_D
  refine gw_H_set (w' := (sh, I, J, gw_uR F a j.toNatClampNeg v)) hH ht (by omega) rfl (fun q hq => gw_cell_ext rfl rfl rfl (gw_uR_o hq)) (fun q hq => rfl) (gw_cell_M (w := (sh, I, J, gw_uR F a j.toNatClampNeg v)) ht) (hH.1.set hD he ?_ oq) (fun _ => z) (hH.2.2.2.1.put z oq (hD.2 _ _ he))
  show H1[gw_ad V a]? = some (vp_cell _ _)
  rw [e1]
  rw [vp_cell_q, vp_cell_q, arrV_store]
  congr 2
  funext q
  show updV _ _ _ q = va_rf (gw_ro V (gw_uR F a j.toNatClampNeg v a q))
  by_cases hq : q = j.toNatClampNeg
  · subst hq
    simp [updV, gw_uR, gw_ro, hv0, va_rf]
  · simp [updV, gw_uR, hq]
end GA
end
section
/-! ===== the world that stands behind the two constructors: the script has n ints ===== -/
def gs_s0 : List (Nat × Nat) := [
  (16, 7), (16, 9), (10, 12), (8, 2), (12, 48), (7, 10), (12, 8), (12, 6), (12, 6), (12, 6), (12, 6), (3, 4), (12, 10), (3, 4),
  (12, 10), (0, 3), (14, 14), (3, 4), (12, 10), (3, 4), (12, 10), (3, 4), (12, 10), (3, 4), (12, 10), (3, 4), (12, 10), (3, 4),
  (12, 10), (3, 4), (12, 10), (3, 4), (12, 10), (3, 4), (12, 10), (3, 4), (12, 10), (3, 4), (12, 10), (3, 4), (12, 10), (3, 4),
  (12, 10), (3, 4), (12, 10), (6, 2), (14, 2), (13, 2), (3, 4), (12, 10), (3, 4), (12, 10), (5, 7), (12, 6), (12, 6), (13, 6),
  (9, 13), (15, 9), (12, 10), (12, 10), (12, 10), (12, 10), (12, 10), (12, 10), (12, 10), (12, 10), (12, 10), (15, 9), (12, 6), (12, 6),
  (12, 6), (12, 6), (12, 6), (12, 6), (12, 6), (12, 6), (12, 6), (12, 9), (12, 9), (12, 9), (1, 3), (2, 4), (12, 64), (12, 64),
  (4, 8), (15, 9), (12, 48), (12, 48), (12, 48), (12, 48), (12, 48), (12, 48), (12, 48), (12, 48), (12, 48), (15, 9), (12, 48), (12, 48),
  (12, 48), (12, 48), (12, 48), (12, 48), (12, 48), (12, 48), (12, 48), (15, 9), (12, 9), (12, 9), (12, 9), (12, 9), (12, 9), (12, 9),
  (12, 9), (12, 9), (12, 9), (15, 9), (12, 9), (12, 9), (12, 9), (12, 9), (12, 9), (12, 9), (12, 9), (12, 9), (12, 9), (11, 37),
  (12, 8), (12, 8), (12, 24), (12, 4), (12, 8), (12, 24), (12, 52), (12, 48), (12, 10), (12, 182), (12, 64), (12, 6), (12, 6), (13, 6),
  (12, 100), (12, 100), (13, 2), (12, 26)]
def gs_s (n : Nat) : List (Nat × Nat) := (16, n) :: gs_s0
def gs_rl : List (Nat × (Nat → Nat)) := [
  (3, fun k => [4, 6, 12, 14, 16, 46, 53, 57, 81, 82, 85, 0].getD k 0), (4, fun k => [5, 0].getD k 0), (6, fun k => [0, 0, 0, 0, 0, 7, 8, 9, 10, 11].getD k 0), (12, fun _ => 13),
  (14, fun _ => 15), (16, fun k => [17, 0, 0].getD k 0), (17, fun k => 18 + 2 * k), (18, fun _ => 19),
  (20, fun _ => 21), (22, fun _ => 23), (24, fun _ => 25), (26, fun _ => 27),
  (28, fun _ => 29), (30, fun _ => 31), (32, fun _ => 33), (34, fun _ => 35),
  (36, fun _ => 37), (38, fun _ => 39), (40, fun _ => 41), (42, fun _ => 43),
  (44, fun _ => 45), (46, fun k => [47, 48].getD k 0), (47, fun k => 49 + 2 * k), (49, fun _ => 50),
  (51, fun _ => 52), (53, fun k => [54, 55, 56, 0, 0, 0, 0].getD k 0), (57, fun k => [6, 58, 68, 78, 79, 80, 0, 0, 0, 0, 0, 0, 0].getD k 0), (58, fun k => 59 + k),
  (68, fun k => 69 + k), (81, fun k => [57, 0, 0].getD k 0), (82, fun k => [6, 57, 83, 84].getD k 0), (85, fun k => [6, 57, 86, 96, 106, 116, 0, 0].getD k 0),
  (86, fun k => 87 + k), (96, fun k => 97 + k), (106, fun k => 107 + k), (116, fun k => 117 + k),
  (126, fun k => [0, 0, 0, 0, 0, 127, 128, 129, 130, 131, 132, 0, 0, 133, 134, 0, 0, 0, 135, 0, 0, 136, 0, 0, 137, 0, 138, 139, 140, 0, 0, 0, 141, 142, 0, 143, 144].getD k 0)]
def gs_rk : List (Nat × (Nat → Nat)) → Nat → Nat → Nat
  | [], _, _ => 0
  | q :: t, a, k => match Nat.beq a q.1 with
    | true => q.2 k
    | false => gs_rk t a k
def gs_r : Nat → Nat → Nat := gs_rk gs_rl
abbrev gS (n : Nat) (I : Nat → Nat → Int32) (J : Nat → Nat → Int64) : gw_W := (gs_s n, I, J, gs_r)
theorem gs_sl {n : Nat} : 145 ≤ (gs_s n).length := by show 145 ≤ gs_s0.length + 1; decide +kernel
theorem vin {j : Int32} {n : Nat} (h0 : 0 ≤ j) (h1 : j < Int32.ofNat n) (h2 : n < 2 ^ 31) : vp_in j n := by
  unfold vp_in
  have e1 := Int32.le_iff_toInt_le.mp h0
  have e2 := Int32.lt_iff_toInt_lt.mp h1
  rw [Int32.toInt_ofNat_of_lt h2] at e2
  rw [Int32.toInt_zero] at e1
  rintro (q | q)
  · have := Int32.lt_iff_toInt_lt.mp q
    rw [Int32.toInt_zero] at this
    omega
  · have q : n ≤ j.toInt.toNat := q
    omega
end
section
theorem gL_0 : gm_L 0 = 2 := rfl
theorem gL_1 : gm_L 1 = 1 := rfl
theorem gL_2 : gm_L 2 = 2 := rfl
theorem gL_3 : gm_L 3 = 2 := rfl
theorem gL_4 : gm_L 4 = 2 := rfl
theorem gL_5 : gm_L 5 = 4 := rfl
theorem gL_6 : gm_L 6 = 5 := rfl
theorem gL_7 : gm_L 7 = 3 := rfl
theorem gL_8 : gm_L 8 = 3 := rfl
theorem gL_9 : gm_L 9 = 4 := rfl
theorem gL_10 : gm_L 10 = 5 := rfl
theorem gL_11 : gm_L 11 = 8 := rfl
theorem gL_12 : gm_L 12 = 1 := rfl
theorem gL_13 : gm_L 13 = 1 := rfl
theorem gL_14 : gm_L 14 = 2 := rfl
theorem gL_15 : gm_L 15 = 2 := rfl
theorem gL_16 : gm_L 16 = 3 := rfl
theorem gL_17 : gm_L 17 = 6 := rfl
theorem gL_18 : gm_L 18 = 7 := rfl
theorem gL_19 : gm_L 19 = 11 := rfl
theorem gL_20 : gm_L 20 = 3 := rfl
theorem gL_21 : gm_L 21 = 4 := rfl
theorem gL_22 : gm_L 22 = 2 := rfl
theorem gL_23 : gm_L 23 = 1 := rfl
theorem gL_24 : gm_L 24 = 4 := rfl
theorem gL_25 : gm_L 25 = 5 := rfl
theorem gL_26 : gm_L 26 = 5 := rfl
theorem gL_27 : gm_L 27 = 2 := rfl
theorem gL_28 : gm_L 28 = 2 := rfl
theorem gL_29 : gm_L 29 = 3 := rfl
theorem gL_30 : gm_L 30 = 3 := rfl
theorem gL_31 : gm_L 31 = 1 := rfl
theorem gL_32 : gm_L 32 = 4 := rfl
theorem gL_33 : gm_L 33 = 1 := rfl
theorem gL_34 : gm_L 34 = 2 := rfl
theorem gL_35 : gm_L 35 = 4 := rfl
theorem gL_36 : gm_L 36 = 4 := rfl
theorem gL_37 : gm_L 37 = 1 := rfl
theorem gL_38 : gm_L 38 = 2 := rfl
theorem gL_39 : gm_L 39 = 2 := rfl
theorem gL_40 : gm_L 40 = 2 := rfl
theorem gL_41 : gm_L 41 = 2 := rfl
theorem gL_42 : gm_L 42 = 3 := rfl
theorem gL_43 : gm_L 43 = 2 := rfl
theorem gL_44 : gm_L 44 = 4 := rfl
theorem gL_45 : gm_L 45 = 2 := rfl
theorem gL_46 : gm_L 46 = 3 := rfl
theorem gL_47 : gm_L 47 = 4 := rfl
theorem gL_48 : gm_L 48 = 1 := rfl
theorem gL_49 : gm_L 49 = 2 := rfl
theorem gL_50 : gm_L 50 = 3 := rfl
theorem gL_51 : gm_L 51 = 1 := rfl
theorem gL_52 : gm_L 52 = 4 := rfl
theorem gL_53 : gm_L 53 = 6 := rfl
theorem gL_54 : gm_L 54 = 6 := rfl
theorem gL_55 : gm_L 55 = 6 := rfl
theorem gL_56 : gm_L 56 = 3 := rfl
theorem gL_57 : gm_L 57 = 8 := rfl
theorem gL_58 : gm_L 58 = 1 := rfl
theorem gL_59 : gm_L 59 = 2 := rfl
theorem gL_60 : gm_L 60 = 2 := rfl
theorem gL_61 : gm_L 61 = 1 := rfl
theorem gL_62 : gm_L 62 = 2 := rfl
theorem gL_63 : gm_L 63 = 1 := rfl
theorem gL_64 : gm_L 64 = 2 := rfl
theorem gL_65 : gm_L 65 = 2 := rfl
theorem gL_66 : gm_L 66 = 1 := rfl
theorem gL_67 : gm_L 67 = 1 := rfl
theorem gL_68 : gm_L 68 = 2 := rfl
theorem gL_69 : gm_L 69 = 2 := rfl
theorem gL_70 : gm_L 70 = 3 := rfl
theorem gL_71 : gm_L 71 = 1 := rfl
theorem gL_72 : gm_L 72 = 2 := rfl
theorem gL_73 : gm_L 73 = 2 := rfl
theorem gL_74 : gm_L 74 = 1 := rfl
theorem gL_75 : gm_L 75 = 2 := rfl
theorem gL_76 : gm_L 76 = 2 := rfl
theorem gL_77 : gm_L 77 = 4 := rfl
theorem gL_78 : gm_L 78 = 3 := rfl
theorem gL_79 : gm_L 79 = 4 := rfl
theorem gL_80 : gm_L 80 = 2 := rfl
theorem gL_81 : gm_L 81 = 2 := rfl
theorem gL_82 : gm_L 82 = 4 := rfl
theorem gL_83 : gm_L 83 = 2 := rfl
theorem gL_84 : gm_L 84 = 2 := rfl
theorem gL_85 : gm_L 85 = 4 := rfl
theorem gL_86 : gm_L 86 = 5 := rfl
theorem gL_87 : gm_L 87 = 3 := rfl
theorem gL_88 : gm_L 88 = 5 := rfl
theorem gL_89 : gm_L 89 = 4 := rfl
theorem gL_90 : gm_L 90 = 2 := rfl
theorem gL_91 : gm_L 91 = 2 := rfl
theorem gL_92 : gm_L 92 = 2 := rfl
theorem gL_93 : gm_L 93 = 1 := rfl
theorem gL_94 : gm_L 94 = 1 := rfl
theorem gL_95 : gm_L 95 = 1 := rfl
theorem gL_96 : gm_L 96 = 2 := rfl
theorem gL_97 : gm_L 97 = 1 := rfl
theorem gL_98 : gm_L 98 = 2 := rfl
theorem gL_99 : gm_L 99 = 4 := rfl
theorem gL_100 : gm_L 100 = 5 := rfl
theorem gL_101 : gm_L 101 = 3 := rfl
theorem gL_102 : gm_L 102 = 11 := rfl
theorem gL_103 : gm_L 103 = 5 := rfl
theorem gL_104 : gm_L 104 = 7 := rfl
theorem gL_105 : gm_L 105 = 7 := rfl
theorem gL_106 : gm_L 106 = 1 := rfl
theorem gL_107 : gm_L 107 = 6 := rfl
theorem gL_108 : gm_L 108 = 2 := rfl
theorem gL_109 : gm_L 109 = 3 := rfl
theorem gL_110 : gm_L 110 = 2 := rfl
theorem gL_111 : gm_L 111 = 2 := rfl
theorem gL_112 : gm_L 112 = 4 := rfl
theorem gL_113 : gm_L 113 = 1 := rfl
theorem gL_114 : gm_L 114 = 1 := rfl
theorem gL_115 : gm_L 115 = 2 := rfl
theorem gL_116 : gm_L 116 = 1 := rfl
theorem gL_117 : gm_L 117 = 2 := rfl
theorem gL_118 : gm_L 118 = 2 := rfl
theorem gL_119 : gm_L 119 = 2 := rfl
theorem gL_120 : gm_L 120 = 2 := rfl
theorem gL_121 : gm_L 121 = 3 := rfl
theorem gL_122 : gm_L 122 = 4 := rfl
theorem gL_123 : gm_L 123 = 3 := rfl
theorem gL_124 : gm_L 124 = 1 := rfl
theorem gL_125 : gm_L 125 = 7 := rfl
theorem gL_126 : gm_L 126 = 5 := rfl
theorem gL_127 : gm_L 127 = 8 := rfl
theorem gL_128 : gm_L 128 = 2 := rfl
theorem gL_129 : gm_L 129 = 4 := rfl
theorem gL_130 : gm_L 130 = 2 := rfl
theorem gL_131 : gm_L 131 = 2 := rfl
theorem gL_132 : gm_L 132 = 2 := rfl
theorem gL_133 : gm_L 133 = 2 := rfl
theorem gL_134 : gm_L 134 = 4 := rfl
theorem gL_135 : gm_L 135 = 1 := rfl
theorem gL_136 : gm_L 136 = 2 := rfl
theorem gL_137 : gm_L 137 = 6 := rfl
theorem gL_138 : gm_L 138 = 3 := rfl
theorem gL_139 : gm_L 139 = 5 := rfl
theorem gL_140 : gm_L 140 = 3 := rfl
theorem gL_141 : gm_L 141 = 10 := rfl
theorem gL_142 : gm_L 142 = 7 := rfl
theorem gL_143 : gm_L 143 = 3 := rfl
theorem gL_144 : gm_L 144 = 5 := rfl
theorem gL_145 : gm_L 145 = 2 := rfl
theorem gL_146 : gm_L 146 = 4 := rfl
theorem gL_147 : gm_L 147 = 4 := rfl
theorem gL_148 : gm_L 148 = 2 := rfl
theorem gL_149 : gm_L 149 = 6 := rfl
theorem gL_150 : gm_L 150 = 6 := rfl
theorem gL_151 : gm_L 151 = 13 := rfl
theorem gL_152 : gm_L 152 = 8 := rfl
theorem gL_153 : gm_L 153 = 9 := rfl
theorem gL_154 : gm_L 154 = 10 := rfl
theorem gL_155 : gm_L 155 = 2 := rfl
theorem gL_156 : gm_L 156 = 5 := rfl
theorem gL_157 : gm_L 157 = 6 := rfl
theorem gL_158 : gm_L 158 = 5 := rfl
theorem gL_159 : gm_L 159 = 4 := rfl
theorem gL_160 : gm_L 160 = 3 := rfl
theorem gL_161 : gm_L 161 = 3 := rfl
theorem gL_162 : gm_L 162 = 2 := rfl
theorem gL_163 : gm_L 163 = 1 := rfl
theorem gL_164 : gm_L 164 = 4 := rfl
theorem gq_2_15 : gw_fit 2 15 0 0 := by unfold gw_fit; decide +kernel
theorem gq_3_15 : gw_fit 3 15 0 0 := by unfold gw_fit; decide +kernel
theorem gq_5_7 : gw_fit 5 7 0 0 := by unfold gw_fit; decide +kernel
theorem gq_5_51 : gw_fit 5 51 0 0 := by unfold gw_fit; decide +kernel
theorem gq_5_52 : gw_fit 5 52 0 0 := by unfold gw_fit; decide +kernel
theorem gq_5_53 : gw_fit 5 53 0 0 := by unfold gw_fit; decide +kernel
theorem gq_5_58 : gw_fit 5 58 0 0 := by unfold gw_fit; decide +kernel
theorem gq_6_7 : gw_fit 6 7 0 0 := by unfold gw_fit; decide +kernel
theorem gq_6_51 : gw_fit 6 51 0 0 := by unfold gw_fit; decide +kernel
theorem gq_6_52 : gw_fit 6 52 0 0 := by unfold gw_fit; decide +kernel
theorem gq_6_53 : gw_fit 6 53 0 0 := by unfold gw_fit; decide +kernel
theorem gq_6_61 : gw_fit 6 61 0 0 := by unfold gw_fit; decide +kernel
theorem gq_7_163 : gw_fit 7 163 0 0 := by unfold gw_fit; decide +kernel
theorem gq_9_10 : gw_fit 9 10 0 0 := by unfold gw_fit; decide +kernel
theorem gq_9_51 : gw_fit 9 51 0 0 := by unfold gw_fit; decide +kernel
theorem gq_9_52 : gw_fit 9 52 0 0 := by unfold gw_fit; decide +kernel
theorem gq_9_53 : gw_fit 9 53 0 0 := by unfold gw_fit; decide +kernel
theorem gq_10_60 : gw_fit 10 60 0 0 := by unfold gw_fit; decide +kernel
theorem gq_10_163 : gw_fit 10 163 0 0 := by unfold gw_fit; decide +kernel
theorem gq_11_96 : gw_fit 11 96 0 0 := by unfold gw_fit; decide +kernel
theorem gq_11_163 : gw_fit 11 163 0 0 := by unfold gw_fit; decide +kernel
theorem gq_13_14 : gw_fit 13 14 0 0 := by unfold gw_fit; decide +kernel
theorem gq_17_18 : gw_fit 17 18 0 0 := by unfold gw_fit; decide +kernel
theorem gq_17_19 : gw_fit 17 19 0 0 := by unfold gw_fit; decide +kernel
theorem gq_17_20 : gw_fit 17 20 0 0 := by unfold gw_fit; decide +kernel
theorem gq_18_50 : gw_fit 18 50 0 0 := by unfold gw_fit; decide +kernel
theorem gq_18_53 : gw_fit 18 53 0 0 := by unfold gw_fit; decide +kernel
theorem gq_19_36 : gw_fit 19 36 0 0 := by unfold gw_fit; decide +kernel
theorem gq_20_21 : gw_fit 20 21 0 0 := by unfold gw_fit; decide +kernel
theorem gq_20_22 : gw_fit 20 22 0 0 := by unfold gw_fit; decide +kernel
theorem gq_25_26 : gw_fit 25 26 0 0 := by unfold gw_fit; decide +kernel
theorem gq_25_51 : gw_fit 25 51 0 0 := by unfold gw_fit; decide +kernel
theorem gq_25_52 : gw_fit 25 52 0 0 := by unfold gw_fit; decide +kernel
theorem gq_25_53 : gw_fit 25 53 0 0 := by unfold gw_fit; decide +kernel
theorem gq_26_96 : gw_fit 26 96 0 0 := by unfold gw_fit; decide +kernel
theorem gq_29_15 : gw_fit 29 15 0 0 := by unfold gw_fit; decide +kernel
theorem gq_30_15 : gw_fit 30 15 0 0 := by unfold gw_fit; decide +kernel
theorem gq_32_33 : gw_fit 32 33 0 0 := by unfold gw_fit; decide +kernel
theorem gq_32_39 : gw_fit 32 39 0 0 := by unfold gw_fit; decide +kernel
theorem gq_32_40 : gw_fit 32 40 0 0 := by unfold gw_fit; decide +kernel
theorem gq_32_41 : gw_fit 32 41 0 0 := by unfold gw_fit; decide +kernel
theorem gq_40_39 : gw_fit 40 39 0 0 := by unfold gw_fit; decide +kernel
theorem gq_41_39 : gw_fit 41 39 0 0 := by unfold gw_fit; decide +kernel
theorem gq_41_48 : gw_fit 41 48 0 0 := by unfold gw_fit; decide +kernel
theorem gq_42_41 : gw_fit 42 41 0 0 := by unfold gw_fit; decide +kernel
theorem gq_42_43 : gw_fit 42 43 0 0 := by unfold gw_fit; decide +kernel
theorem gq_42_44 : gw_fit 42 44 0 0 := by unfold gw_fit; decide +kernel
theorem gq_44_45 : gw_fit 44 45 0 0 := by unfold gw_fit; decide +kernel
theorem gq_44_46 : gw_fit 44 46 0 0 := by unfold gw_fit; decide +kernel
theorem gq_45_39 : gw_fit 45 39 0 0 := by unfold gw_fit; decide +kernel
theorem gq_45_47 : gw_fit 45 47 0 0 := by unfold gw_fit; decide +kernel
theorem gq_46_39 : gw_fit 46 39 0 0 := by unfold gw_fit; decide +kernel
theorem gq_46_47 : gw_fit 46 47 0 0 := by unfold gw_fit; decide +kernel
theorem gq_47_40 : gw_fit 47 40 0 0 := by unfold gw_fit; decide +kernel
theorem gq_52_96 : gw_fit 52 96 0 0 := by unfold gw_fit; decide +kernel
theorem gq_53_54 : gw_fit 53 54 0 0 := by unfold gw_fit; decide +kernel
theorem gq_53_96 : gw_fit 53 96 0 0 := by unfold gw_fit; decide +kernel
theorem gq_54_55 : gw_fit 54 55 0 0 := by unfold gw_fit; decide +kernel
theorem gq_54_56 : gw_fit 54 56 0 0 := by unfold gw_fit; decide +kernel
theorem gq_54_57 : gw_fit 54 57 0 0 := by unfold gw_fit; decide +kernel
theorem gq_54_96 : gw_fit 54 96 0 0 := by unfold gw_fit; decide +kernel
theorem gq_56_96 : gw_fit 56 96 0 0 := by unfold gw_fit; decide +kernel
theorem gq_57_35 : gw_fit 57 35 0 0 := by unfold gw_fit; decide +kernel
theorem gq_57_36 : gw_fit 57 36 0 0 := by unfold gw_fit; decide +kernel
theorem gq_57_96 : gw_fit 57 96 0 0 := by unfold gw_fit; decide +kernel
theorem gq_64_38 : gw_fit 64 38 0 0 := by unfold gw_fit; decide +kernel
theorem gq_66_42 : gw_fit 66 42 0 0 := by unfold gw_fit; decide +kernel
theorem gq_67_1 : gw_fit 67 1 0 0 := by unfold gw_fit; decide +kernel
theorem gq_67_13 : gw_fit 67 13 0 0 := by unfold gw_fit; decide +kernel
theorem gq_67_28 : gw_fit 67 28 0 0 := by unfold gw_fit; decide +kernel
theorem gq_67_32 : gw_fit 67 32 0 0 := by unfold gw_fit; decide +kernel
theorem gq_67_42 : gw_fit 67 42 0 0 := by unfold gw_fit; decide +kernel
theorem gq_68_93 : gw_fit 68 93 0 0 := by unfold gw_fit; decide +kernel
theorem gq_70_34 : gw_fit 70 34 0 0 := by unfold gw_fit; decide +kernel
theorem gq_70_35 : gw_fit 70 35 0 0 := by unfold gw_fit; decide +kernel
theorem gq_70_96 : gw_fit 70 96 0 0 := by unfold gw_fit; decide +kernel
theorem gq_72_2 : gw_fit 72 2 0 0 := by unfold gw_fit; decide +kernel
theorem gq_72_50 : gw_fit 72 50 0 0 := by unfold gw_fit; decide +kernel
theorem gq_72_53 : gw_fit 72 53 0 0 := by unfold gw_fit; decide +kernel
theorem gq_72_62 : gw_fit 72 62 0 0 := by unfold gw_fit; decide +kernel
theorem gq_72_97 : gw_fit 72 97 0 0 := by unfold gw_fit; decide +kernel
theorem gq_73_2 : gw_fit 73 2 0 0 := by unfold gw_fit; decide +kernel
theorem gq_73_93 : gw_fit 73 93 0 0 := by unfold gw_fit; decide +kernel
theorem gq_73_96 : gw_fit 73 96 0 0 := by unfold gw_fit; decide +kernel
theorem gq_73_97 : gw_fit 73 97 0 0 := by unfold gw_fit; decide +kernel
theorem gq_74_3 : gw_fit 74 3 0 0 := by unfold gw_fit; decide +kernel
theorem gq_75_58 : gw_fit 75 58 0 0 := by unfold gw_fit; decide +kernel
theorem gq_75_94 : gw_fit 75 94 0 0 := by unfold gw_fit; decide +kernel
theorem gq_75_98 : gw_fit 75 98 0 0 := by unfold gw_fit; decide +kernel
theorem gq_76_5 : gw_fit 76 5 0 0 := by unfold gw_fit; decide +kernel
theorem gq_76_50 : gw_fit 76 50 0 0 := by unfold gw_fit; decide +kernel
theorem gq_77_5 : gw_fit 77 5 0 0 := by unfold gw_fit; decide +kernel
theorem gq_77_15 : gw_fit 77 15 0 0 := by unfold gw_fit; decide +kernel
theorem gq_77_50 : gw_fit 77 50 0 0 := by unfold gw_fit; decide +kernel
theorem gq_77_76 : gw_fit 77 76 0 0 := by unfold gw_fit; decide +kernel
theorem gq_78_9 : gw_fit 78 9 0 0 := by unfold gw_fit; decide +kernel
theorem gq_78_11 : gw_fit 78 11 0 0 := by unfold gw_fit; decide +kernel
theorem gq_78_34 : gw_fit 78 34 0 0 := by unfold gw_fit; decide +kernel
theorem gq_78_50 : gw_fit 78 50 0 0 := by unfold gw_fit; decide +kernel
theorem gq_78_104 : gw_fit 78 104 0 0 := by unfold gw_fit; decide +kernel
theorem gq_79_59 : gw_fit 79 59 0 0 := by unfold gw_fit; decide +kernel
theorem gq_79_98 : gw_fit 79 98 0 0 := by unfold gw_fit; decide +kernel
theorem gq_79_99 : gw_fit 79 99 0 0 := by unfold gw_fit; decide +kernel
theorem gq_79_100 : gw_fit 79 100 0 0 := by unfold gw_fit; decide +kernel
theorem gq_80_61 : gw_fit 80 61 0 0 := by unfold gw_fit; decide +kernel
theorem gq_80_94 : gw_fit 80 94 0 0 := by unfold gw_fit; decide +kernel
theorem gq_80_98 : gw_fit 80 98 0 0 := by unfold gw_fit; decide +kernel
theorem gq_81_6 : gw_fit 81 6 0 0 := by unfold gw_fit; decide +kernel
theorem gq_81_50 : gw_fit 81 50 0 0 := by unfold gw_fit; decide +kernel
theorem gq_82_24 : gw_fit 82 24 0 0 := by unfold gw_fit; decide +kernel
theorem gq_82_34 : gw_fit 82 34 0 0 := by unfold gw_fit; decide +kernel
theorem gq_84_13 : gw_fit 84 13 0 0 := by unfold gw_fit; decide +kernel
theorem gq_84_25 : gw_fit 84 25 0 0 := by unfold gw_fit; decide +kernel
theorem gq_84_50 : gw_fit 84 50 0 0 := by unfold gw_fit; decide +kernel
theorem gq_85_94 : gw_fit 85 94 0 0 := by unfold gw_fit; decide +kernel
theorem gq_85_95 : gw_fit 85 95 0 0 := by unfold gw_fit; decide +kernel
theorem gq_85_97 : gw_fit 85 97 0 0 := by unfold gw_fit; decide +kernel
theorem gq_85_102 : gw_fit 85 102 0 0 := by unfold gw_fit; decide +kernel
theorem gq_85_103 : gw_fit 85 103 0 0 := by unfold gw_fit; decide +kernel
theorem gq_85_104 : gw_fit 85 104 0 0 := by unfold gw_fit; decide +kernel
theorem gq_86_34 : gw_fit 86 34 0 0 := by unfold gw_fit; decide +kernel
theorem gq_86_94 : gw_fit 86 94 0 0 := by unfold gw_fit; decide +kernel
theorem gq_86_95 : gw_fit 86 95 0 0 := by unfold gw_fit; decide +kernel
theorem gq_86_97 : gw_fit 86 97 0 0 := by unfold gw_fit; decide +kernel
theorem gq_86_102 : gw_fit 86 102 0 0 := by unfold gw_fit; decide +kernel
theorem gq_86_103 : gw_fit 86 103 0 0 := by unfold gw_fit; decide +kernel
theorem gq_86_104 : gw_fit 86 104 0 0 := by unfold gw_fit; decide +kernel
theorem gq_87_14 : gw_fit 87 14 0 0 := by unfold gw_fit; decide +kernel
theorem gq_87_15 : gw_fit 87 15 0 0 := by unfold gw_fit; decide +kernel
theorem gq_87_17 : gw_fit 87 17 0 0 := by unfold gw_fit; decide +kernel
theorem gq_87_93 : gw_fit 87 93 0 0 := by unfold gw_fit; decide +kernel
theorem gq_89_58 : gw_fit 89 58 0 0 := by unfold gw_fit; decide +kernel
theorem gq_89_98 : gw_fit 89 98 0 0 := by unfold gw_fit; decide +kernel
theorem gq_89_101 : gw_fit 89 101 0 0 := by unfold gw_fit; decide +kernel
theorem gq_90_29 : gw_fit 90 29 0 0 := by unfold gw_fit; decide +kernel
theorem gq_91_1 : gw_fit 91 1 0 0 := by unfold gw_fit; decide +kernel
theorem gq_91_30 : gw_fit 91 30 0 0 := by unfold gw_fit; decide +kernel
theorem gq_92_35 : gw_fit 92 35 0 0 := by unfold gw_fit; decide +kernel
theorem gq_98_50 : gw_fit 98 50 0 0 := by unfold gw_fit; decide +kernel
theorem gq_98_53 : gw_fit 98 53 0 0 := by unfold gw_fit; decide +kernel
theorem gq_100_99 : gw_fit 100 99 0 0 := by unfold gw_fit; decide +kernel
theorem gq_102_50 : gw_fit 102 50 0 0 := by unfold gw_fit; decide +kernel
theorem gq_102_51 : gw_fit 102 51 0 0 := by unfold gw_fit; decide +kernel
theorem gq_102_52 : gw_fit 102 52 0 0 := by unfold gw_fit; decide +kernel
theorem gq_102_53 : gw_fit 102 53 0 0 := by unfold gw_fit; decide +kernel
theorem gq_102_58 : gw_fit 102 58 0 0 := by unfold gw_fit; decide +kernel
theorem gq_102_60 : gw_fit 102 60 0 0 := by unfold gw_fit; decide +kernel
theorem gq_102_103 : gw_fit 102 103 0 0 := by unfold gw_fit; decide +kernel
theorem gq_102_163 : gw_fit 102 163 0 0 := by unfold gw_fit; decide +kernel
theorem gq_104_105 : gw_fit 104 105 0 0 := by unfold gw_fit; decide +kernel
theorem gq_110_107 : gw_fit 110 107 0 0 := by unfold gw_fit; decide +kernel
theorem gq_112_107 : gw_fit 112 107 0 0 := by unfold gw_fit; decide +kernel
theorem gq_114_112 : gw_fit 114 112 0 0 := by unfold gw_fit; decide +kernel
theorem gq_114_113 : gw_fit 114 113 0 0 := by unfold gw_fit; decide +kernel
theorem gq_114_115 : gw_fit 114 115 0 0 := by unfold gw_fit; decide +kernel
theorem gq_115_112 : gw_fit 115 112 0 0 := by unfold gw_fit; decide +kernel
theorem gq_116_114 : gw_fit 116 114 0 0 := by unfold gw_fit; decide +kernel
theorem gq_117_114 : gw_fit 117 114 0 0 := by unfold gw_fit; decide +kernel
theorem gq_118_107 : gw_fit 118 107 0 0 := by unfold gw_fit; decide +kernel
theorem gq_119_107 : gw_fit 119 107 0 0 := by unfold gw_fit; decide +kernel
theorem gq_120_107 : gw_fit 120 107 0 0 := by unfold gw_fit; decide +kernel
theorem gq_122_121 : gw_fit 122 121 0 0 := by unfold gw_fit; decide +kernel
theorem gq_123_107 : gw_fit 123 107 0 0 := by unfold gw_fit; decide +kernel
theorem gq_123_118 : gw_fit 123 118 0 0 := by unfold gw_fit; decide +kernel
theorem gq_123_121 : gw_fit 123 121 0 0 := by unfold gw_fit; decide +kernel
theorem gq_125_107 : gw_fit 125 107 0 0 := by unfold gw_fit; decide +kernel
theorem gq_125_108 : gw_fit 125 108 0 0 := by unfold gw_fit; decide +kernel
theorem gq_127_108 : gw_fit 127 108 0 0 := by unfold gw_fit; decide +kernel
theorem gq_127_121 : gw_fit 127 121 0 0 := by unfold gw_fit; decide +kernel
theorem gq_127_125 : gw_fit 127 125 0 0 := by unfold gw_fit; decide +kernel
theorem gq_127_126 : gw_fit 127 126 0 0 := by unfold gw_fit; decide +kernel
theorem gq_131_122 : gw_fit 131 122 0 0 := by unfold gw_fit; decide +kernel
theorem gq_131_127 : gw_fit 131 127 0 0 := by unfold gw_fit; decide +kernel
theorem gq_131_128 : gw_fit 131 128 0 0 := by unfold gw_fit; decide +kernel
theorem gq_131_130 : gw_fit 131 130 0 0 := by unfold gw_fit; decide +kernel
theorem gq_132_107 : gw_fit 132 107 0 0 := by unfold gw_fit; decide +kernel
theorem gq_132_130 : gw_fit 132 130 0 0 := by unfold gw_fit; decide +kernel
theorem gq_134_108 : gw_fit 134 108 0 0 := by unfold gw_fit; decide +kernel
theorem gq_134_122 : gw_fit 134 122 0 0 := by unfold gw_fit; decide +kernel
theorem gq_134_127 : gw_fit 134 127 0 0 := by unfold gw_fit; decide +kernel
theorem gq_134_129 : gw_fit 134 129 0 0 := by unfold gw_fit; decide +kernel
theorem gq_136_107 : gw_fit 136 107 0 0 := by unfold gw_fit; decide +kernel
theorem gq_136_128 : gw_fit 136 128 0 0 := by unfold gw_fit; decide +kernel
theorem gq_136_134 : gw_fit 136 134 0 0 := by unfold gw_fit; decide +kernel
theorem gq_137_109 : gw_fit 137 109 0 0 := by unfold gw_fit; decide +kernel
theorem gq_137_128 : gw_fit 137 128 0 0 := by unfold gw_fit; decide +kernel
theorem gq_137_134 : gw_fit 137 134 0 0 := by unfold gw_fit; decide +kernel
theorem gq_137_135 : gw_fit 137 135 0 0 := by unfold gw_fit; decide +kernel
theorem gq_138_137 : gw_fit 138 137 0 0 := by unfold gw_fit; decide +kernel
theorem gq_139_137 : gw_fit 139 137 0 0 := by unfold gw_fit; decide +kernel
theorem gq_142_108 : gw_fit 142 108 0 0 := by unfold gw_fit; decide +kernel
theorem gq_142_109 : gw_fit 142 109 0 0 := by unfold gw_fit; decide +kernel
theorem gq_142_118 : gw_fit 142 118 0 0 := by unfold gw_fit; decide +kernel
theorem gq_142_137 : gw_fit 142 137 0 0 := by unfold gw_fit; decide +kernel
theorem gq_142_140 : gw_fit 142 140 0 0 := by unfold gw_fit; decide +kernel
theorem gq_142_141 : gw_fit 142 141 0 0 := by unfold gw_fit; decide +kernel
theorem gq_144_107 : gw_fit 144 107 0 0 := by unfold gw_fit; decide +kernel
theorem gq_144_127 : gw_fit 144 127 0 0 := by unfold gw_fit; decide +kernel
theorem gq_144_128 : gw_fit 144 128 0 0 := by unfold gw_fit; decide +kernel
theorem gq_144_129 : gw_fit 144 129 0 0 := by unfold gw_fit; decide +kernel
theorem gq_144_143 : gw_fit 144 143 0 0 := by unfold gw_fit; decide +kernel
theorem gq_145_107 : gw_fit 145 107 0 0 := by unfold gw_fit; decide +kernel
theorem gq_145_128 : gw_fit 145 128 0 0 := by unfold gw_fit; decide +kernel
theorem gq_145_134 : gw_fit 145 134 0 0 := by unfold gw_fit; decide +kernel
theorem gq_146_107 : gw_fit 146 107 0 0 := by unfold gw_fit; decide +kernel
theorem gq_146_109 : gw_fit 146 109 0 0 := by unfold gw_fit; decide +kernel
theorem gq_146_128 : gw_fit 146 128 0 0 := by unfold gw_fit; decide +kernel
theorem gq_146_134 : gw_fit 146 134 0 0 := by unfold gw_fit; decide +kernel
theorem gq_146_135 : gw_fit 146 135 0 0 := by unfold gw_fit; decide +kernel
theorem gq_147_107 : gw_fit 147 107 0 0 := by unfold gw_fit; decide +kernel
theorem gq_147_118 : gw_fit 147 118 0 0 := by unfold gw_fit; decide +kernel
theorem gq_149_108 : gw_fit 149 108 0 0 := by unfold gw_fit; decide +kernel
theorem gq_149_118 : gw_fit 149 118 0 0 := by unfold gw_fit; decide +kernel
theorem gq_149_121 : gw_fit 149 121 0 0 := by unfold gw_fit; decide +kernel
theorem gq_149_127 : gw_fit 149 127 0 0 := by unfold gw_fit; decide +kernel
theorem gq_150_107 : gw_fit 150 107 0 0 := by unfold gw_fit; decide +kernel
theorem gq_150_128 : gw_fit 150 128 0 0 := by unfold gw_fit; decide +kernel
theorem gq_150_149 : gw_fit 150 149 0 0 := by unfold gw_fit; decide +kernel
theorem gq_151_108 : gw_fit 151 108 0 0 := by unfold gw_fit; decide +kernel
theorem gq_151_109 : gw_fit 151 109 0 0 := by unfold gw_fit; decide +kernel
theorem gq_151_134 : gw_fit 151 134 0 0 := by unfold gw_fit; decide +kernel
theorem gq_151_135 : gw_fit 151 135 0 0 := by unfold gw_fit; decide +kernel
theorem gq_152_107 : gw_fit 152 107 0 0 := by unfold gw_fit; decide +kernel
theorem gq_152_141 : gw_fit 152 141 0 0 := by unfold gw_fit; decide +kernel
theorem gq_152_151 : gw_fit 152 151 0 0 := by unfold gw_fit; decide +kernel
theorem gq_153_107 : gw_fit 153 107 0 0 := by unfold gw_fit; decide +kernel
theorem gq_153_118 : gw_fit 153 118 0 0 := by unfold gw_fit; decide +kernel
theorem gq_153_141 : gw_fit 153 141 0 0 := by unfold gw_fit; decide +kernel
theorem gq_153_151 : gw_fit 153 151 0 0 := by unfold gw_fit; decide +kernel
theorem gq_154_125 : gw_fit 154 125 0 0 := by unfold gw_fit; decide +kernel
theorem gq_154_126 : gw_fit 154 126 0 0 := by unfold gw_fit; decide +kernel
theorem gq_154_128 : gw_fit 154 128 0 0 := by unfold gw_fit; decide +kernel
theorem gq_154_129 : gw_fit 154 129 0 0 := by unfold gw_fit; decide +kernel
theorem gq_155_107 : gw_fit 155 107 0 0 := by unfold gw_fit; decide +kernel
theorem gq_156_155 : gw_fit 156 155 0 0 := by unfold gw_fit; decide +kernel
theorem gq_157_107 : gw_fit 157 107 0 0 := by unfold gw_fit; decide +kernel
theorem gq_157_154 : gw_fit 157 154 0 0 := by unfold gw_fit; decide +kernel
theorem gq_157_155 : gw_fit 157 155 0 0 := by unfold gw_fit; decide +kernel
theorem gq_157_156 : gw_fit 157 156 0 0 := by unfold gw_fit; decide +kernel
theorem gq_159_107 : gw_fit 159 107 0 0 := by unfold gw_fit; decide +kernel
theorem gq_159_127 : gw_fit 159 127 0 0 := by unfold gw_fit; decide +kernel
theorem gq_159_128 : gw_fit 159 128 0 0 := by unfold gw_fit; decide +kernel
theorem gq_159_129 : gw_fit 159 129 0 0 := by unfold gw_fit; decide +kernel
theorem gq_160_107 : gw_fit 160 107 0 0 := by unfold gw_fit; decide +kernel
theorem gq_161_107 : gw_fit 161 107 0 0 := by unfold gw_fit; decide +kernel
theorem gq_162_122 : gw_fit 162 122 0 0 := by unfold gw_fit; decide +kernel
end
section
/-! ===== new int[n][k] ===== -/
/-- a loop over the numbers below N, each turn from a state of P i to one of P (i + 1), the top frame as it was -/
theorem gw_loop {P : Nat → State → Prop} {N : Nat} {f : Nat → PUnit → Sem (ForInStep PUnit)} {e : Env} {fr : JFrame}
    (hf : ∀ (i : Nat) (U : State), i < N → P i U → ∃ U' : State, P (i + 1) U' ∧ ∀ (E : CtlPost) (Q : ForInStep PUnit → Pre) (d : Bool) (acts : List Action), (∀ d' acts', Q (.yield PUnit.unit) d' acts' (U'.setTop fr)) → wp (f i PUnit.unit) Q E e d acts (U.setTop fr)) :
    ∀ (k i : Nat) (U : State), i + k = N → P i U → ∃ U' : State, P N U' ∧ ∀ (E : CtlPost) (Q : PUnit → Pre) (d : Bool) (acts : List Action), (∀ d' acts', Q PUnit.unit d' acts' (U'.setTop fr)) → wp (forIn (List.range' i k) PUnit.unit f) Q E e d acts (U.setTop fr)
  | 0, i, U, hk, hU => by
    refine ⟨U, by rw [← hk]; exact hU, fun E Q d acts hQ => ?_⟩
    rw [List.range'_zero, List.forIn_nil, wp_pure']
    exact hQ _ _
  | k + 1, i, U, hk, hU => by
    obtain ⟨U1, h1, g1⟩ := hf i U (by omega) hU
    obtain ⟨U2, h2, g2⟩ := gw_loop hf k (i + 1) U1 (by omega) h1
    refine ⟨U2, h2, fun E Q d acts hQ => ?_⟩
    rw [List.range'_succ, List.forIn_cons, wp_bind']
    exact g1 E _ d acts fun d' acts' => g2 E Q d' acts' hQ
/-- behind the outer array at T's end lie i rows of K ints, its first i slots name them -/
def gw_mS (T : State) (cA cI : ClassId) (N K i : Nat) (U : State) : Prop :=
  U.vm = T.vm ∧ U.heap.size = T.heap.size + 1 + i ∧ (∀ q : Nat, q < T.heap.size → U.heap[q]? = T.heap[q]?) ∧ (∀ j : Nat, j < i → U.heap[T.heap.size + 1 + j]? = some (arrV cI K (fun _ => .int 0))) ∧ U.heap[T.heap.size]? = some (arrV cA N (fun j => if j < i then .ref (T.heap.size + 1 + j) else .null))
section GM
variable {p : Program} {l : Launch} {e : Env} {R : Room} {s : State} {m : MethodId} {args : Array Value} {below : List Frame} {meth : Method} {cd : Code} {T : State} {locs : List Loc} {cu su : Nat} {cA cI cc : ClassId} {kA kI : Class} {n k : Int32} {N K : Nat} {fr : JFrame}
/-- a row made and named -/
theorem gw_mrow (X0 : Stand p l e R s m args below meth cd T locs cu su) (hkA : T.vm.classes[cA]? = some kA) (hA : kA.kind = .array cI (.array .int)) (hkI : T.vm.classes[cI]? = some kI) (hI : kI.kind = .array cc .int) (hk : ¬ k < 0) (hK : k.toNatClampNeg = K) (hb : K * 4 ≤ 536870912) (hcu : cu + (1 + N) ≤ R.cells) (hsu : su + (N + N * K) ≤ R.slots)
    (i : Nat) (U : State) (hi : i < N) (hU : Stand p l e R s m args below meth cd U locs (cu + 1 + i) (su + N + i * K) ∧ gw_mS T cA cI N K i U) :
    ∃ U' : State, (Stand p l e R s m args below meth cd U' locs (cu + 1 + (i + 1)) (su + N + (i + 1) * K) ∧ gw_mS T cA cI N K (i + 1) U') ∧ ∀ (E : CtlPost) (Q : ForInStep PUnit → Pre) (d : Bool) (acts : List Action), (∀ d' acts', Q (.yield PUnit.unit) d' acts' (U'.setTop fr)) →
      wp (do let x ← multianewarray.make cI [k]; writeLoc T.heap.size i (.ref x); Pure.pure (ForInStep.yield PUnit.unit)) Q E e d acts (U.setTop fr) := by
  obtain ⟨XU, hv, hz, ho, hr, ha⟩ := hU
  have hmul : (i + 1) * K ≤ N * K := Nat.mul_le_mul_right K hi
  have hsum : (i + 1) * K = i * K + K := Nat.succ_mul i K
  obtain ⟨r1, r2⟩ := XU.roomAbove (a := 1) (b := K) (by omega) (by omega)
  have X1 := XU.pushed (arrV cI K (fun _ => .int 0))
  rw [arrV_size] at X1
  have hlt : T.heap.size < U.heap.size := by omega
  have ha1 : (U.pushCell (arrV cI K (fun _ => .int 0))).heap[T.heap.size]? = some (arrV cA N (fun j => if j < i then .ref (T.heap.size + 1 + j) else .null)) := by
    rw [State.heap_pushCell_of_lt (h := hlt)]
    exact ha
  have X2 := (X1.stored ha1 i (.ref U.heap.size)).dropFresh (fun x hx => by
    rw [List.mem_singleton] at hx
    subst hx
    exact X0.heapGrown)
  refine ⟨(U.pushCell (arrV cI K (fun _ => .int 0))).setCell T.heap.size ((arrV cA N (fun j => if j < i then .ref (T.heap.size + 1 + j) else .null)).setSlot i (.ref U.heap.size)), ⟨?_, hv, ?_, fun q hq => ?_, fun j hj => ?_, ?_⟩, fun E Q d acts hQ => ?_⟩
  · rw [hsum, show cu + 1 + (i + 1) = cu + 1 + i + 1 by omega, show su + N + (i * K + K) = su + N + i * K + K by omega]
    exact X2
  · rw [size_setCell]
    show (U.heap.push _).size = _
    rw [Array.size_push, hz]
    omega
  · rw [State.heap_setCell_other (show T.heap.size ≠ q by omega), State.heap_pushCell_of_lt (h := Nat.lt_trans hq hlt)]
    exact ho q hq
  · rw [State.heap_setCell_other (show T.heap.size ≠ T.heap.size + 1 + j by omega)]
    by_cases e : j = i
    · subst e
      rw [← hz]
      exact State.heap_pushCell_size _ _
    · rw [State.heap_pushCell_of_lt (h := show T.heap.size + 1 + j < U.heap.size by omega)]
      exact hr j (by omega)
  · rw [State.heap_setCell_self ha1, arrV_store, hz]
    refine congrArg (fun f => some (arrV cA N f)) (funext fun j => ?_)
    unfold updV
    by_cases e : j = i
    · rw [if_pos e, if_pos (by omega), e]
    · rw [if_neg e]
      show (if j < i then Value.ref (T.heap.size + 1 + j) else Value.null) = _
      by_cases h : j < i
      · rw [if_pos h, if_pos (by omega)]
      · rw [if_neg h, if_neg (by omega)]
  · have hkI' : (U.setTop fr).vm.classes[cI]? = some kI := by
      show U.vm.classes[cI]? = _
      rw [hv]
      exact hkI
    have hkA' : U.vm.classes[cA]? = some kA := by
      rw [hv]
      exact hkA
    rw [wp_bind', multianewarray.make]
    simp only [wp_bind', W.ite, hk, if_false, wp_pure', W.theClass, hkI', hI, Option.some.injEq, exists_eq_left']
    refine W.newArray_of hkI' hI (by rw [Launch.admits_arrayLengthLimit X0.admits]; omega) (by rw [Launch.admits_maxHeapBytes X0.admits, hK]; show ¬ K * 4 > 536870912; omega) (by show U.heap.size < _; omega) (by show U.slotsUsed + _ ≤ _; omega) rfl fun acts' => ?_
    rw [hK, show defaultValue .int = .int 0 from rfl, arrV_new]
    simp only [wp_bind', W.writeLoc, wp_pure']
    refine ⟨_, ha1, by simp [arrV], by rw [arrV_size]; exact hi, ?_, hQ _ _⟩
    show U.fitsSlot cA .none i (.ref U.heap.size) = true
    simp [State.fitsSlot, State.slotType?, hkA', hA]
    rfl
/-- the array and all its rows -/
theorem gw_mmake (X0 : Stand p l e R s m args below meth cd T locs cu su) (hkA : T.vm.classes[cA]? = some kA) (hA : kA.kind = .array cI (.array .int)) (hkI : T.vm.classes[cI]? = some kI) (hI : kI.kind = .array cc .int) (hn : ¬ n < 0) (hN : n.toNatClampNeg = N) (hk : ¬ k < 0) (hK : k.toNatClampNeg = K) (hb1 : N * 4 ≤ 536870912) (hb : K * 4 ≤ 536870912) (hcu : cu + (1 + N) ≤ R.cells) (hsu : su + (N + N * K) ≤ R.slots) :
    ∃ U : State, (Stand p l e R s m args below meth cd U locs (cu + 1 + N) (su + N + N * K) ∧ gw_mS T cA cI N K N U) ∧ ∀ (E : CtlPost) (Q : Addr → Pre) (d : Bool) (acts : List Action), (∀ d' acts', Q T.heap.size d' acts' (U.setTop fr)) → wp (multianewarray.make cA [n, k]) Q E e d acts (T.setTop fr) := by
  obtain ⟨r1, r2⟩ := X0.roomAbove (a := 1) (b := N) (by omega) (by omega)
  have X1 := X0.pushed (arrV cA N (fun _ => .null))
  rw [arrV_size] at X1
  obtain ⟨U, hU, g⟩ := gw_loop (e := e) (fr := fr) (f := fun i _ => do let x ← multianewarray.make cI [k]; writeLoc T.heap.size i (.ref x); Pure.pure (ForInStep.yield PUnit.unit)) (P := fun i U => Stand p l e R s m args below meth cd U locs (cu + 1 + i) (su + N + i * K) ∧ gw_mS T cA cI N K i U) (gw_mrow X0 hkA hA hkI hI hk hK hb hcu hsu) N 0 (T.pushCell (arrV cA N (fun _ => .null))) (Nat.zero_add N)
    ⟨by rw [Nat.zero_mul]; exact X1, rfl, Array.size_push _, fun q hq => State.heap_pushCell_of_lt _ _ hq, fun j hj => absurd hj (Nat.not_lt_zero j), by
      rw [State.heap_pushCell_size]
      refine congrArg (fun f => some (arrV cA N f)) (funext fun j => ?_)
      rw [if_neg (Nat.not_lt_zero j)]⟩
  refine ⟨U, hU, fun E Q d acts hQ => ?_⟩
  have hkA' : (T.setTop fr).vm.classes[cA]? = some kA := hkA
  have hf : ([k].find? (· < 0)) = none := by simp [hk]
  rw [multianewarray.make]
  simp only [wp_bind', W.ite, hn, if_false, wp_pure', W.theClass, hkA', hA, Option.some.injEq, exists_eq_left']
  refine W.newArray_of hkA' hA (by rw [Launch.admits_arrayLengthLimit X0.admits]; omega) (by rw [Launch.admits_maxHeapBytes X0.admits, hN]; show ¬ N * 4 > 536870912; omega) (by show T.heap.size < _; omega) (by show T.slotsUsed + _ ≤ _; omega) rfl fun acts' => ?_
  rw [hN, arrV_new]
  simp only [hf, ite_self, wp_bind', Std.Legacy.Range.forIn_eq_forIn_range']
  rw [show ([:N] : Std.Legacy.Range).size = N by simp [Std.Legacy.Range.size]]
  refine g E _ d acts' fun d' acts'' => ?_
  rw [wp_pure']
  exact hQ _ _
end GM
def gw_mR (F : Nat → Nat → Nat) (n N : Nat) : Nat → Nat → Nat := fun p q => if p = n then (if q < N then n + 1 + q else 0) else gw_z F n (N + 1) 0 p q
theorem gw_T_mr {sh : List (Nat × Nat)} {N K : Nat} {I : Nat → Nat → Int32} {J : Nat → Nat → Int64} {F : Nat → Nat → Nat} {j : Nat} (hj : j < N) : gw_T (sh ++ (15, N) :: List.replicate N (12, K), I, J, F) (sh.length + 1 + j) = 12 ∧ gw_N (sh ++ (15, N) :: List.replicate N (12, K), I, J, F) (sh.length + 1 + j) = K := by
  have e : (sh ++ (15, N) :: List.replicate N (12, K)).getD (sh.length + 1 + j) (99, 0) = (12, K) := by
    rw [List.getD_eq_getElem?_getD, List.getElem?_append_right (by omega), show sh.length + 1 + j - sh.length = j + 1 by omega, List.getElem?_cons_succ, List.getElem?_replicate, if_pos hj]
    rfl
  exact ⟨congrArg Prod.fst e, congrArg Prod.snd e⟩
theorem gw_T_mo {sh : List (Nat × Nat)} {N K : Nat} {I : Nat → Nat → Int32} {J : Nat → Nat → Int64} {F : Nat → Nat → Nat} : gw_T (sh ++ (15, N) :: List.replicate N (12, K), I, J, F) sh.length = 15 ∧ gw_N (sh ++ (15, N) :: List.replicate N (12, K), I, J, F) sh.length = N := by
  have e : (sh ++ (15, N) :: List.replicate N (12, K)).getD sh.length (99, 0) = (15, N) := by
    rw [List.getD_eq_getElem?_getD, List.getElem?_append_right (Nat.le_refl _), Nat.sub_self]
    rfl
  exact ⟨congrArg Prod.fst e, congrArg Prod.snd e⟩
theorem gs_mnew {V : gw_V} {i pc b x N K : Nat} {ls : List (Nat × Value)} {st : List Value} {sh : List (Nat × Nat)} {I : Nat → Nat → Int32} {J : Nat → Nat → Int64} {F : Nat → Nat → Nat} {cu su : Nat} {Q : Option Value → gw_W → Prop} {n k : Int32} (hd : gw_D i pc (.multianewarray x 2) 4 15 b) (hsh : sh.length < 145) (hn : ¬ n < 0) (hk : ¬ k < 0) (hN : n.toNatClampNeg = N) (hKK : k.toNatClampNeg = K) (hb1 : N * 4 ≤ 536870912) (hb2 : K * 4 ≤ 536870912) (hcu : cu + 1 + N ≤ gm_c i) (hsu : su + N + N * K ≤ gm_s i)
    (kk : gw_E V i (pc + 4, ls, .ref sh.length :: st, (sh ++ (15, N) :: List.replicate N (12, K), gw_z I sh.length (N + 1) 0, gw_z J sh.length (N + 1) 0, gw_mR F sh.length N), cu + 1 + N, su + N + N * K) Q) : gw_E V i (pc, ls, .int k :: .int n :: st, (sh, I, J, F), cu, su) Q := by
  intro p l e R s m args below meth cd QQ H locs L X hH hl hret
  obtain ⟨hx, hb, hml, hown, hts, hlk, hnm, hr, hfr, hlo, hce, hsl, hK⟩ := id X
  subst hN
  subst hKK
  have hsz : H.size = V.2.2.1 + (sh.length - 3) := hH.2.1 hsh
  have h3 : 3 ≤ sh.length := hH.2.2.1
  have had : ∀ j, gw_ad V (sh.length + j) = H.size + j := by
    intro j
    unfold gw_ad
    rw [if_neg (by omega), hsz]
    omega
  have had0 : gw_ad V sh.length = H.size := had 0
  have hcl := hd.2
  unfold gc_lk at hcl
  rw [if_neg (by omega)] at hcl
  have hlink : (Cond.classLink (gb_n (gm_o i)) x ("[" ++ (FieldType.array .int).toString)).before args s = true := hts _ (gl_C_in hcl)
  intro T hT Xs
  have hdc : decode cd.code pc = .ok (.multianewarray x 2, 4) := by
    rw [hb]
    exact hd.1
  obtain ⟨comp, cA, kA, fC, -, hkA, hA, fA⟩ := arrayOverA_spec hK.2.2.2.2.2.2.2
  have harr : (Cond.arrayClass .int).before args s = true := hts _ (gl_own_in (by decide +kernel))
  obtain ⟨c1, kI, cc, fI, hkI, hI⟩ := Cond.arrayClass_spec harr
  cases Option.some.inj (fI.symm.trans fC)
  obtain ⟨c2, fL, hL⟩ := Cond.classLink_spec hown hlink e.platform (by rw [Xs.admits.platform])
  cases Option.some.inj (fL.symm.trans fA)
  obtain ⟨hgv, hwm, -⟩ := State.classEntry (e := e) Xs.warmed hL
  generalize T.vm.noted m.cls x (.cls cA) = vm₁ at hgv hwm
  obtain ⟨kA1, hkA1, eA⟩ := hwm.alike.2.2 _ _ hkA
  obtain ⟨kI1, hkI1, eI⟩ := hwm.alike.2.2 _ _ hkI
  have X1 := Xs.noted hwm
  obtain ⟨FF, ⟨X', -, f1, hold, hrow, f2⟩, hgo⟩ := gw_mmake (fr := F0 m pc L (st.map (gw_mv V))) X1 hkA1 (by rw [eA]; exact hA) hkI1 (by rw [eI]; exact hI) hn rfl hk rfl hb1 hb2 (by show cu + (1 + _) ≤ _; omega) (by show su + (_ + _) ≤ _; omega)
  have step : ∀ t, Steps p.tables e below (FF.setTop (F0 m (pc + 4) L (.ref T.heap.size :: st.map (gw_mv V)))) t → Steps p.tables e below (T.setTop (F0 m pc L (.int k :: .int n :: st.map (gw_mv V)))) t := by
    intro t ht
    jvm_step Xs.here [hx, hdc]
    simp only [multianewarray.sem, wp_bind']
    refine (W.resolveClassAt_links (mm := m) (t := T.setTop (F0 m pc L (.int k :: .int n :: st.map (gw_mv V)))) (State.method?_setTop _ Xs.here.top) hgv).mpr ?_
    rw [wp_bind']
    refine (Jvm.Op.popN_top (s := T.setVm vm₁) (f := F0 m pc L (.int k :: .int n :: st.map (gw_mv V))) (args := [.int n, .int k]) (rest := st.map (gw_mv V)) X1.here.top rfl).mpr ?_
    simp only [List.mapM_cons, List.mapM_nil, wp_bind', wp_pure']
    refine hgo _ _ _ _ fun d' acts' => ?_
    simp only [wp_bind', W.mark, W.pushRef, State.topJava?_setTop' _ X'.here.top, Option.some.injEq, exists_eq_left', State.setTop_setTop]
    intro acts
    simp [jvm, X'.here.top]
    exact ht
  have hTh : (T.setVm vm₁).heap = H := hT
  rw [hTh] at f1 hold hrow f2
  replace hrow : ∀ j : Nat, j < n.toNatClampNeg → FF.heap[H.size + 1 + j]? = some (vp_cell comp (k.toNatClampNeg, .inl (fun _ => 0))) := fun j hj => by
    rw [hrow j hj, vp_cell_i]
  have hcA : V.2.1 3 = cA := Option.some.inj ((hK.1.2 3 _ rfl).2.symm.trans fA)
  have hcI : V.2.1 0 = comp := Option.some.inj ((hK.1.2 0 _ rfl).2.symm.trans fC)
  have hH1 : gw_H V (sh ++ (15, n.toNatClampNeg) :: List.replicate n.toNatClampNeg (12, k.toNatClampNeg), gw_z I sh.length (n.toNatClampNeg + 1) 0, gw_z J sh.length (n.toNatClampNeg + 1) 0, gw_mR F sh.length n.toNatClampNeg) s FF.heap locs := by
    refine gw_H_push (w := (sh, I, J, F)) hH hsh hK.2.1 rfl (fun q hq => ⟨gw_z_lt hq, gw_z_lt hq, ?_⟩) ?_ hold (fun q hq1 hq2 => ?_)
    · funext z
      show gw_mR F sh.length n.toNatClampNeg q z = F q z
      have hq : q < sh.length := hq
      unfold gw_mR
      rw [if_neg (by omega), gw_z_lt hq]
    · rw [f1]
      simp
      omega
    · have hq1 : sh.length ≤ q := hq1
      have hq2 : q < sh.length + ((15, n.toNatClampNeg) :: List.replicate n.toNatClampNeg (12, k.toNatClampNeg)).length := hq2
      rw [List.length_cons, List.length_replicate] at hq2
      by_cases e : q = sh.length
      · subst e
        rw [gw_cell_A gw_T_mo.1, had0]
        show FF.heap[H.size]? = some (vp_cell (V.2.1 3) (gw_N _ sh.length, .inr (.inr (.inr (.inr (fun j => gw_ro V (gw_mR F sh.length n.toNatClampNeg sh.length j)))))))
        rw [gw_T_mo.2, hcA, vp_cell_q, f2]
        refine congrArg (fun f => some (arrV cA n.toNatClampNeg f)) (funext fun j => ?_)
        unfold gw_mR
        rw [if_pos rfl]
        by_cases hj : j < n.toNatClampNeg
        · rw [if_pos hj, if_pos hj]
          unfold gw_ro
          rw [if_neg (by omega), show sh.length + 1 + j = sh.length + (1 + j) by omega, had (1 + j), show H.size + 1 + j = H.size + (1 + j) by omega]
          rfl
        · rw [if_neg hj, if_neg hj]
          rfl
      · obtain ⟨j, rfl⟩ : ∃ j, q = sh.length + 1 + j := ⟨q - (sh.length + 1), by omega⟩
        have hj : j < n.toNatClampNeg := by omega
        rw [gw_cell_I (gw_T_mr hj).1, show sh.length + 1 + j = sh.length + (1 + j) by omega, had (1 + j)]
        show FF.heap[H.size + (1 + j)]? = some (vp_cell (V.2.1 0) (gw_N _ (sh.length + (1 + j)), .inl (gw_z I sh.length (n.toNatClampNeg + 1) 0 (sh.length + (1 + j)))))
        rw [show sh.length + (1 + j) = sh.length + 1 + j by omega, (gw_T_mr hj).2, gw_z_in (by omega) (by omega), hcI, show H.size + (1 + j) = H.size + 1 + j by omega]
        exact hrow j hj
  obtain ⟨t, a1, b1⟩ := kk p l e R s m args below meth cd QQ FF.heap locs L X hH1 hl hret FF rfl X'
  refine ⟨t, step t ?_, b1⟩
  have e9 : T.heap.size = gw_ad V sh.length := by rw [hT, had0]
  rw [e9]
  exact a1
end
