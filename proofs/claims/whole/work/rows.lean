section
-- ===== PART A: goes FIRST, ahead of the names: the tables' words, and 'selects' of the private methods out of them =====
/-- a private method of a class that the tables say can be made, by its rows of tables_1 -/
def lw_okq (q : MethodName × Nat) : Prop := (q.1.cls ≠ "java/lang/invoke/MethodHandle" ∧ q.1.cls ≠ "java/lang/invoke/VarHandle") ∧ Cond.instantiable q.1.cls q.2 ∈ tables_1 ∧ Cond.privateMethod q.1 ∈ tables_1 ∧ Cond.instanceMethod q.1 ∈ tables_1
theorem lw_p0 : lw_okq (⟨"MorningBill$Text", "fits", "(II)Z"⟩, 2) := ⟨⟨by decide +kernel, by decide +kernel⟩, List.mem_of_getElem? (i := 25) (by decide +kernel), List.mem_of_getElem? (i := 391) (by decide +kernel), List.mem_of_getElem? (i := 392) (by decide +kernel)⟩
theorem lw_p1 : lw_okq (⟨"MorningBill$Text", "fitsHead", "(I)Z"⟩, 2) := ⟨⟨by decide +kernel, by decide +kernel⟩, List.mem_of_getElem? (i := 25) (by decide +kernel), List.mem_of_getElem? (i := 395) (by decide +kernel), List.mem_of_getElem? (i := 396) (by decide +kernel)⟩
theorem lw_p2 : lw_okq (⟨"MorningBill$Text", "isFigure", "(III)Z"⟩, 2) := ⟨⟨by decide +kernel, by decide +kernel⟩, List.mem_of_getElem? (i := 25) (by decide +kernel), List.mem_of_getElem? (i := 399) (by decide +kernel), List.mem_of_getElem? (i := 400) (by decide +kernel)⟩
theorem lw_p3 : lw_okq (⟨"MorningBill$Text", "fitsNose", "(II)Z"⟩, 2) := ⟨⟨by decide +kernel, by decide +kernel⟩, List.mem_of_getElem? (i := 25) (by decide +kernel), List.mem_of_getElem? (i := 407) (by decide +kernel), List.mem_of_getElem? (i := 408) (by decide +kernel)⟩
theorem lw_p4 : lw_okq (⟨"MorningBill$Text", "isWhole", "(I)Z"⟩, 2) := ⟨⟨by decide +kernel, by decide +kernel⟩, List.mem_of_getElem? (i := 25) (by decide +kernel), List.mem_of_getElem? (i := 411) (by decide +kernel), List.mem_of_getElem? (i := 412) (by decide +kernel)⟩
theorem lw_p5 : lw_okq (⟨"MorningBill", "hoursLeft", "()I"⟩, 12) := ⟨⟨by decide +kernel, by decide +kernel⟩, List.mem_of_getElem? (i := 17) (by decide +kernel), List.mem_of_getElem? (i := 479) (by decide +kernel), List.mem_of_getElem? (i := 480) (by decide +kernel)⟩
theorem lw_p6 : lw_okq (⟨"MorningBill$Walk", "pass", "(I)V"⟩, 13) := ⟨⟨by decide +kernel, by decide +kernel⟩, List.mem_of_getElem? (i := 198) (by decide +kernel), List.mem_of_getElem? (i := 507) (by decide +kernel), List.mem_of_getElem? (i := 508) (by decide +kernel)⟩
theorem lw_p7 : lw_okq (⟨"MorningBill$Walk", "emptyChimneys", "([I)V"⟩, 13) := ⟨⟨by decide +kernel, by decide +kernel⟩, List.mem_of_getElem? (i := 198) (by decide +kernel), List.mem_of_getElem? (i := 514) (by decide +kernel), List.mem_of_getElem? (i := 515) (by decide +kernel)⟩
theorem lw_p8 : lw_okq (⟨"MorningBill$Walk", "settle", "(IZZ)V"⟩, 13) := ⟨⟨by decide +kernel, by decide +kernel⟩, List.mem_of_getElem? (i := 198) (by decide +kernel), List.mem_of_getElem? (i := 518) (by decide +kernel), List.mem_of_getElem? (i := 519) (by decide +kernel)⟩
theorem lw_p9 : lw_okq (⟨"MorningBill", "follow", "(I)V"⟩, 12) := ⟨⟨by decide +kernel, by decide +kernel⟩, List.mem_of_getElem? (i := 17) (by decide +kernel), List.mem_of_getElem? (i := 551) (by decide +kernel), List.mem_of_getElem? (i := 552) (by decide +kernel)⟩
theorem lw_p10 : lw_okq (⟨"MorningBill$Groups", "addUp", "(I)V"⟩, 4) := ⟨⟨by decide +kernel, by decide +kernel⟩, List.mem_of_getElem? (i := 270) (by decide +kernel), List.mem_of_getElem? (i := 604) (by decide +kernel), List.mem_of_getElem? (i := 605) (by decide +kernel)⟩
theorem lw_p11 : lw_okq (⟨"MorningBill", "planOfFigures", "(II)I"⟩, 12) := ⟨⟨by decide +kernel, by decide +kernel⟩, List.mem_of_getElem? (i := 17) (by decide +kernel), List.mem_of_getElem? (i := 639) (by decide +kernel), List.mem_of_getElem? (i := 640) (by decide +kernel)⟩
theorem lw_p12 : lw_okq (⟨"MorningBill$Sights", "agree", "(LMorningBill$Street;LMorningBill$Walk;)Z"⟩, 7) := ⟨⟨by decide +kernel, by decide +kernel⟩, List.mem_of_getElem? (i := 166) (by decide +kernel), List.mem_of_getElem? (i := 690) (by decide +kernel), List.mem_of_getElem? (i := 691) (by decide +kernel)⟩
theorem lw_p13 : lw_okq (⟨"MorningBill", "meanAbove", "(III)J"⟩, 12) := ⟨⟨by decide +kernel, by decide +kernel⟩, List.mem_of_getElem? (i := 17) (by decide +kernel), List.mem_of_getElem? (i := 703) (by decide +kernel), List.mem_of_getElem? (i := 704) (by decide +kernel)⟩
theorem lw_p14 : lw_okq (⟨"MorningBill$Rivals", "follow", "(LMorningBill$Morning;I[[I)V"⟩, 8) := ⟨⟨by decide +kernel, by decide +kernel⟩, List.mem_of_getElem? (i := 289) (by decide +kernel), List.mem_of_getElem? (i := 728) (by decide +kernel), List.mem_of_getElem? (i := 729) (by decide +kernel)⟩
theorem lw_p15 : lw_okq (⟨"MorningBill$Rivals", "divide", "(II)V"⟩, 8) := ⟨⟨by decide +kernel, by decide +kernel⟩, List.mem_of_getElem? (i := 289) (by decide +kernel), List.mem_of_getElem? (i := 734) (by decide +kernel), List.mem_of_getElem? (i := 735) (by decide +kernel)⟩
def lw_privs_1 : List (MethodName × Nat) := [(⟨"MorningBill$Text", "fits", "(II)Z"⟩, 2), (⟨"MorningBill$Text", "fitsHead", "(I)Z"⟩, 2), (⟨"MorningBill$Text", "isFigure", "(III)Z"⟩, 2), (⟨"MorningBill$Text", "fitsNose", "(II)Z"⟩, 2), (⟨"MorningBill$Text", "isWhole", "(I)Z"⟩, 2), (⟨"MorningBill", "hoursLeft", "()I"⟩, 12), (⟨"MorningBill$Walk", "pass", "(I)V"⟩, 13), (⟨"MorningBill$Walk", "emptyChimneys", "([I)V"⟩, 13), (⟨"MorningBill$Walk", "settle", "(IZZ)V"⟩, 13), (⟨"MorningBill", "follow", "(I)V"⟩, 12), (⟨"MorningBill$Groups", "addUp", "(I)V"⟩, 4), (⟨"MorningBill", "planOfFigures", "(II)I"⟩, 12), (⟨"MorningBill$Sights", "agree", "(LMorningBill$Street;LMorningBill$Walk;)Z"⟩, 7), (⟨"MorningBill", "meanAbove", "(III)J"⟩, 12), (⟨"MorningBill$Rivals", "follow", "(LMorningBill$Morning;I[[I)V"⟩, 8), (⟨"MorningBill$Rivals", "divide", "(II)V"⟩, 8)]
theorem lw_r1 : ∀ q ∈ lw_privs_1, lw_okq q := List.forall_mem_cons.mpr ⟨lw_p0, List.forall_mem_cons.mpr ⟨lw_p1, List.forall_mem_cons.mpr ⟨lw_p2, List.forall_mem_cons.mpr ⟨lw_p3, List.forall_mem_cons.mpr ⟨lw_p4, List.forall_mem_cons.mpr ⟨lw_p5, List.forall_mem_cons.mpr ⟨lw_p6, List.forall_mem_cons.mpr ⟨lw_p7, List.forall_mem_cons.mpr ⟨lw_p8, List.forall_mem_cons.mpr ⟨lw_p9, List.forall_mem_cons.mpr ⟨lw_p10, List.forall_mem_cons.mpr ⟨lw_p11, List.forall_mem_cons.mpr ⟨lw_p12, List.forall_mem_cons.mpr ⟨lw_p13, List.forall_mem_cons.mpr ⟨lw_p14, List.forall_mem_cons.mpr ⟨lw_p15, fun _ h => absurd h List.not_mem_nil⟩⟩⟩⟩⟩⟩⟩⟩⟩⟩⟩⟩⟩⟩⟩⟩
theorem lw_p16 : lw_okq (⟨"MorningBill$Rivals", "findRest", "()V"⟩, 8) := ⟨⟨by decide +kernel, by decide +kernel⟩, List.mem_of_getElem? (i := 289) (by decide +kernel), List.mem_of_getElem? (i := 742) (by decide +kernel), List.mem_of_getElem? (i := 743) (by decide +kernel)⟩
theorem lw_p17 : lw_okq (⟨"MorningBill$Rivals", "isAtRest", "(II)Z"⟩, 8) := ⟨⟨by decide +kernel, by decide +kernel⟩, List.mem_of_getElem? (i := 289) (by decide +kernel), List.mem_of_getElem? (i := 746) (by decide +kernel), List.mem_of_getElem? (i := 747) (by decide +kernel)⟩
theorem lw_p18 : lw_okq (⟨"MorningBill$Rivals", "hourOf", "(I)I"⟩, 8) := ⟨⟨by decide +kernel, by decide +kernel⟩, List.mem_of_getElem? (i := 289) (by decide +kernel), List.mem_of_getElem? (i := 750) (by decide +kernel), List.mem_of_getElem? (i := 751) (by decide +kernel)⟩
theorem lw_p19 : lw_okq (⟨"MorningBill", "planOfSeed", "()I"⟩, 12) := ⟨⟨by decide +kernel, by decide +kernel⟩, List.mem_of_getElem? (i := 17) (by decide +kernel), List.mem_of_getElem? (i := 762) (by decide +kernel), List.mem_of_getElem? (i := 763) (by decide +kernel)⟩
theorem lw_p20 : lw_okq (⟨"MorningBillModel", "readText", "()I"⟩, 37) := ⟨⟨by decide +kernel, by decide +kernel⟩, List.mem_of_getElem? (i := 790) (by decide +kernel), List.mem_of_getElem? (i := 924) (by decide +kernel), List.mem_of_getElem? (i := 925) (by decide +kernel)⟩
theorem lw_p21 : lw_okq (⟨"MorningBillModel", "figure", "(II)I"⟩, 37) := ⟨⟨by decide +kernel, by decide +kernel⟩, List.mem_of_getElem? (i := 790) (by decide +kernel), List.mem_of_getElem? (i := 928) (by decide +kernel), List.mem_of_getElem? (i := 929) (by decide +kernel)⟩
theorem lw_p22 : lw_okq (⟨"MorningBillModel", "readNose", "()V"⟩, 37) := ⟨⟨by decide +kernel, by decide +kernel⟩, List.mem_of_getElem? (i := 790) (by decide +kernel), List.mem_of_getElem? (i := 935) (by decide +kernel), List.mem_of_getElem? (i := 936) (by decide +kernel)⟩
theorem lw_p23 : lw_okq (⟨"MorningBillModel", "isNose", "(I)Z"⟩, 37) := ⟨⟨by decide +kernel, by decide +kernel⟩, List.mem_of_getElem? (i := 790) (by decide +kernel), List.mem_of_getElem? (i := 956) (by decide +kernel), List.mem_of_getElem? (i := 957) (by decide +kernel)⟩
theorem lw_p24 : lw_okq (⟨"MorningBillModel", "hasIt", "(II)Z"⟩, 37) := ⟨⟨by decide +kernel, by decide +kernel⟩, List.mem_of_getElem? (i := 790) (by decide +kernel), List.mem_of_getElem? (i := 961) (by decide +kernel), List.mem_of_getElem? (i := 962) (by decide +kernel)⟩
theorem lw_p25 : lw_okq (⟨"MorningBillModel", "keepAct", "()V"⟩, 37) := ⟨⟨by decide +kernel, by decide +kernel⟩, List.mem_of_getElem? (i := 790) (by decide +kernel), List.mem_of_getElem? (i := 973) (by decide +kernel), List.mem_of_getElem? (i := 974) (by decide +kernel)⟩
theorem lw_p26 : lw_okq (⟨"MorningBillModel", "layWinds", "()V"⟩, 37) := ⟨⟨by decide +kernel, by decide +kernel⟩, List.mem_of_getElem? (i := 790) (by decide +kernel), List.mem_of_getElem? (i := 977) (by decide +kernel), List.mem_of_getElem? (i := 978) (by decide +kernel)⟩
theorem lw_p27 : lw_okq (⟨"MorningBillModel", "pass", "(IZI)I"⟩, 37) := ⟨⟨by decide +kernel, by decide +kernel⟩, List.mem_of_getElem? (i := 790) (by decide +kernel), List.mem_of_getElem? (i := 981) (by decide +kernel), List.mem_of_getElem? (i := 982) (by decide +kernel)⟩
theorem lw_p28 : lw_okq (⟨"MorningBillModel", "drift", "(III)V"⟩, 37) := ⟨⟨by decide +kernel, by decide +kernel⟩, List.mem_of_getElem? (i := 790) (by decide +kernel), List.mem_of_getElem? (i := 985) (by decide +kernel), List.mem_of_getElem? (i := 986) (by decide +kernel)⟩
theorem lw_p29 : lw_okq (⟨"MorningBillModel", "pays", "(IZI)I"⟩, 37) := ⟨⟨by decide +kernel, by decide +kernel⟩, List.mem_of_getElem? (i := 790) (by decide +kernel), List.mem_of_getElem? (i := 992) (by decide +kernel), List.mem_of_getElem? (i := 993) (by decide +kernel)⟩
theorem lw_p30 : lw_okq (⟨"MorningBillModel", "whoHas", "(I)I"⟩, 37) := ⟨⟨by decide +kernel, by decide +kernel⟩, List.mem_of_getElem? (i := 790) (by decide +kernel), List.mem_of_getElem? (i := 996) (by decide +kernel), List.mem_of_getElem? (i := 997) (by decide +kernel)⟩
theorem lw_p31 : lw_okq (⟨"MorningBillModel", "run", "(II)I"⟩, 37) := ⟨⟨by decide +kernel, by decide +kernel⟩, List.mem_of_getElem? (i := 790) (by decide +kernel), List.mem_of_getElem? (i := 1013) (by decide +kernel), List.mem_of_getElem? (i := 1014) (by decide +kernel)⟩
def lw_privs_2 : List (MethodName × Nat) := [(⟨"MorningBill$Rivals", "findRest", "()V"⟩, 8), (⟨"MorningBill$Rivals", "isAtRest", "(II)Z"⟩, 8), (⟨"MorningBill$Rivals", "hourOf", "(I)I"⟩, 8), (⟨"MorningBill", "planOfSeed", "()I"⟩, 12), (⟨"MorningBillModel", "readText", "()I"⟩, 37), (⟨"MorningBillModel", "figure", "(II)I"⟩, 37), (⟨"MorningBillModel", "readNose", "()V"⟩, 37), (⟨"MorningBillModel", "isNose", "(I)Z"⟩, 37), (⟨"MorningBillModel", "hasIt", "(II)Z"⟩, 37), (⟨"MorningBillModel", "keepAct", "()V"⟩, 37), (⟨"MorningBillModel", "layWinds", "()V"⟩, 37), (⟨"MorningBillModel", "pass", "(IZI)I"⟩, 37), (⟨"MorningBillModel", "drift", "(III)V"⟩, 37), (⟨"MorningBillModel", "pays", "(IZI)I"⟩, 37), (⟨"MorningBillModel", "whoHas", "(I)I"⟩, 37), (⟨"MorningBillModel", "run", "(II)I"⟩, 37)]
theorem lw_r2 : ∀ q ∈ lw_privs_2, lw_okq q := List.forall_mem_cons.mpr ⟨lw_p16, List.forall_mem_cons.mpr ⟨lw_p17, List.forall_mem_cons.mpr ⟨lw_p18, List.forall_mem_cons.mpr ⟨lw_p19, List.forall_mem_cons.mpr ⟨lw_p20, List.forall_mem_cons.mpr ⟨lw_p21, List.forall_mem_cons.mpr ⟨lw_p22, List.forall_mem_cons.mpr ⟨lw_p23, List.forall_mem_cons.mpr ⟨lw_p24, List.forall_mem_cons.mpr ⟨lw_p25, List.forall_mem_cons.mpr ⟨lw_p26, List.forall_mem_cons.mpr ⟨lw_p27, List.forall_mem_cons.mpr ⟨lw_p28, List.forall_mem_cons.mpr ⟨lw_p29, List.forall_mem_cons.mpr ⟨lw_p30, List.forall_mem_cons.mpr ⟨lw_p31, fun _ h => absurd h List.not_mem_nil⟩⟩⟩⟩⟩⟩⟩⟩⟩⟩⟩⟩⟩⟩⟩⟩
theorem lw_p32 : lw_okq (⟨"MorningBillModel", "lay", "(II)V"⟩, 37) := ⟨⟨by decide +kernel, by decide +kernel⟩, List.mem_of_getElem? (i := 790) (by decide +kernel), List.mem_of_getElem? (i := 1017) (by decide +kernel), List.mem_of_getElem? (i := 1018) (by decide +kernel)⟩
theorem lw_p33 : lw_okq (⟨"MorningBillModel", "bestBy", "(I)I"⟩, 37) := ⟨⟨by decide +kernel, by decide +kernel⟩, List.mem_of_getElem? (i := 790) (by decide +kernel), List.mem_of_getElem? (i := 1025) (by decide +kernel), List.mem_of_getElem? (i := 1026) (by decide +kernel)⟩
theorem lw_p34 : lw_okq (⟨"MorningBillModel", "left", "()I"⟩, 37) := ⟨⟨by decide +kernel, by decide +kernel⟩, List.mem_of_getElem? (i := 790) (by decide +kernel), List.mem_of_getElem? (i := 1029) (by decide +kernel), List.mem_of_getElem? (i := 1030) (by decide +kernel)⟩
theorem lw_p35 : lw_okq (⟨"MorningBillModel", "isSeen", "(I)Z"⟩, 37) := ⟨⟨by decide +kernel, by decide +kernel⟩, List.mem_of_getElem? (i := 790) (by decide +kernel), List.mem_of_getElem? (i := 1081) (by decide +kernel), List.mem_of_getElem? (i := 1082) (by decide +kernel)⟩
theorem lw_p36 : lw_okq (⟨"MorningBillModel", "meanOf", "(IIIZ)J"⟩, 37) := ⟨⟨by decide +kernel, by decide +kernel⟩, List.mem_of_getElem? (i := 790) (by decide +kernel), List.mem_of_getElem? (i := 1091) (by decide +kernel), List.mem_of_getElem? (i := 1092) (by decide +kernel)⟩
theorem lw_p37 : lw_okq (⟨"MorningBillModel", "isChoice", "(I)Z"⟩, 37) := ⟨⟨by decide +kernel, by decide +kernel⟩, List.mem_of_getElem? (i := 790) (by decide +kernel), List.mem_of_getElem? (i := 1104) (by decide +kernel), List.mem_of_getElem? (i := 1105) (by decide +kernel)⟩
theorem lw_p38 : lw_okq (⟨"MorningBillModel", "runTwo", "(III)V"⟩, 37) := ⟨⟨by decide +kernel, by decide +kernel⟩, List.mem_of_getElem? (i := 790) (by decide +kernel), List.mem_of_getElem? (i := 1108) (by decide +kernel), List.mem_of_getElem? (i := 1109) (by decide +kernel)⟩
theorem lw_p39 : lw_okq (⟨"MorningBillModel", "isRest", "(II)Z"⟩, 37) := ⟨⟨by decide +kernel, by decide +kernel⟩, List.mem_of_getElem? (i := 790) (by decide +kernel), List.mem_of_getElem? (i := 1112) (by decide +kernel), List.mem_of_getElem? (i := 1113) (by decide +kernel)⟩
def lw_privs_3 : List (MethodName × Nat) := [(⟨"MorningBillModel", "lay", "(II)V"⟩, 37), (⟨"MorningBillModel", "bestBy", "(I)I"⟩, 37), (⟨"MorningBillModel", "left", "()I"⟩, 37), (⟨"MorningBillModel", "isSeen", "(I)Z"⟩, 37), (⟨"MorningBillModel", "meanOf", "(IIIZ)J"⟩, 37), (⟨"MorningBillModel", "isChoice", "(I)Z"⟩, 37), (⟨"MorningBillModel", "runTwo", "(III)V"⟩, 37), (⟨"MorningBillModel", "isRest", "(II)Z"⟩, 37)]
theorem lw_r3 : ∀ q ∈ lw_privs_3, lw_okq q := List.forall_mem_cons.mpr ⟨lw_p32, List.forall_mem_cons.mpr ⟨lw_p33, List.forall_mem_cons.mpr ⟨lw_p34, List.forall_mem_cons.mpr ⟨lw_p35, List.forall_mem_cons.mpr ⟨lw_p36, List.forall_mem_cons.mpr ⟨lw_p37, List.forall_mem_cons.mpr ⟨lw_p38, List.forall_mem_cons.mpr ⟨lw_p39, fun _ h => absurd h List.not_mem_nil⟩⟩⟩⟩⟩⟩⟩⟩
def lw_privs : List (MethodName × Nat) := lw_privs_1 ++ (lw_privs_2 ++ (lw_privs_3))
def lw_tbl : List Cond := k2_sels lw_privs ++ tables_1
theorem lw_privs_ok : ∀ q ∈ lw_privs, lw_okq q := by
  show ∀ q ∈ lw_privs_1 ++ (lw_privs_2 ++ (lw_privs_3)), lw_okq q
  exact List.forall_mem_append.mpr ⟨lw_r1, List.forall_mem_append.mpr ⟨lw_r2, lw_r3⟩⟩
end
section
def gb_nl : List String := ["MorningBill$Acts", "MorningBill$Choice", "MorningBill$Groups", "MorningBill$Morning", "MorningBill$Rivals", "MorningBill$Sights", "MorningBill$Slots", "MorningBill$Street", "MorningBill$Text", "MorningBill$Walk", "MorningBill", "MorningBillModel", "MorningBillLaw", "java/lang/Integer", "java/lang/Math"]
def gb_n (c : Nat) : String := gb_nl.getD c ""
def gb_Fl : List (List (String × String × String × Bool)) := [[("MorningBill$Acts", "before", "[LMorningBill$Morning;", true), ("MorningBill$Acts", "next", "I", false), ("MorningBill$Acts", "size", "I", false)],
  [("MorningBill$Choice", "walk", "LMorningBill$Walk;", true), ("MorningBill$Choice", "plan", "I", false), ("MorningBill$Choice", "comes", "I", false)],
  [("MorningBill$Groups", "street", "LMorningBill$Street;", true), ("MorningBill$Groups", "walk", "LMorningBill$Walk;", true), ("MorningBill$Groups", "worth", "[I", true), ("MorningBill$Groups", "comes", "[I", true)],
  [("MorningBill$Morning", "smells", "[I", true), ("MorningBill$Morning", "chimneys", "I", false), ("MorningBill$Morning", "pennies", "I", false), ("MorningBill$Morning", "hour", "I", false)],
  [("MorningBill$Rivals", "street", "LMorningBill$Street;", true), ("MorningBill$Rivals", "walk", "LMorningBill$Walk;", true), ("MorningBill$Rivals", "ofFirst", "[[I", true), ("MorningBill$Rivals", "ofSecond", "[[I", true), ("MorningBill$Rivals", "firstHas", "[[I", true), ("MorningBill$Rivals", "secondHas", "[[I", true), ("MorningBill$Rivals", "pairsAtRest", "I", false), ("MorningBill$Rivals", "firstAtRest", "I", false)],
  [("MorningBill$Sights", "noses", "[I", true), ("MorningBill$Sights", "hours", "[I", true), ("MorningBill$Sights", "had", "[Z", true), ("MorningBill$Sights", "size", "I", false), ("MorningBill$Sights", "plans", "I", false), ("MorningBill$Sights", "hoursOfAll", "I", false), ("MorningBill$Sights", "hoursOfNone", "I", false)],
  [("MorningBill$Slots", "kept", "[LMorningBill$Morning;", true), ("MorningBill$Slots", "isKept", "[Z", true)],
  [("MorningBill$Street", "baker", "I", false), ("MorningBill$Street", "strength", "I", false), ("MorningBill$Street", "cost", "I", false), ("MorningBill$Street", "winds", "I", false), ("MorningBill$Street", "noses", "I", false), ("MorningBill$Street", "wind", "[I", true), ("MorningBill$Street", "cell", "[I", true), ("MorningBill$Street", "wants", "[I", true), ("MorningBill$Street", "price", "[I", true), ("MorningBill$Street", "contract", "[I", true)],
  [("MorningBill$Text", "letters", "[I", true), ("MorningBill$Text", "length", "I", false)],
  [("MorningBill$Walk", "street", "LMorningBill$Street;", true), ("MorningBill$Walk", "smells", "[[I", true), ("MorningBill$Walk", "paid", "[[I", true), ("MorningBill$Walk", "pennies", "[I", true), ("MorningBill$Walk", "had", "[I", true), ("MorningBill$Walk", "has", "[I", true), ("MorningBill$Walk", "chimneys", "I", false), ("MorningBill$Walk", "baker", "I", false), ("MorningBill$Walk", "plan", "I", false), ("MorningBill$Walk", "turns", "I", false), ("MorningBill$Walk", "followed", "I", false), ("MorningBill$Walk", "firstHour", "I", false), ("MorningBill$Walk", "left", "I", false)],
  [("MorningBill", "text", "LMorningBill$Text;", true), ("MorningBill", "street", "LMorningBill$Street;", true), ("MorningBill", "now", "LMorningBill$Morning;", true), ("MorningBill", "supposed", "LMorningBill$Morning;", true), ("MorningBill", "acts", "LMorningBill$Acts;", true), ("MorningBill", "slots", "LMorningBill$Slots;", true), ("MorningBill", "sights", "LMorningBill$Sights;", true), ("MorningBill", "walk", "LMorningBill$Walk;", true), ("MorningBill", "choice", "LMorningBill$Choice;", true), ("MorningBill", "groups", "LMorningBill$Groups;", true), ("MorningBill", "rivals", "LMorningBill$Rivals;", true), ("MorningBill", "theSeed", "J", false)],
  [("MorningBillModel", "baker", "I", false), ("MorningBillModel", "strength", "I", false), ("MorningBillModel", "cost", "I", false), ("MorningBillModel", "winds", "I", false), ("MorningBillModel", "noses", "I", false), ("MorningBillModel", "wind", "[I", true), ("MorningBillModel", "blows", "[I", true), ("MorningBillModel", "nose", "[I", true), ("MorningBillModel", "read", "[I", true), ("MorningBillModel", "readWind", "[I", true), ("MorningBillModel", "readNose", "[I", true), ("MorningBillModel", "readWinds", "I", false), ("MorningBillModel", "readNoses", "I", false), ("MorningBillModel", "now", "[I", true), ("MorningBillModel", "text", "[I", true), ("MorningBillModel", "length", "I", false), ("MorningBillModel", "at", "I", false), ("MorningBillModel", "faultAt", "I", false), ("MorningBillModel", "then", "[I", true), ("MorningBillModel", "acts", "I", false), ("MorningBillModel", "next", "I", false), ("MorningBillModel", "row", "[I", true), ("MorningBillModel", "hadBy", "I", false), ("MorningBillModel", "bestPlan", "I", false), ("MorningBillModel", "bests", "[I", true), ("MorningBillModel", "seen", "I", false), ("MorningBillModel", "seenOf", "[I", true), ("MorningBillModel", "seenAt", "[I", true), ("MorningBillModel", "seenHas", "[Z", true), ("MorningBillModel", "parts", "J", false), ("MorningBillModel", "firstHas", "I", false), ("MorningBillModel", "secondHas", "I", false), ("MorningBillModel", "firsts", "[I", true), ("MorningBillModel", "seconds", "[I", true), ("MorningBillModel", "seed", "J", false), ("MorningBillModel", "isKept", "[Z", true), ("MorningBillModel", "kept", "[I", true)]]
def gb_F (c : Nat) : u_T := fun k => (gb_Fl.getD c []).getD k ("", "", "", false)
def gb_Kl : List Nat := [3, 3, 4, 4, 8, 7, 2, 10, 2, 13, 12, 37]
def gb_K (c : Nat) : Nat := gb_Kl.getD c 0
def gb_Tl : List (List FieldType) := [[(.array (.object "MorningBill$Morning")), .int, .int],
  [(.object "MorningBill$Walk"), .int, .int],
  [(.object "MorningBill$Street"), (.object "MorningBill$Walk"), (.array .int), (.array .int)],
  [(.array .int), .int, .int, .int],
  [(.object "MorningBill$Street"), (.object "MorningBill$Walk"), (.array (.array .int)), (.array (.array .int)), (.array (.array .int)), (.array (.array .int)), .int, .int],
  [(.array .int), (.array .int), (.array .boolean), .int, .int, .int, .int],
  [(.array (.object "MorningBill$Morning")), (.array .boolean)],
  [.int, .int, .int, .int, .int, (.array .int), (.array .int), (.array .int), (.array .int), (.array .int)],
  [(.array .int), .int],
  [(.object "MorningBill$Street"), (.array (.array .int)), (.array (.array .int)), (.array .int), (.array .int), (.array .int), .int, .int, .int, .int, .int, .int, .int],
  [(.object "MorningBill$Text"), (.object "MorningBill$Street"), (.object "MorningBill$Morning"), (.object "MorningBill$Morning"), (.object "MorningBill$Acts"), (.object "MorningBill$Slots"), (.object "MorningBill$Sights"), (.object "MorningBill$Walk"), (.object "MorningBill$Choice"), (.object "MorningBill$Groups"), (.object "MorningBill$Rivals"), .long],
  [.int, .int, .int, .int, .int, (.array .int), (.array .int), (.array .int), (.array .int), (.array .int), (.array .int), .int, .int, (.array .int), (.array .int), .int, .int, .int, (.array .int), .int, .int, (.array .int), .int, .int, (.array .int), .int, (.array .int), (.array .int), (.array .boolean), .long, .int, .int, (.array .int), (.array .int), .long, (.array .boolean), (.array .int)]]
def gb_ty (c : Nat) : Nat → FieldType := fun k => (gb_Tl.getD c []).getD k .int
/-- the kind of a slot: 0 an int, 1 a long, 2 a reference -/
def gb_Sl : List (List Nat) := [[2, 0, 0], [2, 0, 0], [2, 2, 2, 2], [2, 0, 0, 0], [2, 2, 2, 2, 2, 2, 0, 0], [2, 2, 2, 0, 0, 0, 0], [2, 2], [0, 0, 0, 0, 0, 2, 2, 2, 2, 2], [2, 0], [2, 2, 2, 2, 2, 2, 0, 0, 0, 0, 0, 0, 0], [2, 2, 2, 2, 2, 2, 2, 2, 2, 2, 2, 1], [0, 0, 0, 0, 0, 2, 2, 2, 2, 2, 2, 0, 0, 2, 2, 0, 0, 0, 2, 0, 0, 2, 0, 0, 2, 0, 2, 2, 2, 1, 0, 0, 2, 2, 1, 2, 2]]
def gb_s (c k : Nat) : Nat := (gb_Sl.getD c []).getD k 9
def gb_cl : List vw_C := (List.range 12).map (fun c => (gb_n c, gb_F c, gb_K c))
def gb_t : List Cond := lw_tbl.filter goodWord
theorem gb_tin {w : Cond} (h : w ∈ lw_tbl) (g : goodWord w = true) : w ∈ gb_t := List.mem_filter.mpr ⟨h, g⟩
theorem gb_at {w : Cond} (i : Nat) (h : (lw_tbl[i]? == some w) = true) : w ∈ lw_tbl := List.mem_of_getElem? (i := i) (by simpa using h)
theorem gb_cl_get {c : Nat} (h : c < 12) : gb_cl[c]? = some (gb_n c, gb_F c, gb_K c) := by
  unfold gb_cl
  rw [List.getElem?_map, List.getElem?_range h]
  rfl
theorem gb_nm : ∀ c, c < 12 → ∀ a, a < gb_K c → ∀ b, b < gb_K c → a ≠ b → (gb_F c a).2.1 ≠ (gb_F c b).2.1 := by decide +kernel
theorem gb_tok : ∀ c, c < 12 → ∀ k, k < gb_K c → parseFieldDescriptor (gb_F c k).2.2.1 = some (gb_ty c k) := by decide +kernel
set_option maxRecDepth 100000 in
theorem gb_lay0 : ∀ c, c < 12 → ∀ w ∈ u_ws (gb_n c) (gb_F c) (gb_K c), w ∈ lw_tbl ∧ goodWord w = true := by decide +kernel
theorem gb_lay {c : Nat} (h : c < 12) : ∀ w ∈ u_ws (gb_n c) (gb_F c) (gb_K c), w ∈ gb_t := fun w hw => gb_tin (gb_lay0 c h w hw).1 (gb_lay0 c h w hw).2
/-- the methods: name, bytes, locals, answer, class, kind (0 static, 1 of an object, 2 a constructor), parameters; room: frames, words, cells, slots -/
abbrev gb_R : Type := MethodName × ByteArray × Nat × Option FieldType × Nat × Nat × Nat × Nat × Nat × Nat × Nat
def gb_M0 : List gb_R := [
  (⟨"MorningBill$Acts", "<init>", "()V"⟩, prog_2_method_1_code, 2, none, 0, 2, 0, 2, 40, 29, 210),
  (⟨"MorningBill$Acts", "forget", "()V"⟩, prog_2_method_2_code, 1, none, 0, 1, 0, 0, 0, 0, 0),
  (⟨"MorningBill$Acts", "remember", "(LMorningBill$Morning;)V"⟩, prog_2_method_3_code, 2, none, 0, 1, 1, 2, 47, 0, 0),
  (⟨"MorningBill$Acts", "takeBack", "(LMorningBill$Morning;)Z"⟩, prog_2_method_4_code, 2, (some .boolean), 0, 1, 1, 2, 47, 0, 0),
  (⟨"MorningBill$Choice", "<init>", "(LMorningBill$Walk;)V"⟩, prog_3_method_1_code, 2, none, 1, 2, 1, 1, 20, 0, 0),
  (⟨"MorningBill$Choice", "findBest", "()V"⟩, prog_3_method_2_code, 4, none, 1, 1, 0, 4, 100, 0, 0),
  (⟨"MorningBill$Choice", "findOnly", "(I)Z"⟩, prog_3_method_3_code, 5, (some .boolean), 1, 1, 1, 4, 100, 0, 0),
  (⟨"MorningBill$Choice", "isSmaller", "(II)Z"⟩, prog_3_method_4_code, 3, (some .boolean), 1, 0, 2, 1, 20, 0, 0),
  (⟨"MorningBill$Groups", "<init>", "(LMorningBill$Street;LMorningBill$Walk;)V"⟩, prog_4_method_1_code, 3, none, 2, 2, 2, 1, 20, 2, 128),
  (⟨"MorningBill$Groups", "weigh", "()V"⟩, prog_4_method_2_code, 4, none, 2, 1, 0, 4, 100, 0, 0),
  (⟨"MorningBill$Groups", "addUp", "(I)V"⟩, prog_4_method_3_code, 5, none, 2, 1, 1, 1, 21, 0, 0),
  (⟨"MorningBill$Groups", "shareAbove", "(I)J"⟩, prog_4_method_4_code, 8, (some .long), 2, 1, 1, 1, 21, 0, 0),
  (⟨"MorningBill$Morning", "<init>", "()V"⟩, prog_5_method_1_code, 1, none, 3, 2, 0, 1, 20, 1, 10),
  (⟨"MorningBill$Morning", "begin", "()V"⟩, prog_5_method_2_code, 1, none, 3, 1, 0, 1, 21, 0, 0),
  (⟨"MorningBill$Morning", "clearSmells", "()V"⟩, prog_5_method_3_code, 2, none, 3, 1, 0, 0, 0, 0, 0),
  (⟨"MorningBill$Morning", "copyFrom", "(LMorningBill$Morning;)V"⟩, prog_5_method_4_code, 2, none, 3, 1, 1, 1, 26, 0, 0),
  (⟨"MorningBill$Rivals", "<init>", "(LMorningBill$Street;LMorningBill$Walk;)V"⟩, prog_6_method_1_code, 3, none, 4, 2, 2, 1, 20, 40, 1062),
  (⟨"MorningBill$Rivals", "meet", "(LMorningBill$Morning;LMorningBill$Morning;I)V"⟩, prog_6_method_2_code, 6, none, 4, 1, 3, 5, 126, 0, 0),
  (⟨"MorningBill$Rivals", "follow", "(LMorningBill$Morning;I[[I)V"⟩, prog_6_method_3_code, 7, none, 4, 1, 3, 4, 100, 0, 0),
  (⟨"MorningBill$Rivals", "divide", "(II)V"⟩, prog_6_method_4_code, 11, none, 4, 1, 2, 1, 26, 0, 0)]
def gb_M1 : List gb_R := [
  (⟨"MorningBill$Rivals", "findRest", "()V"⟩, prog_6_method_5_code, 3, none, 4, 1, 0, 1, 23, 0, 0),
  (⟨"MorningBill$Rivals", "isAtRest", "(II)Z"⟩, prog_6_method_6_code, 4, (some .boolean), 4, 1, 2, 0, 0, 0, 0),
  (⟨"MorningBill$Rivals", "hourOf", "(I)I"⟩, prog_6_method_7_code, 2, (some .int), 4, 1, 1, 0, 0, 0, 0),
  (⟨"MorningBill$Sights", "<init>", "()V"⟩, prog_7_method_1_code, 1, none, 5, 2, 0, 1, 20, 3, 18),
  (⟨"MorningBill$Sights", "add", "(IIZ)Z"⟩, prog_7_method_2_code, 4, (some .boolean), 5, 1, 3, 0, 0, 0, 0),
  (⟨"MorningBill$Sights", "explain", "(LMorningBill$Street;LMorningBill$Walk;)V"⟩, prog_7_method_3_code, 5, none, 5, 1, 2, 4, 100, 0, 0),
  (⟨"MorningBill$Sights", "agree", "(LMorningBill$Street;LMorningBill$Walk;)Z"⟩, prog_7_method_4_code, 5, (some .boolean), 5, 1, 2, 1, 21, 0, 0),
  (⟨"MorningBill$Slots", "<init>", "()V"⟩, prog_8_method_1_code, 2, none, 6, 2, 0, 2, 40, 6, 32),
  (⟨"MorningBill$Slots", "forget", "()V"⟩, prog_8_method_2_code, 2, none, 6, 1, 0, 0, 0, 0, 0),
  (⟨"MorningBill$Slots", "put", "(ILMorningBill$Morning;)V"⟩, prog_8_method_3_code, 3, none, 6, 1, 2, 2, 47, 0, 0),
  (⟨"MorningBill$Slots", "give", "(ILMorningBill$Morning;)Z"⟩, prog_8_method_4_code, 3, (some .boolean), 6, 1, 2, 2, 47, 0, 0),
  (⟨"MorningBill$Street", "<init>", "()V"⟩, prog_9_method_1_code, 1, none, 7, 2, 0, 1, 20, 5, 32),
  (⟨"MorningBill$Street", "readFrom", "(LMorningBill$Text;)V"⟩, prog_9_method_2_code, 4, none, 7, 1, 1, 2, 42, 0, 0),
  (⟨"MorningBill$Street", "windOf", "(I)I"⟩, prog_9_method_3_code, 1, (some .int), 7, 0, 1, 0, 0, 0, 0),
  (⟨"MorningBill$Street", "hasNose", "(I)Z"⟩, prog_9_method_4_code, 2, (some .boolean), 7, 1, 1, 0, 0, 0, 0),
  (⟨"MorningBill$Street", "whoHas", "([I)I"⟩, prog_9_method_5_code, 4, (some .int), 7, 1, 1, 0, 0, 0, 0),
  (⟨"MorningBill$Street", "due", "(IZZ)I"⟩, prog_9_method_6_code, 4, (some .int), 7, 1, 3, 0, 0, 0, 0),
  (⟨"MorningBill$Text", "<init>", "()V"⟩, prog_10_method_1_code, 1, none, 8, 2, 0, 1, 20, 1, 48),
  (⟨"MorningBill$Text", "add", "(I)Z"⟩, prog_10_method_2_code, 2, (some .boolean), 8, 1, 1, 0, 0, 0, 0),
  (⟨"MorningBill$Text", "letterAt", "(I)I"⟩, prog_10_method_3_code, 2, (some .int), 8, 1, 1, 0, 0, 0, 0)]
def gb_M2 : List gb_R := [
  (⟨"MorningBill$Text", "figure", "(I)I"⟩, prog_10_method_4_code, 2, (some .int), 8, 1, 1, 1, 21, 0, 0),
  (⟨"MorningBill$Text", "windsTold", "()I"⟩, prog_10_method_5_code, 2, (some .int), 8, 1, 0, 1, 21, 0, 0),
  (⟨"MorningBill$Text", "faultPlace", "()I"⟩, prog_10_method_6_code, 3, (some .int), 8, 1, 0, 5, 110, 0, 0),
  (⟨"MorningBill$Text", "isWhole", "(I)Z"⟩, prog_10_method_7_code, 2, (some .boolean), 8, 1, 1, 0, 0, 0, 0),
  (⟨"MorningBill$Text", "fits", "(II)Z"⟩, prog_10_method_8_code, 4, (some .boolean), 8, 1, 2, 4, 87, 0, 0),
  (⟨"MorningBill$Text", "fitsHead", "(I)Z"⟩, prog_10_method_9_code, 2, (some .boolean), 8, 1, 1, 3, 65, 0, 0),
  (⟨"MorningBill$Text", "fitsNose", "(II)Z"⟩, prog_10_method_10_code, 3, (some .boolean), 8, 1, 2, 3, 65, 0, 0),
  (⟨"MorningBill$Text", "isFigure", "(III)Z"⟩, prog_10_method_11_code, 4, (some .boolean), 8, 1, 3, 2, 42, 0, 0),
  (⟨"MorningBill$Text", "isWind", "(I)Z"⟩, prog_10_method_12_code, 1, (some .boolean), 8, 0, 1, 0, 0, 0, 0),
  (⟨"MorningBill$Walk", "<init>", "(LMorningBill$Street;)V"⟩, prog_11_method_1_code, 2, none, 9, 2, 1, 1, 20, 23, 189),
  (⟨"MorningBill$Walk", "start", "(LMorningBill$Morning;I)V"⟩, prog_11_method_2_code, 3, none, 9, 1, 2, 1, 26, 0, 0),
  (⟨"MorningBill$Walk", "sets", "()I"⟩, prog_11_method_3_code, 1, (some .int), 9, 1, 0, 0, 0, 0, 0),
  (⟨"MorningBill$Walk", "set", "(I)I"⟩, prog_11_method_4_code, 4, (some .int), 9, 1, 1, 1, 21, 0, 0),
  (⟨"MorningBill$Walk", "take", "(II)V"⟩, prog_11_method_5_code, 6, none, 9, 1, 2, 3, 75, 0, 0),
  (⟨"MorningBill$Walk", "pass", "(I)V"⟩, prog_11_method_6_code, 6, none, 9, 1, 1, 2, 50, 0, 0),
  (⟨"MorningBill$Walk", "drift", "([I[II)V"⟩, prog_11_method_7_code, 6, none, 9, 0, 3, 0, 0, 0, 0),
  (⟨"MorningBill$Walk", "emptyChimneys", "([I)V"⟩, prog_11_method_8_code, 3, none, 9, 1, 1, 1, 21, 0, 0),
  (⟨"MorningBill$Walk", "settle", "(IZZ)V"⟩, prog_11_method_9_code, 8, none, 9, 1, 3, 1, 23, 0, 0),
  (⟨"MorningBill$Walk", "comes", "()I"⟩, prog_11_method_10_code, 1, (some .int), 9, 1, 0, 0, 0, 0, 0),
  (⟨"MorningBill$Walk", "comesInHour", "(I)I"⟩, prog_11_method_11_code, 2, (some .int), 9, 1, 1, 0, 0, 0, 0)]
def gb_M3 : List gb_R := [
  (⟨"MorningBill$Walk", "paidBy", "(I)I"⟩, prog_11_method_12_code, 2, (some .int), 9, 1, 1, 0, 0, 0, 0),
  (⟨"MorningBill$Walk", "whoHad", "()I"⟩, prog_11_method_13_code, 1, (some .int), 9, 1, 0, 0, 0, 0, 0),
  (⟨"MorningBill$Walk", "leadOneHourOn", "(LMorningBill$Morning;)V"⟩, prog_11_method_14_code, 2, none, 9, 1, 1, 1, 26, 0, 0),
  (⟨"MorningBill", "<init>", "()V"⟩, prog_1_method_1_code, 1, none, 10, 2, 0, 3, 61, 122, 1799),
  (⟨"MorningBill", "write", "(I)I"⟩, prog_1_method_2_code, 2, (some .int), 10, 1, 1, 1, 21, 0, 0),
  (⟨"MorningBill", "wipe", "()I"⟩, prog_1_method_3_code, 2, (some .int), 10, 1, 0, 0, 0, 0, 0),
  (⟨"MorningBill", "fault", "()I"⟩, prog_1_method_4_code, 1, (some .int), 10, 1, 0, 6, 132, 0, 0),
  (⟨"MorningBill", "street", "()I"⟩, prog_1_method_5_code, 1, (some .int), 10, 1, 0, 6, 132, 0, 0),
  (⟨"MorningBill", "smell", "(I)I"⟩, prog_1_method_6_code, 2, (some .int), 10, 1, 1, 1, 20, 0, 0),
  (⟨"MorningBill", "wind", "(I)I"⟩, prog_1_method_7_code, 2, (some .int), 10, 1, 1, 0, 0, 0, 0),
  (⟨"MorningBill", "nose", "(II)I"⟩, prog_1_method_8_code, 3, (some .int), 10, 1, 2, 1, 23, 0, 0),
  (⟨"MorningBill", "pennies", "()I"⟩, prog_1_method_9_code, 1, (some .int), 10, 1, 0, 0, 0, 0, 0),
  (⟨"MorningBill", "hour", "(Z)I"⟩, prog_1_method_10_code, 2, (some .int), 10, 1, 1, 4, 100, 0, 0),
  (⟨"MorningBill", "chimney", "(I)I"⟩, prog_1_method_11_code, 2, (some .int), 10, 1, 1, 3, 68, 0, 0),
  (⟨"MorningBill", "undo", "()I"⟩, prog_1_method_12_code, 1, (some .int), 10, 1, 0, 3, 68, 0, 0),
  (⟨"MorningBill", "by", "(I)I"⟩, prog_1_method_13_code, 2, (some .int), 10, 1, 1, 5, 121, 0, 0),
  (⟨"MorningBill", "best", "(Z)I"⟩, prog_1_method_14_code, 2, (some .int), 10, 1, 1, 5, 123, 0, 0),
  (⟨"MorningBill", "bestChimney", "()I"⟩, prog_1_method_15_code, 4, (some .int), 10, 1, 0, 6, 144, 0, 0),
  (⟨"MorningBill", "share", "(IZ)I"⟩, prog_1_method_16_code, 3, (some .int), 10, 1, 2, 5, 123, 0, 0),
  (⟨"MorningBill", "judge", "(II)I"⟩, prog_1_method_17_code, 4, (some .int), 10, 1, 2, 5, 121, 0, 0)]
def gb_M4 : List gb_R := [
  (⟨"MorningBill", "had", "(I)I"⟩, prog_1_method_18_code, 2, (some .int), 10, 1, 1, 5, 121, 0, 0),
  (⟨"MorningBill", "only", "(I)I"⟩, prog_1_method_19_code, 2, (some .int), 10, 1, 1, 5, 124, 0, 0),
  (⟨"MorningBill", "see", "(IIZ)I"⟩, prog_1_method_20_code, 4, (some .int), 10, 1, 3, 1, 23, 0, 0),
  (⟨"MorningBill", "unsee", "()I"⟩, prog_1_method_21_code, 2, (some .int), 10, 1, 0, 0, 0, 0, 0),
  (⟨"MorningBill", "when", "(I)I"⟩, prog_1_method_22_code, 2, (some .int), 10, 1, 1, 5, 124, 0, 0),
  (⟨"MorningBill", "mean", "(IIZ)J"⟩, prog_1_method_23_code, 4, (some .long), 10, 1, 3, 5, 130, 0, 0),
  (⟨"MorningBill", "fair", "(IIIZ)J"⟩, prog_1_method_24_code, 5, (some .long), 10, 1, 4, 5, 130, 0, 0),
  (⟨"MorningBill", "bakers", "(II)I"⟩, prog_1_method_25_code, 3, (some .int), 10, 1, 2, 6, 151, 0, 0),
  (⟨"MorningBill", "seed", "(J)J"⟩, prog_1_method_26_code, 5, (some .long), 10, 1, 1, 0, 0, 0, 0),
  (⟨"MorningBill", "mornings", "(I)I"⟩, prog_1_method_27_code, 4, (some .int), 10, 1, 1, 5, 121, 0, 0),
  (⟨"MorningBill", "keep", "(I)I"⟩, prog_1_method_28_code, 2, (some .int), 10, 1, 1, 3, 69, 0, 0),
  (⟨"MorningBill", "again", "(I)I"⟩, prog_1_method_29_code, 2, (some .int), 10, 1, 1, 3, 69, 0, 0),
  (⟨"MorningBill", "count", "(I)I"⟩, prog_1_method_30_code, 2, (some .int), 10, 1, 1, 1, 23, 0, 0),
  (⟨"MorningBill", "isCell", "(I)Z"⟩, prog_1_method_31_code, 1, (some .boolean), 10, 0, 1, 0, 0, 0, 0),
  (⟨"MorningBill", "isPlan", "(I)Z"⟩, prog_1_method_32_code, 1, (some .boolean), 10, 0, 1, 0, 0, 0, 0),
  (⟨"MorningBill", "areTenths", "(I)Z"⟩, prog_1_method_33_code, 1, (some .boolean), 10, 0, 1, 0, 0, 0, 0),
  (⟨"MorningBill", "isIn", "(II)Z"⟩, prog_1_method_34_code, 2, (some .boolean), 10, 0, 2, 0, 0, 0, 0),
  (⟨"MorningBill", "hoursLeft", "()I"⟩, prog_1_method_35_code, 1, (some .int), 10, 1, 0, 0, 0, 0, 0),
  (⟨"MorningBill", "follow", "(I)V"⟩, prog_1_method_36_code, 2, none, 10, 1, 1, 4, 100, 0, 0),
  (⟨"MorningBill", "figureAt", "(III)I"⟩, prog_1_method_37_code, 4, (some .int), 10, 0, 3, 0, 0, 0, 0)]
def gb_M5 : List gb_R := [
  (⟨"MorningBill", "planOfFigures", "(II)I"⟩, prog_1_method_38_code, 5, (some .int), 10, 1, 2, 1, 23, 0, 0),
  (⟨"MorningBill", "planOfSeed", "()I"⟩, prog_1_method_39_code, 3, (some .int), 10, 1, 0, 0, 0, 0, 0),
  (⟨"MorningBill", "meanAbove", "(III)J"⟩, prog_1_method_40_code, 11, (some .long), 10, 1, 3, 4, 100, 0, 0),
  (⟨"MorningBill", "power", "(II)J"⟩, prog_1_method_41_code, 5, (some .long), 10, 0, 2, 0, 0, 0, 0),
  (⟨"MorningBill", "told", "(JJZ)J"⟩, prog_1_method_42_code, 7, (some .long), 10, 0, 3, 2, 52, 0, 0),
  (⟨"MorningBill", "commonDivisor", "(JJ)J"⟩, prog_1_method_43_code, 7, (some .long), 10, 0, 2, 1, 26, 0, 0),
  (⟨"MorningBillModel", "<init>", "()V"⟩, prog_13_method_1_code, 1, none, 11, 2, 0, 1, 20, 18, 678),
  (⟨"MorningBillModel", "in", "(JJJ)Z"⟩, prog_13_method_3_code, 6, (some .boolean), 11, 0, 3, 0, 0, 0, 0),
  (⟨"MorningBillModel", "has", "(II)Z"⟩, prog_13_method_4_code, 2, (some .boolean), 11, 0, 2, 0, 0, 0, 0),
  (⟨"MorningBillModel", "ones", "(I)I"⟩, prog_13_method_5_code, 3, (some .int), 11, 0, 1, 0, 0, 0, 0),
  (⟨"MorningBillModel", "write", "(I)I"⟩, prog_13_method_6_code, 2, (some .int), 11, 1, 1, 1, 25, 0, 0),
  (⟨"MorningBillModel", "wipe", "()I"⟩, prog_13_method_7_code, 2, (some .int), 11, 1, 0, 0, 0, 0, 0),
  (⟨"MorningBillModel", "figure", "(II)I"⟩, prog_13_method_8_code, 4, (some .int), 11, 1, 2, 1, 25, 0, 0),
  (⟨"MorningBillModel", "isWind", "(I)Z"⟩, prog_13_method_9_code, 1, (some .boolean), 11, 0, 1, 0, 0, 0, 0),
  (⟨"MorningBillModel", "readText", "()I"⟩, prog_13_method_10_code, 1, (some .int), 11, 1, 0, 3, 69, 0, 0),
  (⟨"MorningBillModel", "readNose", "()V"⟩, prog_13_method_11_code, 2, none, 11, 1, 0, 2, 48, 0, 0),
  (⟨"MorningBillModel", "fault", "()I"⟩, prog_13_method_12_code, 1, (some .int), 11, 1, 0, 4, 89, 0, 0),
  (⟨"MorningBillModel", "street", "()I"⟩, prog_13_method_13_code, 2, (some .int), 11, 1, 0, 4, 89, 0, 0),
  (⟨"MorningBillModel", "isNose", "(I)Z"⟩, prog_13_method_14_code, 2, (some .boolean), 11, 1, 1, 1, 25, 0, 0),
  (⟨"MorningBillModel", "smell", "(I)I"⟩, prog_13_method_15_code, 2, (some .int), 11, 1, 1, 1, 25, 0, 0)]
def gb_M6 : List gb_R := [
  (⟨"MorningBillModel", "wind", "(I)I"⟩, prog_13_method_16_code, 2, (some .int), 11, 1, 1, 1, 25, 0, 0),
  (⟨"MorningBillModel", "hasIt", "(II)Z"⟩, prog_13_method_17_code, 3, (some .boolean), 11, 1, 2, 0, 0, 0, 0),
  (⟨"MorningBillModel", "whoHas", "(I)I"⟩, prog_13_method_18_code, 4, (some .int), 11, 1, 1, 1, 22, 0, 0),
  (⟨"MorningBillModel", "nose", "(II)I"⟩, prog_13_method_19_code, 3, (some .int), 11, 1, 2, 2, 46, 0, 0),
  (⟨"MorningBillModel", "pennies", "()I"⟩, prog_13_method_20_code, 1, (some .int), 11, 1, 0, 0, 0, 0, 0),
  (⟨"MorningBillModel", "drift", "(III)V"⟩, prog_13_method_21_code, 7, none, 11, 1, 3, 1, 25, 0, 0),
  (⟨"MorningBillModel", "pays", "(IZI)I"⟩, prog_13_method_22_code, 5, (some .int), 11, 1, 3, 0, 0, 0, 0),
  (⟨"MorningBillModel", "pass", "(IZI)I"⟩, prog_13_method_23_code, 8, (some .int), 11, 1, 3, 2, 51, 0, 0),
  (⟨"MorningBillModel", "layWinds", "()V"⟩, prog_13_method_24_code, 2, none, 11, 1, 0, 0, 0, 0, 0),
  (⟨"MorningBillModel", "lay", "(II)V"⟩, prog_13_method_25_code, 4, none, 11, 1, 2, 0, 0, 0, 0),
  (⟨"MorningBillModel", "keepAct", "()V"⟩, prog_13_method_26_code, 2, none, 11, 1, 0, 0, 0, 0, 0),
  (⟨"MorningBillModel", "hour", "(Z)I"⟩, prog_13_method_27_code, 2, (some .int), 11, 1, 1, 3, 78, 0, 0),
  (⟨"MorningBillModel", "chimney", "(I)I"⟩, prog_13_method_28_code, 2, (some .int), 11, 1, 1, 1, 25, 0, 0),
  (⟨"MorningBillModel", "undo", "()I"⟩, prog_13_method_29_code, 2, (some .int), 11, 1, 0, 0, 0, 0, 0),
  (⟨"MorningBillModel", "run", "(II)I"⟩, prog_13_method_30_code, 4, (some .int), 11, 1, 2, 3, 78, 0, 0),
  (⟨"MorningBillModel", "left", "()I"⟩, prog_13_method_31_code, 1, (some .int), 11, 1, 0, 0, 0, 0, 0),
  (⟨"MorningBillModel", "by", "(I)I"⟩, prog_13_method_32_code, 2, (some .int), 11, 1, 1, 4, 101, 0, 0),
  (⟨"MorningBillModel", "bestBy", "(I)I"⟩, prog_13_method_33_code, 6, (some .int), 11, 1, 1, 4, 101, 0, 0),
  (⟨"MorningBillModel", "best", "(Z)I"⟩, prog_13_method_34_code, 3, (some .int), 11, 1, 1, 5, 126, 0, 0),
  (⟨"MorningBillModel", "bestChimney", "()I"⟩, prog_13_method_35_code, 5, (some .int), 11, 1, 0, 5, 126, 0, 0)]
def gb_M7 : List gb_R := [
  (⟨"MorningBillModel", "factorial", "(I)I"⟩, prog_13_method_36_code, 3, (some .int), 11, 0, 1, 0, 0, 0, 0),
  (⟨"MorningBillModel", "common", "(JJ)J"⟩, prog_13_method_37_code, 10, (some .long), 11, 0, 2, 0, 0, 0, 0),
  (⟨"MorningBillModel", "share", "(IZ)I"⟩, prog_13_method_38_code, 7, (some .int), 11, 1, 2, 5, 126, 0, 0),
  (⟨"MorningBillModel", "tenTo", "(I)I"⟩, prog_13_method_39_code, 3, (some .int), 11, 0, 1, 0, 0, 0, 0),
  (⟨"MorningBillModel", "judge", "(II)I"⟩, prog_13_method_40_code, 5, (some .int), 11, 1, 2, 3, 78, 0, 0),
  (⟨"MorningBillModel", "had", "(I)I"⟩, prog_13_method_41_code, 2, (some .int), 11, 1, 1, 4, 101, 0, 0),
  (⟨"MorningBillModel", "only", "(I)I"⟩, prog_13_method_42_code, 4, (some .int), 11, 1, 1, 4, 101, 0, 0),
  (⟨"MorningBillModel", "see", "(IIZ)I"⟩, prog_13_method_43_code, 4, (some .int), 11, 1, 3, 2, 46, 0, 0),
  (⟨"MorningBillModel", "unsee", "()I"⟩, prog_13_method_44_code, 2, (some .int), 11, 1, 0, 0, 0, 0, 0),
  (⟨"MorningBillModel", "isSeen", "(I)Z"⟩, prog_13_method_45_code, 6, (some .boolean), 11, 1, 1, 3, 78, 0, 0),
  (⟨"MorningBillModel", "when", "(I)I"⟩, prog_13_method_46_code, 6, (some .int), 11, 1, 1, 4, 103, 0, 0),
  (⟨"MorningBillModel", "meanOf", "(IIIZ)J"⟩, prog_13_method_47_code, 13, (some .long), 11, 1, 4, 4, 101, 0, 0),
  (⟨"MorningBillModel", "mean", "(IIZ)J"⟩, prog_13_method_48_code, 8, (some .long), 11, 1, 3, 5, 133, 0, 0),
  (⟨"MorningBillModel", "fair", "(IIIZ)J"⟩, prog_13_method_49_code, 9, (some .long), 11, 1, 4, 5, 133, 0, 0),
  (⟨"MorningBillModel", "runTwo", "(III)V"⟩, prog_13_method_50_code, 10, none, 11, 1, 3, 2, 51, 0, 0),
  (⟨"MorningBillModel", "isChoice", "(I)Z"⟩, prog_13_method_51_code, 2, (some .boolean), 11, 1, 1, 1, 25, 0, 0),
  (⟨"MorningBillModel", "isRest", "(II)Z"⟩, prog_13_method_52_code, 5, (some .boolean), 11, 1, 2, 2, 46, 0, 0),
  (⟨"MorningBillModel", "bakers", "(II)I"⟩, prog_13_method_53_code, 6, (some .int), 11, 1, 2, 3, 80, 0, 0),
  (⟨"MorningBillModel", "seed", "(J)J"⟩, prog_13_method_54_code, 5, (some .long), 11, 1, 1, 0, 0, 0, 0),
  (⟨"MorningBillModel", "mornings", "(I)I"⟩, prog_13_method_55_code, 4, (some .int), 11, 1, 1, 3, 78, 0, 0)]
def gb_M8 : List gb_R := [
  (⟨"MorningBillModel", "keep", "(I)I"⟩, prog_13_method_56_code, 3, (some .int), 11, 1, 1, 1, 25, 0, 0),
  (⟨"MorningBillModel", "again", "(I)I"⟩, prog_13_method_57_code, 3, (some .int), 11, 1, 1, 1, 25, 0, 0),
  (⟨"MorningBillModel", "count", "(I)I"⟩, prog_13_method_58_code, 2, (some .int), 11, 1, 1, 2, 45, 0, 0),
  (⟨"java/lang/Integer", "bitCount", "(I)I"⟩, prog_14_method_49_code, 1, (some .int), 13, 0, 1, 0, 0, 0, 0),
  (⟨"MorningBillLaw", "law", "([I)Z"⟩, code, 4, (some .boolean), 12, 0, 1, 7, 173, 142, 2526)]
def gb_M : List gb_R := gb_M0 ++ (gb_M1 ++ (gb_M2 ++ (gb_M3 ++ (gb_M4 ++ (gb_M5 ++ (gb_M6 ++ (gb_M7 ++ (gb_M8))))))))
def gb_m (i : Nat) : gb_R := gb_M.getD i (⟨"", "", ""⟩, .mk #[], 0, none, 99, 9, 0, 0, 0, 0, 0)
def gm_y (i : Nat) : MethodName := (gb_m i).1
def gm_b (i : Nat) : ByteArray := (gb_m i).2.1
def gm_L (i : Nat) : Nat := (gb_m i).2.2.1
def gm_r (i : Nat) : Option FieldType := (gb_m i).2.2.2.1
def gm_o (i : Nat) : Nat := (gb_m i).2.2.2.2.1
def gm_k (i : Nat) : Nat := (gb_m i).2.2.2.2.2.1
def gm_p (i : Nat) : Nat := (gb_m i).2.2.2.2.2.2.1
def gm_f (i : Nat) : Nat := (gb_m i).2.2.2.2.2.2.2.1
def gm_x (i : Nat) : Nat := (gb_m i).2.2.2.2.2.2.2.2.1
def gm_c (i : Nat) : Nat := (gb_m i).2.2.2.2.2.2.2.2.2.1
def gm_s (i : Nat) : Nat := (gb_m i).2.2.2.2.2.2.2.2.2.2
end
section
def gl_F : List (Nat × Nat × Nat × Nat × Nat) := [
  (8, 9, 8, 0, 70), (8, 15, 8, 1, 71), (10, 92, 8, 1, 72), (7, 56, 8, 1, 73), (7, 37, 7, 0, 86), (4, 33, 7, 0, 87), (10, 160, 7, 0, 88), (7, 9, 7, 1, 89),
  (9, 89, 7, 1, 90), (10, 314, 7, 1, 91), (7, 40, 7, 2, 92), (2, 50, 7, 2, 93), (4, 75, 7, 2, 94), (9, 104, 7, 2, 95), (10, 317, 7, 2, 96), (7, 47, 7, 3, 97),
  (9, 57, 7, 3, 98), (5, 57, 7, 3, 99), (10, 111, 7, 3, 100), (2, 44, 7, 4, 101), (7, 59, 7, 4, 102), (4, 65, 7, 4, 103), (5, 53, 7, 4, 104), (10, 114, 7, 4, 105),
  (9, 107, 7, 4, 106), (7, 15, 7, 5, 107), (4, 78, 7, 5, 108), (9, 82, 7, 5, 109), (10, 124, 7, 5, 110), (7, 19, 7, 6, 111), (4, 71, 7, 6, 112), (10, 130, 7, 6, 113),
  (7, 22, 7, 7, 114), (4, 87, 7, 7, 115), (10, 133, 7, 7, 116), (7, 25, 7, 8, 117), (10, 136, 7, 8, 118), (7, 28, 7, 9, 119), (10, 139, 7, 9, 120), (3, 9, 3, 0, 148),
  (9, 33, 3, 0, 149), (10, 120, 3, 0, 150), (3, 18, 3, 1, 151), (9, 43, 3, 1, 152), (10, 180, 3, 1, 153), (3, 22, 3, 2, 154), (10, 150, 3, 2, 155), (9, 114, 3, 2, 156),
  (3, 25, 3, 3, 157), (9, 51, 3, 3, 158), (10, 167, 3, 3, 159), (0, 11, 0, 0, 178), (0, 22, 0, 1, 179), (0, 18, 0, 2, 180), (10, 187, 0, 2, 181), (6, 11, 6, 0, 197),
  (6, 17, 6, 1, 198), (5, 9, 5, 0, 211), (5, 15, 5, 1, 212), (5, 18, 5, 2, 213), (5, 22, 5, 3, 214), (10, 258, 5, 3, 215), (5, 26, 5, 4, 216), (10, 262, 5, 4, 217),
  (5, 35, 5, 5, 218), (10, 265, 5, 5, 219), (5, 38, 5, 6, 220), (10, 268, 5, 6, 221), (9, 29, 9, 0, 245), (9, 11, 9, 1, 246), (4, 68, 9, 1, 247), (9, 16, 9, 2, 248),
  (9, 19, 9, 3, 249), (9, 23, 9, 4, 250), (9, 26, 9, 5, 251), (5, 60, 9, 5, 252), (10, 177, 9, 5, 253), (9, 47, 9, 6, 254), (9, 48, 9, 7, 255), (9, 72, 9, 8, 256),
  (9, 75, 9, 9, 257), (9, 65, 9, 10, 258), (9, 54, 9, 11, 259), (4, 59, 9, 11, 260), (4, 43, 9, 12, 261), (9, 62, 9, 12, 262), (10, 238, 9, 12, 263), (1, 7, 1, 0, 297),
  (1, 33, 1, 1, 298), (10, 206, 1, 1, 299), (1, 30, 1, 2, 300), (10, 204, 1, 2, 301), (2, 18, 2, 0, 315), (2, 22, 2, 1, 316), (2, 9, 2, 2, 317), (2, 15, 2, 3, 318),
  (4, 25, 4, 0, 335), (4, 29, 4, 1, 336), (4, 11, 4, 2, 337), (4, 16, 4, 3, 338), (4, 19, 4, 4, 339), (4, 22, 4, 5, 340), (4, 94, 4, 6, 341), (10, 293, 4, 6, 342),
  (4, 97, 4, 7, 343), (10, 296, 4, 7, 344), (10, 10, 10, 0, 362), (10, 19, 10, 1, 363), (10, 26, 10, 2, 364), (10, 30, 10, 3, 365), (10, 36, 10, 4, 366), (10, 43, 10, 5, 367),
  (10, 50, 10, 6, 368), (10, 59, 10, 7, 369), (10, 68, 10, 8, 370), (10, 77, 10, 9, 371), (10, 84, 10, 10, 372), (10, 299, 10, 11, 373), (11, 104, 11, 0, 835), (11, 65, 11, 1, 836),
  (11, 107, 11, 2, 837), (11, 110, 11, 3, 838), (11, 113, 11, 4, 839), (11, 7, 11, 5, 840), (11, 13, 11, 6, 841), (11, 16, 11, 7, 842), (11, 19, 11, 8, 843), (11, 22, 11, 9, 844),
  (11, 25, 11, 10, 845), (11, 84, 11, 11, 846), (11, 87, 11, 12, 847), (11, 28, 11, 13, 848), (11, 31, 11, 14, 849), (11, 75, 11, 15, 850), (11, 81, 11, 16, 851), (11, 78, 11, 17, 852),
  (11, 34, 11, 18, 853), (11, 116, 11, 19, 854), (11, 141, 11, 20, 855), (11, 37, 11, 21, 856), (11, 161, 11, 22, 857), (11, 168, 11, 23, 858), (11, 40, 11, 24, 859), (11, 195, 11, 25, 860),
  (11, 43, 11, 26, 861), (11, 46, 11, 27, 862), (11, 49, 11, 28, 863), (11, 203, 11, 29, 864), (11, 217, 11, 30, 865), (11, 220, 11, 31, 866), (11, 53, 11, 32, 867), (11, 56, 11, 33, 868),
  (11, 232, 11, 34, 869), (11, 59, 11, 35, 870), (11, 62, 11, 36, 871)]
theorem gl_F_ok : (gl_F.all (fun r => (lw_tbl[r.2.2.2.2]? == some (.fieldLink (gb_n r.1) r.2.1 (gb_F r.2.2.1 r.2.2.2.1).1 (gb_F r.2.2.1 r.2.2.2.1).2.1 (gb_F r.2.2.1 r.2.2.2.1).2.2.1)) && (decide (r.2.2.1 < 12) && decide (r.2.2.2.1 < gb_K r.2.2.1)))) = true := by decide +kernel
/-- static arrays: class, entry, which (1, 2), by a nest mate -/
def gl_S : List (Nat × Nat × Nat × Nat) := [(10, 224, 1, 0), (10, 231, 2, 0), (2, 65, 1, 1)]
def gl_sn (k : Nat) : String := if k = 1 then "FACTORIALS" else "TENS"
theorem gl_S_ok : (gl_S.all (fun r => (if r.2.2.2 = 0 then decide (Cond.fieldLink (gb_n r.1) r.2.1 "MorningBill" (gl_sn r.2.2.1) "[I" ∈ lw_tbl) else decide (Cond.fieldLinkNest (gb_n r.1) r.2.1 "MorningBill" (gl_sn r.2.2.1) "[I" "MorningBill" ∈ lw_tbl)))) = true := by decide +kernel
def gl_y (j : Nat) : MethodName := match j with | 1000 => objectInit | 1001 => arraycopyName | 1002 => Lib.Math.max.name | 1003 => Lib.Math.min.name | 1004 => Lib.MathLoose.max_long.x | 1005 => Lib.MathLoose.abs_long.x | _ => gm_y j
def gl_M : List (Nat × Nat × Nat × Nat) := [
  (12, 9, 63, 58), (10, 1, 1000, 61), (8, 3, 1000, 69), (7, 3, 1000, 85), (3, 3, 1000, 147), (10, 35, 0, 171), (0, 3, 1000, 174), (10, 42, 27, 191),
  (6, 3, 1000, 194), (5, 3, 1000, 210), (10, 56, 49, 239), (9, 3, 1000, 242), (10, 65, 4, 293), (1, 1, 1000, 296), (10, 74, 8, 311), (2, 3, 1000, 314),
  (10, 83, 16, 330), (4, 3, 1000, 333), (12, 13, 64, 399), (10, 88, 38, 403), (12, 18, 65, 407), (12, 23, 66, 411), (10, 96, 42, 415), (8, 27, 41, 419),
  (8, 19, 39, 423), (8, 23, 48, 427), (8, 31, 44, 430), (8, 38, 45, 434), (8, 44, 47, 438), (8, 48, 40, 442), (8, 41, 46, 446), (8, 35, 43, 450),
  (12, 27, 67, 454), (10, 100, 32, 458), (7, 31, 40, 462), (7, 43, 41, 463), (7, 50, 39, 464), (7, 53, 33, 465), (10, 104, 13, 468), (3, 15, 14, 472),
  (10, 107, 1, 476), (10, 110, 28, 480), (12, 31, 68, 484), (10, 117, 93, 488), (12, 35, 69, 491), (12, 39, 70, 495), (10, 127, 34, 499), (10, 142, 35, 503),
  (10, 146, 96, 507), (12, 44, 71, 510), (12, 48, 72, 514), (10, 153, 97, 518), (10, 156, 2, 522), (0, 25, 15, 526), (3, 28, 1001, 530), (0, 29, 1003, 533),
  (10, 163, 50, 536), (9, 37, 1001, 540), (10, 170, 53, 541), (9, 78, 54, 546), (9, 85, 55, 550), (9, 92, 56, 553), (9, 96, 57, 557), (9, 100, 35, 561),
  (9, 110, 36, 562), (10, 174, 62, 566), (12, 53, 73, 570), (12, 57, 74, 574), (10, 183, 3, 578), (12, 61, 75, 582), (10, 190, 94, 586), (10, 194, 98, 590),
  (10, 198, 58, 594), (12, 65, 76, 598), (10, 201, 5, 602), (1, 13, 51, 606), (1, 19, 52, 610), (1, 23, 53, 614), (1, 27, 58, 615), (1, 36, 7, 616),
  (1, 43, 163, 619), (12, 69, 77, 625), (10, 209, 76, 629), (10, 213, 15, 630), (12, 73, 78, 631), (10, 217, 9, 636), (2, 26, 51, 640), (2, 32, 52, 641),
  (2, 36, 53, 642), (2, 40, 10, 643), (2, 53, 163, 647), (2, 58, 60, 648), (10, 220, 11, 652), (10, 227, 104, 660), (10, 340, 1005, 663), (10, 346, 105, 666),
  (10, 350, 1004, 669), (12, 78, 79, 672), (10, 234, 100, 678), (10, 241, 99, 682), (10, 245, 59, 685), (12, 82, 80, 689), (10, 249, 61, 693), (12, 86, 81, 697),
  (10, 252, 6, 701), (1, 40, 61, 705), (12, 90, 82, 706), (10, 255, 24, 710), (12, 95, 83, 714), (12, 99, 84, 718), (10, 259, 25, 722), (5, 29, 51, 726),
  (5, 41, 52, 727), (5, 45, 53, 728), (5, 49, 26, 729), (12, 103, 85, 734), (10, 271, 95, 738), (10, 276, 102, 742), (10, 326, 51, 746), (10, 329, 52, 747),
  (10, 332, 163, 748), (10, 280, 103, 749), (10, 337, 60, 752), (12, 108, 86, 753), (12, 113, 87, 758), (10, 286, 14, 762), (10, 289, 17, 763), (4, 39, 18, 767),
  (4, 55, 50, 771), (4, 62, 53, 772), (4, 48, 19, 773), (4, 81, 1002, 777), (4, 90, 36, 780), (4, 52, 20, 781), (4, 100, 21, 785), (4, 104, 22, 789),
  (12, 119, 88, 793), (12, 124, 89, 797), (10, 303, 101, 801), (12, 128, 90, 808), (10, 306, 29, 812), (6, 22, 15, 816), (12, 132, 91, 817), (10, 310, 30, 821),
  (12, 136, 92, 825), (12, 12, 106, 831), (11, 1, 1000, 834), (12, 17, 110, 947), (11, 71, 107, 952), (12, 22, 111, 955), (12, 26, 116, 959), (11, 100, 114, 963),
  (11, 90, 112, 967), (11, 94, 113, 971), (11, 98, 115, 974), (12, 30, 117, 978), (12, 34, 119, 982), (12, 38, 120, 987), (12, 43, 123, 991), (11, 125, 118, 995),
  (11, 121, 121, 1000), (12, 47, 124, 1004), (12, 52, 131, 1008), (11, 144, 130, 1012), (11, 147, 128, 1016), (11, 150, 127, 1020), (11, 133, 125, 1024), (11, 130, 108, 1028),
  (11, 137, 126, 1031), (11, 153, 122, 1035), (12, 56, 132, 1039), (12, 60, 133, 1043), (12, 64, 136, 1047), (11, 165, 134, 1052), (11, 157, 129, 1056), (12, 68, 138, 1060),
  (11, 177, 137, 1064), (11, 171, 135, 1068), (11, 174, 109, 1072), (12, 72, 139, 1075), (12, 77, 142, 1079), (11, 181, 140, 1084), (11, 184, 141, 1087), (12, 81, 144, 1090),
  (11, 190, 143, 1095), (12, 85, 145, 1098), (12, 89, 146, 1102), (12, 94, 147, 1106), (12, 98, 148, 1111), (12, 102, 150, 1115), (11, 200, 149, 1120), (12, 107, 152, 1124),
  (11, 211, 151, 1130), (12, 112, 153, 1134), (12, 116, 157, 1139), (11, 223, 155, 1143), (11, 226, 154, 1147), (11, 229, 156, 1151), (12, 123, 158, 1155), (12, 127, 159, 1159),
  (12, 131, 160, 1166), (12, 135, 161, 1170), (12, 139, 162, 1174)]
theorem gl_M_ok : (gl_M.all (fun r => lw_tbl[r.2.2.2]? == some (.methodLink (gb_n r.1) r.2.1 (gl_y r.2.2.1)))) = true := by decide +kernel
def gl_N : List (Nat × Nat × Nat × Nat) := [(10, 9, 37, 66), (10, 18, 31, 82), (10, 25, 12, 144), (0, 17, 12, 177), (6, 21, 12, 196), (10, 49, 23, 207), (9, 68, 96, 545), (2, 61, 96, 656), (5, 63, 96, 733)]
theorem gl_N_ok : (gl_N.all (fun r => lw_tbl[r.2.2.2]? == some (.methodLinkNest (gb_n r.1) r.2.1 (gl_y r.2.2.1) "MorningBill"))) = true := by decide +kernel
def gl_cn (t : Nat) : String := if t = 15 then "[[I" else gb_n t
def gl_C : List (Nat × Nat × Nat × Nat) := [(12, 7, 10, 56), (10, 7, 8, 64), (10, 16, 7, 80), (10, 23, 3, 142), (10, 33, 0, 169), (0, 9, 3, 175), (10, 40, 6, 189), (6, 9, 3, 195), (10, 47, 5, 205), (10, 54, 9, 237), (9, 9, 15, 243), (10, 63, 1, 291), (10, 72, 2, 309), (10, 81, 4, 328), (4, 9, 15, 334), (12, 10, 11, 829)]
theorem gl_C_ok : (gl_C.all (fun r => lw_tbl[r.2.2.2]? == some (.classLink (gb_n r.1) r.2.1 (gl_cn r.2.2.1)))) = true := by decide +kernel
def gb_iv (a b : Nat) : Int32 := match b with | 0 => Int32.ofNat a | _ => -(Int32.ofNat a)
def gb_lv (a b : Nat) : Int64 := match b with | 0 => Int64.ofNat a | _ => -(Int64.ofNat a)
def gl_K : List (Nat × Nat × Nat × Nat × Nat) := [(10, 193, 1000002, 1, 589), (13, 265, 1431655765, 0, 622), (13, 266, 858993459, 0, 623), (13, 267, 252645135, 0, 624), (10, 216, 1000001, 1, 635), (11, 164, 1000002, 1, 1051), (11, 180, 1000001, 1, 1083)]
theorem gl_K_ok : (gl_K.all (fun r => lw_tbl[r.2.2.2.2]? == some (.constant (gb_n r.1) r.2.1 (gb_iv r.2.2.1 r.2.2.2.1)))) = true := by decide +kernel
def gl_L : List (Nat × Nat × Nat × Nat × Nat) := [(10, 274, 1000000000002, 1, 741), (10, 284, 1000000000001, 1, 757), (10, 320, 6364136223846793005, 0, 805), (10, 322, 1442695040888963407, 0, 806), (10, 324, 2, 0, 807), (11, 69, 255, 0, 951), (11, 119, 9, 0, 986), (11, 128, 3, 0, 999), (11, 188, 8, 0, 1094), (11, 193, 7, 0, 1110), (11, 198, 2, 0, 1119), (11, 207, 10, 0, 1128), (11, 209, 1000000000002, 1, 1129), (11, 215, 1000000000001, 1, 1138), (11, 235, 20, 0, 1163), (11, 237, 6364136223846793005, 0, 1164), (11, 239, 1442695040888963407, 0, 1165), (12, 117, 4294967295, 0, 1178)]
theorem gl_L_ok : (gl_L.all (fun r => lw_tbl[r.2.2.2.2]? == some (.constantLong (gb_n r.1) r.2.1 (gb_lv r.2.2.1 r.2.2.2.1)))) = true := by decide +kernel
def gb_mw (i : Nat) : List Cond := Cond.code (gm_y i) (gm_b i) (gm_L i) (gm_r i) :: .initialized (gm_y i).cls :: (if gm_k i = 0 then [.static (gm_y i)] else if gm_k i = 1 then [.instanceMethod (gm_y i), .selects (gm_y i).cls (gm_y i) (gm_y i)] else [.instanceMethod (gm_y i)])
def gb_mr (i : Nat) : List Cond := .initialized (gm_y i).cls :: (if gm_k i = 0 then [.static (gm_y i)] else if gm_k i = 1 then [.instanceMethod (gm_y i), .selects (gm_y i).cls (gm_y i) (gm_y i)] else [.instanceMethod (gm_y i)])
def gb_P : List (List Nat) := [
  [173, 45, 172], [479, 45, 477, 478], [525, 45, 523, 524], [581, 45, 579, 580], [295, 49, 294], [605, 49, 603, 604], [704, 49, 702, 703], [618, 49, 617],
  [313, 50, 312], [639, 50, 637, 638], [646, 50, 645, 10], [655, 50, 653, 654], [146, 44, 145], [471, 44, 469, 470], [475, 44, 473, 474], [529, 44, 527, 528],
  [332, 51, 331], [766, 51, 764, 765], [770, 51, 769, 14], [776, 51, 775, 15], [784, 51, 783, 16], [788, 51, 787, 17], [792, 51, 791, 18], [209, 47, 208],
  [713, 47, 711, 712], [725, 47, 723, 724], [732, 47, 731, 12], [193, 46, 192], [483, 46, 481, 482], [815, 46, 813, 814], [824, 46, 822, 823], [84, 43, 83],
  [461, 43, 459, 460], [467, 43, 466], [502, 43, 500, 501], [506, 43, 504, 505], [565, 43, 563, 564], [68, 42, 67], [406, 42, 404, 405], [426, 42, 424, 425],
  [445, 42, 443, 444], [422, 42, 420, 421], [418, 42, 416, 417], [453, 42, 452, 4], [433, 42, 432, 0], [437, 42, 436, 1], [449, 42, 448, 3], [441, 42, 440, 2],
  [429, 42, 428], [241, 48, 240], [539, 48, 537, 538], [609, 48, 607, 608], [613, 48, 611, 612], [544, 48, 542, 543], [549, 48, 548, 6], [552, 48, 551],
  [556, 48, 555, 7], [560, 48, 559, 8], [597, 48, 595, 596], [688, 48, 686, 687], [651, 48, 649, 650], [696, 48, 694, 695], [569, 48, 567, 568], [60, 41, 59],
  [402, 41, 400, 401], [410, 41, 408, 409], [414, 41, 412, 413], [457, 41, 455, 456], [487, 41, 485, 486], [494, 41, 492, 493], [498, 41, 496, 497], [513, 41, 511, 512],
  [517, 41, 515, 516], [573, 41, 571, 572], [577, 41, 575, 576], [585, 41, 583, 584], [601, 41, 599, 600], [628, 41, 626, 627], [634, 41, 632, 633], [675, 41, 673, 674],
  [692, 41, 690, 691], [700, 41, 698, 699], [709, 41, 707, 708], [717, 41, 715, 716], [721, 41, 719, 720], [737, 41, 735, 736], [756, 41, 754, 755], [761, 41, 759, 760],
  [796, 41, 794, 795], [800, 41, 798, 799], [811, 41, 809, 810], [820, 41, 818, 819], [828, 41, 826, 827], [490, 41, 489], [588, 41, 587], [740, 41, 739],
  [509, 41, 508], [521, 41, 520, 5], [593, 41, 592, 9], [684, 41, 683], [681, 41, 680, 11], [804, 41, 803, 19], [745, 41, 744, 13], [751, 41, 750],
  [662, 41, 661], [668, 41, 667], [833, 52, 832], [954, 52, 953], [1030, 52, 1029], [1074, 52, 1073], [950, 52, 948, 949], [958, 52, 956, 957],
  [970, 52, 969, 21], [973, 52, 972], [966, 52, 965, 20], [977, 52, 976, 22], [962, 52, 960, 961], [981, 52, 979, 980], [998, 52, 997, 23], [985, 52, 983, 984],
  [990, 52, 988, 989], [1003, 52, 1002, 24], [1038, 52, 1037, 30], [994, 52, 992, 993], [1007, 52, 1005, 1006], [1027, 52, 1026, 28], [1034, 52, 1033, 29], [1023, 52, 1022, 27],
  [1019, 52, 1018, 26], [1059, 52, 1058, 32], [1015, 52, 1014, 25], [1011, 52, 1009, 1010], [1042, 52, 1040, 1041], [1046, 52, 1044, 1045], [1055, 52, 1054, 31], [1071, 52, 1070, 34],
  [1050, 52, 1048, 1049], [1067, 52, 1066, 33], [1063, 52, 1061, 1062], [1078, 52, 1076, 1077], [1086, 52, 1085], [1089, 52, 1088], [1082, 52, 1080, 1081], [1097, 52, 1096],
  [1093, 52, 1091, 1092], [1101, 52, 1099, 1100], [1105, 52, 1103, 1104], [1109, 52, 1107, 1108], [1114, 52, 1112, 1113], [1123, 52, 1122, 35], [1118, 52, 1116, 1117], [1133, 52, 1132, 36],
  [1127, 52, 1125, 1126], [1137, 52, 1135, 1136], [1150, 52, 1149, 38], [1146, 52, 1145, 37], [1154, 52, 1153, 39], [1142, 52, 1140, 1141], [1158, 52, 1156, 1157], [1162, 52, 1160, 1161],
  [1169, 52, 1167, 1168], [1173, 52, 1171, 1172], [1177, 52, 1175, 1176], [621, 55, 620]]
def gb_in : List Nat → List Cond → Bool
  | p :: ps, w :: ws => (lw_tbl[p]? == some w) && (goodWord w && gb_in ps ws)
  | [], [] => true
  | _, _ => false
theorem gb_in_ok : ∀ (ps : List Nat) (ws : List Cond), gb_in ps ws = true → ∀ w ∈ ws, w ∈ gb_t
  | [], [], _, w, h => by simp at h
  | [], _ :: _, h, _, _ => by simp [gb_in] at h
  | _ :: _, [], h, _, _ => by simp [gb_in] at h
  | p :: ps, x :: xs, h, w, hw => by
    simp only [gb_in, Bool.and_eq_true] at h
    rcases List.mem_cons.mp hw with e | e
    · rw [e]; exact gb_tin (gb_at p h.1) h.2.1
    · exact gb_in_ok ps xs h.2.2 w e
def gb_mk (i : Nat) : Bool := (plainName (gm_y i).cls && decide ((parseMethodDescriptor (gm_y i).desc).map (fun d => d.parameters.length) = some (gm_p i))) && (decide ((gm_y i).cls ≠ "java/lang/invoke/MethodHandle") && (decide ((gm_y i).cls ≠ "java/lang/invoke/VarHandle") && (decide ((gm_y i).cls = gb_n (gm_o i)) && (decide (gm_k i = 2) == decide ((gm_y i).name = "<init>")))))
set_option maxRecDepth 100000 in
theorem gb_mkA : ∀ i, i < 164 → gb_mk i = true := by decide +kernel
set_option maxRecDepth 100000 in
theorem gb_w0 : ∀ i, i < 20 → gb_in ((gb_P.getD (i + 0) []).tail) (gb_mr (i + 0)) = true := by decide +kernel
set_option maxRecDepth 100000 in
theorem gb_w1 : ∀ i, i < 20 → gb_in ((gb_P.getD (i + 20) []).tail) (gb_mr (i + 20)) = true := by decide +kernel
set_option maxRecDepth 100000 in
theorem gb_w2 : ∀ i, i < 20 → gb_in ((gb_P.getD (i + 40) []).tail) (gb_mr (i + 40)) = true := by decide +kernel
set_option maxRecDepth 100000 in
theorem gb_w3 : ∀ i, i < 20 → gb_in ((gb_P.getD (i + 60) []).tail) (gb_mr (i + 60)) = true := by decide +kernel
set_option maxRecDepth 100000 in
theorem gb_w4 : ∀ i, i < 20 → gb_in ((gb_P.getD (i + 80) []).tail) (gb_mr (i + 80)) = true := by decide +kernel
set_option maxRecDepth 100000 in
theorem gb_w5 : ∀ i, i < 20 → gb_in ((gb_P.getD (i + 100) []).tail) (gb_mr (i + 100)) = true := by decide +kernel
set_option maxRecDepth 100000 in
theorem gb_w6 : ∀ i, i < 20 → gb_in ((gb_P.getD (i + 120) []).tail) (gb_mr (i + 120)) = true := by decide +kernel
set_option maxRecDepth 100000 in
theorem gb_w7 : ∀ i, i < 20 → gb_in ((gb_P.getD (i + 140) []).tail) (gb_mr (i + 140)) = true := by decide +kernel
set_option maxRecDepth 100000 in
theorem gb_w8 : ∀ i, i < 4 → gb_in ((gb_P.getD (i + 160) []).tail) (gb_mr (i + 160)) = true := by decide +kernel
theorem gb_wA {i : Nat} (h : i < 164) : gb_in ((gb_P.getD i []).tail) (gb_mr i) = true := by
  by_cases h0 : i < 20
  · have := gb_w0 (i - 0) (by omega)
    rwa [Nat.sub_add_cancel (by omega)] at this
  by_cases h1 : i < 40
  · have := gb_w1 (i - 20) (by omega)
    rwa [Nat.sub_add_cancel (by omega)] at this
  by_cases h2 : i < 60
  · have := gb_w2 (i - 40) (by omega)
    rwa [Nat.sub_add_cancel (by omega)] at this
  by_cases h3 : i < 80
  · have := gb_w3 (i - 60) (by omega)
    rwa [Nat.sub_add_cancel (by omega)] at this
  by_cases h4 : i < 100
  · have := gb_w4 (i - 80) (by omega)
    rwa [Nat.sub_add_cancel (by omega)] at this
  by_cases h5 : i < 120
  · have := gb_w5 (i - 100) (by omega)
    rwa [Nat.sub_add_cancel (by omega)] at this
  by_cases h6 : i < 140
  · have := gb_w6 (i - 120) (by omega)
    rwa [Nat.sub_add_cancel (by omega)] at this
  by_cases h7 : i < 160
  · have := gb_w7 (i - 140) (by omega)
    rwa [Nat.sub_add_cancel (by omega)] at this
  by_cases h8 : i < 164
  · have := gb_w8 (i - 160) (by omega)
    rwa [Nat.sub_add_cancel (by omega)] at this
  omega
def gb_cP (l : List Nat) (n : Nat) : Prop := ∀ (k p : Nat), l[k]? = some p → lw_tbl[p]? = some (Cond.code (gm_y (n + k)) (gm_b (n + k)) (gm_L (n + k)) (gm_r (n + k)))
theorem gb_cnil (n : Nat) : gb_cP [] n := fun k c h => by simp at h
theorem gb_ccons {p : Nat} {l : List Nat} {n : Nat} (h : lw_tbl[p]? = some (Cond.code (gm_y n) (gm_b n) (gm_L n) (gm_r n))) (t : gb_cP l (n + 1)) : gb_cP (p :: l) n := by
  intro k x hx
  cases k with
  | zero => cases hx; exact h
  | succ k => rw [List.getElem?_cons_succ] at hx; have := t k x hx; rwa [show n + 1 + k = n + (k + 1) by omega] at this
def gb_cl0 : List Nat := [173, 479, 525, 581, 295, 605, 704, 618, 313, 639, 646, 655, 146, 471, 475, 529, 332, 766, 770, 776, 784, 788, 792, 209, 713, 725, 732, 193, 483, 815, 824, 84, 461, 467, 502, 506, 565, 68, 406, 426, 445, 422, 418, 453, 433, 437, 449, 441, 429, 241, 539, 609, 613, 544, 549, 552, 556, 560, 597, 688, 651, 696, 569, 60, 402, 410, 414, 457, 487, 494, 498, 513, 517, 573, 577, 585, 601, 628, 634, 675, 692, 700, 709, 717, 721, 737, 756, 761, 796, 800, 811, 820, 828, 490, 588, 740, 509, 521, 593, 684, 681, 804, 745, 751, 662, 668, 833, 954, 1030, 1074, 950, 958, 970, 973, 966, 977, 962, 981, 998, 985, 990, 1003, 1038, 994, 1007, 1027, 1034, 1023, 1019, 1059, 1015, 1011, 1042, 1046, 1055, 1071, 1050, 1067, 1063, 1078, 1086, 1089, 1082, 1097, 1093, 1101, 1105, 1109, 1114, 1123, 1118, 1133, 1127, 1137, 1150, 1146, 1154, 1142, 1158, 1162, 1169, 1173, 1177, 621]
set_option maxRecDepth 100000 in
theorem gb_c_0 : lw_tbl[173]? = some (Cond.code (gm_y 0) (gm_b 0) (gm_L 0) (gm_r 0)) := rfl
set_option maxRecDepth 100000 in
theorem gb_c_1 : lw_tbl[479]? = some (Cond.code (gm_y 1) (gm_b 1) (gm_L 1) (gm_r 1)) := rfl
set_option maxRecDepth 100000 in
theorem gb_c_2 : lw_tbl[525]? = some (Cond.code (gm_y 2) (gm_b 2) (gm_L 2) (gm_r 2)) := rfl
set_option maxRecDepth 100000 in
theorem gb_c_3 : lw_tbl[581]? = some (Cond.code (gm_y 3) (gm_b 3) (gm_L 3) (gm_r 3)) := rfl
set_option maxRecDepth 100000 in
theorem gb_c_4 : lw_tbl[295]? = some (Cond.code (gm_y 4) (gm_b 4) (gm_L 4) (gm_r 4)) := rfl
set_option maxRecDepth 100000 in
theorem gb_c_5 : lw_tbl[605]? = some (Cond.code (gm_y 5) (gm_b 5) (gm_L 5) (gm_r 5)) := rfl
set_option maxRecDepth 100000 in
theorem gb_c_6 : lw_tbl[704]? = some (Cond.code (gm_y 6) (gm_b 6) (gm_L 6) (gm_r 6)) := rfl
set_option maxRecDepth 100000 in
theorem gb_c_7 : lw_tbl[618]? = some (Cond.code (gm_y 7) (gm_b 7) (gm_L 7) (gm_r 7)) := rfl
set_option maxRecDepth 100000 in
theorem gb_c_8 : lw_tbl[313]? = some (Cond.code (gm_y 8) (gm_b 8) (gm_L 8) (gm_r 8)) := rfl
set_option maxRecDepth 100000 in
theorem gb_c_9 : lw_tbl[639]? = some (Cond.code (gm_y 9) (gm_b 9) (gm_L 9) (gm_r 9)) := rfl
set_option maxRecDepth 100000 in
theorem gb_c_10 : lw_tbl[646]? = some (Cond.code (gm_y 10) (gm_b 10) (gm_L 10) (gm_r 10)) := rfl
set_option maxRecDepth 100000 in
theorem gb_c_11 : lw_tbl[655]? = some (Cond.code (gm_y 11) (gm_b 11) (gm_L 11) (gm_r 11)) := rfl
set_option maxRecDepth 100000 in
theorem gb_c_12 : lw_tbl[146]? = some (Cond.code (gm_y 12) (gm_b 12) (gm_L 12) (gm_r 12)) := rfl
set_option maxRecDepth 100000 in
theorem gb_c_13 : lw_tbl[471]? = some (Cond.code (gm_y 13) (gm_b 13) (gm_L 13) (gm_r 13)) := rfl
set_option maxRecDepth 100000 in
theorem gb_c_14 : lw_tbl[475]? = some (Cond.code (gm_y 14) (gm_b 14) (gm_L 14) (gm_r 14)) := rfl
set_option maxRecDepth 100000 in
theorem gb_c_15 : lw_tbl[529]? = some (Cond.code (gm_y 15) (gm_b 15) (gm_L 15) (gm_r 15)) := rfl
set_option maxRecDepth 100000 in
theorem gb_c_16 : lw_tbl[332]? = some (Cond.code (gm_y 16) (gm_b 16) (gm_L 16) (gm_r 16)) := rfl
set_option maxRecDepth 100000 in
theorem gb_c_17 : lw_tbl[766]? = some (Cond.code (gm_y 17) (gm_b 17) (gm_L 17) (gm_r 17)) := rfl
set_option maxRecDepth 100000 in
theorem gb_c_18 : lw_tbl[770]? = some (Cond.code (gm_y 18) (gm_b 18) (gm_L 18) (gm_r 18)) := rfl
set_option maxRecDepth 100000 in
theorem gb_c_19 : lw_tbl[776]? = some (Cond.code (gm_y 19) (gm_b 19) (gm_L 19) (gm_r 19)) := rfl
set_option maxRecDepth 100000 in
theorem gb_c_20 : lw_tbl[784]? = some (Cond.code (gm_y 20) (gm_b 20) (gm_L 20) (gm_r 20)) := rfl
set_option maxRecDepth 100000 in
theorem gb_c_21 : lw_tbl[788]? = some (Cond.code (gm_y 21) (gm_b 21) (gm_L 21) (gm_r 21)) := rfl
set_option maxRecDepth 100000 in
theorem gb_c_22 : lw_tbl[792]? = some (Cond.code (gm_y 22) (gm_b 22) (gm_L 22) (gm_r 22)) := rfl
set_option maxRecDepth 100000 in
theorem gb_c_23 : lw_tbl[209]? = some (Cond.code (gm_y 23) (gm_b 23) (gm_L 23) (gm_r 23)) := rfl
set_option maxRecDepth 100000 in
theorem gb_c_24 : lw_tbl[713]? = some (Cond.code (gm_y 24) (gm_b 24) (gm_L 24) (gm_r 24)) := rfl
set_option maxRecDepth 100000 in
theorem gb_c_25 : lw_tbl[725]? = some (Cond.code (gm_y 25) (gm_b 25) (gm_L 25) (gm_r 25)) := rfl
set_option maxRecDepth 100000 in
theorem gb_c_26 : lw_tbl[732]? = some (Cond.code (gm_y 26) (gm_b 26) (gm_L 26) (gm_r 26)) := rfl
set_option maxRecDepth 100000 in
theorem gb_c_27 : lw_tbl[193]? = some (Cond.code (gm_y 27) (gm_b 27) (gm_L 27) (gm_r 27)) := rfl
set_option maxRecDepth 100000 in
theorem gb_c_28 : lw_tbl[483]? = some (Cond.code (gm_y 28) (gm_b 28) (gm_L 28) (gm_r 28)) := rfl
set_option maxRecDepth 100000 in
theorem gb_c_29 : lw_tbl[815]? = some (Cond.code (gm_y 29) (gm_b 29) (gm_L 29) (gm_r 29)) := rfl
set_option maxRecDepth 100000 in
theorem gb_c_30 : lw_tbl[824]? = some (Cond.code (gm_y 30) (gm_b 30) (gm_L 30) (gm_r 30)) := rfl
set_option maxRecDepth 100000 in
theorem gb_c_31 : lw_tbl[84]? = some (Cond.code (gm_y 31) (gm_b 31) (gm_L 31) (gm_r 31)) := rfl
set_option maxRecDepth 100000 in
theorem gb_c_32 : lw_tbl[461]? = some (Cond.code (gm_y 32) (gm_b 32) (gm_L 32) (gm_r 32)) := rfl
set_option maxRecDepth 100000 in
theorem gb_c_33 : lw_tbl[467]? = some (Cond.code (gm_y 33) (gm_b 33) (gm_L 33) (gm_r 33)) := rfl
set_option maxRecDepth 100000 in
theorem gb_c_34 : lw_tbl[502]? = some (Cond.code (gm_y 34) (gm_b 34) (gm_L 34) (gm_r 34)) := rfl
set_option maxRecDepth 100000 in
theorem gb_c_35 : lw_tbl[506]? = some (Cond.code (gm_y 35) (gm_b 35) (gm_L 35) (gm_r 35)) := rfl
set_option maxRecDepth 100000 in
theorem gb_c_36 : lw_tbl[565]? = some (Cond.code (gm_y 36) (gm_b 36) (gm_L 36) (gm_r 36)) := rfl
set_option maxRecDepth 100000 in
theorem gb_c_37 : lw_tbl[68]? = some (Cond.code (gm_y 37) (gm_b 37) (gm_L 37) (gm_r 37)) := rfl
set_option maxRecDepth 100000 in
theorem gb_c_38 : lw_tbl[406]? = some (Cond.code (gm_y 38) (gm_b 38) (gm_L 38) (gm_r 38)) := rfl
set_option maxRecDepth 100000 in
theorem gb_c_39 : lw_tbl[426]? = some (Cond.code (gm_y 39) (gm_b 39) (gm_L 39) (gm_r 39)) := rfl
set_option maxRecDepth 100000 in
theorem gb_c_40 : lw_tbl[445]? = some (Cond.code (gm_y 40) (gm_b 40) (gm_L 40) (gm_r 40)) := rfl
set_option maxRecDepth 100000 in
theorem gb_c_41 : lw_tbl[422]? = some (Cond.code (gm_y 41) (gm_b 41) (gm_L 41) (gm_r 41)) := rfl
set_option maxRecDepth 100000 in
theorem gb_c_42 : lw_tbl[418]? = some (Cond.code (gm_y 42) (gm_b 42) (gm_L 42) (gm_r 42)) := rfl
set_option maxRecDepth 100000 in
theorem gb_c_43 : lw_tbl[453]? = some (Cond.code (gm_y 43) (gm_b 43) (gm_L 43) (gm_r 43)) := rfl
set_option maxRecDepth 100000 in
theorem gb_c_44 : lw_tbl[433]? = some (Cond.code (gm_y 44) (gm_b 44) (gm_L 44) (gm_r 44)) := rfl
set_option maxRecDepth 100000 in
theorem gb_c_45 : lw_tbl[437]? = some (Cond.code (gm_y 45) (gm_b 45) (gm_L 45) (gm_r 45)) := rfl
set_option maxRecDepth 100000 in
theorem gb_c_46 : lw_tbl[449]? = some (Cond.code (gm_y 46) (gm_b 46) (gm_L 46) (gm_r 46)) := rfl
set_option maxRecDepth 100000 in
theorem gb_c_47 : lw_tbl[441]? = some (Cond.code (gm_y 47) (gm_b 47) (gm_L 47) (gm_r 47)) := rfl
set_option maxRecDepth 100000 in
theorem gb_c_48 : lw_tbl[429]? = some (Cond.code (gm_y 48) (gm_b 48) (gm_L 48) (gm_r 48)) := rfl
set_option maxRecDepth 100000 in
theorem gb_c_49 : lw_tbl[241]? = some (Cond.code (gm_y 49) (gm_b 49) (gm_L 49) (gm_r 49)) := rfl
set_option maxRecDepth 100000 in
theorem gb_c_50 : lw_tbl[539]? = some (Cond.code (gm_y 50) (gm_b 50) (gm_L 50) (gm_r 50)) := rfl
set_option maxRecDepth 100000 in
theorem gb_c_51 : lw_tbl[609]? = some (Cond.code (gm_y 51) (gm_b 51) (gm_L 51) (gm_r 51)) := rfl
set_option maxRecDepth 100000 in
theorem gb_c_52 : lw_tbl[613]? = some (Cond.code (gm_y 52) (gm_b 52) (gm_L 52) (gm_r 52)) := rfl
set_option maxRecDepth 100000 in
theorem gb_c_53 : lw_tbl[544]? = some (Cond.code (gm_y 53) (gm_b 53) (gm_L 53) (gm_r 53)) := rfl
set_option maxRecDepth 100000 in
theorem gb_c_54 : lw_tbl[549]? = some (Cond.code (gm_y 54) (gm_b 54) (gm_L 54) (gm_r 54)) := rfl
set_option maxRecDepth 100000 in
theorem gb_c_55 : lw_tbl[552]? = some (Cond.code (gm_y 55) (gm_b 55) (gm_L 55) (gm_r 55)) := rfl
set_option maxRecDepth 100000 in
theorem gb_c_56 : lw_tbl[556]? = some (Cond.code (gm_y 56) (gm_b 56) (gm_L 56) (gm_r 56)) := rfl
set_option maxRecDepth 100000 in
theorem gb_c_57 : lw_tbl[560]? = some (Cond.code (gm_y 57) (gm_b 57) (gm_L 57) (gm_r 57)) := rfl
set_option maxRecDepth 100000 in
theorem gb_c_58 : lw_tbl[597]? = some (Cond.code (gm_y 58) (gm_b 58) (gm_L 58) (gm_r 58)) := rfl
set_option maxRecDepth 100000 in
theorem gb_c_59 : lw_tbl[688]? = some (Cond.code (gm_y 59) (gm_b 59) (gm_L 59) (gm_r 59)) := rfl
set_option maxRecDepth 100000 in
theorem gb_c_60 : lw_tbl[651]? = some (Cond.code (gm_y 60) (gm_b 60) (gm_L 60) (gm_r 60)) := rfl
set_option maxRecDepth 100000 in
theorem gb_c_61 : lw_tbl[696]? = some (Cond.code (gm_y 61) (gm_b 61) (gm_L 61) (gm_r 61)) := rfl
set_option maxRecDepth 100000 in
theorem gb_c_62 : lw_tbl[569]? = some (Cond.code (gm_y 62) (gm_b 62) (gm_L 62) (gm_r 62)) := rfl
set_option maxRecDepth 100000 in
theorem gb_c_63 : lw_tbl[60]? = some (Cond.code (gm_y 63) (gm_b 63) (gm_L 63) (gm_r 63)) := rfl
set_option maxRecDepth 100000 in
theorem gb_c_64 : lw_tbl[402]? = some (Cond.code (gm_y 64) (gm_b 64) (gm_L 64) (gm_r 64)) := rfl
set_option maxRecDepth 100000 in
theorem gb_c_65 : lw_tbl[410]? = some (Cond.code (gm_y 65) (gm_b 65) (gm_L 65) (gm_r 65)) := rfl
set_option maxRecDepth 100000 in
theorem gb_c_66 : lw_tbl[414]? = some (Cond.code (gm_y 66) (gm_b 66) (gm_L 66) (gm_r 66)) := rfl
set_option maxRecDepth 100000 in
theorem gb_c_67 : lw_tbl[457]? = some (Cond.code (gm_y 67) (gm_b 67) (gm_L 67) (gm_r 67)) := rfl
set_option maxRecDepth 100000 in
theorem gb_c_68 : lw_tbl[487]? = some (Cond.code (gm_y 68) (gm_b 68) (gm_L 68) (gm_r 68)) := rfl
set_option maxRecDepth 100000 in
theorem gb_c_69 : lw_tbl[494]? = some (Cond.code (gm_y 69) (gm_b 69) (gm_L 69) (gm_r 69)) := rfl
set_option maxRecDepth 100000 in
theorem gb_c_70 : lw_tbl[498]? = some (Cond.code (gm_y 70) (gm_b 70) (gm_L 70) (gm_r 70)) := rfl
set_option maxRecDepth 100000 in
theorem gb_c_71 : lw_tbl[513]? = some (Cond.code (gm_y 71) (gm_b 71) (gm_L 71) (gm_r 71)) := rfl
set_option maxRecDepth 100000 in
theorem gb_c_72 : lw_tbl[517]? = some (Cond.code (gm_y 72) (gm_b 72) (gm_L 72) (gm_r 72)) := rfl
set_option maxRecDepth 100000 in
theorem gb_c_73 : lw_tbl[573]? = some (Cond.code (gm_y 73) (gm_b 73) (gm_L 73) (gm_r 73)) := rfl
set_option maxRecDepth 100000 in
theorem gb_c_74 : lw_tbl[577]? = some (Cond.code (gm_y 74) (gm_b 74) (gm_L 74) (gm_r 74)) := rfl
set_option maxRecDepth 100000 in
theorem gb_c_75 : lw_tbl[585]? = some (Cond.code (gm_y 75) (gm_b 75) (gm_L 75) (gm_r 75)) := rfl
set_option maxRecDepth 100000 in
theorem gb_c_76 : lw_tbl[601]? = some (Cond.code (gm_y 76) (gm_b 76) (gm_L 76) (gm_r 76)) := rfl
set_option maxRecDepth 100000 in
theorem gb_c_77 : lw_tbl[628]? = some (Cond.code (gm_y 77) (gm_b 77) (gm_L 77) (gm_r 77)) := rfl
set_option maxRecDepth 100000 in
theorem gb_c_78 : lw_tbl[634]? = some (Cond.code (gm_y 78) (gm_b 78) (gm_L 78) (gm_r 78)) := rfl
set_option maxRecDepth 100000 in
theorem gb_c_79 : lw_tbl[675]? = some (Cond.code (gm_y 79) (gm_b 79) (gm_L 79) (gm_r 79)) := rfl
set_option maxRecDepth 100000 in
theorem gb_c_80 : lw_tbl[692]? = some (Cond.code (gm_y 80) (gm_b 80) (gm_L 80) (gm_r 80)) := rfl
set_option maxRecDepth 100000 in
theorem gb_c_81 : lw_tbl[700]? = some (Cond.code (gm_y 81) (gm_b 81) (gm_L 81) (gm_r 81)) := rfl
set_option maxRecDepth 100000 in
theorem gb_c_82 : lw_tbl[709]? = some (Cond.code (gm_y 82) (gm_b 82) (gm_L 82) (gm_r 82)) := rfl
set_option maxRecDepth 100000 in
theorem gb_c_83 : lw_tbl[717]? = some (Cond.code (gm_y 83) (gm_b 83) (gm_L 83) (gm_r 83)) := rfl
set_option maxRecDepth 100000 in
theorem gb_c_84 : lw_tbl[721]? = some (Cond.code (gm_y 84) (gm_b 84) (gm_L 84) (gm_r 84)) := rfl
set_option maxRecDepth 100000 in
theorem gb_c_85 : lw_tbl[737]? = some (Cond.code (gm_y 85) (gm_b 85) (gm_L 85) (gm_r 85)) := rfl
set_option maxRecDepth 100000 in
theorem gb_c_86 : lw_tbl[756]? = some (Cond.code (gm_y 86) (gm_b 86) (gm_L 86) (gm_r 86)) := rfl
set_option maxRecDepth 100000 in
theorem gb_c_87 : lw_tbl[761]? = some (Cond.code (gm_y 87) (gm_b 87) (gm_L 87) (gm_r 87)) := rfl
set_option maxRecDepth 100000 in
theorem gb_c_88 : lw_tbl[796]? = some (Cond.code (gm_y 88) (gm_b 88) (gm_L 88) (gm_r 88)) := rfl
set_option maxRecDepth 100000 in
theorem gb_c_89 : lw_tbl[800]? = some (Cond.code (gm_y 89) (gm_b 89) (gm_L 89) (gm_r 89)) := rfl
set_option maxRecDepth 100000 in
theorem gb_c_90 : lw_tbl[811]? = some (Cond.code (gm_y 90) (gm_b 90) (gm_L 90) (gm_r 90)) := rfl
set_option maxRecDepth 100000 in
theorem gb_c_91 : lw_tbl[820]? = some (Cond.code (gm_y 91) (gm_b 91) (gm_L 91) (gm_r 91)) := rfl
set_option maxRecDepth 100000 in
theorem gb_c_92 : lw_tbl[828]? = some (Cond.code (gm_y 92) (gm_b 92) (gm_L 92) (gm_r 92)) := rfl
set_option maxRecDepth 100000 in
theorem gb_c_93 : lw_tbl[490]? = some (Cond.code (gm_y 93) (gm_b 93) (gm_L 93) (gm_r 93)) := rfl
set_option maxRecDepth 100000 in
theorem gb_c_94 : lw_tbl[588]? = some (Cond.code (gm_y 94) (gm_b 94) (gm_L 94) (gm_r 94)) := rfl
set_option maxRecDepth 100000 in
theorem gb_c_95 : lw_tbl[740]? = some (Cond.code (gm_y 95) (gm_b 95) (gm_L 95) (gm_r 95)) := rfl
set_option maxRecDepth 100000 in
theorem gb_c_96 : lw_tbl[509]? = some (Cond.code (gm_y 96) (gm_b 96) (gm_L 96) (gm_r 96)) := rfl
set_option maxRecDepth 100000 in
theorem gb_c_97 : lw_tbl[521]? = some (Cond.code (gm_y 97) (gm_b 97) (gm_L 97) (gm_r 97)) := rfl
set_option maxRecDepth 100000 in
theorem gb_c_98 : lw_tbl[593]? = some (Cond.code (gm_y 98) (gm_b 98) (gm_L 98) (gm_r 98)) := rfl
set_option maxRecDepth 100000 in
theorem gb_c_99 : lw_tbl[684]? = some (Cond.code (gm_y 99) (gm_b 99) (gm_L 99) (gm_r 99)) := rfl
set_option maxRecDepth 100000 in
theorem gb_c_100 : lw_tbl[681]? = some (Cond.code (gm_y 100) (gm_b 100) (gm_L 100) (gm_r 100)) := rfl
set_option maxRecDepth 100000 in
theorem gb_c_101 : lw_tbl[804]? = some (Cond.code (gm_y 101) (gm_b 101) (gm_L 101) (gm_r 101)) := rfl
set_option maxRecDepth 100000 in
theorem gb_c_102 : lw_tbl[745]? = some (Cond.code (gm_y 102) (gm_b 102) (gm_L 102) (gm_r 102)) := rfl
set_option maxRecDepth 100000 in
theorem gb_c_103 : lw_tbl[751]? = some (Cond.code (gm_y 103) (gm_b 103) (gm_L 103) (gm_r 103)) := rfl
set_option maxRecDepth 100000 in
theorem gb_c_104 : lw_tbl[662]? = some (Cond.code (gm_y 104) (gm_b 104) (gm_L 104) (gm_r 104)) := rfl
set_option maxRecDepth 100000 in
theorem gb_c_105 : lw_tbl[668]? = some (Cond.code (gm_y 105) (gm_b 105) (gm_L 105) (gm_r 105)) := rfl
set_option maxRecDepth 100000 in
theorem gb_c_106 : lw_tbl[833]? = some (Cond.code (gm_y 106) (gm_b 106) (gm_L 106) (gm_r 106)) := rfl
set_option maxRecDepth 100000 in
theorem gb_c_107 : lw_tbl[954]? = some (Cond.code (gm_y 107) (gm_b 107) (gm_L 107) (gm_r 107)) := rfl
set_option maxRecDepth 100000 in
theorem gb_c_108 : lw_tbl[1030]? = some (Cond.code (gm_y 108) (gm_b 108) (gm_L 108) (gm_r 108)) := rfl
set_option maxRecDepth 100000 in
theorem gb_c_109 : lw_tbl[1074]? = some (Cond.code (gm_y 109) (gm_b 109) (gm_L 109) (gm_r 109)) := rfl
set_option maxRecDepth 100000 in
theorem gb_c_110 : lw_tbl[950]? = some (Cond.code (gm_y 110) (gm_b 110) (gm_L 110) (gm_r 110)) := rfl
set_option maxRecDepth 100000 in
theorem gb_c_111 : lw_tbl[958]? = some (Cond.code (gm_y 111) (gm_b 111) (gm_L 111) (gm_r 111)) := rfl
set_option maxRecDepth 100000 in
theorem gb_c_112 : lw_tbl[970]? = some (Cond.code (gm_y 112) (gm_b 112) (gm_L 112) (gm_r 112)) := rfl
set_option maxRecDepth 100000 in
theorem gb_c_113 : lw_tbl[973]? = some (Cond.code (gm_y 113) (gm_b 113) (gm_L 113) (gm_r 113)) := rfl
set_option maxRecDepth 100000 in
theorem gb_c_114 : lw_tbl[966]? = some (Cond.code (gm_y 114) (gm_b 114) (gm_L 114) (gm_r 114)) := rfl
set_option maxRecDepth 100000 in
theorem gb_c_115 : lw_tbl[977]? = some (Cond.code (gm_y 115) (gm_b 115) (gm_L 115) (gm_r 115)) := rfl
set_option maxRecDepth 100000 in
theorem gb_c_116 : lw_tbl[962]? = some (Cond.code (gm_y 116) (gm_b 116) (gm_L 116) (gm_r 116)) := rfl
set_option maxRecDepth 100000 in
theorem gb_c_117 : lw_tbl[981]? = some (Cond.code (gm_y 117) (gm_b 117) (gm_L 117) (gm_r 117)) := rfl
set_option maxRecDepth 100000 in
theorem gb_c_118 : lw_tbl[998]? = some (Cond.code (gm_y 118) (gm_b 118) (gm_L 118) (gm_r 118)) := rfl
set_option maxRecDepth 100000 in
theorem gb_c_119 : lw_tbl[985]? = some (Cond.code (gm_y 119) (gm_b 119) (gm_L 119) (gm_r 119)) := rfl
set_option maxRecDepth 100000 in
theorem gb_c_120 : lw_tbl[990]? = some (Cond.code (gm_y 120) (gm_b 120) (gm_L 120) (gm_r 120)) := rfl
set_option maxRecDepth 100000 in
theorem gb_c_121 : lw_tbl[1003]? = some (Cond.code (gm_y 121) (gm_b 121) (gm_L 121) (gm_r 121)) := rfl
set_option maxRecDepth 100000 in
theorem gb_c_122 : lw_tbl[1038]? = some (Cond.code (gm_y 122) (gm_b 122) (gm_L 122) (gm_r 122)) := rfl
set_option maxRecDepth 100000 in
theorem gb_c_123 : lw_tbl[994]? = some (Cond.code (gm_y 123) (gm_b 123) (gm_L 123) (gm_r 123)) := rfl
set_option maxRecDepth 100000 in
theorem gb_c_124 : lw_tbl[1007]? = some (Cond.code (gm_y 124) (gm_b 124) (gm_L 124) (gm_r 124)) := rfl
set_option maxRecDepth 100000 in
theorem gb_c_125 : lw_tbl[1027]? = some (Cond.code (gm_y 125) (gm_b 125) (gm_L 125) (gm_r 125)) := rfl
set_option maxRecDepth 100000 in
theorem gb_c_126 : lw_tbl[1034]? = some (Cond.code (gm_y 126) (gm_b 126) (gm_L 126) (gm_r 126)) := rfl
set_option maxRecDepth 100000 in
theorem gb_c_127 : lw_tbl[1023]? = some (Cond.code (gm_y 127) (gm_b 127) (gm_L 127) (gm_r 127)) := rfl
set_option maxRecDepth 100000 in
theorem gb_c_128 : lw_tbl[1019]? = some (Cond.code (gm_y 128) (gm_b 128) (gm_L 128) (gm_r 128)) := rfl
set_option maxRecDepth 100000 in
theorem gb_c_129 : lw_tbl[1059]? = some (Cond.code (gm_y 129) (gm_b 129) (gm_L 129) (gm_r 129)) := rfl
set_option maxRecDepth 100000 in
theorem gb_c_130 : lw_tbl[1015]? = some (Cond.code (gm_y 130) (gm_b 130) (gm_L 130) (gm_r 130)) := rfl
set_option maxRecDepth 100000 in
theorem gb_c_131 : lw_tbl[1011]? = some (Cond.code (gm_y 131) (gm_b 131) (gm_L 131) (gm_r 131)) := rfl
set_option maxRecDepth 100000 in
theorem gb_c_132 : lw_tbl[1042]? = some (Cond.code (gm_y 132) (gm_b 132) (gm_L 132) (gm_r 132)) := rfl
set_option maxRecDepth 100000 in
theorem gb_c_133 : lw_tbl[1046]? = some (Cond.code (gm_y 133) (gm_b 133) (gm_L 133) (gm_r 133)) := rfl
set_option maxRecDepth 100000 in
theorem gb_c_134 : lw_tbl[1055]? = some (Cond.code (gm_y 134) (gm_b 134) (gm_L 134) (gm_r 134)) := rfl
set_option maxRecDepth 100000 in
theorem gb_c_135 : lw_tbl[1071]? = some (Cond.code (gm_y 135) (gm_b 135) (gm_L 135) (gm_r 135)) := rfl
set_option maxRecDepth 100000 in
theorem gb_c_136 : lw_tbl[1050]? = some (Cond.code (gm_y 136) (gm_b 136) (gm_L 136) (gm_r 136)) := rfl
set_option maxRecDepth 100000 in
theorem gb_c_137 : lw_tbl[1067]? = some (Cond.code (gm_y 137) (gm_b 137) (gm_L 137) (gm_r 137)) := rfl
set_option maxRecDepth 100000 in
theorem gb_c_138 : lw_tbl[1063]? = some (Cond.code (gm_y 138) (gm_b 138) (gm_L 138) (gm_r 138)) := rfl
set_option maxRecDepth 100000 in
theorem gb_c_139 : lw_tbl[1078]? = some (Cond.code (gm_y 139) (gm_b 139) (gm_L 139) (gm_r 139)) := rfl
set_option maxRecDepth 100000 in
theorem gb_c_140 : lw_tbl[1086]? = some (Cond.code (gm_y 140) (gm_b 140) (gm_L 140) (gm_r 140)) := rfl
set_option maxRecDepth 100000 in
theorem gb_c_141 : lw_tbl[1089]? = some (Cond.code (gm_y 141) (gm_b 141) (gm_L 141) (gm_r 141)) := rfl
set_option maxRecDepth 100000 in
theorem gb_c_142 : lw_tbl[1082]? = some (Cond.code (gm_y 142) (gm_b 142) (gm_L 142) (gm_r 142)) := rfl
set_option maxRecDepth 100000 in
theorem gb_c_143 : lw_tbl[1097]? = some (Cond.code (gm_y 143) (gm_b 143) (gm_L 143) (gm_r 143)) := rfl
set_option maxRecDepth 100000 in
theorem gb_c_144 : lw_tbl[1093]? = some (Cond.code (gm_y 144) (gm_b 144) (gm_L 144) (gm_r 144)) := rfl
set_option maxRecDepth 100000 in
theorem gb_c_145 : lw_tbl[1101]? = some (Cond.code (gm_y 145) (gm_b 145) (gm_L 145) (gm_r 145)) := rfl
set_option maxRecDepth 100000 in
theorem gb_c_146 : lw_tbl[1105]? = some (Cond.code (gm_y 146) (gm_b 146) (gm_L 146) (gm_r 146)) := rfl
set_option maxRecDepth 100000 in
theorem gb_c_147 : lw_tbl[1109]? = some (Cond.code (gm_y 147) (gm_b 147) (gm_L 147) (gm_r 147)) := rfl
set_option maxRecDepth 100000 in
theorem gb_c_148 : lw_tbl[1114]? = some (Cond.code (gm_y 148) (gm_b 148) (gm_L 148) (gm_r 148)) := rfl
set_option maxRecDepth 100000 in
theorem gb_c_149 : lw_tbl[1123]? = some (Cond.code (gm_y 149) (gm_b 149) (gm_L 149) (gm_r 149)) := rfl
set_option maxRecDepth 100000 in
theorem gb_c_150 : lw_tbl[1118]? = some (Cond.code (gm_y 150) (gm_b 150) (gm_L 150) (gm_r 150)) := rfl
set_option maxRecDepth 100000 in
theorem gb_c_151 : lw_tbl[1133]? = some (Cond.code (gm_y 151) (gm_b 151) (gm_L 151) (gm_r 151)) := rfl
set_option maxRecDepth 100000 in
theorem gb_c_152 : lw_tbl[1127]? = some (Cond.code (gm_y 152) (gm_b 152) (gm_L 152) (gm_r 152)) := rfl
set_option maxRecDepth 100000 in
theorem gb_c_153 : lw_tbl[1137]? = some (Cond.code (gm_y 153) (gm_b 153) (gm_L 153) (gm_r 153)) := rfl
set_option maxRecDepth 100000 in
theorem gb_c_154 : lw_tbl[1150]? = some (Cond.code (gm_y 154) (gm_b 154) (gm_L 154) (gm_r 154)) := rfl
set_option maxRecDepth 100000 in
theorem gb_c_155 : lw_tbl[1146]? = some (Cond.code (gm_y 155) (gm_b 155) (gm_L 155) (gm_r 155)) := rfl
set_option maxRecDepth 100000 in
theorem gb_c_156 : lw_tbl[1154]? = some (Cond.code (gm_y 156) (gm_b 156) (gm_L 156) (gm_r 156)) := rfl
set_option maxRecDepth 100000 in
theorem gb_c_157 : lw_tbl[1142]? = some (Cond.code (gm_y 157) (gm_b 157) (gm_L 157) (gm_r 157)) := rfl
set_option maxRecDepth 100000 in
theorem gb_c_158 : lw_tbl[1158]? = some (Cond.code (gm_y 158) (gm_b 158) (gm_L 158) (gm_r 158)) := rfl
set_option maxRecDepth 100000 in
theorem gb_c_159 : lw_tbl[1162]? = some (Cond.code (gm_y 159) (gm_b 159) (gm_L 159) (gm_r 159)) := rfl
set_option maxRecDepth 100000 in
theorem gb_c_160 : lw_tbl[1169]? = some (Cond.code (gm_y 160) (gm_b 160) (gm_L 160) (gm_r 160)) := rfl
set_option maxRecDepth 100000 in
theorem gb_c_161 : lw_tbl[1173]? = some (Cond.code (gm_y 161) (gm_b 161) (gm_L 161) (gm_r 161)) := rfl
set_option maxRecDepth 100000 in
theorem gb_c_162 : lw_tbl[1177]? = some (Cond.code (gm_y 162) (gm_b 162) (gm_L 162) (gm_r 162)) := rfl
set_option maxRecDepth 100000 in
theorem gb_c_163 : lw_tbl[621]? = some (Cond.code (gm_y 163) (gm_b 163) (gm_L 163) (gm_r 163)) := rfl
set_option maxRecDepth 100000 in
theorem gb_call : gb_cP gb_cl0 0 := gb_ccons gb_c_0 (gb_ccons gb_c_1 (gb_ccons gb_c_2 (gb_ccons gb_c_3 (gb_ccons gb_c_4 (gb_ccons gb_c_5 (gb_ccons gb_c_6 (gb_ccons gb_c_7 (gb_ccons gb_c_8 (gb_ccons gb_c_9 (gb_ccons gb_c_10 (gb_ccons gb_c_11 (gb_ccons gb_c_12 (gb_ccons gb_c_13 (gb_ccons gb_c_14 (gb_ccons gb_c_15 (gb_ccons gb_c_16 (gb_ccons gb_c_17 (gb_ccons gb_c_18 (gb_ccons gb_c_19 (gb_ccons gb_c_20 (gb_ccons gb_c_21 (gb_ccons gb_c_22 (gb_ccons gb_c_23 (gb_ccons gb_c_24 (gb_ccons gb_c_25 (gb_ccons gb_c_26 (gb_ccons gb_c_27 (gb_ccons gb_c_28 (gb_ccons gb_c_29 (gb_ccons gb_c_30 (gb_ccons gb_c_31 (gb_ccons gb_c_32 (gb_ccons gb_c_33 (gb_ccons gb_c_34 (gb_ccons gb_c_35 (gb_ccons gb_c_36 (gb_ccons gb_c_37 (gb_ccons gb_c_38 (gb_ccons gb_c_39 (gb_ccons gb_c_40 (gb_ccons gb_c_41 (gb_ccons gb_c_42 (gb_ccons gb_c_43 (gb_ccons gb_c_44 (gb_ccons gb_c_45 (gb_ccons gb_c_46 (gb_ccons gb_c_47 (gb_ccons gb_c_48 (gb_ccons gb_c_49 (gb_ccons gb_c_50 (gb_ccons gb_c_51 (gb_ccons gb_c_52 (gb_ccons gb_c_53 (gb_ccons gb_c_54 (gb_ccons gb_c_55 (gb_ccons gb_c_56 (gb_ccons gb_c_57 (gb_ccons gb_c_58 (gb_ccons gb_c_59 (gb_ccons gb_c_60 (gb_ccons gb_c_61 (gb_ccons gb_c_62 (gb_ccons gb_c_63 (gb_ccons gb_c_64 (gb_ccons gb_c_65 (gb_ccons gb_c_66 (gb_ccons gb_c_67 (gb_ccons gb_c_68 (gb_ccons gb_c_69 (gb_ccons gb_c_70 (gb_ccons gb_c_71 (gb_ccons gb_c_72 (gb_ccons gb_c_73 (gb_ccons gb_c_74 (gb_ccons gb_c_75 (gb_ccons gb_c_76 (gb_ccons gb_c_77 (gb_ccons gb_c_78 (gb_ccons gb_c_79 (gb_ccons gb_c_80 (gb_ccons gb_c_81 (gb_ccons gb_c_82 (gb_ccons gb_c_83 (gb_ccons gb_c_84 (gb_ccons gb_c_85 (gb_ccons gb_c_86 (gb_ccons gb_c_87 (gb_ccons gb_c_88 (gb_ccons gb_c_89 (gb_ccons gb_c_90 (gb_ccons gb_c_91 (gb_ccons gb_c_92 (gb_ccons gb_c_93 (gb_ccons gb_c_94 (gb_ccons gb_c_95 (gb_ccons gb_c_96 (gb_ccons gb_c_97 (gb_ccons gb_c_98 (gb_ccons gb_c_99 (gb_ccons gb_c_100 (gb_ccons gb_c_101 (gb_ccons gb_c_102 (gb_ccons gb_c_103 (gb_ccons gb_c_104 (gb_ccons gb_c_105 (gb_ccons gb_c_106 (gb_ccons gb_c_107 (gb_ccons gb_c_108 (gb_ccons gb_c_109 (gb_ccons gb_c_110 (gb_ccons gb_c_111 (gb_ccons gb_c_112 (gb_ccons gb_c_113 (gb_ccons gb_c_114 (gb_ccons gb_c_115 (gb_ccons gb_c_116 (gb_ccons gb_c_117 (gb_ccons gb_c_118 (gb_ccons gb_c_119 (gb_ccons gb_c_120 (gb_ccons gb_c_121 (gb_ccons gb_c_122 (gb_ccons gb_c_123 (gb_ccons gb_c_124 (gb_ccons gb_c_125 (gb_ccons gb_c_126 (gb_ccons gb_c_127 (gb_ccons gb_c_128 (gb_ccons gb_c_129 (gb_ccons gb_c_130 (gb_ccons gb_c_131 (gb_ccons gb_c_132 (gb_ccons gb_c_133 (gb_ccons gb_c_134 (gb_ccons gb_c_135 (gb_ccons gb_c_136 (gb_ccons gb_c_137 (gb_ccons gb_c_138 (gb_ccons gb_c_139 (gb_ccons gb_c_140 (gb_ccons gb_c_141 (gb_ccons gb_c_142 (gb_ccons gb_c_143 (gb_ccons gb_c_144 (gb_ccons gb_c_145 (gb_ccons gb_c_146 (gb_ccons gb_c_147 (gb_ccons gb_c_148 (gb_ccons gb_c_149 (gb_ccons gb_c_150 (gb_ccons gb_c_151 (gb_ccons gb_c_152 (gb_ccons gb_c_153 (gb_ccons gb_c_154 (gb_ccons gb_c_155 (gb_ccons gb_c_156 (gb_ccons gb_c_157 (gb_ccons gb_c_158 (gb_ccons gb_c_159 (gb_ccons gb_c_160 (gb_ccons gb_c_161 (gb_ccons gb_c_162 (gb_ccons gb_c_163 (gb_cnil _))))))))))))))))))))))))))))))))))))))))))))))))))))))))))))))))))))))))))))))))))))))))))))))))))))))))))))))))))))))))))))))))))))))))))))))))))))))))))))))))))))
theorem gb_code {i : Nat} (h : i < 164) : Cond.code (gm_y i) (gm_b i) (gm_L i) (gm_r i) ∈ gb_t := by
  have hl : gb_cl0.length = 164 := by decide +kernel
  have := gb_call i (gb_cl0[i]'(by omega)) (List.getElem?_eq_getElem (by omega))
  rw [Nat.zero_add] at this
  exact gb_tin (List.mem_of_getElem? this) rfl
theorem gb_word {i : Nat} (h : i < 164) : ∀ w ∈ gb_mw i, w ∈ gb_t := by
  intro w hw
  rcases List.mem_cons.mp hw with e | e
  · rw [e]; exact gb_code h
  · exact gb_in_ok _ _ (gb_wA h) w e
end
section
abbrev gc_O : Type := Nat × Instr × Nat × Nat × Nat
def gc_lk (i : Nat) : Instr → Nat → Nat → Nat → Bool := fun ins pc a b => match ins with
  | .iconst n => Int32.ofInt n == gb_iv a b
  | .bipush n => (Int8.ofInt n).toInt32 == gb_iv a b
  | .sipush n => (Int16.ofInt n).toInt32 == gb_iv a b
  | .lconst n => Int64.ofNat n.val == gb_lv a b
  | .ldc x | .ldc_w x => gl_K.any (fun r => r.1 == gm_o i && (r.2.1 == x && (r.2.2.1 == a && r.2.2.2.1 == b)))
  | .ldc2_w x => gl_L.any (fun r => r.1 == gm_o i && (r.2.1 == x && (r.2.2.1 == a && r.2.2.2.1 == b)))
  | .iload_n k | .aload_n k | .lload_n k | .istore_n k | .astore_n k | .lstore_n k => k.val == a
  | .iload k | .aload k | .lload k | .istore k | .astore k | .lstore k => k == a
  | .iinc _ n => Int32.ofInt n == gb_iv a b
  | .ifCond _ off | .if_icmp _ off | .goto off => (pc : Int) + off == (a : Int)
  | .getfield x | .putfield x => gl_F.any (fun r => r.1 == gm_o i && (r.2.1 == x && (r.2.2.1 == a && r.2.2.2.1 == b)))
  | .getstatic x => gl_S.any (fun r => r.1 == gm_o i && (r.2.1 == x && r.2.2.1 == a))
  | .invokevirtual x | .invokestatic x | .invokespecial x => (gl_M.any (fun r => r.1 == gm_o i && (r.2.1 == x && r.2.2.1 == a))) || (gl_N.any (fun r => r.1 == gm_o i && (r.2.1 == x && r.2.2.1 == a)))
  | .new x | .anewarray x | .multianewarray x _ => gl_C.any (fun r => r.1 == gm_o i && (r.2.1 == x && r.2.2.1 == (if a = 14 then 3 else a)))
  | .newarray .int => a == 12
  | .newarray .boolean => a == 13
  | .tableswitch d lo _ offs => (decide (0 ≤ (pc : Int) + d)) && (offs.toList.all (fun f => decide (0 ≤ (pc : Int) + f)))
  | _ => true
def gc_ok (i : Nat) (r : gc_O) : Bool := decide (decode (gm_b i) r.1 = .ok (r.2.1, r.2.2.1)) && gc_lk i r.2.1 r.1 r.2.2.2.1 r.2.2.2.2
def gc_0 : List gc_O := [
  (0, .aload_n 0, 1, 0, 0), (1, .invokespecial 3, 3, 1000, 0), (4, .aload_n 0, 1, 0, 0), (5, .bipush 14, 2, 14, 0), (7, .anewarray 9, 3, 14, 0), (10, .putfield 11, 3, 0, 0),
  (13, .iconst 0, 1, 0, 0), (14, .istore_n 1, 1, 1, 0), (15, .iload_n 1, 1, 1, 0), (16, .bipush 14, 2, 14, 0), (18, .if_icmp .ge 22, 3, 40, 0), (21, .aload_n 0, 1, 0, 0),
  (22, .getfield 11, 3, 0, 0), (25, .iload_n 1, 1, 1, 0), (26, .new 9, 3, 3, 0), (29, .dup, 1, 0, 0), (30, .invokespecial 17, 3, 12, 0), (33, .aastore, 1, 0, 0),
  (34, .iinc 1 1, 3, 1, 0), (37, .goto (-22), 3, 15, 0), (40, .return_, 1, 0, 0)]
def gc_1 : List gc_O := [
  (0, .aload_n 0, 1, 0, 0), (1, .iconst 0, 1, 0, 0), (2, .putfield 18, 3, 0, 2), (5, .return_, 1, 0, 0)]
def gc_2 : List gc_O := [
  (0, .aload_n 0, 1, 0, 0), (1, .getfield 11, 3, 0, 0), (4, .aload_n 0, 1, 0, 0), (5, .getfield 22, 3, 0, 1), (8, .aaload, 1, 0, 0), (9, .aload_n 1, 1, 1, 0),
  (10, .invokevirtual 25, 3, 15, 1), (13, .aload_n 0, 1, 0, 0), (14, .aload_n 0, 1, 0, 0), (15, .getfield 22, 3, 0, 1), (18, .iconst 1, 1, 1, 0), (19, .iadd, 1, 0, 0),
  (20, .bipush 14, 2, 14, 0), (22, .irem, 1, 0, 0), (23, .putfield 22, 3, 0, 1), (26, .aload_n 0, 1, 0, 0), (27, .aload_n 0, 1, 0, 0), (28, .getfield 18, 3, 0, 2),
  (31, .iconst 1, 1, 1, 0), (32, .iadd, 1, 0, 0), (33, .bipush 14, 2, 14, 0), (35, .invokestatic 29, 3, 1003, 2), (38, .putfield 18, 3, 0, 2), (41, .return_, 1, 0, 0)]
def gc_3 : List gc_O := [
  (0, .aload_n 0, 1, 0, 0), (1, .getfield 18, 3, 0, 2), (4, .ifCond .ne 5, 3, 9, 0), (7, .iconst 0, 1, 0, 0), (8, .ireturn, 1, 0, 0), (9, .aload_n 0, 1, 0, 0),
  (10, .aload_n 0, 1, 0, 0), (11, .getfield 22, 3, 0, 1), (14, .bipush 14, 2, 14, 0), (16, .iadd, 1, 0, 0), (17, .iconst 1, 1, 1, 0), (18, .isub, 1, 0, 0),
  (19, .bipush 14, 2, 14, 0), (21, .irem, 1, 0, 0), (22, .putfield 22, 3, 0, 1), (25, .aload_n 1, 1, 1, 0), (26, .aload_n 0, 1, 0, 0), (27, .getfield 11, 3, 0, 0),
  (30, .aload_n 0, 1, 0, 0), (31, .getfield 22, 3, 0, 1), (34, .aaload, 1, 0, 0), (35, .invokevirtual 25, 3, 15, 1), (38, .aload_n 0, 1, 0, 0), (39, .dup, 1, 0, 0),
  (40, .getfield 18, 3, 0, 2), (43, .iconst 1, 1, 1, 0), (44, .isub, 1, 0, 0), (45, .putfield 18, 3, 0, 2), (48, .iconst 1, 1, 1, 0), (49, .ireturn, 1, 0, 0)]
def gc_4 : List gc_O := [
  (0, .aload_n 0, 1, 0, 0), (1, .invokespecial 1, 3, 1000, 0), (4, .aload_n 0, 1, 0, 0), (5, .aload_n 1, 1, 1, 0), (6, .putfield 7, 3, 1, 0), (9, .return_, 1, 0, 0)]
def gc_5 : List gc_O := [
  (0, .iconst 0, 1, 0, 0), (1, .istore_n 1, 1, 1, 0), (2, .iload_n 1, 1, 1, 0), (3, .aload_n 0, 1, 0, 0), (4, .getfield 7, 3, 1, 0), (7, .invokevirtual 13, 3, 51, 0),
  (10, .if_icmp .ge 79, 3, 89, 0), (13, .aload_n 0, 1, 0, 0), (14, .getfield 7, 3, 1, 0), (17, .iload_n 1, 1, 1, 0), (18, .invokevirtual 19, 3, 52, 1), (21, .istore_n 2, 1, 2, 0),
  (22, .aload_n 0, 1, 0, 0), (23, .getfield 7, 3, 1, 0), (26, .iload_n 2, 1, 2, 0), (27, .iconst 0, 1, 0, 0), (28, .invokevirtual 23, 3, 53, 2), (31, .aload_n 0, 1, 0, 0),
  (32, .getfield 7, 3, 1, 0), (35, .invokevirtual 27, 3, 58, 0), (38, .aload_n 0, 1, 0, 0), (39, .getfield 30, 3, 1, 2), (42, .isub, 1, 0, 0), (43, .istore_n 3, 1, 3, 0),
  (44, .iload_n 1, 1, 1, 0), (45, .ifCond .eq 22, 3, 67, 0), (48, .iload_n 3, 1, 3, 0), (49, .ifCond .gt 18, 3, 67, 0), (52, .iload_n 3, 1, 3, 0), (53, .ifCond .ne 30, 3, 83, 0),
  (56, .iload_n 2, 1, 2, 0), (57, .aload_n 0, 1, 0, 0), (58, .getfield 33, 3, 1, 1), (61, .invokestatic 36, 3, 7, 2), (64, .ifCond .eq 19, 3, 83, 0), (67, .aload_n 0, 1, 0, 0),
  (68, .iload_n 2, 1, 2, 0), (69, .putfield 33, 3, 1, 1), (72, .aload_n 0, 1, 0, 0), (73, .aload_n 0, 1, 0, 0), (74, .getfield 7, 3, 1, 0), (77, .invokevirtual 27, 3, 58, 0),
  (80, .putfield 30, 3, 1, 2), (83, .iinc 1 1, 3, 1, 0), (86, .goto (-84), 3, 2, 0), (89, .return_, 1, 0, 0)]
def gc_6 : List gc_O := [
  (0, .iconst 0, 1, 0, 0), (1, .istore_n 2, 1, 2, 0), (2, .iconst 0, 1, 0, 0), (3, .istore_n 3, 1, 3, 0), (4, .iload_n 3, 1, 3, 0), (5, .aload_n 0, 1, 0, 0),
  (6, .getfield 7, 3, 1, 0), (9, .invokevirtual 13, 3, 51, 0), (12, .if_icmp .ge 64, 3, 76, 0), (15, .aload_n 0, 1, 0, 0), (16, .getfield 7, 3, 1, 0), (19, .iload_n 3, 1, 3, 0),
  (20, .invokevirtual 19, 3, 52, 1), (23, .istore 4, 2, 4, 0), (25, .aload_n 0, 1, 0, 0), (26, .getfield 7, 3, 1, 0), (29, .iload 4, 2, 4, 0), (31, .iconst 0, 1, 0, 0),
  (32, .invokevirtual 23, 3, 53, 2), (35, .aload_n 0, 1, 0, 0), (36, .getfield 7, 3, 1, 0), (39, .invokevirtual 40, 3, 61, 0), (42, .iload_n 1, 1, 1, 0), (43, .if_icmp .ne 27, 3, 70, 0),
  (46, .iload_n 2, 1, 2, 0), (47, .ifCond .eq 15, 3, 62, 0), (50, .iload 4, 2, 4, 0), (52, .aload_n 0, 1, 0, 0), (53, .getfield 33, 3, 1, 1), (56, .invokestatic 36, 3, 7, 2),
  (59, .ifCond .eq 11, 3, 70, 0), (62, .aload_n 0, 1, 0, 0), (63, .iload 4, 2, 4, 0), (65, .putfield 33, 3, 1, 1), (68, .iconst 1, 1, 1, 0), (69, .istore_n 2, 1, 2, 0),
  (70, .iinc 3 1, 3, 1, 0), (73, .goto (-69), 3, 4, 0), (76, .iload_n 2, 1, 2, 0), (77, .ireturn, 1, 0, 0)]
def gc_7 : List gc_O := [
  (0, .iload_n 1, 1, 1, 0), (1, .invokestatic 43, 3, 163, 1), (4, .iload_n 0, 1, 0, 0), (5, .invokestatic 43, 3, 163, 1), (8, .isub, 1, 0, 0), (9, .istore_n 2, 1, 2, 0),
  (10, .iload_n 2, 1, 2, 0), (11, .ifCond .gt 12, 3, 23, 0), (14, .iload_n 2, 1, 2, 0), (15, .ifCond .ne 12, 3, 27, 0), (18, .iload_n 0, 1, 0, 0), (19, .iload_n 1, 1, 1, 0),
  (20, .if_icmp .ge 7, 3, 27, 0), (23, .iconst 1, 1, 1, 0), (24, .goto 4, 3, 28, 0), (27, .iconst 0, 1, 0, 0), (28, .ireturn, 1, 0, 0)]
def gc_8 : List gc_O := [
  (0, .aload_n 0, 1, 0, 0), (1, .invokespecial 3, 3, 1000, 0), (4, .aload_n 0, 1, 0, 0), (5, .bipush 64, 2, 64, 0), (7, .newarray .int, 2, 12, 0), (9, .putfield 9, 3, 2, 2),
  (12, .aload_n 0, 1, 0, 0), (13, .bipush 64, 2, 64, 0), (15, .newarray .int, 2, 12, 0), (17, .putfield 15, 3, 2, 3), (20, .aload_n 0, 1, 0, 0), (21, .aload_n 1, 1, 1, 0),
  (22, .putfield 18, 3, 2, 0), (25, .aload_n 0, 1, 0, 0), (26, .aload_n 2, 1, 2, 0), (27, .putfield 22, 3, 2, 1), (30, .return_, 1, 0, 0)]
def gc_9 : List gc_O := [
  (0, .iconst 0, 1, 0, 0), (1, .istore_n 1, 1, 1, 0), (2, .iload_n 1, 1, 1, 0), (3, .aload_n 0, 1, 0, 0), (4, .getfield 22, 3, 2, 1), (7, .invokevirtual 26, 3, 51, 0),
  (10, .if_icmp .ge 84, 3, 94, 0), (13, .aload_n 0, 1, 0, 0), (14, .getfield 22, 3, 2, 1), (17, .iload_n 1, 1, 1, 0), (18, .invokevirtual 32, 3, 52, 1), (21, .istore_n 2, 1, 2, 0),
  (22, .aload_n 0, 1, 0, 0), (23, .getfield 22, 3, 2, 1), (26, .iload_n 2, 1, 2, 0), (27, .iconst 0, 1, 0, 0), (28, .invokevirtual 36, 3, 53, 2), (31, .aload_n 0, 1, 0, 0),
  (32, .iload_n 2, 1, 2, 0), (33, .invokevirtual 40, 3, 10, 1), (36, .iconst 0, 1, 0, 0), (37, .istore_n 3, 1, 3, 0), (38, .iload_n 3, 1, 3, 0), (39, .iconst 1, 1, 1, 0),
  (40, .aload_n 0, 1, 0, 0), (41, .getfield 18, 3, 2, 0), (44, .getfield 44, 3, 7, 4), (47, .ishl, 1, 0, 0), (48, .if_icmp .ge 40, 3, 88, 0), (51, .iload_n 1, 1, 1, 0),
  (52, .ifCond .eq 18, 3, 70, 0), (55, .aload_n 0, 1, 0, 0), (56, .getfield 15, 3, 2, 3), (59, .iload_n 3, 1, 3, 0), (60, .iaload, 1, 0, 0), (61, .aload_n 0, 1, 0, 0),
  (62, .getfield 9, 3, 2, 2), (65, .iload_n 3, 1, 3, 0), (66, .iaload, 1, 0, 0), (67, .if_icmp .le 15, 3, 82, 0), (70, .aload_n 0, 1, 0, 0), (71, .getfield 9, 3, 2, 2),
  (74, .iload_n 3, 1, 3, 0), (75, .aload_n 0, 1, 0, 0), (76, .getfield 15, 3, 2, 3), (79, .iload_n 3, 1, 3, 0), (80, .iaload, 1, 0, 0), (81, .iastore, 1, 0, 0),
  (82, .iinc 3 1, 3, 1, 0), (85, .goto (-47), 3, 38, 0), (88, .iinc 1 1, 3, 1, 0), (91, .goto (-89), 3, 2, 0), (94, .return_, 1, 0, 0)]
def gc_10 : List gc_O := [
  (0, .aload_n 0, 1, 0, 0), (1, .getfield 15, 3, 2, 3), (4, .iconst 0, 1, 0, 0), (5, .aload_n 0, 1, 0, 0), (6, .getfield 18, 3, 2, 0), (9, .getfield 50, 3, 7, 2),
  (12, .ineg, 1, 0, 0), (13, .iload_n 1, 1, 1, 0), (14, .invokestatic 53, 3, 163, 1), (17, .imul, 1, 0, 0), (18, .iastore, 1, 0, 0), (19, .iconst 0, 1, 0, 0),
  (20, .istore_n 2, 1, 2, 0), (21, .iload_n 2, 1, 2, 0), (22, .aload_n 0, 1, 0, 0), (23, .getfield 18, 3, 2, 0), (26, .getfield 44, 3, 7, 4), (29, .if_icmp .ge 53, 3, 82, 0),
  (32, .iconst 1, 1, 1, 0), (33, .iload_n 2, 1, 2, 0), (34, .ishl, 1, 0, 0), (35, .istore_n 3, 1, 3, 0), (36, .iconst 0, 1, 0, 0), (37, .istore 4, 2, 4, 0),
  (39, .iload 4, 2, 4, 0), (41, .iload_n 3, 1, 3, 0), (42, .if_icmp .ge 34, 3, 76, 0), (45, .aload_n 0, 1, 0, 0), (46, .getfield 15, 3, 2, 3), (49, .iload_n 3, 1, 3, 0),
  (50, .iload 4, 2, 4, 0), (52, .ior, 1, 0, 0), (53, .aload_n 0, 1, 0, 0), (54, .getfield 15, 3, 2, 3), (57, .iload 4, 2, 4, 0), (59, .iaload, 1, 0, 0),
  (60, .aload_n 0, 1, 0, 0), (61, .getfield 22, 3, 2, 1), (64, .iload_n 2, 1, 2, 0), (65, .invokevirtual 58, 3, 60, 1), (68, .iadd, 1, 0, 0), (69, .iastore, 1, 0, 0),
  (70, .iinc 4 1, 3, 1, 0), (73, .goto (-34), 3, 39, 0), (76, .iinc 2 1, 3, 1, 0), (79, .goto (-58), 3, 21, 0), (82, .return_, 1, 0, 0)]
def gc_11 : List gc_O := [
  (0, .lconst 0, 1, 0, 0), (1, .lstore_n 2, 1, 2, 0), (2, .aload_n 0, 1, 0, 0), (3, .getfield 18, 3, 2, 0), (6, .getfield 44, 3, 7, 4), (9, .iconst 1, 1, 1, 0),
  (10, .isub, 1, 0, 0), (11, .istore 4, 2, 4, 0), (13, .iconst 0, 1, 0, 0), (14, .istore 5, 2, 5, 0), (16, .iload 5, 2, 5, 0), (18, .iconst 1, 1, 1, 0),
  (19, .aload_n 0, 1, 0, 0), (20, .getfield 18, 3, 2, 0), (23, .getfield 44, 3, 7, 4), (26, .ishl, 1, 0, 0), (27, .if_icmp .ge 70, 3, 97, 0), (30, .iload 5, 2, 5, 0),
  (32, .iload_n 1, 1, 1, 0), (33, .invokestatic 61, 3, 96, 2), (36, .ifCond .ne 55, 3, 91, 0), (39, .iload 5, 2, 5, 0), (41, .invokestatic 53, 3, 163, 1), (44, .istore 6, 2, 6, 0),
  (46, .getstatic 65, 3, 1, 0), (49, .iload 6, 2, 6, 0), (51, .iaload, 1, 0, 0), (52, .getstatic 65, 3, 1, 0), (55, .iload 4, 2, 4, 0), (57, .iload 6, 2, 6, 0),
  (59, .isub, 1, 0, 0), (60, .iaload, 1, 0, 0), (61, .imul, 1, 0, 0), (62, .istore 7, 2, 7, 0), (64, .lload_n 2, 1, 2, 0), (65, .iload 7, 2, 7, 0),
  (67, .i2l, 1, 0, 0), (68, .aload_n 0, 1, 0, 0), (69, .getfield 9, 3, 2, 2), (72, .iload 5, 2, 5, 0), (74, .iconst 1, 1, 1, 0), (75, .iload_n 1, 1, 1, 0),
  (76, .ishl, 1, 0, 0), (77, .ior, 1, 0, 0), (78, .iaload, 1, 0, 0), (79, .aload_n 0, 1, 0, 0), (80, .getfield 9, 3, 2, 2), (83, .iload 5, 2, 5, 0),
  (85, .iaload, 1, 0, 0), (86, .isub, 1, 0, 0), (87, .i2l, 1, 0, 0), (88, .lmul, 1, 0, 0), (89, .ladd, 1, 0, 0), (90, .lstore_n 2, 1, 2, 0),
  (91, .iinc 5 1, 3, 1, 0), (94, .goto (-78), 3, 16, 0), (97, .lload_n 2, 1, 2, 0), (98, .lreturn, 1, 0, 0)]
def gc_12 : List gc_O := [
  (0, .aload_n 0, 1, 0, 0), (1, .invokespecial 3, 3, 1000, 0), (4, .aload_n 0, 1, 0, 0), (5, .bipush 10, 2, 10, 0), (7, .newarray .int, 2, 12, 0), (9, .putfield 9, 3, 3, 0),
  (12, .return_, 1, 0, 0)]
def gc_13 : List gc_O := [
  (0, .aload_n 0, 1, 0, 0), (1, .invokevirtual 15, 3, 14, 0), (4, .aload_n 0, 1, 0, 0), (5, .iconst 0, 1, 0, 0), (6, .putfield 18, 3, 3, 1), (9, .aload_n 0, 1, 0, 0),
  (10, .iconst 0, 1, 0, 0), (11, .putfield 22, 3, 3, 2), (14, .aload_n 0, 1, 0, 0), (15, .iconst 0, 1, 0, 0), (16, .putfield 25, 3, 3, 3), (19, .return_, 1, 0, 0)]
def gc_14 : List gc_O := [
  (0, .iconst 0, 1, 0, 0), (1, .istore_n 1, 1, 1, 0), (2, .iload_n 1, 1, 1, 0), (3, .bipush 10, 2, 10, 0), (5, .if_icmp .ge 16, 3, 21, 0), (8, .aload_n 0, 1, 0, 0),
  (9, .getfield 9, 3, 3, 0), (12, .iload_n 1, 1, 1, 0), (13, .iconst 0, 1, 0, 0), (14, .iastore, 1, 0, 0), (15, .iinc 1 1, 3, 1, 0), (18, .goto (-16), 3, 2, 0),
  (21, .return_, 1, 0, 0)]
def gc_15 : List gc_O := [
  (0, .aload_n 1, 1, 1, 0), (1, .getfield 9, 3, 3, 0), (4, .iconst 0, 1, 0, 0), (5, .aload_n 0, 1, 0, 0), (6, .getfield 9, 3, 3, 0), (9, .iconst 0, 1, 0, 0),
  (10, .bipush 10, 2, 10, 0), (12, .invokestatic 28, 3, 1001, 5), (15, .aload_n 0, 1, 0, 0), (16, .aload_n 1, 1, 1, 0), (17, .getfield 18, 3, 3, 1), (20, .putfield 18, 3, 3, 1),
  (23, .aload_n 0, 1, 0, 0), (24, .aload_n 1, 1, 1, 0), (25, .getfield 22, 3, 3, 2), (28, .putfield 22, 3, 3, 2), (31, .aload_n 0, 1, 0, 0), (32, .aload_n 1, 1, 1, 0),
  (33, .getfield 25, 3, 3, 3), (36, .putfield 25, 3, 3, 3), (39, .return_, 1, 0, 0)]
def gc_16 : List gc_O := [
  (0, .aload_n 0, 1, 0, 0), (1, .invokespecial 3, 3, 1000, 0), (4, .aload_n 0, 1, 0, 0), (5, .bipush 9, 2, 9, 0), (7, .bipush 48, 2, 48, 0), (9, .multianewarray 9 2, 4, 15, 0),
  (13, .putfield 11, 3, 4, 2), (16, .aload_n 0, 1, 0, 0), (17, .bipush 9, 2, 9, 0), (19, .bipush 48, 2, 48, 0), (21, .multianewarray 9 2, 4, 15, 0), (25, .putfield 16, 3, 4, 3),
  (28, .aload_n 0, 1, 0, 0), (29, .bipush 9, 2, 9, 0), (31, .bipush 9, 2, 9, 0), (33, .multianewarray 9 2, 4, 15, 0), (37, .putfield 19, 3, 4, 4), (40, .aload_n 0, 1, 0, 0),
  (41, .bipush 9, 2, 9, 0), (43, .bipush 9, 2, 9, 0), (45, .multianewarray 9 2, 4, 15, 0), (49, .putfield 22, 3, 4, 5), (52, .aload_n 0, 1, 0, 0), (53, .aload_n 1, 1, 1, 0),
  (54, .putfield 25, 3, 4, 0), (57, .aload_n 0, 1, 0, 0), (58, .aload_n 2, 1, 2, 0), (59, .putfield 29, 3, 4, 1), (62, .return_, 1, 0, 0)]
def gc_17 : List gc_O := [
  (0, .aload_n 0, 1, 0, 0), (1, .aload_n 1, 1, 1, 0), (2, .aload_n 0, 1, 0, 0), (3, .getfield 25, 3, 4, 0), (6, .getfield 33, 3, 7, 0), (9, .aload_n 0, 1, 0, 0),
  (10, .getfield 11, 3, 4, 2), (13, .invokevirtual 39, 3, 18, 3), (16, .aload_n 0, 1, 0, 0), (17, .aload_n 2, 1, 2, 0), (18, .iload_n 3, 1, 3, 0), (19, .aload_n 0, 1, 0, 0),
  (20, .getfield 16, 3, 4, 3), (23, .invokevirtual 39, 3, 18, 3), (26, .iconst 0, 1, 0, 0), (27, .istore 4, 2, 4, 0), (29, .iload 4, 2, 4, 0), (31, .aload_n 0, 1, 0, 0),
  (32, .getfield 29, 3, 4, 1), (35, .getfield 43, 3, 9, 12), (38, .if_icmp .gt 38, 3, 76, 0), (41, .iconst 0, 1, 0, 0), (42, .istore 5, 2, 5, 0), (44, .iload 5, 2, 5, 0),
  (46, .aload_n 0, 1, 0, 0), (47, .getfield 29, 3, 4, 1), (50, .getfield 43, 3, 9, 12), (53, .if_icmp .gt 17, 3, 70, 0), (56, .aload_n 0, 1, 0, 0), (57, .iload 4, 2, 4, 0),
  (59, .iload 5, 2, 5, 0), (61, .invokevirtual 48, 3, 19, 2), (64, .iinc 5 1, 3, 1, 0), (67, .goto (-23), 3, 44, 0), (70, .iinc 4 1, 3, 1, 0), (73, .goto (-44), 3, 29, 0),
  (76, .aload_n 0, 1, 0, 0), (77, .invokevirtual 52, 3, 20, 0), (80, .return_, 1, 0, 0)]
def gc_18 : List gc_O := [
  (0, .aload_n 0, 1, 0, 0), (1, .getfield 29, 3, 4, 1), (4, .aload_n 1, 1, 1, 0), (5, .iload_n 2, 1, 2, 0), (6, .invokevirtual 55, 3, 50, 2), (9, .iconst 0, 1, 0, 0),
  (10, .istore 4, 2, 4, 0), (12, .iload 4, 2, 4, 0), (14, .aload_n 0, 1, 0, 0), (15, .getfield 29, 3, 4, 1), (18, .getfield 43, 3, 9, 12), (21, .if_icmp .gt 123, 3, 144, 0),
  (24, .aload_n 0, 1, 0, 0), (25, .getfield 29, 3, 4, 1), (28, .iload 4, 2, 4, 0), (30, .aload_n 0, 1, 0, 0), (31, .getfield 29, 3, 4, 1), (34, .getfield 43, 3, 9, 12),
  (37, .if_icmp .ge 18, 3, 55, 0), (40, .iconst 1, 1, 1, 0), (41, .aload_n 0, 1, 0, 0), (42, .getfield 29, 3, 4, 1), (45, .getfield 59, 3, 9, 11), (48, .iload 4, 2, 4, 0),
  (50, .iadd, 1, 0, 0), (51, .ishl, 1, 0, 0), (52, .goto 4, 3, 56, 0), (55, .iconst 0, 1, 0, 0), (56, .iconst 0, 1, 0, 0), (57, .invokevirtual 62, 3, 53, 2),
  (60, .iconst 0, 1, 0, 0), (61, .istore 5, 2, 5, 0), (63, .iload 5, 2, 5, 0), (65, .aload_n 0, 1, 0, 0), (66, .getfield 29, 3, 4, 1), (69, .getfield 43, 3, 9, 12),
  (72, .if_icmp .ge 66, 3, 138, 0), (75, .iconst 0, 1, 0, 0), (76, .istore 6, 2, 6, 0), (78, .iload 6, 2, 6, 0), (80, .aload_n 0, 1, 0, 0), (81, .getfield 25, 3, 4, 0),
  (84, .getfield 65, 3, 7, 4), (87, .if_icmp .ge 45, 3, 132, 0), (90, .aload_n 3, 1, 3, 0), (91, .iload 4, 2, 4, 0), (93, .aaload, 1, 0, 0), (94, .iload 5, 2, 5, 0),
  (96, .bipush 6, 2, 6, 0), (98, .imul, 1, 0, 0), (99, .iload 6, 2, 6, 0), (101, .iadd, 1, 0, 0), (102, .aload_n 0, 1, 0, 0), (103, .getfield 29, 3, 4, 1),
  (106, .getfield 68, 3, 9, 1), (109, .iload 5, 2, 5, 0), (111, .iconst 1, 1, 1, 0), (112, .iadd, 1, 0, 0), (113, .aaload, 1, 0, 0), (114, .aload_n 0, 1, 0, 0),
  (115, .getfield 25, 3, 4, 0), (118, .getfield 71, 3, 7, 6), (121, .iload 6, 2, 6, 0), (123, .iaload, 1, 0, 0), (124, .iaload, 1, 0, 0), (125, .iastore, 1, 0, 0),
  (126, .iinc 6 1, 3, 1, 0), (129, .goto (-51), 3, 78, 0), (132, .iinc 5 1, 3, 1, 0), (135, .goto (-72), 3, 63, 0), (138, .iinc 4 1, 3, 1, 0), (141, .goto (-129), 3, 12, 0),
  (144, .return_, 1, 0, 0)]
def gc_19 : List gc_O := [
  (0, .iload_n 1, 1, 1, 0), (1, .aload_n 0, 1, 0, 0), (2, .getfield 29, 3, 4, 1), (5, .getfield 43, 3, 9, 12), (8, .if_icmp .ge 14, 3, 22, 0), (11, .aload_n 0, 1, 0, 0),
  (12, .getfield 25, 3, 4, 0), (15, .getfield 75, 3, 7, 2), (18, .ineg, 1, 0, 0), (19, .goto 4, 3, 23, 0), (22, .iconst 0, 1, 0, 0), (23, .istore_n 3, 1, 3, 0),
  (24, .iload_n 2, 1, 2, 0), (25, .aload_n 0, 1, 0, 0), (26, .getfield 29, 3, 4, 1), (29, .getfield 43, 3, 9, 12), (32, .if_icmp .ge 14, 3, 46, 0), (35, .aload_n 0, 1, 0, 0),
  (36, .getfield 25, 3, 4, 0), (39, .getfield 75, 3, 7, 2), (42, .ineg, 1, 0, 0), (43, .goto 4, 3, 47, 0), (46, .iconst 0, 1, 0, 0), (47, .istore 4, 2, 4, 0),
  (49, .iconst 0, 1, 0, 0), (50, .istore 5, 2, 5, 0), (52, .iload 5, 2, 5, 0), (54, .aload_n 0, 1, 0, 0), (55, .getfield 29, 3, 4, 1), (58, .getfield 43, 3, 9, 12),
  (61, .if_icmp .ge 158, 3, 219, 0), (64, .aload_n 0, 1, 0, 0), (65, .getfield 25, 3, 4, 0), (68, .getfield 78, 3, 7, 5), (71, .aload_n 0, 1, 0, 0), (72, .getfield 29, 3, 4, 1),
  (75, .getfield 59, 3, 9, 11), (78, .iload 5, 2, 5, 0), (80, .iadd, 1, 0, 0), (81, .iaload, 1, 0, 0), (82, .iconst 1, 1, 1, 0), (83, .if_icmp .ne 7, 3, 90, 0),
  (86, .iconst 1, 1, 1, 0), (87, .goto 4, 3, 91, 0), (90, .iconst 0, 1, 0, 0), (91, .istore 6, 2, 6, 0), (93, .iconst 0, 1, 0, 0), (94, .istore 7, 2, 7, 0),
  (96, .iload 7, 2, 7, 0), (98, .aload_n 0, 1, 0, 0), (99, .getfield 25, 3, 4, 0), (102, .getfield 65, 3, 7, 4), (105, .if_icmp .ge 108, 3, 213, 0), (108, .aload_n 0, 1, 0, 0),
  (109, .getfield 11, 3, 4, 2), (112, .iload_n 1, 1, 1, 0), (113, .aaload, 1, 0, 0), (114, .iload 5, 2, 5, 0), (116, .bipush 6, 2, 6, 0), (118, .imul, 1, 0, 0),
  (119, .iload 7, 2, 7, 0), (121, .iadd, 1, 0, 0), (122, .iaload, 1, 0, 0), (123, .istore 8, 2, 8, 0), (125, .aload_n 0, 1, 0, 0), (126, .getfield 16, 3, 4, 3),
  (129, .iload_n 2, 1, 2, 0), (130, .aaload, 1, 0, 0), (131, .iload 5, 2, 5, 0), (133, .bipush 6, 2, 6, 0), (135, .imul, 1, 0, 0), (136, .iload 7, 2, 7, 0),
  (138, .iadd, 1, 0, 0), (139, .iaload, 1, 0, 0), (140, .istore 9, 2, 9, 0), (142, .aload_n 0, 1, 0, 0), (143, .getfield 25, 3, 4, 0), (146, .iload 7, 2, 7, 0),
  (148, .iload 8, 2, 8, 0), (150, .iload 9, 2, 9, 0), (152, .invokestatic 81, 3, 1002, 2), (155, .aload_n 0, 1, 0, 0), (156, .getfield 25, 3, 4, 0), (159, .getfield 87, 3, 7, 7),
  (162, .iload 7, 2, 7, 0), (164, .iaload, 1, 0, 0), (165, .if_icmp .lt 7, 3, 172, 0), (168, .iconst 1, 1, 1, 0), (169, .goto 4, 3, 173, 0), (172, .iconst 0, 1, 0, 0),
  (173, .iload 6, 2, 6, 0), (175, .invokevirtual 90, 3, 36, 3), (178, .istore 10, 2, 10, 0), (180, .iload 10, 2, 10, 0), (182, .ifCond .le 20, 3, 202, 0), (185, .iload 9, 2, 9, 0),
  (187, .iload 8, 2, 8, 0), (189, .if_icmp .le 13, 3, 202, 0), (192, .iload 4, 2, 4, 0), (194, .iload 10, 2, 10, 0), (196, .iadd, 1, 0, 0), (197, .istore 4, 2, 4, 0),
  (199, .goto 8, 3, 207, 0), (202, .iload_n 3, 1, 3, 0), (203, .iload 10, 2, 10, 0), (205, .iadd, 1, 0, 0), (206, .istore_n 3, 1, 3, 0), (207, .iinc 7 1, 3, 1, 0),
  (210, .goto (-114), 3, 96, 0), (213, .iinc 5 1, 3, 1, 0), (216, .goto (-164), 3, 52, 0), (219, .aload_n 0, 1, 0, 0), (220, .getfield 19, 3, 4, 4), (223, .iload_n 1, 1, 1, 0),
  (224, .aaload, 1, 0, 0), (225, .iload_n 2, 1, 2, 0), (226, .iload_n 3, 1, 3, 0), (227, .iastore, 1, 0, 0), (228, .aload_n 0, 1, 0, 0), (229, .getfield 22, 3, 4, 5),
  (232, .iload_n 1, 1, 1, 0), (233, .aaload, 1, 0, 0), (234, .iload_n 2, 1, 2, 0), (235, .iload 4, 2, 4, 0), (237, .iastore, 1, 0, 0), (238, .return_, 1, 0, 0)]
def gc_20 : List gc_O := [
  (0, .aload_n 0, 1, 0, 0), (1, .iconst 0, 1, 0, 0), (2, .putfield 94, 3, 4, 6), (5, .aload_n 0, 1, 0, 0), (6, .bipush (-99), 2, 99, 1), (8, .putfield 97, 3, 4, 7),
  (11, .iconst 0, 1, 0, 0), (12, .istore_n 1, 1, 1, 0), (13, .iload_n 1, 1, 1, 0), (14, .aload_n 0, 1, 0, 0), (15, .getfield 29, 3, 4, 1), (18, .getfield 43, 3, 9, 12),
  (21, .if_icmp .gt 73, 3, 94, 0), (24, .iconst 0, 1, 0, 0), (25, .istore_n 2, 1, 2, 0), (26, .iload_n 2, 1, 2, 0), (27, .aload_n 0, 1, 0, 0), (28, .getfield 29, 3, 4, 1),
  (31, .getfield 43, 3, 9, 12), (34, .if_icmp .gt 54, 3, 88, 0), (37, .aload_n 0, 1, 0, 0), (38, .iload_n 1, 1, 1, 0), (39, .iload_n 2, 1, 2, 0), (40, .invokevirtual 100, 3, 21, 2),
  (43, .ifCond .eq 39, 3, 82, 0), (46, .aload_n 0, 1, 0, 0), (47, .dup, 1, 0, 0), (48, .getfield 94, 3, 4, 6), (51, .iconst 1, 1, 1, 0), (52, .iadd, 1, 0, 0),
  (53, .putfield 94, 3, 4, 6), (56, .aload_n 0, 1, 0, 0), (57, .getfield 94, 3, 4, 6), (60, .iconst 1, 1, 1, 0), (61, .if_icmp .ne 21, 3, 82, 0), (64, .aload_n 0, 1, 0, 0),
  (65, .bipush 10, 2, 10, 0), (67, .aload_n 0, 1, 0, 0), (68, .iload_n 1, 1, 1, 0), (69, .invokevirtual 104, 3, 22, 1), (72, .imul, 1, 0, 0), (73, .aload_n 0, 1, 0, 0),
  (74, .iload_n 2, 1, 2, 0), (75, .invokevirtual 104, 3, 22, 1), (78, .iadd, 1, 0, 0), (79, .putfield 97, 3, 4, 7), (82, .iinc 2 1, 3, 1, 0), (85, .goto (-59), 3, 26, 0),
  (88, .iinc 1 1, 3, 1, 0), (91, .goto (-78), 3, 13, 0), (94, .return_, 1, 0, 0)]
def gc_21 : List gc_O := [
  (0, .iconst 0, 1, 0, 0), (1, .istore_n 3, 1, 3, 0), (2, .iload_n 3, 1, 3, 0), (3, .aload_n 0, 1, 0, 0), (4, .getfield 29, 3, 4, 1), (7, .getfield 43, 3, 9, 12),
  (10, .if_icmp .gt 49, 3, 59, 0), (13, .aload_n 0, 1, 0, 0), (14, .getfield 19, 3, 4, 4), (17, .iload_n 3, 1, 3, 0), (18, .aaload, 1, 0, 0), (19, .iload_n 2, 1, 2, 0),
  (20, .iaload, 1, 0, 0), (21, .aload_n 0, 1, 0, 0), (22, .getfield 19, 3, 4, 4), (25, .iload_n 1, 1, 1, 0), (26, .aaload, 1, 0, 0), (27, .iload_n 2, 1, 2, 0),
  (28, .iaload, 1, 0, 0), (29, .if_icmp .gt 22, 3, 51, 0), (32, .aload_n 0, 1, 0, 0), (33, .getfield 22, 3, 4, 5), (36, .iload_n 1, 1, 1, 0), (37, .aaload, 1, 0, 0),
  (38, .iload_n 3, 1, 3, 0), (39, .iaload, 1, 0, 0), (40, .aload_n 0, 1, 0, 0), (41, .getfield 22, 3, 4, 5), (44, .iload_n 1, 1, 1, 0), (45, .aaload, 1, 0, 0),
  (46, .iload_n 2, 1, 2, 0), (47, .iaload, 1, 0, 0), (48, .if_icmp .le 5, 3, 53, 0), (51, .iconst 0, 1, 0, 0), (52, .ireturn, 1, 0, 0), (53, .iinc 3 1, 3, 1, 0),
  (56, .goto (-54), 3, 2, 0), (59, .iconst 1, 1, 1, 0), (60, .ireturn, 1, 0, 0)]
def gc_22 : List gc_O := [
  (0, .iload_n 1, 1, 1, 0), (1, .aload_n 0, 1, 0, 0), (2, .getfield 29, 3, 4, 1), (5, .getfield 43, 3, 9, 12), (8, .if_icmp .ge 15, 3, 23, 0), (11, .aload_n 0, 1, 0, 0),
  (12, .getfield 29, 3, 4, 1), (15, .getfield 59, 3, 9, 11), (18, .iload_n 1, 1, 1, 0), (19, .iadd, 1, 0, 0), (20, .goto 5, 3, 25, 0), (23, .bipush 9, 2, 9, 0),
  (25, .ireturn, 1, 0, 0)]
def gc_23 : List gc_O := [
  (0, .aload_n 0, 1, 0, 0), (1, .invokespecial 3, 3, 1000, 0), (4, .aload_n 0, 1, 0, 0), (5, .bipush 6, 2, 6, 0), (7, .newarray .int, 2, 12, 0), (9, .putfield 9, 3, 5, 0),
  (12, .aload_n 0, 1, 0, 0), (13, .bipush 6, 2, 6, 0), (15, .newarray .int, 2, 12, 0), (17, .putfield 15, 3, 5, 1), (20, .aload_n 0, 1, 0, 0), (21, .bipush 6, 2, 6, 0),
  (23, .newarray .boolean, 2, 13, 0), (25, .putfield 18, 3, 5, 2), (28, .return_, 1, 0, 0)]
def gc_24 : List gc_O := [
  (0, .aload_n 0, 1, 0, 0), (1, .getfield 22, 3, 5, 3), (4, .bipush 6, 2, 6, 0), (6, .if_icmp .lt 5, 3, 11, 0), (9, .iconst 0, 1, 0, 0), (10, .ireturn, 1, 0, 0),
  (11, .aload_n 0, 1, 0, 0), (12, .getfield 9, 3, 5, 0), (15, .aload_n 0, 1, 0, 0), (16, .getfield 22, 3, 5, 3), (19, .iload_n 1, 1, 1, 0), (20, .iastore, 1, 0, 0),
  (21, .aload_n 0, 1, 0, 0), (22, .getfield 15, 3, 5, 1), (25, .aload_n 0, 1, 0, 0), (26, .getfield 22, 3, 5, 3), (29, .iload_n 2, 1, 2, 0), (30, .iastore, 1, 0, 0),
  (31, .aload_n 0, 1, 0, 0), (32, .getfield 18, 3, 5, 2), (35, .aload_n 0, 1, 0, 0), (36, .getfield 22, 3, 5, 3), (39, .iload_n 3, 1, 3, 0), (40, .bastore, 1, 0, 0),
  (41, .aload_n 0, 1, 0, 0), (42, .dup, 1, 0, 0), (43, .getfield 22, 3, 5, 3), (46, .iconst 1, 1, 1, 0), (47, .iadd, 1, 0, 0), (48, .putfield 22, 3, 5, 3),
  (51, .iconst 1, 1, 1, 0), (52, .ireturn, 1, 0, 0)]
def gc_25 : List gc_O := [
  (0, .aload_n 0, 1, 0, 0), (1, .iconst 0, 1, 0, 0), (2, .putfield 26, 3, 5, 4), (5, .aload_n 0, 1, 0, 0), (6, .aload_n 2, 1, 2, 0), (7, .invokevirtual 29, 3, 51, 0),
  (10, .iconst 1, 1, 1, 0), (11, .isub, 1, 0, 0), (12, .putfield 35, 3, 5, 5), (15, .aload_n 0, 1, 0, 0), (16, .aload_n 0, 1, 0, 0), (17, .getfield 35, 3, 5, 5),
  (20, .putfield 38, 3, 5, 6), (23, .iconst 0, 1, 0, 0), (24, .istore_n 3, 1, 3, 0), (25, .iload_n 3, 1, 3, 0), (26, .aload_n 2, 1, 2, 0), (27, .invokevirtual 29, 3, 51, 0),
  (30, .if_icmp .ge 66, 3, 96, 0), (33, .aload_n 2, 1, 2, 0), (34, .iload_n 3, 1, 3, 0), (35, .invokevirtual 41, 3, 52, 1), (38, .istore 4, 2, 4, 0), (40, .aload_n 2, 1, 2, 0),
  (41, .iload 4, 2, 4, 0), (43, .iconst 0, 1, 0, 0), (44, .invokevirtual 45, 3, 53, 2), (47, .aload_n 0, 1, 0, 0), (48, .aload_n 1, 1, 1, 0), (49, .aload_n 2, 1, 2, 0),
  (50, .invokevirtual 49, 3, 26, 2), (53, .ifCond .eq 37, 3, 90, 0), (56, .aload_n 0, 1, 0, 0), (57, .dup, 1, 0, 0), (58, .getfield 26, 3, 5, 4), (61, .iconst 1, 1, 1, 0),
  (62, .iadd, 1, 0, 0), (63, .putfield 26, 3, 5, 4), (66, .aload_n 0, 1, 0, 0), (67, .dup, 1, 0, 0), (68, .getfield 35, 3, 5, 5), (71, .iload 4, 2, 4, 0),
  (73, .iand, 1, 0, 0), (74, .putfield 35, 3, 5, 5), (77, .aload_n 0, 1, 0, 0), (78, .dup, 1, 0, 0), (79, .getfield 38, 3, 5, 6), (82, .iload 4, 2, 4, 0),
  (84, .iconst (-1), 1, 1, 1), (85, .ixor, 1, 0, 0), (86, .iand, 1, 0, 0), (87, .putfield 38, 3, 5, 6), (90, .iinc 3 1, 3, 1, 0), (93, .goto (-68), 3, 25, 0),
  (96, .return_, 1, 0, 0)]
def gc_26 : List gc_O := [
  (0, .iconst 0, 1, 0, 0), (1, .istore_n 3, 1, 3, 0), (2, .iload_n 3, 1, 3, 0), (3, .aload_n 0, 1, 0, 0), (4, .getfield 22, 3, 5, 3), (7, .if_icmp .ge 80, 3, 87, 0),
  (10, .aload_n 0, 1, 0, 0), (11, .getfield 9, 3, 5, 0), (14, .iload_n 3, 1, 3, 0), (15, .iaload, 1, 0, 0), (16, .aload_n 1, 1, 1, 0), (17, .getfield 53, 3, 7, 4),
  (20, .if_icmp .ge 20, 3, 40, 0), (23, .aload_n 0, 1, 0, 0), (24, .getfield 15, 3, 5, 1), (27, .iload_n 3, 1, 3, 0), (28, .iaload, 1, 0, 0), (29, .aload_n 1, 1, 1, 0),
  (30, .getfield 57, 3, 7, 3), (33, .if_icmp .ge 7, 3, 40, 0), (36, .iconst 1, 1, 1, 0), (37, .goto 4, 3, 41, 0), (40, .iconst 0, 1, 0, 0), (41, .istore 4, 2, 4, 0),
  (43, .iload 4, 2, 4, 0), (45, .ifCond .eq 36, 3, 81, 0), (48, .aload_n 2, 1, 2, 0), (49, .getfield 60, 3, 9, 5), (52, .aload_n 0, 1, 0, 0), (53, .getfield 15, 3, 5, 1),
  (56, .iload_n 3, 1, 3, 0), (57, .iaload, 1, 0, 0), (58, .iconst 1, 1, 1, 0), (59, .iadd, 1, 0, 0), (60, .iaload, 1, 0, 0), (61, .aload_n 0, 1, 0, 0),
  (62, .getfield 9, 3, 5, 0), (65, .iload_n 3, 1, 3, 0), (66, .iaload, 1, 0, 0), (67, .invokestatic 63, 3, 96, 2), (70, .aload_n 0, 1, 0, 0), (71, .getfield 18, 3, 5, 2),
  (74, .iload_n 3, 1, 3, 0), (75, .baload, 1, 0, 0), (76, .if_icmp .eq 5, 3, 81, 0), (79, .iconst 0, 1, 0, 0), (80, .ireturn, 1, 0, 0), (81, .iinc 3 1, 3, 1, 0),
  (84, .goto (-82), 3, 2, 0), (87, .iconst 1, 1, 1, 0), (88, .ireturn, 1, 0, 0)]
def gc_27 : List gc_O := [
  (0, .aload_n 0, 1, 0, 0), (1, .invokespecial 3, 3, 1000, 0), (4, .aload_n 0, 1, 0, 0), (5, .iconst 2, 1, 2, 0), (6, .anewarray 9, 3, 14, 0), (9, .putfield 11, 3, 6, 0),
  (12, .aload_n 0, 1, 0, 0), (13, .iconst 2, 1, 2, 0), (14, .newarray .boolean, 2, 13, 0), (16, .putfield 17, 3, 6, 1), (19, .iconst 0, 1, 0, 0), (20, .istore_n 1, 1, 1, 0),
  (21, .iload_n 1, 1, 1, 0), (22, .iconst 2, 1, 2, 0), (23, .if_icmp .ge 22, 3, 45, 0), (26, .aload_n 0, 1, 0, 0), (27, .getfield 11, 3, 6, 0), (30, .iload_n 1, 1, 1, 0),
  (31, .new 9, 3, 3, 0), (34, .dup, 1, 0, 0), (35, .invokespecial 21, 3, 12, 0), (38, .aastore, 1, 0, 0), (39, .iinc 1 1, 3, 1, 0), (42, .goto (-21), 3, 21, 0),
  (45, .return_, 1, 0, 0)]
def gc_28 : List gc_O := [
  (0, .iconst 0, 1, 0, 0), (1, .istore_n 1, 1, 1, 0), (2, .iload_n 1, 1, 1, 0), (3, .iconst 2, 1, 2, 0), (4, .if_icmp .ge 16, 3, 20, 0), (7, .aload_n 0, 1, 0, 0),
  (8, .getfield 17, 3, 6, 1), (11, .iload_n 1, 1, 1, 0), (12, .iconst 0, 1, 0, 0), (13, .bastore, 1, 0, 0), (14, .iinc 1 1, 3, 1, 0), (17, .goto (-15), 3, 2, 0),
  (20, .return_, 1, 0, 0)]
def gc_29 : List gc_O := [
  (0, .aload_n 0, 1, 0, 0), (1, .getfield 11, 3, 6, 0), (4, .iload_n 1, 1, 1, 0), (5, .aaload, 1, 0, 0), (6, .aload_n 2, 1, 2, 0), (7, .invokevirtual 22, 3, 15, 1),
  (10, .aload_n 0, 1, 0, 0), (11, .getfield 17, 3, 6, 1), (14, .iload_n 1, 1, 1, 0), (15, .iconst 1, 1, 1, 0), (16, .bastore, 1, 0, 0), (17, .return_, 1, 0, 0)]
def gc_30 : List gc_O := [
  (0, .aload_n 0, 1, 0, 0), (1, .getfield 17, 3, 6, 1), (4, .iload_n 1, 1, 1, 0), (5, .baload, 1, 0, 0), (6, .ifCond .eq 13, 3, 19, 0), (9, .aload_n 2, 1, 2, 0),
  (10, .aload_n 0, 1, 0, 0), (11, .getfield 11, 3, 6, 0), (14, .iload_n 1, 1, 1, 0), (15, .aaload, 1, 0, 0), (16, .invokevirtual 22, 3, 15, 1), (19, .aload_n 0, 1, 0, 0),
  (20, .getfield 17, 3, 6, 1), (23, .iload_n 1, 1, 1, 0), (24, .baload, 1, 0, 0), (25, .ireturn, 1, 0, 0)]
def gc_31 : List gc_O := [
  (0, .aload_n 0, 1, 0, 0), (1, .invokespecial 3, 3, 1000, 0), (4, .aload_n 0, 1, 0, 0), (5, .iconst 1, 1, 1, 0), (6, .putfield 9, 3, 7, 1), (9, .aload_n 0, 1, 0, 0),
  (10, .bipush 8, 2, 8, 0), (12, .newarray .int, 2, 12, 0), (14, .putfield 15, 3, 7, 5), (17, .aload_n 0, 1, 0, 0), (18, .bipush 6, 2, 6, 0), (20, .newarray .int, 2, 12, 0),
  (22, .putfield 19, 3, 7, 6), (25, .aload_n 0, 1, 0, 0), (26, .bipush 6, 2, 6, 0), (28, .newarray .int, 2, 12, 0), (30, .putfield 22, 3, 7, 7), (33, .aload_n 0, 1, 0, 0),
  (34, .bipush 6, 2, 6, 0), (36, .newarray .int, 2, 12, 0), (38, .putfield 25, 3, 7, 8), (41, .aload_n 0, 1, 0, 0), (42, .bipush 6, 2, 6, 0), (44, .newarray .int, 2, 12, 0),
  (46, .putfield 28, 3, 7, 9), (49, .return_, 1, 0, 0)]
def gc_32 : List gc_O := [
  (0, .aload_n 0, 1, 0, 0), (1, .aload_n 1, 1, 1, 0), (2, .iconst 1, 1, 1, 0), (3, .invokevirtual 31, 3, 40, 1), (6, .putfield 37, 3, 7, 0), (9, .aload_n 0, 1, 0, 0),
  (10, .aload_n 1, 1, 1, 0), (11, .iconst 2, 1, 2, 0), (12, .invokevirtual 31, 3, 40, 1), (15, .putfield 9, 3, 7, 1), (18, .aload_n 0, 1, 0, 0), (19, .aload_n 1, 1, 1, 0),
  (20, .iconst 3, 1, 3, 0), (21, .invokevirtual 31, 3, 40, 1), (24, .putfield 40, 3, 7, 2), (27, .aload_n 0, 1, 0, 0), (28, .aload_n 1, 1, 1, 0), (29, .invokevirtual 43, 3, 41, 0),
  (32, .putfield 47, 3, 7, 3), (35, .iconst 0, 1, 0, 0), (36, .istore_n 2, 1, 2, 0), (37, .iload_n 2, 1, 2, 0), (38, .aload_n 0, 1, 0, 0), (39, .getfield 47, 3, 7, 3),
  (42, .if_icmp .ge 25, 3, 67, 0), (45, .aload_n 0, 1, 0, 0), (46, .getfield 15, 3, 7, 5), (49, .iload_n 2, 1, 2, 0), (50, .aload_n 1, 1, 1, 0), (51, .iconst 4, 1, 4, 0),
  (52, .iload_n 2, 1, 2, 0), (53, .iadd, 1, 0, 0), (54, .invokevirtual 50, 3, 39, 1), (57, .invokestatic 53, 3, 33, 1), (60, .iastore, 1, 0, 0), (61, .iinc 2 1, 3, 1, 0),
  (64, .goto (-27), 3, 37, 0), (67, .aload_n 0, 1, 0, 0), (68, .aload_n 1, 1, 1, 0), (69, .getfield 56, 3, 8, 1), (72, .iconst 4, 1, 4, 0), (73, .isub, 1, 0, 0),
  (74, .aload_n 0, 1, 0, 0), (75, .getfield 47, 3, 7, 3), (78, .isub, 1, 0, 0), (79, .iconst 5, 1, 5, 0), (80, .idiv, 1, 0, 0), (81, .putfield 59, 3, 7, 4),
  (84, .iconst 0, 1, 0, 0), (85, .istore_n 2, 1, 2, 0), (86, .iload_n 2, 1, 2, 0), (87, .aload_n 0, 1, 0, 0), (88, .getfield 59, 3, 7, 4), (91, .if_icmp .ge 72, 3, 163, 0),
  (94, .iconst 4, 1, 4, 0), (95, .aload_n 0, 1, 0, 0), (96, .getfield 47, 3, 7, 3), (99, .iadd, 1, 0, 0), (100, .iload_n 2, 1, 2, 0), (101, .iconst 5, 1, 5, 0),
  (102, .imul, 1, 0, 0), (103, .iadd, 1, 0, 0), (104, .istore_n 3, 1, 3, 0), (105, .aload_n 0, 1, 0, 0), (106, .getfield 19, 3, 7, 6), (109, .iload_n 2, 1, 2, 0),
  (110, .aload_n 1, 1, 1, 0), (111, .iload_n 3, 1, 3, 0), (112, .iconst 1, 1, 1, 0), (113, .iadd, 1, 0, 0), (114, .invokevirtual 31, 3, 40, 1), (117, .iastore, 1, 0, 0),
  (118, .aload_n 0, 1, 0, 0), (119, .getfield 22, 3, 7, 7), (122, .iload_n 2, 1, 2, 0), (123, .aload_n 1, 1, 1, 0), (124, .iload_n 3, 1, 3, 0), (125, .iconst 2, 1, 2, 0),
  (126, .iadd, 1, 0, 0), (127, .invokevirtual 31, 3, 40, 1), (130, .iastore, 1, 0, 0), (131, .aload_n 0, 1, 0, 0), (132, .getfield 25, 3, 7, 8), (135, .iload_n 2, 1, 2, 0),
  (136, .aload_n 1, 1, 1, 0), (137, .iload_n 3, 1, 3, 0), (138, .iconst 3, 1, 3, 0), (139, .iadd, 1, 0, 0), (140, .invokevirtual 31, 3, 40, 1), (143, .iastore, 1, 0, 0),
  (144, .aload_n 0, 1, 0, 0), (145, .getfield 28, 3, 7, 9), (148, .iload_n 2, 1, 2, 0), (149, .aload_n 1, 1, 1, 0), (150, .iload_n 3, 1, 3, 0), (151, .iconst 4, 1, 4, 0),
  (152, .iadd, 1, 0, 0), (153, .invokevirtual 31, 3, 40, 1), (156, .iastore, 1, 0, 0), (157, .iinc 2 1, 3, 1, 0), (160, .goto (-74), 3, 86, 0), (163, .return_, 1, 0, 0)]
def gc_33 : List gc_O := [
  (0, .iload_n 0, 1, 0, 0), (1, .bipush 69, 2, 69, 0), (3, .if_icmp .ne 5, 3, 8, 0), (6, .iconst 1, 1, 1, 0), (7, .ireturn, 1, 0, 0), (8, .iload_n 0, 1, 0, 0),
  (9, .bipush 87, 2, 87, 0), (11, .if_icmp .ne 7, 3, 18, 0), (14, .iconst (-1), 1, 1, 1), (15, .goto 4, 3, 19, 0), (18, .iconst 0, 1, 0, 0), (19, .ireturn, 1, 0, 0)]
def gc_34 : List gc_O := [
  (0, .iload_n 1, 1, 1, 0), (1, .ifCond .lt 15, 3, 16, 0), (4, .iload_n 1, 1, 1, 0), (5, .aload_n 0, 1, 0, 0), (6, .getfield 59, 3, 7, 4), (9, .if_icmp .ge 7, 3, 16, 0),
  (12, .iconst 1, 1, 1, 0), (13, .goto 4, 3, 17, 0), (16, .iconst 0, 1, 0, 0), (17, .ireturn, 1, 0, 0)]
def gc_35 : List gc_O := [
  (0, .iconst 0, 1, 0, 0), (1, .istore_n 2, 1, 2, 0), (2, .iconst 0, 1, 0, 0), (3, .istore_n 3, 1, 3, 0), (4, .iload_n 3, 1, 3, 0), (5, .aload_n 0, 1, 0, 0),
  (6, .getfield 59, 3, 7, 4), (9, .if_icmp .ge 32, 3, 41, 0), (12, .aload_n 1, 1, 1, 0), (13, .aload_n 0, 1, 0, 0), (14, .getfield 19, 3, 7, 6), (17, .iload_n 3, 1, 3, 0),
  (18, .iaload, 1, 0, 0), (19, .iaload, 1, 0, 0), (20, .aload_n 0, 1, 0, 0), (21, .getfield 22, 3, 7, 7), (24, .iload_n 3, 1, 3, 0), (25, .iaload, 1, 0, 0),
  (26, .if_icmp .lt 9, 3, 35, 0), (29, .iload_n 2, 1, 2, 0), (30, .iconst 1, 1, 1, 0), (31, .iload_n 3, 1, 3, 0), (32, .ishl, 1, 0, 0), (33, .ior, 1, 0, 0),
  (34, .istore_n 2, 1, 2, 0), (35, .iinc 3 1, 3, 1, 0), (38, .goto (-34), 3, 4, 0), (41, .iload_n 2, 1, 2, 0), (42, .ireturn, 1, 0, 0)]
def gc_36 : List gc_O := [
  (0, .aload_n 0, 1, 0, 0), (1, .getfield 28, 3, 7, 9), (4, .iload_n 1, 1, 1, 0), (5, .iaload, 1, 0, 0), (6, .tableswitch 76 0 2 #[26, 41, 57], 26, 0, 0), (32, .iload_n 2, 1, 2, 0),
  (33, .ifCond .eq 12, 3, 45, 0), (36, .aload_n 0, 1, 0, 0), (37, .getfield 25, 3, 7, 8), (40, .iload_n 1, 1, 1, 0), (41, .iaload, 1, 0, 0), (42, .goto 4, 3, 46, 0),
  (45, .iconst 0, 1, 0, 0), (46, .ireturn, 1, 0, 0), (47, .iload_n 2, 1, 2, 0), (48, .ifCond .eq 7, 3, 55, 0), (51, .iconst 0, 1, 0, 0), (52, .goto 10, 3, 62, 0),
  (55, .aload_n 0, 1, 0, 0), (56, .getfield 25, 3, 7, 8), (59, .iload_n 1, 1, 1, 0), (60, .iaload, 1, 0, 0), (61, .ineg, 1, 0, 0), (62, .ireturn, 1, 0, 0),
  (63, .iload_n 2, 1, 2, 0), (64, .ifCond .eq 16, 3, 80, 0), (67, .iload_n 3, 1, 3, 0), (68, .ifCond .eq 12, 3, 80, 0), (71, .aload_n 0, 1, 0, 0), (72, .getfield 25, 3, 7, 8),
  (75, .iload_n 1, 1, 1, 0), (76, .iaload, 1, 0, 0), (77, .goto 4, 3, 81, 0), (80, .iconst 0, 1, 0, 0), (81, .ireturn, 1, 0, 0), (82, .iload_n 2, 1, 2, 0),
  (83, .ifCond .eq 13, 3, 96, 0), (86, .aload_n 0, 1, 0, 0), (87, .getfield 25, 3, 7, 8), (90, .iload_n 1, 1, 1, 0), (91, .iaload, 1, 0, 0), (92, .ineg, 1, 0, 0),
  (93, .goto 4, 3, 97, 0), (96, .iconst 0, 1, 0, 0), (97, .ireturn, 1, 0, 0)]
def gc_37 : List gc_O := [
  (0, .aload_n 0, 1, 0, 0), (1, .invokespecial 3, 3, 1000, 0), (4, .aload_n 0, 1, 0, 0), (5, .bipush 48, 2, 48, 0), (7, .newarray .int, 2, 12, 0), (9, .putfield 9, 3, 8, 0),
  (12, .return_, 1, 0, 0)]
def gc_38 : List gc_O := [
  (0, .aload_n 0, 1, 0, 0), (1, .getfield 15, 3, 8, 1), (4, .bipush 48, 2, 48, 0), (6, .if_icmp .lt 5, 3, 11, 0), (9, .iconst 0, 1, 0, 0), (10, .ireturn, 1, 0, 0),
  (11, .aload_n 0, 1, 0, 0), (12, .getfield 9, 3, 8, 0), (15, .aload_n 0, 1, 0, 0), (16, .getfield 15, 3, 8, 1), (19, .iload_n 1, 1, 1, 0), (20, .iastore, 1, 0, 0),
  (21, .aload_n 0, 1, 0, 0), (22, .dup, 1, 0, 0), (23, .getfield 15, 3, 8, 1), (26, .iconst 1, 1, 1, 0), (27, .iadd, 1, 0, 0), (28, .putfield 15, 3, 8, 1),
  (31, .iconst 1, 1, 1, 0), (32, .ireturn, 1, 0, 0)]
def gc_39 : List gc_O := [
  (0, .iload_n 1, 1, 1, 0), (1, .ifCond .lt 20, 3, 21, 0), (4, .iload_n 1, 1, 1, 0), (5, .aload_n 0, 1, 0, 0), (6, .getfield 15, 3, 8, 1), (9, .if_icmp .ge 12, 3, 21, 0),
  (12, .aload_n 0, 1, 0, 0), (13, .getfield 9, 3, 8, 0), (16, .iload_n 1, 1, 1, 0), (17, .iaload, 1, 0, 0), (18, .goto 4, 3, 22, 0), (21, .iconst 0, 1, 0, 0),
  (22, .ireturn, 1, 0, 0)]
def gc_40 : List gc_O := [
  (0, .aload_n 0, 1, 0, 0), (1, .iload_n 1, 1, 1, 0), (2, .invokevirtual 19, 3, 39, 1), (5, .bipush 48, 2, 48, 0), (7, .isub, 1, 0, 0), (8, .ireturn, 1, 0, 0)]
def gc_41 : List gc_O := [
  (0, .iconst 0, 1, 0, 0), (1, .istore_n 1, 1, 1, 0), (2, .iload_n 1, 1, 1, 0), (3, .bipush 8, 2, 8, 0), (5, .if_icmp .ge 22, 3, 27, 0), (8, .aload_n 0, 1, 0, 0),
  (9, .iconst 4, 1, 4, 0), (10, .iload_n 1, 1, 1, 0), (11, .iadd, 1, 0, 0), (12, .invokevirtual 19, 3, 39, 1), (15, .invokestatic 23, 3, 48, 1), (18, .ifCond .eq 9, 3, 27, 0),
  (21, .iinc 1 1, 3, 1, 0), (24, .goto (-22), 3, 2, 0), (27, .iload_n 1, 1, 1, 0), (28, .ireturn, 1, 0, 0)]
def gc_42 : List gc_O := [
  (0, .aload_n 0, 1, 0, 0), (1, .invokevirtual 27, 3, 41, 0), (4, .istore_n 1, 1, 1, 0), (5, .iconst 0, 1, 0, 0), (6, .istore_n 2, 1, 2, 0), (7, .iload_n 2, 1, 2, 0),
  (8, .aload_n 0, 1, 0, 0), (9, .getfield 15, 3, 8, 1), (12, .if_icmp .ge 20, 3, 32, 0), (15, .aload_n 0, 1, 0, 0), (16, .iload_n 2, 1, 2, 0), (17, .iload_n 1, 1, 1, 0),
  (18, .invokevirtual 31, 3, 44, 2), (21, .ifCond .ne 5, 3, 26, 0), (24, .iload_n 2, 1, 2, 0), (25, .ireturn, 1, 0, 0), (26, .iinc 2 1, 3, 1, 0), (29, .goto (-22), 3, 7, 0),
  (32, .aload_n 0, 1, 0, 0), (33, .iload_n 1, 1, 1, 0), (34, .invokevirtual 35, 3, 43, 1), (37, .ifCond .eq 8, 3, 45, 0), (40, .bipush (-99), 2, 99, 1), (42, .goto 7, 3, 49, 0),
  (45, .aload_n 0, 1, 0, 0), (46, .getfield 15, 3, 8, 1), (49, .ireturn, 1, 0, 0)]
def gc_43 : List gc_O := [
  (0, .aload_n 0, 1, 0, 0), (1, .getfield 15, 3, 8, 1), (4, .iconst 4, 1, 4, 0), (5, .if_icmp .lt 20, 3, 25, 0), (8, .aload_n 0, 1, 0, 0), (9, .getfield 15, 3, 8, 1),
  (12, .iconst 4, 1, 4, 0), (13, .isub, 1, 0, 0), (14, .iload_n 1, 1, 1, 0), (15, .isub, 1, 0, 0), (16, .iconst 5, 1, 5, 0), (17, .irem, 1, 0, 0),
  (18, .ifCond .ne 7, 3, 25, 0), (21, .iconst 1, 1, 1, 0), (22, .goto 4, 3, 26, 0), (25, .iconst 0, 1, 0, 0), (26, .ireturn, 1, 0, 0)]
def gc_44 : List gc_O := [
  (0, .iload_n 1, 1, 1, 0), (1, .iconst 4, 1, 4, 0), (2, .if_icmp .ge 9, 3, 11, 0), (5, .aload_n 0, 1, 0, 0), (6, .iload_n 1, 1, 1, 0), (7, .invokevirtual 38, 3, 45, 1),
  (10, .ireturn, 1, 0, 0), (11, .iload_n 1, 1, 1, 0), (12, .iconst 4, 1, 4, 0), (13, .isub, 1, 0, 0), (14, .iload_n 2, 1, 2, 0), (15, .isub, 1, 0, 0),
  (16, .istore_n 3, 1, 3, 0), (17, .iload_n 3, 1, 3, 0), (18, .ifCond .lt 20, 3, 38, 0), (21, .iload_n 3, 1, 3, 0), (22, .bipush 30, 2, 30, 0), (24, .if_icmp .ge 18, 3, 42, 0),
  (27, .aload_n 0, 1, 0, 0), (28, .iload_n 1, 1, 1, 0), (29, .iload_n 3, 1, 3, 0), (30, .iconst 5, 1, 5, 0), (31, .irem, 1, 0, 0), (32, .invokevirtual 41, 3, 46, 2),
  (35, .ifCond .eq 7, 3, 42, 0), (38, .iconst 1, 1, 1, 0), (39, .goto 4, 3, 43, 0), (42, .iconst 0, 1, 0, 0), (43, .ireturn, 1, 0, 0)]
def gc_45 : List gc_O := [
  (0, .iload_n 1, 1, 1, 0), (1, .ifCond .ne 19, 3, 20, 0), (4, .aload_n 0, 1, 0, 0), (5, .iload_n 1, 1, 1, 0), (6, .invokevirtual 19, 3, 39, 1), (9, .bipush 83, 2, 83, 0),
  (11, .if_icmp .ne 7, 3, 18, 0), (14, .iconst 1, 1, 1, 0), (15, .goto 4, 3, 19, 0), (18, .iconst 0, 1, 0, 0), (19, .ireturn, 1, 0, 0), (20, .aload_n 0, 1, 0, 0),
  (21, .iload_n 1, 1, 1, 0), (22, .iload_n 1, 1, 1, 0), (23, .iconst 2, 1, 2, 0), (24, .if_icmp .ne 7, 3, 31, 0), (27, .iconst 1, 1, 1, 0), (28, .goto 4, 3, 32, 0),
  (31, .iconst 0, 1, 0, 0), (32, .bipush 9, 2, 9, 0), (34, .invokevirtual 44, 3, 47, 3), (37, .ireturn, 1, 0, 0)]
def gc_46 : List gc_O := [
  (0, .iload_n 2, 1, 2, 0), (1, .ifCond .ne 19, 3, 20, 0), (4, .aload_n 0, 1, 0, 0), (5, .iload_n 1, 1, 1, 0), (6, .invokevirtual 19, 3, 39, 1), (9, .bipush 78, 2, 78, 0),
  (11, .if_icmp .ne 7, 3, 18, 0), (14, .iconst 1, 1, 1, 0), (15, .goto 4, 3, 19, 0), (18, .iconst 0, 1, 0, 0), (19, .ireturn, 1, 0, 0), (20, .aload_n 0, 1, 0, 0),
  (21, .iload_n 1, 1, 1, 0), (22, .iload_n 2, 1, 2, 0), (23, .iconst 2, 1, 2, 0), (24, .if_icmp .ne 7, 3, 31, 0), (27, .iconst 1, 1, 1, 0), (28, .goto 4, 3, 32, 0),
  (31, .iconst 0, 1, 0, 0), (32, .iload_n 2, 1, 2, 0), (33, .iconst 4, 1, 4, 0), (34, .if_icmp .ne 7, 3, 41, 0), (37, .iconst 3, 1, 3, 0), (38, .goto 5, 3, 43, 0),
  (41, .bipush 9, 2, 9, 0), (43, .invokevirtual 44, 3, 47, 3), (46, .ireturn, 1, 0, 0)]
def gc_47 : List gc_O := [
  (0, .aload_n 0, 1, 0, 0), (1, .iload_n 1, 1, 1, 0), (2, .invokevirtual 48, 3, 40, 1), (5, .iload_n 2, 1, 2, 0), (6, .if_icmp .lt 16, 3, 22, 0), (9, .aload_n 0, 1, 0, 0),
  (10, .iload_n 1, 1, 1, 0), (11, .invokevirtual 48, 3, 40, 1), (14, .iload_n 3, 1, 3, 0), (15, .if_icmp .gt 7, 3, 22, 0), (18, .iconst 1, 1, 1, 0), (19, .goto 4, 3, 23, 0),
  (22, .iconst 0, 1, 0, 0), (23, .ireturn, 1, 0, 0)]
def gc_48 : List gc_O := [
  (0, .iload_n 0, 1, 0, 0), (1, .bipush 69, 2, 69, 0), (3, .if_icmp .eq 15, 3, 18, 0), (6, .iload_n 0, 1, 0, 0), (7, .bipush 87, 2, 87, 0), (9, .if_icmp .eq 9, 3, 18, 0),
  (12, .iload_n 0, 1, 0, 0), (13, .bipush 45, 2, 45, 0), (15, .if_icmp .ne 7, 3, 22, 0), (18, .iconst 1, 1, 1, 0), (19, .goto 4, 3, 23, 0), (22, .iconst 0, 1, 0, 0),
  (23, .ireturn, 1, 0, 0)]
def gc_49 : List gc_O := [
  (0, .aload_n 0, 1, 0, 0), (1, .invokespecial 3, 3, 1000, 0), (4, .aload_n 0, 1, 0, 0), (5, .bipush 9, 2, 9, 0), (7, .bipush 10, 2, 10, 0), (9, .multianewarray 9 2, 4, 15, 0),
  (13, .putfield 11, 3, 9, 1), (16, .aload_n 0, 1, 0, 0), (17, .bipush 9, 2, 9, 0), (19, .bipush 6, 2, 6, 0), (21, .multianewarray 9 2, 4, 15, 0), (25, .putfield 16, 3, 9, 2),
  (28, .aload_n 0, 1, 0, 0), (29, .bipush 9, 2, 9, 0), (31, .newarray .int, 2, 12, 0), (33, .putfield 19, 3, 9, 3), (36, .aload_n 0, 1, 0, 0), (37, .bipush 9, 2, 9, 0),
  (39, .newarray .int, 2, 12, 0), (41, .putfield 23, 3, 9, 4), (44, .aload_n 0, 1, 0, 0), (45, .bipush 9, 2, 9, 0), (47, .newarray .int, 2, 12, 0), (49, .putfield 26, 3, 9, 5),
  (52, .aload_n 0, 1, 0, 0), (53, .aload_n 1, 1, 1, 0), (54, .putfield 29, 3, 9, 0), (57, .return_, 1, 0, 0)]
def gc_50 : List gc_O := [
  (0, .aload_n 1, 1, 1, 0), (1, .getfield 33, 3, 3, 0), (4, .iconst 0, 1, 0, 0), (5, .aload_n 0, 1, 0, 0), (6, .getfield 11, 3, 9, 1), (9, .iconst 0, 1, 0, 0),
  (10, .aaload, 1, 0, 0), (11, .iconst 0, 1, 0, 0), (12, .bipush 10, 2, 10, 0), (14, .invokestatic 37, 3, 1001, 5), (17, .aload_n 0, 1, 0, 0), (18, .aload_n 1, 1, 1, 0),
  (19, .getfield 43, 3, 3, 1), (22, .putfield 47, 3, 9, 6), (25, .aload_n 0, 1, 0, 0), (26, .iload_n 2, 1, 2, 0), (27, .putfield 48, 3, 9, 7), (30, .aload_n 0, 1, 0, 0),
  (31, .aload_n 1, 1, 1, 0), (32, .getfield 51, 3, 3, 3), (35, .putfield 54, 3, 9, 11), (38, .aload_n 0, 1, 0, 0), (39, .aload_n 0, 1, 0, 0), (40, .getfield 29, 3, 9, 0),
  (43, .getfield 57, 3, 7, 3), (46, .aload_n 1, 1, 1, 0), (47, .getfield 51, 3, 3, 3), (50, .isub, 1, 0, 0), (51, .putfield 62, 3, 9, 12), (54, .aload_n 0, 1, 0, 0),
  (55, .iconst 0, 1, 0, 0), (56, .putfield 65, 3, 9, 10), (59, .return_, 1, 0, 0)]
def gc_51 : List gc_O := [
  (0, .iconst 1, 1, 1, 0), (1, .aload_n 0, 1, 0, 0), (2, .getfield 62, 3, 9, 12), (5, .ishl, 1, 0, 0), (6, .ireturn, 1, 0, 0)]
def gc_52 : List gc_O := [
  (0, .iconst 0, 1, 0, 0), (1, .istore_n 2, 1, 2, 0), (2, .iconst 0, 1, 0, 0), (3, .istore_n 3, 1, 3, 0), (4, .iload_n 3, 1, 3, 0), (5, .aload_n 0, 1, 0, 0),
  (6, .getfield 62, 3, 9, 12), (9, .if_icmp .ge 35, 3, 44, 0), (12, .iload_n 1, 1, 1, 0), (13, .iload_n 3, 1, 3, 0), (14, .invokestatic 68, 3, 96, 2), (17, .ifCond .eq 21, 3, 38, 0),
  (20, .iload_n 2, 1, 2, 0), (21, .iconst 1, 1, 1, 0), (22, .aload_n 0, 1, 0, 0), (23, .getfield 54, 3, 9, 11), (26, .aload_n 0, 1, 0, 0), (27, .getfield 62, 3, 9, 12),
  (30, .iadd, 1, 0, 0), (31, .iconst 1, 1, 1, 0), (32, .isub, 1, 0, 0), (33, .iload_n 3, 1, 3, 0), (34, .isub, 1, 0, 0), (35, .ishl, 1, 0, 0),
  (36, .ior, 1, 0, 0), (37, .istore_n 2, 1, 2, 0), (38, .iinc 3 1, 3, 1, 0), (41, .goto (-37), 3, 4, 0), (44, .iload_n 2, 1, 2, 0), (45, .ireturn, 1, 0, 0)]
def gc_53 : List gc_O := [
  (0, .iload_n 1, 1, 1, 0), (1, .aload_n 0, 1, 0, 0), (2, .getfield 72, 3, 9, 8), (5, .ixor, 1, 0, 0), (6, .iload_n 2, 1, 2, 0), (7, .aload_n 0, 1, 0, 0),
  (8, .getfield 75, 3, 9, 9), (11, .ixor, 1, 0, 0), (12, .ior, 1, 0, 0), (13, .istore_n 3, 1, 3, 0), (14, .iconst 0, 1, 0, 0), (15, .istore 4, 2, 4, 0),
  (17, .iload 4, 2, 4, 0), (19, .aload_n 0, 1, 0, 0), (20, .getfield 65, 3, 9, 10), (23, .if_icmp .ge 23, 3, 46, 0), (26, .iload_n 3, 1, 3, 0), (27, .aload_n 0, 1, 0, 0),
  (28, .getfield 54, 3, 9, 11), (31, .iload 4, 2, 4, 0), (33, .iadd, 1, 0, 0), (34, .invokestatic 68, 3, 96, 2), (37, .ifCond .ne 9, 3, 46, 0), (40, .iinc 4 1, 3, 1, 0),
  (43, .goto (-26), 3, 17, 0), (46, .aload_n 0, 1, 0, 0), (47, .iload_n 1, 1, 1, 0), (48, .putfield 72, 3, 9, 8), (51, .aload_n 0, 1, 0, 0), (52, .iload_n 2, 1, 2, 0),
  (53, .putfield 75, 3, 9, 9), (56, .iload 4, 2, 4, 0), (58, .istore 5, 2, 5, 0), (60, .iload 5, 2, 5, 0), (62, .aload_n 0, 1, 0, 0), (63, .getfield 62, 3, 9, 12),
  (66, .if_icmp .ge 15, 3, 81, 0), (69, .aload_n 0, 1, 0, 0), (70, .iload 5, 2, 5, 0), (72, .invokevirtual 78, 3, 54, 1), (75, .iinc 5 1, 3, 1, 0), (78, .goto (-18), 3, 60, 0),
  (81, .aload_n 0, 1, 0, 0), (82, .aload_n 0, 1, 0, 0), (83, .getfield 62, 3, 9, 12), (86, .putfield 65, 3, 9, 10), (89, .return_, 1, 0, 0)]
def gc_54 : List gc_O := [
  (0, .aload_n 0, 1, 0, 0), (1, .getfield 54, 3, 9, 11), (4, .iload_n 1, 1, 1, 0), (5, .iadd, 1, 0, 0), (6, .istore_n 2, 1, 2, 0), (7, .aload_n 0, 1, 0, 0),
  (8, .getfield 75, 3, 9, 9), (11, .iload_n 2, 1, 2, 0), (12, .invokestatic 68, 3, 96, 2), (15, .ifCond .eq 16, 3, 31, 0), (18, .aload_n 0, 1, 0, 0), (19, .getfield 29, 3, 9, 0),
  (22, .getfield 82, 3, 7, 5), (25, .iload_n 2, 1, 2, 0), (26, .iaload, 1, 0, 0), (27, .ineg, 1, 0, 0), (28, .goto 12, 3, 40, 0), (31, .aload_n 0, 1, 0, 0),
  (32, .getfield 29, 3, 9, 0), (35, .getfield 82, 3, 7, 5), (38, .iload_n 2, 1, 2, 0), (39, .iaload, 1, 0, 0), (40, .istore_n 3, 1, 3, 0), (41, .aload_n 0, 1, 0, 0),
  (42, .getfield 72, 3, 9, 8), (45, .iload_n 2, 1, 2, 0), (46, .invokestatic 68, 3, 96, 2), (49, .istore 4, 2, 4, 0), (51, .aload_n 0, 1, 0, 0), (52, .getfield 11, 3, 9, 1),
  (55, .iload_n 1, 1, 1, 0), (56, .iconst 1, 1, 1, 0), (57, .iadd, 1, 0, 0), (58, .aaload, 1, 0, 0), (59, .astore 5, 2, 5, 0), (61, .aload_n 0, 1, 0, 0),
  (62, .getfield 11, 3, 9, 1), (65, .iload_n 1, 1, 1, 0), (66, .aaload, 1, 0, 0), (67, .aload 5, 2, 5, 0), (69, .iload_n 3, 1, 3, 0), (70, .invokestatic 85, 3, 55, 3),
  (73, .iload 4, 2, 4, 0), (75, .ifCond .eq 20, 3, 95, 0), (78, .aload 5, 2, 5, 0), (80, .aload_n 0, 1, 0, 0), (81, .getfield 48, 3, 9, 7), (84, .dup2, 1, 0, 0),
  (85, .iaload, 1, 0, 0), (86, .aload_n 0, 1, 0, 0), (87, .getfield 29, 3, 9, 0), (90, .getfield 89, 3, 7, 1), (93, .iadd, 1, 0, 0), (94, .iastore, 1, 0, 0),
  (95, .aload_n 0, 1, 0, 0), (96, .aload 5, 2, 5, 0), (98, .invokevirtual 92, 3, 56, 1), (101, .aload_n 0, 1, 0, 0), (102, .iload_n 1, 1, 1, 0), (103, .iload 4, 2, 4, 0),
  (105, .iload_n 3, 1, 3, 0), (106, .iconst 1, 1, 1, 0), (107, .if_icmp .ne 7, 3, 114, 0), (110, .iconst 1, 1, 1, 0), (111, .goto 4, 3, 115, 0), (114, .iconst 0, 1, 0, 0),
  (115, .invokevirtual 96, 3, 57, 3), (118, .return_, 1, 0, 0)]
def gc_55 : List gc_O := [
  (0, .iconst 0, 1, 0, 0), (1, .istore_n 3, 1, 3, 0), (2, .iload_n 3, 1, 3, 0), (3, .bipush 10, 2, 10, 0), (5, .if_icmp .ge 52, 3, 57, 0), (8, .iload_n 3, 1, 3, 0),
  (9, .iload_n 2, 1, 2, 0), (10, .isub, 1, 0, 0), (11, .istore 4, 2, 4, 0), (13, .iload 4, 2, 4, 0), (15, .ifCond .lt 17, 3, 32, 0), (18, .iload 4, 2, 4, 0),
  (20, .bipush 10, 2, 10, 0), (22, .if_icmp .ge 10, 3, 32, 0), (25, .aload_n 0, 1, 0, 0), (26, .iload 4, 2, 4, 0), (28, .iaload, 1, 0, 0), (29, .goto 4, 3, 33, 0),
  (32, .iconst 0, 1, 0, 0), (33, .istore 5, 2, 5, 0), (35, .aload_n 1, 1, 1, 0), (36, .iload_n 3, 1, 3, 0), (37, .iload 5, 2, 5, 0), (39, .ifCond .le 10, 3, 49, 0),
  (42, .iload 5, 2, 5, 0), (44, .iconst 1, 1, 1, 0), (45, .isub, 1, 0, 0), (46, .goto 4, 3, 50, 0), (49, .iconst 0, 1, 0, 0), (50, .iastore, 1, 0, 0),
  (51, .iinc 3 1, 3, 1, 0), (54, .goto (-52), 3, 2, 0), (57, .return_, 1, 0, 0)]
def gc_56 : List gc_O := [
  (0, .iconst 0, 1, 0, 0), (1, .istore_n 2, 1, 2, 0), (2, .iload_n 2, 1, 2, 0), (3, .bipush 10, 2, 10, 0), (5, .if_icmp .ge 33, 3, 38, 0), (8, .aload_n 0, 1, 0, 0),
  (9, .getfield 47, 3, 9, 6), (12, .iload_n 2, 1, 2, 0), (13, .ishr, 1, 0, 0), (14, .ifCond .eq 24, 3, 38, 0), (17, .aload_n 0, 1, 0, 0), (18, .getfield 47, 3, 9, 6),
  (21, .iload_n 2, 1, 2, 0), (22, .invokestatic 68, 3, 96, 2), (25, .ifCond .eq 7, 3, 32, 0), (28, .aload_n 1, 1, 1, 0), (29, .iload_n 2, 1, 2, 0), (30, .iconst 0, 1, 0, 0),
  (31, .iastore, 1, 0, 0), (32, .iinc 2 1, 3, 1, 0), (35, .goto (-33), 3, 2, 0), (38, .return_, 1, 0, 0)]
def gc_57 : List gc_O := [
  (0, .aload_n 0, 1, 0, 0), (1, .getfield 29, 3, 9, 0), (4, .aload_n 0, 1, 0, 0), (5, .getfield 11, 3, 9, 1), (8, .iload_n 1, 1, 1, 0), (9, .iconst 1, 1, 1, 0),
  (10, .iadd, 1, 0, 0), (11, .aaload, 1, 0, 0), (12, .invokevirtual 100, 3, 35, 1), (15, .istore 4, 2, 4, 0), (17, .iload_n 2, 1, 2, 0), (18, .ifCond .eq 14, 3, 32, 0),
  (21, .aload_n 0, 1, 0, 0), (22, .getfield 29, 3, 9, 0), (25, .getfield 104, 3, 7, 2), (28, .ineg, 1, 0, 0), (29, .goto 4, 3, 33, 0), (32, .iconst 0, 1, 0, 0),
  (33, .istore 5, 2, 5, 0), (35, .iconst 0, 1, 0, 0), (36, .istore 6, 2, 6, 0), (38, .iload 6, 2, 6, 0), (40, .aload_n 0, 1, 0, 0), (41, .getfield 29, 3, 9, 0),
  (44, .getfield 107, 3, 7, 4), (47, .if_icmp .ge 58, 3, 105, 0), (50, .aload_n 0, 1, 0, 0), (51, .getfield 29, 3, 9, 0), (54, .iload 6, 2, 6, 0), (56, .iload 4, 2, 4, 0),
  (58, .iload 6, 2, 6, 0), (60, .invokestatic 68, 3, 96, 2), (63, .iload_n 3, 1, 3, 0), (64, .invokevirtual 110, 3, 36, 3), (67, .istore 7, 2, 7, 0), (69, .aload_n 0, 1, 0, 0),
  (70, .getfield 16, 3, 9, 2), (73, .iload_n 1, 1, 1, 0), (74, .iconst 1, 1, 1, 0), (75, .iadd, 1, 0, 0), (76, .aaload, 1, 0, 0), (77, .iload 6, 2, 6, 0),
  (79, .aload_n 0, 1, 0, 0), (80, .getfield 16, 3, 9, 2), (83, .iload_n 1, 1, 1, 0), (84, .aaload, 1, 0, 0), (85, .iload 6, 2, 6, 0), (87, .iaload, 1, 0, 0),
  (88, .iload 7, 2, 7, 0), (90, .iadd, 1, 0, 0), (91, .iastore, 1, 0, 0), (92, .iload 5, 2, 5, 0), (94, .iload 7, 2, 7, 0), (96, .iadd, 1, 0, 0),
  (97, .istore 5, 2, 5, 0), (99, .iinc 6 1, 3, 1, 0), (102, .goto (-64), 3, 38, 0), (105, .aload_n 0, 1, 0, 0), (106, .getfield 19, 3, 9, 3), (109, .iload_n 1, 1, 1, 0),
  (110, .iconst 1, 1, 1, 0), (111, .iadd, 1, 0, 0), (112, .aload_n 0, 1, 0, 0), (113, .getfield 19, 3, 9, 3), (116, .iload_n 1, 1, 1, 0), (117, .iaload, 1, 0, 0),
  (118, .iload 5, 2, 5, 0), (120, .iadd, 1, 0, 0), (121, .iastore, 1, 0, 0), (122, .aload_n 0, 1, 0, 0), (123, .getfield 23, 3, 9, 4), (126, .iload_n 1, 1, 1, 0),
  (127, .iconst 1, 1, 1, 0), (128, .iadd, 1, 0, 0), (129, .aload_n 0, 1, 0, 0), (130, .getfield 23, 3, 9, 4), (133, .iload_n 1, 1, 1, 0), (134, .iaload, 1, 0, 0),
  (135, .iload 4, 2, 4, 0), (137, .ior, 1, 0, 0), (138, .iastore, 1, 0, 0), (139, .aload_n 0, 1, 0, 0), (140, .getfield 26, 3, 9, 5), (143, .iload_n 1, 1, 1, 0),
  (144, .iconst 1, 1, 1, 0), (145, .iadd, 1, 0, 0), (146, .iload 4, 2, 4, 0), (148, .iastore, 1, 0, 0), (149, .return_, 1, 0, 0)]
def gc_58 : List gc_O := [
  (0, .aload_n 0, 1, 0, 0), (1, .getfield 19, 3, 9, 3), (4, .aload_n 0, 1, 0, 0), (5, .getfield 62, 3, 9, 12), (8, .iaload, 1, 0, 0), (9, .ireturn, 1, 0, 0)]
def gc_59 : List gc_O := [
  (0, .aload_n 0, 1, 0, 0), (1, .getfield 19, 3, 9, 3), (4, .iload_n 1, 1, 1, 0), (5, .iconst 1, 1, 1, 0), (6, .iadd, 1, 0, 0), (7, .iaload, 1, 0, 0),
  (8, .aload_n 0, 1, 0, 0), (9, .getfield 19, 3, 9, 3), (12, .iload_n 1, 1, 1, 0), (13, .iaload, 1, 0, 0), (14, .isub, 1, 0, 0), (15, .ireturn, 1, 0, 0)]
def gc_60 : List gc_O := [
  (0, .aload_n 0, 1, 0, 0), (1, .getfield 16, 3, 9, 2), (4, .aload_n 0, 1, 0, 0), (5, .getfield 62, 3, 9, 12), (8, .aaload, 1, 0, 0), (9, .iload_n 1, 1, 1, 0),
  (10, .iaload, 1, 0, 0), (11, .ireturn, 1, 0, 0)]
def gc_61 : List gc_O := [
  (0, .aload_n 0, 1, 0, 0), (1, .getfield 23, 3, 9, 4), (4, .aload_n 0, 1, 0, 0), (5, .getfield 62, 3, 9, 12), (8, .iaload, 1, 0, 0), (9, .ireturn, 1, 0, 0)]
def gc_62 : List gc_O := [
  (0, .aload_n 0, 1, 0, 0), (1, .getfield 11, 3, 9, 1), (4, .iconst 1, 1, 1, 0), (5, .aaload, 1, 0, 0), (6, .iconst 0, 1, 0, 0), (7, .aload_n 1, 1, 1, 0),
  (8, .getfield 33, 3, 3, 0), (11, .iconst 0, 1, 0, 0), (12, .bipush 10, 2, 10, 0), (14, .invokestatic 37, 3, 1001, 5), (17, .aload_n 1, 1, 1, 0), (18, .dup, 1, 0, 0),
  (19, .getfield 114, 3, 3, 2), (22, .aload_n 0, 1, 0, 0), (23, .getfield 19, 3, 9, 3), (26, .iconst 1, 1, 1, 0), (27, .iaload, 1, 0, 0), (28, .iadd, 1, 0, 0),
  (29, .putfield 114, 3, 3, 2), (32, .aload_n 1, 1, 1, 0), (33, .dup, 1, 0, 0), (34, .getfield 51, 3, 3, 3), (37, .iconst 1, 1, 1, 0), (38, .iadd, 1, 0, 0),
  (39, .putfield 51, 3, 3, 3), (42, .return_, 1, 0, 0)]
def gc_63 : List gc_O := [
  (0, .aload_n 0, 1, 0, 0), (1, .invokespecial 1, 3, 1000, 0), (4, .aload_n 0, 1, 0, 0), (5, .new 7, 3, 8, 0), (8, .dup, 1, 0, 0), (9, .invokespecial 9, 3, 37, 0),
  (12, .putfield 10, 3, 10, 0), (15, .aload_n 0, 1, 0, 0), (16, .new 16, 3, 7, 0), (19, .dup, 1, 0, 0), (20, .invokespecial 18, 3, 31, 0), (23, .putfield 19, 3, 10, 1),
  (26, .aload_n 0, 1, 0, 0), (27, .new 23, 3, 3, 0), (30, .dup, 1, 0, 0), (31, .invokespecial 25, 3, 12, 0), (34, .putfield 26, 3, 10, 2), (37, .aload_n 0, 1, 0, 0),
  (38, .new 23, 3, 3, 0), (41, .dup, 1, 0, 0), (42, .invokespecial 25, 3, 12, 0), (45, .putfield 30, 3, 10, 3), (48, .aload_n 0, 1, 0, 0), (49, .new 33, 3, 0, 0),
  (52, .dup, 1, 0, 0), (53, .invokespecial 35, 3, 0, 0), (56, .putfield 36, 3, 10, 4), (59, .aload_n 0, 1, 0, 0), (60, .new 40, 3, 6, 0), (63, .dup, 1, 0, 0),
  (64, .invokespecial 42, 3, 27, 0), (67, .putfield 43, 3, 10, 5), (70, .aload_n 0, 1, 0, 0), (71, .new 47, 3, 5, 0), (74, .dup, 1, 0, 0), (75, .invokespecial 49, 3, 23, 0),
  (78, .putfield 50, 3, 10, 6), (81, .aload_n 0, 1, 0, 0), (82, .new 54, 3, 9, 0), (85, .dup, 1, 0, 0), (86, .aload_n 0, 1, 0, 0), (87, .getfield 19, 3, 10, 1),
  (90, .invokespecial 56, 3, 49, 1), (93, .putfield 59, 3, 10, 7), (96, .aload_n 0, 1, 0, 0), (97, .new 63, 3, 1, 0), (100, .dup, 1, 0, 0), (101, .aload_n 0, 1, 0, 0),
  (102, .getfield 59, 3, 10, 7), (105, .invokespecial 65, 3, 4, 1), (108, .putfield 68, 3, 10, 8), (111, .aload_n 0, 1, 0, 0), (112, .new 72, 3, 2, 0), (115, .dup, 1, 0, 0),
  (116, .aload_n 0, 1, 0, 0), (117, .getfield 19, 3, 10, 1), (120, .aload_n 0, 1, 0, 0), (121, .getfield 59, 3, 10, 7), (124, .invokespecial 74, 3, 8, 2), (127, .putfield 77, 3, 10, 9),
  (130, .aload_n 0, 1, 0, 0), (131, .new 81, 3, 4, 0), (134, .dup, 1, 0, 0), (135, .aload_n 0, 1, 0, 0), (136, .getfield 19, 3, 10, 1), (139, .aload_n 0, 1, 0, 0),
  (140, .getfield 59, 3, 10, 7), (143, .invokespecial 83, 3, 16, 2), (146, .putfield 84, 3, 10, 10), (149, .return_, 1, 0, 0)]
def gc_64 : List gc_O := [
  (0, .iload_n 1, 1, 1, 0), (1, .ifCond .lt 10, 3, 11, 0), (4, .iload_n 1, 1, 1, 0), (5, .sipush 255, 3, 255, 0), (8, .if_icmp .le 6, 3, 14, 0), (11, .bipush (-2), 2, 2, 1),
  (13, .ireturn, 1, 0, 0), (14, .aload_n 0, 1, 0, 0), (15, .getfield 10, 3, 10, 0), (18, .iload_n 1, 1, 1, 0), (19, .invokevirtual 88, 3, 38, 1), (22, .ifCond .eq 13, 3, 35, 0),
  (25, .aload_n 0, 1, 0, 0), (26, .getfield 10, 3, 10, 0), (29, .getfield 92, 3, 8, 1), (32, .goto 5, 3, 37, 0), (35, .bipush (-4), 2, 4, 1), (37, .ireturn, 1, 0, 0)]
def gc_65 : List gc_O := [
  (0, .aload_n 0, 1, 0, 0), (1, .getfield 10, 3, 10, 0), (4, .getfield 92, 3, 8, 1), (7, .istore_n 1, 1, 1, 0), (8, .aload_n 0, 1, 0, 0), (9, .getfield 10, 3, 10, 0),
  (12, .iconst 0, 1, 0, 0), (13, .putfield 92, 3, 8, 1), (16, .iload_n 1, 1, 1, 0), (17, .ireturn, 1, 0, 0)]
def gc_66 : List gc_O := [
  (0, .aload_n 0, 1, 0, 0), (1, .getfield 10, 3, 10, 0), (4, .invokevirtual 96, 3, 42, 0), (7, .ireturn, 1, 0, 0)]
def gc_67 : List gc_O := [
  (0, .aload_n 0, 1, 0, 0), (1, .getfield 10, 3, 10, 0), (4, .invokevirtual 96, 3, 42, 0), (7, .bipush (-99), 2, 99, 1), (9, .if_icmp .eq 6, 3, 15, 0), (12, .bipush (-3), 2, 3, 1),
  (14, .ireturn, 1, 0, 0), (15, .aload_n 0, 1, 0, 0), (16, .getfield 19, 3, 10, 1), (19, .aload_n 0, 1, 0, 0), (20, .getfield 10, 3, 10, 0), (23, .invokevirtual 100, 3, 32, 1),
  (26, .aload_n 0, 1, 0, 0), (27, .getfield 26, 3, 10, 2), (30, .invokevirtual 104, 3, 13, 0), (33, .aload_n 0, 1, 0, 0), (34, .getfield 36, 3, 10, 4), (37, .invokevirtual 107, 3, 1, 0),
  (40, .aload_n 0, 1, 0, 0), (41, .getfield 43, 3, 10, 5), (44, .invokevirtual 110, 3, 28, 0), (47, .bipush 10, 2, 10, 0), (49, .aload_n 0, 1, 0, 0), (50, .getfield 19, 3, 10, 1),
  (53, .getfield 111, 3, 7, 3), (56, .imul, 1, 0, 0), (57, .aload_n 0, 1, 0, 0), (58, .getfield 19, 3, 10, 1), (61, .getfield 114, 3, 7, 4), (64, .iadd, 1, 0, 0),
  (65, .ireturn, 1, 0, 0)]
def gc_68 : List gc_O := [
  (0, .iload_n 1, 1, 1, 0), (1, .invokestatic 117, 3, 93, 1), (4, .ifCond .eq 15, 3, 19, 0), (7, .aload_n 0, 1, 0, 0), (8, .getfield 26, 3, 10, 2), (11, .getfield 120, 3, 3, 0),
  (14, .iload_n 1, 1, 1, 0), (15, .iaload, 1, 0, 0), (16, .goto 5, 3, 21, 0), (19, .bipush (-2), 2, 2, 1), (21, .ireturn, 1, 0, 0)]
def gc_69 : List gc_O := [
  (0, .iload_n 1, 1, 1, 0), (1, .ifCond .lt 26, 3, 27, 0), (4, .iload_n 1, 1, 1, 0), (5, .aload_n 0, 1, 0, 0), (6, .getfield 19, 3, 10, 1), (9, .getfield 111, 3, 7, 3),
  (12, .if_icmp .ge 15, 3, 27, 0), (15, .aload_n 0, 1, 0, 0), (16, .getfield 19, 3, 10, 1), (19, .getfield 124, 3, 7, 5), (22, .iload_n 1, 1, 1, 0), (23, .iaload, 1, 0, 0),
  (24, .goto 5, 3, 29, 0), (27, .bipush (-99), 2, 99, 1), (29, .ireturn, 1, 0, 0)]
def gc_70 : List gc_O := [
  (0, .aload_n 0, 1, 0, 0), (1, .getfield 19, 3, 10, 1), (4, .iload_n 1, 1, 1, 0), (5, .invokevirtual 127, 3, 34, 1), (8, .ifCond .ne 5, 3, 13, 0), (11, .iconst (-1), 1, 1, 1),
  (12, .ireturn, 1, 0, 0), (13, .iload_n 2, 1, 2, 0), (14, .tableswitch 101 0 4 #[34, 44, 54, 64, 74], 34, 0, 0), (48, .aload_n 0, 1, 0, 0), (49, .getfield 19, 3, 10, 1), (52, .getfield 130, 3, 7, 6),
  (55, .iload_n 1, 1, 1, 0), (56, .iaload, 1, 0, 0), (57, .ireturn, 1, 0, 0), (58, .aload_n 0, 1, 0, 0), (59, .getfield 19, 3, 10, 1), (62, .getfield 133, 3, 7, 7),
  (65, .iload_n 1, 1, 1, 0), (66, .iaload, 1, 0, 0), (67, .ireturn, 1, 0, 0), (68, .aload_n 0, 1, 0, 0), (69, .getfield 19, 3, 10, 1), (72, .getfield 136, 3, 7, 8),
  (75, .iload_n 1, 1, 1, 0), (76, .iaload, 1, 0, 0), (77, .ireturn, 1, 0, 0), (78, .aload_n 0, 1, 0, 0), (79, .getfield 19, 3, 10, 1), (82, .getfield 139, 3, 7, 9),
  (85, .iload_n 1, 1, 1, 0), (86, .iaload, 1, 0, 0), (87, .ireturn, 1, 0, 0), (88, .aload_n 0, 1, 0, 0), (89, .getfield 19, 3, 10, 1), (92, .aload_n 0, 1, 0, 0),
  (93, .getfield 26, 3, 10, 2), (96, .getfield 120, 3, 3, 0), (99, .invokevirtual 142, 3, 35, 1), (102, .iload_n 1, 1, 1, 0), (103, .invokestatic 146, 3, 96, 2), (106, .ifCond .eq 7, 3, 113, 0),
  (109, .iconst 1, 1, 1, 0), (110, .goto 4, 3, 114, 0), (113, .iconst 0, 1, 0, 0), (114, .ireturn, 1, 0, 0), (115, .bipush (-2), 2, 2, 1), (117, .ireturn, 1, 0, 0)]
def gc_71 : List gc_O := [
  (0, .aload_n 0, 1, 0, 0), (1, .getfield 26, 3, 10, 2), (4, .getfield 150, 3, 3, 2), (7, .ireturn, 1, 0, 0)]
def gc_72 : List gc_O := [
  (0, .aload_n 0, 1, 0, 0), (1, .invokevirtual 153, 3, 97, 0), (4, .ifCond .ne 6, 3, 10, 0), (7, .bipush (-3), 2, 3, 1), (9, .ireturn, 1, 0, 0), (10, .aload_n 0, 1, 0, 0),
  (11, .getfield 36, 3, 10, 4), (14, .aload_n 0, 1, 0, 0), (15, .getfield 26, 3, 10, 2), (18, .invokevirtual 156, 3, 2, 1), (21, .aload_n 0, 1, 0, 0), (22, .getfield 59, 3, 10, 7),
  (25, .aload_n 0, 1, 0, 0), (26, .getfield 26, 3, 10, 2), (29, .aload_n 0, 1, 0, 0), (30, .getfield 19, 3, 10, 1), (33, .getfield 160, 3, 7, 0), (36, .invokevirtual 163, 3, 50, 2),
  (39, .aload_n 0, 1, 0, 0), (40, .getfield 59, 3, 10, 7), (43, .iload_n 1, 1, 1, 0), (44, .ifCond .eq 15, 3, 59, 0), (47, .iconst 1, 1, 1, 0), (48, .aload_n 0, 1, 0, 0),
  (49, .getfield 26, 3, 10, 2), (52, .getfield 167, 3, 3, 3), (55, .ishl, 1, 0, 0), (56, .goto 4, 3, 60, 0), (59, .iconst 0, 1, 0, 0), (60, .iconst 0, 1, 0, 0),
  (61, .invokevirtual 170, 3, 53, 2), (64, .aload_n 0, 1, 0, 0), (65, .getfield 59, 3, 10, 7), (68, .aload_n 0, 1, 0, 0), (69, .getfield 26, 3, 10, 2), (72, .invokevirtual 174, 3, 62, 1),
  (75, .aload_n 0, 1, 0, 0), (76, .getfield 59, 3, 10, 7), (79, .getfield 177, 3, 9, 5), (82, .iconst 1, 1, 1, 0), (83, .iaload, 1, 0, 0), (84, .ireturn, 1, 0, 0)]
def gc_73 : List gc_O := [
  (0, .iload_n 1, 1, 1, 0), (1, .invokestatic 117, 3, 93, 1), (4, .ifCond .ne 6, 3, 10, 0), (7, .bipush (-2), 2, 2, 1), (9, .ireturn, 1, 0, 0), (10, .aload_n 0, 1, 0, 0),
  (11, .invokevirtual 153, 3, 97, 0), (14, .ifCond .ne 6, 3, 20, 0), (17, .bipush (-3), 2, 3, 1), (19, .ireturn, 1, 0, 0), (20, .aload_n 0, 1, 0, 0), (21, .getfield 36, 3, 10, 4),
  (24, .aload_n 0, 1, 0, 0), (25, .getfield 26, 3, 10, 2), (28, .invokevirtual 156, 3, 2, 1), (31, .aload_n 0, 1, 0, 0), (32, .getfield 26, 3, 10, 2), (35, .dup, 1, 0, 0),
  (36, .getfield 180, 3, 3, 1), (39, .iconst 1, 1, 1, 0), (40, .iload_n 1, 1, 1, 0), (41, .ishl, 1, 0, 0), (42, .ixor, 1, 0, 0), (43, .putfield 180, 3, 3, 1),
  (46, .aload_n 0, 1, 0, 0), (47, .getfield 26, 3, 10, 2), (50, .getfield 180, 3, 3, 1), (53, .iload_n 1, 1, 1, 0), (54, .invokestatic 146, 3, 96, 2), (57, .ifCond .eq 7, 3, 64, 0),
  (60, .iconst 1, 1, 1, 0), (61, .goto 4, 3, 65, 0), (64, .iconst 0, 1, 0, 0), (65, .ireturn, 1, 0, 0)]
def gc_74 : List gc_O := [
  (0, .aload_n 0, 1, 0, 0), (1, .getfield 36, 3, 10, 4), (4, .aload_n 0, 1, 0, 0), (5, .getfield 26, 3, 10, 2), (8, .invokevirtual 183, 3, 3, 1), (11, .ifCond .eq 13, 3, 24, 0),
  (14, .aload_n 0, 1, 0, 0), (15, .getfield 36, 3, 10, 4), (18, .getfield 187, 3, 0, 2), (21, .goto 5, 3, 26, 0), (24, .bipush (-3), 2, 3, 1), (26, .ireturn, 1, 0, 0)]
def gc_75 : List gc_O := [
  (0, .iload_n 1, 1, 1, 0), (1, .invokestatic 190, 3, 94, 1), (4, .ifCond .ne 6, 3, 10, 0), (7, .ldc 193, 2, 1000002, 1), (9, .ireturn, 1, 0, 0), (10, .aload_n 0, 1, 0, 0),
  (11, .iload_n 1, 1, 1, 0), (12, .invokevirtual 194, 3, 98, 1), (15, .aload_n 0, 1, 0, 0), (16, .getfield 59, 3, 10, 7), (19, .invokevirtual 198, 3, 58, 0), (22, .ireturn, 1, 0, 0)]
def gc_76 : List gc_O := [
  (0, .aload_n 0, 1, 0, 0), (1, .getfield 59, 3, 10, 7), (4, .aload_n 0, 1, 0, 0), (5, .getfield 26, 3, 10, 2), (8, .aload_n 0, 1, 0, 0), (9, .getfield 19, 3, 10, 1),
  (12, .getfield 160, 3, 7, 0), (15, .invokevirtual 163, 3, 50, 2), (18, .aload_n 0, 1, 0, 0), (19, .getfield 68, 3, 10, 8), (22, .invokevirtual 201, 3, 5, 0), (25, .iload_n 1, 1, 1, 0),
  (26, .ifCond .eq 13, 3, 39, 0), (29, .aload_n 0, 1, 0, 0), (30, .getfield 68, 3, 10, 8), (33, .getfield 204, 3, 1, 2), (36, .goto 10, 3, 46, 0), (39, .aload_n 0, 1, 0, 0),
  (40, .getfield 68, 3, 10, 8), (43, .getfield 206, 3, 1, 1), (46, .ireturn, 1, 0, 0)]
def gc_77 : List gc_O := [
  (0, .aload_n 0, 1, 0, 0), (1, .iconst 1, 1, 1, 0), (2, .invokevirtual 209, 3, 76, 1), (5, .istore_n 1, 1, 1, 0), (6, .bipush (-99), 2, 99, 1), (8, .istore_n 2, 1, 2, 0),
  (9, .iconst 0, 1, 0, 0), (10, .istore_n 3, 1, 3, 0), (11, .iload_n 3, 1, 3, 0), (12, .bipush 10, 2, 10, 0), (14, .if_icmp .ge 81, 3, 95, 0), (17, .aload_n 0, 1, 0, 0),
  (18, .getfield 30, 3, 10, 3), (21, .aload_n 0, 1, 0, 0), (22, .getfield 26, 3, 10, 2), (25, .invokevirtual 213, 3, 15, 1), (28, .aload_n 0, 1, 0, 0), (29, .getfield 30, 3, 10, 3),
  (32, .dup, 1, 0, 0), (33, .getfield 180, 3, 3, 1), (36, .iconst 1, 1, 1, 0), (37, .iload_n 3, 1, 3, 0), (38, .ishl, 1, 0, 0), (39, .ixor, 1, 0, 0),
  (40, .putfield 180, 3, 3, 1), (43, .aload_n 0, 1, 0, 0), (44, .getfield 59, 3, 10, 7), (47, .aload_n 0, 1, 0, 0), (48, .getfield 30, 3, 10, 3), (51, .aload_n 0, 1, 0, 0),
  (52, .getfield 19, 3, 10, 1), (55, .getfield 160, 3, 7, 0), (58, .invokevirtual 163, 3, 50, 2), (61, .aload_n 0, 1, 0, 0), (62, .getfield 68, 3, 10, 8), (65, .invokevirtual 201, 3, 5, 0),
  (68, .aload_n 0, 1, 0, 0), (69, .getfield 68, 3, 10, 8), (72, .getfield 204, 3, 1, 2), (75, .iload_n 1, 1, 1, 0), (76, .if_icmp .le 13, 3, 89, 0), (79, .aload_n 0, 1, 0, 0),
  (80, .getfield 68, 3, 10, 8), (83, .getfield 204, 3, 1, 2), (86, .istore_n 1, 1, 1, 0), (87, .iload_n 3, 1, 3, 0), (88, .istore_n 2, 1, 2, 0), (89, .iinc 3 1, 3, 1, 0),
  (92, .goto (-81), 3, 11, 0), (95, .iload_n 2, 1, 2, 0), (96, .ireturn, 1, 0, 0)]
def gc_78 : List gc_O := [
  (0, .aload_n 0, 1, 0, 0), (1, .getfield 19, 3, 10, 1), (4, .iload_n 1, 1, 1, 0), (5, .invokevirtual 127, 3, 34, 1), (8, .ifCond .ne 6, 3, 14, 0), (11, .ldc 216, 2, 1000001, 1),
  (13, .ireturn, 1, 0, 0), (14, .aload_n 0, 1, 0, 0), (15, .getfield 59, 3, 10, 7), (18, .aload_n 0, 1, 0, 0), (19, .getfield 26, 3, 10, 2), (22, .aload_n 0, 1, 0, 0),
  (23, .getfield 19, 3, 10, 1), (26, .getfield 160, 3, 7, 0), (29, .invokevirtual 163, 3, 50, 2), (32, .aload_n 0, 1, 0, 0), (33, .getfield 77, 3, 10, 9), (36, .invokevirtual 217, 3, 9, 0),
  (39, .aload_n 0, 1, 0, 0), (40, .getfield 77, 3, 10, 9), (43, .iload_n 1, 1, 1, 0), (44, .invokevirtual 220, 3, 11, 1), (47, .getstatic 224, 3, 1, 0), (50, .aload_n 0, 1, 0, 0),
  (51, .getfield 19, 3, 10, 1), (54, .getfield 114, 3, 7, 4), (57, .iaload, 1, 0, 0), (58, .i2l, 1, 0, 0), (59, .iload_n 2, 1, 2, 0), (60, .invokestatic 227, 3, 104, 3),
  (63, .l2i, 1, 0, 0), (64, .ireturn, 1, 0, 0)]
def gc_79 : List gc_O := [
  (0, .iload_n 1, 1, 1, 0), (1, .iconst 1, 1, 1, 0), (2, .if_icmp .lt 22, 3, 24, 0), (5, .iload_n 1, 1, 1, 0), (6, .bipush 8, 2, 8, 0), (8, .if_icmp .gt 16, 3, 24, 0),
  (11, .iload_n 2, 1, 2, 0), (12, .ifCond .lt 12, 3, 24, 0), (15, .iload_n 2, 1, 2, 0), (16, .getstatic 231, 3, 2, 0), (19, .iload_n 1, 1, 1, 0), (20, .iaload, 1, 0, 0),
  (21, .if_icmp .lt 6, 3, 27, 0), (24, .bipush (-2), 2, 2, 1), (26, .ireturn, 1, 0, 0), (27, .aload_n 0, 1, 0, 0), (28, .aload_n 0, 1, 0, 0), (29, .iload_n 1, 1, 1, 0),
  (30, .iload_n 2, 1, 2, 0), (31, .invokevirtual 234, 3, 100, 2), (34, .invokevirtual 194, 3, 98, 1), (37, .iconst 0, 1, 0, 0), (38, .istore_n 3, 1, 3, 0), (39, .iload_n 3, 1, 3, 0),
  (40, .iload_n 1, 1, 1, 0), (41, .if_icmp .ge 43, 3, 84, 0), (44, .iload_n 3, 1, 3, 0), (45, .aload_n 0, 1, 0, 0), (46, .getfield 59, 3, 10, 7), (49, .getfield 238, 3, 9, 12),
  (52, .if_icmp .ge 24, 3, 76, 0), (55, .iload_n 1, 1, 1, 0), (56, .iload_n 2, 1, 2, 0), (57, .iload_n 3, 1, 3, 0), (58, .invokestatic 241, 3, 99, 3), (61, .iconst 1, 1, 1, 0),
  (62, .if_icmp .gt 14, 3, 76, 0), (65, .aload_n 0, 1, 0, 0), (66, .getfield 59, 3, 10, 7), (69, .iload_n 3, 1, 3, 0), (70, .invokevirtual 245, 3, 59, 1), (73, .ifCond .ge 5, 3, 78, 0),
  (76, .iload_n 3, 1, 3, 0), (77, .ireturn, 1, 0, 0), (78, .iinc 3 1, 3, 1, 0), (81, .goto (-42), 3, 39, 0), (84, .bipush (-99), 2, 99, 1), (86, .ireturn, 1, 0, 0)]
def gc_80 : List gc_O := [
  (0, .iload_n 1, 1, 1, 0), (1, .invokestatic 190, 3, 94, 1), (4, .ifCond .ne 6, 3, 10, 0), (7, .bipush (-2), 2, 2, 1), (9, .ireturn, 1, 0, 0), (10, .aload_n 0, 1, 0, 0),
  (11, .iload_n 1, 1, 1, 0), (12, .invokevirtual 194, 3, 98, 1), (15, .aload_n 0, 1, 0, 0), (16, .getfield 59, 3, 10, 7), (19, .invokevirtual 249, 3, 61, 0), (22, .ireturn, 1, 0, 0)]
def gc_81 : List gc_O := [
  (0, .iload_n 1, 1, 1, 0), (1, .ifCond .lt 16, 3, 17, 0), (4, .iload_n 1, 1, 1, 0), (5, .iconst 1, 1, 1, 0), (6, .aload_n 0, 1, 0, 0), (7, .getfield 19, 3, 10, 1),
  (10, .getfield 114, 3, 7, 4), (13, .ishl, 1, 0, 0), (14, .if_icmp .lt 6, 3, 20, 0), (17, .bipush (-2), 2, 2, 1), (19, .ireturn, 1, 0, 0), (20, .aload_n 0, 1, 0, 0),
  (21, .getfield 59, 3, 10, 7), (24, .aload_n 0, 1, 0, 0), (25, .getfield 26, 3, 10, 2), (28, .aload_n 0, 1, 0, 0), (29, .getfield 19, 3, 10, 1), (32, .getfield 160, 3, 7, 0),
  (35, .invokevirtual 163, 3, 50, 2), (38, .aload_n 0, 1, 0, 0), (39, .getfield 68, 3, 10, 8), (42, .iload_n 1, 1, 1, 0), (43, .invokevirtual 252, 3, 6, 1), (46, .ifCond .eq 13, 3, 59, 0),
  (49, .aload_n 0, 1, 0, 0), (50, .getfield 68, 3, 10, 8), (53, .getfield 206, 3, 1, 1), (56, .goto 5, 3, 61, 0), (59, .bipush (-99), 2, 99, 1), (61, .ireturn, 1, 0, 0)]
def gc_82 : List gc_O := [
  (0, .aload_n 0, 1, 0, 0), (1, .getfield 19, 3, 10, 1), (4, .iload_n 1, 1, 1, 0), (5, .invokevirtual 127, 3, 34, 1), (8, .ifCond .ne 5, 3, 13, 0), (11, .iconst (-1), 1, 1, 1),
  (12, .ireturn, 1, 0, 0), (13, .iload_n 2, 1, 2, 0), (14, .ifCond .lt 9, 3, 23, 0), (17, .iload_n 2, 1, 2, 0), (18, .bipush 8, 2, 8, 0), (20, .if_icmp .lt 6, 3, 26, 0),
  (23, .bipush (-2), 2, 2, 1), (25, .ireturn, 1, 0, 0), (26, .aload_n 0, 1, 0, 0), (27, .getfield 50, 3, 10, 6), (30, .iload_n 1, 1, 1, 0), (31, .iload_n 2, 1, 2, 0),
  (32, .iload_n 3, 1, 3, 0), (33, .invokevirtual 255, 3, 24, 3), (36, .ifCond .eq 13, 3, 49, 0), (39, .aload_n 0, 1, 0, 0), (40, .getfield 50, 3, 10, 6), (43, .getfield 258, 3, 5, 3),
  (46, .goto 5, 3, 51, 0), (49, .bipush (-4), 2, 4, 1), (51, .ireturn, 1, 0, 0)]
def gc_83 : List gc_O := [
  (0, .aload_n 0, 1, 0, 0), (1, .getfield 50, 3, 10, 6), (4, .getfield 258, 3, 5, 3), (7, .istore_n 1, 1, 1, 0), (8, .aload_n 0, 1, 0, 0), (9, .getfield 50, 3, 10, 6),
  (12, .iconst 0, 1, 0, 0), (13, .putfield 258, 3, 5, 3), (16, .iload_n 1, 1, 1, 0), (17, .ireturn, 1, 0, 0)]
def gc_84 : List gc_O := [
  (0, .iload_n 1, 1, 1, 0), (1, .ifCond .lt 8, 3, 9, 0), (4, .iload_n 1, 1, 1, 0), (5, .iconst 2, 1, 2, 0), (6, .if_icmp .le 6, 3, 12, 0), (9, .bipush (-2), 2, 2, 1),
  (11, .ireturn, 1, 0, 0), (12, .aload_n 0, 1, 0, 0), (13, .getfield 30, 3, 10, 3), (16, .invokevirtual 104, 3, 13, 0), (19, .aload_n 0, 1, 0, 0), (20, .getfield 59, 3, 10, 7),
  (23, .aload_n 0, 1, 0, 0), (24, .getfield 30, 3, 10, 3), (27, .aload_n 0, 1, 0, 0), (28, .getfield 19, 3, 10, 1), (31, .getfield 160, 3, 7, 0), (34, .invokevirtual 163, 3, 50, 2),
  (37, .aload_n 0, 1, 0, 0), (38, .getfield 50, 3, 10, 6), (41, .aload_n 0, 1, 0, 0), (42, .getfield 19, 3, 10, 1), (45, .aload_n 0, 1, 0, 0), (46, .getfield 59, 3, 10, 7),
  (49, .invokevirtual 259, 3, 25, 2), (52, .iload_n 1, 1, 1, 0), (53, .ifCond .ne 11, 3, 64, 0), (56, .aload_n 0, 1, 0, 0), (57, .getfield 50, 3, 10, 6), (60, .getfield 262, 3, 5, 4),
  (63, .ireturn, 1, 0, 0), (64, .aload_n 0, 1, 0, 0), (65, .getfield 50, 3, 10, 6), (68, .getfield 262, 3, 5, 4), (71, .ifCond .ne 6, 3, 77, 0), (74, .bipush (-99), 2, 99, 1),
  (76, .ireturn, 1, 0, 0), (77, .iload_n 1, 1, 1, 0), (78, .iconst 1, 1, 1, 0), (79, .if_icmp .ne 13, 3, 92, 0), (82, .aload_n 0, 1, 0, 0), (83, .getfield 50, 3, 10, 6),
  (86, .getfield 265, 3, 5, 5), (89, .goto 10, 3, 99, 0), (92, .aload_n 0, 1, 0, 0), (93, .getfield 50, 3, 10, 6), (96, .getfield 268, 3, 5, 6), (99, .ireturn, 1, 0, 0)]
def gc_85 : List gc_O := [
  (0, .iload_n 1, 1, 1, 0), (1, .invokestatic 190, 3, 94, 1), (4, .ifCond .eq 10, 3, 14, 0), (7, .iload_n 2, 1, 2, 0), (8, .invokestatic 271, 3, 95, 1), (11, .ifCond .ne 7, 3, 18, 0),
  (14, .ldc2_w 274, 3, 1000000000002, 1), (17, .lreturn, 1, 0, 0), (18, .aload_n 0, 1, 0, 0), (19, .iconst (-1), 1, 1, 1), (20, .iload_n 1, 1, 1, 0), (21, .iload_n 2, 1, 2, 0),
  (22, .invokevirtual 276, 3, 102, 3), (25, .bipush 10, 2, 10, 0), (27, .aload_n 0, 1, 0, 0), (28, .invokevirtual 153, 3, 97, 0), (31, .invokestatic 280, 3, 103, 2), (34, .iload_n 3, 1, 3, 0),
  (35, .invokestatic 227, 3, 104, 3), (38, .lreturn, 1, 0, 0)]
def gc_86 : List gc_O := [
  (0, .aload_n 0, 1, 0, 0), (1, .getfield 19, 3, 10, 1), (4, .iload_n 1, 1, 1, 0), (5, .invokevirtual 127, 3, 34, 1), (8, .ifCond .ne 7, 3, 15, 0), (11, .ldc2_w 284, 3, 1000000000001, 1),
  (14, .lreturn, 1, 0, 0), (15, .iload_n 2, 1, 2, 0), (16, .invokestatic 190, 3, 94, 1), (19, .ifCond .eq 10, 3, 29, 0), (22, .iload_n 3, 1, 3, 0), (23, .invokestatic 271, 3, 95, 1),
  (26, .ifCond .ne 7, 3, 33, 0), (29, .ldc2_w 274, 3, 1000000000002, 1), (32, .lreturn, 1, 0, 0), (33, .aload_n 0, 1, 0, 0), (34, .iload_n 1, 1, 1, 0), (35, .iload_n 2, 1, 2, 0),
  (36, .iload_n 3, 1, 3, 0), (37, .invokevirtual 276, 3, 102, 3), (40, .bipush 10, 2, 10, 0), (42, .aload_n 0, 1, 0, 0), (43, .invokevirtual 153, 3, 97, 0), (46, .invokestatic 280, 3, 103, 2),
  (49, .iload 4, 2, 4, 0), (51, .invokestatic 227, 3, 104, 3), (54, .lreturn, 1, 0, 0)]
def gc_87 : List gc_O := [
  (0, .iload_n 1, 1, 1, 0), (1, .invokestatic 117, 3, 93, 1), (4, .ifCond .eq 12, 3, 16, 0), (7, .iload_n 2, 1, 2, 0), (8, .ifCond .lt 8, 3, 16, 0), (11, .iload_n 2, 1, 2, 0),
  (12, .iconst 1, 1, 1, 0), (13, .if_icmp .le 6, 3, 19, 0), (16, .bipush (-2), 2, 2, 1), (18, .ireturn, 1, 0, 0), (19, .aload_n 0, 1, 0, 0), (20, .getfield 30, 3, 10, 3),
  (23, .aload_n 0, 1, 0, 0), (24, .getfield 26, 3, 10, 2), (27, .invokevirtual 213, 3, 15, 1), (30, .aload_n 0, 1, 0, 0), (31, .getfield 30, 3, 10, 3), (34, .invokevirtual 286, 3, 14, 0),
  (37, .aload_n 0, 1, 0, 0), (38, .getfield 84, 3, 10, 10), (41, .aload_n 0, 1, 0, 0), (42, .getfield 26, 3, 10, 2), (45, .aload_n 0, 1, 0, 0), (46, .getfield 30, 3, 10, 3),
  (49, .iload_n 1, 1, 1, 0), (50, .invokevirtual 289, 3, 17, 3), (53, .iload_n 2, 1, 2, 0), (54, .ifCond .ne 13, 3, 67, 0), (57, .aload_n 0, 1, 0, 0), (58, .getfield 84, 3, 10, 10),
  (61, .getfield 293, 3, 4, 6), (64, .goto 10, 3, 74, 0), (67, .aload_n 0, 1, 0, 0), (68, .getfield 84, 3, 10, 10), (71, .getfield 296, 3, 4, 7), (74, .ireturn, 1, 0, 0)]
def gc_88 : List gc_O := [
  (0, .aload_n 0, 1, 0, 0), (1, .getfield 299, 3, 10, 11), (4, .lstore_n 3, 1, 3, 0), (5, .aload_n 0, 1, 0, 0), (6, .lload_n 1, 1, 1, 0), (7, .putfield 299, 3, 10, 11),
  (10, .lload_n 3, 1, 3, 0), (11, .lreturn, 1, 0, 0)]
def gc_89 : List gc_O := [
  (0, .iload_n 1, 1, 1, 0), (1, .iconst 1, 1, 1, 0), (2, .if_icmp .lt 9, 3, 11, 0), (5, .iload_n 1, 1, 1, 0), (6, .bipush 20, 2, 20, 0), (8, .if_icmp .le 6, 3, 14, 0),
  (11, .ldc 193, 2, 1000002, 1), (13, .ireturn, 1, 0, 0), (14, .iconst 0, 1, 0, 0), (15, .istore_n 2, 1, 2, 0), (16, .iconst 0, 1, 0, 0), (17, .istore_n 3, 1, 3, 0),
  (18, .iload_n 3, 1, 3, 0), (19, .iload_n 1, 1, 1, 0), (20, .if_icmp .ge 27, 3, 47, 0), (23, .aload_n 0, 1, 0, 0), (24, .aload_n 0, 1, 0, 0), (25, .invokevirtual 303, 3, 101, 0),
  (28, .invokevirtual 194, 3, 98, 1), (31, .iload_n 2, 1, 2, 0), (32, .aload_n 0, 1, 0, 0), (33, .getfield 59, 3, 10, 7), (36, .invokevirtual 198, 3, 58, 0), (39, .iadd, 1, 0, 0),
  (40, .istore_n 2, 1, 2, 0), (41, .iinc 3 1, 3, 1, 0), (44, .goto (-26), 3, 18, 0), (47, .iload_n 2, 1, 2, 0), (48, .ireturn, 1, 0, 0)]
def gc_90 : List gc_O := [
  (0, .iload_n 1, 1, 1, 0), (1, .ifCond .lt 8, 3, 9, 0), (4, .iload_n 1, 1, 1, 0), (5, .iconst 2, 1, 2, 0), (6, .if_icmp .lt 5, 3, 11, 0), (9, .iconst (-1), 1, 1, 1),
  (10, .ireturn, 1, 0, 0), (11, .aload_n 0, 1, 0, 0), (12, .getfield 43, 3, 10, 5), (15, .iload_n 1, 1, 1, 0), (16, .aload_n 0, 1, 0, 0), (17, .getfield 26, 3, 10, 2),
  (20, .invokevirtual 306, 3, 29, 2), (23, .aload_n 0, 1, 0, 0), (24, .getfield 26, 3, 10, 2), (27, .getfield 167, 3, 3, 3), (30, .ireturn, 1, 0, 0)]
def gc_91 : List gc_O := [
  (0, .iload_n 1, 1, 1, 0), (1, .ifCond .lt 8, 3, 9, 0), (4, .iload_n 1, 1, 1, 0), (5, .iconst 2, 1, 2, 0), (6, .if_icmp .lt 5, 3, 11, 0), (9, .iconst (-1), 1, 1, 1),
  (10, .ireturn, 1, 0, 0), (11, .aload_n 0, 1, 0, 0), (12, .getfield 43, 3, 10, 5), (15, .iload_n 1, 1, 1, 0), (16, .aload_n 0, 1, 0, 0), (17, .getfield 26, 3, 10, 2),
  (20, .invokevirtual 310, 3, 30, 2), (23, .ifCond .ne 6, 3, 29, 0), (26, .bipush (-3), 2, 3, 1), (28, .ireturn, 1, 0, 0), (29, .aload_n 0, 1, 0, 0), (30, .getfield 36, 3, 10, 4),
  (33, .invokevirtual 107, 3, 1, 0), (36, .aload_n 0, 1, 0, 0), (37, .getfield 26, 3, 10, 2), (40, .getfield 167, 3, 3, 3), (43, .ireturn, 1, 0, 0)]
def gc_92 : List gc_O := [
  (0, .iload_n 1, 1, 1, 0), (1, .tableswitch 154 0 10 #[59, 67, 75, 83, 91, 99, 107, 115, 123, 138, 146], 59, 0, 0), (60, .aload_n 0, 1, 0, 0), (61, .getfield 10, 3, 10, 0), (64, .getfield 92, 3, 8, 1), (67, .ireturn, 1, 0, 0),
  (68, .aload_n 0, 1, 0, 0), (69, .getfield 19, 3, 10, 1), (72, .getfield 111, 3, 7, 3), (75, .ireturn, 1, 0, 0), (76, .aload_n 0, 1, 0, 0), (77, .getfield 19, 3, 10, 1),
  (80, .getfield 114, 3, 7, 4), (83, .ireturn, 1, 0, 0), (84, .aload_n 0, 1, 0, 0), (85, .getfield 19, 3, 10, 1), (88, .getfield 160, 3, 7, 0), (91, .ireturn, 1, 0, 0),
  (92, .aload_n 0, 1, 0, 0), (93, .getfield 19, 3, 10, 1), (96, .getfield 314, 3, 7, 1), (99, .ireturn, 1, 0, 0), (100, .aload_n 0, 1, 0, 0), (101, .getfield 19, 3, 10, 1),
  (104, .getfield 317, 3, 7, 2), (107, .ireturn, 1, 0, 0), (108, .aload_n 0, 1, 0, 0), (109, .getfield 26, 3, 10, 2), (112, .getfield 167, 3, 3, 3), (115, .ireturn, 1, 0, 0),
  (116, .aload_n 0, 1, 0, 0), (117, .getfield 26, 3, 10, 2), (120, .getfield 180, 3, 3, 1), (123, .ireturn, 1, 0, 0), (124, .aload_n 0, 1, 0, 0), (125, .getfield 19, 3, 10, 1),
  (128, .aload_n 0, 1, 0, 0), (129, .getfield 26, 3, 10, 2), (132, .getfield 120, 3, 3, 0), (135, .invokevirtual 142, 3, 35, 1), (138, .ireturn, 1, 0, 0), (139, .aload_n 0, 1, 0, 0),
  (140, .getfield 36, 3, 10, 4), (143, .getfield 187, 3, 0, 2), (146, .ireturn, 1, 0, 0), (147, .aload_n 0, 1, 0, 0), (148, .getfield 50, 3, 10, 6), (151, .getfield 258, 3, 5, 3),
  (154, .ireturn, 1, 0, 0), (155, .bipush (-2), 2, 2, 1), (157, .ireturn, 1, 0, 0)]
def gc_93 : List gc_O := [
  (0, .iload_n 0, 1, 0, 0), (1, .ifCond .lt 13, 3, 14, 0), (4, .iload_n 0, 1, 0, 0), (5, .bipush 10, 2, 10, 0), (7, .if_icmp .ge 7, 3, 14, 0), (10, .iconst 1, 1, 1, 0),
  (11, .goto 4, 3, 15, 0), (14, .iconst 0, 1, 0, 0), (15, .ireturn, 1, 0, 0)]
def gc_94 : List gc_O := [
  (0, .iload_n 0, 1, 0, 0), (1, .ifCond .lt 14, 3, 15, 0), (4, .iload_n 0, 1, 0, 0), (5, .sipush 256, 3, 256, 0), (8, .if_icmp .ge 7, 3, 15, 0), (11, .iconst 1, 1, 1, 0),
  (12, .goto 4, 3, 16, 0), (15, .iconst 0, 1, 0, 0), (16, .ireturn, 1, 0, 0)]
def gc_95 : List gc_O := [
  (0, .iload_n 0, 1, 0, 0), (1, .ifCond .lt 13, 3, 14, 0), (4, .iload_n 0, 1, 0, 0), (5, .bipush 10, 2, 10, 0), (7, .if_icmp .gt 7, 3, 14, 0), (10, .iconst 1, 1, 1, 0),
  (11, .goto 4, 3, 15, 0), (14, .iconst 0, 1, 0, 0), (15, .ireturn, 1, 0, 0)]
def gc_96 : List gc_O := [
  (0, .iload_n 0, 1, 0, 0), (1, .iload_n 1, 1, 1, 0), (2, .ishr, 1, 0, 0), (3, .iconst 1, 1, 1, 0), (4, .iand, 1, 0, 0), (5, .iconst 1, 1, 1, 0),
  (6, .if_icmp .ne 7, 3, 13, 0), (9, .iconst 1, 1, 1, 0), (10, .goto 4, 3, 14, 0), (13, .iconst 0, 1, 0, 0), (14, .ireturn, 1, 0, 0)]
def gc_97 : List gc_O := [
  (0, .aload_n 0, 1, 0, 0), (1, .getfield 19, 3, 10, 1), (4, .getfield 111, 3, 7, 3), (7, .aload_n 0, 1, 0, 0), (8, .getfield 26, 3, 10, 2), (11, .getfield 167, 3, 3, 3),
  (14, .isub, 1, 0, 0), (15, .ireturn, 1, 0, 0)]
def gc_98 : List gc_O := [
  (0, .aload_n 0, 1, 0, 0), (1, .getfield 59, 3, 10, 7), (4, .aload_n 0, 1, 0, 0), (5, .getfield 26, 3, 10, 2), (8, .aload_n 0, 1, 0, 0), (9, .getfield 19, 3, 10, 1),
  (12, .getfield 160, 3, 7, 0), (15, .invokevirtual 163, 3, 50, 2), (18, .aload_n 0, 1, 0, 0), (19, .getfield 59, 3, 10, 7), (22, .iload_n 1, 1, 1, 0), (23, .iconst 0, 1, 0, 0),
  (24, .invokevirtual 170, 3, 53, 2), (27, .return_, 1, 0, 0)]
def gc_99 : List gc_O := [
  (0, .iload_n 0, 1, 0, 0), (1, .iconst 1, 1, 1, 0), (2, .isub, 1, 0, 0), (3, .iload_n 2, 1, 2, 0), (4, .isub, 1, 0, 0), (5, .istore_n 3, 1, 3, 0),
  (6, .iload_n 3, 1, 3, 0), (7, .ifCond .lt 24, 3, 31, 0), (10, .iload_n 3, 1, 3, 0), (11, .getstatic 231, 3, 2, 0), (14, .arraylength, 1, 0, 0), (15, .if_icmp .ge 16, 3, 31, 0),
  (18, .iload_n 1, 1, 1, 0), (19, .getstatic 231, 3, 2, 0), (22, .iload_n 3, 1, 3, 0), (23, .iaload, 1, 0, 0), (24, .idiv, 1, 0, 0), (25, .bipush 10, 2, 10, 0),
  (27, .irem, 1, 0, 0), (28, .goto 4, 3, 32, 0), (31, .iconst 0, 1, 0, 0), (32, .ireturn, 1, 0, 0)]
def gc_100 : List gc_O := [
  (0, .iconst 0, 1, 0, 0), (1, .istore_n 3, 1, 3, 0), (2, .iconst 0, 1, 0, 0), (3, .istore 4, 2, 4, 0), (5, .iload 4, 2, 4, 0), (7, .iload_n 1, 1, 1, 0),
  (8, .if_icmp .ge 35, 3, 43, 0), (11, .iload_n 1, 1, 1, 0), (12, .iload_n 2, 1, 2, 0), (13, .iload 4, 2, 4, 0), (15, .invokestatic 241, 3, 99, 3), (18, .iconst 1, 1, 1, 0),
  (19, .if_icmp .ne 18, 3, 37, 0), (22, .iload_n 3, 1, 3, 0), (23, .iconst 1, 1, 1, 0), (24, .aload_n 0, 1, 0, 0), (25, .getfield 26, 3, 10, 2), (28, .getfield 167, 3, 3, 3),
  (31, .iload 4, 2, 4, 0), (33, .iadd, 1, 0, 0), (34, .ishl, 1, 0, 0), (35, .ior, 1, 0, 0), (36, .istore_n 3, 1, 3, 0), (37, .iinc 4 1, 3, 1, 0),
  (40, .goto (-35), 3, 5, 0), (43, .iload_n 3, 1, 3, 0), (44, .ireturn, 1, 0, 0)]
def gc_101 : List gc_O := [
  (0, .iconst 0, 1, 0, 0), (1, .istore_n 1, 1, 1, 0), (2, .aload_n 0, 1, 0, 0), (3, .getfield 26, 3, 10, 2), (6, .getfield 167, 3, 3, 3), (9, .istore_n 2, 1, 2, 0),
  (10, .iload_n 2, 1, 2, 0), (11, .aload_n 0, 1, 0, 0), (12, .getfield 19, 3, 10, 1), (15, .getfield 111, 3, 7, 3), (18, .if_icmp .ge 47, 3, 65, 0), (21, .aload_n 0, 1, 0, 0),
  (22, .aload_n 0, 1, 0, 0), (23, .getfield 299, 3, 10, 11), (26, .ldc2_w 320, 3, 6364136223846793005, 0), (29, .lmul, 1, 0, 0), (30, .ldc2_w 322, 3, 1442695040888963407, 0), (33, .ladd, 1, 0, 0),
  (34, .putfield 299, 3, 10, 11), (37, .aload_n 0, 1, 0, 0), (38, .getfield 299, 3, 10, 11), (41, .bipush 33, 2, 33, 0), (43, .lushr, 1, 0, 0), (44, .ldc2_w 324, 3, 2, 0),
  (47, .lrem, 1, 0, 0), (48, .lconst 1, 1, 1, 0), (49, .lcmp, 1, 0, 0), (50, .ifCond .ne 9, 3, 59, 0), (53, .iload_n 1, 1, 1, 0), (54, .iconst 1, 1, 1, 0),
  (55, .iload_n 2, 1, 2, 0), (56, .ishl, 1, 0, 0), (57, .ior, 1, 0, 0), (58, .istore_n 1, 1, 1, 0), (59, .iinc 2 1, 3, 1, 0), (62, .goto (-52), 3, 10, 0),
  (65, .iload_n 1, 1, 1, 0), (66, .ireturn, 1, 0, 0)]
def gc_102 : List gc_O := [
  (0, .aload_n 0, 1, 0, 0), (1, .getfield 59, 3, 10, 7), (4, .aload_n 0, 1, 0, 0), (5, .getfield 26, 3, 10, 2), (8, .aload_n 0, 1, 0, 0), (9, .getfield 19, 3, 10, 1),
  (12, .getfield 160, 3, 7, 0), (15, .invokevirtual 163, 3, 50, 2), (18, .lconst 0, 1, 0, 0), (19, .lstore 4, 2, 4, 0), (21, .iconst 0, 1, 0, 0), (22, .istore 6, 2, 6, 0),
  (24, .iload 6, 2, 6, 0), (26, .aload_n 0, 1, 0, 0), (27, .getfield 59, 3, 10, 7), (30, .invokevirtual 326, 3, 51, 0), (33, .if_icmp .ge 95, 3, 128, 0), (36, .aload_n 0, 1, 0, 0),
  (37, .getfield 59, 3, 10, 7), (40, .iload 6, 2, 6, 0), (42, .invokevirtual 329, 3, 52, 1), (45, .istore 7, 2, 7, 0), (47, .aload_n 0, 1, 0, 0), (48, .getfield 59, 3, 10, 7),
  (51, .iload_n 2, 1, 2, 0), (52, .iload 7, 2, 7, 0), (54, .invokevirtual 170, 3, 53, 2), (57, .iload 7, 2, 7, 0), (59, .invokestatic 332, 3, 163, 1), (62, .istore 8, 2, 8, 0),
  (64, .iload_n 3, 1, 3, 0), (65, .iload 8, 2, 8, 0), (67, .invokestatic 280, 3, 103, 2), (70, .bipush 10, 2, 10, 0), (72, .iload_n 3, 1, 3, 0), (73, .isub, 1, 0, 0),
  (74, .aload_n 0, 1, 0, 0), (75, .getfield 59, 3, 10, 7), (78, .getfield 238, 3, 9, 12), (81, .iload 8, 2, 8, 0), (83, .isub, 1, 0, 0), (84, .invokestatic 280, 3, 103, 2),
  (87, .lmul, 1, 0, 0), (88, .lstore 9, 2, 9, 0), (90, .lload 4, 2, 4, 0), (92, .lload 9, 2, 9, 0), (94, .iload_n 1, 1, 1, 0), (95, .iconst (-1), 1, 1, 1),
  (96, .if_icmp .ne 13, 3, 109, 0), (99, .aload_n 0, 1, 0, 0), (100, .getfield 59, 3, 10, 7), (103, .invokevirtual 198, 3, 58, 0), (106, .goto 11, 3, 117, 0), (109, .aload_n 0, 1, 0, 0),
  (110, .getfield 59, 3, 10, 7), (113, .iload_n 1, 1, 1, 0), (114, .invokevirtual 337, 3, 60, 1), (117, .i2l, 1, 0, 0), (118, .lmul, 1, 0, 0), (119, .ladd, 1, 0, 0),
  (120, .lstore 4, 2, 4, 0), (122, .iinc 6 1, 3, 1, 0), (125, .goto (-101), 3, 24, 0), (128, .lload 4, 2, 4, 0), (130, .lreturn, 1, 0, 0)]
def gc_103 : List gc_O := [
  (0, .lconst 1, 1, 1, 0), (1, .lstore_n 2, 1, 2, 0), (2, .iconst 0, 1, 0, 0), (3, .istore 4, 2, 4, 0), (5, .iload 4, 2, 4, 0), (7, .iload_n 1, 1, 1, 0),
  (8, .if_icmp .ge 14, 3, 22, 0), (11, .lload_n 2, 1, 2, 0), (12, .iload_n 0, 1, 0, 0), (13, .i2l, 1, 0, 0), (14, .lmul, 1, 0, 0), (15, .lstore_n 2, 1, 2, 0),
  (16, .iinc 4 1, 3, 1, 0), (19, .goto (-14), 3, 5, 0), (22, .lload_n 2, 1, 2, 0), (23, .lreturn, 1, 0, 0)]
def gc_104 : List gc_O := [
  (0, .lload_n 0, 1, 0, 0), (1, .invokestatic 340, 3, 1005, 1), (4, .lload_n 2, 1, 2, 0), (5, .invokestatic 346, 3, 105, 2), (8, .lstore 5, 2, 5, 0), (10, .iload 4, 2, 4, 0),
  (12, .ifCond .eq 7, 3, 19, 0), (15, .lload_n 0, 1, 0, 0), (16, .goto 4, 3, 20, 0), (19, .lload_n 2, 1, 2, 0), (20, .lload 5, 2, 5, 0), (22, .ldiv, 1, 0, 0),
  (23, .lreturn, 1, 0, 0)]
def gc_105 : List gc_O := [
  (0, .iconst 0, 1, 0, 0), (1, .istore 4, 2, 4, 0), (3, .iload 4, 2, 4, 0), (5, .bipush 100, 2, 100, 0), (7, .if_icmp .ge 25, 3, 32, 0), (10, .lload_n 2, 1, 2, 0),
  (11, .lconst 0, 1, 0, 0), (12, .lcmp, 1, 0, 0), (13, .ifCond .eq 19, 3, 32, 0), (16, .lload_n 0, 1, 0, 0), (17, .lload_n 2, 1, 2, 0), (18, .lrem, 1, 0, 0),
  (19, .lstore 5, 2, 5, 0), (21, .lload_n 2, 1, 2, 0), (22, .lstore_n 0, 1, 0, 0), (23, .lload 5, 2, 5, 0), (25, .lstore_n 2, 1, 2, 0), (26, .iinc 4 1, 3, 1, 0),
  (29, .goto (-26), 3, 3, 0), (32, .lload_n 0, 1, 0, 0), (33, .lconst 1, 1, 1, 0), (34, .invokestatic 350, 3, 1004, 2), (37, .lreturn, 1, 0, 0)]
def gc_106 : List gc_O := [
  (0, .aload_n 0, 1, 0, 0), (1, .invokespecial 1, 3, 1000, 0), (4, .aload_n 0, 1, 0, 0), (5, .bipush 8, 2, 8, 0), (7, .newarray .int, 2, 12, 0), (9, .putfield 7, 3, 11, 5),
  (12, .aload_n 0, 1, 0, 0), (13, .bipush 8, 2, 8, 0), (15, .newarray .int, 2, 12, 0), (17, .putfield 13, 3, 11, 6), (20, .aload_n 0, 1, 0, 0), (21, .bipush 24, 2, 24, 0),
  (23, .newarray .int, 2, 12, 0), (25, .putfield 16, 3, 11, 7), (28, .aload_n 0, 1, 0, 0), (29, .iconst 4, 1, 4, 0), (30, .newarray .int, 2, 12, 0), (32, .putfield 19, 3, 11, 8),
  (35, .aload_n 0, 1, 0, 0), (36, .bipush 8, 2, 8, 0), (38, .newarray .int, 2, 12, 0), (40, .putfield 22, 3, 11, 9), (43, .aload_n 0, 1, 0, 0), (44, .bipush 24, 2, 24, 0),
  (46, .newarray .int, 2, 12, 0), (48, .putfield 25, 3, 11, 10), (51, .aload_n 0, 1, 0, 0), (52, .bipush 52, 2, 52, 0), (54, .newarray .int, 2, 12, 0), (56, .putfield 28, 3, 11, 13),
  (59, .aload_n 0, 1, 0, 0), (60, .bipush 48, 2, 48, 0), (62, .newarray .int, 2, 12, 0), (64, .putfield 31, 3, 11, 14), (67, .aload_n 0, 1, 0, 0), (68, .bipush 10, 2, 10, 0),
  (70, .newarray .int, 2, 12, 0), (72, .putfield 34, 3, 11, 18), (75, .aload_n 0, 1, 0, 0), (76, .sipush 182, 3, 182, 0), (79, .newarray .int, 2, 12, 0), (81, .putfield 37, 3, 11, 21),
  (84, .aload_n 0, 1, 0, 0), (85, .bipush 64, 2, 64, 0), (87, .newarray .int, 2, 12, 0), (89, .putfield 40, 3, 11, 24), (92, .aload_n 0, 1, 0, 0), (93, .bipush 6, 2, 6, 0),
  (95, .newarray .int, 2, 12, 0), (97, .putfield 43, 3, 11, 26), (100, .aload_n 0, 1, 0, 0), (101, .bipush 6, 2, 6, 0), (103, .newarray .int, 2, 12, 0), (105, .putfield 46, 3, 11, 27),
  (108, .aload_n 0, 1, 0, 0), (109, .bipush 6, 2, 6, 0), (111, .newarray .boolean, 2, 13, 0), (113, .putfield 49, 3, 11, 28), (116, .aload_n 0, 1, 0, 0), (117, .bipush 100, 2, 100, 0),
  (119, .newarray .int, 2, 12, 0), (121, .putfield 53, 3, 11, 32), (124, .aload_n 0, 1, 0, 0), (125, .bipush 100, 2, 100, 0), (127, .newarray .int, 2, 12, 0), (129, .putfield 56, 3, 11, 33),
  (132, .aload_n 0, 1, 0, 0), (133, .iconst 2, 1, 2, 0), (134, .newarray .boolean, 2, 13, 0), (136, .putfield 59, 3, 11, 35), (139, .aload_n 0, 1, 0, 0), (140, .bipush 26, 2, 26, 0),
  (142, .newarray .int, 2, 12, 0), (144, .putfield 62, 3, 11, 36), (147, .aload_n 0, 1, 0, 0), (148, .iconst 1, 1, 1, 0), (149, .putfield 65, 3, 11, 1), (152, .return_, 1, 0, 0)]
def gc_107 : List gc_O := [
  (0, .lload_n 0, 1, 0, 0), (1, .lload_n 2, 1, 2, 0), (2, .lcmp, 1, 0, 0), (3, .ifCond .lt 14, 3, 17, 0), (6, .lload_n 0, 1, 0, 0), (7, .lload 4, 2, 4, 0),
  (9, .lcmp, 1, 0, 0), (10, .ifCond .gt 7, 3, 17, 0), (13, .iconst 1, 1, 1, 0), (14, .goto 4, 3, 18, 0), (17, .iconst 0, 1, 0, 0), (18, .ireturn, 1, 0, 0)]
def gc_108 : List gc_O := [
  (0, .iload_n 0, 1, 0, 0), (1, .iload_n 1, 1, 1, 0), (2, .ishr, 1, 0, 0), (3, .iconst 1, 1, 1, 0), (4, .iand, 1, 0, 0), (5, .iconst 1, 1, 1, 0),
  (6, .if_icmp .ne 7, 3, 13, 0), (9, .iconst 1, 1, 1, 0), (10, .goto 4, 3, 14, 0), (13, .iconst 0, 1, 0, 0), (14, .ireturn, 1, 0, 0)]
def gc_109 : List gc_O := [
  (0, .iconst 0, 1, 0, 0), (1, .istore_n 1, 1, 1, 0), (2, .iconst 0, 1, 0, 0), (3, .istore_n 2, 1, 2, 0), (4, .iload_n 2, 1, 2, 0), (5, .bipush 8, 2, 8, 0),
  (7, .if_icmp .ge 17, 3, 24, 0), (10, .iload_n 1, 1, 1, 0), (11, .iload_n 0, 1, 0, 0), (12, .iload_n 2, 1, 2, 0), (13, .ishr, 1, 0, 0), (14, .iconst 1, 1, 1, 0),
  (15, .iand, 1, 0, 0), (16, .iadd, 1, 0, 0), (17, .istore_n 1, 1, 1, 0), (18, .iinc 2 1, 3, 1, 0), (21, .goto (-17), 3, 4, 0), (24, .iload_n 1, 1, 1, 0),
  (25, .ireturn, 1, 0, 0)]
def gc_110 : List gc_O := [
  (0, .iload_n 1, 1, 1, 0), (1, .i2l, 1, 0, 0), (2, .lconst 0, 1, 0, 0), (3, .ldc2_w 69, 3, 255, 0), (6, .invokestatic 71, 3, 107, 3), (9, .ifCond .ne 6, 3, 15, 0),
  (12, .bipush (-2), 2, 2, 1), (14, .ireturn, 1, 0, 0), (15, .aload_n 0, 1, 0, 0), (16, .getfield 75, 3, 11, 15), (19, .bipush 48, 2, 48, 0), (21, .if_icmp .ne 6, 3, 27, 0),
  (24, .bipush (-4), 2, 4, 1), (26, .ireturn, 1, 0, 0), (27, .aload_n 0, 1, 0, 0), (28, .getfield 31, 3, 11, 14), (31, .aload_n 0, 1, 0, 0), (32, .getfield 75, 3, 11, 15),
  (35, .iload_n 1, 1, 1, 0), (36, .iastore, 1, 0, 0), (37, .aload_n 0, 1, 0, 0), (38, .dup, 1, 0, 0), (39, .getfield 75, 3, 11, 15), (42, .iconst 1, 1, 1, 0),
  (43, .iadd, 1, 0, 0), (44, .putfield 75, 3, 11, 15), (47, .aload_n 0, 1, 0, 0), (48, .getfield 75, 3, 11, 15), (51, .ireturn, 1, 0, 0)]
def gc_111 : List gc_O := [
  (0, .aload_n 0, 1, 0, 0), (1, .getfield 75, 3, 11, 15), (4, .istore_n 1, 1, 1, 0), (5, .aload_n 0, 1, 0, 0), (6, .iconst 0, 1, 0, 0), (7, .putfield 75, 3, 11, 15),
  (10, .iload_n 1, 1, 1, 0), (11, .ireturn, 1, 0, 0)]
def gc_112 : List gc_O := [
  (0, .aload_n 0, 1, 0, 0), (1, .getfield 78, 3, 11, 17), (4, .bipush (-99), 2, 99, 1), (6, .if_icmp .ne 29, 3, 35, 0), (9, .aload_n 0, 1, 0, 0), (10, .getfield 81, 3, 11, 16),
  (13, .aload_n 0, 1, 0, 0), (14, .getfield 75, 3, 11, 15), (17, .if_icmp .ge 18, 3, 35, 0), (20, .aload_n 0, 1, 0, 0), (21, .getfield 31, 3, 11, 14), (24, .aload_n 0, 1, 0, 0),
  (25, .getfield 81, 3, 11, 16), (28, .iaload, 1, 0, 0), (29, .bipush 48, 2, 48, 0), (31, .isub, 1, 0, 0), (32, .goto 4, 3, 36, 0), (35, .iconst (-1), 1, 1, 1),
  (36, .istore_n 3, 1, 3, 0), (37, .iload_n 3, 1, 3, 0), (38, .i2l, 1, 0, 0), (39, .iload_n 1, 1, 1, 0), (40, .i2l, 1, 0, 0), (41, .iload_n 2, 1, 2, 0),
  (42, .i2l, 1, 0, 0), (43, .invokestatic 71, 3, 107, 3), (46, .ifCond .ne 29, 3, 75, 0), (49, .aload_n 0, 1, 0, 0), (50, .aload_n 0, 1, 0, 0), (51, .getfield 78, 3, 11, 17),
  (54, .bipush (-99), 2, 99, 1), (56, .if_icmp .ne 10, 3, 66, 0), (59, .aload_n 0, 1, 0, 0), (60, .getfield 81, 3, 11, 16), (63, .goto 7, 3, 70, 0), (66, .aload_n 0, 1, 0, 0),
  (67, .getfield 78, 3, 11, 17), (70, .putfield 78, 3, 11, 17), (73, .iload_n 1, 1, 1, 0), (74, .ireturn, 1, 0, 0), (75, .aload_n 0, 1, 0, 0), (76, .dup, 1, 0, 0),
  (77, .getfield 81, 3, 11, 16), (80, .iconst 1, 1, 1, 0), (81, .iadd, 1, 0, 0), (82, .putfield 81, 3, 11, 16), (85, .iload_n 3, 1, 3, 0), (86, .ireturn, 1, 0, 0)]
def gc_113 : List gc_O := [
  (0, .iload_n 0, 1, 0, 0), (1, .bipush 69, 2, 69, 0), (3, .if_icmp .eq 15, 3, 18, 0), (6, .iload_n 0, 1, 0, 0), (7, .bipush 87, 2, 87, 0), (9, .if_icmp .eq 9, 3, 18, 0),
  (12, .iload_n 0, 1, 0, 0), (13, .bipush 45, 2, 45, 0), (15, .if_icmp .ne 7, 3, 22, 0), (18, .iconst 1, 1, 1, 0), (19, .goto 4, 3, 23, 0), (22, .iconst 0, 1, 0, 0),
  (23, .ireturn, 1, 0, 0)]
def gc_114 : List gc_O := [
  (0, .aload_n 0, 1, 0, 0), (1, .iconst 0, 1, 0, 0), (2, .putfield 81, 3, 11, 16), (5, .aload_n 0, 1, 0, 0), (6, .bipush (-99), 2, 99, 1), (8, .putfield 78, 3, 11, 17),
  (11, .aload_n 0, 1, 0, 0), (12, .iconst 0, 1, 0, 0), (13, .putfield 84, 3, 11, 11), (16, .aload_n 0, 1, 0, 0), (17, .iconst 0, 1, 0, 0), (18, .putfield 87, 3, 11, 12),
  (21, .aload_n 0, 1, 0, 0), (22, .getfield 75, 3, 11, 15), (25, .ifCond .eq 14, 3, 39, 0), (28, .aload_n 0, 1, 0, 0), (29, .getfield 31, 3, 11, 14), (32, .iconst 0, 1, 0, 0),
  (33, .iaload, 1, 0, 0), (34, .bipush 83, 2, 83, 0), (36, .if_icmp .eq 5, 3, 41, 0), (39, .iconst 0, 1, 0, 0), (40, .ireturn, 1, 0, 0), (41, .aload_n 0, 1, 0, 0),
  (42, .iconst 1, 1, 1, 0), (43, .putfield 81, 3, 11, 16), (46, .aload_n 0, 1, 0, 0), (47, .getfield 19, 3, 11, 8), (50, .iconst 1, 1, 1, 0), (51, .aload_n 0, 1, 0, 0),
  (52, .iconst 0, 1, 0, 0), (53, .bipush 9, 2, 9, 0), (55, .invokevirtual 90, 3, 112, 2), (58, .iastore, 1, 0, 0), (59, .aload_n 0, 1, 0, 0), (60, .getfield 19, 3, 11, 8),
  (63, .iconst 2, 1, 2, 0), (64, .aload_n 0, 1, 0, 0), (65, .iconst 1, 1, 1, 0), (66, .bipush 9, 2, 9, 0), (68, .invokevirtual 90, 3, 112, 2), (71, .iastore, 1, 0, 0),
  (72, .aload_n 0, 1, 0, 0), (73, .getfield 19, 3, 11, 8), (76, .iconst 3, 1, 3, 0), (77, .aload_n 0, 1, 0, 0), (78, .iconst 0, 1, 0, 0), (79, .bipush 9, 2, 9, 0),
  (81, .invokevirtual 90, 3, 112, 2), (84, .iastore, 1, 0, 0), (85, .aload_n 0, 1, 0, 0), (86, .getfield 78, 3, 11, 17), (89, .bipush (-99), 2, 99, 1), (91, .if_icmp .ne 107, 3, 198, 0),
  (94, .aload_n 0, 1, 0, 0), (95, .getfield 81, 3, 11, 16), (98, .aload_n 0, 1, 0, 0), (99, .getfield 75, 3, 11, 15), (102, .if_icmp .ge 96, 3, 198, 0), (105, .aload_n 0, 1, 0, 0),
  (106, .getfield 84, 3, 11, 11), (109, .bipush 8, 2, 8, 0), (111, .if_icmp .ge 87, 3, 198, 0), (114, .aload_n 0, 1, 0, 0), (115, .getfield 31, 3, 11, 14), (118, .aload_n 0, 1, 0, 0),
  (119, .getfield 81, 3, 11, 16), (122, .iaload, 1, 0, 0), (123, .invokestatic 94, 3, 113, 1), (126, .ifCond .eq 72, 3, 198, 0), (129, .aload_n 0, 1, 0, 0), (130, .getfield 22, 3, 11, 9),
  (133, .aload_n 0, 1, 0, 0), (134, .getfield 84, 3, 11, 11), (137, .aload_n 0, 1, 0, 0), (138, .getfield 31, 3, 11, 14), (141, .aload_n 0, 1, 0, 0), (142, .getfield 81, 3, 11, 16),
  (145, .iaload, 1, 0, 0), (146, .bipush 69, 2, 69, 0), (148, .if_icmp .ne 7, 3, 155, 0), (151, .iconst 1, 1, 1, 0), (152, .goto 22, 3, 174, 0), (155, .aload_n 0, 1, 0, 0),
  (156, .getfield 31, 3, 11, 14), (159, .aload_n 0, 1, 0, 0), (160, .getfield 81, 3, 11, 16), (163, .iaload, 1, 0, 0), (164, .bipush 87, 2, 87, 0), (166, .if_icmp .ne 7, 3, 173, 0),
  (169, .iconst (-1), 1, 1, 1), (170, .goto 4, 3, 174, 0), (173, .iconst 0, 1, 0, 0), (174, .iastore, 1, 0, 0), (175, .aload_n 0, 1, 0, 0), (176, .dup, 1, 0, 0),
  (177, .getfield 84, 3, 11, 11), (180, .iconst 1, 1, 1, 0), (181, .iadd, 1, 0, 0), (182, .putfield 84, 3, 11, 11), (185, .aload_n 0, 1, 0, 0), (186, .dup, 1, 0, 0),
  (187, .getfield 81, 3, 11, 16), (190, .iconst 1, 1, 1, 0), (191, .iadd, 1, 0, 0), (192, .putfield 81, 3, 11, 16), (195, .goto (-110), 3, 85, 0), (198, .aload_n 0, 1, 0, 0),
  (199, .getfield 78, 3, 11, 17), (202, .bipush (-99), 2, 99, 1), (204, .if_icmp .ne 55, 3, 259, 0), (207, .aload_n 0, 1, 0, 0), (208, .getfield 81, 3, 11, 16), (211, .aload_n 0, 1, 0, 0),
  (212, .getfield 75, 3, 11, 15), (215, .if_icmp .ge 44, 3, 259, 0), (218, .aload_n 0, 1, 0, 0), (219, .getfield 31, 3, 11, 14), (222, .aload_n 0, 1, 0, 0), (223, .getfield 81, 3, 11, 16),
  (226, .iaload, 1, 0, 0), (227, .bipush 78, 2, 78, 0), (229, .if_icmp .ne 19, 3, 248, 0), (232, .aload_n 0, 1, 0, 0), (233, .getfield 87, 3, 11, 12), (236, .bipush 6, 2, 6, 0),
  (238, .if_icmp .ge 10, 3, 248, 0), (241, .aload_n 0, 1, 0, 0), (242, .invokevirtual 98, 3, 115, 0), (245, .goto (-47), 3, 198, 0), (248, .aload_n 0, 1, 0, 0), (249, .aload_n 0, 1, 0, 0),
  (250, .getfield 81, 3, 11, 16), (253, .putfield 78, 3, 11, 17), (256, .goto (-58), 3, 198, 0), (259, .aload_n 0, 1, 0, 0), (260, .getfield 78, 3, 11, 17), (263, .ireturn, 1, 0, 0)]
def gc_115 : List gc_O := [
  (0, .aload_n 0, 1, 0, 0), (1, .dup, 1, 0, 0), (2, .getfield 81, 3, 11, 16), (5, .iconst 1, 1, 1, 0), (6, .iadd, 1, 0, 0), (7, .putfield 81, 3, 11, 16),
  (10, .iconst 4, 1, 4, 0), (11, .aload_n 0, 1, 0, 0), (12, .getfield 87, 3, 11, 12), (15, .imul, 1, 0, 0), (16, .istore_n 1, 1, 1, 0), (17, .aload_n 0, 1, 0, 0),
  (18, .getfield 25, 3, 11, 10), (21, .iload_n 1, 1, 1, 0), (22, .aload_n 0, 1, 0, 0), (23, .iconst 0, 1, 0, 0), (24, .bipush 9, 2, 9, 0), (26, .invokevirtual 90, 3, 112, 2),
  (29, .iastore, 1, 0, 0), (30, .aload_n 0, 1, 0, 0), (31, .getfield 25, 3, 11, 10), (34, .iload_n 1, 1, 1, 0), (35, .iconst 1, 1, 1, 0), (36, .iadd, 1, 0, 0),
  (37, .aload_n 0, 1, 0, 0), (38, .iconst 1, 1, 1, 0), (39, .bipush 9, 2, 9, 0), (41, .invokevirtual 90, 3, 112, 2), (44, .iastore, 1, 0, 0), (45, .aload_n 0, 1, 0, 0),
  (46, .getfield 25, 3, 11, 10), (49, .iload_n 1, 1, 1, 0), (50, .iconst 2, 1, 2, 0), (51, .iadd, 1, 0, 0), (52, .aload_n 0, 1, 0, 0), (53, .iconst 0, 1, 0, 0),
  (54, .bipush 9, 2, 9, 0), (56, .invokevirtual 90, 3, 112, 2), (59, .iastore, 1, 0, 0), (60, .aload_n 0, 1, 0, 0), (61, .getfield 25, 3, 11, 10), (64, .iload_n 1, 1, 1, 0),
  (65, .iconst 3, 1, 3, 0), (66, .iadd, 1, 0, 0), (67, .aload_n 0, 1, 0, 0), (68, .iconst 0, 1, 0, 0), (69, .iconst 3, 1, 3, 0), (70, .invokevirtual 90, 3, 112, 2),
  (73, .iastore, 1, 0, 0), (74, .aload_n 0, 1, 0, 0), (75, .dup, 1, 0, 0), (76, .getfield 87, 3, 11, 12), (79, .iconst 1, 1, 1, 0), (80, .iadd, 1, 0, 0),
  (81, .putfield 87, 3, 11, 12), (84, .return_, 1, 0, 0)]
def gc_116 : List gc_O := [
  (0, .aload_n 0, 1, 0, 0), (1, .invokevirtual 100, 3, 114, 0), (4, .ireturn, 1, 0, 0)]
def gc_117 : List gc_O := [
  (0, .aload_n 0, 1, 0, 0), (1, .invokevirtual 100, 3, 114, 0), (4, .bipush (-99), 2, 99, 1), (6, .if_icmp .eq 6, 3, 12, 0), (9, .bipush (-3), 2, 3, 1), (11, .ireturn, 1, 0, 0),
  (12, .aload_n 0, 1, 0, 0), (13, .aload_n 0, 1, 0, 0), (14, .getfield 19, 3, 11, 8), (17, .iconst 1, 1, 1, 0), (18, .iaload, 1, 0, 0), (19, .putfield 104, 3, 11, 0),
  (22, .aload_n 0, 1, 0, 0), (23, .aload_n 0, 1, 0, 0), (24, .getfield 19, 3, 11, 8), (27, .iconst 2, 1, 2, 0), (28, .iaload, 1, 0, 0), (29, .putfield 65, 3, 11, 1),
  (32, .aload_n 0, 1, 0, 0), (33, .aload_n 0, 1, 0, 0), (34, .getfield 19, 3, 11, 8), (37, .iconst 3, 1, 3, 0), (38, .iaload, 1, 0, 0), (39, .putfield 107, 3, 11, 2),
  (42, .aload_n 0, 1, 0, 0), (43, .aload_n 0, 1, 0, 0), (44, .getfield 84, 3, 11, 11), (47, .putfield 110, 3, 11, 3), (50, .aload_n 0, 1, 0, 0), (51, .aload_n 0, 1, 0, 0),
  (52, .getfield 87, 3, 11, 12), (55, .putfield 113, 3, 11, 4), (58, .iconst 0, 1, 0, 0), (59, .istore_n 1, 1, 1, 0), (60, .iload_n 1, 1, 1, 0), (61, .bipush 8, 2, 8, 0),
  (63, .if_icmp .ge 21, 3, 84, 0), (66, .aload_n 0, 1, 0, 0), (67, .getfield 7, 3, 11, 5), (70, .iload_n 1, 1, 1, 0), (71, .aload_n 0, 1, 0, 0), (72, .getfield 22, 3, 11, 9),
  (75, .iload_n 1, 1, 1, 0), (76, .iaload, 1, 0, 0), (77, .iastore, 1, 0, 0), (78, .iinc 1 1, 3, 1, 0), (81, .goto (-21), 3, 60, 0), (84, .iconst 0, 1, 0, 0),
  (85, .istore_n 1, 1, 1, 0), (86, .iload_n 1, 1, 1, 0), (87, .bipush 24, 2, 24, 0), (89, .if_icmp .ge 21, 3, 110, 0), (92, .aload_n 0, 1, 0, 0), (93, .getfield 16, 3, 11, 7),
  (96, .iload_n 1, 1, 1, 0), (97, .aload_n 0, 1, 0, 0), (98, .getfield 25, 3, 11, 10), (101, .iload_n 1, 1, 1, 0), (102, .iaload, 1, 0, 0), (103, .iastore, 1, 0, 0),
  (104, .iinc 1 1, 3, 1, 0), (107, .goto (-21), 3, 86, 0), (110, .iconst 0, 1, 0, 0), (111, .istore_n 1, 1, 1, 0), (112, .iload_n 1, 1, 1, 0), (113, .bipush 13, 2, 13, 0),
  (115, .if_icmp .ge 16, 3, 131, 0), (118, .aload_n 0, 1, 0, 0), (119, .getfield 28, 3, 11, 13), (122, .iload_n 1, 1, 1, 0), (123, .iconst 0, 1, 0, 0), (124, .iastore, 1, 0, 0),
  (125, .iinc 1 1, 3, 1, 0), (128, .goto (-16), 3, 112, 0), (131, .aload_n 0, 1, 0, 0), (132, .iconst 0, 1, 0, 0), (133, .putfield 116, 3, 11, 19), (136, .aload_n 0, 1, 0, 0),
  (137, .getfield 59, 3, 11, 35), (140, .iconst 0, 1, 0, 0), (141, .iconst 0, 1, 0, 0), (142, .bastore, 1, 0, 0), (143, .aload_n 0, 1, 0, 0), (144, .getfield 59, 3, 11, 35),
  (147, .iconst 1, 1, 1, 0), (148, .iconst 0, 1, 0, 0), (149, .bastore, 1, 0, 0), (150, .bipush 10, 2, 10, 0), (152, .aload_n 0, 1, 0, 0), (153, .getfield 110, 3, 11, 3),
  (156, .imul, 1, 0, 0), (157, .aload_n 0, 1, 0, 0), (158, .getfield 113, 3, 11, 4), (161, .iadd, 1, 0, 0), (162, .ireturn, 1, 0, 0)]
def gc_118 : List gc_O := [
  (0, .iload_n 1, 1, 1, 0), (1, .i2l, 1, 0, 0), (2, .lconst 0, 1, 0, 0), (3, .aload_n 0, 1, 0, 0), (4, .getfield 113, 3, 11, 4), (7, .iconst 1, 1, 1, 0),
  (8, .isub, 1, 0, 0), (9, .i2l, 1, 0, 0), (10, .invokestatic 71, 3, 107, 3), (13, .ireturn, 1, 0, 0)]
def gc_119 : List gc_O := [
  (0, .iload_n 1, 1, 1, 0), (1, .i2l, 1, 0, 0), (2, .lconst 0, 1, 0, 0), (3, .ldc2_w 119, 3, 9, 0), (6, .invokestatic 71, 3, 107, 3), (9, .ifCond .eq 12, 3, 21, 0),
  (12, .aload_n 0, 1, 0, 0), (13, .getfield 28, 3, 11, 13), (16, .iload_n 1, 1, 1, 0), (17, .iaload, 1, 0, 0), (18, .goto 5, 3, 23, 0), (21, .bipush (-2), 2, 2, 1),
  (23, .ireturn, 1, 0, 0)]
def gc_120 : List gc_O := [
  (0, .iload_n 1, 1, 1, 0), (1, .i2l, 1, 0, 0), (2, .lconst 0, 1, 0, 0), (3, .aload_n 0, 1, 0, 0), (4, .getfield 110, 3, 11, 3), (7, .iconst 1, 1, 1, 0),
  (8, .isub, 1, 0, 0), (9, .i2l, 1, 0, 0), (10, .invokestatic 71, 3, 107, 3), (13, .ifCond .eq 12, 3, 25, 0), (16, .aload_n 0, 1, 0, 0), (17, .getfield 7, 3, 11, 5),
  (20, .iload_n 1, 1, 1, 0), (21, .iaload, 1, 0, 0), (22, .goto 5, 3, 27, 0), (25, .bipush (-99), 2, 99, 1), (27, .ireturn, 1, 0, 0)]
def gc_121 : List gc_O := [
  (0, .aload_n 0, 1, 0, 0), (1, .getfield 28, 3, 11, 13), (4, .bipush 13, 2, 13, 0), (6, .iload_n 1, 1, 1, 0), (7, .imul, 1, 0, 0), (8, .aload_n 0, 1, 0, 0),
  (9, .getfield 16, 3, 11, 7), (12, .iconst 4, 1, 4, 0), (13, .iload_n 2, 1, 2, 0), (14, .imul, 1, 0, 0), (15, .iaload, 1, 0, 0), (16, .iadd, 1, 0, 0),
  (17, .iaload, 1, 0, 0), (18, .aload_n 0, 1, 0, 0), (19, .getfield 16, 3, 11, 7), (22, .iconst 4, 1, 4, 0), (23, .iload_n 2, 1, 2, 0), (24, .imul, 1, 0, 0),
  (25, .iconst 1, 1, 1, 0), (26, .iadd, 1, 0, 0), (27, .iaload, 1, 0, 0), (28, .if_icmp .lt 7, 3, 35, 0), (31, .iconst 1, 1, 1, 0), (32, .goto 4, 3, 36, 0),
  (35, .iconst 0, 1, 0, 0), (36, .ireturn, 1, 0, 0)]
def gc_122 : List gc_O := [
  (0, .iconst 0, 1, 0, 0), (1, .istore_n 2, 1, 2, 0), (2, .iconst 0, 1, 0, 0), (3, .istore_n 3, 1, 3, 0), (4, .iload_n 3, 1, 3, 0), (5, .aload_n 0, 1, 0, 0),
  (6, .getfield 113, 3, 11, 4), (9, .if_icmp .ge 28, 3, 37, 0), (12, .iload_n 2, 1, 2, 0), (13, .aload_n 0, 1, 0, 0), (14, .iload_n 1, 1, 1, 0), (15, .iload_n 3, 1, 3, 0),
  (16, .invokevirtual 121, 3, 121, 2), (19, .ifCond .eq 9, 3, 28, 0), (22, .iconst 1, 1, 1, 0), (23, .iload_n 3, 1, 3, 0), (24, .ishl, 1, 0, 0), (25, .goto 4, 3, 29, 0),
  (28, .iconst 0, 1, 0, 0), (29, .ior, 1, 0, 0), (30, .istore_n 2, 1, 2, 0), (31, .iinc 3 1, 3, 1, 0), (34, .goto (-30), 3, 4, 0), (37, .iload_n 2, 1, 2, 0),
  (38, .ireturn, 1, 0, 0)]
def gc_123 : List gc_O := [
  (0, .aload_n 0, 1, 0, 0), (1, .iload_n 1, 1, 1, 0), (2, .invokevirtual 125, 3, 118, 1), (5, .ifCond .ne 5, 3, 10, 0), (8, .iconst (-1), 1, 1, 1), (9, .ireturn, 1, 0, 0),
  (10, .iload_n 2, 1, 2, 0), (11, .i2l, 1, 0, 0), (12, .lconst 0, 1, 0, 0), (13, .ldc2_w 128, 3, 3, 0), (16, .invokestatic 71, 3, 107, 3), (19, .ifCond .eq 14, 3, 33, 0),
  (22, .aload_n 0, 1, 0, 0), (23, .getfield 16, 3, 11, 7), (26, .iconst 4, 1, 4, 0), (27, .iload_n 1, 1, 1, 0), (28, .imul, 1, 0, 0), (29, .iload_n 2, 1, 2, 0),
  (30, .iadd, 1, 0, 0), (31, .iaload, 1, 0, 0), (32, .ireturn, 1, 0, 0), (33, .iload_n 2, 1, 2, 0), (34, .iconst 4, 1, 4, 0), (35, .if_icmp .ne 20, 3, 55, 0),
  (38, .aload_n 0, 1, 0, 0), (39, .iconst 0, 1, 0, 0), (40, .iload_n 1, 1, 1, 0), (41, .invokevirtual 121, 3, 121, 2), (44, .ifCond .eq 7, 3, 51, 0), (47, .iconst 1, 1, 1, 0),
  (48, .goto 9, 3, 57, 0), (51, .iconst 0, 1, 0, 0), (52, .goto 5, 3, 57, 0), (55, .bipush (-2), 2, 2, 1), (57, .ireturn, 1, 0, 0)]
def gc_124 : List gc_O := [
  (0, .aload_n 0, 1, 0, 0), (1, .getfield 28, 3, 11, 13), (4, .bipush 11, 2, 11, 0), (6, .iaload, 1, 0, 0), (7, .ireturn, 1, 0, 0)]
def gc_125 : List gc_O := [
  (0, .bipush 13, 2, 13, 0), (2, .iload_n 1, 1, 1, 0), (3, .imul, 1, 0, 0), (4, .istore 4, 2, 4, 0), (6, .iconst 0, 1, 0, 0), (7, .istore 5, 2, 5, 0),
  (9, .iload 5, 2, 5, 0), (11, .bipush 10, 2, 10, 0), (13, .if_icmp .ge 17, 3, 30, 0), (16, .aload_n 0, 1, 0, 0), (17, .getfield 34, 3, 11, 18), (20, .iload 5, 2, 5, 0),
  (22, .iconst 0, 1, 0, 0), (23, .iastore, 1, 0, 0), (24, .iinc 5 1, 3, 1, 0), (27, .goto (-18), 3, 9, 0), (30, .iconst 0, 1, 0, 0), (31, .istore 5, 2, 5, 0),
  (33, .iload 5, 2, 5, 0), (35, .bipush 10, 2, 10, 0), (37, .if_icmp .ge 60, 3, 97, 0), (40, .iload 5, 2, 5, 0), (42, .iload_n 2, 1, 2, 0), (43, .iadd, 1, 0, 0),
  (44, .istore 6, 2, 6, 0), (46, .iload 6, 2, 6, 0), (48, .i2l, 1, 0, 0), (49, .lconst 0, 1, 0, 0), (50, .ldc2_w 119, 3, 9, 0), (53, .invokestatic 71, 3, 107, 3),
  (56, .ifCond .eq 35, 3, 91, 0), (59, .aload_n 0, 1, 0, 0), (60, .getfield 28, 3, 11, 13), (63, .iload 4, 2, 4, 0), (65, .iload 5, 2, 5, 0), (67, .iadd, 1, 0, 0),
  (68, .iaload, 1, 0, 0), (69, .ifCond .le 22, 3, 91, 0), (72, .aload_n 0, 1, 0, 0), (73, .getfield 34, 3, 11, 18), (76, .iload 6, 2, 6, 0), (78, .aload_n 0, 1, 0, 0),
  (79, .getfield 28, 3, 11, 13), (82, .iload 4, 2, 4, 0), (84, .iload 5, 2, 5, 0), (86, .iadd, 1, 0, 0), (87, .iaload, 1, 0, 0), (88, .iconst 1, 1, 1, 0),
  (89, .isub, 1, 0, 0), (90, .iastore, 1, 0, 0), (91, .iinc 5 1, 3, 1, 0), (94, .goto (-61), 3, 33, 0), (97, .iconst 0, 1, 0, 0), (98, .istore 5, 2, 5, 0),
  (100, .iload 5, 2, 5, 0), (102, .bipush 10, 2, 10, 0), (104, .if_icmp .ge 67, 3, 171, 0), (107, .aload_n 0, 1, 0, 0), (108, .getfield 34, 3, 11, 18), (111, .iload 5, 2, 5, 0),
  (113, .iaload, 1, 0, 0), (114, .iload 5, 2, 5, 0), (116, .iload_n 3, 1, 3, 0), (117, .if_icmp .ne 10, 3, 127, 0), (120, .aload_n 0, 1, 0, 0), (121, .getfield 65, 3, 11, 1),
  (124, .goto 4, 3, 128, 0), (127, .iconst 0, 1, 0, 0), (128, .iadd, 1, 0, 0), (129, .istore 6, 2, 6, 0), (131, .aload_n 0, 1, 0, 0), (132, .getfield 28, 3, 11, 13),
  (135, .iload 4, 2, 4, 0), (137, .iload 5, 2, 5, 0), (139, .iadd, 1, 0, 0), (140, .aload_n 0, 1, 0, 0), (141, .getfield 28, 3, 11, 13), (144, .iload 4, 2, 4, 0),
  (146, .bipush 10, 2, 10, 0), (148, .iadd, 1, 0, 0), (149, .iaload, 1, 0, 0), (150, .iload 5, 2, 5, 0), (152, .invokestatic 130, 3, 108, 2), (155, .ifCond .eq 7, 3, 162, 0),
  (158, .iconst 0, 1, 0, 0), (159, .goto 5, 3, 164, 0), (162, .iload 6, 2, 6, 0), (164, .iastore, 1, 0, 0), (165, .iinc 5 1, 3, 1, 0), (168, .goto (-68), 3, 100, 0),
  (171, .return_, 1, 0, 0)]
def gc_126 : List gc_O := [
  (0, .aload_n 0, 1, 0, 0), (1, .getfield 16, 3, 11, 7), (4, .iconst 4, 1, 4, 0), (5, .iload_n 1, 1, 1, 0), (6, .imul, 1, 0, 0), (7, .iconst 2, 1, 2, 0),
  (8, .iadd, 1, 0, 0), (9, .iaload, 1, 0, 0), (10, .istore 4, 2, 4, 0), (12, .aload_n 0, 1, 0, 0), (13, .getfield 16, 3, 11, 7), (16, .iconst 4, 1, 4, 0),
  (17, .iload_n 1, 1, 1, 0), (18, .imul, 1, 0, 0), (19, .iconst 3, 1, 3, 0), (20, .iadd, 1, 0, 0), (21, .iaload, 1, 0, 0), (22, .tableswitch 65 0 2 #[26, 37, 49], 26, 0, 0),
  (48, .iload_n 2, 1, 2, 0), (49, .ifCond .eq 8, 3, 57, 0), (52, .iload 4, 2, 4, 0), (54, .goto 4, 3, 58, 0), (57, .iconst 0, 1, 0, 0), (58, .ireturn, 1, 0, 0),
  (59, .iload_n 2, 1, 2, 0), (60, .ifCond .eq 7, 3, 67, 0), (63, .iconst 0, 1, 0, 0), (64, .goto 6, 3, 70, 0), (67, .iload 4, 2, 4, 0), (69, .ineg, 1, 0, 0),
  (70, .ireturn, 1, 0, 0), (71, .iload_n 2, 1, 2, 0), (72, .ifCond .eq 13, 3, 85, 0), (75, .iload_n 3, 1, 3, 0), (76, .iconst 1, 1, 1, 0), (77, .if_icmp .ne 8, 3, 85, 0),
  (80, .iload 4, 2, 4, 0), (82, .goto 4, 3, 86, 0), (85, .iconst 0, 1, 0, 0), (86, .ireturn, 1, 0, 0), (87, .iload_n 2, 1, 2, 0), (88, .ifCond .eq 9, 3, 97, 0),
  (91, .iload 4, 2, 4, 0), (93, .ineg, 1, 0, 0), (94, .goto 4, 3, 98, 0), (97, .iconst 0, 1, 0, 0), (98, .ireturn, 1, 0, 0)]
def gc_127 : List gc_O := [
  (0, .bipush 13, 2, 13, 0), (2, .iload_n 1, 1, 1, 0), (3, .imul, 1, 0, 0), (4, .istore 4, 2, 4, 0), (6, .aload_n 0, 1, 0, 0), (7, .getfield 13, 3, 11, 6),
  (10, .aload_n 0, 1, 0, 0), (11, .getfield 28, 3, 11, 13), (14, .iload 4, 2, 4, 0), (16, .bipush 12, 2, 12, 0), (18, .iadd, 1, 0, 0), (19, .iaload, 1, 0, 0),
  (20, .iaload, 1, 0, 0), (21, .istore 5, 2, 5, 0), (23, .aload_n 0, 1, 0, 0), (24, .iload_n 1, 1, 1, 0), (25, .iload 5, 2, 5, 0), (27, .iload_n 2, 1, 2, 0),
  (28, .ifCond .eq 10, 3, 38, 0), (31, .aload_n 0, 1, 0, 0), (32, .getfield 104, 3, 11, 0), (35, .goto 5, 3, 40, 0), (38, .bipush (-99), 2, 99, 1), (40, .invokevirtual 133, 3, 125, 3),
  (43, .iload_n 2, 1, 2, 0), (44, .ifCond .eq 11, 3, 55, 0), (47, .aload_n 0, 1, 0, 0), (48, .getfield 107, 3, 11, 2), (51, .ineg, 1, 0, 0), (52, .goto 4, 3, 56, 0),
  (55, .iconst 0, 1, 0, 0), (56, .istore 6, 2, 6, 0), (58, .iconst 0, 1, 0, 0), (59, .istore 7, 2, 7, 0), (61, .iload 7, 2, 7, 0), (63, .aload_n 0, 1, 0, 0),
  (64, .getfield 113, 3, 11, 4), (67, .if_icmp .ge 42, 3, 109, 0), (70, .iload 6, 2, 6, 0), (72, .iload_n 3, 1, 3, 0), (73, .iload 7, 2, 7, 0), (75, .invokestatic 130, 3, 108, 2),
  (78, .ifCond .eq 21, 3, 99, 0), (81, .aload_n 0, 1, 0, 0), (82, .iload 7, 2, 7, 0), (84, .aload_n 0, 1, 0, 0), (85, .iload_n 1, 1, 1, 0), (86, .iload 7, 2, 7, 0),
  (88, .invokevirtual 121, 3, 121, 2), (91, .iload 5, 2, 5, 0), (93, .invokevirtual 137, 3, 126, 3), (96, .goto 4, 3, 100, 0), (99, .iconst 0, 1, 0, 0), (100, .iadd, 1, 0, 0),
  (101, .istore 6, 2, 6, 0), (103, .iinc 7 1, 3, 1, 0), (106, .goto (-45), 3, 61, 0), (109, .aload_n 0, 1, 0, 0), (110, .getfield 28, 3, 11, 13), (113, .iload 4, 2, 4, 0),
  (115, .bipush 12, 2, 12, 0), (117, .iadd, 1, 0, 0), (118, .dup2, 1, 0, 0), (119, .iaload, 1, 0, 0), (120, .iconst 1, 1, 1, 0), (121, .iadd, 1, 0, 0),
  (122, .iastore, 1, 0, 0), (123, .aload_n 0, 1, 0, 0), (124, .getfield 28, 3, 11, 13), (127, .iload 4, 2, 4, 0), (129, .bipush 11, 2, 11, 0), (131, .iadd, 1, 0, 0),
  (132, .dup2, 1, 0, 0), (133, .iaload, 1, 0, 0), (134, .iload 6, 2, 6, 0), (136, .iadd, 1, 0, 0), (137, .iastore, 1, 0, 0), (138, .iload 6, 2, 6, 0),
  (140, .ireturn, 1, 0, 0)]
def gc_128 : List gc_O := [
  (0, .iconst 0, 1, 0, 0), (1, .istore_n 1, 1, 1, 0), (2, .iload_n 1, 1, 1, 0), (3, .bipush 8, 2, 8, 0), (5, .if_icmp .ge 21, 3, 26, 0), (8, .aload_n 0, 1, 0, 0),
  (9, .getfield 13, 3, 11, 6), (12, .iload_n 1, 1, 1, 0), (13, .aload_n 0, 1, 0, 0), (14, .getfield 7, 3, 11, 5), (17, .iload_n 1, 1, 1, 0), (18, .iaload, 1, 0, 0),
  (19, .iastore, 1, 0, 0), (20, .iinc 1 1, 3, 1, 0), (23, .goto (-21), 3, 2, 0), (26, .return_, 1, 0, 0)]
def gc_129 : List gc_O := [
  (0, .iconst 0, 1, 0, 0), (1, .istore_n 3, 1, 3, 0), (2, .iload_n 3, 1, 3, 0), (3, .bipush 13, 2, 13, 0), (5, .if_icmp .ge 31, 3, 36, 0), (8, .aload_n 0, 1, 0, 0),
  (9, .getfield 28, 3, 11, 13), (12, .bipush 13, 2, 13, 0), (14, .iload_n 2, 1, 2, 0), (15, .imul, 1, 0, 0), (16, .iload_n 3, 1, 3, 0), (17, .iadd, 1, 0, 0),
  (18, .aload_n 0, 1, 0, 0), (19, .getfield 28, 3, 11, 13), (22, .bipush 13, 2, 13, 0), (24, .iload_n 1, 1, 1, 0), (25, .imul, 1, 0, 0), (26, .iload_n 3, 1, 3, 0),
  (27, .iadd, 1, 0, 0), (28, .iaload, 1, 0, 0), (29, .iastore, 1, 0, 0), (30, .iinc 3 1, 3, 1, 0), (33, .goto (-31), 3, 2, 0), (36, .return_, 1, 0, 0)]
def gc_130 : List gc_O := [
  (0, .iconst 0, 1, 0, 0), (1, .istore_n 1, 1, 1, 0), (2, .iload_n 1, 1, 1, 0), (3, .bipush 13, 2, 13, 0), (5, .if_icmp .ge 29, 3, 34, 0), (8, .aload_n 0, 1, 0, 0),
  (9, .getfield 37, 3, 11, 21), (12, .bipush 13, 2, 13, 0), (14, .aload_n 0, 1, 0, 0), (15, .getfield 141, 3, 11, 20), (18, .imul, 1, 0, 0), (19, .iload_n 1, 1, 1, 0),
  (20, .iadd, 1, 0, 0), (21, .aload_n 0, 1, 0, 0), (22, .getfield 28, 3, 11, 13), (25, .iload_n 1, 1, 1, 0), (26, .iaload, 1, 0, 0), (27, .iastore, 1, 0, 0),
  (28, .iinc 1 1, 3, 1, 0), (31, .goto (-29), 3, 2, 0), (34, .aload_n 0, 1, 0, 0), (35, .aload_n 0, 1, 0, 0), (36, .getfield 141, 3, 11, 20), (39, .iconst 1, 1, 1, 0),
  (40, .iadd, 1, 0, 0), (41, .bipush 14, 2, 14, 0), (43, .irem, 1, 0, 0), (44, .putfield 141, 3, 11, 20), (47, .aload_n 0, 1, 0, 0), (48, .aload_n 0, 1, 0, 0),
  (49, .getfield 116, 3, 11, 19), (52, .bipush 14, 2, 14, 0), (54, .if_icmp .ge 12, 3, 66, 0), (57, .aload_n 0, 1, 0, 0), (58, .getfield 116, 3, 11, 19), (61, .iconst 1, 1, 1, 0),
  (62, .iadd, 1, 0, 0), (63, .goto 5, 3, 68, 0), (66, .bipush 14, 2, 14, 0), (68, .putfield 116, 3, 11, 19), (71, .return_, 1, 0, 0)]
def gc_131 : List gc_O := [
  (0, .aload_n 0, 1, 0, 0), (1, .getfield 28, 3, 11, 13), (4, .bipush 12, 2, 12, 0), (6, .iaload, 1, 0, 0), (7, .aload_n 0, 1, 0, 0), (8, .getfield 110, 3, 11, 3),
  (11, .if_icmp .ne 6, 3, 17, 0), (14, .bipush (-3), 2, 3, 1), (16, .ireturn, 1, 0, 0), (17, .aload_n 0, 1, 0, 0), (18, .invokevirtual 144, 3, 130, 0), (21, .aload_n 0, 1, 0, 0),
  (22, .invokevirtual 147, 3, 128, 0), (25, .aload_n 0, 1, 0, 0), (26, .iconst 0, 1, 0, 0), (27, .iload_n 1, 1, 1, 0), (28, .bipush 63, 2, 63, 0), (30, .invokevirtual 150, 3, 127, 3),
  (33, .pop, 1, 0, 0), (34, .aload_n 0, 1, 0, 0), (35, .iconst 0, 1, 0, 0), (36, .invokevirtual 153, 3, 122, 1), (39, .ireturn, 1, 0, 0)]
def gc_132 : List gc_O := [
  (0, .iload_n 1, 1, 1, 0), (1, .i2l, 1, 0, 0), (2, .lconst 0, 1, 0, 0), (3, .ldc2_w 119, 3, 9, 0), (6, .invokestatic 71, 3, 107, 3), (9, .ifCond .ne 6, 3, 15, 0),
  (12, .bipush (-2), 2, 2, 1), (14, .ireturn, 1, 0, 0), (15, .aload_n 0, 1, 0, 0), (16, .getfield 28, 3, 11, 13), (19, .bipush 12, 2, 12, 0), (21, .iaload, 1, 0, 0),
  (22, .aload_n 0, 1, 0, 0), (23, .getfield 110, 3, 11, 3), (26, .if_icmp .ne 6, 3, 32, 0), (29, .bipush (-3), 2, 3, 1), (31, .ireturn, 1, 0, 0), (32, .aload_n 0, 1, 0, 0),
  (33, .invokevirtual 144, 3, 130, 0), (36, .aload_n 0, 1, 0, 0), (37, .getfield 28, 3, 11, 13), (40, .bipush 10, 2, 10, 0), (42, .dup2, 1, 0, 0), (43, .iaload, 1, 0, 0),
  (44, .iconst 1, 1, 1, 0), (45, .iload_n 1, 1, 1, 0), (46, .ishl, 1, 0, 0), (47, .ixor, 1, 0, 0), (48, .iastore, 1, 0, 0), (49, .aload_n 0, 1, 0, 0),
  (50, .getfield 28, 3, 11, 13), (53, .bipush 10, 2, 10, 0), (55, .iaload, 1, 0, 0), (56, .iload_n 1, 1, 1, 0), (57, .ishr, 1, 0, 0), (58, .iconst 1, 1, 1, 0),
  (59, .iand, 1, 0, 0), (60, .ireturn, 1, 0, 0)]
def gc_133 : List gc_O := [
  (0, .aload_n 0, 1, 0, 0), (1, .getfield 116, 3, 11, 19), (4, .ifCond .ne 6, 3, 10, 0), (7, .bipush (-3), 2, 3, 1), (9, .ireturn, 1, 0, 0), (10, .aload_n 0, 1, 0, 0),
  (11, .dup, 1, 0, 0), (12, .getfield 116, 3, 11, 19), (15, .iconst 1, 1, 1, 0), (16, .isub, 1, 0, 0), (17, .putfield 116, 3, 11, 19), (20, .aload_n 0, 1, 0, 0),
  (21, .aload_n 0, 1, 0, 0), (22, .getfield 141, 3, 11, 20), (25, .bipush 13, 2, 13, 0), (27, .iadd, 1, 0, 0), (28, .bipush 14, 2, 14, 0), (30, .irem, 1, 0, 0),
  (31, .putfield 141, 3, 11, 20), (34, .iconst 0, 1, 0, 0), (35, .istore_n 1, 1, 1, 0), (36, .iload_n 1, 1, 1, 0), (37, .bipush 13, 2, 13, 0), (39, .if_icmp .ge 29, 3, 68, 0),
  (42, .aload_n 0, 1, 0, 0), (43, .getfield 28, 3, 11, 13), (46, .iload_n 1, 1, 1, 0), (47, .aload_n 0, 1, 0, 0), (48, .getfield 37, 3, 11, 21), (51, .bipush 13, 2, 13, 0),
  (53, .aload_n 0, 1, 0, 0), (54, .getfield 141, 3, 11, 20), (57, .imul, 1, 0, 0), (58, .iload_n 1, 1, 1, 0), (59, .iadd, 1, 0, 0), (60, .iaload, 1, 0, 0),
  (61, .iastore, 1, 0, 0), (62, .iinc 1 1, 3, 1, 0), (65, .goto (-29), 3, 36, 0), (68, .aload_n 0, 1, 0, 0), (69, .getfield 116, 3, 11, 19), (72, .ireturn, 1, 0, 0)]
def gc_134 : List gc_O := [
  (0, .aload_n 0, 1, 0, 0), (1, .iconst 0, 1, 0, 0), (2, .iconst 1, 1, 1, 0), (3, .invokevirtual 157, 3, 129, 2), (6, .aload_n 0, 1, 0, 0), (7, .iconst 0, 1, 0, 0),
  (8, .putfield 161, 3, 11, 22), (11, .iconst 0, 1, 0, 0), (12, .istore_n 3, 1, 3, 0), (13, .aload_n 0, 1, 0, 0), (14, .getfield 28, 3, 11, 13), (17, .bipush 25, 2, 25, 0),
  (19, .iaload, 1, 0, 0), (20, .aload_n 0, 1, 0, 0), (21, .getfield 110, 3, 11, 3), (24, .if_icmp .ge 40, 3, 64, 0), (27, .iload_n 3, 1, 3, 0), (28, .aload_n 0, 1, 0, 0),
  (29, .iconst 1, 1, 1, 0), (30, .iload_n 1, 1, 1, 0), (31, .aload_n 0, 1, 0, 0), (32, .getfield 28, 3, 11, 13), (35, .bipush 25, 2, 25, 0), (37, .iaload, 1, 0, 0),
  (38, .invokestatic 130, 3, 108, 2), (41, .iload_n 2, 1, 2, 0), (42, .invokevirtual 150, 3, 127, 3), (45, .iadd, 1, 0, 0), (46, .istore_n 3, 1, 3, 0), (47, .aload_n 0, 1, 0, 0),
  (48, .dup, 1, 0, 0), (49, .getfield 161, 3, 11, 22), (52, .aload_n 0, 1, 0, 0), (53, .iconst 1, 1, 1, 0), (54, .invokevirtual 153, 3, 122, 1), (57, .ior, 1, 0, 0),
  (58, .putfield 161, 3, 11, 22), (61, .goto (-48), 3, 13, 0), (64, .iload_n 3, 1, 3, 0), (65, .ireturn, 1, 0, 0)]
def gc_135 : List gc_O := [
  (0, .iconst 1, 1, 1, 0), (1, .aload_n 0, 1, 0, 0), (2, .getfield 110, 3, 11, 3), (5, .ishl, 1, 0, 0), (6, .iconst 1, 1, 1, 0), (7, .isub, 1, 0, 0),
  (8, .iconst 1, 1, 1, 0), (9, .aload_n 0, 1, 0, 0), (10, .getfield 28, 3, 11, 13), (13, .bipush 12, 2, 12, 0), (15, .iaload, 1, 0, 0), (16, .ishl, 1, 0, 0),
  (17, .iconst 1, 1, 1, 0), (18, .isub, 1, 0, 0), (19, .iconst (-1), 1, 1, 1), (20, .ixor, 1, 0, 0), (21, .iand, 1, 0, 0), (22, .ireturn, 1, 0, 0)]
def gc_136 : List gc_O := [
  (0, .iload_n 1, 1, 1, 0), (1, .i2l, 1, 0, 0), (2, .lconst 0, 1, 0, 0), (3, .ldc2_w 69, 3, 255, 0), (6, .invokestatic 71, 3, 107, 3), (9, .ifCond .ne 6, 3, 15, 0),
  (12, .ldc 164, 2, 1000002, 1), (14, .ireturn, 1, 0, 0), (15, .aload_n 0, 1, 0, 0), (16, .invokevirtual 147, 3, 128, 0), (19, .aload_n 0, 1, 0, 0), (20, .iload_n 1, 1, 1, 0),
  (21, .bipush 63, 2, 63, 0), (23, .invokevirtual 165, 3, 134, 2), (26, .ireturn, 1, 0, 0)]
def gc_137 : List gc_O := [
  (0, .aload_n 0, 1, 0, 0), (1, .invokevirtual 147, 3, 128, 0), (4, .aload_n 0, 1, 0, 0), (5, .iconst 0, 1, 0, 0), (6, .putfield 168, 3, 11, 23), (9, .aload_n 0, 1, 0, 0),
  (10, .iconst 0, 1, 0, 0), (11, .iload_n 1, 1, 1, 0), (12, .invokevirtual 165, 3, 134, 2), (15, .istore_n 2, 1, 2, 0), (16, .iconst 1, 1, 1, 0), (17, .istore_n 3, 1, 3, 0),
  (18, .iload_n 3, 1, 3, 0), (19, .iconst 1, 1, 1, 0), (20, .aload_n 0, 1, 0, 0), (21, .getfield 110, 3, 11, 3), (24, .ishl, 1, 0, 0), (25, .if_icmp .ge 90, 3, 115, 0),
  (28, .iload_n 3, 1, 3, 0), (29, .aload_n 0, 1, 0, 0), (30, .invokevirtual 171, 3, 135, 0), (33, .iconst (-1), 1, 1, 1), (34, .ixor, 1, 0, 0), (35, .iand, 1, 0, 0),
  (36, .ifCond .ne 73, 3, 109, 0), (39, .aload_n 0, 1, 0, 0), (40, .iload_n 3, 1, 3, 0), (41, .iload_n 1, 1, 1, 0), (42, .invokevirtual 165, 3, 134, 2), (45, .istore 4, 2, 4, 0),
  (47, .iload 4, 2, 4, 0), (49, .iload_n 2, 1, 2, 0), (50, .if_icmp .gt 23, 3, 73, 0), (53, .iload 4, 2, 4, 0), (55, .iload_n 2, 1, 2, 0), (56, .if_icmp .ne 21, 3, 77, 0),
  (59, .iload_n 3, 1, 3, 0), (60, .invokestatic 174, 3, 109, 1), (63, .aload_n 0, 1, 0, 0), (64, .getfield 168, 3, 11, 23), (67, .invokestatic 174, 3, 109, 1), (70, .if_icmp .ge 7, 3, 77, 0),
  (73, .iconst 1, 1, 1, 0), (74, .goto 4, 3, 78, 0), (77, .iconst 0, 1, 0, 0), (78, .istore 5, 2, 5, 0), (80, .aload_n 0, 1, 0, 0), (81, .iload 5, 2, 5, 0),
  (83, .ifCond .eq 7, 3, 90, 0), (86, .iload_n 3, 1, 3, 0), (87, .goto 7, 3, 94, 0), (90, .aload_n 0, 1, 0, 0), (91, .getfield 168, 3, 11, 23), (94, .putfield 168, 3, 11, 23),
  (97, .iload 5, 2, 5, 0), (99, .ifCond .eq 8, 3, 107, 0), (102, .iload 4, 2, 4, 0), (104, .goto 4, 3, 108, 0), (107, .iload_n 2, 1, 2, 0), (108, .istore_n 2, 1, 2, 0),
  (109, .iinc 3 1, 3, 1, 0), (112, .goto (-94), 3, 18, 0), (115, .iload_n 2, 1, 2, 0), (116, .ireturn, 1, 0, 0)]
def gc_138 : List gc_O := [
  (0, .aload_n 0, 1, 0, 0), (1, .bipush 63, 2, 63, 0), (3, .invokevirtual 177, 3, 137, 1), (6, .istore_n 2, 1, 2, 0), (7, .iload_n 1, 1, 1, 0), (8, .ifCond .eq 7, 3, 15, 0),
  (11, .iload_n 2, 1, 2, 0), (12, .goto 7, 3, 19, 0), (15, .aload_n 0, 1, 0, 0), (16, .getfield 168, 3, 11, 23), (19, .ireturn, 1, 0, 0)]
def gc_139 : List gc_O := [
  (0, .aload_n 0, 1, 0, 0), (1, .getfield 28, 3, 11, 13), (4, .bipush 12, 2, 12, 0), (6, .iaload, 1, 0, 0), (7, .aload_n 0, 1, 0, 0), (8, .getfield 110, 3, 11, 3),
  (11, .if_icmp .ne 6, 3, 17, 0), (14, .bipush (-99), 2, 99, 1), (16, .ireturn, 1, 0, 0), (17, .aload_n 0, 1, 0, 0), (18, .bipush 63, 2, 63, 0), (20, .invokevirtual 177, 3, 137, 1),
  (23, .istore_n 1, 1, 1, 0), (24, .bipush (-99), 2, 99, 1), (26, .istore_n 2, 1, 2, 0), (27, .iconst 0, 1, 0, 0), (28, .istore_n 3, 1, 3, 0), (29, .iload_n 3, 1, 3, 0),
  (30, .bipush 10, 2, 10, 0), (32, .if_icmp .ge 68, 3, 100, 0), (35, .aload_n 0, 1, 0, 0), (36, .getfield 28, 3, 11, 13), (39, .bipush 10, 2, 10, 0), (41, .dup2, 1, 0, 0),
  (42, .iaload, 1, 0, 0), (43, .iconst 1, 1, 1, 0), (44, .iload_n 3, 1, 3, 0), (45, .ishl, 1, 0, 0), (46, .ixor, 1, 0, 0), (47, .iastore, 1, 0, 0),
  (48, .aload_n 0, 1, 0, 0), (49, .bipush 63, 2, 63, 0), (51, .invokevirtual 177, 3, 137, 1), (54, .istore 4, 2, 4, 0), (56, .aload_n 0, 1, 0, 0), (57, .getfield 28, 3, 11, 13),
  (60, .bipush 10, 2, 10, 0), (62, .dup2, 1, 0, 0), (63, .iaload, 1, 0, 0), (64, .iconst 1, 1, 1, 0), (65, .iload_n 3, 1, 3, 0), (66, .ishl, 1, 0, 0),
  (67, .ixor, 1, 0, 0), (68, .iastore, 1, 0, 0), (69, .iload 4, 2, 4, 0), (71, .iload_n 1, 1, 1, 0), (72, .if_icmp .le 7, 3, 79, 0), (75, .iload_n 3, 1, 3, 0),
  (76, .goto 4, 3, 80, 0), (79, .iload_n 2, 1, 2, 0), (80, .istore_n 2, 1, 2, 0), (81, .iload 4, 2, 4, 0), (83, .iload_n 1, 1, 1, 0), (84, .if_icmp .le 8, 3, 92, 0),
  (87, .iload 4, 2, 4, 0), (89, .goto 4, 3, 93, 0), (92, .iload_n 1, 1, 1, 0), (93, .istore_n 1, 1, 1, 0), (94, .iinc 3 1, 3, 1, 0), (97, .goto (-68), 3, 29, 0),
  (100, .iload_n 2, 1, 2, 0), (101, .ireturn, 1, 0, 0)]
def gc_140 : List gc_O := [
  (0, .iconst 1, 1, 1, 0), (1, .istore_n 1, 1, 1, 0), (2, .iconst 2, 1, 2, 0), (3, .istore_n 2, 1, 2, 0), (4, .iload_n 2, 1, 2, 0), (5, .iload_n 0, 1, 0, 0),
  (6, .if_icmp .gt 13, 3, 19, 0), (9, .iload_n 1, 1, 1, 0), (10, .iload_n 2, 1, 2, 0), (11, .imul, 1, 0, 0), (12, .istore_n 1, 1, 1, 0), (13, .iinc 2 1, 3, 1, 0),
  (16, .goto (-12), 3, 4, 0), (19, .iload_n 1, 1, 1, 0), (20, .ireturn, 1, 0, 0)]
def gc_141 : List gc_O := [
  (0, .lload_n 0, 1, 0, 0), (1, .lconst 0, 1, 0, 0), (2, .lcmp, 1, 0, 0), (3, .ifCond .ge 8, 3, 11, 0), (6, .lload_n 0, 1, 0, 0), (7, .lneg, 1, 0, 0),
  (8, .goto 4, 3, 12, 0), (11, .lload_n 0, 1, 0, 0), (12, .lstore 4, 2, 4, 0), (14, .lload_n 2, 1, 2, 0), (15, .lstore 6, 2, 6, 0), (17, .lload 6, 2, 6, 0),
  (19, .lconst 0, 1, 0, 0), (20, .lcmp, 1, 0, 0), (21, .ifCond .eq 21, 3, 42, 0), (24, .lload 4, 2, 4, 0), (26, .lload 6, 2, 6, 0), (28, .lrem, 1, 0, 0),
  (29, .lstore 8, 2, 8, 0), (31, .lload 6, 2, 6, 0), (33, .lstore 4, 2, 4, 0), (35, .lload 8, 2, 8, 0), (37, .lstore 6, 2, 6, 0), (39, .goto (-22), 3, 17, 0),
  (42, .lload 4, 2, 4, 0), (44, .lreturn, 1, 0, 0)]
def gc_142 : List gc_O := [
  (0, .aload_n 0, 1, 0, 0), (1, .iload_n 1, 1, 1, 0), (2, .invokevirtual 125, 3, 118, 1), (5, .ifCond .ne 6, 3, 11, 0), (8, .ldc 180, 2, 1000001, 1), (10, .ireturn, 1, 0, 0),
  (11, .iconst 0, 1, 0, 0), (12, .istore_n 3, 1, 3, 0), (13, .iload_n 3, 1, 3, 0), (14, .iconst 1, 1, 1, 0), (15, .aload_n 0, 1, 0, 0), (16, .getfield 113, 3, 11, 4),
  (19, .ishl, 1, 0, 0), (20, .if_icmp .ge 20, 3, 40, 0), (23, .aload_n 0, 1, 0, 0), (24, .getfield 40, 3, 11, 24), (27, .iload_n 3, 1, 3, 0), (28, .aload_n 0, 1, 0, 0),
  (29, .iload_n 3, 1, 3, 0), (30, .invokevirtual 177, 3, 137, 1), (33, .iastore, 1, 0, 0), (34, .iinc 3 1, 3, 1, 0), (37, .goto (-24), 3, 13, 0), (40, .lconst 0, 1, 0, 0),
  (41, .lstore_n 3, 1, 3, 0), (42, .iconst 0, 1, 0, 0), (43, .istore 5, 2, 5, 0), (45, .iload 5, 2, 5, 0), (47, .iconst 1, 1, 1, 0), (48, .aload_n 0, 1, 0, 0),
  (49, .getfield 113, 3, 11, 4), (52, .ishl, 1, 0, 0), (53, .if_icmp .ge 70, 3, 123, 0), (56, .iload 5, 2, 5, 0), (58, .iload_n 1, 1, 1, 0), (59, .invokestatic 130, 3, 108, 2),
  (62, .ifCond .ne 55, 3, 117, 0), (65, .iload 5, 2, 5, 0), (67, .invokestatic 174, 3, 109, 1), (70, .invokestatic 181, 3, 140, 1), (73, .aload_n 0, 1, 0, 0), (74, .getfield 113, 3, 11, 4),
  (77, .iconst 1, 1, 1, 0), (78, .isub, 1, 0, 0), (79, .iload 5, 2, 5, 0), (81, .invokestatic 174, 3, 109, 1), (84, .isub, 1, 0, 0), (85, .invokestatic 181, 3, 140, 1),
  (88, .imul, 1, 0, 0), (89, .istore 6, 2, 6, 0), (91, .lload_n 3, 1, 3, 0), (92, .iload 6, 2, 6, 0), (94, .aload_n 0, 1, 0, 0), (95, .getfield 40, 3, 11, 24),
  (98, .iload 5, 2, 5, 0), (100, .iconst 1, 1, 1, 0), (101, .iload_n 1, 1, 1, 0), (102, .ishl, 1, 0, 0), (103, .ior, 1, 0, 0), (104, .iaload, 1, 0, 0),
  (105, .aload_n 0, 1, 0, 0), (106, .getfield 40, 3, 11, 24), (109, .iload 5, 2, 5, 0), (111, .iaload, 1, 0, 0), (112, .isub, 1, 0, 0), (113, .imul, 1, 0, 0),
  (114, .i2l, 1, 0, 0), (115, .ladd, 1, 0, 0), (116, .lstore_n 3, 1, 3, 0), (117, .iinc 5 1, 3, 1, 0), (120, .goto (-75), 3, 45, 0), (123, .lload_n 3, 1, 3, 0),
  (124, .aload_n 0, 1, 0, 0), (125, .getfield 113, 3, 11, 4), (128, .invokestatic 181, 3, 140, 1), (131, .i2l, 1, 0, 0), (132, .invokestatic 184, 3, 141, 2), (135, .lstore 5, 2, 5, 0),
  (137, .iload_n 2, 1, 2, 0), (138, .ifCond .eq 10, 3, 148, 0), (141, .lload_n 3, 1, 3, 0), (142, .lload 5, 2, 5, 0), (144, .ldiv, 1, 0, 0), (145, .goto 14, 3, 159, 0),
  (148, .aload_n 0, 1, 0, 0), (149, .getfield 113, 3, 11, 4), (152, .invokestatic 181, 3, 140, 1), (155, .i2l, 1, 0, 0), (156, .lload 5, 2, 5, 0), (158, .ldiv, 1, 0, 0),
  (159, .l2i, 1, 0, 0), (160, .ireturn, 1, 0, 0)]
def gc_143 : List gc_O := [
  (0, .iconst 1, 1, 1, 0), (1, .istore_n 1, 1, 1, 0), (2, .iconst 0, 1, 0, 0), (3, .istore_n 2, 1, 2, 0), (4, .iload_n 2, 1, 2, 0), (5, .iload_n 0, 1, 0, 0),
  (6, .if_icmp .ge 14, 3, 20, 0), (9, .iload_n 1, 1, 1, 0), (10, .bipush 10, 2, 10, 0), (12, .imul, 1, 0, 0), (13, .istore_n 1, 1, 1, 0), (14, .iinc 2 1, 3, 1, 0),
  (17, .goto (-13), 3, 4, 0), (20, .iload_n 1, 1, 1, 0), (21, .ireturn, 1, 0, 0)]
def gc_144 : List gc_O := [
  (0, .iload_n 1, 1, 1, 0), (1, .i2l, 1, 0, 0), (2, .lconst 1, 1, 1, 0), (3, .ldc2_w 188, 3, 8, 0), (6, .invokestatic 71, 3, 107, 3), (9, .ifCond .eq 19, 3, 28, 0),
  (12, .iload_n 2, 1, 2, 0), (13, .i2l, 1, 0, 0), (14, .lconst 0, 1, 0, 0), (15, .iload_n 1, 1, 1, 0), (16, .invokestatic 190, 3, 143, 1), (19, .iconst 1, 1, 1, 0),
  (20, .isub, 1, 0, 0), (21, .i2l, 1, 0, 0), (22, .invokestatic 71, 3, 107, 3), (25, .ifCond .ne 6, 3, 31, 0), (28, .bipush (-2), 2, 2, 1), (30, .ireturn, 1, 0, 0),
  (31, .aload_n 0, 1, 0, 0), (32, .invokevirtual 147, 3, 128, 0), (35, .aload_n 0, 1, 0, 0), (36, .iconst 0, 1, 0, 0), (37, .iconst 1, 1, 1, 0), (38, .invokevirtual 157, 3, 129, 2),
  (41, .iconst 0, 1, 0, 0), (42, .istore_n 3, 1, 3, 0), (43, .iload_n 3, 1, 3, 0), (44, .iload_n 1, 1, 1, 0), (45, .if_icmp .ge 67, 3, 112, 0), (48, .iload_n 2, 1, 2, 0),
  (49, .iload_n 1, 1, 1, 0), (50, .iconst 1, 1, 1, 0), (51, .isub, 1, 0, 0), (52, .iload_n 3, 1, 3, 0), (53, .isub, 1, 0, 0), (54, .invokestatic 190, 3, 143, 1),
  (57, .idiv, 1, 0, 0), (58, .bipush 10, 2, 10, 0), (60, .irem, 1, 0, 0), (61, .istore 4, 2, 4, 0), (63, .iload 4, 2, 4, 0), (65, .iconst 1, 1, 1, 0),
  (66, .if_icmp .gt 38, 3, 104, 0), (69, .aload_n 0, 1, 0, 0), (70, .getfield 28, 3, 11, 13), (73, .bipush 25, 2, 25, 0), (75, .iaload, 1, 0, 0), (76, .aload_n 0, 1, 0, 0),
  (77, .getfield 110, 3, 11, 3), (80, .if_icmp .eq 24, 3, 104, 0), (83, .aload_n 0, 1, 0, 0), (84, .iconst 1, 1, 1, 0), (85, .iload 4, 2, 4, 0), (87, .iconst 1, 1, 1, 0),
  (88, .if_icmp .ne 7, 3, 95, 0), (91, .iconst 1, 1, 1, 0), (92, .goto 4, 3, 96, 0), (95, .iconst 0, 1, 0, 0), (96, .bipush 63, 2, 63, 0), (98, .invokevirtual 150, 3, 127, 3),
  (101, .ifCond .ge 5, 3, 106, 0), (104, .iload_n 3, 1, 3, 0), (105, .ireturn, 1, 0, 0), (106, .iinc 3 1, 3, 1, 0), (109, .goto (-66), 3, 43, 0), (112, .bipush (-99), 2, 99, 1),
  (114, .ireturn, 1, 0, 0)]
def gc_145 : List gc_O := [
  (0, .iload_n 1, 1, 1, 0), (1, .i2l, 1, 0, 0), (2, .lconst 0, 1, 0, 0), (3, .ldc2_w 69, 3, 255, 0), (6, .invokestatic 71, 3, 107, 3), (9, .ifCond .ne 6, 3, 15, 0),
  (12, .bipush (-2), 2, 2, 1), (14, .ireturn, 1, 0, 0), (15, .aload_n 0, 1, 0, 0), (16, .invokevirtual 147, 3, 128, 0), (19, .aload_n 0, 1, 0, 0), (20, .iload_n 1, 1, 1, 0),
  (21, .bipush 63, 2, 63, 0), (23, .invokevirtual 165, 3, 134, 2), (26, .pop, 1, 0, 0), (27, .aload_n 0, 1, 0, 0), (28, .getfield 161, 3, 11, 22), (31, .ireturn, 1, 0, 0)]
def gc_146 : List gc_O := [
  (0, .iload_n 1, 1, 1, 0), (1, .i2l, 1, 0, 0), (2, .lconst 0, 1, 0, 0), (3, .iconst 1, 1, 1, 0), (4, .aload_n 0, 1, 0, 0), (5, .getfield 113, 3, 11, 4),
  (8, .ishl, 1, 0, 0), (9, .iconst 1, 1, 1, 0), (10, .isub, 1, 0, 0), (11, .i2l, 1, 0, 0), (12, .invokestatic 71, 3, 107, 3), (15, .ifCond .ne 6, 3, 21, 0),
  (18, .bipush (-2), 2, 2, 1), (20, .ireturn, 1, 0, 0), (21, .aload_n 0, 1, 0, 0), (22, .invokevirtual 147, 3, 128, 0), (25, .bipush (-99), 2, 99, 1), (27, .istore_n 2, 1, 2, 0),
  (28, .iconst 0, 1, 0, 0), (29, .istore_n 3, 1, 3, 0), (30, .iload_n 3, 1, 3, 0), (31, .iconst 1, 1, 1, 0), (32, .aload_n 0, 1, 0, 0), (33, .getfield 110, 3, 11, 3),
  (36, .ishl, 1, 0, 0), (37, .if_icmp .ge 59, 3, 96, 0), (40, .iload_n 3, 1, 3, 0), (41, .aload_n 0, 1, 0, 0), (42, .invokevirtual 171, 3, 135, 0), (45, .iconst (-1), 1, 1, 1),
  (46, .ixor, 1, 0, 0), (47, .iand, 1, 0, 0), (48, .ifCond .ne 42, 3, 90, 0), (51, .iload_n 2, 1, 2, 0), (52, .bipush (-99), 2, 99, 1), (54, .if_icmp .eq 14, 3, 68, 0),
  (57, .iload_n 3, 1, 3, 0), (58, .invokestatic 174, 3, 109, 1), (61, .iload_n 2, 1, 2, 0), (62, .invokestatic 174, 3, 109, 1), (65, .if_icmp .ge 25, 3, 90, 0), (68, .aload_n 0, 1, 0, 0),
  (69, .iload_n 3, 1, 3, 0), (70, .bipush 63, 2, 63, 0), (72, .invokevirtual 165, 3, 134, 2), (75, .pop, 1, 0, 0), (76, .aload_n 0, 1, 0, 0), (77, .getfield 161, 3, 11, 22),
  (80, .iload_n 1, 1, 1, 0), (81, .if_icmp .ne 7, 3, 88, 0), (84, .iload_n 3, 1, 3, 0), (85, .goto 4, 3, 89, 0), (88, .iload_n 2, 1, 2, 0), (89, .istore_n 2, 1, 2, 0),
  (90, .iinc 3 1, 3, 1, 0), (93, .goto (-63), 3, 30, 0), (96, .iload_n 2, 1, 2, 0), (97, .ireturn, 1, 0, 0)]
def gc_147 : List gc_O := [
  (0, .aload_n 0, 1, 0, 0), (1, .iload_n 1, 1, 1, 0), (2, .invokevirtual 125, 3, 118, 1), (5, .ifCond .ne 5, 3, 10, 0), (8, .iconst (-1), 1, 1, 1), (9, .ireturn, 1, 0, 0),
  (10, .iload_n 2, 1, 2, 0), (11, .i2l, 1, 0, 0), (12, .lconst 0, 1, 0, 0), (13, .ldc2_w 193, 3, 7, 0), (16, .invokestatic 71, 3, 107, 3), (19, .ifCond .ne 6, 3, 25, 0),
  (22, .bipush (-2), 2, 2, 1), (24, .ireturn, 1, 0, 0), (25, .aload_n 0, 1, 0, 0), (26, .getfield 195, 3, 11, 25), (29, .bipush 6, 2, 6, 0), (31, .if_icmp .ne 6, 3, 37, 0),
  (34, .bipush (-4), 2, 4, 1), (36, .ireturn, 1, 0, 0), (37, .aload_n 0, 1, 0, 0), (38, .getfield 43, 3, 11, 26), (41, .aload_n 0, 1, 0, 0), (42, .getfield 195, 3, 11, 25),
  (45, .iload_n 1, 1, 1, 0), (46, .iastore, 1, 0, 0), (47, .aload_n 0, 1, 0, 0), (48, .getfield 46, 3, 11, 27), (51, .aload_n 0, 1, 0, 0), (52, .getfield 195, 3, 11, 25),
  (55, .iload_n 2, 1, 2, 0), (56, .iastore, 1, 0, 0), (57, .aload_n 0, 1, 0, 0), (58, .getfield 49, 3, 11, 28), (61, .aload_n 0, 1, 0, 0), (62, .getfield 195, 3, 11, 25),
  (65, .iload_n 3, 1, 3, 0), (66, .bastore, 1, 0, 0), (67, .aload_n 0, 1, 0, 0), (68, .dup, 1, 0, 0), (69, .getfield 195, 3, 11, 25), (72, .iconst 1, 1, 1, 0),
  (73, .iadd, 1, 0, 0), (74, .putfield 195, 3, 11, 25), (77, .aload_n 0, 1, 0, 0), (78, .getfield 195, 3, 11, 25), (81, .ireturn, 1, 0, 0)]
def gc_148 : List gc_O := [
  (0, .aload_n 0, 1, 0, 0), (1, .getfield 195, 3, 11, 25), (4, .istore_n 1, 1, 1, 0), (5, .aload_n 0, 1, 0, 0), (6, .iconst 0, 1, 0, 0), (7, .putfield 195, 3, 11, 25),
  (10, .iload_n 1, 1, 1, 0), (11, .ireturn, 1, 0, 0)]
def gc_149 : List gc_O := [
  (0, .iconst 0, 1, 0, 0), (1, .istore_n 2, 1, 2, 0), (2, .iload_n 2, 1, 2, 0), (3, .bipush 13, 2, 13, 0), (5, .if_icmp .ge 19, 3, 24, 0), (8, .aload_n 0, 1, 0, 0),
  (9, .getfield 28, 3, 11, 13), (12, .bipush 26, 2, 26, 0), (14, .iload_n 2, 1, 2, 0), (15, .iadd, 1, 0, 0), (16, .iconst 0, 1, 0, 0), (17, .iastore, 1, 0, 0),
  (18, .iinc 2 1, 3, 1, 0), (21, .goto (-19), 3, 2, 0), (24, .iconst 1, 1, 1, 0), (25, .istore_n 2, 1, 2, 0), (26, .iconst 0, 1, 0, 0), (27, .istore_n 3, 1, 3, 0),
  (28, .iload_n 3, 1, 3, 0), (29, .aload_n 0, 1, 0, 0), (30, .getfield 110, 3, 11, 3), (33, .if_icmp .ge 109, 3, 142, 0), (36, .aload_n 0, 1, 0, 0), (37, .iconst 2, 1, 2, 0),
  (38, .iload_n 1, 1, 1, 0), (39, .iload_n 3, 1, 3, 0), (40, .invokestatic 130, 3, 108, 2), (43, .bipush 63, 2, 63, 0), (45, .invokevirtual 150, 3, 127, 3), (48, .pop, 1, 0, 0),
  (49, .iconst 0, 1, 0, 0), (50, .istore 4, 2, 4, 0), (52, .iload 4, 2, 4, 0), (54, .aload_n 0, 1, 0, 0), (55, .getfield 195, 3, 11, 25), (58, .if_icmp .ge 78, 3, 136, 0),
  (61, .aload_n 0, 1, 0, 0), (62, .getfield 46, 3, 11, 27), (65, .iload 4, 2, 4, 0), (67, .iaload, 1, 0, 0), (68, .iload_n 3, 1, 3, 0), (69, .if_icmp .ne 21, 3, 90, 0),
  (72, .aload_n 0, 1, 0, 0), (73, .aload_n 0, 1, 0, 0), (74, .getfield 43, 3, 11, 26), (77, .iload 4, 2, 4, 0), (79, .iaload, 1, 0, 0), (80, .invokevirtual 125, 3, 118, 1),
  (83, .ifCond .eq 7, 3, 90, 0), (86, .iconst 1, 1, 1, 0), (87, .goto 4, 3, 91, 0), (90, .iconst 0, 1, 0, 0), (91, .istore 5, 2, 5, 0), (93, .iload_n 2, 1, 2, 0),
  (94, .ifCond .eq 34, 3, 128, 0), (97, .iload 5, 2, 5, 0), (99, .ifCond .eq 25, 3, 124, 0), (102, .aload_n 0, 1, 0, 0), (103, .iconst 2, 1, 2, 0), (104, .aload_n 0, 1, 0, 0),
  (105, .getfield 43, 3, 11, 26), (108, .iload 4, 2, 4, 0), (110, .iaload, 1, 0, 0), (111, .invokevirtual 121, 3, 121, 2), (114, .aload_n 0, 1, 0, 0), (115, .getfield 49, 3, 11, 28),
  (118, .iload 4, 2, 4, 0), (120, .baload, 1, 0, 0), (121, .if_icmp .ne 7, 3, 128, 0), (124, .iconst 1, 1, 1, 0), (125, .goto 4, 3, 129, 0), (128, .iconst 0, 1, 0, 0),
  (129, .istore_n 2, 1, 2, 0), (130, .iinc 4 1, 3, 1, 0), (133, .goto (-81), 3, 52, 0), (136, .iinc 3 1, 3, 1, 0), (139, .goto (-111), 3, 28, 0), (142, .iload_n 2, 1, 2, 0),
  (143, .ireturn, 1, 0, 0)]
def gc_150 : List gc_O := [
  (0, .iload_n 1, 1, 1, 0), (1, .i2l, 1, 0, 0), (2, .lconst 0, 1, 0, 0), (3, .ldc2_w 198, 3, 2, 0), (6, .invokestatic 71, 3, 107, 3), (9, .ifCond .ne 6, 3, 15, 0),
  (12, .bipush (-2), 2, 2, 1), (14, .ireturn, 1, 0, 0), (15, .aload_n 0, 1, 0, 0), (16, .invokevirtual 147, 3, 128, 0), (19, .iconst 0, 1, 0, 0), (20, .istore_n 2, 1, 2, 0),
  (21, .iconst 1, 1, 1, 0), (22, .aload_n 0, 1, 0, 0), (23, .getfield 110, 3, 11, 3), (26, .ishl, 1, 0, 0), (27, .iconst 1, 1, 1, 0), (28, .isub, 1, 0, 0),
  (29, .istore_n 3, 1, 3, 0), (30, .iconst 0, 1, 0, 0), (31, .istore 4, 2, 4, 0), (33, .iconst 0, 1, 0, 0), (34, .istore 5, 2, 5, 0), (36, .iload 5, 2, 5, 0),
  (38, .iconst 1, 1, 1, 0), (39, .aload_n 0, 1, 0, 0), (40, .getfield 110, 3, 11, 3), (43, .ishl, 1, 0, 0), (44, .if_icmp .ge 33, 3, 77, 0), (47, .aload_n 0, 1, 0, 0),
  (48, .iload 5, 2, 5, 0), (50, .invokevirtual 200, 3, 149, 1), (53, .ifCond .eq 18, 3, 71, 0), (56, .iinc 2 1, 3, 1, 0), (59, .iload_n 3, 1, 3, 0), (60, .iload 5, 2, 5, 0),
  (62, .iand, 1, 0, 0), (63, .istore_n 3, 1, 3, 0), (64, .iload 4, 2, 4, 0), (66, .iload 5, 2, 5, 0), (68, .ior, 1, 0, 0), (69, .istore 4, 2, 4, 0),
  (71, .iinc 5 1, 3, 1, 0), (74, .goto (-38), 3, 36, 0), (77, .iload_n 1, 1, 1, 0), (78, .ifCond .ne 7, 3, 85, 0), (81, .iload_n 2, 1, 2, 0), (82, .goto 34, 3, 116, 0),
  (85, .iload_n 2, 1, 2, 0), (86, .ifCond .ne 8, 3, 94, 0), (89, .bipush (-99), 2, 99, 1), (91, .goto 25, 3, 116, 0), (94, .iload_n 1, 1, 1, 0), (95, .iconst 1, 1, 1, 0),
  (96, .if_icmp .ne 7, 3, 103, 0), (99, .iload_n 3, 1, 3, 0), (100, .goto 16, 3, 116, 0), (103, .iconst 1, 1, 1, 0), (104, .aload_n 0, 1, 0, 0), (105, .getfield 110, 3, 11, 3),
  (108, .ishl, 1, 0, 0), (109, .iconst 1, 1, 1, 0), (110, .isub, 1, 0, 0), (111, .iload 4, 2, 4, 0), (113, .iconst (-1), 1, 1, 1), (114, .ixor, 1, 0, 0),
  (115, .iand, 1, 0, 0), (116, .ireturn, 1, 0, 0)]
def gc_151 : List gc_O := [
  (0, .lconst 0, 1, 0, 0), (1, .lstore 5, 2, 5, 0), (3, .aload_n 0, 1, 0, 0), (4, .lconst 0, 1, 0, 0), (5, .putfield 203, 3, 11, 29), (8, .iconst 0, 1, 0, 0),
  (9, .istore 7, 2, 7, 0), (11, .iload 7, 2, 7, 0), (13, .iconst 1, 1, 1, 0), (14, .aload_n 0, 1, 0, 0), (15, .getfield 110, 3, 11, 3), (18, .ishl, 1, 0, 0),
  (19, .if_icmp .ge 224, 3, 243, 0), (22, .iload 7, 2, 7, 0), (24, .aload_n 0, 1, 0, 0), (25, .invokevirtual 171, 3, 135, 0), (28, .iconst (-1), 1, 1, 1), (29, .ixor, 1, 0, 0),
  (30, .iand, 1, 0, 0), (31, .ifCond .ne 7, 3, 38, 0), (34, .iconst 1, 1, 1, 0), (35, .goto 4, 3, 39, 0), (38, .iconst 0, 1, 0, 0), (39, .istore 8, 2, 8, 0),
  (41, .lconst 1, 1, 1, 0), (42, .lstore 9, 2, 9, 0), (44, .iconst 0, 1, 0, 0), (45, .istore 11, 2, 11, 0), (47, .iload 11, 2, 11, 0), (49, .aload_n 0, 1, 0, 0),
  (50, .getfield 110, 3, 11, 3), (53, .if_icmp .ge 121, 3, 174, 0), (56, .iload 7, 2, 7, 0), (58, .iload 11, 2, 11, 0), (60, .invokestatic 130, 3, 108, 2), (63, .istore 12, 2, 12, 0),
  (65, .iload 8, 2, 8, 0), (67, .ifCond .eq 22, 3, 89, 0), (70, .iload 12, 2, 12, 0), (72, .ifCond .eq 13, 3, 85, 0), (75, .aload_n 0, 1, 0, 0), (76, .getfield 7, 3, 11, 5),
  (79, .iload 11, 2, 11, 0), (81, .iaload, 1, 0, 0), (82, .ifCond .eq 7, 3, 89, 0), (85, .iconst 1, 1, 1, 0), (86, .goto 4, 3, 90, 0), (89, .iconst 0, 1, 0, 0),
  (90, .istore 8, 2, 8, 0), (92, .aload_n 0, 1, 0, 0), (93, .getfield 13, 3, 11, 6), (96, .iload 11, 2, 11, 0), (98, .iload 12, 2, 12, 0), (100, .ifCond .eq 14, 3, 114, 0),
  (103, .aload_n 0, 1, 0, 0), (104, .getfield 7, 3, 11, 5), (107, .iload 11, 2, 11, 0), (109, .iaload, 1, 0, 0), (110, .ineg, 1, 0, 0), (111, .goto 10, 3, 121, 0),
  (114, .aload_n 0, 1, 0, 0), (115, .getfield 7, 3, 11, 5), (118, .iload 11, 2, 11, 0), (120, .iaload, 1, 0, 0), (121, .iastore, 1, 0, 0), (122, .lload 9, 2, 9, 0),
  (124, .aload_n 0, 1, 0, 0), (125, .invokevirtual 171, 3, 135, 0), (128, .iload 11, 2, 11, 0), (130, .invokestatic 130, 3, 108, 2), (133, .ifCond .eq 13, 3, 146, 0), (136, .aload_n 0, 1, 0, 0),
  (137, .getfield 7, 3, 11, 5), (140, .iload 11, 2, 11, 0), (142, .iaload, 1, 0, 0), (143, .ifCond .ne 7, 3, 150, 0), (146, .lconst 1, 1, 1, 0), (147, .goto 18, 3, 165, 0),
  (150, .iload 12, 2, 12, 0), (152, .ifCond .eq 8, 3, 160, 0), (155, .iload_n 2, 1, 2, 0), (156, .i2l, 1, 0, 0), (157, .goto 8, 3, 165, 0), (160, .bipush 10, 2, 10, 0),
  (162, .iload_n 2, 1, 2, 0), (163, .isub, 1, 0, 0), (164, .i2l, 1, 0, 0), (165, .lmul, 1, 0, 0), (166, .lstore 9, 2, 9, 0), (168, .iinc 11 1, 3, 1, 0),
  (171, .goto (-124), 3, 47, 0), (174, .iload 8, 2, 8, 0), (176, .ifCond .eq 61, 3, 237, 0), (179, .aload_n 0, 1, 0, 0), (180, .iload_n 1, 1, 1, 0), (181, .iload_n 3, 1, 3, 0),
  (182, .invokevirtual 165, 3, 134, 2), (185, .istore 11, 2, 11, 0), (187, .iload 11, 2, 11, 0), (189, .iload 4, 2, 4, 0), (191, .ifCond .eq 7, 3, 198, 0), (194, .iconst 0, 1, 0, 0),
  (195, .goto 17, 3, 212, 0), (198, .aload_n 0, 1, 0, 0), (199, .getfield 107, 3, 11, 2), (202, .iload_n 1, 1, 1, 0), (203, .aload_n 0, 1, 0, 0), (204, .invokevirtual 171, 3, 135, 0),
  (207, .iand, 1, 0, 0), (208, .invokestatic 174, 3, 109, 1), (211, .imul, 1, 0, 0), (212, .iadd, 1, 0, 0), (213, .istore 11, 2, 11, 0), (215, .lload 5, 2, 5, 0),
  (217, .lload 9, 2, 9, 0), (219, .iload 11, 2, 11, 0), (221, .i2l, 1, 0, 0), (222, .lmul, 1, 0, 0), (223, .ladd, 1, 0, 0), (224, .lstore 5, 2, 5, 0),
  (226, .aload_n 0, 1, 0, 0), (227, .dup, 1, 0, 0), (228, .getfield 203, 3, 11, 29), (231, .lload 9, 2, 9, 0), (233, .ladd, 1, 0, 0), (234, .putfield 203, 3, 11, 29),
  (237, .iinc 7 1, 3, 1, 0), (240, .goto (-229), 3, 11, 0), (243, .lload 5, 2, 5, 0), (245, .lreturn, 1, 0, 0)]
def gc_152 : List gc_O := [
  (0, .iload_n 1, 1, 1, 0), (1, .i2l, 1, 0, 0), (2, .lconst 0, 1, 0, 0), (3, .ldc2_w 69, 3, 255, 0), (6, .invokestatic 71, 3, 107, 3), (9, .ifCond .eq 15, 3, 24, 0),
  (12, .iload_n 2, 1, 2, 0), (13, .i2l, 1, 0, 0), (14, .lconst 0, 1, 0, 0), (15, .ldc2_w 207, 3, 10, 0), (18, .invokestatic 71, 3, 107, 3), (21, .ifCond .ne 7, 3, 28, 0),
  (24, .ldc2_w 209, 3, 1000000000002, 1), (27, .lreturn, 1, 0, 0), (28, .aload_n 0, 1, 0, 0), (29, .iload_n 1, 1, 1, 0), (30, .iload_n 2, 1, 2, 0), (31, .bipush 63, 2, 63, 0),
  (33, .iconst 1, 1, 1, 0), (34, .invokevirtual 211, 3, 151, 4), (37, .lstore 4, 2, 4, 0), (39, .lload 4, 2, 4, 0), (41, .aload_n 0, 1, 0, 0), (42, .getfield 203, 3, 11, 29),
  (45, .invokestatic 184, 3, 141, 2), (48, .lstore 6, 2, 6, 0), (50, .iload_n 3, 1, 3, 0), (51, .ifCond .eq 11, 3, 62, 0), (54, .lload 4, 2, 4, 0), (56, .lload 6, 2, 6, 0),
  (58, .ldiv, 1, 0, 0), (59, .goto 10, 3, 69, 0), (62, .aload_n 0, 1, 0, 0), (63, .getfield 203, 3, 11, 29), (66, .lload 6, 2, 6, 0), (68, .ldiv, 1, 0, 0),
  (69, .lreturn, 1, 0, 0)]
def gc_153 : List gc_O := [
  (0, .aload_n 0, 1, 0, 0), (1, .iload_n 1, 1, 1, 0), (2, .invokevirtual 125, 3, 118, 1), (5, .ifCond .ne 7, 3, 12, 0), (8, .ldc2_w 215, 3, 1000000000001, 1), (11, .lreturn, 1, 0, 0),
  (12, .iload_n 2, 1, 2, 0), (13, .i2l, 1, 0, 0), (14, .lconst 0, 1, 0, 0), (15, .ldc2_w 69, 3, 255, 0), (18, .invokestatic 71, 3, 107, 3), (21, .ifCond .eq 15, 3, 36, 0),
  (24, .iload_n 3, 1, 3, 0), (25, .i2l, 1, 0, 0), (26, .lconst 0, 1, 0, 0), (27, .ldc2_w 207, 3, 10, 0), (30, .invokestatic 71, 3, 107, 3), (33, .ifCond .ne 7, 3, 40, 0),
  (36, .ldc2_w 209, 3, 1000000000002, 1), (39, .lreturn, 1, 0, 0), (40, .aload_n 0, 1, 0, 0), (41, .iload_n 2, 1, 2, 0), (42, .iload_n 3, 1, 3, 0), (43, .iconst 1, 1, 1, 0),
  (44, .iload_n 1, 1, 1, 0), (45, .ishl, 1, 0, 0), (46, .iconst 0, 1, 0, 0), (47, .invokevirtual 211, 3, 151, 4), (50, .lstore 5, 2, 5, 0), (52, .lload 5, 2, 5, 0),
  (54, .aload_n 0, 1, 0, 0), (55, .getfield 203, 3, 11, 29), (58, .invokestatic 184, 3, 141, 2), (61, .lstore 7, 2, 7, 0), (63, .iload 4, 2, 4, 0), (65, .ifCond .eq 11, 3, 76, 0),
  (68, .lload 5, 2, 5, 0), (70, .lload 7, 2, 7, 0), (72, .ldiv, 1, 0, 0), (73, .goto 10, 3, 83, 0), (76, .aload_n 0, 1, 0, 0), (77, .getfield 203, 3, 11, 29),
  (80, .lload 7, 2, 7, 0), (82, .ldiv, 1, 0, 0), (83, .lreturn, 1, 0, 0)]
def gc_154 : List gc_O := [
  (0, .aload_n 0, 1, 0, 0), (1, .invokevirtual 147, 3, 128, 0), (4, .aload_n 0, 1, 0, 0), (5, .iconst 0, 1, 0, 0), (6, .iconst 1, 1, 1, 0), (7, .invokevirtual 157, 3, 129, 2),
  (10, .aload_n 0, 1, 0, 0), (11, .iconst 0, 1, 0, 0), (12, .iconst 2, 1, 2, 0), (13, .invokevirtual 157, 3, 129, 2), (16, .iconst 0, 1, 0, 0), (17, .istore 4, 2, 4, 0),
  (19, .iload 4, 2, 4, 0), (21, .bipush 10, 2, 10, 0), (23, .if_icmp .ge 20, 3, 43, 0), (26, .aload_n 0, 1, 0, 0), (27, .getfield 28, 3, 11, 13), (30, .bipush 26, 2, 26, 0),
  (32, .iload 4, 2, 4, 0), (34, .iadd, 1, 0, 0), (35, .iconst 0, 1, 0, 0), (36, .iastore, 1, 0, 0), (37, .iinc 4 1, 3, 1, 0), (40, .goto (-21), 3, 19, 0),
  (43, .aload_n 0, 1, 0, 0), (44, .iload_n 1, 1, 1, 0), (45, .bipush 9, 2, 9, 0), (47, .if_icmp .ge 11, 3, 58, 0), (50, .aload_n 0, 1, 0, 0), (51, .getfield 107, 3, 11, 2),
  (54, .ineg, 1, 0, 0), (55, .goto 4, 3, 59, 0), (58, .iconst 0, 1, 0, 0), (59, .putfield 217, 3, 11, 30), (62, .aload_n 0, 1, 0, 0), (63, .iload_n 2, 1, 2, 0),
  (64, .bipush 9, 2, 9, 0), (66, .if_icmp .ge 11, 3, 77, 0), (69, .aload_n 0, 1, 0, 0), (70, .getfield 107, 3, 11, 2), (73, .ineg, 1, 0, 0), (74, .goto 4, 3, 78, 0),
  (77, .iconst 0, 1, 0, 0), (78, .putfield 220, 3, 11, 31), (81, .aload_n 0, 1, 0, 0), (82, .getfield 28, 3, 11, 13), (85, .bipush 12, 2, 12, 0), (87, .iaload, 1, 0, 0),
  (88, .istore 4, 2, 4, 0), (90, .iload 4, 2, 4, 0), (92, .aload_n 0, 1, 0, 0), (93, .getfield 110, 3, 11, 3), (96, .if_icmp .ge 223, 3, 319, 0), (99, .aload_n 0, 1, 0, 0),
  (100, .iconst 1, 1, 1, 0), (101, .aload_n 0, 1, 0, 0), (102, .getfield 13, 3, 11, 6), (105, .iload 4, 2, 4, 0), (107, .iaload, 1, 0, 0), (108, .iload 4, 2, 4, 0),
  (110, .iload_n 1, 1, 1, 0), (111, .if_icmp .ne 10, 3, 121, 0), (114, .aload_n 0, 1, 0, 0), (115, .getfield 104, 3, 11, 0), (118, .goto 5, 3, 123, 0), (121, .bipush (-99), 2, 99, 1),
  (123, .invokevirtual 133, 3, 125, 3), (126, .aload_n 0, 1, 0, 0), (127, .iconst 2, 1, 2, 0), (128, .aload_n 0, 1, 0, 0), (129, .getfield 13, 3, 11, 6), (132, .iload 4, 2, 4, 0),
  (134, .iaload, 1, 0, 0), (135, .iload 4, 2, 4, 0), (137, .iload_n 2, 1, 2, 0), (138, .if_icmp .ne 7, 3, 145, 0), (141, .iload_n 3, 1, 3, 0), (142, .goto 5, 3, 147, 0),
  (145, .bipush (-99), 2, 99, 1), (147, .invokevirtual 133, 3, 125, 3), (150, .iconst 0, 1, 0, 0), (151, .istore 5, 2, 5, 0), (153, .iload 5, 2, 5, 0), (155, .aload_n 0, 1, 0, 0),
  (156, .getfield 113, 3, 11, 4), (159, .if_icmp .ge 154, 3, 313, 0), (162, .aload_n 0, 1, 0, 0), (163, .getfield 28, 3, 11, 13), (166, .bipush 13, 2, 13, 0), (168, .aload_n 0, 1, 0, 0),
  (169, .getfield 16, 3, 11, 7), (172, .iconst 4, 1, 4, 0), (173, .iload 5, 2, 5, 0), (175, .imul, 1, 0, 0), (176, .iaload, 1, 0, 0), (177, .iadd, 1, 0, 0),
  (178, .iaload, 1, 0, 0), (179, .istore 6, 2, 6, 0), (181, .aload_n 0, 1, 0, 0), (182, .getfield 28, 3, 11, 13), (185, .bipush 26, 2, 26, 0), (187, .aload_n 0, 1, 0, 0),
  (188, .getfield 16, 3, 11, 7), (191, .iconst 4, 1, 4, 0), (192, .iload 5, 2, 5, 0), (194, .imul, 1, 0, 0), (195, .iaload, 1, 0, 0), (196, .iadd, 1, 0, 0),
  (197, .iaload, 1, 0, 0), (198, .istore 7, 2, 7, 0), (200, .aload_n 0, 1, 0, 0), (201, .iload 5, 2, 5, 0), (203, .iload 6, 2, 6, 0), (205, .iload 7, 2, 7, 0),
  (207, .if_icmp .le 8, 3, 215, 0), (210, .iload 6, 2, 6, 0), (212, .goto 5, 3, 217, 0), (215, .iload 7, 2, 7, 0), (217, .aload_n 0, 1, 0, 0), (218, .getfield 16, 3, 11, 7),
  (221, .iconst 4, 1, 4, 0), (222, .iload 5, 2, 5, 0), (224, .imul, 1, 0, 0), (225, .iconst 1, 1, 1, 0), (226, .iadd, 1, 0, 0), (227, .iaload, 1, 0, 0),
  (228, .if_icmp .lt 7, 3, 235, 0), (231, .iconst 1, 1, 1, 0), (232, .goto 4, 3, 236, 0), (235, .iconst 0, 1, 0, 0), (236, .aload_n 0, 1, 0, 0), (237, .getfield 13, 3, 11, 6),
  (240, .iload 4, 2, 4, 0), (242, .iaload, 1, 0, 0), (243, .invokevirtual 137, 3, 126, 3), (246, .istore 8, 2, 8, 0), (248, .iload 8, 2, 8, 0), (250, .ifCond .le 14, 3, 264, 0),
  (253, .iload 7, 2, 7, 0), (255, .iload 6, 2, 6, 0), (257, .if_icmp .le 7, 3, 264, 0), (260, .iconst 1, 1, 1, 0), (261, .goto 4, 3, 265, 0), (264, .iconst 0, 1, 0, 0),
  (265, .istore 9, 2, 9, 0), (267, .aload_n 0, 1, 0, 0), (268, .dup, 1, 0, 0), (269, .getfield 217, 3, 11, 30), (272, .iload 9, 2, 9, 0), (274, .ifCond .eq 7, 3, 281, 0),
  (277, .iconst 0, 1, 0, 0), (278, .goto 5, 3, 283, 0), (281, .iload 8, 2, 8, 0), (283, .iadd, 1, 0, 0), (284, .putfield 217, 3, 11, 30), (287, .aload_n 0, 1, 0, 0),
  (288, .dup, 1, 0, 0), (289, .getfield 220, 3, 11, 31), (292, .iload 9, 2, 9, 0), (294, .ifCond .eq 8, 3, 302, 0), (297, .iload 8, 2, 8, 0), (299, .goto 4, 3, 303, 0),
  (302, .iconst 0, 1, 0, 0), (303, .iadd, 1, 0, 0), (304, .putfield 220, 3, 11, 31), (307, .iinc 5 1, 3, 1, 0), (310, .goto (-157), 3, 153, 0), (313, .iinc 4 1, 3, 1, 0),
  (316, .goto (-226), 3, 90, 0), (319, .return_, 1, 0, 0)]
def gc_155 : List gc_O := [
  (0, .iload_n 1, 1, 1, 0), (1, .bipush 9, 2, 9, 0), (3, .if_icmp .eq 26, 3, 29, 0), (6, .iload_n 1, 1, 1, 0), (7, .i2l, 1, 0, 0), (8, .aload_n 0, 1, 0, 0),
  (9, .getfield 28, 3, 11, 13), (12, .bipush 12, 2, 12, 0), (14, .iaload, 1, 0, 0), (15, .i2l, 1, 0, 0), (16, .aload_n 0, 1, 0, 0), (17, .getfield 110, 3, 11, 3),
  (20, .iconst 1, 1, 1, 0), (21, .isub, 1, 0, 0), (22, .i2l, 1, 0, 0), (23, .invokestatic 71, 3, 107, 3), (26, .ifCond .eq 7, 3, 33, 0), (29, .iconst 1, 1, 1, 0),
  (30, .goto 4, 3, 34, 0), (33, .iconst 0, 1, 0, 0), (34, .ireturn, 1, 0, 0)]
def gc_156 : List gc_O := [
  (0, .iconst 1, 1, 1, 0), (1, .istore_n 3, 1, 3, 0), (2, .iconst 0, 1, 0, 0), (3, .istore 4, 2, 4, 0), (5, .iload 4, 2, 4, 0), (7, .bipush 10, 2, 10, 0),
  (9, .if_icmp .ge 80, 3, 89, 0), (12, .aload_n 0, 1, 0, 0), (13, .iload 4, 2, 4, 0), (15, .invokevirtual 223, 3, 155, 1), (18, .ifCond .eq 65, 3, 83, 0), (21, .iload_n 3, 1, 3, 0),
  (22, .ifCond .eq 59, 3, 81, 0), (25, .aload_n 0, 1, 0, 0), (26, .getfield 53, 3, 11, 32), (29, .bipush 10, 2, 10, 0), (31, .iload 4, 2, 4, 0), (33, .imul, 1, 0, 0),
  (34, .iload_n 2, 1, 2, 0), (35, .iadd, 1, 0, 0), (36, .iaload, 1, 0, 0), (37, .aload_n 0, 1, 0, 0), (38, .getfield 53, 3, 11, 32), (41, .bipush 10, 2, 10, 0),
  (43, .iload_n 1, 1, 1, 0), (44, .imul, 1, 0, 0), (45, .iload_n 2, 1, 2, 0), (46, .iadd, 1, 0, 0), (47, .iaload, 1, 0, 0), (48, .if_icmp .gt 33, 3, 81, 0),
  (51, .aload_n 0, 1, 0, 0), (52, .getfield 56, 3, 11, 33), (55, .bipush 10, 2, 10, 0), (57, .iload_n 1, 1, 1, 0), (58, .imul, 1, 0, 0), (59, .iload 4, 2, 4, 0),
  (61, .iadd, 1, 0, 0), (62, .iaload, 1, 0, 0), (63, .aload_n 0, 1, 0, 0), (64, .getfield 56, 3, 11, 33), (67, .bipush 10, 2, 10, 0), (69, .iload_n 1, 1, 1, 0),
  (70, .imul, 1, 0, 0), (71, .iload_n 2, 1, 2, 0), (72, .iadd, 1, 0, 0), (73, .iaload, 1, 0, 0), (74, .if_icmp .gt 7, 3, 81, 0), (77, .iconst 1, 1, 1, 0),
  (78, .goto 4, 3, 82, 0), (81, .iconst 0, 1, 0, 0), (82, .istore_n 3, 1, 3, 0), (83, .iinc 4 1, 3, 1, 0), (86, .goto (-81), 3, 5, 0), (89, .iload_n 3, 1, 3, 0),
  (90, .ireturn, 1, 0, 0)]
def gc_157 : List gc_O := [
  (0, .iload_n 1, 1, 1, 0), (1, .i2l, 1, 0, 0), (2, .lconst 0, 1, 0, 0), (3, .ldc2_w 119, 3, 9, 0), (6, .invokestatic 71, 3, 107, 3), (9, .ifCond .eq 13, 3, 22, 0),
  (12, .iload_n 2, 1, 2, 0), (13, .i2l, 1, 0, 0), (14, .lconst 0, 1, 0, 0), (15, .lconst 1, 1, 1, 0), (16, .invokestatic 71, 3, 107, 3), (19, .ifCond .ne 6, 3, 25, 0),
  (22, .bipush (-2), 2, 2, 1), (24, .ireturn, 1, 0, 0), (25, .iconst 0, 1, 0, 0), (26, .istore_n 3, 1, 3, 0), (27, .iload_n 3, 1, 3, 0), (28, .bipush 100, 2, 100, 0),
  (30, .if_icmp .ge 64, 3, 94, 0), (33, .aload_n 0, 1, 0, 0), (34, .iload_n 3, 1, 3, 0), (35, .bipush 10, 2, 10, 0), (37, .idiv, 1, 0, 0), (38, .invokevirtual 223, 3, 155, 1),
  (41, .ifCond .eq 47, 3, 88, 0), (44, .aload_n 0, 1, 0, 0), (45, .iload_n 3, 1, 3, 0), (46, .bipush 10, 2, 10, 0), (48, .irem, 1, 0, 0), (49, .invokevirtual 223, 3, 155, 1),
  (52, .ifCond .eq 36, 3, 88, 0), (55, .aload_n 0, 1, 0, 0), (56, .iload_n 3, 1, 3, 0), (57, .bipush 10, 2, 10, 0), (59, .idiv, 1, 0, 0), (60, .iload_n 3, 1, 3, 0),
  (61, .bipush 10, 2, 10, 0), (63, .irem, 1, 0, 0), (64, .iload_n 1, 1, 1, 0), (65, .invokevirtual 226, 3, 154, 3), (68, .aload_n 0, 1, 0, 0), (69, .getfield 53, 3, 11, 32),
  (72, .iload_n 3, 1, 3, 0), (73, .aload_n 0, 1, 0, 0), (74, .getfield 217, 3, 11, 30), (77, .iastore, 1, 0, 0), (78, .aload_n 0, 1, 0, 0), (79, .getfield 56, 3, 11, 33),
  (82, .iload_n 3, 1, 3, 0), (83, .aload_n 0, 1, 0, 0), (84, .getfield 220, 3, 11, 31), (87, .iastore, 1, 0, 0), (88, .iinc 3 1, 3, 1, 0), (91, .goto (-64), 3, 27, 0),
  (94, .iconst 0, 1, 0, 0), (95, .istore_n 3, 1, 3, 0), (96, .bipush (-99), 2, 99, 1), (98, .istore 4, 2, 4, 0), (100, .iconst 0, 1, 0, 0), (101, .istore 5, 2, 5, 0),
  (103, .iload 5, 2, 5, 0), (105, .bipush 100, 2, 100, 0), (107, .if_icmp .ge 66, 3, 173, 0), (110, .aload_n 0, 1, 0, 0), (111, .iload 5, 2, 5, 0), (113, .bipush 10, 2, 10, 0),
  (115, .idiv, 1, 0, 0), (116, .invokevirtual 223, 3, 155, 1), (119, .ifCond .eq 48, 3, 167, 0), (122, .aload_n 0, 1, 0, 0), (123, .iload 5, 2, 5, 0), (125, .bipush 10, 2, 10, 0),
  (127, .irem, 1, 0, 0), (128, .invokevirtual 223, 3, 155, 1), (131, .ifCond .eq 36, 3, 167, 0), (134, .aload_n 0, 1, 0, 0), (135, .iload 5, 2, 5, 0), (137, .bipush 10, 2, 10, 0),
  (139, .idiv, 1, 0, 0), (140, .iload 5, 2, 5, 0), (142, .bipush 10, 2, 10, 0), (144, .irem, 1, 0, 0), (145, .invokevirtual 229, 3, 156, 2), (148, .ifCond .eq 19, 3, 167, 0),
  (151, .iload_n 3, 1, 3, 0), (152, .ifCond .ne 8, 3, 160, 0), (155, .iload 5, 2, 5, 0), (157, .goto 5, 3, 162, 0), (160, .iload 4, 2, 4, 0), (162, .istore 4, 2, 4, 0),
  (164, .iinc 3 1, 3, 1, 0), (167, .iinc 5 1, 3, 1, 0), (170, .goto (-67), 3, 103, 0), (173, .iload_n 2, 1, 2, 0), (174, .ifCond .ne 7, 3, 181, 0), (177, .iload_n 3, 1, 3, 0),
  (178, .goto 5, 3, 183, 0), (181, .iload 4, 2, 4, 0), (183, .ireturn, 1, 0, 0)]
def gc_158 : List gc_O := [
  (0, .aload_n 0, 1, 0, 0), (1, .getfield 232, 3, 11, 34), (4, .lstore_n 3, 1, 3, 0), (5, .aload_n 0, 1, 0, 0), (6, .lload_n 1, 1, 1, 0), (7, .putfield 232, 3, 11, 34),
  (10, .lload_n 3, 1, 3, 0), (11, .lreturn, 1, 0, 0)]
def gc_159 : List gc_O := [
  (0, .iload_n 1, 1, 1, 0), (1, .i2l, 1, 0, 0), (2, .lconst 1, 1, 1, 0), (3, .ldc2_w 235, 3, 20, 0), (6, .invokestatic 71, 3, 107, 3), (9, .ifCond .ne 6, 3, 15, 0),
  (12, .ldc 164, 2, 1000002, 1), (14, .ireturn, 1, 0, 0), (15, .aload_n 0, 1, 0, 0), (16, .invokevirtual 147, 3, 128, 0), (19, .iconst 0, 1, 0, 0), (20, .istore_n 2, 1, 2, 0),
  (21, .iconst 0, 1, 0, 0), (22, .istore_n 3, 1, 3, 0), (23, .iload_n 3, 1, 3, 0), (24, .iload_n 1, 1, 1, 0), (25, .if_icmp .ge 79, 3, 104, 0), (28, .aload_n 0, 1, 0, 0),
  (29, .iconst 0, 1, 0, 0), (30, .iconst 1, 1, 1, 0), (31, .invokevirtual 157, 3, 129, 2), (34, .aload_n 0, 1, 0, 0), (35, .getfield 28, 3, 11, 13), (38, .bipush 25, 2, 25, 0),
  (40, .iaload, 1, 0, 0), (41, .aload_n 0, 1, 0, 0), (42, .getfield 110, 3, 11, 3), (45, .if_icmp .ge 53, 3, 98, 0), (48, .aload_n 0, 1, 0, 0), (49, .aload_n 0, 1, 0, 0),
  (50, .getfield 232, 3, 11, 34), (53, .ldc2_w 237, 3, 6364136223846793005, 0), (56, .lmul, 1, 0, 0), (57, .ldc2_w 239, 3, 1442695040888963407, 0), (60, .ladd, 1, 0, 0), (61, .putfield 232, 3, 11, 34),
  (64, .iload_n 2, 1, 2, 0), (65, .aload_n 0, 1, 0, 0), (66, .iconst 1, 1, 1, 0), (67, .aload_n 0, 1, 0, 0), (68, .getfield 232, 3, 11, 34), (71, .bipush 33, 2, 33, 0),
  (73, .lushr, 1, 0, 0), (74, .ldc2_w 198, 3, 2, 0), (77, .lrem, 1, 0, 0), (78, .lconst 1, 1, 1, 0), (79, .lcmp, 1, 0, 0), (80, .ifCond .ne 7, 3, 87, 0),
  (83, .iconst 1, 1, 1, 0), (84, .goto 4, 3, 88, 0), (87, .iconst 0, 1, 0, 0), (88, .bipush 63, 2, 63, 0), (90, .invokevirtual 150, 3, 127, 3), (93, .iadd, 1, 0, 0),
  (94, .istore_n 2, 1, 2, 0), (95, .goto (-61), 3, 34, 0), (98, .iinc 3 1, 3, 1, 0), (101, .goto (-78), 3, 23, 0), (104, .iload_n 2, 1, 2, 0), (105, .ireturn, 1, 0, 0)]
def gc_160 : List gc_O := [
  (0, .iload_n 1, 1, 1, 0), (1, .i2l, 1, 0, 0), (2, .lconst 0, 1, 0, 0), (3, .lconst 1, 1, 1, 0), (4, .invokestatic 71, 3, 107, 3), (7, .ifCond .ne 5, 3, 12, 0),
  (10, .iconst (-1), 1, 1, 1), (11, .ireturn, 1, 0, 0), (12, .aload_n 0, 1, 0, 0), (13, .getfield 59, 3, 11, 35), (16, .iload_n 1, 1, 1, 0), (17, .iconst 1, 1, 1, 0),
  (18, .bastore, 1, 0, 0), (19, .iconst 0, 1, 0, 0), (20, .istore_n 2, 1, 2, 0), (21, .iload_n 2, 1, 2, 0), (22, .bipush 13, 2, 13, 0), (24, .if_icmp .ge 26, 3, 50, 0),
  (27, .aload_n 0, 1, 0, 0), (28, .getfield 62, 3, 11, 36), (31, .bipush 13, 2, 13, 0), (33, .iload_n 1, 1, 1, 0), (34, .imul, 1, 0, 0), (35, .iload_n 2, 1, 2, 0),
  (36, .iadd, 1, 0, 0), (37, .aload_n 0, 1, 0, 0), (38, .getfield 28, 3, 11, 13), (41, .iload_n 2, 1, 2, 0), (42, .iaload, 1, 0, 0), (43, .iastore, 1, 0, 0),
  (44, .iinc 2 1, 3, 1, 0), (47, .goto (-26), 3, 21, 0), (50, .aload_n 0, 1, 0, 0), (51, .getfield 28, 3, 11, 13), (54, .bipush 12, 2, 12, 0), (56, .iaload, 1, 0, 0),
  (57, .ireturn, 1, 0, 0)]
def gc_161 : List gc_O := [
  (0, .iload_n 1, 1, 1, 0), (1, .i2l, 1, 0, 0), (2, .lconst 0, 1, 0, 0), (3, .lconst 1, 1, 1, 0), (4, .invokestatic 71, 3, 107, 3), (7, .ifCond .ne 5, 3, 12, 0),
  (10, .iconst (-1), 1, 1, 1), (11, .ireturn, 1, 0, 0), (12, .aload_n 0, 1, 0, 0), (13, .getfield 59, 3, 11, 35), (16, .iload_n 1, 1, 1, 0), (17, .baload, 1, 0, 0),
  (18, .ifCond .ne 6, 3, 24, 0), (21, .bipush (-3), 2, 3, 1), (23, .ireturn, 1, 0, 0), (24, .iconst 0, 1, 0, 0), (25, .istore_n 2, 1, 2, 0), (26, .iload_n 2, 1, 2, 0),
  (27, .bipush 13, 2, 13, 0), (29, .if_icmp .ge 26, 3, 55, 0), (32, .aload_n 0, 1, 0, 0), (33, .getfield 28, 3, 11, 13), (36, .iload_n 2, 1, 2, 0), (37, .aload_n 0, 1, 0, 0),
  (38, .getfield 62, 3, 11, 36), (41, .bipush 13, 2, 13, 0), (43, .iload_n 1, 1, 1, 0), (44, .imul, 1, 0, 0), (45, .iload_n 2, 1, 2, 0), (46, .iadd, 1, 0, 0),
  (47, .iaload, 1, 0, 0), (48, .iastore, 1, 0, 0), (49, .iinc 2 1, 3, 1, 0), (52, .goto (-26), 3, 26, 0), (55, .aload_n 0, 1, 0, 0), (56, .iconst 0, 1, 0, 0),
  (57, .putfield 116, 3, 11, 19), (60, .aload_n 0, 1, 0, 0), (61, .getfield 28, 3, 11, 13), (64, .bipush 12, 2, 12, 0), (66, .iaload, 1, 0, 0), (67, .ireturn, 1, 0, 0)]
def gc_162 : List gc_O := [
  (0, .iload_n 1, 1, 1, 0), (1, .tableswitch 121 0 10 #[59, 64, 69, 74, 79, 84, 89, 97, 105, 111, 116], 59, 0, 0), (60, .aload_n 0, 1, 0, 0), (61, .getfield 75, 3, 11, 15), (64, .ireturn, 1, 0, 0), (65, .aload_n 0, 1, 0, 0),
  (66, .getfield 110, 3, 11, 3), (69, .ireturn, 1, 0, 0), (70, .aload_n 0, 1, 0, 0), (71, .getfield 113, 3, 11, 4), (74, .ireturn, 1, 0, 0), (75, .aload_n 0, 1, 0, 0),
  (76, .getfield 104, 3, 11, 0), (79, .ireturn, 1, 0, 0), (80, .aload_n 0, 1, 0, 0), (81, .getfield 65, 3, 11, 1), (84, .ireturn, 1, 0, 0), (85, .aload_n 0, 1, 0, 0),
  (86, .getfield 107, 3, 11, 2), (89, .ireturn, 1, 0, 0), (90, .aload_n 0, 1, 0, 0), (91, .getfield 28, 3, 11, 13), (94, .bipush 12, 2, 12, 0), (96, .iaload, 1, 0, 0),
  (97, .ireturn, 1, 0, 0), (98, .aload_n 0, 1, 0, 0), (99, .getfield 28, 3, 11, 13), (102, .bipush 10, 2, 10, 0), (104, .iaload, 1, 0, 0), (105, .ireturn, 1, 0, 0),
  (106, .aload_n 0, 1, 0, 0), (107, .iconst 0, 1, 0, 0), (108, .invokevirtual 153, 3, 122, 1), (111, .ireturn, 1, 0, 0), (112, .aload_n 0, 1, 0, 0), (113, .getfield 116, 3, 11, 19),
  (116, .ireturn, 1, 0, 0), (117, .aload_n 0, 1, 0, 0), (118, .getfield 195, 3, 11, 25), (121, .ireturn, 1, 0, 0), (122, .bipush (-2), 2, 2, 1), (124, .ireturn, 1, 0, 0)]
def gc_163 : List gc_O := [
  (0, .iload_n 0, 1, 0, 0), (1, .iload_n 0, 1, 0, 0), (2, .iconst 1, 1, 1, 0), (3, .iushr, 1, 0, 0), (4, .ldc_w 265, 3, 1431655765, 0), (7, .iand, 1, 0, 0),
  (8, .isub, 1, 0, 0), (9, .istore_n 0, 1, 0, 0), (10, .iload_n 0, 1, 0, 0), (11, .ldc_w 266, 3, 858993459, 0), (14, .iand, 1, 0, 0), (15, .iload_n 0, 1, 0, 0),
  (16, .iconst 2, 1, 2, 0), (17, .iushr, 1, 0, 0), (18, .ldc_w 266, 3, 858993459, 0), (21, .iand, 1, 0, 0), (22, .iadd, 1, 0, 0), (23, .istore_n 0, 1, 0, 0),
  (24, .iload_n 0, 1, 0, 0), (25, .iload_n 0, 1, 0, 0), (26, .iconst 4, 1, 4, 0), (27, .iushr, 1, 0, 0), (28, .iadd, 1, 0, 0), (29, .ldc_w 267, 3, 252645135, 0),
  (32, .iand, 1, 0, 0), (33, .istore_n 0, 1, 0, 0), (34, .iload_n 0, 1, 0, 0), (35, .iload_n 0, 1, 0, 0), (36, .bipush 8, 2, 8, 0), (38, .iushr, 1, 0, 0),
  (39, .iadd, 1, 0, 0), (40, .istore_n 0, 1, 0, 0), (41, .iload_n 0, 1, 0, 0), (42, .iload_n 0, 1, 0, 0), (43, .bipush 16, 2, 16, 0), (45, .iushr, 1, 0, 0),
  (46, .iadd, 1, 0, 0), (47, .istore_n 0, 1, 0, 0), (48, .iload_n 0, 1, 0, 0), (49, .bipush 63, 2, 63, 0), (51, .iand, 1, 0, 0), (52, .ireturn, 1, 0, 0)]
def gc_164_0 : List gc_O := [
  (0, .new 7, 3, 10, 0), (3, .dup, 1, 0, 0), (4, .invokespecial 9, 3, 63, 0), (7, .astore_n 1, 1, 1, 0), (8, .new 10, 3, 11, 0), (11, .dup, 1, 0, 0),
  (12, .invokespecial 12, 3, 106, 0), (15, .astore_n 2, 1, 2, 0), (16, .iconst 0, 1, 0, 0), (17, .istore_n 3, 1, 3, 0), (18, .iload_n 3, 1, 3, 0), (19, .aload_n 0, 1, 0, 0),
  (20, .arraylength, 1, 0, 0), (21, .iconst 5, 1, 5, 0), (22, .isub, 1, 0, 0), (23, .if_icmp .gt 983, 3, 1006, 0), (26, .aload_n 0, 1, 0, 0), (27, .iload_n 3, 1, 3, 0),
  (28, .iaload, 1, 0, 0), (29, .bipush 31, 2, 31, 0), (31, .iand, 1, 0, 0), (32, .tableswitch 968 0 28 #[132, 155, 168, 181, 194, 217, 240, 273, 286, 325, 348, 361, 384, 423, 436, 485, 518, 541, 564, 623, 636, 659, 719, 789, 822, 876, 899, 922, 945], 132, 0, 0), (164, .aload_n 1, 1, 1, 0), (165, .aload_n 0, 1, 0, 0),
  (166, .iload_n 3, 1, 3, 0), (167, .iconst 1, 1, 1, 0), (168, .iadd, 1, 0, 0), (169, .iaload, 1, 0, 0), (170, .invokevirtual 13, 3, 64, 1), (173, .aload_n 2, 1, 2, 0),
  (174, .aload_n 0, 1, 0, 0), (175, .iload_n 3, 1, 3, 0), (176, .iconst 1, 1, 1, 0), (177, .iadd, 1, 0, 0), (178, .iaload, 1, 0, 0), (179, .invokevirtual 17, 3, 110, 1),
  (182, .if_icmp .eq 818, 3, 1000, 0), (185, .iconst 0, 1, 0, 0), (186, .ireturn, 1, 0, 0), (187, .aload_n 1, 1, 1, 0)]
def gc_164_1 : List gc_O := [
  (188, .invokevirtual 18, 3, 65, 0), (191, .aload_n 2, 1, 2, 0), (192, .invokevirtual 22, 3, 111, 0), (195, .if_icmp .eq 805, 3, 1000, 0), (198, .iconst 0, 1, 0, 0), (199, .ireturn, 1, 0, 0),
  (200, .aload_n 1, 1, 1, 0), (201, .invokevirtual 23, 3, 66, 0), (204, .aload_n 2, 1, 2, 0), (205, .invokevirtual 26, 3, 116, 0), (208, .if_icmp .eq 792, 3, 1000, 0), (211, .iconst 0, 1, 0, 0),
  (212, .ireturn, 1, 0, 0), (213, .aload_n 1, 1, 1, 0), (214, .invokevirtual 27, 3, 67, 0), (217, .aload_n 2, 1, 2, 0), (218, .invokevirtual 30, 3, 117, 0), (221, .if_icmp .eq 779, 3, 1000, 0),
  (224, .iconst 0, 1, 0, 0), (225, .ireturn, 1, 0, 0), (226, .aload_n 1, 1, 1, 0), (227, .aload_n 0, 1, 0, 0), (228, .iload_n 3, 1, 3, 0), (229, .iconst 1, 1, 1, 0),
  (230, .iadd, 1, 0, 0), (231, .iaload, 1, 0, 0), (232, .invokevirtual 31, 3, 68, 1), (235, .aload_n 2, 1, 2, 0), (236, .aload_n 0, 1, 0, 0), (237, .iload_n 3, 1, 3, 0),
  (238, .iconst 1, 1, 1, 0), (239, .iadd, 1, 0, 0), (240, .iaload, 1, 0, 0), (241, .invokevirtual 34, 3, 119, 1), (244, .if_icmp .eq 756, 3, 1000, 0), (247, .iconst 0, 1, 0, 0),
  (248, .ireturn, 1, 0, 0), (249, .aload_n 1, 1, 1, 0), (250, .aload_n 0, 1, 0, 0), (251, .iload_n 3, 1, 3, 0)]
def gc_164_2 : List gc_O := [
  (252, .iconst 1, 1, 1, 0), (253, .iadd, 1, 0, 0), (254, .iaload, 1, 0, 0), (255, .invokevirtual 35, 3, 69, 1), (258, .aload_n 2, 1, 2, 0), (259, .aload_n 0, 1, 0, 0),
  (260, .iload_n 3, 1, 3, 0), (261, .iconst 1, 1, 1, 0), (262, .iadd, 1, 0, 0), (263, .iaload, 1, 0, 0), (264, .invokevirtual 38, 3, 120, 1), (267, .if_icmp .eq 733, 3, 1000, 0),
  (270, .iconst 0, 1, 0, 0), (271, .ireturn, 1, 0, 0), (272, .aload_n 1, 1, 1, 0), (273, .aload_n 0, 1, 0, 0), (274, .iload_n 3, 1, 3, 0), (275, .iconst 1, 1, 1, 0),
  (276, .iadd, 1, 0, 0), (277, .iaload, 1, 0, 0), (278, .aload_n 0, 1, 0, 0), (279, .iload_n 3, 1, 3, 0), (280, .iconst 2, 1, 2, 0), (281, .iadd, 1, 0, 0),
  (282, .iaload, 1, 0, 0), (283, .invokevirtual 39, 3, 70, 2), (286, .aload_n 2, 1, 2, 0), (287, .aload_n 0, 1, 0, 0), (288, .iload_n 3, 1, 3, 0), (289, .iconst 1, 1, 1, 0),
  (290, .iadd, 1, 0, 0), (291, .iaload, 1, 0, 0), (292, .aload_n 0, 1, 0, 0), (293, .iload_n 3, 1, 3, 0), (294, .iconst 2, 1, 2, 0), (295, .iadd, 1, 0, 0),
  (296, .iaload, 1, 0, 0), (297, .invokevirtual 43, 3, 123, 2), (300, .if_icmp .eq 700, 3, 1000, 0), (303, .iconst 0, 1, 0, 0)]
def gc_164_3 : List gc_O := [
  (304, .ireturn, 1, 0, 0), (305, .aload_n 1, 1, 1, 0), (306, .invokevirtual 44, 3, 71, 0), (309, .aload_n 2, 1, 2, 0), (310, .invokevirtual 47, 3, 124, 0), (313, .if_icmp .eq 687, 3, 1000, 0),
  (316, .iconst 0, 1, 0, 0), (317, .ireturn, 1, 0, 0), (318, .aload_n 1, 1, 1, 0), (319, .aload_n 0, 1, 0, 0), (320, .iload_n 3, 1, 3, 0), (321, .iconst 1, 1, 1, 0),
  (322, .iadd, 1, 0, 0), (323, .iaload, 1, 0, 0), (324, .ifCond .eq 7, 3, 331, 0), (327, .iconst 1, 1, 1, 0), (328, .goto 4, 3, 332, 0), (331, .iconst 0, 1, 0, 0),
  (332, .invokevirtual 48, 3, 72, 1), (335, .aload_n 2, 1, 2, 0), (336, .aload_n 0, 1, 0, 0), (337, .iload_n 3, 1, 3, 0), (338, .iconst 1, 1, 1, 0), (339, .iadd, 1, 0, 0),
  (340, .iaload, 1, 0, 0), (341, .ifCond .eq 7, 3, 348, 0), (344, .iconst 1, 1, 1, 0), (345, .goto 4, 3, 349, 0), (348, .iconst 0, 1, 0, 0), (349, .invokevirtual 52, 3, 131, 1),
  (352, .if_icmp .eq 648, 3, 1000, 0), (355, .iconst 0, 1, 0, 0), (356, .ireturn, 1, 0, 0), (357, .aload_n 1, 1, 1, 0), (358, .aload_n 0, 1, 0, 0), (359, .iload_n 3, 1, 3, 0),
  (360, .iconst 1, 1, 1, 0), (361, .iadd, 1, 0, 0), (362, .iaload, 1, 0, 0), (363, .invokevirtual 53, 3, 73, 1)]
def gc_164_4 : List gc_O := [
  (366, .aload_n 2, 1, 2, 0), (367, .aload_n 0, 1, 0, 0), (368, .iload_n 3, 1, 3, 0), (369, .iconst 1, 1, 1, 0), (370, .iadd, 1, 0, 0), (371, .iaload, 1, 0, 0),
  (372, .invokevirtual 56, 3, 132, 1), (375, .if_icmp .eq 625, 3, 1000, 0), (378, .iconst 0, 1, 0, 0), (379, .ireturn, 1, 0, 0), (380, .aload_n 1, 1, 1, 0), (381, .invokevirtual 57, 3, 74, 0),
  (384, .aload_n 2, 1, 2, 0), (385, .invokevirtual 60, 3, 133, 0), (388, .if_icmp .eq 612, 3, 1000, 0), (391, .iconst 0, 1, 0, 0), (392, .ireturn, 1, 0, 0), (393, .aload_n 1, 1, 1, 0),
  (394, .aload_n 0, 1, 0, 0), (395, .iload_n 3, 1, 3, 0), (396, .iconst 1, 1, 1, 0), (397, .iadd, 1, 0, 0), (398, .iaload, 1, 0, 0), (399, .invokevirtual 61, 3, 75, 1),
  (402, .aload_n 2, 1, 2, 0), (403, .aload_n 0, 1, 0, 0), (404, .iload_n 3, 1, 3, 0), (405, .iconst 1, 1, 1, 0), (406, .iadd, 1, 0, 0), (407, .iaload, 1, 0, 0),
  (408, .invokevirtual 64, 3, 136, 1), (411, .if_icmp .eq 589, 3, 1000, 0), (414, .iconst 0, 1, 0, 0), (415, .ireturn, 1, 0, 0), (416, .aload_n 1, 1, 1, 0), (417, .aload_n 0, 1, 0, 0),
  (418, .iload_n 3, 1, 3, 0), (419, .iconst 1, 1, 1, 0), (420, .iadd, 1, 0, 0), (421, .iaload, 1, 0, 0)]
def gc_164_5 : List gc_O := [
  (422, .ifCond .eq 7, 3, 429, 0), (425, .iconst 1, 1, 1, 0), (426, .goto 4, 3, 430, 0), (429, .iconst 0, 1, 0, 0), (430, .invokevirtual 65, 3, 76, 1), (433, .aload_n 2, 1, 2, 0),
  (434, .aload_n 0, 1, 0, 0), (435, .iload_n 3, 1, 3, 0), (436, .iconst 1, 1, 1, 0), (437, .iadd, 1, 0, 0), (438, .iaload, 1, 0, 0), (439, .ifCond .eq 7, 3, 446, 0),
  (442, .iconst 1, 1, 1, 0), (443, .goto 4, 3, 447, 0), (446, .iconst 0, 1, 0, 0), (447, .invokevirtual 68, 3, 138, 1), (450, .if_icmp .eq 550, 3, 1000, 0), (453, .iconst 0, 1, 0, 0),
  (454, .ireturn, 1, 0, 0), (455, .aload_n 1, 1, 1, 0), (456, .invokevirtual 69, 3, 77, 0), (459, .aload_n 2, 1, 2, 0), (460, .invokevirtual 72, 3, 139, 0), (463, .if_icmp .eq 537, 3, 1000, 0),
  (466, .iconst 0, 1, 0, 0), (467, .ireturn, 1, 0, 0), (468, .aload_n 1, 1, 1, 0), (469, .aload_n 0, 1, 0, 0), (470, .iload_n 3, 1, 3, 0), (471, .iconst 1, 1, 1, 0),
  (472, .iadd, 1, 0, 0), (473, .iaload, 1, 0, 0), (474, .aload_n 0, 1, 0, 0), (475, .iload_n 3, 1, 3, 0), (476, .iconst 2, 1, 2, 0), (477, .iadd, 1, 0, 0),
  (478, .iaload, 1, 0, 0), (479, .ifCond .eq 7, 3, 486, 0), (482, .iconst 1, 1, 1, 0), (483, .goto 4, 3, 487, 0)]
def gc_164_6 : List gc_O := [
  (486, .iconst 0, 1, 0, 0), (487, .invokevirtual 73, 3, 78, 2), (490, .aload_n 2, 1, 2, 0), (491, .aload_n 0, 1, 0, 0), (492, .iload_n 3, 1, 3, 0), (493, .iconst 1, 1, 1, 0),
  (494, .iadd, 1, 0, 0), (495, .iaload, 1, 0, 0), (496, .aload_n 0, 1, 0, 0), (497, .iload_n 3, 1, 3, 0), (498, .iconst 2, 1, 2, 0), (499, .iadd, 1, 0, 0),
  (500, .iaload, 1, 0, 0), (501, .ifCond .eq 7, 3, 508, 0), (504, .iconst 1, 1, 1, 0), (505, .goto 4, 3, 509, 0), (508, .iconst 0, 1, 0, 0), (509, .invokevirtual 77, 3, 142, 2),
  (512, .if_icmp .eq 488, 3, 1000, 0), (515, .iconst 0, 1, 0, 0), (516, .ireturn, 1, 0, 0), (517, .aload_n 1, 1, 1, 0), (518, .aload_n 0, 1, 0, 0), (519, .iload_n 3, 1, 3, 0),
  (520, .iconst 1, 1, 1, 0), (521, .iadd, 1, 0, 0), (522, .iaload, 1, 0, 0), (523, .aload_n 0, 1, 0, 0), (524, .iload_n 3, 1, 3, 0), (525, .iconst 2, 1, 2, 0),
  (526, .iadd, 1, 0, 0), (527, .iaload, 1, 0, 0), (528, .invokevirtual 78, 3, 79, 2), (531, .aload_n 2, 1, 2, 0), (532, .aload_n 0, 1, 0, 0), (533, .iload_n 3, 1, 3, 0),
  (534, .iconst 1, 1, 1, 0), (535, .iadd, 1, 0, 0), (536, .iaload, 1, 0, 0), (537, .aload_n 0, 1, 0, 0)]
def gc_164_7 : List gc_O := [
  (538, .iload_n 3, 1, 3, 0), (539, .iconst 2, 1, 2, 0), (540, .iadd, 1, 0, 0), (541, .iaload, 1, 0, 0), (542, .invokevirtual 81, 3, 144, 2), (545, .if_icmp .eq 455, 3, 1000, 0),
  (548, .iconst 0, 1, 0, 0), (549, .ireturn, 1, 0, 0), (550, .aload_n 1, 1, 1, 0), (551, .aload_n 0, 1, 0, 0), (552, .iload_n 3, 1, 3, 0), (553, .iconst 1, 1, 1, 0),
  (554, .iadd, 1, 0, 0), (555, .iaload, 1, 0, 0), (556, .invokevirtual 82, 3, 80, 1), (559, .aload_n 2, 1, 2, 0), (560, .aload_n 0, 1, 0, 0), (561, .iload_n 3, 1, 3, 0),
  (562, .iconst 1, 1, 1, 0), (563, .iadd, 1, 0, 0), (564, .iaload, 1, 0, 0), (565, .invokevirtual 85, 3, 145, 1), (568, .if_icmp .eq 432, 3, 1000, 0), (571, .iconst 0, 1, 0, 0),
  (572, .ireturn, 1, 0, 0), (573, .aload_n 1, 1, 1, 0), (574, .aload_n 0, 1, 0, 0), (575, .iload_n 3, 1, 3, 0), (576, .iconst 1, 1, 1, 0), (577, .iadd, 1, 0, 0),
  (578, .iaload, 1, 0, 0), (579, .invokevirtual 86, 3, 81, 1), (582, .aload_n 2, 1, 2, 0), (583, .aload_n 0, 1, 0, 0), (584, .iload_n 3, 1, 3, 0), (585, .iconst 1, 1, 1, 0),
  (586, .iadd, 1, 0, 0), (587, .iaload, 1, 0, 0), (588, .invokevirtual 89, 3, 146, 1), (591, .if_icmp .eq 409, 3, 1000, 0)]
def gc_164_8 : List gc_O := [
  (594, .iconst 0, 1, 0, 0), (595, .ireturn, 1, 0, 0), (596, .aload_n 1, 1, 1, 0), (597, .aload_n 0, 1, 0, 0), (598, .iload_n 3, 1, 3, 0), (599, .iconst 1, 1, 1, 0),
  (600, .iadd, 1, 0, 0), (601, .iaload, 1, 0, 0), (602, .aload_n 0, 1, 0, 0), (603, .iload_n 3, 1, 3, 0), (604, .iconst 2, 1, 2, 0), (605, .iadd, 1, 0, 0),
  (606, .iaload, 1, 0, 0), (607, .aload_n 0, 1, 0, 0), (608, .iload_n 3, 1, 3, 0), (609, .iconst 3, 1, 3, 0), (610, .iadd, 1, 0, 0), (611, .iaload, 1, 0, 0),
  (612, .ifCond .eq 7, 3, 619, 0), (615, .iconst 1, 1, 1, 0), (616, .goto 4, 3, 620, 0), (619, .iconst 0, 1, 0, 0), (620, .invokevirtual 90, 3, 82, 3), (623, .aload_n 2, 1, 2, 0),
  (624, .aload_n 0, 1, 0, 0), (625, .iload_n 3, 1, 3, 0), (626, .iconst 1, 1, 1, 0), (627, .iadd, 1, 0, 0), (628, .iaload, 1, 0, 0), (629, .aload_n 0, 1, 0, 0),
  (630, .iload_n 3, 1, 3, 0), (631, .iconst 2, 1, 2, 0), (632, .iadd, 1, 0, 0), (633, .iaload, 1, 0, 0), (634, .aload_n 0, 1, 0, 0), (635, .iload_n 3, 1, 3, 0),
  (636, .iconst 3, 1, 3, 0), (637, .iadd, 1, 0, 0), (638, .iaload, 1, 0, 0), (639, .ifCond .eq 7, 3, 646, 0)]
def gc_164_9 : List gc_O := [
  (642, .iconst 1, 1, 1, 0), (643, .goto 4, 3, 647, 0), (646, .iconst 0, 1, 0, 0), (647, .invokevirtual 94, 3, 147, 3), (650, .if_icmp .eq 350, 3, 1000, 0), (653, .iconst 0, 1, 0, 0),
  (654, .ireturn, 1, 0, 0), (655, .aload_n 1, 1, 1, 0), (656, .invokevirtual 95, 3, 83, 0), (659, .aload_n 2, 1, 2, 0), (660, .invokevirtual 98, 3, 148, 0), (663, .if_icmp .eq 337, 3, 1000, 0),
  (666, .iconst 0, 1, 0, 0), (667, .ireturn, 1, 0, 0), (668, .aload_n 1, 1, 1, 0), (669, .aload_n 0, 1, 0, 0), (670, .iload_n 3, 1, 3, 0), (671, .iconst 1, 1, 1, 0),
  (672, .iadd, 1, 0, 0), (673, .iaload, 1, 0, 0), (674, .invokevirtual 99, 3, 84, 1), (677, .aload_n 2, 1, 2, 0), (678, .aload_n 0, 1, 0, 0), (679, .iload_n 3, 1, 3, 0),
  (680, .iconst 1, 1, 1, 0), (681, .iadd, 1, 0, 0), (682, .iaload, 1, 0, 0), (683, .invokevirtual 102, 3, 150, 1), (686, .if_icmp .eq 314, 3, 1000, 0), (689, .iconst 0, 1, 0, 0),
  (690, .ireturn, 1, 0, 0), (691, .aload_n 1, 1, 1, 0), (692, .aload_n 0, 1, 0, 0), (693, .iload_n 3, 1, 3, 0), (694, .iconst 1, 1, 1, 0), (695, .iadd, 1, 0, 0),
  (696, .iaload, 1, 0, 0), (697, .aload_n 0, 1, 0, 0), (698, .iload_n 3, 1, 3, 0), (699, .iconst 2, 1, 2, 0)]
def gc_164_10 : List gc_O := [
  (700, .iadd, 1, 0, 0), (701, .iaload, 1, 0, 0), (702, .aload_n 0, 1, 0, 0), (703, .iload_n 3, 1, 3, 0), (704, .iconst 3, 1, 3, 0), (705, .iadd, 1, 0, 0),
  (706, .iaload, 1, 0, 0), (707, .ifCond .eq 7, 3, 714, 0), (710, .iconst 1, 1, 1, 0), (711, .goto 4, 3, 715, 0), (714, .iconst 0, 1, 0, 0), (715, .invokevirtual 103, 3, 85, 3),
  (718, .aload_n 2, 1, 2, 0), (719, .aload_n 0, 1, 0, 0), (720, .iload_n 3, 1, 3, 0), (721, .iconst 1, 1, 1, 0), (722, .iadd, 1, 0, 0), (723, .iaload, 1, 0, 0),
  (724, .aload_n 0, 1, 0, 0), (725, .iload_n 3, 1, 3, 0), (726, .iconst 2, 1, 2, 0), (727, .iadd, 1, 0, 0), (728, .iaload, 1, 0, 0), (729, .aload_n 0, 1, 0, 0),
  (730, .iload_n 3, 1, 3, 0), (731, .iconst 3, 1, 3, 0), (732, .iadd, 1, 0, 0), (733, .iaload, 1, 0, 0), (734, .ifCond .eq 7, 3, 741, 0), (737, .iconst 1, 1, 1, 0),
  (738, .goto 4, 3, 742, 0), (741, .iconst 0, 1, 0, 0), (742, .invokevirtual 107, 3, 152, 3), (745, .lcmp, 1, 0, 0), (746, .ifCond .eq 254, 3, 1000, 0), (749, .iconst 0, 1, 0, 0),
  (750, .ireturn, 1, 0, 0), (751, .aload_n 1, 1, 1, 0), (752, .aload_n 0, 1, 0, 0), (753, .iload_n 3, 1, 3, 0)]
def gc_164_11 : List gc_O := [
  (754, .iconst 1, 1, 1, 0), (755, .iadd, 1, 0, 0), (756, .iaload, 1, 0, 0), (757, .aload_n 0, 1, 0, 0), (758, .iload_n 3, 1, 3, 0), (759, .iconst 2, 1, 2, 0),
  (760, .iadd, 1, 0, 0), (761, .iaload, 1, 0, 0), (762, .aload_n 0, 1, 0, 0), (763, .iload_n 3, 1, 3, 0), (764, .iconst 3, 1, 3, 0), (765, .iadd, 1, 0, 0),
  (766, .iaload, 1, 0, 0), (767, .aload_n 0, 1, 0, 0), (768, .iload_n 3, 1, 3, 0), (769, .iconst 4, 1, 4, 0), (770, .iadd, 1, 0, 0), (771, .iaload, 1, 0, 0),
  (772, .ifCond .eq 7, 3, 779, 0), (775, .iconst 1, 1, 1, 0), (776, .goto 4, 3, 780, 0), (779, .iconst 0, 1, 0, 0), (780, .invokevirtual 108, 3, 86, 4), (783, .aload_n 2, 1, 2, 0),
  (784, .aload_n 0, 1, 0, 0), (785, .iload_n 3, 1, 3, 0), (786, .iconst 1, 1, 1, 0), (787, .iadd, 1, 0, 0), (788, .iaload, 1, 0, 0), (789, .aload_n 0, 1, 0, 0),
  (790, .iload_n 3, 1, 3, 0), (791, .iconst 2, 1, 2, 0), (792, .iadd, 1, 0, 0), (793, .iaload, 1, 0, 0), (794, .aload_n 0, 1, 0, 0), (795, .iload_n 3, 1, 3, 0),
  (796, .iconst 3, 1, 3, 0), (797, .iadd, 1, 0, 0), (798, .iaload, 1, 0, 0), (799, .aload_n 0, 1, 0, 0)]
def gc_164_12 : List gc_O := [
  (800, .iload_n 3, 1, 3, 0), (801, .iconst 4, 1, 4, 0), (802, .iadd, 1, 0, 0), (803, .iaload, 1, 0, 0), (804, .ifCond .eq 7, 3, 811, 0), (807, .iconst 1, 1, 1, 0),
  (808, .goto 4, 3, 812, 0), (811, .iconst 0, 1, 0, 0), (812, .invokevirtual 112, 3, 153, 4), (815, .lcmp, 1, 0, 0), (816, .ifCond .eq 184, 3, 1000, 0), (819, .iconst 0, 1, 0, 0),
  (820, .ireturn, 1, 0, 0), (821, .aload_n 1, 1, 1, 0), (822, .aload_n 0, 1, 0, 0), (823, .iload_n 3, 1, 3, 0), (824, .iconst 1, 1, 1, 0), (825, .iadd, 1, 0, 0),
  (826, .iaload, 1, 0, 0), (827, .aload_n 0, 1, 0, 0), (828, .iload_n 3, 1, 3, 0), (829, .iconst 2, 1, 2, 0), (830, .iadd, 1, 0, 0), (831, .iaload, 1, 0, 0),
  (832, .invokevirtual 113, 3, 87, 2), (835, .aload_n 2, 1, 2, 0), (836, .aload_n 0, 1, 0, 0), (837, .iload_n 3, 1, 3, 0), (838, .iconst 1, 1, 1, 0), (839, .iadd, 1, 0, 0),
  (840, .iaload, 1, 0, 0), (841, .aload_n 0, 1, 0, 0), (842, .iload_n 3, 1, 3, 0), (843, .iconst 2, 1, 2, 0), (844, .iadd, 1, 0, 0), (845, .iaload, 1, 0, 0),
  (846, .invokevirtual 116, 3, 157, 2), (849, .if_icmp .eq 151, 3, 1000, 0), (852, .iconst 0, 1, 0, 0), (853, .ireturn, 1, 0, 0)]
def gc_164_13 : List gc_O := [
  (854, .aload_n 1, 1, 1, 0), (855, .aload_n 0, 1, 0, 0), (856, .iload_n 3, 1, 3, 0), (857, .iconst 1, 1, 1, 0), (858, .iadd, 1, 0, 0), (859, .iaload, 1, 0, 0),
  (860, .i2l, 1, 0, 0), (861, .bipush 32, 2, 32, 0), (863, .lshl, 1, 0, 0), (864, .aload_n 0, 1, 0, 0), (865, .iload_n 3, 1, 3, 0), (866, .iconst 2, 1, 2, 0),
  (867, .iadd, 1, 0, 0), (868, .iaload, 1, 0, 0), (869, .i2l, 1, 0, 0), (870, .ldc2_w 117, 3, 4294967295, 0), (873, .land, 1, 0, 0), (874, .lor, 1, 0, 0),
  (875, .invokevirtual 119, 3, 88, 1), (878, .aload_n 2, 1, 2, 0), (879, .aload_n 0, 1, 0, 0), (880, .iload_n 3, 1, 3, 0), (881, .iconst 1, 1, 1, 0), (882, .iadd, 1, 0, 0),
  (883, .iaload, 1, 0, 0), (884, .i2l, 1, 0, 0), (885, .bipush 32, 2, 32, 0), (887, .lshl, 1, 0, 0), (888, .aload_n 0, 1, 0, 0), (889, .iload_n 3, 1, 3, 0),
  (890, .iconst 2, 1, 2, 0), (891, .iadd, 1, 0, 0), (892, .iaload, 1, 0, 0), (893, .i2l, 1, 0, 0), (894, .ldc2_w 117, 3, 4294967295, 0), (897, .land, 1, 0, 0),
  (898, .lor, 1, 0, 0), (899, .invokevirtual 123, 3, 158, 1), (902, .lcmp, 1, 0, 0), (903, .ifCond .eq 97, 3, 1000, 0)]
def gc_164_14 : List gc_O := [
  (906, .iconst 0, 1, 0, 0), (907, .ireturn, 1, 0, 0), (908, .aload_n 1, 1, 1, 0), (909, .aload_n 0, 1, 0, 0), (910, .iload_n 3, 1, 3, 0), (911, .iconst 1, 1, 1, 0),
  (912, .iadd, 1, 0, 0), (913, .iaload, 1, 0, 0), (914, .invokevirtual 124, 3, 89, 1), (917, .aload_n 2, 1, 2, 0), (918, .aload_n 0, 1, 0, 0), (919, .iload_n 3, 1, 3, 0),
  (920, .iconst 1, 1, 1, 0), (921, .iadd, 1, 0, 0), (922, .iaload, 1, 0, 0), (923, .invokevirtual 127, 3, 159, 1), (926, .if_icmp .eq 74, 3, 1000, 0), (929, .iconst 0, 1, 0, 0),
  (930, .ireturn, 1, 0, 0), (931, .aload_n 1, 1, 1, 0), (932, .aload_n 0, 1, 0, 0), (933, .iload_n 3, 1, 3, 0), (934, .iconst 1, 1, 1, 0), (935, .iadd, 1, 0, 0),
  (936, .iaload, 1, 0, 0), (937, .invokevirtual 128, 3, 90, 1), (940, .aload_n 2, 1, 2, 0), (941, .aload_n 0, 1, 0, 0), (942, .iload_n 3, 1, 3, 0), (943, .iconst 1, 1, 1, 0),
  (944, .iadd, 1, 0, 0), (945, .iaload, 1, 0, 0), (946, .invokevirtual 131, 3, 160, 1), (949, .if_icmp .eq 51, 3, 1000, 0), (952, .iconst 0, 1, 0, 0), (953, .ireturn, 1, 0, 0),
  (954, .aload_n 1, 1, 1, 0), (955, .aload_n 0, 1, 0, 0), (956, .iload_n 3, 1, 3, 0), (957, .iconst 1, 1, 1, 0)]
def gc_164_15 : List gc_O := [
  (958, .iadd, 1, 0, 0), (959, .iaload, 1, 0, 0), (960, .invokevirtual 132, 3, 91, 1), (963, .aload_n 2, 1, 2, 0), (964, .aload_n 0, 1, 0, 0), (965, .iload_n 3, 1, 3, 0),
  (966, .iconst 1, 1, 1, 0), (967, .iadd, 1, 0, 0), (968, .iaload, 1, 0, 0), (969, .invokevirtual 135, 3, 161, 1), (972, .if_icmp .eq 28, 3, 1000, 0), (975, .iconst 0, 1, 0, 0),
  (976, .ireturn, 1, 0, 0), (977, .aload_n 1, 1, 1, 0), (978, .aload_n 0, 1, 0, 0), (979, .iload_n 3, 1, 3, 0), (980, .iconst 1, 1, 1, 0), (981, .iadd, 1, 0, 0),
  (982, .iaload, 1, 0, 0), (983, .invokevirtual 136, 3, 92, 1), (986, .aload_n 2, 1, 2, 0), (987, .aload_n 0, 1, 0, 0), (988, .iload_n 3, 1, 3, 0), (989, .iconst 1, 1, 1, 0),
  (990, .iadd, 1, 0, 0), (991, .iaload, 1, 0, 0), (992, .invokevirtual 139, 3, 162, 1), (995, .if_icmp .eq 5, 3, 1000, 0), (998, .iconst 0, 1, 0, 0), (999, .ireturn, 1, 0, 0),
  (1000, .iinc 3 5, 3, 5, 0), (1003, .goto (-985), 3, 18, 0), (1006, .iconst 1, 1, 1, 0), (1007, .ireturn, 1, 0, 0)]
def gc_164 : List gc_O := gc_164_0 ++ (gc_164_1 ++ (gc_164_2 ++ (gc_164_3 ++ (gc_164_4 ++ (gc_164_5 ++ (gc_164_6 ++ (gc_164_7 ++ (gc_164_8 ++ (gc_164_9 ++ (gc_164_10 ++ (gc_164_11 ++ (gc_164_12 ++ (gc_164_13 ++ (gc_164_14 ++ (gc_164_15)))))))))))))))
def gc_l : List (List gc_O) := [gc_0, gc_1, gc_2, gc_3, gc_4, gc_5, gc_6, gc_7, gc_8, gc_9, gc_10, gc_11, gc_12, gc_13, gc_14, gc_15, gc_16, gc_17, gc_18, gc_19, gc_20, gc_21, gc_22, gc_23, gc_24, gc_25, gc_26, gc_27, gc_28, gc_29, gc_30, gc_31, gc_32, gc_33, gc_34, gc_35, gc_36, gc_37, gc_38, gc_39, gc_40, gc_41, gc_42, gc_43, gc_44, gc_45, gc_46, gc_47, gc_48, gc_49, gc_50, gc_51, gc_52, gc_53, gc_54, gc_55, gc_56, gc_57, gc_58, gc_59, gc_60, gc_61, gc_62, gc_63, gc_64, gc_65, gc_66, gc_67, gc_68, gc_69, gc_70, gc_71, gc_72, gc_73, gc_74, gc_75, gc_76, gc_77, gc_78, gc_79, gc_80, gc_81, gc_82, gc_83, gc_84, gc_85, gc_86, gc_87, gc_88, gc_89, gc_90, gc_91, gc_92, gc_93, gc_94, gc_95, gc_96, gc_97, gc_98, gc_99, gc_100, gc_101, gc_102, gc_103, gc_104, gc_105, gc_106, gc_107, gc_108, gc_109, gc_110, gc_111, gc_112, gc_113, gc_114, gc_115, gc_116, gc_117, gc_118, gc_119, gc_120, gc_121, gc_122, gc_123, gc_124, gc_125, gc_126, gc_127, gc_128, gc_129, gc_130, gc_131, gc_132, gc_133, gc_134, gc_135, gc_136, gc_137, gc_138, gc_139, gc_140, gc_141, gc_142, gc_143, gc_144, gc_145, gc_146, gc_147, gc_148, gc_149, gc_150, gc_151, gc_152, gc_153, gc_154, gc_155, gc_156, gc_157, gc_158, gc_159, gc_160, gc_161, gc_162, gc_163, gc_164]
def gc_C (i : Nat) : List gc_O := gc_l.getD i []
end
section
set_option maxRecDepth 100000 in
theorem gk_0 : ∀ r ∈ gc_0, gc_ok 0 r = true := by decide +kernel
set_option maxRecDepth 100000 in
theorem gk_1 : ∀ r ∈ gc_1, gc_ok 1 r = true := by decide +kernel
set_option maxRecDepth 100000 in
theorem gk_2 : ∀ r ∈ gc_2, gc_ok 2 r = true := by decide +kernel
set_option maxRecDepth 100000 in
theorem gk_3 : ∀ r ∈ gc_3, gc_ok 3 r = true := by decide +kernel
set_option maxRecDepth 100000 in
theorem gk_4 : ∀ r ∈ gc_4, gc_ok 4 r = true := by decide +kernel
set_option maxRecDepth 100000 in
theorem gk_5 : ∀ r ∈ gc_5, gc_ok 5 r = true := by decide +kernel
set_option maxRecDepth 100000 in
theorem gk_6 : ∀ r ∈ gc_6, gc_ok 6 r = true := by decide +kernel
set_option maxRecDepth 100000 in
theorem gk_7 : ∀ r ∈ gc_7, gc_ok 7 r = true := by decide +kernel
set_option maxRecDepth 100000 in
theorem gk_8 : ∀ r ∈ gc_8, gc_ok 8 r = true := by decide +kernel
set_option maxRecDepth 100000 in
theorem gk_9 : ∀ r ∈ gc_9, gc_ok 9 r = true := by decide +kernel
set_option maxRecDepth 100000 in
theorem gk_10 : ∀ r ∈ gc_10, gc_ok 10 r = true := by decide +kernel
set_option maxRecDepth 100000 in
theorem gk_11 : ∀ r ∈ gc_11, gc_ok 11 r = true := by decide +kernel
set_option maxRecDepth 100000 in
theorem gk_12 : ∀ r ∈ gc_12, gc_ok 12 r = true := by decide +kernel
set_option maxRecDepth 100000 in
theorem gk_13 : ∀ r ∈ gc_13, gc_ok 13 r = true := by decide +kernel
set_option maxRecDepth 100000 in
theorem gk_14 : ∀ r ∈ gc_14, gc_ok 14 r = true := by decide +kernel
set_option maxRecDepth 100000 in
theorem gk_15 : ∀ r ∈ gc_15, gc_ok 15 r = true := by decide +kernel
set_option maxRecDepth 100000 in
theorem gk_16 : ∀ r ∈ gc_16, gc_ok 16 r = true := by decide +kernel
set_option maxRecDepth 100000 in
theorem gk_17 : ∀ r ∈ gc_17, gc_ok 17 r = true := by decide +kernel
set_option maxRecDepth 100000 in
theorem gk_18 : ∀ r ∈ gc_18, gc_ok 18 r = true := by decide +kernel
set_option maxRecDepth 100000 in
theorem gk_19 : ∀ r ∈ gc_19, gc_ok 19 r = true := by decide +kernel
set_option maxRecDepth 100000 in
theorem gk_20 : ∀ r ∈ gc_20, gc_ok 20 r = true := by decide +kernel
set_option maxRecDepth 100000 in
theorem gk_21 : ∀ r ∈ gc_21, gc_ok 21 r = true := by decide +kernel
set_option maxRecDepth 100000 in
theorem gk_22 : ∀ r ∈ gc_22, gc_ok 22 r = true := by decide +kernel
set_option maxRecDepth 100000 in
theorem gk_23 : ∀ r ∈ gc_23, gc_ok 23 r = true := by decide +kernel
set_option maxRecDepth 100000 in
theorem gk_24 : ∀ r ∈ gc_24, gc_ok 24 r = true := by decide +kernel
set_option maxRecDepth 100000 in
theorem gk_25 : ∀ r ∈ gc_25, gc_ok 25 r = true := by decide +kernel
set_option maxRecDepth 100000 in
theorem gk_26 : ∀ r ∈ gc_26, gc_ok 26 r = true := by decide +kernel
set_option maxRecDepth 100000 in
theorem gk_27 : ∀ r ∈ gc_27, gc_ok 27 r = true := by decide +kernel
set_option maxRecDepth 100000 in
theorem gk_28 : ∀ r ∈ gc_28, gc_ok 28 r = true := by decide +kernel
set_option maxRecDepth 100000 in
theorem gk_29 : ∀ r ∈ gc_29, gc_ok 29 r = true := by decide +kernel
set_option maxRecDepth 100000 in
theorem gk_30 : ∀ r ∈ gc_30, gc_ok 30 r = true := by decide +kernel
set_option maxRecDepth 100000 in
theorem gk_31 : ∀ r ∈ gc_31, gc_ok 31 r = true := by decide +kernel
set_option maxRecDepth 100000 in
theorem gk_32 : ∀ r ∈ gc_32, gc_ok 32 r = true := by decide +kernel
set_option maxRecDepth 100000 in
theorem gk_33 : ∀ r ∈ gc_33, gc_ok 33 r = true := by decide +kernel
set_option maxRecDepth 100000 in
theorem gk_34 : ∀ r ∈ gc_34, gc_ok 34 r = true := by decide +kernel
set_option maxRecDepth 100000 in
theorem gk_35 : ∀ r ∈ gc_35, gc_ok 35 r = true := by decide +kernel
set_option maxRecDepth 100000 in
theorem gk_36 : ∀ r ∈ gc_36, gc_ok 36 r = true := by decide +kernel
set_option maxRecDepth 100000 in
theorem gk_37 : ∀ r ∈ gc_37, gc_ok 37 r = true := by decide +kernel
set_option maxRecDepth 100000 in
theorem gk_38 : ∀ r ∈ gc_38, gc_ok 38 r = true := by decide +kernel
set_option maxRecDepth 100000 in
theorem gk_39 : ∀ r ∈ gc_39, gc_ok 39 r = true := by decide +kernel
set_option maxRecDepth 100000 in
theorem gk_40 : ∀ r ∈ gc_40, gc_ok 40 r = true := by decide +kernel
set_option maxRecDepth 100000 in
theorem gk_41 : ∀ r ∈ gc_41, gc_ok 41 r = true := by decide +kernel
set_option maxRecDepth 100000 in
theorem gk_42 : ∀ r ∈ gc_42, gc_ok 42 r = true := by decide +kernel
set_option maxRecDepth 100000 in
theorem gk_43 : ∀ r ∈ gc_43, gc_ok 43 r = true := by decide +kernel
set_option maxRecDepth 100000 in
theorem gk_44 : ∀ r ∈ gc_44, gc_ok 44 r = true := by decide +kernel
set_option maxRecDepth 100000 in
theorem gk_45 : ∀ r ∈ gc_45, gc_ok 45 r = true := by decide +kernel
set_option maxRecDepth 100000 in
theorem gk_46 : ∀ r ∈ gc_46, gc_ok 46 r = true := by decide +kernel
set_option maxRecDepth 100000 in
theorem gk_47 : ∀ r ∈ gc_47, gc_ok 47 r = true := by decide +kernel
set_option maxRecDepth 100000 in
theorem gk_48 : ∀ r ∈ gc_48, gc_ok 48 r = true := by decide +kernel
set_option maxRecDepth 100000 in
theorem gk_49 : ∀ r ∈ gc_49, gc_ok 49 r = true := by decide +kernel
set_option maxRecDepth 100000 in
theorem gk_50 : ∀ r ∈ gc_50, gc_ok 50 r = true := by decide +kernel
set_option maxRecDepth 100000 in
theorem gk_51 : ∀ r ∈ gc_51, gc_ok 51 r = true := by decide +kernel
set_option maxRecDepth 100000 in
theorem gk_52 : ∀ r ∈ gc_52, gc_ok 52 r = true := by decide +kernel
set_option maxRecDepth 100000 in
theorem gk_53 : ∀ r ∈ gc_53, gc_ok 53 r = true := by decide +kernel
set_option maxRecDepth 100000 in
theorem gk_54 : ∀ r ∈ gc_54, gc_ok 54 r = true := by decide +kernel
set_option maxRecDepth 100000 in
theorem gk_55 : ∀ r ∈ gc_55, gc_ok 55 r = true := by decide +kernel
set_option maxRecDepth 100000 in
theorem gk_56 : ∀ r ∈ gc_56, gc_ok 56 r = true := by decide +kernel
set_option maxRecDepth 100000 in
theorem gk_57 : ∀ r ∈ gc_57, gc_ok 57 r = true := by decide +kernel
set_option maxRecDepth 100000 in
theorem gk_58 : ∀ r ∈ gc_58, gc_ok 58 r = true := by decide +kernel
set_option maxRecDepth 100000 in
theorem gk_59 : ∀ r ∈ gc_59, gc_ok 59 r = true := by decide +kernel
set_option maxRecDepth 100000 in
theorem gk_60 : ∀ r ∈ gc_60, gc_ok 60 r = true := by decide +kernel
set_option maxRecDepth 100000 in
theorem gk_61 : ∀ r ∈ gc_61, gc_ok 61 r = true := by decide +kernel
set_option maxRecDepth 100000 in
theorem gk_62 : ∀ r ∈ gc_62, gc_ok 62 r = true := by decide +kernel
end
section
set_option maxRecDepth 100000 in
theorem gk_63 : ∀ r ∈ gc_63, gc_ok 63 r = true := by decide +kernel
set_option maxRecDepth 100000 in
theorem gk_64 : ∀ r ∈ gc_64, gc_ok 64 r = true := by decide +kernel
set_option maxRecDepth 100000 in
theorem gk_65 : ∀ r ∈ gc_65, gc_ok 65 r = true := by decide +kernel
set_option maxRecDepth 100000 in
theorem gk_66 : ∀ r ∈ gc_66, gc_ok 66 r = true := by decide +kernel
set_option maxRecDepth 100000 in
theorem gk_67 : ∀ r ∈ gc_67, gc_ok 67 r = true := by decide +kernel
set_option maxRecDepth 100000 in
theorem gk_68 : ∀ r ∈ gc_68, gc_ok 68 r = true := by decide +kernel
set_option maxRecDepth 100000 in
theorem gk_69 : ∀ r ∈ gc_69, gc_ok 69 r = true := by decide +kernel
set_option maxRecDepth 100000 in
theorem gk_70 : ∀ r ∈ gc_70, gc_ok 70 r = true := by decide +kernel
set_option maxRecDepth 100000 in
theorem gk_71 : ∀ r ∈ gc_71, gc_ok 71 r = true := by decide +kernel
set_option maxRecDepth 100000 in
theorem gk_72 : ∀ r ∈ gc_72, gc_ok 72 r = true := by decide +kernel
set_option maxRecDepth 100000 in
theorem gk_73 : ∀ r ∈ gc_73, gc_ok 73 r = true := by decide +kernel
set_option maxRecDepth 100000 in
theorem gk_74 : ∀ r ∈ gc_74, gc_ok 74 r = true := by decide +kernel
set_option maxRecDepth 100000 in
theorem gk_75 : ∀ r ∈ gc_75, gc_ok 75 r = true := by decide +kernel
set_option maxRecDepth 100000 in
theorem gk_76 : ∀ r ∈ gc_76, gc_ok 76 r = true := by decide +kernel
set_option maxRecDepth 100000 in
theorem gk_77 : ∀ r ∈ gc_77, gc_ok 77 r = true := by decide +kernel
set_option maxRecDepth 100000 in
theorem gk_78 : ∀ r ∈ gc_78, gc_ok 78 r = true := by decide +kernel
set_option maxRecDepth 100000 in
theorem gk_79 : ∀ r ∈ gc_79, gc_ok 79 r = true := by decide +kernel
set_option maxRecDepth 100000 in
theorem gk_80 : ∀ r ∈ gc_80, gc_ok 80 r = true := by decide +kernel
set_option maxRecDepth 100000 in
theorem gk_81 : ∀ r ∈ gc_81, gc_ok 81 r = true := by decide +kernel
set_option maxRecDepth 100000 in
theorem gk_82 : ∀ r ∈ gc_82, gc_ok 82 r = true := by decide +kernel
set_option maxRecDepth 100000 in
theorem gk_83 : ∀ r ∈ gc_83, gc_ok 83 r = true := by decide +kernel
set_option maxRecDepth 100000 in
theorem gk_84 : ∀ r ∈ gc_84, gc_ok 84 r = true := by decide +kernel
set_option maxRecDepth 100000 in
theorem gk_85 : ∀ r ∈ gc_85, gc_ok 85 r = true := by decide +kernel
set_option maxRecDepth 100000 in
theorem gk_86 : ∀ r ∈ gc_86, gc_ok 86 r = true := by decide +kernel
set_option maxRecDepth 100000 in
theorem gk_87 : ∀ r ∈ gc_87, gc_ok 87 r = true := by decide +kernel
set_option maxRecDepth 100000 in
theorem gk_88 : ∀ r ∈ gc_88, gc_ok 88 r = true := by decide +kernel
set_option maxRecDepth 100000 in
theorem gk_89 : ∀ r ∈ gc_89, gc_ok 89 r = true := by decide +kernel
set_option maxRecDepth 100000 in
theorem gk_90 : ∀ r ∈ gc_90, gc_ok 90 r = true := by decide +kernel
set_option maxRecDepth 100000 in
theorem gk_91 : ∀ r ∈ gc_91, gc_ok 91 r = true := by decide +kernel
set_option maxRecDepth 100000 in
theorem gk_92 : ∀ r ∈ gc_92, gc_ok 92 r = true := by decide +kernel
set_option maxRecDepth 100000 in
theorem gk_93 : ∀ r ∈ gc_93, gc_ok 93 r = true := by decide +kernel
set_option maxRecDepth 100000 in
theorem gk_94 : ∀ r ∈ gc_94, gc_ok 94 r = true := by decide +kernel
set_option maxRecDepth 100000 in
theorem gk_95 : ∀ r ∈ gc_95, gc_ok 95 r = true := by decide +kernel
set_option maxRecDepth 100000 in
theorem gk_96 : ∀ r ∈ gc_96, gc_ok 96 r = true := by decide +kernel
set_option maxRecDepth 100000 in
theorem gk_97 : ∀ r ∈ gc_97, gc_ok 97 r = true := by decide +kernel
set_option maxRecDepth 100000 in
theorem gk_98 : ∀ r ∈ gc_98, gc_ok 98 r = true := by decide +kernel
set_option maxRecDepth 100000 in
theorem gk_99 : ∀ r ∈ gc_99, gc_ok 99 r = true := by decide +kernel
set_option maxRecDepth 100000 in
theorem gk_100 : ∀ r ∈ gc_100, gc_ok 100 r = true := by decide +kernel
set_option maxRecDepth 100000 in
theorem gk_101 : ∀ r ∈ gc_101, gc_ok 101 r = true := by decide +kernel
set_option maxRecDepth 100000 in
theorem gk_102 : ∀ r ∈ gc_102, gc_ok 102 r = true := by decide +kernel
set_option maxRecDepth 100000 in
theorem gk_103 : ∀ r ∈ gc_103, gc_ok 103 r = true := by decide +kernel
set_option maxRecDepth 100000 in
theorem gk_104 : ∀ r ∈ gc_104, gc_ok 104 r = true := by decide +kernel
set_option maxRecDepth 100000 in
theorem gk_105 : ∀ r ∈ gc_105, gc_ok 105 r = true := by decide +kernel
end
section
set_option maxRecDepth 100000 in
theorem gk_106 : ∀ r ∈ gc_106, gc_ok 106 r = true := by decide +kernel
set_option maxRecDepth 100000 in
theorem gk_107 : ∀ r ∈ gc_107, gc_ok 107 r = true := by decide +kernel
set_option maxRecDepth 100000 in
theorem gk_108 : ∀ r ∈ gc_108, gc_ok 108 r = true := by decide +kernel
set_option maxRecDepth 100000 in
theorem gk_109 : ∀ r ∈ gc_109, gc_ok 109 r = true := by decide +kernel
set_option maxRecDepth 100000 in
theorem gk_110 : ∀ r ∈ gc_110, gc_ok 110 r = true := by decide +kernel
set_option maxRecDepth 100000 in
theorem gk_111 : ∀ r ∈ gc_111, gc_ok 111 r = true := by decide +kernel
set_option maxRecDepth 100000 in
theorem gk_112 : ∀ r ∈ gc_112, gc_ok 112 r = true := by decide +kernel
set_option maxRecDepth 100000 in
theorem gk_113 : ∀ r ∈ gc_113, gc_ok 113 r = true := by decide +kernel
set_option maxRecDepth 100000 in
theorem gk_114 : ∀ r ∈ gc_114, gc_ok 114 r = true := by decide +kernel
set_option maxRecDepth 100000 in
theorem gk_115 : ∀ r ∈ gc_115, gc_ok 115 r = true := by decide +kernel
set_option maxRecDepth 100000 in
theorem gk_116 : ∀ r ∈ gc_116, gc_ok 116 r = true := by decide +kernel
set_option maxRecDepth 100000 in
theorem gk_117 : ∀ r ∈ gc_117, gc_ok 117 r = true := by decide +kernel
set_option maxRecDepth 100000 in
theorem gk_118 : ∀ r ∈ gc_118, gc_ok 118 r = true := by decide +kernel
set_option maxRecDepth 100000 in
theorem gk_119 : ∀ r ∈ gc_119, gc_ok 119 r = true := by decide +kernel
set_option maxRecDepth 100000 in
theorem gk_120 : ∀ r ∈ gc_120, gc_ok 120 r = true := by decide +kernel
set_option maxRecDepth 100000 in
theorem gk_121 : ∀ r ∈ gc_121, gc_ok 121 r = true := by decide +kernel
set_option maxRecDepth 100000 in
theorem gk_122 : ∀ r ∈ gc_122, gc_ok 122 r = true := by decide +kernel
set_option maxRecDepth 100000 in
theorem gk_123 : ∀ r ∈ gc_123, gc_ok 123 r = true := by decide +kernel
set_option maxRecDepth 100000 in
theorem gk_124 : ∀ r ∈ gc_124, gc_ok 124 r = true := by decide +kernel
set_option maxRecDepth 100000 in
theorem gk_125 : ∀ r ∈ gc_125, gc_ok 125 r = true := by decide +kernel
set_option maxRecDepth 100000 in
theorem gk_126 : ∀ r ∈ gc_126, gc_ok 126 r = true := by decide +kernel
set_option maxRecDepth 100000 in
theorem gk_127 : ∀ r ∈ gc_127, gc_ok 127 r = true := by decide +kernel
set_option maxRecDepth 100000 in
theorem gk_128 : ∀ r ∈ gc_128, gc_ok 128 r = true := by decide +kernel
set_option maxRecDepth 100000 in
theorem gk_129 : ∀ r ∈ gc_129, gc_ok 129 r = true := by decide +kernel
set_option maxRecDepth 100000 in
theorem gk_130 : ∀ r ∈ gc_130, gc_ok 130 r = true := by decide +kernel
set_option maxRecDepth 100000 in
theorem gk_131 : ∀ r ∈ gc_131, gc_ok 131 r = true := by decide +kernel
set_option maxRecDepth 100000 in
theorem gk_132 : ∀ r ∈ gc_132, gc_ok 132 r = true := by decide +kernel
set_option maxRecDepth 100000 in
theorem gk_133 : ∀ r ∈ gc_133, gc_ok 133 r = true := by decide +kernel
set_option maxRecDepth 100000 in
theorem gk_134 : ∀ r ∈ gc_134, gc_ok 134 r = true := by decide +kernel
set_option maxRecDepth 100000 in
theorem gk_135 : ∀ r ∈ gc_135, gc_ok 135 r = true := by decide +kernel
set_option maxRecDepth 100000 in
theorem gk_136 : ∀ r ∈ gc_136, gc_ok 136 r = true := by decide +kernel
set_option maxRecDepth 100000 in
theorem gk_137 : ∀ r ∈ gc_137, gc_ok 137 r = true := by decide +kernel
set_option maxRecDepth 100000 in
theorem gk_138 : ∀ r ∈ gc_138, gc_ok 138 r = true := by decide +kernel
set_option maxRecDepth 100000 in
theorem gk_139 : ∀ r ∈ gc_139, gc_ok 139 r = true := by decide +kernel
end
section
set_option maxRecDepth 100000 in
theorem gk_140 : ∀ r ∈ gc_140, gc_ok 140 r = true := by decide +kernel
set_option maxRecDepth 100000 in
theorem gk_141 : ∀ r ∈ gc_141, gc_ok 141 r = true := by decide +kernel
set_option maxRecDepth 100000 in
theorem gk_142 : ∀ r ∈ gc_142, gc_ok 142 r = true := by decide +kernel
set_option maxRecDepth 100000 in
theorem gk_143 : ∀ r ∈ gc_143, gc_ok 143 r = true := by decide +kernel
set_option maxRecDepth 100000 in
theorem gk_144 : ∀ r ∈ gc_144, gc_ok 144 r = true := by decide +kernel
set_option maxRecDepth 100000 in
theorem gk_145 : ∀ r ∈ gc_145, gc_ok 145 r = true := by decide +kernel
set_option maxRecDepth 100000 in
theorem gk_146 : ∀ r ∈ gc_146, gc_ok 146 r = true := by decide +kernel
set_option maxRecDepth 100000 in
theorem gk_147 : ∀ r ∈ gc_147, gc_ok 147 r = true := by decide +kernel
set_option maxRecDepth 100000 in
theorem gk_148 : ∀ r ∈ gc_148, gc_ok 148 r = true := by decide +kernel
set_option maxRecDepth 100000 in
theorem gk_149 : ∀ r ∈ gc_149, gc_ok 149 r = true := by decide +kernel
set_option maxRecDepth 100000 in
theorem gk_150 : ∀ r ∈ gc_150, gc_ok 150 r = true := by decide +kernel
set_option maxRecDepth 100000 in
theorem gk_151 : ∀ r ∈ gc_151, gc_ok 151 r = true := by decide +kernel
set_option maxRecDepth 100000 in
theorem gk_152 : ∀ r ∈ gc_152, gc_ok 152 r = true := by decide +kernel
set_option maxRecDepth 100000 in
theorem gk_153 : ∀ r ∈ gc_153, gc_ok 153 r = true := by decide +kernel
set_option maxRecDepth 100000 in
theorem gk_154 : ∀ r ∈ gc_154, gc_ok 154 r = true := by decide +kernel
set_option maxRecDepth 100000 in
theorem gk_155 : ∀ r ∈ gc_155, gc_ok 155 r = true := by decide +kernel
set_option maxRecDepth 100000 in
theorem gk_156 : ∀ r ∈ gc_156, gc_ok 156 r = true := by decide +kernel
set_option maxRecDepth 100000 in
theorem gk_157 : ∀ r ∈ gc_157, gc_ok 157 r = true := by decide +kernel
set_option maxRecDepth 100000 in
theorem gk_158 : ∀ r ∈ gc_158, gc_ok 158 r = true := by decide +kernel
set_option maxRecDepth 100000 in
theorem gk_159 : ∀ r ∈ gc_159, gc_ok 159 r = true := by decide +kernel
set_option maxRecDepth 100000 in
theorem gk_160 : ∀ r ∈ gc_160, gc_ok 160 r = true := by decide +kernel
set_option maxRecDepth 100000 in
theorem gk_161 : ∀ r ∈ gc_161, gc_ok 161 r = true := by decide +kernel
set_option maxRecDepth 100000 in
theorem gk_162 : ∀ r ∈ gc_162, gc_ok 162 r = true := by decide +kernel
set_option maxRecDepth 100000 in
theorem gk_163 : ∀ r ∈ gc_163, gc_ok 163 r = true := by decide +kernel
end
section
set_option maxRecDepth 100000 in
theorem gk_164_0 : ∀ r ∈ gc_164_0, gc_ok 164 r = true := by decide +kernel
set_option maxRecDepth 100000 in
theorem gk_164_1 : ∀ r ∈ gc_164_1, gc_ok 164 r = true := by decide +kernel
set_option maxRecDepth 100000 in
theorem gk_164_2 : ∀ r ∈ gc_164_2, gc_ok 164 r = true := by decide +kernel
set_option maxRecDepth 100000 in
theorem gk_164_3 : ∀ r ∈ gc_164_3, gc_ok 164 r = true := by decide +kernel
set_option maxRecDepth 100000 in
theorem gk_164_4 : ∀ r ∈ gc_164_4, gc_ok 164 r = true := by decide +kernel
set_option maxRecDepth 100000 in
theorem gk_164_5 : ∀ r ∈ gc_164_5, gc_ok 164 r = true := by decide +kernel
set_option maxRecDepth 100000 in
theorem gk_164_6 : ∀ r ∈ gc_164_6, gc_ok 164 r = true := by decide +kernel
set_option maxRecDepth 100000 in
theorem gk_164_7 : ∀ r ∈ gc_164_7, gc_ok 164 r = true := by decide +kernel
set_option maxRecDepth 100000 in
theorem gk_164_8 : ∀ r ∈ gc_164_8, gc_ok 164 r = true := by decide +kernel
set_option maxRecDepth 100000 in
theorem gk_164_9 : ∀ r ∈ gc_164_9, gc_ok 164 r = true := by decide +kernel
set_option maxRecDepth 100000 in
theorem gk_164_10 : ∀ r ∈ gc_164_10, gc_ok 164 r = true := by decide +kernel
set_option maxRecDepth 100000 in
theorem gk_164_11 : ∀ r ∈ gc_164_11, gc_ok 164 r = true := by decide +kernel
set_option maxRecDepth 100000 in
theorem gk_164_12 : ∀ r ∈ gc_164_12, gc_ok 164 r = true := by decide +kernel
set_option maxRecDepth 100000 in
theorem gk_164_13 : ∀ r ∈ gc_164_13, gc_ok 164 r = true := by decide +kernel
set_option maxRecDepth 100000 in
theorem gk_164_14 : ∀ r ∈ gc_164_14, gc_ok 164 r = true := by decide +kernel
set_option maxRecDepth 100000 in
theorem gk_164_15 : ∀ r ∈ gc_164_15, gc_ok 164 r = true := by decide +kernel
theorem gk_164 : ∀ r ∈ gc_164, gc_ok 164 r = true := List.forall_mem_append.mpr ⟨gk_164_0, List.forall_mem_append.mpr ⟨gk_164_1, List.forall_mem_append.mpr ⟨gk_164_2, List.forall_mem_append.mpr ⟨gk_164_3, List.forall_mem_append.mpr ⟨gk_164_4, List.forall_mem_append.mpr ⟨gk_164_5, List.forall_mem_append.mpr ⟨gk_164_6, List.forall_mem_append.mpr ⟨gk_164_7, List.forall_mem_append.mpr ⟨gk_164_8, List.forall_mem_append.mpr ⟨gk_164_9, List.forall_mem_append.mpr ⟨gk_164_10, List.forall_mem_append.mpr ⟨gk_164_11, List.forall_mem_append.mpr ⟨gk_164_12, List.forall_mem_append.mpr ⟨gk_164_13, List.forall_mem_append.mpr ⟨gk_164_14, gk_164_15⟩⟩⟩⟩⟩⟩⟩⟩⟩⟩⟩⟩⟩⟩⟩
end
section
def gk_P (l : List (List gc_O)) (n : Nat) : Prop := ∀ (k : Nat) (c : List gc_O), l[k]? = some c → ∀ r ∈ c, gc_ok (n + k) r = true
theorem gk_nil (n : Nat) : gk_P [] n := fun k c h => by simp at h
theorem gk_cons {c : List gc_O} {l : List (List gc_O)} {n : Nat} (h : ∀ r ∈ c, gc_ok n r = true) (t : gk_P l (n + 1)) : gk_P (c :: l) n := by
  intro k x hx
  cases k with
  | zero => cases hx; exact h
  | succ k => rw [List.getElem?_cons_succ] at hx; have := t k x hx; rwa [show n + 1 + k = n + (k + 1) by omega] at this
set_option maxRecDepth 100000 in
theorem gk_all : gk_P gc_l 0 := gk_cons gk_0 (gk_cons gk_1 (gk_cons gk_2 (gk_cons gk_3 (gk_cons gk_4 (gk_cons gk_5 (gk_cons gk_6 (gk_cons gk_7 (gk_cons gk_8 (gk_cons gk_9 (gk_cons gk_10 (gk_cons gk_11 (gk_cons gk_12 (gk_cons gk_13 (gk_cons gk_14 (gk_cons gk_15 (gk_cons gk_16 (gk_cons gk_17 (gk_cons gk_18 (gk_cons gk_19 (gk_cons gk_20 (gk_cons gk_21 (gk_cons gk_22 (gk_cons gk_23 (gk_cons gk_24 (gk_cons gk_25 (gk_cons gk_26 (gk_cons gk_27 (gk_cons gk_28 (gk_cons gk_29 (gk_cons gk_30 (gk_cons gk_31 (gk_cons gk_32 (gk_cons gk_33 (gk_cons gk_34 (gk_cons gk_35 (gk_cons gk_36 (gk_cons gk_37 (gk_cons gk_38 (gk_cons gk_39 (gk_cons gk_40 (gk_cons gk_41 (gk_cons gk_42 (gk_cons gk_43 (gk_cons gk_44 (gk_cons gk_45 (gk_cons gk_46 (gk_cons gk_47 (gk_cons gk_48 (gk_cons gk_49 (gk_cons gk_50 (gk_cons gk_51 (gk_cons gk_52 (gk_cons gk_53 (gk_cons gk_54 (gk_cons gk_55 (gk_cons gk_56 (gk_cons gk_57 (gk_cons gk_58 (gk_cons gk_59 (gk_cons gk_60 (gk_cons gk_61 (gk_cons gk_62 (gk_cons gk_63 (gk_cons gk_64 (gk_cons gk_65 (gk_cons gk_66 (gk_cons gk_67 (gk_cons gk_68 (gk_cons gk_69 (gk_cons gk_70 (gk_cons gk_71 (gk_cons gk_72 (gk_cons gk_73 (gk_cons gk_74 (gk_cons gk_75 (gk_cons gk_76 (gk_cons gk_77 (gk_cons gk_78 (gk_cons gk_79 (gk_cons gk_80 (gk_cons gk_81 (gk_cons gk_82 (gk_cons gk_83 (gk_cons gk_84 (gk_cons gk_85 (gk_cons gk_86 (gk_cons gk_87 (gk_cons gk_88 (gk_cons gk_89 (gk_cons gk_90 (gk_cons gk_91 (gk_cons gk_92 (gk_cons gk_93 (gk_cons gk_94 (gk_cons gk_95 (gk_cons gk_96 (gk_cons gk_97 (gk_cons gk_98 (gk_cons gk_99 (gk_cons gk_100 (gk_cons gk_101 (gk_cons gk_102 (gk_cons gk_103 (gk_cons gk_104 (gk_cons gk_105 (gk_cons gk_106 (gk_cons gk_107 (gk_cons gk_108 (gk_cons gk_109 (gk_cons gk_110 (gk_cons gk_111 (gk_cons gk_112 (gk_cons gk_113 (gk_cons gk_114 (gk_cons gk_115 (gk_cons gk_116 (gk_cons gk_117 (gk_cons gk_118 (gk_cons gk_119 (gk_cons gk_120 (gk_cons gk_121 (gk_cons gk_122 (gk_cons gk_123 (gk_cons gk_124 (gk_cons gk_125 (gk_cons gk_126 (gk_cons gk_127 (gk_cons gk_128 (gk_cons gk_129 (gk_cons gk_130 (gk_cons gk_131 (gk_cons gk_132 (gk_cons gk_133 (gk_cons gk_134 (gk_cons gk_135 (gk_cons gk_136 (gk_cons gk_137 (gk_cons gk_138 (gk_cons gk_139 (gk_cons gk_140 (gk_cons gk_141 (gk_cons gk_142 (gk_cons gk_143 (gk_cons gk_144 (gk_cons gk_145 (gk_cons gk_146 (gk_cons gk_147 (gk_cons gk_148 (gk_cons gk_149 (gk_cons gk_150 (gk_cons gk_151 (gk_cons gk_152 (gk_cons gk_153 (gk_cons gk_154 (gk_cons gk_155 (gk_cons gk_156 (gk_cons gk_157 (gk_cons gk_158 (gk_cons gk_159 (gk_cons gk_160 (gk_cons gk_161 (gk_cons gk_162 (gk_cons gk_163 (gk_cons gk_164 (gk_nil _)))))))))))))))))))))))))))))))))))))))))))))))))))))))))))))))))))))))))))))))))))))))))))))))))))))))))))))))))))))))))))))))))))))))))))))))))))))))))))))))))))))
theorem gc_sure {i : Nat} {r : gc_O} (h : r ∈ gc_C i) : gc_ok i r = true := by
  unfold gc_C at h
  rw [List.getD_eq_getElem?_getD] at h
  cases hc : gc_l[i]? with
  | none => rw [hc] at h; simp at h
  | some c => rw [hc] at h; have := gk_all i c hc r h; rwa [Nat.zero_add] at this
end
section
/-! ===== the abstract machine's world: cells by number; 0, 1, 2 are arrays that nobody writes (the script, FACTORIALS, TENS) ===== -/
/-- the shapes (kind, length), the ints, the longs, the references (0: null) -/
abbrev gw_W : Type := List (Nat × Nat) × (Nat → Nat → Int32) × (Nat → Nat → Int64) × (Nat → Nat → Nat)
/-- the classes' numbers, the array classes' numbers, where our cells begin, where the three arrays lie -/
abbrev gw_V : Type := va_G × (Nat → ClassId) × Nat × (Nat → Nat)
def gw_T (w : gw_W) (a : Nat) : Nat := (w.1.getD a (99, 0)).1
def gw_N (w : gw_W) (a : Nat) : Nat := (w.1.getD a (99, 0)).2
def gw_ad (V : gw_V) (r : Nat) : Nat := if r < 3 then V.2.2.2 r else V.2.2.1 + (r - 3)
def gw_mv (V : gw_V) : Value → Value
  | .ref r => .ref (gw_ad V r)
  | v => v
def gw_ro (V : gw_V) (r : Nat) : Option Nat := if r = 0 then none else some (gw_ad V r)
def gw_fv (V : gw_V) (w : gw_W) (c k j : Nat) : Value := if gb_s c j = 0 then .int (w.2.1 k j) else if gb_s c j = 1 then .long (w.2.2.1 k j) else va_rf (gw_ro V (w.2.2.2 k j))
def gw_fs (V : gw_V) (w : gw_W) (c k : Nat) : List Value := (List.range (gb_K c)).map (gw_fv V w c k)
def gw_cell (V : gw_V) (w : gw_W) (k : Nat) : va_E :=
  if gw_T w k = 12 then .inl (V.2.1 0, gw_N w k, .inl (w.2.1 k))
  else if gw_T w k = 13 then .inl (V.2.1 1, gw_N w k, .inl (w.2.1 k))
  else if gw_T w k = 14 then .inl (V.2.1 2, gw_N w k, .inr (.inr (.inr (.inr (fun j => gw_ro V (w.2.2.2 k j))))))
  else if gw_T w k = 15 then .inl (V.2.1 3, gw_N w k, .inr (.inr (.inr (.inr (fun j => gw_ro V (w.2.2.2 k j))))))
  else .inr (gw_T w k, gw_fs V w (gw_T w k) k)
def gw_ws (V : gw_V) (w : gw_W) : va_W := (List.range (w.1.length - 3)).map (fun j => (V.2.2.1 + j, gw_cell V w (j + 3)))
def gw_A (V : gw_V) : Nat → Prop := fun q => V.2.2.1 ≤ q
def gw_ty (V : gw_V) : List (ClassId × FieldType) := [(V.2.1 0, .int), (V.2.1 1, .boolean), (V.2.1 2, .object "MorningBill$Morning"), (V.2.1 3, .array .int)]
theorem gw_ws_get {V : gw_V} {w : gw_W} {a : Nat} (h3 : 3 ≤ a) (h : a < w.1.length) : (gw_ws V w)[a - 3]? = some (gw_ad V a, gw_cell V w a) := by
  unfold gw_ws
  rw [List.getElem?_map, List.getElem?_range (by omega)]
  show some (_, _) = _
  rw [Nat.sub_add_cancel h3]
  unfold gw_ad
  rw [if_neg (by omega)]
theorem gw_ws_at {V : gw_V} {w : gw_W} {k : Nat} {q : Nat × va_E} (h : (gw_ws V w)[k]? = some q) : k + 3 < w.1.length ∧ q = (V.2.2.1 + k, gw_cell V w (k + 3)) := by
  unfold gw_ws at h
  rw [List.getElem?_map] at h
  by_cases hk : k < w.1.length - 3
  · rw [List.getElem?_range hk] at h
    exact ⟨by omega, (Option.some.inj h).symm⟩
  · have hn : (List.range (w.1.length - 3))[k]? = none := List.getElem?_eq_none (by rw [List.length_range]; omega)
    rw [hn] at h
    cases h
theorem gw_ws_D {V : gw_V} {w : gw_W} : va_D (gw_A V) (gw_ws V w) := by
  refine ⟨fun i j p q hi hj e => ?_, fun k q hk => ?_⟩
  · obtain ⟨-, rfl⟩ := gw_ws_at hi
    obtain ⟨-, rfl⟩ := gw_ws_at hj
    have e : V.2.2.1 + i = V.2.2.1 + j := e
    omega
  · obtain ⟨-, rfl⟩ := gw_ws_at hk
    exact Nat.le_add_right _ _
theorem gw_ws_set {V : gw_V} {w w' : gw_W} {a : Nat} {x : va_E} (h3 : 3 ≤ a) (h : a < w.1.length) (hs : w'.1.length = w.1.length) (ho : ∀ k, k ≠ a → gw_cell V w' k = gw_cell V w k) (hx : gw_cell V w' a = x) : (gw_ws V w).set (a - 3) (gw_ad V a, x) = gw_ws V w' := by
  apply List.ext_getElem?
  intro k
  by_cases hk : k = a - 3
  · subst hk
    rw [gw_ws_get (w := w') h3 (by omega), List.getElem?_set_self (by unfold gw_ws; simp; omega), hx]
  · rw [List.getElem?_set_ne (Ne.symm hk)]
    unfold gw_ws
    rw [List.getElem?_map, List.getElem?_map, hs]
    by_cases hl : k < w.1.length - 3
    · rw [List.getElem?_range hl]
      show some (_, _) = some (_, _)
      rw [ho (k + 3) (by omega)]
    · have hn : (List.range (w.1.length - 3))[k]? = none := List.getElem?_eq_none (by rw [List.length_range]; omega)
      rw [hn]; rfl
/-- an int is written -/
def gw_u (f : Nat → Nat → Int32) (a k : Nat) (x : Int32) : Nat → Nat → Int32 := fun p q => if p = a ∧ q = k then x else f p q
def gw_uJ (f : Nat → Nat → Int64) (a k : Nat) (x : Int64) : Nat → Nat → Int64 := fun p q => if p = a ∧ q = k then x else f p q
def gw_uR (f : Nat → Nat → Nat) (a k : Nat) (x : Nat) : Nat → Nat → Nat := fun p q => if p = a ∧ q = k then x else f p q
theorem gw_u_o {f : Nat → Nat → Int32} {a k : Nat} {x : Int32} {p : Nat} (h : p ≠ a) : gw_u f a k x p = f p := by funext q; simp [gw_u, h]
theorem gw_u_s {f : Nat → Nat → Int32} {a k : Nat} {x : Int32} : gw_u f a k x a = upd (f a) k x := by funext q; simp [gw_u, upd]
theorem gw_uJ_o {f : Nat → Nat → Int64} {a k : Nat} {x : Int64} {p : Nat} (h : p ≠ a) : gw_uJ f a k x p = f p := by funext q; simp [gw_uJ, h]
theorem gw_uR_o {f : Nat → Nat → Nat} {a k : Nat} {x : Nat} {p : Nat} (h : p ≠ a) : gw_uR f a k x p = f p := by funext q; simp [gw_uR, h]
theorem gw_fs_get {V : gw_V} {w : gw_W} {c k j : Nat} (h : j < gb_K c) : (gw_fs V w c k)[j]? = some (gw_fv V w c k j) := by
  unfold gw_fs
  rw [List.getElem?_map, List.getElem?_range h]; rfl
theorem gw_fs_len {V : gw_V} {w : gw_W} {c k : Nat} : (gw_fs V w c k).length = gb_K c := by simp [gw_fs]
theorem gw_fs_set {V : gw_V} {w w' : gw_W} {c k j : Nat} {v : Value} (h : j < gb_K c) (ho : ∀ q, q ≠ j → gw_fv V w' c k q = gw_fv V w c k q) (hv : gw_fv V w' c k j = v) : (gw_fs V w c k).set j v = gw_fs V w' c k := by
  apply List.ext_getElem?
  intro q
  by_cases hq : q = j
  · subst hq
    rw [gw_fs_get h, List.getElem?_set_self (by rw [gw_fs_len]; exact h), hv]
  · rw [List.getElem?_set_ne (Ne.symm hq)]
    unfold gw_fs
    rw [List.getElem?_map, List.getElem?_map]
    cases he : (List.range (gb_K c))[q]? with
    | none => rfl
    | some z =>
      have hz : z = q := by
        have := List.getElem?_eq_some_iff.mp he
        obtain ⟨h1, h2⟩ := this
        rw [List.getElem_range] at h2
        exact h2.symm
      subst hz
      show some _ = some _
      rw [ho z hq]
/-- what the tables say of the classes, of the static arrays, of nest mates' words -/
def gw_NW (s : State) : Prop := (∀ r ∈ gl_N, va_Nw (.methodLinkNest (gb_n r.1) r.2.1 (gl_y r.2.2.1) "MorningBill") s) ∧ va_Nw (.fieldLinkNest "MorningBill$Groups" 65 "MorningBill" "FACTORIALS" "[I" "MorningBill") s ∧ va_AO "MorningBill$Morning" s ∧ (Cond.arrayOver (.array .int)).before #[] s = true
def gw_K (V : gw_V) (s : State) : Prop := va_K V.1 gb_cl (gw_ty V) s ∧ V.2.2.1 ≤ s.heap.size ∧ va_Z "MorningBill" "FACTORIALS" "[I" (.ref (V.2.2.2 1)) (gw_A V) s s.heap ∧ va_Z "MorningBill" "TENS" "[I" (.ref (V.2.2.2 2)) (gw_A V) s s.heap ∧ gw_NW s
/-- the heap is the world's, since the frame's start nothing outside of it has changed -/
def gw_H (V : gw_V) (w : gw_W) (s : State) (H : Heap) (locs : List Loc) : Prop :=
  va_P V.1 gb_cl (gw_ws V w) H ∧ (w.1.length < 145 → H.size = V.2.2.1 + (w.1.length - 3)) ∧ 3 ≤ w.1.length ∧ va_S (gw_A V) s.heap H locs ∧ ∀ k, k < 3 → gw_T w k = 16 ∧ va_T .int (V.2.2.2 k) (gw_N w k) (fun j => .int (w.2.1 k j)) (gw_A V) s s.heap
/-- a frame of method i -/
def gw_X (V : gw_V) (i : Nat) (p : Program) (R : Room) (s : State) (m : MethodId) (args : Array Value) (meth : Method) (c : Code) : Prop :=
  p.tables.exec = Jvm.exec ∧ c.code = gm_b i ∧ c.maxLocals = gm_L i ∧ s.vm.findClass (gb_n (gm_o i)) = some m.cls ∧ (∀ w ∈ gb_t, w.before args s = true) ∧ meth.locks = false ∧ (gm_k i = 2 → meth.name = "<init>") ∧ meth.sig.returnType = gm_r i ∧ gm_f i ≤ R.frames ∧ gm_x i ≤ R.locals ∧ gm_c i ≤ R.cells ∧ gm_s i ≤ R.slots ∧ gw_K V s
/-- where a walk stands: counter, locals, stack, world, cells and slots made -/
abbrev gw_c : Type := Nat × List (Nat × Value) × List Value × gw_W × Nat × Nat
def gw_lm (V : gw_V) (ls : List (Nat × Value)) : List (Nat × Value) := ls.map (fun q => (q.1, gw_mv V q.2))
/-- an end of method i at pc, with an answer -/
def gw_end (i pc : Nat) : Option Value → Prop
  | none => decode (gm_b i) pc = .ok (.return_, 1) ∧ gm_r i = none
  | some (.int x) => decode (gm_b i) pc = .ok (.ireturn, 1) ∧ ∃ ty, gm_r i = some ty ∧ narrow ty (.int x) = .int x
  | some (.long _) => decode (gm_b i) pc = .ok (.lreturn, 1) ∧ gm_r i = some .long
  | _ => False
/-- THE JUDGEMENT: from here method i comes to its end, with an answer and a world of which Q holds -/
def gw_E (V : gw_V) (i : Nat) (c : gw_c) (Q : Option Value → gw_W → Prop) : Prop :=
  ∀ (p : Program) (l : Launch) (e : Env) (R : Room) (s : State) (m : MethodId) (args : Array Value) (below : List Frame) (meth : Method) (cd : Code) (QQ : State → Prop) (H : Heap) (locs : List Loc) (L : Array Slot),
    gw_X V i p R s m args meth cd → gw_H V c.2.2.2.1 s H locs → lv_has L (gm_L i) (gw_lm V c.2.1) →
    (∀ (v : Option Value) (w' : gw_W) (H' : Heap) (locs' : List Loc) (pc' : Nat) (L' : Array Slot) (cu su : Nat), Q v w' → gw_H V w' s H' locs' → gw_end i pc' v → cu ≤ gm_c i → su ≤ gm_s i → W p l e R s m args below meth cd H' locs' cu su QQ (F0 m pc' L' (v.toList.map (gw_mv V)))) →
    W p l e R s m args below meth cd H locs c.2.2.2.2.1 c.2.2.2.2.2 QQ (F0 m c.1 L (c.2.2.1.map (gw_mv V)))
/-- a row of the code table -/
def gw_D (i pc : Nat) (ins : Instr) (len a b : Nat) : Prop := decode (gm_b i) pc = .ok (ins, len) ∧ gc_lk i ins pc a b = true
theorem gd {i : Nat} {l : List gc_O} (h : ∀ r ∈ l, gc_ok i r = true) (k : Nat) {pc : Nat} {ins : Instr} {len a b : Nat} (hk : l[k]? = some (pc, ins, len, a, b)) : gw_D i pc ins len a b := by
  have := h _ (List.mem_of_getElem? hk)
  unfold gc_ok at this
  rw [Bool.and_eq_true, decide_eq_true_eq] at this
  exact this
theorem gw_cat (V : gw_V) (v : Value) : (gw_mv V v).category = v.category := by cases v <;> rfl
end
section
/-! ===== the rules: locals ===== -/
theorem gw_look {V : gw_V} {n : Nat} {L : Array Slot} : ∀ {ls : List (Nat × Value)} {a : Nat} {v : Value}, lv_has L n (gw_lm V ls) → ls.lookup a = some v → L[a]? = some (.val (gw_mv V v)) := by
  intro ls a v h hk
  have hm : (a, v) ∈ ls := by
    induction ls with
    | nil => simp at hk
    | cons q t ih =>
      obtain ⟨q1, q2⟩ := q
      rw [List.lookup_cons] at hk
      by_cases e : a = q1
      · subst e
        simp at hk
        subst hk
        exact List.mem_cons_self
      · have e' : (a == q1) = false := by simpa using e
        rw [e'] at hk
        exact List.mem_cons_of_mem _ (ih ⟨h.1, h.2.1, fun q hq => h.2.2 q (List.mem_cons_of_mem _ hq)⟩ hk)
  exact h.2.2 (a, gw_mv V v) (List.mem_map.mpr ⟨(a, v), hm, rfl⟩)
/-- into its place by the number -/
def gw_ins (k : Nat) (v : Value) : List (Nat × Value) → List (Nat × Value)
  | [] => [(k, v)]
  | q :: t => match Nat.blt q.1 k with
    | true => q :: gw_ins k v t
    | false => (k, v) :: q :: t
theorem gw_ins_mem {k : Nat} {v : Value} {q : Nat × Value} : ∀ {l : List (Nat × Value)}, q ∈ gw_ins k v l → q ∈ (k, v) :: l
  | [], h => h
  | x :: t, h => by
    unfold gw_ins at h
    split at h
    · rcases List.mem_cons.mp h with e | e
      · rw [e]; exact List.mem_cons_of_mem _ List.mem_cons_self
      · rcases List.mem_cons.mp (gw_ins_mem e) with f | f
        · rw [f]; exact List.mem_cons_self
        · exact List.mem_cons_of_mem _ (List.mem_cons_of_mem _ f)
    · exact h
def gw_f1 (k : Nat) (ls : List (Nat × Value)) : List (Nat × Value) := ls.filter (fun q => !(q.1 == k) && !(q.1 + 1 == k && q.2.category == 2))
def gw_f2 (k : Nat) (ls : List (Nat × Value)) : List (Nat × Value) := ls.filter (fun q => !(q.1 == k) && (!(q.1 == k + 1) && !(q.1 + 1 == k && q.2.category == 2)))
theorem gw_f1_map (V : gw_V) (k : Nat) (ls : List (Nat × Value)) : (gw_lm V ls).filter (fun q => !(q.1 == k) && !(q.1 + 1 == k && q.2.category == 2)) = gw_lm V (gw_f1 k ls) := by
  unfold gw_lm gw_f1
  rw [List.filter_map]
  congr 2
  funext q
  simp [gw_cat]
theorem gw_f2_map (V : gw_V) (k : Nat) (ls : List (Nat × Value)) : (gw_lm V ls).filter (fun q => !(q.1 == k) && (!(q.1 == k + 1) && !(q.1 + 1 == k && q.2.category == 2))) = gw_lm V (gw_f2 k ls) := by
  unfold gw_lm gw_f2
  rw [List.filter_map]
  congr 2
  funext q
  simp [gw_cat]
theorem gw_has_ins {V : gw_V} {n k : Nat} {v : Value} {L : Array Slot} {ls : List (Nat × Value)} (h : lv_has L n ((k, gw_mv V v) :: gw_lm V ls)) : lv_has L n (gw_lm V (gw_ins k v ls)) := by
  refine ⟨h.1, h.2.1, fun q hq => ?_⟩
  obtain ⟨q0, h0, rfl⟩ := List.mem_map.mp hq
  rcases List.mem_cons.mp (gw_ins_mem h0) with e | e
  · rw [e]; exact h.2.2 _ List.mem_cons_self
  · exact h.2.2 _ (List.mem_cons_of_mem _ (List.mem_map.mpr ⟨q0, e, rfl⟩))
section GR
variable {V : gw_V} {i pc len a b : Nat} {ls ls2 : List (Nat × Value)} {st : List Value} {w : gw_W} {cu su : Nat} {Q : Option Value → gw_W → Prop}
/-- fewer locals are looked at -/
theorem gs_drop (ks : List Nat) (h : ks.filterMap (fun q => ls[q]?) = ls2) (k : gw_E V i (pc, ls2, st, w, cu, su) Q) : gw_E V i (pc, ls, st, w, cu, su) Q := by
  intro p l e R s m args below meth cd QQ H locs L X hH hl hret
  refine k p l e R s m args below meth cd QQ H locs L X hH ⟨hl.1, hl.2.1, fun q hq => ?_⟩ hret
  subst h
  obtain ⟨q0, h0, rfl⟩ := List.mem_map.mp hq
  obtain ⟨j, -, hj⟩ := List.mem_filterMap.mp h0
  exact hl.2.2 _ (List.mem_map.mpr ⟨q0, List.mem_of_getElem? hj, rfl⟩)
/-- a weaker end -/
theorem gs_mono {c : gw_c} {Q1 : Option Value → gw_W → Prop} (h : ∀ v w, Q1 v w → Q v w) (k : gw_E V i c Q1) : gw_E V i c Q := by
  intro p l e R s m args below meth cd QQ H locs L X hH hl hret
  exact k p l e R s m args below meth cd QQ H locs L X hH hl (fun v w' H' locs' pc' L' cu su hq => hret v w' H' locs' pc' L' cu su (h v w' hq))
theorem gs_eq {c c2 : gw_c} (h : c = c2) (k : gw_E V i c2 Q) : gw_E V i c Q := h ▸ k
theorem gs_iadd {x y : Int32} (hd : gw_D i pc (.iadd) 1 a b) (k : gw_E V i (pc + 1, ls, .int (x + y) :: st, w, cu, su) Q) : gw_E V i (pc, ls, .int y :: .int x :: st, w, cu, su) Q := by
  intro p l e R s m args below meth cd QQ H locs L X hH hl hret
  exact lv_iadd X.1 X.2.1 hd.1 (k p l e R s m args below meth cd QQ H locs L X hH hl hret)
theorem gs_isub {x y : Int32} (hd : gw_D i pc (.isub) 1 a b) (k : gw_E V i (pc + 1, ls, .int (x - y) :: st, w, cu, su) Q) : gw_E V i (pc, ls, .int y :: .int x :: st, w, cu, su) Q := by
  intro p l e R s m args below meth cd QQ H locs L X hH hl hret
  exact lv_isub X.1 X.2.1 hd.1 (k p l e R s m args below meth cd QQ H locs L X hH hl hret)
theorem gs_imul {x y : Int32} (hd : gw_D i pc (.imul) 1 a b) (k : gw_E V i (pc + 1, ls, .int (x * y) :: st, w, cu, su) Q) : gw_E V i (pc, ls, .int y :: .int x :: st, w, cu, su) Q := by
  intro p l e R s m args below meth cd QQ H locs L X hH hl hret
  exact lv_imul X.1 X.2.1 hd.1 (k p l e R s m args below meth cd QQ H locs L X hH hl hret)
theorem gs_iand {x y : Int32} (hd : gw_D i pc (.iand) 1 a b) (k : gw_E V i (pc + 1, ls, .int (x &&& y) :: st, w, cu, su) Q) : gw_E V i (pc, ls, .int y :: .int x :: st, w, cu, su) Q := by
  intro p l e R s m args below meth cd QQ H locs L X hH hl hret
  exact lv_iand X.1 X.2.1 hd.1 (k p l e R s m args below meth cd QQ H locs L X hH hl hret)
theorem gs_ior {x y : Int32} (hd : gw_D i pc (.ior) 1 a b) (k : gw_E V i (pc + 1, ls, .int (x ||| y) :: st, w, cu, su) Q) : gw_E V i (pc, ls, .int y :: .int x :: st, w, cu, su) Q := by
  intro p l e R s m args below meth cd QQ H locs L X hH hl hret
  exact lv_ior X.1 X.2.1 hd.1 (k p l e R s m args below meth cd QQ H locs L X hH hl hret)
theorem gs_ixor {x y : Int32} (hd : gw_D i pc (.ixor) 1 a b) (k : gw_E V i (pc + 1, ls, .int (x ^^^ y) :: st, w, cu, su) Q) : gw_E V i (pc, ls, .int y :: .int x :: st, w, cu, su) Q := by
  intro p l e R s m args below meth cd QQ H locs L X hH hl hret
  exact lv_ixor X.1 X.2.1 hd.1 (k p l e R s m args below meth cd QQ H locs L X hH hl hret)
theorem gs_ishl {x y : Int32} (hd : gw_D i pc (.ishl) 1 a b) (k : gw_E V i (pc + 1, ls, .int (x <<< (y &&& 31)) :: st, w, cu, su) Q) : gw_E V i (pc, ls, .int y :: .int x :: st, w, cu, su) Q := by
  intro p l e R s m args below meth cd QQ H locs L X hH hl hret
  exact lv_ishl X.1 X.2.1 hd.1 (k p l e R s m args below meth cd QQ H locs L X hH hl hret)
theorem gs_ishr {x y : Int32} (hd : gw_D i pc (.ishr) 1 a b) (k : gw_E V i (pc + 1, ls, .int (x >>> (y &&& 31)) :: st, w, cu, su) Q) : gw_E V i (pc, ls, .int y :: .int x :: st, w, cu, su) Q := by
  intro p l e R s m args below meth cd QQ H locs L X hH hl hret
  exact lv_ishr X.1 X.2.1 hd.1 (k p l e R s m args below meth cd QQ H locs L X hH hl hret)
theorem gs_idiv {x y : Int32} (hd : gw_D i pc (.idiv) 1 a b) (hne : ¬ y = 0) (k : gw_E V i (pc + 1, ls, .int (x / y) :: st, w, cu, su) Q) : gw_E V i (pc, ls, .int y :: .int x :: st, w, cu, su) Q := by
  intro p l e R s m args below meth cd QQ H locs L X hH hl hret
  exact lv_idiv X.1 X.2.1 hd.1 hne (k p l e R s m args below meth cd QQ H locs L X hH hl hret)
theorem gs_irem {x y : Int32} (hd : gw_D i pc (.irem) 1 a b) (hne : ¬ y = 0) (k : gw_E V i (pc + 1, ls, .int (x - x / y * y) :: st, w, cu, su) Q) : gw_E V i (pc, ls, .int y :: .int x :: st, w, cu, su) Q := by
  intro p l e R s m args below meth cd QQ H locs L X hH hl hret
  exact lv_irem X.1 X.2.1 hd.1 hne (k p l e R s m args below meth cd QQ H locs L X hH hl hret)
theorem gs_ladd {x y : Int64} (hd : gw_D i pc (.ladd) 1 a b) (k : gw_E V i (pc + 1, ls, .long (x + y) :: st, w, cu, su) Q) : gw_E V i (pc, ls, .long y :: .long x :: st, w, cu, su) Q := by
  intro p l e R s m args below meth cd QQ H locs L X hH hl hret
  exact lv_ladd X.1 X.2.1 hd.1 (k p l e R s m args below meth cd QQ H locs L X hH hl hret)
theorem gs_lmul {x y : Int64} (hd : gw_D i pc (.lmul) 1 a b) (k : gw_E V i (pc + 1, ls, .long (x * y) :: st, w, cu, su) Q) : gw_E V i (pc, ls, .long y :: .long x :: st, w, cu, su) Q := by
  intro p l e R s m args below meth cd QQ H locs L X hH hl hret
  exact lv_lmul X.1 X.2.1 hd.1 (k p l e R s m args below meth cd QQ H locs L X hH hl hret)
theorem gs_land {x y : Int64} (hd : gw_D i pc (.land) 1 a b) (k : gw_E V i (pc + 1, ls, .long (x &&& y) :: st, w, cu, su) Q) : gw_E V i (pc, ls, .long y :: .long x :: st, w, cu, su) Q := by
  intro p l e R s m args below meth cd QQ H locs L X hH hl hret
  exact lv_land X.1 X.2.1 hd.1 (k p l e R s m args below meth cd QQ H locs L X hH hl hret)
theorem gs_lor {x y : Int64} (hd : gw_D i pc (.lor) 1 a b) (k : gw_E V i (pc + 1, ls, .long (x ||| y) :: st, w, cu, su) Q) : gw_E V i (pc, ls, .long y :: .long x :: st, w, cu, su) Q := by
  intro p l e R s m args below meth cd QQ H locs L X hH hl hret
  exact lv_lor X.1 X.2.1 hd.1 (k p l e R s m args below meth cd QQ H locs L X hH hl hret)
theorem gs_ldiv {x y : Int64} (hd : gw_D i pc (.ldiv) 1 a b) (hne : ¬ y = 0) (k : gw_E V i (pc + 1, ls, .long (x / y) :: st, w, cu, su) Q) : gw_E V i (pc, ls, .long y :: .long x :: st, w, cu, su) Q := by
  intro p l e R s m args below meth cd QQ H locs L X hH hl hret
  exact lv_ldiv X.1 X.2.1 hd.1 hne (k p l e R s m args below meth cd QQ H locs L X hH hl hret)
theorem gs_lrem {x y : Int64} (hd : gw_D i pc (.lrem) 1 a b) (hne : ¬ y = 0) (k : gw_E V i (pc + 1, ls, .long (x - x / y * y) :: st, w, cu, su) Q) : gw_E V i (pc, ls, .long y :: .long x :: st, w, cu, su) Q := by
  intro p l e R s m args below meth cd QQ H locs L X hH hl hret
  exact lv_lrem X.1 X.2.1 hd.1 hne (k p l e R s m args below meth cd QQ H locs L X hH hl hret)
theorem gs_ineg {x : Int32} (hd : gw_D i pc (.ineg) 1 a b) (k : gw_E V i (pc + 1, ls, .int (-x) :: st, w, cu, su) Q) : gw_E V i (pc, ls, .int x :: st, w, cu, su) Q := by
  intro p l e R s m args below meth cd QQ H locs L X hH hl hret
  exact lv_ineg X.1 X.2.1 hd.1 (k p l e R s m args below meth cd QQ H locs L X hH hl hret)
theorem gs_lneg {x : Int64} (hd : gw_D i pc (.lneg) 1 a b) (k : gw_E V i (pc + 1, ls, .long (-x) :: st, w, cu, su) Q) : gw_E V i (pc, ls, .long x :: st, w, cu, su) Q := by
  intro p l e R s m args below meth cd QQ H locs L X hH hl hret
  exact lv_lneg X.1 X.2.1 hd.1 (k p l e R s m args below meth cd QQ H locs L X hH hl hret)
theorem gs_iushr {x y : Int32} (hd : gw_D i pc (.iushr) 1 a b) (k : gw_E V i (pc + 1, ls, .int ((x.toUInt32 >>> (y.toUInt32 &&& Int32.toUInt32 31)).toInt32) :: st, w, cu, su) Q) : gw_E V i (pc, ls, .int y :: .int x :: st, w, cu, su) Q := by
  intro p l e R s m args below meth cd QQ H locs L X hH hl hret
  exact lv_iushr X.1 X.2.1 hd.1 rfl (k p l e R s m args below meth cd QQ H locs L X hH hl hret)
theorem gs_lushr {x : Int64} {y : Int32} (hd : gw_D i pc (.lushr) 1 a b) (k : gw_E V i (pc + 1, ls, .long ((x.toUInt64 >>> (y.toInt64.toUInt64 &&& Int64.toUInt64 63)).toInt64) :: st, w, cu, su) Q) : gw_E V i (pc, ls, .int y :: .long x :: st, w, cu, su) Q := by
  intro p l e R s m args below meth cd QQ H locs L X hH hl hret
  exact lv_lushr X.1 X.2.1 hd.1 rfl (k p l e R s m args below meth cd QQ H locs L X hH hl hret)
theorem gs_lshl {x : Int64} {y : Int32} (hd : gw_D i pc (.lshl) 1 a b) (k : gw_E V i (pc + 1, ls, .long (x <<< (y.toInt64 &&& 63)) :: st, w, cu, su) Q) : gw_E V i (pc, ls, .int y :: .long x :: st, w, cu, su) Q := by
  intro p l e R s m args below meth cd QQ H locs L X hH hl hret
  exact lv_lshl X.1 X.2.1 hd.1 rfl (k p l e R s m args below meth cd QQ H locs L X hH hl hret)
theorem gs_i2l {x : Int32} (hd : gw_D i pc (.i2l) 1 a b) (k : gw_E V i (pc + 1, ls, .long x.toInt64 :: st, w, cu, su) Q) : gw_E V i (pc, ls, .int x :: st, w, cu, su) Q := by
  intro p l e R s m args below meth cd QQ H locs L X hH hl hret
  exact lv_i2l X.1 X.2.1 hd.1 rfl (k p l e R s m args below meth cd QQ H locs L X hH hl hret)
theorem gs_l2i {x : Int64} (hd : gw_D i pc (.l2i) 1 a b) (k : gw_E V i (pc + 1, ls, .int x.toInt32 :: st, w, cu, su) Q) : gw_E V i (pc, ls, .long x :: st, w, cu, su) Q := by
  intro p l e R s m args below meth cd QQ H locs L X hH hl hret
  exact lv_l2i X.1 X.2.1 hd.1 rfl (k p l e R s m args below meth cd QQ H locs L X hH hl hret)
theorem gs_lcmp {x y : Int64} (hd : gw_D i pc (.lcmp) 1 a b) (k : gw_E V i (pc + 1, ls, .int (lg_cmp x y) :: st, w, cu, su) Q) : gw_E V i (pc, ls, .long y :: .long x :: st, w, cu, su) Q := by
  intro p l e R s m args below meth cd QQ H locs L X hH hl hret
  exact W.lcmp X.1 X.2.1 hd.1 (k p l e R s m args below meth cd QQ H locs L X hH hl hret)
theorem gs_dup {v : Value} (hd : gw_D i pc (.dup) 1 a b) (hv : v.category = 1) (k : gw_E V i (pc + 1, ls, v :: v :: st, w, cu, su) Q) : gw_E V i (pc, ls, v :: st, w, cu, su) Q := by
  intro p l e R s m args below meth cd QQ H locs L X hH hl hret
  exact lv_dup X.1 X.2.1 hd.1 ((gw_cat V v).trans hv) (k p l e R s m args below meth cd QQ H locs L X hH hl hret)
theorem gs_pop {v : Value} (hd : gw_D i pc (.pop) 1 a b) (hv : v.category = 1) (k : gw_E V i (pc + 1, ls, st, w, cu, su) Q) : gw_E V i (pc, ls, v :: st, w, cu, su) Q := by
  intro p l e R s m args below meth cd QQ H locs L X hH hl hret
  exact lv_pop X.1 X.2.1 hd.1 ((gw_cat V v).trans hv) (k p l e R s m args below meth cd QQ H locs L X hH hl hret)
theorem gs_dup2 {v u : Value} (hd : gw_D i pc (.dup2) 1 a b) (hv : v.category = 1) (hu : u.category = 1) (k : gw_E V i (pc + 1, ls, v :: u :: v :: u :: st, w, cu, su) Q) : gw_E V i (pc, ls, v :: u :: st, w, cu, su) Q := by
  intro p l e R s m args below meth cd QQ H locs L X hH hl hret
  exact lv_dup2_11 X.1 X.2.1 hd.1 ((gw_cat V v).trans hv) ((gw_cat V u).trans hu) (k p l e R s m args below meth cd QQ H locs L X hH hl hret)
theorem gs_dup2L {x : Int64} (hd : gw_D i pc (.dup2) 1 a b) (k : gw_E V i (pc + 1, ls, .long x :: .long x :: st, w, cu, su) Q) : gw_E V i (pc, ls, .long x :: st, w, cu, su) Q := by
  intro p l e R s m args below meth cd QQ H locs L X hH hl hret
  exact lv_dup2_2 X.1 X.2.1 hd.1 rfl (k p l e R s m args below meth cd QQ H locs L X hH hl hret)
theorem gs_iconst {n : Int} (hd : gw_D i pc (.iconst n) 1 a b) (v : Int32) (hv : gb_iv a b = v) (k : gw_E V i (pc + 1, ls, .int v :: st, w, cu, su) Q) : gw_E V i (pc, ls, st, w, cu, su) Q := by
  intro p l e R s m args below meth cd QQ H locs L X hH hl hret
  subst hv
  exact lv_iconst X.1 X.2.1 hd.1 (by have := hd.2; unfold gc_lk at this; simpa using this) (k p l e R s m args below meth cd QQ H locs L X hH hl hret)
theorem gs_bipush {n : Int} (hd : gw_D i pc (.bipush n) 2 a b) (v : Int32) (hv : gb_iv a b = v) (k : gw_E V i (pc + 2, ls, .int v :: st, w, cu, su) Q) : gw_E V i (pc, ls, st, w, cu, su) Q := by
  intro p l e R s m args below meth cd QQ H locs L X hH hl hret
  subst hv
  exact lv_bipush X.1 X.2.1 hd.1 (by have := hd.2; unfold gc_lk at this; simpa using this) (k p l e R s m args below meth cd QQ H locs L X hH hl hret)
theorem gs_sipush {n : Int} (hd : gw_D i pc (.sipush n) 3 a b) (v : Int32) (hv : gb_iv a b = v) (k : gw_E V i (pc + 3, ls, .int v :: st, w, cu, su) Q) : gw_E V i (pc, ls, st, w, cu, su) Q := by
  intro p l e R s m args below meth cd QQ H locs L X hH hl hret
  subst hv
  exact lv_sipush X.1 X.2.1 hd.1 (by have := hd.2; unfold gc_lk at this; simpa using this) (k p l e R s m args below meth cd QQ H locs L X hH hl hret)
theorem gs_lconst {n : Fin 2} (hd : gw_D i pc (.lconst n) 1 a b) (v : Int64) (hv : gb_lv a b = v) (k : gw_E V i (pc + 1, ls, .long v :: st, w, cu, su) Q) : gw_E V i (pc, ls, st, w, cu, su) Q := by
  intro p l e R s m args below meth cd QQ H locs L X hH hl hret
  subst hv
  exact lv_lconst X.1 X.2.1 hd.1 (by have := hd.2; unfold gc_lk at this; simpa using this) (k p l e R s m args below meth cd QQ H locs L X hH hl hret)
theorem gl_K_in {o x a b : Nat} (h : gl_K.any (fun r => r.1 == o && (r.2.1 == x && (r.2.2.1 == a && r.2.2.2.1 == b))) = true) : Cond.constant (gb_n o) x (gb_iv a b) ∈ gb_t := by
  obtain ⟨r, hr, h⟩ := List.any_eq_true.mp h
  simp only [Bool.and_eq_true, beq_iff_eq] at h
  obtain ⟨rfl, rfl, rfl, rfl⟩ := h
  exact gb_tin (gb_at _ (List.all_eq_true.mp gl_K_ok r hr)) rfl
theorem gl_L_in {o x a b : Nat} (h : gl_L.any (fun r => r.1 == o && (r.2.1 == x && (r.2.2.1 == a && r.2.2.2.1 == b))) = true) : Cond.constantLong (gb_n o) x (gb_lv a b) ∈ gb_t := by
  obtain ⟨r, hr, h⟩ := List.any_eq_true.mp h
  simp only [Bool.and_eq_true, beq_iff_eq] at h
  obtain ⟨rfl, rfl, rfl, rfl⟩ := h
  exact gb_tin (gb_at _ (List.all_eq_true.mp gl_L_ok r hr)) rfl
theorem gs_ldc {x : Nat} (hd : gw_D i pc (.ldc x) 2 a b) (v : Int32) (hv : gb_iv a b = v) (k : gw_E V i (pc + 2, ls, .int v :: st, w, cu, su) Q) : gw_E V i (pc, ls, st, w, cu, su) Q := by
  intro p l e R s m args below meth cd QQ H locs L X hH hl hret
  subst hv
  exact lv_ldc X.1 X.2.1 X.2.2.2.1 (X.2.2.2.2.1 _ (gl_K_in hd.2)) hd.1 (k p l e R s m args below meth cd QQ H locs L X hH hl hret)
theorem gs_ldc_w {x : Nat} (hd : gw_D i pc (.ldc_w x) 3 a b) (v : Int32) (hv : gb_iv a b = v) (k : gw_E V i (pc + 3, ls, .int v :: st, w, cu, su) Q) : gw_E V i (pc, ls, st, w, cu, su) Q := by
  intro p l e R s m args below meth cd QQ H locs L X hH hl hret
  subst hv
  exact lv_ldcw X.1 X.2.1 X.2.2.2.1 (X.2.2.2.2.1 _ (gl_K_in hd.2)) hd.1 (k p l e R s m args below meth cd QQ H locs L X hH hl hret)
theorem gs_ldc2_w {x : Nat} (hd : gw_D i pc (.ldc2_w x) 3 a b) (v : Int64) (hv : gb_lv a b = v) (k : gw_E V i (pc + 3, ls, .long v :: st, w, cu, su) Q) : gw_E V i (pc, ls, st, w, cu, su) Q := by
  intro p l e R s m args below meth cd QQ H locs L X hH hl hret
  subst hv
  exact lv_ldc2 X.1 X.2.1 X.2.2.2.1 (X.2.2.2.2.1 _ (gl_L_in hd.2)) hd.1 (k p l e R s m args below meth cd QQ H locs L X hH hl hret)
theorem gs_iload_n {n : Fin 4} {x : Int32} (hd : gw_D i pc (.iload_n n) 1 a b) (hx : ls.lookup a = some (.int x)) (k : gw_E V i (pc + 1, ls, .int x :: st, w, cu, su) Q) : gw_E V i (pc, ls, st, w, cu, su) Q := by
  intro p l e R s m args below meth cd QQ H locs L X hH hl hret
  exact lv_iload_n X.1 X.2.1 hd.1 (by have := hd.2; unfold gc_lk at this; simpa using this) (gw_look hl hx) (k p l e R s m args below meth cd QQ H locs L X hH hl hret)
theorem gs_iload {n : Nat} {x : Int32} (hd : gw_D i pc (.iload n) 2 a b) (hx : ls.lookup a = some (.int x)) (k : gw_E V i (pc + 2, ls, .int x :: st, w, cu, su) Q) : gw_E V i (pc, ls, st, w, cu, su) Q := by
  intro p l e R s m args below meth cd QQ H locs L X hH hl hret
  have hn : n = a := by have := hd.2; unfold gc_lk at this; simpa using this
  exact lv_iload X.1 X.2.1 hd.1 (hn ▸ gw_look hl hx) (k p l e R s m args below meth cd QQ H locs L X hH hl hret)
theorem gs_lload_n {n : Fin 4} {x : Int64} (hd : gw_D i pc (.lload_n n) 1 a b) (hx : ls.lookup a = some (.long x)) (k : gw_E V i (pc + 1, ls, .long x :: st, w, cu, su) Q) : gw_E V i (pc, ls, st, w, cu, su) Q := by
  intro p l e R s m args below meth cd QQ H locs L X hH hl hret
  exact lv_lload_n X.1 X.2.1 hd.1 (by have := hd.2; unfold gc_lk at this; simpa using this) (gw_look hl hx) (k p l e R s m args below meth cd QQ H locs L X hH hl hret)
theorem gs_lload {n : Nat} {x : Int64} (hd : gw_D i pc (.lload n) 2 a b) (hx : ls.lookup a = some (.long x)) (k : gw_E V i (pc + 2, ls, .long x :: st, w, cu, su) Q) : gw_E V i (pc, ls, st, w, cu, su) Q := by
  intro p l e R s m args below meth cd QQ H locs L X hH hl hret
  have hn : n = a := by have := hd.2; unfold gc_lk at this; simpa using this
  exact lv_lload X.1 X.2.1 hd.1 (hn ▸ gw_look hl hx) (k p l e R s m args below meth cd QQ H locs L X hH hl hret)
theorem gs_aload_n {n : Fin 4} {x : Nat} (hd : gw_D i pc (.aload_n n) 1 a b) (hx : ls.lookup a = some (.ref x)) (k : gw_E V i (pc + 1, ls, .ref x :: st, w, cu, su) Q) : gw_E V i (pc, ls, st, w, cu, su) Q := by
  intro p l e R s m args below meth cd QQ H locs L X hH hl hret
  exact lv_aload_n X.1 X.2.1 hd.1 (by have := hd.2; unfold gc_lk at this; simpa using this) (gw_look hl hx) (k p l e R s m args below meth cd QQ H locs L X hH hl hret)
theorem gs_aload {n : Nat} {x : Nat} (hd : gw_D i pc (.aload n) 2 a b) (hx : ls.lookup a = some (.ref x)) (k : gw_E V i (pc + 2, ls, .ref x :: st, w, cu, su) Q) : gw_E V i (pc, ls, st, w, cu, su) Q := by
  intro p l e R s m args below meth cd QQ H locs L X hH hl hret
  have hn : n = a := by have := hd.2; unfold gc_lk at this; simpa using this
  exact lv_aload X.1 X.2.1 hd.1 (hn ▸ gw_look hl hx) (k p l e R s m args below meth cd QQ H locs L X hH hl hret)
theorem gs_istore_n {n : Fin 4} {x : Int32} {ls2 : Int32 → List (Nat × Value)} (hd : gw_D i pc (.istore_n n) 1 a b) (hn : a < gm_L i) (hs : ∀ v, gw_ins a (.int v) (gw_f1 a ls) = ls2 v) (k : ∀ v, v = x → gw_E V i (pc + 1, ls2 v, st, w, cu, su) Q) : gw_E V i (pc, ls, .int x :: st, w, cu, su) Q := by
  intro p l e R s m args below meth cd QQ H locs L X hH hl hret
  have ha : n.val = a := by have := hd.2; unfold gc_lk at this; simpa using this
  refine lv_istore_n X.1 X.2.1 hd.1 ha hl hn rfl (fun L2 hl2 => ?_)
  rw [gw_f1_map] at hl2
  have h9 := gw_has_ins (V := V) (v := .int x) hl2
  rw [hs] at h9
  exact k x rfl p l e R s m args below meth cd QQ H locs L2 X hH h9 hret
theorem gs_istore {n : Nat} {x : Int32} {ls2 : Int32 → List (Nat × Value)} (hd : gw_D i pc (.istore n) 2 a b) (hn : a < gm_L i) (hs : ∀ v, gw_ins a (.int v) (gw_f1 a ls) = ls2 v) (k : ∀ v, v = x → gw_E V i (pc + 2, ls2 v, st, w, cu, su) Q) : gw_E V i (pc, ls, .int x :: st, w, cu, su) Q := by
  intro p l e R s m args below meth cd QQ H locs L X hH hl hret
  have ha : n = a := by have := hd.2; unfold gc_lk at this; simpa using this
  subst ha
  refine lv_istore X.1 X.2.1 hd.1 hl hn rfl (fun L2 hl2 => ?_)
  rw [gw_f1_map] at hl2
  have h9 := gw_has_ins (V := V) (v := .int x) hl2
  rw [hs] at h9
  exact k x rfl p l e R s m args below meth cd QQ H locs L2 X hH h9 hret
theorem gs_lstore_n {n : Fin 4} {x : Int64} {ls2 : Int64 → List (Nat × Value)} (hd : gw_D i pc (.lstore_n n) 1 a b) (hn : a + 1 < gm_L i) (hs : ∀ v, gw_ins a (.long v) (gw_f2 a ls) = ls2 v) (k : ∀ v, v = x → gw_E V i (pc + 1, ls2 v, st, w, cu, su) Q) : gw_E V i (pc, ls, .long x :: st, w, cu, su) Q := by
  intro p l e R s m args below meth cd QQ H locs L X hH hl hret
  have ha : n.val = a := by have := hd.2; unfold gc_lk at this; simpa using this
  refine lv_lstore_n X.1 X.2.1 hd.1 ha hl hn rfl (fun L2 hl2 => ?_)
  rw [gw_f2_map] at hl2
  have h9 := gw_has_ins (V := V) (v := .long x) hl2
  rw [hs] at h9
  exact k x rfl p l e R s m args below meth cd QQ H locs L2 X hH h9 hret
theorem gs_lstore {n : Nat} {x : Int64} {ls2 : Int64 → List (Nat × Value)} (hd : gw_D i pc (.lstore n) 2 a b) (hn : a + 1 < gm_L i) (hs : ∀ v, gw_ins a (.long v) (gw_f2 a ls) = ls2 v) (k : ∀ v, v = x → gw_E V i (pc + 2, ls2 v, st, w, cu, su) Q) : gw_E V i (pc, ls, .long x :: st, w, cu, su) Q := by
  intro p l e R s m args below meth cd QQ H locs L X hH hl hret
  have ha : n = a := by have := hd.2; unfold gc_lk at this; simpa using this
  subst ha
  refine lv_lstore X.1 X.2.1 hd.1 hl hn rfl (fun L2 hl2 => ?_)
  rw [gw_f2_map] at hl2
  have h9 := gw_has_ins (V := V) (v := .long x) hl2
  rw [hs] at h9
  exact k x rfl p l e R s m args below meth cd QQ H locs L2 X hH h9 hret
theorem gs_astore_n {n : Fin 4} {x : Nat} {ls2 : Nat → List (Nat × Value)} (hd : gw_D i pc (.astore_n n) 1 a b) (hn : a < gm_L i) (hs : ∀ v, gw_ins a (.ref v) (gw_f1 a ls) = ls2 v) (k : ∀ v, v = x → gw_E V i (pc + 1, ls2 v, st, w, cu, su) Q) : gw_E V i (pc, ls, .ref x :: st, w, cu, su) Q := by
  intro p l e R s m args below meth cd QQ H locs L X hH hl hret
  have ha : n.val = a := by have := hd.2; unfold gc_lk at this; simpa using this
  refine lv_astore_n X.1 X.2.1 hd.1 ha hl hn rfl (fun L2 hl2 => ?_)
  rw [gw_f1_map] at hl2
  have h9 := gw_has_ins (V := V) (v := .ref x) hl2
  rw [hs] at h9
  exact k x rfl p l e R s m args below meth cd QQ H locs L2 X hH h9 hret
theorem gs_astore {n : Nat} {x : Nat} {ls2 : Nat → List (Nat × Value)} (hd : gw_D i pc (.astore n) 2 a b) (hn : a < gm_L i) (hs : ∀ v, gw_ins a (.ref v) (gw_f1 a ls) = ls2 v) (k : ∀ v, v = x → gw_E V i (pc + 2, ls2 v, st, w, cu, su) Q) : gw_E V i (pc, ls, .ref x :: st, w, cu, su) Q := by
  intro p l e R s m args below meth cd QQ H locs L X hH hl hret
  have ha : n = a := by have := hd.2; unfold gc_lk at this; simpa using this
  subst ha
  refine lv_astore X.1 X.2.1 hd.1 hl hn rfl (fun L2 hl2 => ?_)
  rw [gw_f1_map] at hl2
  have h9 := gw_has_ins (V := V) (v := .ref x) hl2
  rw [hs] at h9
  exact k x rfl p l e R s m args below meth cd QQ H locs L2 X hH h9 hret
theorem gw_lookk {ls : List (Nat × Value)} {a : Nat} {v : Value} (h : ls.lookup a = some v) : ∃ k : Nat, ls[k]? = some (a, v) := by
  induction ls with
  | nil => simp at h
  | cons q t ih =>
    obtain ⟨q1, q2⟩ := q
    rw [List.lookup_cons] at h
    by_cases e : a = q1
    · subst e
      simp at h
      subst h
      exact ⟨0, rfl⟩
    · have e2 : (a == q1) = false := by simpa using e
      rw [e2] at h
      obtain ⟨k, hk⟩ := ih h
      exact ⟨k + 1, hk⟩
theorem gs_iinc {n : Nat} {d : Int} {x : Int32} {ls2 : Int32 → List (Nat × Value)} (hd : gw_D i pc (.iinc n d) 3 a b) (hx : ls.lookup n = some (.int x)) (hn : n < gm_L i) (hs : ∀ v, gw_ins n (.int v) (gw_f1 n ls) = ls2 v) (dl : Int32) (hdl : gb_iv a b = dl) (k : ∀ v, v = x + dl → gw_E V i (pc + 3, ls2 v, st, w, cu, su) Q) : gw_E V i (pc, ls, st, w, cu, su) Q := by
  intro p l e R s m args below meth cd QQ H locs L X hH hl hret
  subst hdl
  have hv : Int32.ofInt d = gb_iv a b := by have := hd.2; unfold gc_lk at this; simpa using this
  obtain ⟨j, hj⟩ := gw_lookk hx
  refine lv_iinc X.1 X.2.1 hd.1 hl (k := j) (x := x) (v := x + gb_iv a b) (by show (gw_lm V ls)[j]? = _; unfold gw_lm; rw [List.getElem?_map, hj]; rfl) (by rw [hv]) hn rfl (fun L2 hl2 => ?_)
  rw [gw_f1_map] at hl2
  have h9 := gw_has_ins (V := V) (v := .int (x + gb_iv a b)) hl2
  rw [hs] at h9
  exact k _ rfl p l e R s m args below meth cd QQ H locs L2 X hH h9 hret
theorem gs_if_eq {x : Int32} {off : Int} (hd : gw_D i pc (.ifCond .eq off) 3 a b) (kt : x = 0 → gw_E V i (a, ls, st, w, cu, su) Q) (kf : ¬ (x = 0) → gw_E V i (pc + 3, ls, st, w, cu, su) Q) : gw_E V i (pc, ls, .int x :: st, w, cu, su) Q := by
  intro p l e R s m args below meth cd QQ H locs L X hH hl hret
  exact lv_if_eq X.1 X.2.1 hd.1 (by have := hd.2; unfold gc_lk at this; simpa using this) (fun h => kt h p l e R s m args below meth cd QQ H locs L X hH hl hret) (fun h => kf h p l e R s m args below meth cd QQ H locs L X hH hl hret)
theorem gs_icmp_eq {x y : Int32} {off : Int} (hd : gw_D i pc (.if_icmp .eq off) 3 a b) (kt : x = y → gw_E V i (a, ls, st, w, cu, su) Q) (kf : ¬ (x = y) → gw_E V i (pc + 3, ls, st, w, cu, su) Q) : gw_E V i (pc, ls, .int y :: .int x :: st, w, cu, su) Q := by
  intro p l e R s m args below meth cd QQ H locs L X hH hl hret
  exact lv_icmp_eq X.1 X.2.1 hd.1 (by have := hd.2; unfold gc_lk at this; simpa using this) (fun h => kt h p l e R s m args below meth cd QQ H locs L X hH hl hret) (fun h => kf h p l e R s m args below meth cd QQ H locs L X hH hl hret)
theorem gs_if_ne {x : Int32} {off : Int} (hd : gw_D i pc (.ifCond .ne off) 3 a b) (kt : ¬ x = 0 → gw_E V i (a, ls, st, w, cu, su) Q) (kf : x = 0 → gw_E V i (pc + 3, ls, st, w, cu, su) Q) : gw_E V i (pc, ls, .int x :: st, w, cu, su) Q := by
  intro p l e R s m args below meth cd QQ H locs L X hH hl hret
  exact lv_if_ne X.1 X.2.1 hd.1 (by have := hd.2; unfold gc_lk at this; simpa using this) (fun h => kt h p l e R s m args below meth cd QQ H locs L X hH hl hret) (fun h => kf h p l e R s m args below meth cd QQ H locs L X hH hl hret)
theorem gs_icmp_ne {x y : Int32} {off : Int} (hd : gw_D i pc (.if_icmp .ne off) 3 a b) (kt : ¬ x = y → gw_E V i (a, ls, st, w, cu, su) Q) (kf : x = y → gw_E V i (pc + 3, ls, st, w, cu, su) Q) : gw_E V i (pc, ls, .int y :: .int x :: st, w, cu, su) Q := by
  intro p l e R s m args below meth cd QQ H locs L X hH hl hret
  exact lv_icmp_ne X.1 X.2.1 hd.1 (by have := hd.2; unfold gc_lk at this; simpa using this) (fun h => kt h p l e R s m args below meth cd QQ H locs L X hH hl hret) (fun h => kf h p l e R s m args below meth cd QQ H locs L X hH hl hret)
theorem gs_if_lt {x : Int32} {off : Int} (hd : gw_D i pc (.ifCond .lt off) 3 a b) (kt : x < 0 → gw_E V i (a, ls, st, w, cu, su) Q) (kf : ¬ (x < 0) → gw_E V i (pc + 3, ls, st, w, cu, su) Q) : gw_E V i (pc, ls, .int x :: st, w, cu, su) Q := by
  intro p l e R s m args below meth cd QQ H locs L X hH hl hret
  exact lv_if_lt X.1 X.2.1 hd.1 (by have := hd.2; unfold gc_lk at this; simpa using this) (fun h => kt h p l e R s m args below meth cd QQ H locs L X hH hl hret) (fun h => kf h p l e R s m args below meth cd QQ H locs L X hH hl hret)
theorem gs_icmp_lt {x y : Int32} {off : Int} (hd : gw_D i pc (.if_icmp .lt off) 3 a b) (kt : x < y → gw_E V i (a, ls, st, w, cu, su) Q) (kf : ¬ (x < y) → gw_E V i (pc + 3, ls, st, w, cu, su) Q) : gw_E V i (pc, ls, .int y :: .int x :: st, w, cu, su) Q := by
  intro p l e R s m args below meth cd QQ H locs L X hH hl hret
  exact lv_icmp_lt X.1 X.2.1 hd.1 (by have := hd.2; unfold gc_lk at this; simpa using this) (fun h => kt h p l e R s m args below meth cd QQ H locs L X hH hl hret) (fun h => kf h p l e R s m args below meth cd QQ H locs L X hH hl hret)
theorem gs_if_ge {x : Int32} {off : Int} (hd : gw_D i pc (.ifCond .ge off) 3 a b) (kt : 0 ≤ x → gw_E V i (a, ls, st, w, cu, su) Q) (kf : ¬ (0 ≤ x) → gw_E V i (pc + 3, ls, st, w, cu, su) Q) : gw_E V i (pc, ls, .int x :: st, w, cu, su) Q := by
  intro p l e R s m args below meth cd QQ H locs L X hH hl hret
  exact lv_if_ge X.1 X.2.1 hd.1 (by have := hd.2; unfold gc_lk at this; simpa using this) (fun h => kt h p l e R s m args below meth cd QQ H locs L X hH hl hret) (fun h => kf h p l e R s m args below meth cd QQ H locs L X hH hl hret)
theorem gs_icmp_ge {x y : Int32} {off : Int} (hd : gw_D i pc (.if_icmp .ge off) 3 a b) (kt : y ≤ x → gw_E V i (a, ls, st, w, cu, su) Q) (kf : ¬ (y ≤ x) → gw_E V i (pc + 3, ls, st, w, cu, su) Q) : gw_E V i (pc, ls, .int y :: .int x :: st, w, cu, su) Q := by
  intro p l e R s m args below meth cd QQ H locs L X hH hl hret
  exact lv_icmp_ge X.1 X.2.1 hd.1 (by have := hd.2; unfold gc_lk at this; simpa using this) (fun h => kt h p l e R s m args below meth cd QQ H locs L X hH hl hret) (fun h => kf h p l e R s m args below meth cd QQ H locs L X hH hl hret)
theorem gs_if_gt {x : Int32} {off : Int} (hd : gw_D i pc (.ifCond .gt off) 3 a b) (kt : 0 < x → gw_E V i (a, ls, st, w, cu, su) Q) (kf : ¬ (0 < x) → gw_E V i (pc + 3, ls, st, w, cu, su) Q) : gw_E V i (pc, ls, .int x :: st, w, cu, su) Q := by
  intro p l e R s m args below meth cd QQ H locs L X hH hl hret
  exact lv_if_gt X.1 X.2.1 hd.1 (by have := hd.2; unfold gc_lk at this; simpa using this) (fun h => kt h p l e R s m args below meth cd QQ H locs L X hH hl hret) (fun h => kf h p l e R s m args below meth cd QQ H locs L X hH hl hret)
theorem gs_icmp_gt {x y : Int32} {off : Int} (hd : gw_D i pc (.if_icmp .gt off) 3 a b) (kt : y < x → gw_E V i (a, ls, st, w, cu, su) Q) (kf : ¬ (y < x) → gw_E V i (pc + 3, ls, st, w, cu, su) Q) : gw_E V i (pc, ls, .int y :: .int x :: st, w, cu, su) Q := by
  intro p l e R s m args below meth cd QQ H locs L X hH hl hret
  exact lv_icmp_gt X.1 X.2.1 hd.1 (by have := hd.2; unfold gc_lk at this; simpa using this) (fun h => kt h p l e R s m args below meth cd QQ H locs L X hH hl hret) (fun h => kf h p l e R s m args below meth cd QQ H locs L X hH hl hret)
theorem gs_if_le {x : Int32} {off : Int} (hd : gw_D i pc (.ifCond .le off) 3 a b) (kt : x ≤ 0 → gw_E V i (a, ls, st, w, cu, su) Q) (kf : ¬ (x ≤ 0) → gw_E V i (pc + 3, ls, st, w, cu, su) Q) : gw_E V i (pc, ls, .int x :: st, w, cu, su) Q := by
  intro p l e R s m args below meth cd QQ H locs L X hH hl hret
  exact lv_if_le X.1 X.2.1 hd.1 (by have := hd.2; unfold gc_lk at this; simpa using this) (fun h => kt h p l e R s m args below meth cd QQ H locs L X hH hl hret) (fun h => kf h p l e R s m args below meth cd QQ H locs L X hH hl hret)
theorem gs_icmp_le {x y : Int32} {off : Int} (hd : gw_D i pc (.if_icmp .le off) 3 a b) (kt : x ≤ y → gw_E V i (a, ls, st, w, cu, su) Q) (kf : ¬ (x ≤ y) → gw_E V i (pc + 3, ls, st, w, cu, su) Q) : gw_E V i (pc, ls, .int y :: .int x :: st, w, cu, su) Q := by
  intro p l e R s m args below meth cd QQ H locs L X hH hl hret
  exact lv_icmp_le X.1 X.2.1 hd.1 (by have := hd.2; unfold gc_lk at this; simpa using this) (fun h => kt h p l e R s m args below meth cd QQ H locs L X hH hl hret) (fun h => kf h p l e R s m args below meth cd QQ H locs L X hH hl hret)
theorem gs_goto {off : Int} (hd : gw_D i pc (.goto off) 3 a b) (k : gw_E V i (a, ls, st, w, cu, su) Q) : gw_E V i (pc, ls, st, w, cu, su) Q := by
  intro p l e R s m args below meth cd QQ H locs L X hH hl hret
  exact lv_goto X.1 X.2.1 hd.1 (by have := hd.2; unfold gc_lk at this; simpa using this) (k p l e R s m args below meth cd QQ H locs L X hH hl hret)
theorem gs_tblIn {dflt lo hi off : Int} {offs : Array Int} {x : Int32} (tgt : Nat) (hd : gw_D i pc (.tableswitch dflt lo hi offs) len a b) (h1 : ¬ x.toInt < lo) (h2 : ¬ hi < x.toInt) (ho : offs[(x.toInt - lo).toNat]? = some off) (ht : (pc : Int) + off = (tgt : Int)) (k : gw_E V i (tgt, ls, st, w, cu, su) Q) : gw_E V i (pc, ls, .int x :: st, w, cu, su) Q := by
  intro p l e R s m args below meth cd QQ H locs L X hH hl hret
  exact lv_tableIn X.1 X.2.1 hd.1 h1 h2 ho ht (k p l e R s m args below meth cd QQ H locs L X hH hl hret)
theorem gs_tblOut {dflt lo hi : Int} {offs : Array Int} {x : Int32} (tgt : Nat) (hd : gw_D i pc (.tableswitch dflt lo hi offs) len a b) (h1 : x.toInt < lo ∨ hi < x.toInt) (ht : (pc : Int) + dflt = (tgt : Int)) (k : gw_E V i (tgt, ls, st, w, cu, su) Q) : gw_E V i (pc, ls, .int x :: st, w, cu, su) Q := by
  intro p l e R s m args below meth cd QQ H locs L X hH hl hret
  exact lv_tableOut X.1 X.2.1 hd.1 h1 ht (k p l e R s m args below meth cd QQ H locs L X hH hl hret)
theorem gs_ret (hd : gw_D i pc .return_ 1 a b) (hr : gm_r i = none) (hc : cu ≤ gm_c i) (hs : su ≤ gm_s i) (q : Q none w) : gw_E V i (pc, ls, [], w, cu, su) Q := by
  intro p l e R s m args below meth cd QQ H locs L X hH hl hret
  exact hret none w H locs pc L cu su q hH ⟨hd.1, hr⟩ hc hs
theorem gs_iret {x : Int32} {ty : FieldType} (hd : gw_D i pc .ireturn 1 a b) (hr : gm_r i = some ty) (hn : narrow ty (.int x) = .int x) (hc : cu ≤ gm_c i) (hs : su ≤ gm_s i) (q : Q (some (.int x)) w) : gw_E V i (pc, ls, [.int x], w, cu, su) Q := by
  intro p l e R s m args below meth cd QQ H locs L X hH hl hret
  exact hret (some (.int x)) w H locs pc L cu su q hH ⟨hd.1, ty, hr, hn⟩ hc hs
theorem gs_lret {x : Int64} (hd : gw_D i pc .lreturn 1 a b) (hr : gm_r i = some .long) (hc : cu ≤ gm_c i) (hs : su ≤ gm_s i) (q : Q (some (.long x)) w) : gw_E V i (pc, ls, [.long x], w, cu, su) Q := by
  intro p l e R s m args below meth cd QQ H locs L X hH hl hret
  exact hret (some (.long x)) w H locs pc L cu su q hH ⟨hd.1, hr⟩ hc hs
end GR
end
section
/-! ===== the rules: cells ===== -/
theorem gl_F_in {o x c k : Nat} (h : gl_F.any (fun r => r.1 == o && (r.2.1 == x && (r.2.2.1 == c && r.2.2.2.1 == k))) = true) : Cond.fieldLink (gb_n o) x (gb_F c k).1 (gb_F c k).2.1 (gb_F c k).2.2.1 ∈ gb_t ∧ c < 12 ∧ k < gb_K c := by
  obtain ⟨r, hr, h⟩ := List.any_eq_true.mp h
  simp only [Bool.and_eq_true, beq_iff_eq] at h
  obtain ⟨rfl, rfl, rfl, rfl⟩ := h
  have := List.all_eq_true.mp gl_F_ok r hr
  simp only [Bool.and_eq_true, decide_eq_true_eq] at this
  exact ⟨gb_tin (gb_at _ this.1) rfl, this.2.1, this.2.2⟩
theorem gw_T_lt {w : gw_W} {a t : Nat} (h : gw_T w a = t) (ht : t ≠ 99) : a < w.1.length := by
  rcases Nat.lt_or_ge a w.1.length with q | q
  · exact q
  · unfold gw_T at h
    rw [List.getD_eq_getElem?_getD, List.getElem?_eq_none q] at h
    exact absurd h.symm ht
theorem gw_T_3 {V : gw_V} {w : gw_W} {s : State} {H : Heap} {locs : List Loc} (hH : gw_H V w s H locs) {a t : Nat} (h : gw_T w a = t) (ht : t ≠ 16) : 3 ≤ a := by
  rcases Nat.lt_or_ge a 3 with q | q
  · exact absurd (h.symm.trans (hH.2.2.2.2 a q).1) ht
  · exact q
theorem gw_cell_obj {V : gw_V} {w : gw_W} {a c : Nat} (h : gw_T w a = c) (hc : c < 12) : gw_cell V w a = .inr (c, gw_fs V w c a) := by
  unfold gw_cell
  rw [h, if_neg (by omega), if_neg (by omega), if_neg (by omega), if_neg (by omega)]
theorem gw_cell_I {V : gw_V} {w : gw_W} {a : Nat} (h : gw_T w a = 12) : gw_cell V w a = .inl (V.2.1 0, gw_N w a, .inl (w.2.1 a)) := by
  unfold gw_cell
  rw [if_pos h]
theorem gw_cell_Z {V : gw_V} {w : gw_W} {a : Nat} (h : gw_T w a = 13) : gw_cell V w a = .inl (V.2.1 1, gw_N w a, .inl (w.2.1 a)) := by
  unfold gw_cell
  rw [h, if_neg (by omega), if_pos rfl]
theorem gw_cell_M {V : gw_V} {w : gw_W} {a : Nat} (h : gw_T w a = 14) : gw_cell V w a = .inl (V.2.1 2, gw_N w a, .inr (.inr (.inr (.inr (fun j => gw_ro V (w.2.2.2 a j)))))) := by
  unfold gw_cell
  rw [h, if_neg (by omega), if_neg (by omega), if_pos rfl]
theorem gw_cell_A {V : gw_V} {w : gw_W} {a : Nat} (h : gw_T w a = 15) : gw_cell V w a = .inl (V.2.1 3, gw_N w a, .inr (.inr (.inr (.inr (fun j => gw_ro V (w.2.2.2 a j)))))) := by
  unfold gw_cell
  rw [h, if_neg (by omega), if_neg (by omega), if_neg (by omega), if_pos rfl]
/-- a cell as the world has it -/
theorem gw_at {V : gw_V} {w : gw_W} {s : State} {H : Heap} {locs : List Loc} (hH : gw_H V w s H locs) {a t : Nat} (h : gw_T w a = t) (ht : t < 16) : (gw_ws V w)[a - 3]? = some (gw_ad V a, gw_cell V w a) :=
  gw_ws_get (gw_T_3 hH h (by omega)) (gw_T_lt h (by omega))
/-- another world of the same shapes, that differs at one cell of ours -/
theorem gw_H_set {V : gw_V} {w w' : gw_W} {s : State} {H H1 : Heap} {locs locs1 : List Loc} (hH : gw_H V w s H locs) {a t : Nat} (h : gw_T w a = t) (ht : t < 16) (hw : w'.1 = w.1) (ho : ∀ k, k ≠ a → gw_cell V w' k = gw_cell V w k) (hI : ∀ k, k ≠ a → w'.2.1 k = w.2.1 k) {x : va_E} (hx : gw_cell V w' a = x) (hP : va_P V.1 gb_cl ((gw_ws V w).set (a - 3) (gw_ad V a, x)) H1) (hz : w.1.length < 145 → H1.size = H.size) (hS : va_S (gw_A V) s.heap H1 locs1) : gw_H V w' s H1 locs1 := by
  obtain ⟨h1, h2, h3, h4, h5⟩ := hH
  have hH : gw_H V w s H locs := ⟨h1, h2, h3, h4, h5⟩
  rw [gw_ws_set (w' := w') (gw_T_3 hH h (by omega)) (gw_T_lt h (by omega)) (by rw [hw]) ho hx] at hP
  refine ⟨hP, fun h9 => by rw [hw] at h9 ⊢; rw [hz h9, h2 h9], by rw [hw]; exact h3, hS, fun k hk => ?_⟩
  have ha : 3 ≤ a := gw_T_3 hH h (by omega)
  rw [hI k (by omega)]
  have hT : gw_T w' k = gw_T w k := by unfold gw_T; rw [hw]
  have hN : gw_N w' k = gw_N w k := by unfold gw_N; rw [hw]
  rw [hT, hN]
  exact h5 k hk
theorem gw_cell_ext {V : gw_V} {w w' : gw_W} {k : Nat} (hw : w'.1 = w.1) (h1 : w'.2.1 k = w.2.1 k) (h2 : w'.2.2.1 k = w.2.2.1 k) (h3 : w'.2.2.2 k = w.2.2.2 k) : gw_cell V w' k = gw_cell V w k := by
  unfold gw_cell gw_fs gw_T gw_N
  have e : gw_fv V w' ((w.1.getD k (99, 0)).1) k = gw_fv V w ((w.1.getD k (99, 0)).1) k := by
    funext j
    unfold gw_fv
    rw [h1, h2, h3]
  rw [hw, e, h1, h3]
theorem gw_ro_pos {V : gw_V} {r : Nat} (h : r ≠ 0) : va_rf (gw_ro V r) = gw_mv V (.ref r) := by
  unfold gw_ro
  rw [if_neg h]
  rfl
section GH
variable {V : gw_V} {i pc len a b c k : Nat} {ls : List (Nat × Value)} {st : List Value} {sh : List (Nat × Nat)} {I : Nat → Nat → Int32} {J : Nat → Nat → Int64} {F : Nat → Nat → Nat} {w : gw_W} {cu su : Nat} {Q : Option Value → gw_W → Prop}
theorem gs_getf {x : Nat} {v : Value} (hd : gw_D i pc (.getfield x) 3 c k) (ht : gw_T w a = c) (hv : gw_fv V w c a k = gw_mv V v) (kk : gw_E V i (pc + 3, ls, v :: st, w, cu, su) Q) : gw_E V i (pc, ls, .ref a :: st, w, cu, su) Q := by
  intro p l e R s m args below meth cd QQ H locs L X hH hl hret
  obtain ⟨hin, hc, hk⟩ := gl_F_in hd.2
  have he := gw_at hH ht (by omega)
  rw [gw_cell_obj ht hc] at he
  exact va_get X.1 X.2.1 X.2.2.2.2.1 (gb_lay hc) X.2.2.2.1 X.2.2.2.2.2.2.2.2.2.2.2.2.1 hH.1 (a - 3) he (gb_cl_get hc) k hk (X.2.2.2.2.1 _ hin) (fun _ h9 => h9) (gw_fs_get hk) hd.1 (by rw [hv]; exact kk p l e R s m args below meth cd QQ H locs L X hH hl hret)
theorem gs_getI {x : Nat} (hd : gw_D i pc (.getfield x) 3 c k) (ht : gw_T (sh, I, J, F) a = c) (hs : gb_s c k = 0) (kk : gw_E V i (pc + 3, ls, .int (I a k) :: st, (sh, I, J, F), cu, su) Q) : gw_E V i (pc, ls, .ref a :: st, (sh, I, J, F), cu, su) Q :=
  gs_getf hd ht (by unfold gw_fv; rw [if_pos hs]; rfl) kk
theorem gs_getJ {x : Nat} (hd : gw_D i pc (.getfield x) 3 c k) (ht : gw_T (sh, I, J, F) a = c) (hs : gb_s c k = 1) (kk : gw_E V i (pc + 3, ls, .long (J a k) :: st, (sh, I, J, F), cu, su) Q) : gw_E V i (pc, ls, .ref a :: st, (sh, I, J, F), cu, su) Q :=
  gs_getf hd ht (by unfold gw_fv; rw [if_neg (by omega), if_pos hs]; rfl) kk
theorem gs_getR {x r : Nat} (hd : gw_D i pc (.getfield x) 3 c k) (ht : gw_T (sh, I, J, F) a = c) (hs : gb_s c k = 2) (hr : F a k = r) (h0 : r ≠ 0) (kk : gw_E V i (pc + 3, ls, .ref r :: st, (sh, I, J, F), cu, su) Q) : gw_E V i (pc, ls, .ref a :: st, (sh, I, J, F), cu, su) Q :=
  gs_getf hd ht (by unfold gw_fv; rw [if_neg (by omega), if_neg (by omega)]; show va_rf (gw_ro V (F a k)) = _; rw [hr]; exact gw_ro_pos h0) kk
/-- a field is written: the new world differs at this slot -/
theorem gs_putf {x : Nat} {v : Value} {w' : gw_W} (hd : gw_D i pc (.putfield x) 3 c k) (ht : gw_T w a = c) (hf : (gb_F c k).2.2.2 = false ∨ (gm_k i = 2 ∧ (gb_F c k).1 = gb_n (gm_o i))) (hn : narrow (gb_ty c k) (gw_mv V v) = gw_mv V v) (hfit : fits (gb_ty c k) (gw_mv V v) = true)
    (hw : w'.1 = w.1) (ho : ∀ q, q ≠ a → w'.2.1 q = w.2.1 q ∧ w'.2.2.1 q = w.2.2.1 q ∧ w'.2.2.2 q = w.2.2.2 q) (hs : ∀ q, q ≠ k → gw_fv V w' c a q = gw_fv V w c a q) (hv : gw_fv V w' c a k = gw_mv V v) (kk : gw_E V i (pc + 3, ls, st, w', cu, su) Q) : gw_E V i (pc, ls, v :: .ref a :: st, w, cu, su) Q := by
  intro p l e R s m args below meth cd QQ H locs L X hH hl hret
  obtain ⟨hin, hc, hk⟩ := gl_F_in hd.2
  have he := gw_at hH ht (by omega)
  have hD : va_D (gw_A V) (gw_ws V w) := gw_ws_D
  rw [gw_cell_obj ht hc] at he
  have key : ∀ (H1 : Heap) (locs1 : List Loc), va_P V.1 gb_cl ((gw_ws V w).set (a - 3) (gw_ad V a, .inr (c, (gw_fs V w c a).set k (gw_mv V v)))) H1 → H1.size = H.size → va_S (gw_A V) s.heap H1 locs1 → W p l e R s m args below meth cd H1 locs1 cu su QQ (F0 m (pc + 3) L (st.map (gw_mv V))) := by
    intro H1 locs1 hP1 hz hS1
    refine kk p l e R s m args below meth cd QQ H1 locs1 L X ?_ hl hret
    refine gw_H_set hH ht (by omega) hw (fun q hq => gw_cell_ext hw (ho q hq).1 (ho q hq).2.1 (ho q hq).2.2) (fun q hq => (ho q hq).1) ?_ hP1 (fun _ => hz) hS1
    have hT : gw_T w' a = c := by unfold gw_T; rw [hw]; exact ht
    rw [gw_cell_obj hT hc, gw_fs_set hk hs hv]
  have ha : gw_ad V a < H.size := (hH.1 _ _ he).lt
  have hKK := X.2.2.2.2.2.2.2.2.2.2.2.2.1
  have hty := fun q hq => gb_tok c hc q hq
  have hnm := gb_nm c hc
  obtain ⟨r, h1, cell, q1, q2, q3, q4⟩ := hH.1 _ _ he
  have hr : r = (gb_n c, gb_F c, gb_K c) := Option.some.inj (h1.symm.trans (gb_cl_get hc))
  subst hr
  have hap := va_apart (own := gb_n (gm_o i)) X.2.2.2.2.1 (gb_lay hc) (gb_ty c) hty hnm hKK (gb_cl_get hc)
  obtain ⟨hS, hfc, kC, hkC, hkind⟩ := hKK.1 c _ (gb_cl_get hc)
  obtain ⟨cf, kf, fi, f, hi, hsl⟩ := hS k hk
  have hst := (u_facts hfc hkC (u_lays X.2.2.2.2.1 (gb_lay hc) hk) hi).1
  have fin : ∀ H' : Heap, H'[gw_ad V a]? = some (cell.setSlot f.slot (gw_mv V v)) → H'.size = H.size → (∀ q, q ≠ gw_ad V a → H'[q]? = H[q]?) → W p l e R s m args below meth cd H' (locs ++ [⟨gw_ad V a, f.slot⟩]) cu su QQ (F0 m (pc + 3) L (st.map (gw_mv V))) := by
    intro H' e1 e2 e3
    rw [hsl] at e1 ⊢
    exact key H' _ (hH.1.set hD he ⟨_, gb_cl_get hc, t_OB.to (V := updV (vp_V (gw_fs V w c a)) k (gw_mv V v)) ⟨_, e1, q2, q3, t_set q4 hap hk (gw_mv V v)⟩ (fun j _ => vp_updV_set (by rw [gw_fs_len]; exact hk) (gw_mv V v) j)⟩ e3) e2 (hH.2.2.2.1.put e2 e3 (hD.2 _ _ he))
  have hlay := X.2.2.2.2.1 _ (gb_lay hc _ (u_in_lay hk))
  unfold u_lay at hlay
  rcases hf with hf | ⟨hf1, hf2⟩
  · rw [if_neg (by rw [hf]; decide)] at hlay
    have h6 := u_store hfc hkC hkind hlay hi (hty k hk) hn hfit
    have h7 : k2_Sd s f cell.cls (gw_mv V v) := by rw [q2]; exact h6
    refine W.putf X.1 X.2.1 X.2.2.2.1 (X.2.2.2.2.1 _ hin) hi hst (Or.inl h7.1) q1 (by rw [q3]; exact fun h => by cases h) (by rw [hsl]; exact k2_hasslot (q4 k hk)) h7.2.1 (by rw [q3]; exact h7.2.2) rfl rfl hd.1 ?_
    refine fin _ ?_ ?_ ?_
    · simp [Array.getElem?_setIfInBounds, ha]
    · simp
    · intro q hq
      simp [Array.getElem?_setIfInBounds, Ne.symm hq]
  · by_cases hfb : (gb_F c k).2.2.2 = true
    · rw [if_pos hfb] at hlay
      have hcf : m.cls = cf := by
        obtain ⟨_, _, c', _, _, _, -, -, hf', -, -, -, hown2, -⟩ := Cond.laysFinal_spec hlay
        have e1 : c' = cf := by have := hi.symm.trans hf'; simp at this; exact this.1.symm
        rw [hf2] at hown2
        rw [← e1]; exact Option.some.inj (X.2.2.2.1.symm.trans hown2)
      have h6 := u_fits hfc hkC hkind (Or.inr hlay) hi (hty k hk) hn hfit
      exact W.putFinK X.1 X.2.1 X.2.2.2.1 (X.2.2.2.2.1 _ hin) hi hst hcf (X.2.2.2.2.2.2.1 hf1) (by rw [q2]; exact h6) q1 q3 (by rw [hsl]; exact k2_hasslot (q4 k hk)) rfl rfl hd.1 fin
    · rw [if_neg hfb] at hlay
      have h6 := u_store hfc hkC hkind hlay hi (hty k hk) hn hfit
      have h7 : k2_Sd s f cell.cls (gw_mv V v) := by rw [q2]; exact h6
      refine W.putf X.1 X.2.1 X.2.2.2.1 (X.2.2.2.2.1 _ hin) hi hst (Or.inl h7.1) q1 (by rw [q3]; exact fun h => by cases h) (by rw [hsl]; exact k2_hasslot (q4 k hk)) h7.2.1 (by rw [q3]; exact h7.2.2) rfl rfl hd.1 ?_
      refine fin _ ?_ ?_ ?_
      · simp [Array.getElem?_setIfInBounds, ha]
      · simp
      · intro q hq
        simp [Array.getElem?_setIfInBounds, Ne.symm hq]
theorem gs_putI {x : Nat} {v : Int32} (hd : gw_D i pc (.putfield x) 3 c k) (ht : gw_T (sh, I, J, F) a = c) (hs : gb_s c k = 0) (hty : gb_ty c k = .int) (hf : (gb_F c k).2.2.2 = false) (kk : ∀ I2, I2 = gw_u I a k v → gw_E V i (pc + 3, ls, st, (sh, I2, J, F), cu, su) Q) : gw_E V i (pc, ls, .int v :: .ref a :: st, (sh, I, J, F), cu, su) Q := by
  refine gs_putf (w' := (sh, gw_u I a k v, J, F)) hd ht (Or.inl hf) (by rw [hty]; rfl) (by rw [hty]; rfl) rfl (fun q hq => ⟨gw_u_o hq, rfl, rfl⟩) (fun q hq => ?_) ?_ (kk _ rfl)
  · unfold gw_fv
    show (if _ then Value.int (gw_u I a k v a q) else _) = _
    rw [gw_u_s]
    simp [upd, hq]
  · unfold gw_fv
    rw [if_pos hs]
    show Value.int (gw_u I a k v a k) = _
    rw [gw_u_s]
    simp [upd, gw_mv]
theorem gs_putJ {x : Nat} {v : Int64} (hd : gw_D i pc (.putfield x) 3 c k) (ht : gw_T (sh, I, J, F) a = c) (hs : gb_s c k = 1) (hty : gb_ty c k = .long) (hf : (gb_F c k).2.2.2 = false) (kk : ∀ J2, J2 = gw_uJ J a k v → gw_E V i (pc + 3, ls, st, (sh, I, J2, F), cu, su) Q) : gw_E V i (pc, ls, .long v :: .ref a :: st, (sh, I, J, F), cu, su) Q := by
  refine gs_putf (w' := (sh, I, gw_uJ J a k v, F)) hd ht (Or.inl hf) (by rw [hty]; rfl) (by rw [hty]; rfl) rfl (fun q hq => ⟨rfl, gw_uJ_o hq, rfl⟩) (fun q hq => ?_) ?_ (kk _ rfl)
  · unfold gw_fv
    show (if _ then _ else if _ then Value.long (gw_uJ J a k v a q) else _) = _
    simp [gw_uJ, hq]
  · unfold gw_fv
    rw [if_neg (by omega), if_pos hs]
    show Value.long (gw_uJ J a k v a k) = _
    simp [gw_uJ, gw_mv]
theorem gs_putR {x v : Nat} (hd : gw_D i pc (.putfield x) 3 c k) (ht : gw_T (sh, I, J, F) a = c) (hs : gb_s c k = 2) (hf : gm_k i = 2 ∧ (gb_F c k).1 = gb_n (gm_o i)) (hn : narrow (gb_ty c k) (.ref (gw_ad V v)) = .ref (gw_ad V v)) (hfit : fits (gb_ty c k) (.ref (gw_ad V v)) = true) (h0 : v ≠ 0) (kk : ∀ F2, F2 = gw_uR F a k v → gw_E V i (pc + 3, ls, st, (sh, I, J, F2), cu, su) Q) : gw_E V i (pc, ls, .ref v :: .ref a :: st, (sh, I, J, F), cu, su) Q := by
  refine gs_putf (w' := (sh, I, J, gw_uR F a k v)) hd ht (Or.inr hf) hn hfit rfl (fun q hq => ⟨rfl, rfl, gw_uR_o hq⟩) (fun q hq => ?_) ?_ (kk _ rfl)
  · unfold gw_fv
    show (if _ then _ else if _ then _ else va_rf (gw_ro V (gw_uR F a k v a q))) = _
    simp [gw_uR, hq]
  · unfold gw_fv
    rw [if_neg (by omega), if_neg (by omega)]
    show va_rf (gw_ro V (gw_uR F a k v a k)) = _
    simp [gw_uR]
    exact gw_ro_pos h0
/-- an int of an array: of ours, or of one of the three -/
theorem gs_iaload {j : Int32} (hd : gw_D i pc .iaload 1 b c) (ht : gw_T (sh, I, J, F) a = 12 ∨ gw_T (sh, I, J, F) a = 16 ∧ a < 3) (hin : vp_in j (gw_N (sh, I, J, F) a)) (kk : gw_E V i (pc + 1, ls, .int (I a j.toNatClampNeg) :: st, (sh, I, J, F), cu, su) Q) : gw_E V i (pc, ls, .int j :: .ref a :: st, (sh, I, J, F), cu, su) Q := by
  intro p l e R s m args below meth cd QQ H locs L X hH hl hret
  have hKK := X.2.2.2.2.2.2.2.2.2.2.2.2.1
  rcases ht with ht | ⟨ht, h3⟩
  · have he := gw_at hH ht (by omega)
    rw [gw_cell_I ht] at he
    exact va_iald X.1 X.2.1 hKK hH.1 (a - 3) 0 he rfl hin hd.1 (kk p l e R s m args below meth cd QQ H locs L X hH hl hret)
  · have hT := (hH.2.2.2.2 a h3).2
    have ha : gw_ad V a = V.2.2.2 a := by unfold gw_ad; rw [if_pos h3]
    show W _ _ _ _ _ _ _ _ _ _ _ _ _ _ _ (F0 m pc L (.int j :: .ref (gw_ad V a) :: st.map (gw_mv V)))
    rw [ha]
    exact va_ti X.1 X.2.1 hT hH.2.2.2.1 hin rfl hd.1 (kk p l e R s m args below meth cd QQ H locs L X hH hl hret)
theorem gs_baload {j : Int32} (hd : gw_D i pc .baload 1 b c) (ht : gw_T (sh, I, J, F) a = 13) (hin : vp_in j (gw_N (sh, I, J, F) a)) (kk : gw_E V i (pc + 1, ls, .int (I a j.toNatClampNeg) :: st, (sh, I, J, F), cu, su) Q) : gw_E V i (pc, ls, .int j :: .ref a :: st, (sh, I, J, F), cu, su) Q := by
  intro p l e R s m args below meth cd QQ H locs L X hH hl hret
  have he := gw_at hH ht (by omega)
  rw [gw_cell_Z ht] at he
  exact va_zald X.1 X.2.1 X.2.2.2.2.2.2.2.2.2.2.2.2.1 hH.1 (a - 3) 1 he rfl hin hd.1 (kk p l e R s m args below meth cd QQ H locs L X hH hl hret)
/-- a reference out of an array of mornings, or of rows -/
theorem gs_aaload {j : Int32} {r : Nat} (hd : gw_D i pc .aaload 1 b c) (ht : gw_T (sh, I, J, F) a = 14 ∨ gw_T (sh, I, J, F) a = 15) (hin : vp_in j (gw_N (sh, I, J, F) a)) (hr : F a j.toNatClampNeg = r) (h0 : r ≠ 0) (kk : gw_E V i (pc + 1, ls, .ref r :: st, (sh, I, J, F), cu, su) Q) : gw_E V i (pc, ls, .int j :: .ref a :: st, (sh, I, J, F), cu, su) Q := by
  intro p l e R s m args below meth cd QQ H locs L X hH hl hret
  have hKK := X.2.2.2.2.2.2.2.2.2.2.2.2.1
  have hlt : j.toNatClampNeg < gw_N (sh, I, J, F) a := Nat.not_le.mp fun q => hin (Or.inr q)
  have hkk := kk p l e R s m args below meth cd QQ H locs L X hH hl hret
  have hv : va_rf (gw_ro V (F a j.toNatClampNeg)) = gw_mv V (.ref r) := by rw [hr]; exact gw_ro_pos h0
  rcases ht with ht | ht
  · have he := gw_at hH ht (by omega)
    rw [gw_cell_M ht] at he
    exact va_aldq X.1 X.2.1 hKK hH.1 (a - 3) 2 he rfl hin hd.1 (by rw [hv]; exact hkk)
  · have he := gw_at hH ht (by omega)
    rw [gw_cell_A ht] at he
    refine W.aald (v := gw_mv V (.ref r)) (ty := .array .int) X.1 X.2.1 (hH.1 _ _ he) ((hKK.2 3 _ rfl).1 (gw_N (sh, I, J, F) a) (fun j => va_rf (gw_ro V (F a j)))) rfl (fun q => by cases q) (by show ¬ (j < 0 ∨ (arrV _ _ _).slots.size ≤ _); rw [arrV_size]; exact hin) ?_ rfl rfl hd.1 hkk
    show (arrV _ _ _).slots[j.toNatClampNeg]? = _
    rw [arrV_read _ _ hlt, ← hv]
theorem gs_iastore {j v : Int32} (hL : 145 ≤ sh.length) (hd : gw_D i pc .iastore 1 b c) (ht : gw_T (sh, I, J, F) a = 12) (hin : vp_in j (gw_N (sh, I, J, F) a)) (kk : ∀ I2, I2 = gw_u I a j.toNatClampNeg v → gw_E V i (pc + 1, ls, st, (sh, I2, J, F), cu, su) Q) : gw_E V i (pc, ls, .int v :: .int j :: .ref a :: st, (sh, I, J, F), cu, su) Q := by
  intro p l e R s m args below meth cd QQ H locs L X hH hl hret
  have he := gw_at hH ht (by omega)
  rw [gw_cell_I ht] at he
  refine va_iast X.1 X.2.1 X.2.2.2.2.2.2.2.2.2.2.2.2.1 hH.1 gw_ws_D hH.2.2.2.1 (a - 3) 0 he rfl hin hd.1 (fun H1 locs1 hP1 _ hS1 => ?_)
  refine kk _ rfl p l e R s m args below meth cd QQ H1 locs1 L X ?_ hl hret
  refine gw_H_set (w' := (sh, gw_u I a j.toNatClampNeg v, J, F)) hH ht (by omega) rfl (fun q hq => gw_cell_ext rfl (gw_u_o hq) rfl rfl) (fun q hq => gw_u_o hq) ?_ hP1 (fun h => absurd h (Nat.not_lt.mpr hL)) hS1
  rw [gw_cell_I (w := (sh, gw_u I a j.toNatClampNeg v, J, F)) ht]
  show Sum.inl (_, _, Sum.inl (gw_u I a j.toNatClampNeg v a)) = _
  rw [gw_u_s]
  rfl
theorem gs_bastore {j v : Int32} (hL : 145 ≤ sh.length) (hd : gw_D i pc .bastore 1 b c) (ht : gw_T (sh, I, J, F) a = 13) (hin : vp_in j (gw_N (sh, I, J, F) a)) (kk : ∀ I2, I2 = gw_u I a j.toNatClampNeg (vp_nar .boolean v) → gw_E V i (pc + 1, ls, st, (sh, I2, J, F), cu, su) Q) : gw_E V i (pc, ls, .int v :: .int j :: .ref a :: st, (sh, I, J, F), cu, su) Q := by
  intro p l e R s m args below meth cd QQ H locs L X hH hl hret
  have he := gw_at hH ht (by omega)
  rw [gw_cell_Z ht] at he
  refine va_zast X.1 X.2.1 X.2.2.2.2.2.2.2.2.2.2.2.2.1 hH.1 gw_ws_D hH.2.2.2.1 (a - 3) 1 he rfl hin hd.1 (fun H1 locs1 hP1 _ hS1 => ?_)
  refine kk _ rfl p l e R s m args below meth cd QQ H1 locs1 L X ?_ hl hret
  refine gw_H_set (w' := (sh, gw_u I a j.toNatClampNeg (vp_nar .boolean v), J, F)) hH ht (by omega) rfl (fun q hq => gw_cell_ext rfl (gw_u_o hq) rfl rfl) (fun q hq => gw_u_o hq) ?_ hP1 (fun h => absurd h (Nat.not_lt.mpr hL)) hS1
  rw [gw_cell_Z (w := (sh, gw_u I a j.toNatClampNeg (vp_nar .boolean v), J, F)) ht]
  show Sum.inl (_, _, Sum.inl (gw_u I a j.toNatClampNeg (vp_nar .boolean v) a)) = _
  rw [gw_u_s]
  rfl
theorem gs_alen {v : Int32} (hd : gw_D i pc .arraylength 1 b c) (ht : gw_T (sh, I, J, F) a = 16) (h3 : a < 3) (hv : Int32.ofNat (gw_N (sh, I, J, F) a) = v) (kk : gw_E V i (pc + 1, ls, .int v :: st, (sh, I, J, F), cu, su) Q) : gw_E V i (pc, ls, .ref a :: st, (sh, I, J, F), cu, su) Q := by
  intro p l e R s m args below meth cd QQ H locs L X hH hl hret
  have hT := (hH.2.2.2.2 a h3).2
  have ha : gw_ad V a = V.2.2.2 a := by unfold gw_ad; rw [if_pos h3]
  show W _ _ _ _ _ _ _ _ _ _ _ _ _ _ _ (F0 m pc L (.ref (gw_ad V a) :: st.map (gw_mv V)))
  rw [ha]
  exact va_tlen X.1 X.2.1 hT hH.2.2.2.1 hv hd.1 (kk p l e R s m args below meth cd QQ H locs L X hH hl hret)
theorem gl_S_in {o x : Nat} (h : gl_S.any (fun r => r.1 == o && (r.2.1 == x && r.2.2.1 == a)) = true) : Cond.fieldLink (gb_n o) x "MorningBill" (gl_sn a) "[I" ∈ gb_t ∨ (gb_n o = "MorningBill$Groups" ∧ x = 65 ∧ a = 1) := by
  obtain ⟨r, hr, h⟩ := List.any_eq_true.mp h
  simp only [Bool.and_eq_true, beq_iff_eq] at h
  obtain ⟨rfl, rfl, rfl⟩ := h
  have h1 := List.all_eq_true.mp gl_S_ok r hr
  by_cases e : r.2.2.2 = 0
  · rw [if_pos e, decide_eq_true_eq] at h1
    exact Or.inl (gb_tin h1 rfl)
  · right
    have : ∀ r ∈ gl_S, r.2.2.2 ≠ 0 → gb_n r.1 = "MorningBill$Groups" ∧ r.2.1 = 65 ∧ r.2.2.1 = 1 := by decide +kernel
    exact this r hr e
theorem gl_S_a {o x : Nat} (h : gl_S.any (fun r => r.1 == o && (r.2.1 == x && r.2.2.1 == a)) = true) : a = 1 ∨ a = 2 := by
  obtain ⟨r, hr, h⟩ := List.any_eq_true.mp h
  simp only [Bool.and_eq_true, beq_iff_eq] at h
  obtain ⟨rfl, rfl, rfl⟩ := h
  have : ∀ r ∈ gl_S, r.2.2.1 = 1 ∨ r.2.2.1 = 2 := by decide +kernel
  exact this r hr
end GH
end
section
/-! ===== the rules: static arrays, the machine's own methods, calls ===== -/
theorem gl_M_in {o x j : Nat} (h : gl_M.any (fun r => r.1 == o && (r.2.1 == x && r.2.2.1 == j)) = true) : Cond.methodLink (gb_n o) x (gl_y j) ∈ gb_t := by
  obtain ⟨r, hr, h⟩ := List.any_eq_true.mp h
  simp only [Bool.and_eq_true, beq_iff_eq] at h
  obtain ⟨rfl, rfl, rfl⟩ := h
  exact gb_tin (gb_at _ (List.all_eq_true.mp gl_M_ok r hr)) rfl
theorem gl_N_in {o x j : Nat} (h : gl_N.any (fun r => r.1 == o && (r.2.1 == x && r.2.2.1 == j)) = true) : ∃ r ∈ gl_N, r.1 = o ∧ r.2.1 = x ∧ r.2.2.1 = j := by
  obtain ⟨r, hr, h⟩ := List.any_eq_true.mp h
  simp only [Bool.and_eq_true, beq_iff_eq] at h
  exact ⟨r, hr, h.1, h.2.1, h.2.2⟩
theorem gl_N_own : ∀ r ∈ gl_N, r.2.2.1 < 165 := by decide +kernel
/-- the words of the machine's own methods -/
def gl_own : List Cond := [.code objectInit ⟨#[0xb1]⟩ 1 none, .instanceMethod objectInit, .native arraycopyName, .static arraycopyName, .initialized "java/lang/System", .initialized "java/lang/Math",
  .static Lib.Math.max.name, .code Lib.Math.max.name Lib.Math.max.code 2 (some .int), .static Lib.Math.min.name, .code Lib.Math.min.name Lib.Math.min.code 2 (some .int),
  .static Lib.MathLoose.max_long.x, .code Lib.MathLoose.max_long.x Lib.MathLoose.max_long.code 4 (some .long), .static Lib.MathLoose.abs_long.x, .code Lib.MathLoose.abs_long.x Lib.MathLoose.abs_long.code 2 (some .long), .arrayClass .int, .arrayClass .boolean]
set_option maxRecDepth 100000 in
theorem gl_own_ok : ∀ w ∈ gl_own, w ∈ lw_tbl ∧ goodWord w = true := by decide +kernel
theorem gl_own_in {w : Cond} (h : w ∈ gl_own) : w ∈ gb_t := gb_tin (gl_own_ok w h).1 (gl_own_ok w h).2
theorem gw_sum (V : gw_V) (st : List Value) : ((st.map (gw_mv V)).map fun v => v.category).sum = (st.map fun v => v.category).sum := by
  rw [List.map_map]
  congr 2
  funext v
  exact gw_cat V v
section GC
variable {V : gw_V} {i pc len a b c k : Nat} {ls : List (Nat × Value)} {st : List Value} {sh : List (Nat × Nat)} {I : Nat → Nat → Int32} {J : Nat → Nat → Int64} {F : Nat → Nat → Nat} {w : gw_W} {cu su : Nat} {Q : Option Value → gw_W → Prop}
theorem gs_gets {x : Nat} (hd : gw_D i pc (.getstatic x) 3 a b) (kk : gw_E V i (pc + 3, ls, .ref a :: st, w, cu, su) Q) : gw_E V i (pc, ls, st, w, cu, su) Q := by
  intro p l e R s m args below meth cd QQ H locs L X hH hl hret
  have hKK := X.2.2.2.2.2.2.2.2.2.2.2.2
  have h := kk p l e R s m args below meth cd QQ H locs L X hH hl hret
  have ha := gl_S_a hd.2
  have hZ : va_Z "MorningBill" (gl_sn a) "[I" (.ref (V.2.2.2 a)) (gw_A V) s s.heap := by
    rcases ha with rfl | rfl
    · exact hKK.2.2.1
    · exact hKK.2.2.2.1
  have hm : gw_mv V (.ref a) = .ref (V.2.2.2 a) := by
    show Value.ref (gw_ad V a) = _
    unfold gw_ad
    rw [if_pos (by omega)]
  have h' : W p l e R s m args below meth cd H locs cu su QQ (F0 m (pc + 3) L (.ref (V.2.2.2 a) :: st.map (gw_mv V))) := by rw [← hm]; exact h
  rcases gl_S_in hd.2 with q | ⟨q1, q2, q3⟩
  · exact va_gets X.1 X.2.1 hZ hH.2.2.2.1 X.2.2.2.1 (X.2.2.2.2.1 _ q) (fun _ z => z) hd.1 h'
  · have hn := hKK.2.2.2.2.2.1
    subst q3
    refine va_getsN X.1 X.2.1 hZ hH.2.2.2.1 (own := "MorningBill$Groups") (host := "MorningBill") (index := x) (ref := "MorningBill") (by rw [← q1]; exact X.2.2.2.1) ?_ (fun _ z => z) hd.1 h'
    rw [q2]
    exact va_Nw.use rfl hn
theorem gs_objInit {x : Nat} (hd : gw_D i pc (.invokespecial x) 3 1000 b) (hf : 1 ≤ gm_f i) (hx : 20 ≤ gm_x i) (hs : (st.map fun v => v.category).sum ≤ 8) (kk : gw_E V i (pc + 3, ls, st, w, cu, su) Q) : gw_E V i (pc, ls, .ref a :: st, w, cu, su) Q := by
  intro p l e R s m args below meth cd QQ H locs L X hH hl hret
  have hlk : (Cond.methodLink (gb_n (gm_o i)) x objectInit).before args s = true := by
    have := hd.2
    unfold gc_lk at this
    rcases Bool.or_eq_true_iff.mp this with q | q
    · exact X.2.2.2.2.1 _ (gl_M_in q)
    · obtain ⟨r, hr, -, -, h3⟩ := gl_N_in q
      exact absurd (gl_N_own r hr) (by omega)
  have h1 := X.2.2.2.2.2.2.2.2.1
  have h2 := X.2.2.2.2.2.2.2.2.2.1
  refine W.objInit X.1 X.2.1 X.2.2.2.1 hlk (X.2.2.2.2.1 _ (gl_own_in (by decide +kernel))) (X.2.2.2.2.1 _ (gl_own_in (List.mem_of_getElem? (i := 0) rfl))) rfl (by rw [X.2.2.1]; exact hl.1) rfl hd.1 (by omega) ?_ (kk p l e R s m args below meth cd QQ H locs L X hH hl hret)
  show 2 * 0 + ((st.map (gw_mv V)).map fun v => v.category).sum + 12 ≤ R.locals
  rw [gw_sum]
  omega
theorem gw_mlk {x j : Nat} {p : Program} {R : Room} {s : State} {m : MethodId} {args : Array Value} {meth : Method} {cd : Code} {y : MethodName} (X : gw_X V i p R s m args meth cd) (hd : gw_D i pc (.invokestatic x) 3 j b) (hj : 1000 ≤ j) (hy : gl_y j = y) : (Cond.methodLink (gb_n (gm_o i)) x y).before args s = true := by
  subst hy
  have := hd.2
  unfold gc_lk at this
  rcases Bool.or_eq_true_iff.mp this with q | q
  · exact X.2.2.2.2.1 _ (gl_M_in q)
  · obtain ⟨r, hr, -, -, h3⟩ := gl_N_in q
    exact absurd (gl_N_own r hr) (by omega)
theorem gs_mmax {q : Nat} {x y : Int32} (hd : gw_D i pc (.invokestatic q) 3 1002 b) (hf : 1 ≤ gm_f i) (hx : 26 ≤ gm_x i) (hcu : cu ≤ gm_c i) (hsu : su ≤ gm_s i) (hs : (st.map fun v => v.category).sum ≤ 8) (kk : gw_E V i (pc + 3, ls, .int (if x < y then y else x) :: st, w, cu, su) Q) : gw_E V i (pc, ls, .int y :: .int x :: st, w, cu, su) Q := by
  intro p l e R s m args below meth cd QQ H locs L X hH hl hret
  have h1 := X.2.2.2.2.2.2.2.2
  exact va_mmax X.1 X.2.1 (by rw [X.2.2.1]; exact hl.1.symm) X.2.2.2.1 (gw_mlk X hd (by omega) rfl) (X.2.2.2.2.1 _ (gl_own_in (by decide +kernel))) (X.2.2.2.2.1 _ (gl_own_in (by decide +kernel))) (X.2.2.2.2.1 _ (gl_own_in (List.mem_of_getElem? (i := 7) rfl))) (by omega) (by rw [gw_sum]; omega) (by show cu ≤ _; omega) (by show su ≤ _; omega) hd.1 (kk p l e R s m args below meth cd QQ H locs L X hH hl hret)
theorem gs_mmin {q : Nat} {x y : Int32} (hd : gw_D i pc (.invokestatic q) 3 1003 b) (hf : 1 ≤ gm_f i) (hx : 26 ≤ gm_x i) (hcu : cu ≤ gm_c i) (hsu : su ≤ gm_s i) (hs : (st.map fun v => v.category).sum ≤ 8) (kk : gw_E V i (pc + 3, ls, .int (if y < x then y else x) :: st, w, cu, su) Q) : gw_E V i (pc, ls, .int y :: .int x :: st, w, cu, su) Q := by
  intro p l e R s m args below meth cd QQ H locs L X hH hl hret
  have h1 := X.2.2.2.2.2.2.2.2
  exact va_mmin X.1 X.2.1 (by rw [X.2.2.1]; exact hl.1.symm) X.2.2.2.1 (gw_mlk X hd (by omega) rfl) (X.2.2.2.2.1 _ (gl_own_in (by decide +kernel))) (X.2.2.2.2.1 _ (gl_own_in (by decide +kernel))) (X.2.2.2.2.1 _ (gl_own_in (List.mem_of_getElem? (i := 9) rfl))) (by omega) (by rw [gw_sum]; omega) (by show cu ≤ _; omega) (by show su ≤ _; omega) hd.1 (kk p l e R s m args below meth cd QQ H locs L X hH hl hret)
theorem gs_mmaxL {q : Nat} {x y : Int64} (hd : gw_D i pc (.invokestatic q) 3 1004 b) (hf : 1 ≤ gm_f i) (hx : 26 ≤ gm_x i) (hcu : cu ≤ gm_c i) (hsu : su ≤ gm_s i) (hs : (st.map fun v => v.category).sum ≤ 8) (kk : gw_E V i (pc + 3, ls, .long (if y < x then x else y) :: st, w, cu, su) Q) : gw_E V i (pc, ls, .long y :: .long x :: st, w, cu, su) Q := by
  intro p l e R s m args below meth cd QQ H locs L X hH hl hret
  have h1 := X.2.2.2.2.2.2.2.2
  exact va_mmax_long X.1 X.2.1 (by rw [X.2.2.1]; exact hl.1.symm) X.2.2.2.1 (gw_mlk X hd (by omega) rfl) (X.2.2.2.2.1 _ (gl_own_in (by decide +kernel))) (X.2.2.2.2.1 _ (gl_own_in (by decide +kernel))) (X.2.2.2.2.1 _ (gl_own_in (List.mem_of_getElem? (i := 11) rfl))) (by omega) (by rw [gw_sum]; omega) (by show cu ≤ _; omega) (by show su ≤ _; omega) hd.1 (kk p l e R s m args below meth cd QQ H locs L X hH hl hret)
theorem gs_mabsL {q : Nat} {x : Int64} (hd : gw_D i pc (.invokestatic q) 3 1005 b) (hf : 1 ≤ gm_f i) (hx : 26 ≤ gm_x i) (hcu : cu ≤ gm_c i) (hsu : su ≤ gm_s i) (hs : (st.map fun v => v.category).sum ≤ 8) (kk : gw_E V i (pc + 3, ls, .long (if 0 < x then x else -x) :: st, w, cu, su) Q) : gw_E V i (pc, ls, .long x :: st, w, cu, su) Q := by
  intro p l e R s m args below meth cd QQ H locs L X hH hl hret
  have h1 := X.2.2.2.2.2.2.2.2
  exact va_mabs_long X.1 X.2.1 (by rw [X.2.2.1]; exact hl.1.symm) X.2.2.2.1 (gw_mlk X hd (by omega) rfl) (X.2.2.2.2.1 _ (gl_own_in (by decide +kernel))) (X.2.2.2.2.1 _ (gl_own_in (by decide +kernel))) (X.2.2.2.2.1 _ (gl_own_in (List.mem_of_getElem? (i := 13) rfl))) (by omega) (by rw [gw_sum]; omega) (by show cu ≤ _; omega) (by show su ≤ _; omega) hd.1 (kk p l e R s m args below meth cd QQ H locs L X hH hl hret)
/-- a row is copied -/
def gw_cp (f : Nat → Nat → Int32) (a0 a sp dp n : Nat) : Nat → Nat → Int32 := fun p q => if p = a then va_cpy (f a0) (f a) sp dp n q else f p q
theorem gs_copy {q a0 : Nat} {sp dp n : Int32} (hL : 145 ≤ sh.length) (hd : gw_D i pc (.invokestatic q) 3 1001 b) (hf : 1 ≤ gm_f i) (hx : 26 ≤ gm_x i) (hs : (st.map fun v => v.category).sum ≤ 8) (ht0 : gw_T (sh, I, J, F) a0 = 12) (ht : gw_T (sh, I, J, F) a = 12) (h1 : ¬ sp < 0) (h2 : ¬ dp < 0) (h3 : ¬ n < 0) (h4 : sp.toNatClampNeg + n.toNatClampNeg ≤ gw_N (sh, I, J, F) a0) (h5 : dp.toNatClampNeg + n.toNatClampNeg ≤ gw_N (sh, I, J, F) a)
    (kk : ∀ I2, I2 = gw_cp I a0 a sp.toNatClampNeg dp.toNatClampNeg n.toNatClampNeg → gw_E V i (pc + 3, ls, st, (sh, I2, J, F), cu, su) Q) : gw_E V i (pc, ls, .int n :: .int dp :: .ref a :: .int sp :: .ref a0 :: st, (sh, I, J, F), cu, su) Q := by
  intro p l e R s m args below meth cd QQ H locs L X hH hl hret
  have hroom := X.2.2.2.2.2.2.2.2
  have he := gw_at hH ht (by omega)
  have he0 := gw_at hH ht0 (by omega)
  rw [gw_cell_I ht] at he
  rw [gw_cell_I ht0] at he0
  refine va_copyi X.1 X.2.1 (by rw [X.2.2.1]; exact hl.1.symm) X.2.2.2.1 (gw_mlk X hd (by omega) rfl) (X.2.2.2.2.1 _ (gl_own_in (by decide +kernel))) (X.2.2.2.2.1 _ (gl_own_in (by decide +kernel))) (X.2.2.2.2.1 _ (gl_own_in (by decide +kernel))) X.2.2.2.2.2.2.2.2.2.2.2.2.1 hH.1 gw_ws_D hH.2.2.2.1 (a0 - 3) (a - 3) 0 0 he0 he rfl rfl rfl h1 h2 h3 h4 h5 (fun _ _ => rfl) (by omega) ?_ hd.1 (fun H1 locs1 hP1 _ hS1 => ?_)
  · rw [gw_sum]
    have : nativeFrameWords "java/lang/System" "arraycopy" 5 = 7 := by decide +kernel
    omega
  · refine kk _ rfl p l e R s m args below meth cd QQ H1 locs1 L X ?_ hl hret
    refine gw_H_set (w' := (sh, gw_cp I a0 a sp.toNatClampNeg dp.toNatClampNeg n.toNatClampNeg, J, F)) hH ht (by omega) rfl (fun q hq => gw_cell_ext rfl (by funext z; simp [gw_cp, hq]) rfl rfl) (fun q hq => by funext z; simp [gw_cp, hq]) ?_ hP1 (fun h => absurd h (Nat.not_lt.mpr hL)) hS1
    rw [gw_cell_I (w := (sh, gw_cp I a0 a sp.toNatClampNeg dp.toNatClampNeg n.toNatClampNeg, J, F)) ht]
    show Sum.inl (_, _, Sum.inl (gw_cp I a0 a sp.toNatClampNeg dp.toNatClampNeg n.toNatClampNeg a)) = _
    have : gw_cp I a0 a sp.toNatClampNeg dp.toNatClampNeg n.toNatClampNeg a = va_cpy (I a0) (I a) sp.toNatClampNeg dp.toNatClampNeg n.toNatClampNeg := by funext z; simp [gw_cp]
    rw [this]
    rfl
end GC
end
section
/-! ===== a judgement is a contract; calls ===== -/
theorem gw_AOA_moved {u U : State} (hvm : u.vm.Alike U.vm) (h : (Cond.arrayOver (.array .int)).before #[] u = true) : (Cond.arrayOver (.array .int)).before #[] U = true := by
  obtain ⟨comp, c, k, h1, h2, h3, h4, h5⟩ := arrayOverA_spec h
  obtain ⟨k', hk', he⟩ := hvm.2.2 _ _ h3
  have hb : U.vm.bare = u.vm.bare := by first | exact hvm.bare_eq | exact hvm.bare_eq.symm
  have e1 := va_idx_bare U.vm comp
  rw [hb] at e1
  have hi := e1.symm.trans ((va_idx_bare u.vm comp).trans h2)
  have hkind : k'.kind = .array comp (.array .int) := by rw [he]; exact h4
  have f1 : U.vm.findClass (FieldType.array .int).toString = some comp := by rw [hvm.findClass]; exact h1
  have f2 : U.vm.findClass ("[" ++ (FieldType.array .int).toString) = some c := by rw [hvm.findClass]; exact h5
  unfold Cond.before Cond.holds
  simp only [Cond.value]
  rw [f1, Option.bind_some]
  refine (congrArg (fun o : Option Nat => (o.bind (fun c => (U.vm.classes[c]?).map fun (k : Class) => match k.kind with | .array _ ty => decide (ty = FieldType.array .int) && decide (U.vm.findClass ("[" ++ (FieldType.array .int).toString) = some c) | _ => false) == some true)) hi).trans ?_
  simp [hk', hkind, f2]
theorem gw_NW_warm {s U : State} (hW : s.WarmedH U.vm) (h : gw_NW s) : gw_NW U :=
  ⟨fun r hr => va_Nw.warmM hW (h.1 r hr), va_Nw.warmF hW h.2.1, va_AO.moved hW.alike h.2.2.1, gw_AOA_moved hW.alike h.2.2.2⟩
theorem gw_NW_same {u U : State} (hv : u.vm = U.vm) (h : gw_NW u) : gw_NW U :=
  ⟨fun r hr => va_Nw.same rfl hv (h.1 r hr), va_Nw.same rfl hv h.2.1, va_AO.moved (by rw [hv]; exact Vm.Alike.refl _) h.2.2.1, gw_AOA_moved (by rw [hv]; exact Vm.Alike.refl _) h.2.2.2⟩
/-- what holds of a state between two calls -/
def gw_B (V : gw_V) (w : gw_W) (U : State) : Prop := gw_K V U ∧ gw_H V w U U.heap []
theorem gw_B_of {V : gw_V} {w : gw_W} {s U : State} {H : Heap} {locs : List Loc} (hal : s.vm.Alike U.vm) (hN : gw_NW U) (hU : U.heap = H) (hK : gw_K V s) (hH : gw_H V w s H locs) : gw_B V w U := by
  obtain ⟨k1, k2, k3, k4, k5⟩ := hK
  obtain ⟨h1, h2, h3, h4, h5⟩ := hH
  subst hU
  have ho : ∀ a : Nat, a < s.heap.size → ¬ gw_A V a → U.heap[a]? = s.heap[a]? := h4.2.1
  exact ⟨⟨va_K.moved hal k1, Nat.le_trans k2 h4.1, (va_Z.moved hal k3).kept ho, (va_Z.moved hal k4).kept ho, hN⟩, h1, h2, h3, va_S.rf, fun k hk => ⟨(h5 k hk).1, (va_T.moved hal (h5 k hk).2).kept ho⟩⟩
def gw_mws (i : Nat) : List Cond := Cond.code (gm_y i) (gm_b i) (gm_L i) (gm_r i) :: gb_t
def gw_rm (i : Nat) : Room := { frames := gm_f i, cells := gm_c i, slots := gm_s i, locals := gm_x i }
def gw_Qc (V : gw_V) (Q : Option Value → gw_W → Prop) : Array Value → State → Outcome → State → Prop := fun _ st oc t => (∃ (v : Option Value) (w' : gw_W), oc = .returned (v.map (gw_mv V)) ∧ Q v w' ∧ gw_B V w' t) ∧ va_F (gw_A V) st t
theorem gw_mk_spec {i : Nat} (h : i < 164) : plainName (gm_y i).cls = true ∧ (parseMethodDescriptor (gm_y i).desc).map (fun d => d.parameters.length) = some (gm_p i) ∧ (gm_y i).cls ≠ "java/lang/invoke/MethodHandle" ∧ (gm_y i).cls ≠ "java/lang/invoke/VarHandle" ∧ (gm_y i).cls = gb_n (gm_o i) ∧ (gm_k i = 2 ↔ (gm_y i).name = "<init>") := by
  have := gb_mkA i h
  unfold gb_mk at this
  simp only [Bool.and_eq_true, decide_eq_true_eq, beq_iff_eq] at this
  obtain ⟨⟨h1, h2⟩, h3, h4, h5, h6⟩ := this
  exact ⟨h1, h2, h3, h4, h5, decide_eq_decide.mp h6⟩
theorem gw_argm (V : gw_V) : ∀ (n : Nat) (as : List Value), lv_args n (as.map (gw_mv V)) = gw_lm V (lv_args n as)
  | _, [] => rfl
  | n, v :: vs => by
    show (n, gw_mv V v) :: lv_args (if (gw_mv V v).category = 2 then n + 2 else n + 1) (vs.map (gw_mv V)) = (n, gw_mv V v) :: gw_lm V (lv_args (if v.category = 2 then n + 2 else n + 1) vs)
    rw [gw_cat, gw_argm V]
theorem gw_argl (V : gw_V) : ∀ (as : List Value), (lg_sl (as.map (gw_mv V))).length = (lg_sl as).length
  | [] => rfl
  | v :: vs => by
    have := gw_argl V vs
    unfold lg_sl at this ⊢
    simp only [List.map_cons, List.flatMap_cons, List.length_append, gw_cat, this]
    by_cases h : v.category = 2 <;> simp [h]
set_option maxHeartbeats 1000000 in
theorem gw_met {V : gw_V} {i : Nat} {as : List Value} {w : gw_W} {Q : Option Value → gw_W → Prop} (l : Launch) (hi : i < 164) (hl : (lg_sl as).length ≤ gm_L i) (hE : gw_E V i (0, lv_args 0 as, [], w, 0, 0) Q) :
    Met l (gm_y i) (gw_mws i) (gw_rm i) (va_Pc (as.map (gw_mv V)) (gw_B V w)) (gw_Qc V Q) (gm_c i) (gm_s i) (gw_A V) := by
  obtain ⟨m1, m2, m3, m4, m5, m6⟩ := gw_mk_spec hi
  refine Met.ofW (cc := gm_b i) (maxL := gm_L i) (ret := gm_r i) m1 rfl ?_
  intro p e s m args below meth c s₁ B hml hv
  obtain ⟨rfl, hK, hH⟩ := hv
  have hts := atoms_spec (ws := gw_mws i) B.pre
  have hown : s.vm.findClass (gb_n (gm_o i)) = some m.cls := by rw [← m5]; exact findClass_of_methodNamed B.named
  have X : gw_X V i p (gw_rm i) s m ((as.map (gw_mv V)).toArray) meth c := ⟨B.exec, B.bytes, hml, hown, fun w hw => hts w (List.mem_cons_of_mem _ hw), B.notSynchronized, fun h => (name_of_methodNamed B.named B.method).1.trans (m6.mp h), B.returns, Nat.le_refl _, Nat.le_refl _, Nat.le_refl _, Nat.le_refl _, hK⟩
  have hl0 := lv_entry (as.map (gw_mv V)) (n := gm_L i) (by rw [gw_argl]; exact hl)
  rw [lg_entry_eq]
  rw [gw_argm] at hl0
  refine hE p l e (gw_rm i) s m _ below meth c _ s.heap [] _ X hH hl0 ?_
  intro v w' H' locs' pc' L' cu su hq hH' hend hcu hsu
  refine W.widen hcu hsu ?_
  have hfin : ∀ t : State, t.heap = H' → s.WarmedH t.vm → gw_Qc V Q ((as.map (gw_mv V)).toArray) s (.returned (v.map (gw_mv V))) t := fun t ht hW =>
    ⟨⟨v, w', rfl, hq, gw_B_of hW.alike (gw_NW_warm hW hK.2.2.2.2) ht hK hH'⟩, hH'.2.2.2.1.F ht⟩
  have hr := B.returns
  have hlocks := B.notSynchronized
  match v, hend, hfin with
  | none, hend, hfin => exact W.vret B.exec B.bytes (hr.trans hend.2) hfin hH'.2.2.2.1.2.2 hend.1
  | some (.int x), hend, hfin =>
    obtain ⟨h1, ty, h2, h3⟩ := hend
    exact W.zret B.exec B.bytes (hr.trans h2) h3 hfin hH'.2.2.2.1.2.2 h1
  | some (.long x), hend, hfin => exact W.lret B.exec B.bytes (hr.trans hend.2) hfin hH'.2.2.2.1.2.2 hend.1
theorem gw_good (i : Nat) (hi : i < 164) : GoodIn gb_t (gw_mws i) := by
  intro w hw
  have key : w ∈ gb_t := by
    rcases List.mem_cons.mp hw with h | h
    · rw [h]; exact gb_word hi _ List.mem_cons_self
    · exact h
  exact ⟨key, good_of_word (List.mem_filter.mp key).2⟩
theorem gw_blind (V : gw_V) (w : gw_W) (as : List Value) : FrameBlind (va_Pc as (gw_B V w)) := by
  intro a U g mk h
  refine ⟨h.1, ?_⟩
  exact gw_B_of (s := U) (Vm.Alike.refl U.vm) (gw_NW_same rfl h.2.1.2.2.2.2) rfl h.2.1 h.2.2
/-- a call that has run: what the caller goes on from -/
theorem gw_after {V : gw_V} {w : gw_W} {p : Program} {l : Launch} {e : Env} {R : Room} {s : State} {m : MethodId} {args : Array Value} {below : List Frame} {meth : Method} {cd : Code} {H : Heap} {locs : List Loc} {cu su mc ms pc : Nat} {L : Array Slot} {st0 rest : List Value} {QQ : State → Prop} {Q1 : Option Value → gw_W → Prop} {a : Array Value}
    (hr : va_Run p l e R s m args below meth cd H locs cu su mc ms (F0 m pc L st0) rest (gw_Qc V Q1 a) (gw_A V)) (hK : gw_K V s) (hH : gw_H V w s H locs)
    (kk : ∀ (v : Option Value) (w' : gw_W) (H1 : Heap) (locs1 : List Loc), Q1 v w' → gw_H V w' s H1 locs1 → W p l e R s m args below meth cd H1 locs1 (cu + mc) (su + ms) QQ (F0 m (pc + 3) L ((v.map (gw_mv V)).toList ++ rest))) : W p l e R s m args below meth cd H locs cu su QQ (F0 m pc L st0) := by
  intro T hT X
  obtain ⟨v0, st₀, t, T', LL, h0, X', hL, e1, e2, ⟨⟨v, w', hv, hq, hB⟩, hz, hk⟩, st⟩ := hr T hT X
  cases hv
  rw [h0] at hz hk
  have hal : s.vm.Alike t.vm := by rw [← e2]; exact X'.warmed.alike
  have hals : t.vm.Alike s.vm := hal.symm
  obtain ⟨-, g1, g2, g3, g4, g5⟩ := hB
  have hS1 : va_S (gw_A V) s.heap T'.heap (locs ++ LL) := ⟨Nat.le_trans hH.2.2.2.1.1 (by rw [e1]; exact hz), fun q h1 h2 => by rw [e1, hk q (Nat.lt_of_lt_of_le h1 hH.2.2.2.1.1) h2]; exact hH.2.2.2.1.2.1 q h1 h2, fun q hq => by
      rcases List.mem_append.mp hq with h | h
      · exact hH.2.2.2.1.2.2 q h
      · exact hL q h⟩
  have hH1 : gw_H V w' s T'.heap (locs ++ LL) := by
    refine ⟨by rw [e1]; exact g1, fun h => by rw [e1]; exact g2 h, g3, hS1, fun k hk' => ⟨(g5 k hk').1, ?_⟩⟩
    obtain ⟨cell0, z1, -, -, -, -, -, z7⟩ := (hH.2.2.2.2 k hk').2
    have hlt : V.2.2.2 k < s.heap.size := (Array.getElem?_eq_some_iff.mp z1).1
    obtain ⟨cell, y1, y2, y3, y4, y5, y6, y7⟩ := va_T.moved hals (g5 k hk').2
    rw [← e1, hS1.2.1 _ hlt z7] at y1
    exact ⟨cell, y1, y2, y3, y4, y5, y6, y7⟩
  obtain ⟨t2, a1, b1⟩ := kk v w' T'.heap (locs ++ LL) hq hH1 T' rfl X'
  exact ⟨t2, st t2 a1, b1⟩
section GCa
variable {V : gw_V} {i pc a b j : Nat} {ls : List (Nat × Value)} {st as : List Value} {w : gw_W} {cu su : Nat} {Q Q1 : Option Value → gw_W → Prop}
/-- the callee fits the caller's room -/
def gw_fit (i j cu su : Nat) : Prop := gm_f j + 1 ≤ gm_f i ∧ 8 + (gm_L j + 11) + gm_x j ≤ gm_x i ∧ cu + gm_c j ≤ gm_c i ∧ su + gm_s j ≤ gm_s i
theorem gw_ylt {j : Nat} (h : j < 164) : gl_y j = gm_y j := by
  unfold gl_y
  split <;> first | omega | rfl
theorem gw_vm {v : Option Value} {st : List Value} : (v.map (gw_mv V)).toList ++ st.map (gw_mv V) = (v.toList ++ st).map (gw_mv V) := by
  cases v <;> rfl
theorem gs_callS {x : Nat} (hd : gw_D i pc (.invokestatic x) 3 j b) (hj : j < 164) (hk : gm_k j = 0) (hn : as.length = gm_p j) (hl : (lg_sl as).length ≤ gm_L j) (hf : gw_fit i j cu su) (hs : (st.map fun v => v.category).sum ≤ 8) (hC : gw_E V j (0, lv_args 0 as, [], w, 0, 0) Q1)
    (kk : ∀ v w', Q1 v w' → gw_E V i (pc + 3, ls, v.toList ++ st, w', cu + gm_c j, su + gm_s j) Q) : gw_E V i (pc, ls, as.reverse ++ st, w, cu, su) Q := by
  intro p l e R s m args below meth cd QQ H locs L X hH hl0 hret
  obtain ⟨m1, m2, m3, m4, m5, m6⟩ := gw_mk_spec hj
  obtain ⟨hx, hb, hml, hown, hts, hlk, hnm, hr, hfr, hlo, hce, hsl, hK⟩ := id X
  have hM := gw_met l hj hl hC
  have hword := gb_word hj
  have hini := hts _ (hword (.initialized (gm_y j).cls) (by simp [gb_mw]))
  have hsta := hts _ (hword (.static (gm_y j)) (by simp [gb_mw, hk]))
  have hpre : PreS s H (va_Pc (as.map (gw_mv V)) (gw_B V w)) (as.map (gw_mv V)) := ⟨gw_blind V w _, fun U hU hW => ⟨rfl, gw_B_of hW.alike (gw_NW_warm hW hK.2.2.2.2) hU hK hH⟩⟩
  have hstk : (as.reverse ++ st).map (gw_mv V) = (as.map (gw_mv V)).reverse ++ st.map (gw_mv V) := by rw [List.map_append, List.map_reverse]
  have hcl := hd.2
  unfold gc_lk at hcl
  have hrun : va_Run p l e R s m args below meth cd H locs cu su (gm_c j) (gm_s j) (F0 m pc L ((as.reverse ++ st).map (gw_mv V))) (st.map (gw_mv V)) (gw_Qc V Q1 (as.map (gw_mv V)).toArray) (gw_A V) := by
    rcases Bool.or_eq_true_iff.mp hcl with q | q
    · have hlink := hts _ (gl_M_in q)
      rw [gw_ylt hj] at hlink
      exact va_runS (nL := gm_L i) (own := gb_n (gm_o i)) ⟨hx, hb, hml, hown, hts⟩ hM ⟨callB_of (gm_p j) hts (gw_good j hj) rfl rfl rfl hini hlink ⟨m3, m4, m2⟩ ⟨by show gm_f j + 1 ≤ _; have := hf.1; omega, by show 8 + (gm_L j + 11) + gm_x j ≤ _; have := hf.2.1; omega⟩, hsta⟩ hpre rfl (by simp [hn]) hl0.1 hstk (lv_room (by rw [gw_sum]; exact hs)) hd.1 ⟨by have := hf.2.2.1; omega, by have := hf.2.2.2; omega⟩
    · obtain ⟨r, hr1, r1, r2, r3⟩ := gl_N_in q
      have hlink := hK.2.2.2.2.1 r hr1
      rw [r1, r2, r3, gw_ylt hj] at hlink
      exact va_runSN (nL := gm_L i) (own := gb_n (gm_o i)) ⟨hx, hb, hml, hown, hts⟩ hM ⟨va_cnB (gm_p j) hts (gw_good j hj) rfl rfl rfl hlink hini ⟨m3, m4, m2⟩ ⟨by show gm_f j + 1 ≤ _; have := hf.1; omega, by show 8 + (gm_L j + 11) + gm_x j ≤ _; have := hf.2.1; omega⟩, hsta, trivial⟩ hpre rfl (by simp [hn]) hl0.1 hstk (lv_room (by rw [gw_sum]; exact hs)) hd.1 ⟨by have := hf.2.2.1; omega, by have := hf.2.2.2; omega⟩
  refine gw_after hrun hK hH (fun v w' H1 locs1 hq hH1 => ?_)
  rw [gw_vm]
  exact kk v w' hq p l e R s m args below meth cd QQ H1 locs1 L X hH1 hl0 hret
theorem gs_callV {x : Nat} (hd : gw_D i pc (.invokevirtual x) 3 j b) (hj : j < 164) (hk : gm_k j = 1) (ho : gm_o j < 12) (ht : gw_T w a = gm_o j) (hn : as.length = gm_p j) (hl : (lg_sl (.ref a :: as)).length ≤ gm_L j) (hf : gw_fit i j cu su) (hs : (st.map fun v => v.category).sum ≤ 8) (hC : gw_E V j (0, lv_args 0 (.ref a :: as), [], w, 0, 0) Q1)
    (kk : ∀ v w', Q1 v w' → gw_E V i (pc + 3, ls, v.toList ++ st, w', cu + gm_c j, su + gm_s j) Q) : gw_E V i (pc, ls, as.reverse ++ .ref a :: st, w, cu, su) Q := by
  intro p l e R s m args below meth cd QQ H locs L X hH hl0 hret
  obtain ⟨m1, m2, m3, m4, m5, m6⟩ := gw_mk_spec hj
  obtain ⟨hx, hb, hml, hown, hts, hlk, hnm, hr, hfr, hlo, hce, hsl, hK⟩ := id X
  have hM := gw_met l hj hl hC
  have hword := gb_word hj
  have hini := hts _ (hword (.initialized (gm_y j).cls) (by simp [gb_mw]))
  have hins := hts _ (hword (.instanceMethod (gm_y j)) (by simp [gb_mw, hk]))
  have hsel := hts _ (hword (.selects (gm_y j).cls (gm_y j) (gm_y j)) (by simp [gb_mw, hk]))
  have he := gw_at hH ht (by omega)
  rw [gw_cell_obj ht ho] at he
  have hrecv := va_recv hK.1 hH.1 (gb_cl_get ho) he
  rw [← m5] at hrecv
  have hpre : PreV s H (gm_y j).cls (gw_ad V a) (va_Pc ((.ref a :: as).map (gw_mv V)) (gw_B V w)) (as.map (gw_mv V)) := ⟨gw_blind V w _, hrecv, fun U hU hW => ⟨rfl, gw_B_of hW.alike (gw_NW_warm hW hK.2.2.2.2) hU hK hH⟩⟩
  have hstk : (as.reverse ++ .ref a :: st).map (gw_mv V) = (as.map (gw_mv V)).reverse ++ .ref (gw_ad V a) :: st.map (gw_mv V) := by rw [List.map_append, List.map_reverse]; rfl
  have hcl := hd.2
  unfold gc_lk at hcl
  have hrun : va_Run p l e R s m args below meth cd H locs cu su (gm_c j) (gm_s j) (F0 m pc L ((as.reverse ++ .ref a :: st).map (gw_mv V))) (st.map (gw_mv V)) (gw_Qc V Q1 (Value.ref (gw_ad V a) :: as.map (gw_mv V)).toArray) (gw_A V) := by
    rcases Bool.or_eq_true_iff.mp hcl with q | q
    · have hlink := hts _ (gl_M_in q)
      rw [gw_ylt hj] at hlink
      exact va_runV (nL := gm_L i) (own := gb_n (gm_o i)) (C := (gm_y j).cls) ⟨hx, hb, hml, hown, hts⟩ hM ⟨callB_of (gm_p j) hts (gw_good j hj) rfl rfl rfl hini hlink ⟨m3, m4, m2⟩ ⟨by show gm_f j + 1 ≤ _; have := hf.1; omega, by show 8 + (gm_L j + 11) + gm_x j ≤ _; have := hf.2.1; omega⟩, hins, hsel⟩ hpre rfl (by simp [hn]) hl0.1 hstk (lv_room (by rw [gw_sum]; exact hs)) hd.1 ⟨by have := hf.2.2.1; omega, by have := hf.2.2.2; omega⟩
    · obtain ⟨r, hr1, r1, r2, r3⟩ := gl_N_in q
      have hlink := hK.2.2.2.2.1 r hr1
      rw [r1, r2, r3, gw_ylt hj] at hlink
      exact va_runVN (nL := gm_L i) (own := gb_n (gm_o i)) (C := (gm_y j).cls) ⟨hx, hb, hml, hown, hts⟩ hM ⟨va_cnB (gm_p j) hts (gw_good j hj) rfl rfl rfl hlink hini ⟨m3, m4, m2⟩ ⟨by show gm_f j + 1 ≤ _; have := hf.1; omega, by show 8 + (gm_L j + 11) + gm_x j ≤ _; have := hf.2.1; omega⟩, hins, hsel⟩ hpre rfl (by simp [hn]) hl0.1 hstk (lv_room (by rw [gw_sum]; exact hs)) hd.1 ⟨by have := hf.2.2.1; omega, by have := hf.2.2.2; omega⟩
  refine gw_after hrun hK hH (fun v w' H1 locs1 hq hH1 => ?_)
  rw [gw_vm]
  exact kk v w' hq p l e R s m args below meth cd QQ H1 locs1 L X hH1 hl0 hret
theorem gs_callI {x : Nat} (hd : gw_D i pc (.invokespecial x) 3 j b) (hj : j < 164) (hk : gm_k j = 2) (hr0 : gm_r j = none) (hn : as.length = gm_p j) (hl : (lg_sl (.ref a :: as)).length ≤ gm_L j) (hf : gw_fit i j cu su) (hs : (st.map fun v => v.category).sum ≤ 8) (hC : gw_E V j (0, lv_args 0 (.ref a :: as), [], w, 0, 0) Q1)
    (kk : ∀ v w', Q1 v w' → gw_E V i (pc + 3, ls, v.toList ++ st, w', cu + gm_c j, su + gm_s j) Q) : gw_E V i (pc, ls, as.reverse ++ .ref a :: st, w, cu, su) Q := by
  intro p l e R s m args below meth cd QQ H locs L X hH hl0 hret
  obtain ⟨m1, m2, m3, m4, m5, m6⟩ := gw_mk_spec hj
  obtain ⟨hx, hb, hml, hown, hts, hlk, hnm, hr, hfr, hlo, hce, hsl, hK⟩ := id X
  have hM := gw_met l hj hl hC
  have hword := gb_word hj
  have hini := hts _ (hword (.initialized (gm_y j).cls) (by simp [gb_mw]))
  have hins := hts _ (hword (.instanceMethod (gm_y j)) (by simp [gb_mw, hk]))
  have hpre : PreS s H (va_Pc ((.ref a :: as).map (gw_mv V)) (gw_B V w)) (.ref (gw_ad V a) :: as.map (gw_mv V)) := ⟨gw_blind V w _, fun U hU hW => ⟨rfl, gw_B_of hW.alike (gw_NW_warm hW hK.2.2.2.2) hU hK hH⟩⟩
  have hstk : (as.reverse ++ .ref a :: st).map (gw_mv V) = (as.map (gw_mv V)).reverse ++ .ref (gw_ad V a) :: st.map (gw_mv V) := by rw [List.map_append, List.map_reverse]; rfl
  have hcl := hd.2
  unfold gc_lk at hcl
  have hgood := gw_good j hj
  have hmw : gw_mws j = Cond.code (gm_y j) (gm_b j) (gm_L j) none :: gb_t := by unfold gw_mws; rw [hr0]
  have hrun : va_Run p l e R s m args below meth cd H locs cu su (gm_c j) (gm_s j) (F0 m pc L ((as.reverse ++ .ref a :: st).map (gw_mv V))) (st.map (gw_mv V)) (gw_Qc V Q1 (Value.ref (gw_ad V a) :: as.map (gw_mv V)).toArray) (gw_A V) := by
    rcases Bool.or_eq_true_iff.mp hcl with q | q
    · have hlink := hts _ (gl_M_in q)
      rw [gw_ylt hj] at hlink
      exact va_runI (nL := gm_L i) (own := gb_n (gm_o i)) ⟨hx, hb, hml, hown, hts⟩ hM ⟨callB_of (gm_p j) hts hgood hmw rfl rfl hini hlink ⟨m3, m4, m2⟩ ⟨by show gm_f j + 1 ≤ _; have := hf.1; omega, by show 8 + (gm_L j + 11) + gm_x j ≤ _; have := hf.2.1; omega⟩, m6.mp hk, hins⟩ hpre rfl (by simp [hn]) hl0.1 hstk (lv_room (by rw [gw_sum]; exact hs)) hd.1 ⟨by have := hf.2.2.1; omega, by have := hf.2.2.2; omega⟩
    · obtain ⟨r, hr1, r1, r2, r3⟩ := gl_N_in q
      have hlink := hK.2.2.2.2.1 r hr1
      rw [r1, r2, r3, gw_ylt hj] at hlink
      exact va_runIN (nL := gm_L i) (own := gb_n (gm_o i)) ⟨hx, hb, hml, hown, hts⟩ hM ⟨va_cnB (gm_p j) hts hgood hmw rfl rfl hlink hini ⟨m3, m4, m2⟩ ⟨by show gm_f j + 1 ≤ _; have := hf.1; omega, by show 8 + (gm_L j + 11) + gm_x j ≤ _; have := hf.2.1; omega⟩, m6.mp hk, hins⟩ hpre rfl (by simp [hn]) hl0.1 hstk (lv_room (by rw [gw_sum]; exact hs)) hd.1 ⟨by have := hf.2.2.1; omega, by have := hf.2.2.2; omega⟩
  refine gw_after hrun hK hH (fun v w' H1 locs1 hq hH1 => ?_)
  rw [gw_vm]
  exact kk v w' hq p l e R s m args below meth cd QQ H1 locs1 L X hH1 hl0 hret
end GCa
end
section
/-! ===== the rules: cells that are made ===== -/
theorem gw_T_app {w w' : gw_W} {ex : List (Nat × Nat)} (h : w'.1 = w.1 ++ ex) {k : Nat} (hk : k < w.1.length) : gw_T w' k = gw_T w k ∧ gw_N w' k = gw_N w k := by
  unfold gw_T gw_N
  rw [h, List.getD_eq_getElem?_getD, List.getD_eq_getElem?_getD, List.getElem?_append_left hk]
  exact ⟨rfl, rfl⟩
theorem gw_cell_app {V : gw_V} {w w' : gw_W} {ex : List (Nat × Nat)} (h : w'.1 = w.1 ++ ex) {k : Nat} (hk : k < w.1.length) (h1 : w'.2.1 k = w.2.1 k) (h2 : w'.2.2.1 k = w.2.2.1 k) (h3 : w'.2.2.2 k = w.2.2.2 k) : gw_cell V w' k = gw_cell V w k := by
  have e : gw_fv V w' (gw_T w k) k = gw_fv V w (gw_T w k) k := by
    funext j
    unfold gw_fv
    rw [h1, h2, h3]
  unfold gw_cell gw_fs
  rw [(gw_T_app h hk).1, (gw_T_app h hk).2, e, h1, h3]
theorem gw_H_push {V : gw_V} {w w' : gw_W} {s : State} {H H1 : Heap} {locs : List Loc} {ex : List (Nat × Nat)} (hH : gw_H V w s H locs) (hn : w.1.length < 145) (hK : V.2.2.1 ≤ s.heap.size) (h : w'.1 = w.1 ++ ex) (hs : ∀ k, k < w.1.length → w'.2.1 k = w.2.1 k ∧ w'.2.2.1 k = w.2.2.1 k ∧ w'.2.2.2 k = w.2.2.2 k) (hz : H1.size = H.size + ex.length) (ho : ∀ q : Nat, q < H.size → H1[q]? = H[q]?)
    (hx : ∀ k, w.1.length ≤ k → k < w.1.length + ex.length → va_at V.1 gb_cl (gw_ad V k, gw_cell V w' k) H1) : gw_H V w' s H1 locs := by
  obtain ⟨h1, h2, h3, h4, h5⟩ := hH
  have hsz := h2 hn
  refine ⟨fun k q hk => ?_, fun _ => by rw [hz, hsz, h, List.length_append]; omega, by rw [h, List.length_append]; omega, ⟨by rw [hz]; exact Nat.le_trans h4.1 (Nat.le_add_right _ _), fun q g1 g2 => by rw [ho q (Nat.lt_of_lt_of_le g1 h4.1)]; exact h4.2.1 q g1 g2, h4.2.2⟩, fun k hk => ?_⟩
  · obtain ⟨g1, rfl⟩ := gw_ws_at hk
    by_cases hl : k + 3 < w.1.length
    · have hg := gw_ws_get (V := V) (w := w) (a := k + 3) (by omega) hl
      have hv := h1 _ _ hg
      have e1 : gw_ad V (k + 3) = V.2.2.1 + k := by unfold gw_ad; rw [if_neg (by omega)]; omega
      rw [e1] at hv
      rw [gw_cell_app h hl (hs _ hl).1 (hs _ hl).2.1 (hs _ hl).2.2]
      exact hv.kept (ho _ (by rw [hsz]; show V.2.2.1 + k < _; omega))
    · have e1 : gw_ad V (k + 3) = V.2.2.1 + k := by unfold gw_ad; rw [if_neg (by omega)]; omega
      have := hx (k + 3) (by omega) (by rw [h, List.length_append] at g1; exact g1)
      rw [e1] at this
      exact this
  · have hl : k < w.1.length := by omega
    rw [(gw_T_app h hl).1, (gw_T_app h hl).2, (hs k hl).1]
    exact h5 k hk
theorem gl_C_in {o x t : Nat} (h : gl_C.any (fun r => r.1 == o && (r.2.1 == x && r.2.2.1 == t)) = true) : Cond.classLink (gb_n o) x (gl_cn t) ∈ gb_t := by
  obtain ⟨r, hr, h⟩ := List.any_eq_true.mp h
  simp only [Bool.and_eq_true, beq_iff_eq] at h
  obtain ⟨rfl, rfl, rfl⟩ := h
  exact gb_tin (gb_at _ (List.all_eq_true.mp gl_C_ok r hr)) rfl
set_option maxRecDepth 100000 in
theorem gb_new : ∀ c, c < 12 → (Cond.instantiable (gb_n c) (gb_K c) ∈ lw_tbl ∧ goodWord (.instantiable (gb_n c) (gb_K c)) = true) ∧ (Cond.initialized (gb_n c) ∈ lw_tbl ∧ goodWord (.initialized (gb_n c)) = true) := by decide +kernel
theorem gb_dflt : ∀ c, c < 12 → ∀ k, k < gb_K c → defaultValue (gb_ty c k) = (if gb_s c k = 0 then .int 0 else if gb_s c k = 1 then .long 0 else .null) := by decide +kernel
/-- a cell's slots as they are born -/
def gw_z {α : Type} (f : Nat → Nat → α) (n m : Nat) (z : α) : Nat → Nat → α := fun p q => if n ≤ p ∧ p < n + m then z else f p q
theorem gw_z_lt {α : Type} {f : Nat → Nat → α} {n m k : Nat} {z : α} (h : k < n) : gw_z f n m z k = f k := by
  funext q
  unfold gw_z
  rw [if_neg (by omega)]
theorem gw_z_in {α : Type} {f : Nat → Nat → α} {n m k : Nat} {z : α} (h : n ≤ k) (h2 : k < n + m) : gw_z f n m z k = fun _ => z := by
  funext q
  unfold gw_z
  rw [if_pos ⟨h, h2⟩]
theorem gw_T_end {sh : List (Nat × Nat)} {t n : Nat} {I : Nat → Nat → Int32} {J : Nat → Nat → Int64} {F : Nat → Nat → Nat} : gw_T (sh ++ [(t, n)], I, J, F) sh.length = t ∧ gw_N (sh ++ [(t, n)], I, J, F) sh.length = n := by
  have e : (sh ++ [(t, n)]).getD sh.length (99, 0) = (t, n) := by
    rw [List.getD_eq_getElem?_getD, List.getElem?_append_right (Nat.le_refl _), Nat.sub_self]
    rfl
  exact ⟨congrArg Prod.fst e, congrArg Prod.snd e⟩
section GA
variable {V : gw_V} {i pc a b c k : Nat} {ls : List (Nat × Value)} {st : List Value} {sh : List (Nat × Nat)} {I : Nat → Nat → Int32} {J : Nat → Nat → Int64} {F : Nat → Nat → Nat} {cu su : Nat} {Q : Option Value → gw_W → Prop}
theorem gs_new {x : Nat} (hd : gw_D i pc (.new x) 3 c b) (hc : c < 12) (hn : sh.length < 145) (hcu : cu + 1 ≤ gm_c i) (hsu : su + gb_K c ≤ gm_s i)
    (kk : gw_E V i (pc + 3, ls, .ref sh.length :: st, (sh ++ [(c, gb_K c)], gw_z I sh.length 1 0, gw_z J sh.length 1 0, gw_z F sh.length 1 0), cu + 1, su + gb_K c) Q) : gw_E V i (pc, ls, st, (sh, I, J, F), cu, su) Q := by
  intro p l e R s m args below meth cd QQ H locs L X hH hl hret
  obtain ⟨hx, hb, hml, hown, hts, hlk, hnm, hr, hfr, hlo, hce, hsl, hK⟩ := id X
  have hcl := hd.2
  unfold gc_lk at hcl
  rw [if_neg (by omega)] at hcl
  have hlink := hts _ (gl_C_in hcl)
  have hcn : gl_cn c = gb_n c := by unfold gl_cn; rw [if_neg (by omega)]
  rw [hcn] at hlink
  obtain ⟨⟨g1, g2⟩, g3, g4⟩ := gb_new c hc
  have hKn := hK.1.1 c _ (gb_cl_get hc)
  have hsz : H.size = V.2.2.1 + (sh.length - 3) := hH.2.1 hn
  have had : gw_ad V sh.length = H.size := by
    have h3 : 3 ≤ sh.length := hH.2.2.1
    unfold gw_ad
    rw [if_neg (by omega), hsz]
  refine W.newcK hx hb hown hlink (hts _ (gb_tin g1 g2)) (hts _ (gb_tin g3 g4)) rfl hd.1 (by show cu + 1 ≤ _; omega) (by show su + gb_K c ≤ _; omega) hKn.2.1 rfl fun H1 kC hkC e1 z1 o1 => ?_
  have hborn := u_born (gb_ty c) hts (gb_lay hc) hKn hkC e1 (gb_tok c hc)
  have hH1 : gw_H V (sh ++ [(c, gb_K c)], gw_z I sh.length 1 0, gw_z J sh.length 1 0, gw_z F sh.length 1 0) s H1 locs := by
    refine gw_H_push (w := (sh, I, J, F)) hH hn hK.2.1 rfl (fun k hk => ⟨gw_z_lt hk, gw_z_lt hk, gw_z_lt hk⟩) z1 o1 (fun k hk1 hk2 => ?_)
    have hk : k = sh.length := by
      have : k < sh.length + 1 := hk2
      have : sh.length ≤ k := hk1
      omega
    subst hk
    rw [gw_cell_obj (gw_T_end).1 hc, had]
    refine ⟨_, gb_cl_get hc, hborn.to (fun j hj => ?_)⟩
    unfold vp_V
    rw [List.getD_eq_getElem?_getD, gw_fs_get hj]
    show _ = gw_fv V _ c sh.length j
    rw [gb_dflt c hc j hj]
    unfold gw_fv
    show _ = if _ then Value.int (gw_z I sh.length 1 0 sh.length j) else if _ then Value.long (gw_z J sh.length 1 0 sh.length j) else va_rf (gw_ro V (gw_z F sh.length 1 0 sh.length j))
    rw [gw_z_in (Nat.le_refl _) (by omega), gw_z_in (Nat.le_refl _) (by omega), gw_z_in (Nat.le_refl _) (by omega)]
    rfl
  have := kk p l e R s m args below meth cd QQ H1 locs L X hH1 hl hret
  show W _ _ _ _ _ _ _ _ _ _ _ _ _ _ _ { (F0 m pc L (st.map (gw_mv V))) with pc := pc + 3, stack := .ref H.size :: st.map (gw_mv V) }
  rw [← had]
  exact this
theorem gs_newarray {n : Int32} {N t : Nat} {aty : ArrayType} {ty : FieldType} (hd : gw_D i pc (.newarray aty) 2 t b) (hty : (aty = .int ∧ ty = .int ∧ t = 12) ∨ (aty = .boolean ∧ ty = .boolean ∧ t = 13)) (hsh : sh.length < 145) (hn : ¬ n < 0) (hN : n.toNatClampNeg = N) (hb1 : N * 4 ≤ 536870912) (hcu : cu + 1 ≤ gm_c i) (hsu : su + N ≤ gm_s i)
    (kk : gw_E V i (pc + 2, ls, .ref sh.length :: st, (sh ++ [(t, N)], gw_z I sh.length 1 0, gw_z J sh.length 1 0, gw_z F sh.length 1 0), cu + 1, su + N) Q) : gw_E V i (pc, ls, .int n :: st, (sh, I, J, F), cu, su) Q := by
  intro p l e R s m args below meth cd QQ H locs L X hH hl hret
  obtain ⟨hx, hb, hml, hown, hts, hlk, hnm, hr, hfr, hlo, hce, hsl, hK⟩ := id X
  have hsz : H.size = V.2.2.1 + (sh.length - 3) := hH.2.1 hsh
  have had : gw_ad V sh.length = H.size := by
    have h3 : 3 ≤ sh.length := hH.2.2.1
    unfold gw_ad
    rw [if_neg (by omega), hsz]
  have harr : (Cond.arrayClass (newarray.typeOf aty)).before args s = true := by
    rcases hty with ⟨rfl, -, -⟩ | ⟨rfl, -, -⟩
    · exact hts _ (gl_own_in (by decide +kernel))
    · exact hts _ (gl_own_in (by decide +kernel))
  refine va_newaK hx hb harr rfl hd.1 rfl hn hN ?_ (by show cu + 1 ≤ _; omega) (by show su + N ≤ _; omega) rfl fun H1 cA e1 z1 o1 hAr hNm => ?_
  · rcases hty with ⟨rfl, -, -⟩ | ⟨rfl, -, -⟩
    · exact hb1
    · show N * 1 ≤ _
      omega
  have hH1 : gw_H V (sh ++ [(t, N)], gw_z I sh.length 1 0, gw_z J sh.length 1 0, gw_z F sh.length 1 0) s H1 locs := by
    refine gw_H_push (w := (sh, I, J, F)) hH hsh hK.2.1 rfl (fun k hk => ⟨gw_z_lt hk, gw_z_lt hk, gw_z_lt hk⟩) z1 o1 (fun k hk1 hk2 => ?_)
    have hk : k = sh.length := by
      have : k < sh.length + 1 := hk2
      have : sh.length ≤ k := hk1
      omega
    subst hk
    rcases hty with ⟨rfl, -, rfl⟩ | ⟨rfl, -, rfl⟩
    · rw [gw_cell_I (gw_T_end).1, had]
      have hcA : V.2.1 0 = cA := Option.some.inj ((hK.1.2 0 _ rfl).2.symm.trans hNm)
      show H1[H.size]? = some (vp_cell (V.2.1 0) (gw_N _ sh.length, .inl (gw_z I sh.length 1 0 sh.length)))
      rw [gw_T_end.2, gw_z_in (Nat.le_refl _) (by omega), hcA]
      exact e1
    · rw [gw_cell_Z (gw_T_end).1, had]
      have hcA : V.2.1 1 = cA := Option.some.inj ((hK.1.2 1 _ rfl).2.symm.trans hNm)
      show H1[H.size]? = some (vp_cell (V.2.1 1) (gw_N _ sh.length, .inl (gw_z I sh.length 1 0 sh.length)))
      rw [gw_T_end.2, gw_z_in (Nat.le_refl _) (by omega), hcA]
      exact e1
  have := kk p l e R s m args below meth cd QQ H1 locs L X hH1 hl hret
  show W _ _ _ _ _ _ _ _ _ _ _ _ _ _ _ { (F0 m pc L ((.int n :: st).map (gw_mv V))) with pc := pc + 2, stack := .ref H.size :: st.map (gw_mv V) }
  rw [← had]
  exact this
theorem gs_anew {x : Nat} {n : Int32} {N : Nat} (hd : gw_D i pc (.anewarray x) 3 14 b) (hsh : sh.length < 145) (hn : ¬ n < 0) (hN : n.toNatClampNeg = N) (hb1 : N * 4 ≤ 536870912) (hcu : cu + 1 ≤ gm_c i) (hsu : su + N ≤ gm_s i)
    (kk : gw_E V i (pc + 3, ls, .ref sh.length :: st, (sh ++ [(14, N)], gw_z I sh.length 1 0, gw_z J sh.length 1 0, gw_z F sh.length 1 0), cu + 1, su + N) Q) : gw_E V i (pc, ls, .int n :: st, (sh, I, J, F), cu, su) Q := by
  intro p l e R s m args below meth cd QQ H locs L X hH hl hret
  obtain ⟨hx, hb, hml, hown, hts, hlk, hnm, hr, hfr, hlo, hce, hsl, hK⟩ := id X
  subst hN
  have hsz : H.size = V.2.2.1 + (sh.length - 3) := hH.2.1 hsh
  have had : gw_ad V sh.length = H.size := by
    have h3 : 3 ≤ sh.length := hH.2.2.1
    unfold gw_ad
    rw [if_neg (by omega), hsz]
  have hcl := hd.2
  unfold gc_lk at hcl
  rw [if_pos rfl] at hcl
  have hlink : (Cond.classLink (gb_n (gm_o i)) x "MorningBill$Morning").before args s = true := hts _ (gl_C_in hcl)
  refine W.anew hx hb hown hlink (va_AO.use hK.2.2.2.2.2.2.1) rfl hd.1 rfl hn hb1 (by show cu + 1 ≤ _; omega) (by show su + _ ≤ _; omega) fun cA kA comp f1 f2 f3 f4 => ?_
  generalize hH1 : H.push ({ cls := cA, slots := Array.replicate n.toNatClampNeg .null, vm := .none } : Cell) = H1
  have z1 : H1.size = H.size + 1 := by rw [← hH1, Array.size_push]
  have e1 : H1[H.size]? = some (arrV cA n.toNatClampNeg (fun _ => .null)) := by rw [← hH1, Array.getElem?_push_size, ← arrV_new]
  have o1 : ∀ q : Nat, q < H.size → H1[q]? = H[q]? := fun q hq => by rw [← hH1, Array.getElem?_push, if_neg (Nat.ne_of_lt hq)]
  have hH1 : gw_H V (sh ++ [(14, n.toNatClampNeg)], gw_z I sh.length 1 0, gw_z J sh.length 1 0, gw_z F sh.length 1 0) s H1 locs := by
    refine gw_H_push (w := (sh, I, J, F)) hH hsh hK.2.1 rfl (fun k hk => ⟨gw_z_lt hk, gw_z_lt hk, gw_z_lt hk⟩) z1 o1 (fun k hk1 hk2 => ?_)
    have hk : k = sh.length := by
      have : k < sh.length + 1 := hk2
      have : sh.length ≤ k := hk1
      omega
    subst hk
    rw [gw_cell_M (gw_T_end).1, had]
    have hcA : V.2.1 2 = cA := by
      obtain ⟨kA', comp', -, -, -, q4⟩ := (hK.1.2 2 _ rfl).2
      exact Option.some.inj (q4.symm.trans f1)
    show H1[H.size]? = some (vp_cell (V.2.1 2) (gw_N _ sh.length, .inr (.inr (.inr (.inr (fun j => gw_ro V (gw_z F sh.length 1 0 sh.length j)))))))
    rw [gw_T_end.2, gw_z_in (Nat.le_refl _) (by omega), hcA]
    exact e1
  have := kk p l e R s m args below meth cd QQ H1 locs L X hH1 hl hret
  show W _ _ _ _ _ _ _ _ _ _ _ _ _ _ _ { (F0 m pc L ((.int n :: st).map (gw_mv V))) with pc := pc + 3, stack := .ref H.size :: st.map (gw_mv V) }
  rw [← had]
  exact this
theorem gs_aastore {j : Int32} {v : Nat} (hd : gw_D i pc .aastore 1 b c) (ht : gw_T (sh, I, J, F) a = 14) (hv : gw_T (sh, I, J, F) v = 3) (hv0 : v ≠ 0) (hin : vp_in j (gw_N (sh, I, J, F) a)) (kk : ∀ F2, F2 = gw_uR F a j.toNatClampNeg v → gw_E V i (pc + 1, ls, st, (sh, I, J, F2), cu, su) Q) : gw_E V i (pc, ls, .ref v :: .int j :: .ref a :: st, (sh, I, J, F), cu, su) Q := by
  intro p l e R s m args below meth cd QQ H locs L X hH hl hret
  have hK := X.2.2.2.2.2.2.2.2.2.2.2.2
  have he := gw_at hH ht (by omega)
  rw [gw_cell_M ht] at he
  have hev := gw_at hH hv (by omega)
  rw [gw_cell_obj hv (by omega)] at hev
  have hlt : j.toNatClampNeg < gw_N (sh, I, J, F) a := Nat.not_le.mp fun q => hin (Or.inr q)
  have h0 : ¬ j < 0 := fun q => hin (Or.inl q)
  obtain ⟨r', hr', cellV, g1, g2, g3, -⟩ := hH.1 _ _ hev
  have hcls := (hK.1.1 3 _ (gb_cl_get (by omega))).2
  obtain ⟨kA, comp, k1, k2, k3, -⟩ := (hK.1.2 2 _ rfl).2
  have hcomp : comp = V.1.1 3 := Option.some.inj (k3.symm.trans hcls.1)
  subst hcomp
  obtain ⟨kC, hkC, hkk⟩ := id hcls.2
  refine W.aast X.1 X.2.1 (hH.1 _ _ he) (fun q h => by cases h) (fun h => by cases h) k1 k2 rfl hkC ⟨h0, by show _ < (arrV _ _ _).slots.size; rw [arrV_size]; exact hlt⟩ g1 (fun q h => by rw [g3] at h; cases h) (by rw [g2]; exact hkC) (by rw [g2]; exact va_assign hcls) rfl rfl hd.1 fun H1 e1 z oq => ?_
  refine kk _ rfl p l e R s m args below meth cd QQ H1 _ L X ?_ hl hret
  have hD : va_D (gw_A V) (gw_ws V (sh, I, J, F)) := gw_ws_D
  refine gw_H_set (w' := (sh, I, J, gw_uR F a j.toNatClampNeg v)) hH ht (by omega) rfl (fun q hq => gw_cell_ext rfl rfl rfl (gw_uR_o hq)) (fun q hq => rfl) (gw_cell_M (w := (sh, I, J, gw_uR F a j.toNatClampNeg v)) ht) (hH.1.set hD he ?_ oq) (fun _ => z) (hH.2.2.2.1.put z oq (hD.2 _ _ he))
  show H1[gw_ad V a]? = some (vp_cell _ _)
  rw [e1]
  rw [vp_cell_q, vp_cell_q, arrV_store]
  congr 2
  funext q
  show updV _ _ _ q = va_rf (gw_ro V (gw_uR F a j.toNatClampNeg v a q))
  by_cases hq : q = j.toNatClampNeg
  · subst hq
    simp [updV, gw_uR, gw_ro, hv0, va_rf]
  · simp [updV, gw_uR, hq]
end GA
end
section
/-! ===== the world that stands behind the two constructors: the script has n ints ===== -/
def gs_s0 : List (Nat × Nat) := [
  (16, 7), (16, 9), (10, 12), (8, 2), (12, 48), (7, 10), (12, 8), (12, 6), (12, 6), (12, 6), (12, 6), (3, 4), (12, 10), (3, 4),
  (12, 10), (0, 3), (14, 14), (3, 4), (12, 10), (3, 4), (12, 10), (3, 4), (12, 10), (3, 4), (12, 10), (3, 4), (12, 10), (3, 4),
  (12, 10), (3, 4), (12, 10), (3, 4), (12, 10), (3, 4), (12, 10), (3, 4), (12, 10), (3, 4), (12, 10), (3, 4), (12, 10), (3, 4),
  (12, 10), (3, 4), (12, 10), (6, 2), (14, 2), (13, 2), (3, 4), (12, 10), (3, 4), (12, 10), (5, 7), (12, 6), (12, 6), (13, 6),
  (9, 13), (15, 9), (12, 10), (12, 10), (12, 10), (12, 10), (12, 10), (12, 10), (12, 10), (12, 10), (12, 10), (15, 9), (12, 6), (12, 6),
  (12, 6), (12, 6), (12, 6), (12, 6), (12, 6), (12, 6), (12, 6), (12, 9), (12, 9), (12, 9), (1, 3), (2, 4), (12, 64), (12, 64),
  (4, 8), (15, 9), (12, 48), (12, 48), (12, 48), (12, 48), (12, 48), (12, 48), (12, 48), (12, 48), (12, 48), (15, 9), (12, 48), (12, 48),
  (12, 48), (12, 48), (12, 48), (12, 48), (12, 48), (12, 48), (12, 48), (15, 9), (12, 9), (12, 9), (12, 9), (12, 9), (12, 9), (12, 9),
  (12, 9), (12, 9), (12, 9), (15, 9), (12, 9), (12, 9), (12, 9), (12, 9), (12, 9), (12, 9), (12, 9), (12, 9), (12, 9), (11, 37),
  (12, 8), (12, 8), (12, 24), (12, 4), (12, 8), (12, 24), (12, 52), (12, 48), (12, 10), (12, 182), (12, 64), (12, 6), (12, 6), (13, 6),
  (12, 100), (12, 100), (13, 2), (12, 26)]
def gs_s (n : Nat) : List (Nat × Nat) := (16, n) :: gs_s0
def gs_rl : List (Nat × (Nat → Nat)) := [
  (3, fun k => [4, 6, 12, 14, 16, 46, 53, 57, 81, 82, 85, 0].getD k 0), (4, fun k => [5, 0].getD k 0), (6, fun k => [0, 0, 0, 0, 0, 7, 8, 9, 10, 11].getD k 0), (12, fun _ => 13),
  (14, fun _ => 15), (16, fun k => [17, 0, 0].getD k 0), (17, fun k => 18 + 2 * k), (18, fun _ => 19),
  (20, fun _ => 21), (22, fun _ => 23), (24, fun _ => 25), (26, fun _ => 27),
  (28, fun _ => 29), (30, fun _ => 31), (32, fun _ => 33), (34, fun _ => 35),
  (36, fun _ => 37), (38, fun _ => 39), (40, fun _ => 41), (42, fun _ => 43),
  (44, fun _ => 45), (46, fun k => [47, 48].getD k 0), (47, fun k => 49 + 2 * k), (49, fun _ => 50),
  (51, fun _ => 52), (53, fun k => [54, 55, 56, 0, 0, 0, 0].getD k 0), (57, fun k => [6, 58, 68, 78, 79, 80, 0, 0, 0, 0, 0, 0, 0].getD k 0), (58, fun k => 59 + k),
  (68, fun k => 69 + k), (81, fun k => [57, 0, 0].getD k 0), (82, fun k => [6, 57, 83, 84].getD k 0), (85, fun k => [6, 57, 86, 96, 106, 116, 0, 0].getD k 0),
  (86, fun k => 87 + k), (96, fun k => 97 + k), (106, fun k => 107 + k), (116, fun k => 117 + k),
  (126, fun k => [0, 0, 0, 0, 0, 127, 128, 129, 130, 131, 132, 0, 0, 133, 134, 0, 0, 0, 135, 0, 0, 136, 0, 0, 137, 0, 138, 139, 140, 0, 0, 0, 141, 142, 0, 143, 144].getD k 0)]
def gs_rk : List (Nat × (Nat → Nat)) → Nat → Nat → Nat
  | [], _, _ => 0
  | q :: t, a, k => match Nat.beq a q.1 with
    | true => q.2 k
    | false => gs_rk t a k
def gs_r : Nat → Nat → Nat := gs_rk gs_rl
abbrev gS (n : Nat) (I : Nat → Nat → Int32) (J : Nat → Nat → Int64) : gw_W := (gs_s n, I, J, gs_r)
theorem gs_sl {n : Nat} : 145 ≤ (gs_s n).length := by show 145 ≤ gs_s0.length + 1; decide +kernel
theorem vin {j : Int32} {n : Nat} (h0 : 0 ≤ j) (h1 : j < Int32.ofNat n) (h2 : n < 2 ^ 31) : vp_in j n := by
  unfold vp_in
  have e1 := Int32.le_iff_toInt_le.mp h0
  have e2 := Int32.lt_iff_toInt_lt.mp h1
  rw [Int32.toInt_ofNat_of_lt h2] at e2
  rw [Int32.toInt_zero] at e1
  rintro (q | q)
  · have := Int32.lt_iff_toInt_lt.mp q
    rw [Int32.toInt_zero] at this
    omega
  · have q : n ≤ j.toInt.toNat := q
    omega
end
section
theorem gL_0 : gm_L 0 = 2 := rfl
theorem gL_1 : gm_L 1 = 1 := rfl
theorem gL_2 : gm_L 2 = 2 := rfl
theorem gL_3 : gm_L 3 = 2 := rfl
theorem gL_4 : gm_L 4 = 2 := rfl
theorem gL_5 : gm_L 5 = 4 := rfl
theorem gL_6 : gm_L 6 = 5 := rfl
theorem gL_7 : gm_L 7 = 3 := rfl
theorem gL_8 : gm_L 8 = 3 := rfl
theorem gL_9 : gm_L 9 = 4 := rfl
theorem gL_10 : gm_L 10 = 5 := rfl
theorem gL_11 : gm_L 11 = 8 := rfl
theorem gL_12 : gm_L 12 = 1 := rfl
theorem gL_13 : gm_L 13 = 1 := rfl
theorem gL_14 : gm_L 14 = 2 := rfl
theorem gL_15 : gm_L 15 = 2 := rfl
theorem gL_16 : gm_L 16 = 3 := rfl
theorem gL_17 : gm_L 17 = 6 := rfl
theorem gL_18 : gm_L 18 = 7 := rfl
theorem gL_19 : gm_L 19 = 11 := rfl
theorem gL_20 : gm_L 20 = 3 := rfl
theorem gL_21 : gm_L 21 = 4 := rfl
theorem gL_22 : gm_L 22 = 2 := rfl
theorem gL_23 : gm_L 23 = 1 := rfl
theorem gL_24 : gm_L 24 = 4 := rfl
theorem gL_25 : gm_L 25 = 5 := rfl
theorem gL_26 : gm_L 26 = 5 := rfl
theorem gL_27 : gm_L 27 = 2 := rfl
theorem gL_28 : gm_L 28 = 2 := rfl
theorem gL_29 : gm_L 29 = 3 := rfl
theorem gL_30 : gm_L 30 = 3 := rfl
theorem gL_31 : gm_L 31 = 1 := rfl
theorem gL_32 : gm_L 32 = 4 := rfl
theorem gL_33 : gm_L 33 = 1 := rfl
theorem gL_34 : gm_L 34 = 2 := rfl
theorem gL_35 : gm_L 35 = 4 := rfl
theorem gL_36 : gm_L 36 = 4 := rfl
theorem gL_37 : gm_L 37 = 1 := rfl
theorem gL_38 : gm_L 38 = 2 := rfl
theorem gL_39 : gm_L 39 = 2 := rfl
theorem gL_40 : gm_L 40 = 2 := rfl
theorem gL_41 : gm_L 41 = 2 := rfl
theorem gL_42 : gm_L 42 = 3 := rfl
theorem gL_43 : gm_L 43 = 2 := rfl
theorem gL_44 : gm_L 44 = 4 := rfl
theorem gL_45 : gm_L 45 = 2 := rfl
theorem gL_46 : gm_L 46 = 3 := rfl
theorem gL_47 : gm_L 47 = 4 := rfl
theorem gL_48 : gm_L 48 = 1 := rfl
theorem gL_49 : gm_L 49 = 2 := rfl
theorem gL_50 : gm_L 50 = 3 := rfl
theorem gL_51 : gm_L 51 = 1 := rfl
theorem gL_52 : gm_L 52 = 4 := rfl
theorem gL_53 : gm_L 53 = 6 := rfl
theorem gL_54 : gm_L 54 = 6 := rfl
theorem gL_55 : gm_L 55 = 6 := rfl
theorem gL_56 : gm_L 56 = 3 := rfl
theorem gL_57 : gm_L 57 = 8 := rfl
theorem gL_58 : gm_L 58 = 1 := rfl
theorem gL_59 : gm_L 59 = 2 := rfl
theorem gL_60 : gm_L 60 = 2 := rfl
theorem gL_61 : gm_L 61 = 1 := rfl
theorem gL_62 : gm_L 62 = 2 := rfl
theorem gL_63 : gm_L 63 = 1 := rfl
theorem gL_64 : gm_L 64 = 2 := rfl
theorem gL_65 : gm_L 65 = 2 := rfl
theorem gL_66 : gm_L 66 = 1 := rfl
theorem gL_67 : gm_L 67 = 1 := rfl
theorem gL_68 : gm_L 68 = 2 := rfl
theorem gL_69 : gm_L 69 = 2 := rfl
theorem gL_70 : gm_L 70 = 3 := rfl
theorem gL_71 : gm_L 71 = 1 := rfl
theorem gL_72 : gm_L 72 = 2 := rfl
theorem gL_73 : gm_L 73 = 2 := rfl
theorem gL_74 : gm_L 74 = 1 := rfl
theorem gL_75 : gm_L 75 = 2 := rfl
theorem gL_76 : gm_L 76 = 2 := rfl
theorem gL_77 : gm_L 77 = 4 := rfl
theorem gL_78 : gm_L 78 = 3 := rfl
theorem gL_79 : gm_L 79 = 4 := rfl
theorem gL_80 : gm_L 80 = 2 := rfl
theorem gL_81 : gm_L 81 = 2 := rfl
theorem gL_82 : gm_L 82 = 4 := rfl
theorem gL_83 : gm_L 83 = 2 := rfl
theorem gL_84 : gm_L 84 = 2 := rfl
theorem gL_85 : gm_L 85 = 4 := rfl
theorem gL_86 : gm_L 86 = 5 := rfl
theorem gL_87 : gm_L 87 = 3 := rfl
theorem gL_88 : gm_L 88 = 5 := rfl
theorem gL_89 : gm_L 89 = 4 := rfl
theorem gL_90 : gm_L 90 = 2 := rfl
theorem gL_91 : gm_L 91 = 2 := rfl
theorem gL_92 : gm_L 92 = 2 := rfl
theorem gL_93 : gm_L 93 = 1 := rfl
theorem gL_94 : gm_L 94 = 1 := rfl
theorem gL_95 : gm_L 95 = 1 := rfl
theorem gL_96 : gm_L 96 = 2 := rfl
theorem gL_97 : gm_L 97 = 1 := rfl
theorem gL_98 : gm_L 98 = 2 := rfl
theorem gL_99 : gm_L 99 = 4 := rfl
theorem gL_100 : gm_L 100 = 5 := rfl
theorem gL_101 : gm_L 101 = 3 := rfl
theorem gL_102 : gm_L 102 = 11 := rfl
theorem gL_103 : gm_L 103 = 5 := rfl
theorem gL_104 : gm_L 104 = 7 := rfl
theorem gL_105 : gm_L 105 = 7 := rfl
theorem gL_106 : gm_L 106 = 1 := rfl
theorem gL_107 : gm_L 107 = 6 := rfl
theorem gL_108 : gm_L 108 = 2 := rfl
theorem gL_109 : gm_L 109 = 3 := rfl
theorem gL_110 : gm_L 110 = 2 := rfl
theorem gL_111 : gm_L 111 = 2 := rfl
theorem gL_112 : gm_L 112 = 4 := rfl
theorem gL_113 : gm_L 113 = 1 := rfl
theorem gL_114 : gm_L 114 = 1 := rfl
theorem gL_115 : gm_L 115 = 2 := rfl
theorem gL_116 : gm_L 116 = 1 := rfl
theorem gL_117 : gm_L 117 = 2 := rfl
theorem gL_118 : gm_L 118 = 2 := rfl
theorem gL_119 : gm_L 119 = 2 := rfl
theorem gL_120 : gm_L 120 = 2 := rfl
theorem gL_121 : gm_L 121 = 3 := rfl
theorem gL_122 : gm_L 122 = 4 := rfl
theorem gL_123 : gm_L 123 = 3 := rfl
theorem gL_124 : gm_L 124 = 1 := rfl
theorem gL_125 : gm_L 125 = 7 := rfl
theorem gL_126 : gm_L 126 = 5 := rfl
theorem gL_127 : gm_L 127 = 8 := rfl
theorem gL_128 : gm_L 128 = 2 := rfl
theorem gL_129 : gm_L 129 = 4 := rfl
theorem gL_130 : gm_L 130 = 2 := rfl
theorem gL_131 : gm_L 131 = 2 := rfl
theorem gL_132 : gm_L 132 = 2 := rfl
theorem gL_133 : gm_L 133 = 2 := rfl
theorem gL_134 : gm_L 134 = 4 := rfl
theorem gL_135 : gm_L 135 = 1 := rfl
theorem gL_136 : gm_L 136 = 2 := rfl
theorem gL_137 : gm_L 137 = 6 := rfl
theorem gL_138 : gm_L 138 = 3 := rfl
theorem gL_139 : gm_L 139 = 5 := rfl
theorem gL_140 : gm_L 140 = 3 := rfl
theorem gL_141 : gm_L 141 = 10 := rfl
theorem gL_142 : gm_L 142 = 7 := rfl
theorem gL_143 : gm_L 143 = 3 := rfl
theorem gL_144 : gm_L 144 = 5 := rfl
theorem gL_145 : gm_L 145 = 2 := rfl
theorem gL_146 : gm_L 146 = 4 := rfl
theorem gL_147 : gm_L 147 = 4 := rfl
theorem gL_148 : gm_L 148 = 2 := rfl
theorem gL_149 : gm_L 149 = 6 := rfl
theorem gL_150 : gm_L 150 = 6 := rfl
theorem gL_151 : gm_L 151 = 13 := rfl
theorem gL_152 : gm_L 152 = 8 := rfl
theorem gL_153 : gm_L 153 = 9 := rfl
theorem gL_154 : gm_L 154 = 10 := rfl
theorem gL_155 : gm_L 155 = 2 := rfl
theorem gL_156 : gm_L 156 = 5 := rfl
theorem gL_157 : gm_L 157 = 6 := rfl
theorem gL_158 : gm_L 158 = 5 := rfl
theorem gL_159 : gm_L 159 = 4 := rfl
theorem gL_160 : gm_L 160 = 3 := rfl
theorem gL_161 : gm_L 161 = 3 := rfl
theorem gL_162 : gm_L 162 = 2 := rfl
theorem gL_163 : gm_L 163 = 1 := rfl
theorem gL_164 : gm_L 164 = 4 := rfl
theorem gq_2_15 : gw_fit 2 15 0 0 := by unfold gw_fit; decide +kernel
theorem gq_3_15 : gw_fit 3 15 0 0 := by unfold gw_fit; decide +kernel
theorem gq_5_7 : gw_fit 5 7 0 0 := by unfold gw_fit; decide +kernel
theorem gq_5_51 : gw_fit 5 51 0 0 := by unfold gw_fit; decide +kernel
theorem gq_5_52 : gw_fit 5 52 0 0 := by unfold gw_fit; decide +kernel
theorem gq_5_53 : gw_fit 5 53 0 0 := by unfold gw_fit; decide +kernel
theorem gq_5_58 : gw_fit 5 58 0 0 := by unfold gw_fit; decide +kernel
theorem gq_6_7 : gw_fit 6 7 0 0 := by unfold gw_fit; decide +kernel
theorem gq_6_51 : gw_fit 6 51 0 0 := by unfold gw_fit; decide +kernel
theorem gq_6_52 : gw_fit 6 52 0 0 := by unfold gw_fit; decide +kernel
theorem gq_6_53 : gw_fit 6 53 0 0 := by unfold gw_fit; decide +kernel
theorem gq_6_61 : gw_fit 6 61 0 0 := by unfold gw_fit; decide +kernel
theorem gq_7_163 : gw_fit 7 163 0 0 := by unfold gw_fit; decide +kernel
theorem gq_9_10 : gw_fit 9 10 0 0 := by unfold gw_fit; decide +kernel
theorem gq_9_51 : gw_fit 9 51 0 0 := by unfold gw_fit; decide +kernel
theorem gq_9_52 : gw_fit 9 52 0 0 := by unfold gw_fit; decide +kernel
theorem gq_9_53 : gw_fit 9 53 0 0 := by unfold gw_fit; decide +kernel
theorem gq_10_60 : gw_fit 10 60 0 0 := by unfold gw_fit; decide +kernel
theorem gq_10_163 : gw_fit 10 163 0 0 := by unfold gw_fit; decide +kernel
theorem gq_11_96 : gw_fit 11 96 0 0 := by unfold gw_fit; decide +kernel
theorem gq_11_163 : gw_fit 11 163 0 0 := by unfold gw_fit; decide +kernel
theorem gq_13_14 : gw_fit 13 14 0 0 := by unfold gw_fit; decide +kernel
theorem gq_17_18 : gw_fit 17 18 0 0 := by unfold gw_fit; decide +kernel
theorem gq_17_19 : gw_fit 17 19 0 0 := by unfold gw_fit; decide +kernel
theorem gq_17_20 : gw_fit 17 20 0 0 := by unfold gw_fit; decide +kernel
theorem gq_18_50 : gw_fit 18 50 0 0 := by unfold gw_fit; decide +kernel
theorem gq_18_53 : gw_fit 18 53 0 0 := by unfold gw_fit; decide +kernel
theorem gq_19_36 : gw_fit 19 36 0 0 := by unfold gw_fit; decide +kernel
theorem gq_20_21 : gw_fit 20 21 0 0 := by unfold gw_fit; decide +kernel
theorem gq_20_22 : gw_fit 20 22 0 0 := by unfold gw_fit; decide +kernel
theorem gq_25_26 : gw_fit 25 26 0 0 := by unfold gw_fit; decide +kernel
theorem gq_25_51 : gw_fit 25 51 0 0 := by unfold gw_fit; decide +kernel
theorem gq_25_52 : gw_fit 25 52 0 0 := by unfold gw_fit; decide +kernel
theorem gq_25_53 : gw_fit 25 53 0 0 := by unfold gw_fit; decide +kernel
theorem gq_26_96 : gw_fit 26 96 0 0 := by unfold gw_fit; decide +kernel
theorem gq_29_15 : gw_fit 29 15 0 0 := by unfold gw_fit; decide +kernel
theorem gq_30_15 : gw_fit 30 15 0 0 := by unfold gw_fit; decide +kernel
theorem gq_32_33 : gw_fit 32 33 0 0 := by unfold gw_fit; decide +kernel
theorem gq_32_39 : gw_fit 32 39 0 0 := by unfold gw_fit; decide +kernel
theorem gq_32_40 : gw_fit 32 40 0 0 := by unfold gw_fit; decide +kernel
theorem gq_32_41 : gw_fit 32 41 0 0 := by unfold gw_fit; decide +kernel
theorem gq_40_39 : gw_fit 40 39 0 0 := by unfold gw_fit; decide +kernel
theorem gq_41_39 : gw_fit 41 39 0 0 := by unfold gw_fit; decide +kernel
theorem gq_41_48 : gw_fit 41 48 0 0 := by unfold gw_fit; decide +kernel
theorem gq_42_41 : gw_fit 42 41 0 0 := by unfold gw_fit; decide +kernel
theorem gq_42_43 : gw_fit 42 43 0 0 := by unfold gw_fit; decide +kernel
theorem gq_42_44 : gw_fit 42 44 0 0 := by unfold gw_fit; decide +kernel
theorem gq_44_45 : gw_fit 44 45 0 0 := by unfold gw_fit; decide +kernel
theorem gq_44_46 : gw_fit 44 46 0 0 := by unfold gw_fit; decide +kernel
theorem gq_45_39 : gw_fit 45 39 0 0 := by unfold gw_fit; decide +kernel
theorem gq_45_47 : gw_fit 45 47 0 0 := by unfold gw_fit; decide +kernel
theorem gq_46_39 : gw_fit 46 39 0 0 := by unfold gw_fit; decide +kernel
theorem gq_46_47 : gw_fit 46 47 0 0 := by unfold gw_fit; decide +kernel
theorem gq_47_40 : gw_fit 47 40 0 0 := by unfold gw_fit; decide +kernel
theorem gq_52_96 : gw_fit 52 96 0 0 := by unfold gw_fit; decide +kernel
theorem gq_53_54 : gw_fit 53 54 0 0 := by unfold gw_fit; decide +kernel
theorem gq_53_96 : gw_fit 53 96 0 0 := by unfold gw_fit; decide +kernel
theorem gq_54_55 : gw_fit 54 55 0 0 := by unfold gw_fit; decide +kernel
theorem gq_54_56 : gw_fit 54 56 0 0 := by unfold gw_fit; decide +kernel
theorem gq_54_57 : gw_fit 54 57 0 0 := by unfold gw_fit; decide +kernel
theorem gq_54_96 : gw_fit 54 96 0 0 := by unfold gw_fit; decide +kernel
theorem gq_56_96 : gw_fit 56 96 0 0 := by unfold gw_fit; decide +kernel
theorem gq_57_35 : gw_fit 57 35 0 0 := by unfold gw_fit; decide +kernel
theorem gq_57_36 : gw_fit 57 36 0 0 := by unfold gw_fit; decide +kernel
theorem gq_57_96 : gw_fit 57 96 0 0 := by unfold gw_fit; decide +kernel
theorem gq_64_38 : gw_fit 64 38 0 0 := by unfold gw_fit; decide +kernel
theorem gq_66_42 : gw_fit 66 42 0 0 := by unfold gw_fit; decide +kernel
theorem gq_67_1 : gw_fit 67 1 0 0 := by unfold gw_fit; decide +kernel
theorem gq_67_13 : gw_fit 67 13 0 0 := by unfold gw_fit; decide +kernel
theorem gq_67_28 : gw_fit 67 28 0 0 := by unfold gw_fit; decide +kernel
theorem gq_67_32 : gw_fit 67 32 0 0 := by unfold gw_fit; decide +kernel
theorem gq_67_42 : gw_fit 67 42 0 0 := by unfold gw_fit; decide +kernel
theorem gq_68_93 : gw_fit 68 93 0 0 := by unfold gw_fit; decide +kernel
theorem gq_70_34 : gw_fit 70 34 0 0 := by unfold gw_fit; decide +kernel
theorem gq_70_35 : gw_fit 70 35 0 0 := by unfold gw_fit; decide +kernel
theorem gq_70_96 : gw_fit 70 96 0 0 := by unfold gw_fit; decide +kernel
theorem gq_72_2 : gw_fit 72 2 0 0 := by unfold gw_fit; decide +kernel
theorem gq_72_50 : gw_fit 72 50 0 0 := by unfold gw_fit; decide +kernel
theorem gq_72_53 : gw_fit 72 53 0 0 := by unfold gw_fit; decide +kernel
theorem gq_72_62 : gw_fit 72 62 0 0 := by unfold gw_fit; decide +kernel
theorem gq_72_97 : gw_fit 72 97 0 0 := by unfold gw_fit; decide +kernel
theorem gq_73_2 : gw_fit 73 2 0 0 := by unfold gw_fit; decide +kernel
theorem gq_73_93 : gw_fit 73 93 0 0 := by unfold gw_fit; decide +kernel
theorem gq_73_96 : gw_fit 73 96 0 0 := by unfold gw_fit; decide +kernel
theorem gq_73_97 : gw_fit 73 97 0 0 := by unfold gw_fit; decide +kernel
theorem gq_74_3 : gw_fit 74 3 0 0 := by unfold gw_fit; decide +kernel
theorem gq_75_58 : gw_fit 75 58 0 0 := by unfold gw_fit; decide +kernel
theorem gq_75_94 : gw_fit 75 94 0 0 := by unfold gw_fit; decide +kernel
theorem gq_75_98 : gw_fit 75 98 0 0 := by unfold gw_fit; decide +kernel
theorem gq_76_5 : gw_fit 76 5 0 0 := by unfold gw_fit; decide +kernel
theorem gq_76_50 : gw_fit 76 50 0 0 := by unfold gw_fit; decide +kernel
theorem gq_77_5 : gw_fit 77 5 0 0 := by unfold gw_fit; decide +kernel
theorem gq_77_15 : gw_fit 77 15 0 0 := by unfold gw_fit; decide +kernel
theorem gq_77_50 : gw_fit 77 50 0 0 := by unfold gw_fit; decide +kernel
theorem gq_77_76 : gw_fit 77 76 0 0 := by unfold gw_fit; decide +kernel
theorem gq_78_9 : gw_fit 78 9 0 0 := by unfold gw_fit; decide +kernel
theorem gq_78_11 : gw_fit 78 11 0 0 := by unfold gw_fit; decide +kernel
theorem gq_78_34 : gw_fit 78 34 0 0 := by unfold gw_fit; decide +kernel
theorem gq_78_50 : gw_fit 78 50 0 0 := by unfold gw_fit; decide +kernel
theorem gq_78_104 : gw_fit 78 104 0 0 := by unfold gw_fit; decide +kernel
theorem gq_79_59 : gw_fit 79 59 0 0 := by unfold gw_fit; decide +kernel
theorem gq_79_98 : gw_fit 79 98 0 0 := by unfold gw_fit; decide +kernel
theorem gq_79_99 : gw_fit 79 99 0 0 := by unfold gw_fit; decide +kernel
theorem gq_79_100 : gw_fit 79 100 0 0 := by unfold gw_fit; decide +kernel
theorem gq_80_61 : gw_fit 80 61 0 0 := by unfold gw_fit; decide +kernel
theorem gq_80_94 : gw_fit 80 94 0 0 := by unfold gw_fit; decide +kernel
theorem gq_80_98 : gw_fit 80 98 0 0 := by unfold gw_fit; decide +kernel
theorem gq_81_6 : gw_fit 81 6 0 0 := by unfold gw_fit; decide +kernel
theorem gq_81_50 : gw_fit 81 50 0 0 := by unfold gw_fit; decide +kernel
theorem gq_82_24 : gw_fit 82 24 0 0 := by unfold gw_fit; decide +kernel
theorem gq_82_34 : gw_fit 82 34 0 0 := by unfold gw_fit; decide +kernel
theorem gq_84_13 : gw_fit 84 13 0 0 := by unfold gw_fit; decide +kernel
theorem gq_84_25 : gw_fit 84 25 0 0 := by unfold gw_fit; decide +kernel
theorem gq_84_50 : gw_fit 84 50 0 0 := by unfold gw_fit; decide +kernel
theorem gq_85_94 : gw_fit 85 94 0 0 := by unfold gw_fit; decide +kernel
theorem gq_85_95 : gw_fit 85 95 0 0 := by unfold gw_fit; decide +kernel
theorem gq_85_97 : gw_fit 85 97 0 0 := by unfold gw_fit; decide +kernel
theorem gq_85_102 : gw_fit 85 102 0 0 := by unfold gw_fit; decide +kernel
theorem gq_85_103 : gw_fit 85 103 0 0 := by unfold gw_fit; decide +kernel
theorem gq_85_104 : gw_fit 85 104 0 0 := by unfold gw_fit; decide +kernel
theorem gq_86_34 : gw_fit 86 34 0 0 := by unfold gw_fit; decide +kernel
theorem gq_86_94 : gw_fit 86 94 0 0 := by unfold gw_fit; decide +kernel
theorem gq_86_95 : gw_fit 86 95 0 0 := by unfold gw_fit; decide +kernel
theorem gq_86_97 : gw_fit 86 97 0 0 := by unfold gw_fit; decide +kernel
theorem gq_86_102 : gw_fit 86 102 0 0 := by unfold gw_fit; decide +kernel
theorem gq_86_103 : gw_fit 86 103 0 0 := by unfold gw_fit; decide +kernel
theorem gq_86_104 : gw_fit 86 104 0 0 := by unfold gw_fit; decide +kernel
theorem gq_87_14 : gw_fit 87 14 0 0 := by unfold gw_fit; decide +kernel
theorem gq_87_15 : gw_fit 87 15 0 0 := by unfold gw_fit; decide +kernel
theorem gq_87_17 : gw_fit 87 17 0 0 := by unfold gw_fit; decide +kernel
theorem gq_87_93 : gw_fit 87 93 0 0 := by unfold gw_fit; decide +kernel
theorem gq_89_58 : gw_fit 89 58 0 0 := by unfold gw_fit; decide +kernel
theorem gq_89_98 : gw_fit 89 98 0 0 := by unfold gw_fit; decide +kernel
theorem gq_89_101 : gw_fit 89 101 0 0 := by unfold gw_fit; decide +kernel
theorem gq_90_29 : gw_fit 90 29 0 0 := by unfold gw_fit; decide +kernel
theorem gq_91_1 : gw_fit 91 1 0 0 := by unfold gw_fit; decide +kernel
theorem gq_91_30 : gw_fit 91 30 0 0 := by unfold gw_fit; decide +kernel
theorem gq_92_35 : gw_fit 92 35 0 0 := by unfold gw_fit; decide +kernel
theorem gq_98_50 : gw_fit 98 50 0 0 := by unfold gw_fit; decide +kernel
theorem gq_98_53 : gw_fit 98 53 0 0 := by unfold gw_fit; decide +kernel
theorem gq_100_99 : gw_fit 100 99 0 0 := by unfold gw_fit; decide +kernel
theorem gq_102_50 : gw_fit 102 50 0 0 := by unfold gw_fit; decide +kernel
theorem gq_102_51 : gw_fit 102 51 0 0 := by unfold gw_fit; decide +kernel
theorem gq_102_52 : gw_fit 102 52 0 0 := by unfold gw_fit; decide +kernel
theorem gq_102_53 : gw_fit 102 53 0 0 := by unfold gw_fit; decide +kernel
theorem gq_102_58 : gw_fit 102 58 0 0 := by unfold gw_fit; decide +kernel
theorem gq_102_60 : gw_fit 102 60 0 0 := by unfold gw_fit; decide +kernel
theorem gq_102_103 : gw_fit 102 103 0 0 := by unfold gw_fit; decide +kernel
theorem gq_102_163 : gw_fit 102 163 0 0 := by unfold gw_fit; decide +kernel
theorem gq_104_105 : gw_fit 104 105 0 0 := by unfold gw_fit; decide +kernel
theorem gq_110_107 : gw_fit 110 107 0 0 := by unfold gw_fit; decide +kernel
theorem gq_112_107 : gw_fit 112 107 0 0 := by unfold gw_fit; decide +kernel
theorem gq_114_112 : gw_fit 114 112 0 0 := by unfold gw_fit; decide +kernel
theorem gq_114_113 : gw_fit 114 113 0 0 := by unfold gw_fit; decide +kernel
theorem gq_114_115 : gw_fit 114 115 0 0 := by unfold gw_fit; decide +kernel
theorem gq_115_112 : gw_fit 115 112 0 0 := by unfold gw_fit; decide +kernel
theorem gq_116_114 : gw_fit 116 114 0 0 := by unfold gw_fit; decide +kernel
theorem gq_117_114 : gw_fit 117 114 0 0 := by unfold gw_fit; decide +kernel
theorem gq_118_107 : gw_fit 118 107 0 0 := by unfold gw_fit; decide +kernel
theorem gq_119_107 : gw_fit 119 107 0 0 := by unfold gw_fit; decide +kernel
theorem gq_120_107 : gw_fit 120 107 0 0 := by unfold gw_fit; decide +kernel
theorem gq_122_121 : gw_fit 122 121 0 0 := by unfold gw_fit; decide +kernel
theorem gq_123_107 : gw_fit 123 107 0 0 := by unfold gw_fit; decide +kernel
theorem gq_123_118 : gw_fit 123 118 0 0 := by unfold gw_fit; decide +kernel
theorem gq_123_121 : gw_fit 123 121 0 0 := by unfold gw_fit; decide +kernel
theorem gq_125_107 : gw_fit 125 107 0 0 := by unfold gw_fit; decide +kernel
theorem gq_125_108 : gw_fit 125 108 0 0 := by unfold gw_fit; decide +kernel
theorem gq_127_108 : gw_fit 127 108 0 0 := by unfold gw_fit; decide +kernel
theorem gq_127_121 : gw_fit 127 121 0 0 := by unfold gw_fit; decide +kernel
theorem gq_127_125 : gw_fit 127 125 0 0 := by unfold gw_fit; decide +kernel
theorem gq_127_126 : gw_fit 127 126 0 0 := by unfold gw_fit; decide +kernel
theorem gq_131_122 : gw_fit 131 122 0 0 := by unfold gw_fit; decide +kernel
theorem gq_131_127 : gw_fit 131 127 0 0 := by unfold gw_fit; decide +kernel
theorem gq_131_128 : gw_fit 131 128 0 0 := by unfold gw_fit; decide +kernel
theorem gq_131_130 : gw_fit 131 130 0 0 := by unfold gw_fit; decide +kernel
theorem gq_132_107 : gw_fit 132 107 0 0 := by unfold gw_fit; decide +kernel
theorem gq_132_130 : gw_fit 132 130 0 0 := by unfold gw_fit; decide +kernel
theorem gq_134_108 : gw_fit 134 108 0 0 := by unfold gw_fit; decide +kernel
theorem gq_134_122 : gw_fit 134 122 0 0 := by unfold gw_fit; decide +kernel
theorem gq_134_127 : gw_fit 134 127 0 0 := by unfold gw_fit; decide +kernel
theorem gq_134_129 : gw_fit 134 129 0 0 := by unfold gw_fit; decide +kernel
theorem gq_136_107 : gw_fit 136 107 0 0 := by unfold gw_fit; decide +kernel
theorem gq_136_128 : gw_fit 136 128 0 0 := by unfold gw_fit; decide +kernel
theorem gq_136_134 : gw_fit 136 134 0 0 := by unfold gw_fit; decide +kernel
theorem gq_137_109 : gw_fit 137 109 0 0 := by unfold gw_fit; decide +kernel
theorem gq_137_128 : gw_fit 137 128 0 0 := by unfold gw_fit; decide +kernel
theorem gq_137_134 : gw_fit 137 134 0 0 := by unfold gw_fit; decide +kernel
theorem gq_137_135 : gw_fit 137 135 0 0 := by unfold gw_fit; decide +kernel
theorem gq_138_137 : gw_fit 138 137 0 0 := by unfold gw_fit; decide +kernel
theorem gq_139_137 : gw_fit 139 137 0 0 := by unfold gw_fit; decide +kernel
theorem gq_142_108 : gw_fit 142 108 0 0 := by unfold gw_fit; decide +kernel
theorem gq_142_109 : gw_fit 142 109 0 0 := by unfold gw_fit; decide +kernel
theorem gq_142_118 : gw_fit 142 118 0 0 := by unfold gw_fit; decide +kernel
theorem gq_142_137 : gw_fit 142 137 0 0 := by unfold gw_fit; decide +kernel
theorem gq_142_140 : gw_fit 142 140 0 0 := by unfold gw_fit; decide +kernel
theorem gq_142_141 : gw_fit 142 141 0 0 := by unfold gw_fit; decide +kernel
theorem gq_144_107 : gw_fit 144 107 0 0 := by unfold gw_fit; decide +kernel
theorem gq_144_127 : gw_fit 144 127 0 0 := by unfold gw_fit; decide +kernel
theorem gq_144_128 : gw_fit 144 128 0 0 := by unfold gw_fit; decide +kernel
theorem gq_144_129 : gw_fit 144 129 0 0 := by unfold gw_fit; decide +kernel
theorem gq_144_143 : gw_fit 144 143 0 0 := by unfold gw_fit; decide +kernel
theorem gq_145_107 : gw_fit 145 107 0 0 := by unfold gw_fit; decide +kernel
theorem gq_145_128 : gw_fit 145 128 0 0 := by unfold gw_fit; decide +kernel
theorem gq_145_134 : gw_fit 145 134 0 0 := by unfold gw_fit; decide +kernel
theorem gq_146_107 : gw_fit 146 107 0 0 := by unfold gw_fit; decide +kernel
theorem gq_146_109 : gw_fit 146 109 0 0 := by unfold gw_fit; decide +kernel
theorem gq_146_128 : gw_fit 146 128 0 0 := by unfold gw_fit; decide +kernel
theorem gq_146_134 : gw_fit 146 134 0 0 := by unfold gw_fit; decide +kernel
theorem gq_146_135 : gw_fit 146 135 0 0 := by unfold gw_fit; decide +kernel
theorem gq_147_107 : gw_fit 147 107 0 0 := by unfold gw_fit; decide +kernel
theorem gq_147_118 : gw_fit 147 118 0 0 := by unfold gw_fit; decide +kernel
theorem gq_149_108 : gw_fit 149 108 0 0 := by unfold gw_fit; decide +kernel
theorem gq_149_118 : gw_fit 149 118 0 0 := by unfold gw_fit; decide +kernel
theorem gq_149_121 : gw_fit 149 121 0 0 := by unfold gw_fit; decide +kernel
theorem gq_149_127 : gw_fit 149 127 0 0 := by unfold gw_fit; decide +kernel
theorem gq_150_107 : gw_fit 150 107 0 0 := by unfold gw_fit; decide +kernel
theorem gq_150_128 : gw_fit 150 128 0 0 := by unfold gw_fit; decide +kernel
theorem gq_150_149 : gw_fit 150 149 0 0 := by unfold gw_fit; decide +kernel
theorem gq_151_108 : gw_fit 151 108 0 0 := by unfold gw_fit; decide +kernel
theorem gq_151_109 : gw_fit 151 109 0 0 := by unfold gw_fit; decide +kernel
theorem gq_151_134 : gw_fit 151 134 0 0 := by unfold gw_fit; decide +kernel
theorem gq_151_135 : gw_fit 151 135 0 0 := by unfold gw_fit; decide +kernel
theorem gq_152_107 : gw_fit 152 107 0 0 := by unfold gw_fit; decide +kernel
theorem gq_152_141 : gw_fit 152 141 0 0 := by unfold gw_fit; decide +kernel
theorem gq_152_151 : gw_fit 152 151 0 0 := by unfold gw_fit; decide +kernel
theorem gq_153_107 : gw_fit 153 107 0 0 := by unfold gw_fit; decide +kernel
theorem gq_153_118 : gw_fit 153 118 0 0 := by unfold gw_fit; decide +kernel
theorem gq_153_141 : gw_fit 153 141 0 0 := by unfold gw_fit; decide +kernel
theorem gq_153_151 : gw_fit 153 151 0 0 := by unfold gw_fit; decide +kernel
theorem gq_154_125 : gw_fit 154 125 0 0 := by unfold gw_fit; decide +kernel
theorem gq_154_126 : gw_fit 154 126 0 0 := by unfold gw_fit; decide +kernel
theorem gq_154_128 : gw_fit 154 128 0 0 := by unfold gw_fit; decide +kernel
theorem gq_154_129 : gw_fit 154 129 0 0 := by unfold gw_fit; decide +kernel
theorem gq_155_107 : gw_fit 155 107 0 0 := by unfold gw_fit; decide +kernel
theorem gq_156_155 : gw_fit 156 155 0 0 := by unfold gw_fit; decide +kernel
theorem gq_157_107 : gw_fit 157 107 0 0 := by unfold gw_fit; decide +kernel
theorem gq_157_154 : gw_fit 157 154 0 0 := by unfold gw_fit; decide +kernel
theorem gq_157_155 : gw_fit 157 155 0 0 := by unfold gw_fit; decide +kernel
theorem gq_157_156 : gw_fit 157 156 0 0 := by unfold gw_fit; decide +kernel
theorem gq_159_107 : gw_fit 159 107 0 0 := by unfold gw_fit; decide +kernel
theorem gq_159_127 : gw_fit 159 127 0 0 := by unfold gw_fit; decide +kernel
theorem gq_159_128 : gw_fit 159 128 0 0 := by unfold gw_fit; decide +kernel
theorem gq_159_129 : gw_fit 159 129 0 0 := by unfold gw_fit; decide +kernel
theorem gq_160_107 : gw_fit 160 107 0 0 := by unfold gw_fit; decide +kernel
theorem gq_161_107 : gw_fit 161 107 0 0 := by unfold gw_fit; decide +kernel
theorem gq_162_122 : gw_fit 162 122 0 0 := by unfold gw_fit; decide +kernel
end
section
/-! ===== new int[n][k] ===== -/
theorem gw_outer (c : ClassId) (N h0 : Nat) : ∀ i : Nat, Jvm.Free.Multi.outerC c N h0 i = arrV c N (fun j => if j < i then .ref (h0 + 1 + j) else .null)
  | 0 => by
    show ({ cls := c, slots := Array.replicate N .null, vm := .none } : Cell) = _
    rw [arrV_new]
    simp
  | i + 1 => by
    show (Jvm.Free.Multi.outerC c N h0 i).setSlot i (.ref (h0 + 1 + i)) = _
    rw [gw_outer c N h0 i, arrV_store]
    refine congrArg (arrV c N) (funext fun j => ?_)
    by_cases e : j = i
    · subst e
      simp [updV]
    · by_cases h : j < i
      · simp [updV, e, h, Nat.lt_succ_of_lt h]
      · simp [updV, e, h, show ¬ j < i + 1 by omega]
def gw_mR (F : Nat → Nat → Nat) (n N : Nat) : Nat → Nat → Nat := fun p q => if p = n then (if q < N then n + 1 + q else 0) else gw_z F n (N + 1) 0 p q
theorem gw_T_mr {sh : List (Nat × Nat)} {N K : Nat} {I : Nat → Nat → Int32} {J : Nat → Nat → Int64} {F : Nat → Nat → Nat} {j : Nat} (hj : j < N) : gw_T (sh ++ (15, N) :: List.replicate N (12, K), I, J, F) (sh.length + 1 + j) = 12 ∧ gw_N (sh ++ (15, N) :: List.replicate N (12, K), I, J, F) (sh.length + 1 + j) = K := by
  have e : (sh ++ (15, N) :: List.replicate N (12, K)).getD (sh.length + 1 + j) (99, 0) = (12, K) := by
    rw [List.getD_eq_getElem?_getD, List.getElem?_append_right (by omega), show sh.length + 1 + j - sh.length = j + 1 by omega, List.getElem?_cons_succ, List.getElem?_replicate, if_pos hj]
    rfl
  exact ⟨congrArg Prod.fst e, congrArg Prod.snd e⟩
theorem gw_T_mo {sh : List (Nat × Nat)} {N K : Nat} {I : Nat → Nat → Int32} {J : Nat → Nat → Int64} {F : Nat → Nat → Nat} : gw_T (sh ++ (15, N) :: List.replicate N (12, K), I, J, F) sh.length = 15 ∧ gw_N (sh ++ (15, N) :: List.replicate N (12, K), I, J, F) sh.length = N := by
  have e : (sh ++ (15, N) :: List.replicate N (12, K)).getD sh.length (99, 0) = (15, N) := by
    rw [List.getD_eq_getElem?_getD, List.getElem?_append_right (Nat.le_refl _), Nat.sub_self]
    rfl
  exact ⟨congrArg Prod.fst e, congrArg Prod.snd e⟩
theorem gs_mnew {V : gw_V} {i pc b x N K : Nat} {ls : List (Nat × Value)} {st : List Value} {sh : List (Nat × Nat)} {I : Nat → Nat → Int32} {J : Nat → Nat → Int64} {F : Nat → Nat → Nat} {cu su : Nat} {Q : Option Value → gw_W → Prop} {n k : Int32} (hd : gw_D i pc (.multianewarray x 2) 4 15 b) (hsh : sh.length < 145) (hn : ¬ n < 0) (hk : ¬ k < 0) (hN : n.toNatClampNeg = N) (hKK : k.toNatClampNeg = K) (hb1 : N * 4 ≤ 536870912) (hb2 : K * 4 ≤ 536870912) (hcu : cu + 1 + N ≤ gm_c i) (hsu : su + N + N * K ≤ gm_s i)
    (kk : gw_E V i (pc + 4, ls, .ref sh.length :: st, (sh ++ (15, N) :: List.replicate N (12, K), gw_z I sh.length (N + 1) 0, gw_z J sh.length (N + 1) 0, gw_mR F sh.length N), cu + 1 + N, su + N + N * K) Q) : gw_E V i (pc, ls, .int k :: .int n :: st, (sh, I, J, F), cu, su) Q := by
  intro p l e R s m args below meth cd QQ H locs L X hH hl hret
  obtain ⟨hx, hb, hml, hown, hts, hlk, hnm, hr, hfr, hlo, hce, hsl, hK⟩ := id X
  subst hN
  subst hKK
  have hsz : H.size = V.2.2.1 + (sh.length - 3) := hH.2.1 hsh
  have h3 : 3 ≤ sh.length := hH.2.2.1
  have had : ∀ j, gw_ad V (sh.length + j) = H.size + j := by
    intro j
    unfold gw_ad
    rw [if_neg (by omega), hsz]
    omega
  have had0 : gw_ad V sh.length = H.size := had 0
  have hcl := hd.2
  unfold gc_lk at hcl
  rw [if_neg (by omega)] at hcl
  have hlink : (Cond.classLink (gb_n (gm_o i)) x ("[" ++ (FieldType.array .int).toString)).before args s = true := hts _ (gl_C_in hcl)
  intro T hT Xs
  obtain ⟨vm₁, cA, comp, -, fA, fC, hO, -, X', step⟩ := Jvm.Stand.multianewarray2F Xs hx (ty := .int) hown hlink hK.2.2.2.2.2.2.2 (hts _ (gl_own_in (by decide +kernel))) (g := F0 m pc L (.int k :: .int n :: st.map (gw_mv V))) rfl (by rw [hb]; exact hd.1) rfl hn hk hb1 hb2 (by omega) rfl rfl (by show cu + (1 + _) ≤ _; omega) (by show su + (_ + _) ≤ _; omega)
  generalize hF : Jvm.Free.Multi.fill (T.setVm vm₁) cA comp n.toNatClampNeg k.toNatClampNeg (defaultValue .int) n.toNatClampNeg = FF at X' step
  have hTh : (T.setVm vm₁).heap = H := hT
  obtain ⟨f1, f2, -, -⟩ := Jvm.Free.Multi.fill_facts (T.setVm vm₁) cA comp n.toNatClampNeg k.toNatClampNeg (defaultValue .int) n.toNatClampNeg
  rw [hF, hTh] at f1 f2
  have hold : ∀ q : Nat, q < H.size → FF.heap[q]? = H[q]? := fun q hq => by
    have := Jvm.Free.Multi.fill_old (T.setVm vm₁) cA comp n.toNatClampNeg k.toNatClampNeg (defaultValue .int) (a := q) (by rw [hTh]; exact hq) n.toNatClampNeg
    rw [hF, hTh] at this
    exact this
  have hrow : ∀ j : Nat, j < n.toNatClampNeg → FF.heap[H.size + 1 + j]? = some (vp_cell comp (k.toNatClampNeg, .inl (fun _ => 0))) := fun j hj => by
    have := Jvm.Free.Multi.fill_inner (T.setVm vm₁) cA comp n.toNatClampNeg k.toNatClampNeg (defaultValue .int) n.toNatClampNeg j hj
    rw [hF, hTh] at this
    rw [this, vp_cell_i]
    show some ({ cls := comp, slots := Array.replicate k.toNatClampNeg (.int 0), vm := .none } : Cell) = _
    rw [arrV_new]
  rw [gw_outer] at f2
  have hcA : V.2.1 3 = cA := Option.some.inj ((hK.1.2 3 _ rfl).2.symm.trans fA)
  have hcI : V.2.1 0 = comp := Option.some.inj ((hK.1.2 0 _ rfl).2.symm.trans fC)
  have hH1 : gw_H V (sh ++ (15, n.toNatClampNeg) :: List.replicate n.toNatClampNeg (12, k.toNatClampNeg), gw_z I sh.length (n.toNatClampNeg + 1) 0, gw_z J sh.length (n.toNatClampNeg + 1) 0, gw_mR F sh.length n.toNatClampNeg) s FF.heap locs := by
    refine gw_H_push (w := (sh, I, J, F)) hH hsh hK.2.1 rfl (fun q hq => ⟨gw_z_lt hq, gw_z_lt hq, ?_⟩) ?_ hold (fun q hq1 hq2 => ?_)
    · funext z
      show gw_mR F sh.length n.toNatClampNeg q z = F q z
      have hq : q < sh.length := hq
      unfold gw_mR
      rw [if_neg (by omega), gw_z_lt hq]
    · rw [f1]
      simp
      omega
    · have hq1 : sh.length ≤ q := hq1
      have hq2 : q < sh.length + ((15, n.toNatClampNeg) :: List.replicate n.toNatClampNeg (12, k.toNatClampNeg)).length := hq2
      rw [List.length_cons, List.length_replicate] at hq2
      by_cases e : q = sh.length
      · subst e
        rw [gw_cell_A gw_T_mo.1, had0]
        show FF.heap[H.size]? = some (vp_cell (V.2.1 3) (gw_N _ sh.length, .inr (.inr (.inr (.inr (fun j => gw_ro V (gw_mR F sh.length n.toNatClampNeg sh.length j)))))))
        rw [gw_T_mo.2, hcA, vp_cell_q, f2]
        refine congrArg (fun f => some (arrV cA n.toNatClampNeg f)) (funext fun j => ?_)
        unfold gw_mR
        rw [if_pos rfl]
        by_cases hj : j < n.toNatClampNeg
        · rw [if_pos hj, if_pos hj]
          unfold gw_ro
          rw [if_neg (by omega), show sh.length + 1 + j = sh.length + (1 + j) by omega, had (1 + j), show H.size + 1 + j = H.size + (1 + j) by omega]
          rfl
        · rw [if_neg hj, if_neg hj]
          rfl
      · obtain ⟨j, rfl⟩ : ∃ j, q = sh.length + 1 + j := ⟨q - (sh.length + 1), by omega⟩
        have hj : j < n.toNatClampNeg := by omega
        rw [gw_cell_I (gw_T_mr hj).1, show sh.length + 1 + j = sh.length + (1 + j) by omega, had (1 + j)]
        show FF.heap[H.size + (1 + j)]? = some (vp_cell (V.2.1 0) (gw_N _ (sh.length + (1 + j)), .inl (gw_z I sh.length (n.toNatClampNeg + 1) 0 (sh.length + (1 + j)))))
        rw [show sh.length + (1 + j) = sh.length + 1 + j by omega, (gw_T_mr hj).2, gw_z_in (by omega) (by omega), hcI, show H.size + (1 + j) = H.size + 1 + j by omega]
        exact hrow j hj
  obtain ⟨t, a1, b1⟩ := kk p l e R s m args below meth cd QQ FF.heap locs L X hH1 hl hret FF rfl X'
  refine ⟨t, step t ?_, b1⟩
  have e9 : T.heap.size = gw_ad V sh.length := by rw [hT, had0]
  rw [e9]
  exact a1
end
section
/-! ===== array rules by numbers ===== -/
theorem zvin0 {k n : Nat} {j : Int32} (hj : j = Int32.ofNat k) (h : k < n) (hn : n < 2 ^ 31) : vp_in j n ∧ j.toNatClampNeg = k := by
  subst hj
  have e : (Int32.ofNat k).toNatClampNeg = k := Int32.toNatClampNeg_ofNat_of_lt (by omega)
  refine ⟨vin ?_ ?_ hn, e⟩
  · rw [Int32.le_iff_toInt_le, Int32.toInt_ofNat_of_lt (by omega), Int32.toInt_zero]; omega
  · rw [Int32.lt_iff_toInt_lt, Int32.toInt_ofNat_of_lt (by omega), Int32.toInt_ofNat_of_lt hn]; omega
section GK
variable {V : gw_V} {i pc a b c : Nat} {ls : List (Nat × Value)} {st : List Value} {sh : List (Nat × Nat)} {I : Nat → Nat → Int32} {J : Nat → Nat → Int64} {F : Nat → Nat → Nat} {cu su : Nat} {Q : Option Value → gw_W → Prop}
theorem gs_ialoadK {j : Int32} (k N : Nat) (hd : gw_D i pc .iaload 1 b c) (ht : gw_T (sh, I, J, F) a = 12 ∨ gw_T (sh, I, J, F) a = 16 ∧ a < 3) (hN : gw_N (sh, I, J, F) a = N) (hN2 : N < 2 ^ 31) (hj : j = Int32.ofNat k) (hk : k < N) (kk : gw_E V i (pc + 1, ls, .int (I a k) :: st, (sh, I, J, F), cu, su) Q) : gw_E V i (pc, ls, .int j :: .ref a :: st, (sh, I, J, F), cu, su) Q := by
  obtain ⟨h1, h2⟩ := zvin0 hj hk hN2
  exact gs_iaload hd ht (by rw [hN]; exact h1) (by rw [h2]; exact kk)
theorem gs_baloadK {j : Int32} (k N : Nat) (hd : gw_D i pc .baload 1 b c) (ht : gw_T (sh, I, J, F) a = 13) (hN : gw_N (sh, I, J, F) a = N) (hN2 : N < 2 ^ 31) (hj : j = Int32.ofNat k) (hk : k < N) (kk : gw_E V i (pc + 1, ls, .int (I a k) :: st, (sh, I, J, F), cu, su) Q) : gw_E V i (pc, ls, .int j :: .ref a :: st, (sh, I, J, F), cu, su) Q := by
  obtain ⟨h1, h2⟩ := zvin0 hj hk hN2
  exact gs_baload hd ht (by rw [hN]; exact h1) (by rw [h2]; exact kk)
theorem gs_aaloadK {j : Int32} {r : Nat} (k N : Nat) (hd : gw_D i pc .aaload 1 b c) (ht : gw_T (sh, I, J, F) a = 14 ∨ gw_T (sh, I, J, F) a = 15) (hN : gw_N (sh, I, J, F) a = N) (hN2 : N < 2 ^ 31) (hj : j = Int32.ofNat k) (hk : k < N) (hr : F a k = r) (h0 : r ≠ 0) (kk : gw_E V i (pc + 1, ls, .ref r :: st, (sh, I, J, F), cu, su) Q) : gw_E V i (pc, ls, .int j :: .ref a :: st, (sh, I, J, F), cu, su) Q := by
  obtain ⟨h1, h2⟩ := zvin0 hj hk hN2
  exact gs_aaload hd ht (by rw [hN]; exact h1) (by rw [h2]; exact hr) h0 kk
theorem gs_iastoreK {j v : Int32} (k N : Nat) (hL : 145 ≤ sh.length) (hd : gw_D i pc .iastore 1 b c) (ht : gw_T (sh, I, J, F) a = 12) (hN : gw_N (sh, I, J, F) a = N) (hN2 : N < 2 ^ 31) (hj : j = Int32.ofNat k) (hk : k < N) (kk : ∀ I2, I2 = gw_u I a k v → gw_E V i (pc + 1, ls, st, (sh, I2, J, F), cu, su) Q) : gw_E V i (pc, ls, .int v :: .int j :: .ref a :: st, (sh, I, J, F), cu, su) Q := by
  obtain ⟨h1, h2⟩ := zvin0 hj hk hN2
  exact gs_iastore hL hd ht (by rw [hN]; exact h1) (by rw [h2]; exact kk)
theorem gs_bastoreK {j v : Int32} (k N : Nat) (hL : 145 ≤ sh.length) (hd : gw_D i pc .bastore 1 b c) (ht : gw_T (sh, I, J, F) a = 13) (hN : gw_N (sh, I, J, F) a = N) (hN2 : N < 2 ^ 31) (hj : j = Int32.ofNat k) (hk : k < N) (kk : ∀ I2, I2 = gw_u I a k (vp_nar .boolean v) → gw_E V i (pc + 1, ls, st, (sh, I2, J, F), cu, su) Q) : gw_E V i (pc, ls, .int v :: .int j :: .ref a :: st, (sh, I, J, F), cu, su) Q := by
  obtain ⟨h1, h2⟩ := zvin0 hj hk hN2
  exact gs_bastore hL hd ht (by rw [hN]; exact h1) (by rw [h2]; exact kk)
end GK
/-- a value by another name -/
theorem gs_as {V : gw_V} {i pc : Nat} {ls : List (Nat × Value)} {st : List Value} {w : gw_W} {cu su : Nat} {Q : Option Value → gw_W → Prop} {x : Int32} (y : Int32) (h : x = y) (k : gw_E V i (pc, ls, .int y :: st, w, cu, su) Q) : gw_E V i (pc, ls, .int x :: st, w, cu, su) Q := h ▸ k
/-! the rows of arrays of arrays, and the mornings, by their numbers -/
theorem gs_row {n a : Nat} {I : Nat → Nat → Int32} {J : Nat → Nat → Int64} {p : Nat × Nat} (h : gs_s0.getD a (99, 0) = p) : gw_T (gS n I J) (a + 1) = p.1 ∧ gw_N (gS n I J) (a + 1) = p.2 := by
  have e : (gs_s n).getD (a + 1) (99, 0) = p := by unfold gs_s; rw [List.getD_cons_succ]; exact h
  exact ⟨congrArg Prod.fst e, congrArg Prod.snd e⟩
theorem gs_tab58 : ∀ g, g < 9 → gs_s0.getD (58 + g) (99, 0) = (12, 10) := by decide +kernel
theorem gs_tab68 : ∀ g, g < 9 → gs_s0.getD (68 + g) (99, 0) = (12, 6) := by decide +kernel
theorem gs_tab86 : ∀ g, g < 9 → gs_s0.getD (86 + g) (99, 0) = (12, 48) := by decide +kernel
theorem gs_tab96 : ∀ g, g < 9 → gs_s0.getD (96 + g) (99, 0) = (12, 48) := by decide +kernel
theorem gs_tab106 : ∀ g, g < 9 → gs_s0.getD (106 + g) (99, 0) = (12, 9) := by decide +kernel
theorem gs_tab116 : ∀ g, g < 9 → gs_s0.getD (116 + g) (99, 0) = (12, 9) := by decide +kernel
section GT
variable {n : Nat} {I : Nat → Nat → Int32} {J : Nat → Nat → Int64}
theorem gt59 {g : Nat} (h : g < 9) : gw_T (gS n I J) (59 + g) = 12 ∧ gw_N (gS n I J) (59 + g) = 10 := by rw [show 59 + g = (58 + g) + 1 by omega]; exact gs_row (gs_tab58 g h)
theorem gt69 {g : Nat} (h : g < 9) : gw_T (gS n I J) (69 + g) = 12 ∧ gw_N (gS n I J) (69 + g) = 6 := by rw [show 69 + g = (68 + g) + 1 by omega]; exact gs_row (gs_tab68 g h)
theorem gt87 {g : Nat} (h : g < 9) : gw_T (gS n I J) (87 + g) = 12 ∧ gw_N (gS n I J) (87 + g) = 48 := by rw [show 87 + g = (86 + g) + 1 by omega]; exact gs_row (gs_tab86 g h)
theorem gt97 {g : Nat} (h : g < 9) : gw_T (gS n I J) (97 + g) = 12 ∧ gw_N (gS n I J) (97 + g) = 48 := by rw [show 97 + g = (96 + g) + 1 by omega]; exact gs_row (gs_tab96 g h)
theorem gt107 {g : Nat} (h : g < 9) : gw_T (gS n I J) (107 + g) = 12 ∧ gw_N (gS n I J) (107 + g) = 9 := by rw [show 107 + g = (106 + g) + 1 by omega]; exact gs_row (gs_tab106 g h)
theorem gt117 {g : Nat} (h : g < 9) : gw_T (gS n I J) (117 + g) = 12 ∧ gw_N (gS n I J) (117 + g) = 9 := by rw [show 117 + g = (116 + g) + 1 by omega]; exact gs_row (gs_tab116 g h)
end GT
end
section
/-! ===== numbers ===== -/
theorem zlt {k m : Nat} (hk : k < 2 ^ 31) (hm : m < 2 ^ 31) : Int32.ofNat k < Int32.ofNat m ↔ k < m := by
  rw [Int32.lt_iff_toInt_lt, Int32.toInt_ofNat_of_lt hk, Int32.toInt_ofNat_of_lt hm]
  omega
theorem zle {k m : Nat} (hk : k < 2 ^ 31) (hm : m < 2 ^ 31) : Int32.ofNat k ≤ Int32.ofNat m ↔ k ≤ m := by
  rw [Int32.le_iff_toInt_le, Int32.toInt_ofNat_of_lt hk, Int32.toInt_ofNat_of_lt hm]
  omega
theorem zeq {k m : Nat} (hk : k < 2 ^ 31) (hm : m < 2 ^ 31) : Int32.ofNat k = Int32.ofNat m ↔ k = m := by
  constructor
  · intro h
    have := congrArg Int32.toInt h
    rw [Int32.toInt_ofNat_of_lt hk, Int32.toInt_ofNat_of_lt hm] at this
    omega
  · intro h; rw [h]
theorem znn {k : Nat} (hk : k < 2 ^ 31) : (Int32.ofNat k).toNatClampNeg = k := Int32.toNatClampNeg_ofNat_of_lt hk
theorem zsucc (k : Nat) : Int32.ofNat (k + 1) = Int32.ofNat k + 1 := inc_ofNat k
theorem z0 (k : Nat) (hk : k < 2 ^ 31) : (0 : Int32) ≤ Int32.ofNat k := (zle (k := 0) (by decide) hk).mpr (Nat.zero_le _)
theorem zvin {k n : Nat} (h : k < n) (hn : n < 2 ^ 31) : vp_in (Int32.ofNat k) n := vin (z0 k (by omega)) ((zlt (by omega) hn).mpr h) hn
/-- an int that isn't below 0 is a number -/
theorem znat {x : Int32} (h : 0 ≤ x) : Int32.ofNat x.toNatClampNeg = x ∧ x.toNatClampNeg < 2 ^ 31 := by
  have e1 := Int32.le_iff_toInt_le.mp h
  rw [Int32.toInt_zero] at e1
  have e2 : x.toInt < 2 ^ 31 := Int32.toInt_lt x
  have e3 : x.toNatClampNeg = x.toInt.toNat := rfl
  have hl : x.toNatClampNeg < 2 ^ 31 := by omega
  refine ⟨?_, hl⟩
  apply Int32.toInt_inj.mp
  rw [Int32.toInt_ofNat_of_lt hl]
  omega
theorem zle_l {x : Int32} (h : 0 ≤ x) {n : Nat} (hn : n < 2 ^ 31) : x ≤ Int32.ofNat n ↔ x.toNatClampNeg ≤ n := by
  have := znat h
  rw [← zle this.2 hn, this.1]
theorem zlt_l {x : Int32} (h : 0 ≤ x) {n : Nat} (hn : n < 2 ^ 31) : x < Int32.ofNat n ↔ x.toNatClampNeg < n := by
  have := znat h
  rw [← zlt this.2 hn, this.1]
theorem zcmp_lt (x y : Int64) : (lg_cmp x y < 0) ↔ x < y := by
  unfold lg_cmp
  simp only [gt_iff_lt]
  repeat' split
  · rename_i h; constructor
    · intro q; exact absurd q (by decide)
    · intro q; exact absurd (Int64.lt_trans h q) (Int64.lt_irrefl)
  · rename_i h1 h2; subst h2; constructor
    · intro q; exact absurd q (by decide)
    · intro q; exact absurd q Int64.lt_irrefl
  · rename_i h1 h2
    constructor
    · intro _
      have h3 : ¬ y.toInt < x.toInt := fun q => h1 (Int64.lt_iff_toInt_lt.mpr q)
      have h4 : x.toInt ≠ y.toInt := fun q => h2 (Int64.toInt_inj.mp q)
      exact Int64.lt_iff_toInt_lt.mpr (by omega)
    · intro _; decide
theorem zcmp_gt (x y : Int64) : (0 < lg_cmp x y) ↔ y < x := by
  unfold lg_cmp
  simp only [gt_iff_lt]
  repeat' split
  · rename_i h; exact ⟨fun _ => h, fun _ => by decide⟩
  · rename_i h1 h2; exact ⟨fun q => absurd q (by decide), fun q => absurd q h1⟩
  · rename_i h1 h2; exact ⟨fun q => absurd q (by decide), fun q => absurd q h1⟩
/-! ===== small methods that touch no cell ===== -/
def gz_b (b : Bool) : Int32 := match b with | true => 1 | false => 0
theorem gz_b_ne {b : Bool} : ¬ gz_b b = 0 ↔ b = true := by cases b <;> decide
theorem gz_b_eq {b : Bool} : gz_b b = 0 ↔ b = false := by cases b <;> decide
theorem gz_b_nar (b : Bool) : narrow .boolean (.int (gz_b b)) = .int (gz_b b) := by cases b <;> rfl
/-- an int's bit -/
def gz_in (s k : Int32) : Bool := decide ((s >>> (k &&& 31)) &&& 1 = 1)
/-- between two -/
def gz_rg (v a b : Int32) : Bool := decide (a ≤ v ∧ v ≤ b)
theorem gz_rg_t {v a b : Int32} : gz_rg v a b = true ↔ a ≤ v ∧ v ≤ b := by simp [gz_rg]
theorem gz_rg_f {v a b : Int32} : gz_rg v a b = false ↔ ¬ (a ≤ v ∧ v ≤ b) := by simp [gz_rg]
theorem c_in {V : gw_V} {w : gw_W} (s k : Int32) : gw_E V 96 (0, [(0, .int s), (1, .int k)], [], w, 0, 0) (fun v w' => v = some (.int (gz_b (gz_in s k))) ∧ w' = w) := by
  refine gs_iload_n (pc := 0) (gd gk_96 0 rfl) rfl ?_
  refine gs_iload_n (pc := 1) (gd gk_96 1 rfl) rfl ?_
  refine gs_ishr (pc := 2) (gd gk_96 2 rfl) ?_
  refine gs_iconst (pc := 3) (gd gk_96 3 rfl) (1) rfl ?_
  refine gs_iand (pc := 4) (gd gk_96 4 rfl) ?_
  refine gs_iconst (pc := 5) (gd gk_96 5 rfl) (1) rfl ?_
  refine gs_icmp_ne (pc := 6) (gd gk_96 6 rfl) (fun c6 => ?_) (fun c6 => ?_)
  · refine gs_iconst (pc := 13) (gd gk_96 9 rfl) (0) rfl ?_
    -- end 1: ireturn 0, pc 14, locals [(0, .int (s)), (1, .int (k))]
    exact gs_iret (pc := 14) (gd gk_96 10 rfl) rfl (rfl) (Nat.zero_le _) (Nat.zero_le _) (⟨by simp [gz_in, c6, gz_b], rfl⟩)
  · refine gs_iconst (pc := 9) (gd gk_96 7 rfl) (1) rfl ?_
    refine gs_goto (pc := 10) (gd gk_96 8 rfl) ?_
    -- end 2: ireturn 1, pc 14, locals [(0, .int (s)), (1, .int (k))]
    exact gs_iret (pc := 14) (gd gk_96 10 rfl) rfl (rfl) (Nat.zero_le _) (Nat.zero_le _) (⟨by simp [gz_in, c6, gz_b], rfl⟩)
theorem c_mhas {V : gw_V} {w : gw_W} (s k : Int32) : gw_E V 108 (0, [(0, .int s), (1, .int k)], [], w, 0, 0) (fun v w' => v = some (.int (gz_b (gz_in s k))) ∧ w' = w) := by
  refine gs_iload_n (pc := 0) (gd gk_108 0 rfl) rfl ?_
  refine gs_iload_n (pc := 1) (gd gk_108 1 rfl) rfl ?_
  refine gs_ishr (pc := 2) (gd gk_108 2 rfl) ?_
  refine gs_iconst (pc := 3) (gd gk_108 3 rfl) (1) rfl ?_
  refine gs_iand (pc := 4) (gd gk_108 4 rfl) ?_
  refine gs_iconst (pc := 5) (gd gk_108 5 rfl) (1) rfl ?_
  refine gs_icmp_ne (pc := 6) (gd gk_108 6 rfl) (fun c6 => ?_) (fun c6 => ?_)
  · refine gs_iconst (pc := 13) (gd gk_108 9 rfl) (0) rfl ?_
    -- end 1: ireturn 0, pc 14, locals [(0, .int (s)), (1, .int (k))]
    exact gs_iret (pc := 14) (gd gk_108 10 rfl) rfl (rfl) (Nat.zero_le _) (Nat.zero_le _) (⟨by simp [gz_in, c6, gz_b], rfl⟩)
  · refine gs_iconst (pc := 9) (gd gk_108 7 rfl) (1) rfl ?_
    refine gs_goto (pc := 10) (gd gk_108 8 rfl) ?_
    -- end 2: ireturn 1, pc 14, locals [(0, .int (s)), (1, .int (k))]
    exact gs_iret (pc := 14) (gd gk_108 10 rfl) rfl (rfl) (Nat.zero_le _) (Nat.zero_le _) (⟨by simp [gz_in, c6, gz_b], rfl⟩)
theorem c_cell {V : gw_V} {w : gw_W} (x : Int32) : gw_E V 93 (0, [(0, .int x)], [], w, 0, 0) (fun v w' => v = some (.int (gz_b (gz_rg x 0 9))) ∧ w' = w) := by
  refine gs_iload_n (pc := 0) (gd gk_93 0 rfl) rfl ?_
  refine gs_if_lt (pc := 1) (gd gk_93 1 rfl) (fun c1 => ?_) (fun c1 => ?_)
  · refine gs_iconst (pc := 14) (gd gk_93 7 rfl) (0) rfl ?_
    -- end 1: ireturn 0, pc 15, locals [(0, .int (x))]
    exact gs_iret (pc := 15) (gd gk_93 8 rfl) rfl (rfl) (Nat.zero_le _) (Nat.zero_le _) (⟨by rw [gz_rg_f.mpr (by grind)]; rfl, rfl⟩)
  · refine gs_iload_n (pc := 4) (gd gk_93 2 rfl) rfl ?_
    refine gs_bipush (pc := 5) (gd gk_93 3 rfl) (10) rfl ?_
    refine gs_icmp_ge (pc := 7) (gd gk_93 4 rfl) (fun c7 => ?_) (fun c7 => ?_)
    · refine gs_iconst (pc := 14) (gd gk_93 7 rfl) (0) rfl ?_
      -- end 2: ireturn 0, pc 15, locals [(0, .int (x))]
      exact gs_iret (pc := 15) (gd gk_93 8 rfl) rfl (rfl) (Nat.zero_le _) (Nat.zero_le _) (⟨by rw [gz_rg_f.mpr (by grind)]; rfl, rfl⟩)
    · refine gs_iconst (pc := 10) (gd gk_93 5 rfl) (1) rfl ?_
      refine gs_goto (pc := 11) (gd gk_93 6 rfl) ?_
      -- end 3: ireturn 1, pc 15, locals [(0, .int (x))]
      exact gs_iret (pc := 15) (gd gk_93 8 rfl) rfl (rfl) (Nat.zero_le _) (Nat.zero_le _) (⟨by rw [gz_rg_t.mpr (by grind)]; rfl, rfl⟩)
theorem c_plan {V : gw_V} {w : gw_W} (x : Int32) : gw_E V 94 (0, [(0, .int x)], [], w, 0, 0) (fun v w' => v = some (.int (gz_b (gz_rg x 0 255))) ∧ w' = w) := by
  refine gs_iload_n (pc := 0) (gd gk_94 0 rfl) rfl ?_
  refine gs_if_lt (pc := 1) (gd gk_94 1 rfl) (fun c1 => ?_) (fun c1 => ?_)
  · refine gs_iconst (pc := 15) (gd gk_94 7 rfl) (0) rfl ?_
    -- end 1: ireturn 0, pc 16, locals [(0, .int (x))]
    exact gs_iret (pc := 16) (gd gk_94 8 rfl) rfl (rfl) (Nat.zero_le _) (Nat.zero_le _) (⟨by rw [gz_rg_f.mpr (by grind)]; rfl, rfl⟩)
  · refine gs_iload_n (pc := 4) (gd gk_94 2 rfl) rfl ?_
    refine gs_sipush (pc := 5) (gd gk_94 3 rfl) (256) rfl ?_
    refine gs_icmp_ge (pc := 8) (gd gk_94 4 rfl) (fun c8 => ?_) (fun c8 => ?_)
    · refine gs_iconst (pc := 15) (gd gk_94 7 rfl) (0) rfl ?_
      -- end 2: ireturn 0, pc 16, locals [(0, .int (x))]
      exact gs_iret (pc := 16) (gd gk_94 8 rfl) rfl (rfl) (Nat.zero_le _) (Nat.zero_le _) (⟨by rw [gz_rg_f.mpr (by grind)]; rfl, rfl⟩)
    · refine gs_iconst (pc := 11) (gd gk_94 5 rfl) (1) rfl ?_
      refine gs_goto (pc := 12) (gd gk_94 6 rfl) ?_
      -- end 3: ireturn 1, pc 16, locals [(0, .int (x))]
      exact gs_iret (pc := 16) (gd gk_94 8 rfl) rfl (rfl) (Nat.zero_le _) (Nat.zero_le _) (⟨by rw [gz_rg_t.mpr (by grind)]; rfl, rfl⟩)
theorem c_tens {V : gw_V} {w : gw_W} (x : Int32) : gw_E V 95 (0, [(0, .int x)], [], w, 0, 0) (fun v w' => v = some (.int (gz_b (gz_rg x 0 10))) ∧ w' = w) := by
  refine gs_iload_n (pc := 0) (gd gk_95 0 rfl) rfl ?_
  refine gs_if_lt (pc := 1) (gd gk_95 1 rfl) (fun c1 => ?_) (fun c1 => ?_)
  · refine gs_iconst (pc := 14) (gd gk_95 7 rfl) (0) rfl ?_
    -- end 1: ireturn 0, pc 15, locals [(0, .int (x))]
    exact gs_iret (pc := 15) (gd gk_95 8 rfl) rfl (rfl) (Nat.zero_le _) (Nat.zero_le _) (⟨by rw [gz_rg_f.mpr (by grind)]; rfl, rfl⟩)
  · refine gs_iload_n (pc := 4) (gd gk_95 2 rfl) rfl ?_
    refine gs_bipush (pc := 5) (gd gk_95 3 rfl) (10) rfl ?_
    refine gs_icmp_gt (pc := 7) (gd gk_95 4 rfl) (fun c7 => ?_) (fun c7 => ?_)
    · refine gs_iconst (pc := 14) (gd gk_95 7 rfl) (0) rfl ?_
      -- end 2: ireturn 0, pc 15, locals [(0, .int (x))]
      exact gs_iret (pc := 15) (gd gk_95 8 rfl) rfl (rfl) (Nat.zero_le _) (Nat.zero_le _) (⟨by rw [gz_rg_f.mpr (by grind)]; rfl, rfl⟩)
    · refine gs_iconst (pc := 10) (gd gk_95 5 rfl) (1) rfl ?_
      refine gs_goto (pc := 11) (gd gk_95 6 rfl) ?_
      -- end 3: ireturn 1, pc 15, locals [(0, .int (x))]
      exact gs_iret (pc := 15) (gd gk_95 8 rfl) rfl (rfl) (Nat.zero_le _) (Nat.zero_le _) (⟨by rw [gz_rg_t.mpr (by grind)]; rfl, rfl⟩)
theorem c_mrg {V : gw_V} {w : gw_W} (x a b : Int32) : gw_E V 107 (0, [(0, .long x.toInt64), (2, .long a.toInt64), (4, .long b.toInt64)], [], w, 0, 0) (fun v w' => v = some (.int (gz_b (gz_rg x a b))) ∧ w' = w) := by
  refine gs_lload_n (pc := 0) (gd gk_107 0 rfl) rfl ?_
  refine gs_lload_n (pc := 1) (gd gk_107 1 rfl) rfl ?_
  refine gs_lcmp (pc := 2) (gd gk_107 2 rfl) ?_
  refine gs_if_lt (pc := 3) (gd gk_107 3 rfl) (fun c3 => ?_) (fun c3 => ?_)
  · refine gs_iconst (pc := 17) (gd gk_107 10 rfl) (0) rfl ?_
    -- end 1: ireturn 0, pc 18, locals [(0, .long (x.toInt64)), (2, .long (a.toInt64)), (4, .long (b.toInt64))]
    exact gs_iret (pc := 18) (gd gk_107 11 rfl) rfl (rfl) (Nat.zero_le _) (Nat.zero_le _) (⟨by rw [zcmp_lt, Int32.toInt64_lt] at c3; rw [gz_rg_f.mpr (by grind)]; rfl, rfl⟩)
  · refine gs_lload_n (pc := 6) (gd gk_107 4 rfl) rfl ?_
    refine gs_lload (pc := 7) (gd gk_107 5 rfl) rfl ?_
    refine gs_lcmp (pc := 9) (gd gk_107 6 rfl) ?_
    refine gs_if_gt (pc := 10) (gd gk_107 7 rfl) (fun c10 => ?_) (fun c10 => ?_)
    · refine gs_iconst (pc := 17) (gd gk_107 10 rfl) (0) rfl ?_
      -- end 2: ireturn 0, pc 18, locals [(0, .long (x.toInt64)), (2, .long (a.toInt64)), (4, .long (b.toInt64))]
      exact gs_iret (pc := 18) (gd gk_107 11 rfl) rfl (rfl) (Nat.zero_le _) (Nat.zero_le _) (⟨by rw [zcmp_gt, Int32.toInt64_lt] at c10; rw [gz_rg_f.mpr (by grind)]; rfl, rfl⟩)
    · refine gs_iconst (pc := 13) (gd gk_107 8 rfl) (1) rfl ?_
      refine gs_goto (pc := 14) (gd gk_107 9 rfl) ?_
      -- end 3: ireturn 1, pc 18, locals [(0, .long (x.toInt64)), (2, .long (a.toInt64)), (4, .long (b.toInt64))]
      exact gs_iret (pc := 18) (gd gk_107 11 rfl) rfl (rfl) (Nat.zero_le _) (Nat.zero_le _) (⟨by rw [zcmp_lt, Int32.toInt64_lt] at c3; rw [zcmp_gt, Int32.toInt64_lt] at c10; rw [gz_rg_t.mpr (by grind)]; rfl, rfl⟩)
/-- the number of ones among eight bits -/
def gz_pc (p : Nat) : Nat := (p.testBit 0).toNat + (p.testBit 1).toNat + (p.testBit 2).toNat + (p.testBit 3).toNat + (p.testBit 4).toNat + (p.testBit 5).toNat + (p.testBit 6).toNat + (p.testBit 7).toNat
def gz_on (s : Int32) : Nat → Int32
  | 0 => 0
  | k + 1 => gz_on s k + ((s >>> (Int32.ofNat k &&& 31)) &&& 1)
theorem gz_on_pc : ∀ p, p < 256 → gz_on (Int32.ofNat p) 8 = Int32.ofNat (gz_pc p) := by decide +kernel
theorem c_ones {V : gw_V} {w : gw_W} (s : Int32) : gw_E V 109 (0, [(0, .int s)], [], w, 0, 0) (fun v w' => v = some (.int (gz_on s 8)) ∧ w' = w) := by
  have key : ∀ (m k : Nat), m + k = 8 → ∀ x, x = gz_on s k → gw_E V 109 (4, [(0, .int s), (1, .int x), (2, .int (Int32.ofNat k))], [], w, 0, 0) (fun v w' => v = some (.int (gz_on s 8)) ∧ w' = w) := by
    intro m
    induction m with
    | zero =>
      intro k hk x hx
      obtain rfl : k = 8 := by omega
      refine gs_iload_n (pc := 4) (gd gk_109 4 rfl) rfl ?_
      refine gs_bipush (pc := 5) (gd gk_109 5 rfl) (8) rfl ?_
      refine gs_icmp_ge (pc := 7) (gd gk_109 6 rfl) (fun c7 => ?_) (fun c7 => ?_)
      · replace c7 : 8 ≤ 8 := (zle (k := 8) (m := 8) (by omega) (by omega)).mp c7
        refine gs_iload_n (pc := 24) (gd gk_109 17 rfl) rfl ?_
        -- end 1: ireturn x, pc 25, locals [(0, .int (s)), (1, .int (x)), (2, .int (Int32.ofNat 8))]
        exact gs_iret (pc := 25) (gd gk_109 18 rfl) rfl (rfl) (Nat.zero_le _) (Nat.zero_le _) (⟨by rw [hx], rfl⟩)
      · replace c7 : ¬ (8 ≤ 8) := fun q9 => c7 ((zle (k := 8) (m := 8) (by omega) (by omega)).mpr q9)
        refine gs_iload_n (pc := 10) (gd gk_109 7 rfl) rfl ?_
        refine gs_iload_n (pc := 11) (gd gk_109 8 rfl) rfl ?_
        refine gs_iload_n (pc := 12) (gd gk_109 9 rfl) rfl ?_
        refine gs_ishr (pc := 13) (gd gk_109 10 rfl) ?_
        refine gs_iconst (pc := 14) (gd gk_109 11 rfl) (1) rfl ?_
        refine gs_iand (pc := 15) (gd gk_109 12 rfl) ?_
        refine gs_iadd (pc := 16) (gd gk_109 13 rfl) ?_
        refine gs_istore_n (ls2 := fun v => [(0, .int (s)), (1, .int (v)), (2, .int (Int32.ofNat 8))]) (pc := 17) (gd gk_109 14 rfl) (by rw [gL_109]; decide) (fun _ => rfl) (fun v1_1 hv1_1 => ?_)
        refine gs_iinc (ls2 := fun v => [(0, .int (s)), (1, .int (v1_1)), (2, .int (v))]) (pc := 18) (gd gk_109 15 rfl) rfl (by rw [gL_109]; decide) (fun _ => rfl) (1) rfl (fun v2_1 hv2_1 => ?_)
        obtain rfl : v2_1 = Int32.ofNat (8 + 1) := hv2_1.trans (by first | rfl | (simp only [Int32.ofNat_add, Int32.ofNat_mul]; rfl) | (simp only [Int32.ofNat_add, Int32.ofNat_mul]))
        refine gs_goto (pc := 21) (gd gk_109 16 rfl) ?_
        -- end 2: stop, pc 4, locals [(0, .int (s)), (1, .int (v1_1)), (2, .int (Int32.ofNat (8 + 1)))]
        exact absurd (Nat.le_refl 8) c7
    | succ m ih =>
      intro k hk x hx
      refine gs_iload_n (pc := 4) (gd gk_109 4 rfl) rfl ?_
      refine gs_bipush (pc := 5) (gd gk_109 5 rfl) (8) rfl ?_
      refine gs_icmp_ge (pc := 7) (gd gk_109 6 rfl) (fun c7 => ?_) (fun c7 => ?_)
      · replace c7 : 8 ≤ k := (zle (k := 8) (m := k) (by omega) (by omega)).mp c7
        refine gs_iload_n (pc := 24) (gd gk_109 17 rfl) rfl ?_
        -- end 1: ireturn x, pc 25, locals [(0, .int (s)), (1, .int (x)), (2, .int (Int32.ofNat k))]
        exact absurd c7 (by omega)
      · replace c7 : ¬ (8 ≤ k) := fun q9 => c7 ((zle (k := 8) (m := k) (by omega) (by omega)).mpr q9)
        refine gs_iload_n (pc := 10) (gd gk_109 7 rfl) rfl ?_
        refine gs_iload_n (pc := 11) (gd gk_109 8 rfl) rfl ?_
        refine gs_iload_n (pc := 12) (gd gk_109 9 rfl) rfl ?_
        refine gs_ishr (pc := 13) (gd gk_109 10 rfl) ?_
        refine gs_iconst (pc := 14) (gd gk_109 11 rfl) (1) rfl ?_
        refine gs_iand (pc := 15) (gd gk_109 12 rfl) ?_
        refine gs_iadd (pc := 16) (gd gk_109 13 rfl) ?_
        refine gs_istore_n (ls2 := fun v => [(0, .int (s)), (1, .int (v)), (2, .int (Int32.ofNat k))]) (pc := 17) (gd gk_109 14 rfl) (by rw [gL_109]; decide) (fun _ => rfl) (fun v1_1 hv1_1 => ?_)
        refine gs_iinc (ls2 := fun v => [(0, .int (s)), (1, .int (v1_1)), (2, .int (v))]) (pc := 18) (gd gk_109 15 rfl) rfl (by rw [gL_109]; decide) (fun _ => rfl) (1) rfl (fun v2_1 hv2_1 => ?_)
        obtain rfl : v2_1 = Int32.ofNat (k + 1) := hv2_1.trans (by first | rfl | (simp only [Int32.ofNat_add, Int32.ofNat_mul]; rfl) | (simp only [Int32.ofNat_add, Int32.ofNat_mul]))
        refine gs_goto (pc := 21) (gd gk_109 16 rfl) ?_
        -- end 2: stop, pc 4, locals [(0, .int (s)), (1, .int (v1_1)), (2, .int (Int32.ofNat (k + 1)))]
        exact ih (k + 1) (by omega) _ (by rw [hv1_1, hx]; rfl)
  refine gs_iconst (pc := 0) (gd gk_109 0 rfl) (0) rfl ?_
  refine gs_istore_n (ls2 := fun v => [(0, .int (s)), (1, .int (v))]) (pc := 1) (gd gk_109 1 rfl) (by rw [gL_109]; decide) (fun _ => rfl) (fun v1_1 hv1_1 => ?_)
  obtain rfl : v1_1 = Int32.ofNat 0 := hv1_1.trans (by first | rfl | (simp only [Int32.ofNat_add, Int32.ofNat_mul]; rfl) | (simp only [Int32.ofNat_add, Int32.ofNat_mul]))
  refine gs_iconst (pc := 2) (gd gk_109 2 rfl) (0) rfl ?_
  refine gs_istore_n (ls2 := fun v => [(0, .int (s)), (1, .int (Int32.ofNat 0)), (2, .int (v))]) (pc := 3) (gd gk_109 3 rfl) (by rw [gL_109]; decide) (fun _ => rfl) (fun v2_1 hv2_1 => ?_)
  obtain rfl : v2_1 = Int32.ofNat 0 := hv2_1.trans (by first | rfl | (simp only [Int32.ofNat_add, Int32.ofNat_mul]; rfl) | (simp only [Int32.ofNat_add, Int32.ofNat_mul]))
  -- end 1: stop, pc 4, locals [(0, .int (s)), (1, .int (Int32.ofNat 0)), (2, .int (Int32.ofNat 0))]
  exact key 8 0 rfl _ rfl
def gz_bc (x : Int32) : Int32 :=
  let a := x - ((x.toUInt32 >>> ((1 : Int32).toUInt32 &&& Int32.toUInt32 31)).toInt32 &&& 1431655765)
  let b := (a &&& 858993459) + ((a.toUInt32 >>> ((2 : Int32).toUInt32 &&& Int32.toUInt32 31)).toInt32 &&& 858993459)
  let c := (b + (b.toUInt32 >>> ((4 : Int32).toUInt32 &&& Int32.toUInt32 31)).toInt32) &&& 252645135
  let d := c + (c.toUInt32 >>> ((8 : Int32).toUInt32 &&& Int32.toUInt32 31)).toInt32
  let e := d + (d.toUInt32 >>> ((16 : Int32).toUInt32 &&& Int32.toUInt32 31)).toInt32
  e &&& 63
theorem gz_bc_pc : ∀ p, p < 256 → gz_bc (Int32.ofNat p) = Int32.ofNat (gz_pc p) := by decide +kernel
theorem c_bits {V : gw_V} {w : gw_W} (p : Nat) (hp : p < 256) : gw_E V 163 (0, [(0, .int (Int32.ofNat p))], [], w, 0, 0) (fun v w' => v = some (.int (Int32.ofNat (gz_pc p))) ∧ w' = w) := by
  refine gs_iload_n (pc := 0) (gd gk_163 0 rfl) rfl ?_
  refine gs_iload_n (pc := 1) (gd gk_163 1 rfl) rfl ?_
  refine gs_iconst (pc := 2) (gd gk_163 2 rfl) (1) rfl ?_
  refine gs_iushr (pc := 3) (gd gk_163 3 rfl) ?_
  refine gs_ldc_w (pc := 4) (gd gk_163 4 rfl) (1431655765) rfl ?_
  refine gs_iand (pc := 7) (gd gk_163 5 rfl) ?_
  refine gs_isub (pc := 8) (gd gk_163 6 rfl) ?_
  refine gs_istore_n (ls2 := fun v => [(0, .int (v))]) (pc := 9) (gd gk_163 7 rfl) (by rw [gL_163]; decide) (fun _ => rfl) (fun v0_1 hv0_1 => ?_)
  refine gs_iload_n (pc := 10) (gd gk_163 8 rfl) rfl ?_
  refine gs_ldc_w (pc := 11) (gd gk_163 9 rfl) (858993459) rfl ?_
  refine gs_iand (pc := 14) (gd gk_163 10 rfl) ?_
  refine gs_iload_n (pc := 15) (gd gk_163 11 rfl) rfl ?_
  refine gs_iconst (pc := 16) (gd gk_163 12 rfl) (2) rfl ?_
  refine gs_iushr (pc := 17) (gd gk_163 13 rfl) ?_
  refine gs_ldc_w (pc := 18) (gd gk_163 14 rfl) (858993459) rfl ?_
  refine gs_iand (pc := 21) (gd gk_163 15 rfl) ?_
  refine gs_iadd (pc := 22) (gd gk_163 16 rfl) ?_
  refine gs_istore_n (ls2 := fun v => [(0, .int (v))]) (pc := 23) (gd gk_163 17 rfl) (by rw [gL_163]; decide) (fun _ => rfl) (fun v0_2 hv0_2 => ?_)
  refine gs_iload_n (pc := 24) (gd gk_163 18 rfl) rfl ?_
  refine gs_iload_n (pc := 25) (gd gk_163 19 rfl) rfl ?_
  refine gs_iconst (pc := 26) (gd gk_163 20 rfl) (4) rfl ?_
  refine gs_iushr (pc := 27) (gd gk_163 21 rfl) ?_
  refine gs_iadd (pc := 28) (gd gk_163 22 rfl) ?_
  refine gs_ldc_w (pc := 29) (gd gk_163 23 rfl) (252645135) rfl ?_
  refine gs_iand (pc := 32) (gd gk_163 24 rfl) ?_
  refine gs_istore_n (ls2 := fun v => [(0, .int (v))]) (pc := 33) (gd gk_163 25 rfl) (by rw [gL_163]; decide) (fun _ => rfl) (fun v0_3 hv0_3 => ?_)
  refine gs_iload_n (pc := 34) (gd gk_163 26 rfl) rfl ?_
  refine gs_iload_n (pc := 35) (gd gk_163 27 rfl) rfl ?_
  refine gs_bipush (pc := 36) (gd gk_163 28 rfl) (8) rfl ?_
  refine gs_iushr (pc := 38) (gd gk_163 29 rfl) ?_
  refine gs_iadd (pc := 39) (gd gk_163 30 rfl) ?_
  refine gs_istore_n (ls2 := fun v => [(0, .int (v))]) (pc := 40) (gd gk_163 31 rfl) (by rw [gL_163]; decide) (fun _ => rfl) (fun v0_4 hv0_4 => ?_)
  refine gs_iload_n (pc := 41) (gd gk_163 32 rfl) rfl ?_
  refine gs_iload_n (pc := 42) (gd gk_163 33 rfl) rfl ?_
  refine gs_bipush (pc := 43) (gd gk_163 34 rfl) (16) rfl ?_
  refine gs_iushr (pc := 45) (gd gk_163 35 rfl) ?_
  refine gs_iadd (pc := 46) (gd gk_163 36 rfl) ?_
  refine gs_istore_n (ls2 := fun v => [(0, .int (v))]) (pc := 47) (gd gk_163 37 rfl) (by rw [gL_163]; decide) (fun _ => rfl) (fun v0_5 hv0_5 => ?_)
  refine gs_iload_n (pc := 48) (gd gk_163 38 rfl) rfl ?_
  refine gs_bipush (pc := 49) (gd gk_163 39 rfl) (63) rfl ?_
  refine gs_iand (pc := 51) (gd gk_163 40 rfl) ?_
  -- end 1: ireturn (v0_5 &&& 63), pc 52, locals [(0, .int (v0_5))]
  exact gs_iret (pc := 52) (gd gk_163 41 rfl) rfl (rfl) (Nat.zero_le _) (Nat.zero_le _) (⟨by rw [← gz_bc_pc p hp]; subst hv0_5 hv0_4 hv0_3 hv0_2 hv0_1; rfl, rfl⟩)
/-- fewer hours, of like ones the smaller -/
def gz_sm (p q : Nat) : Bool := decide (gz_pc p < gz_pc q ∨ gz_pc p = gz_pc q ∧ p < q)
theorem gz_pc_le (p : Nat) : gz_pc p ≤ 8 := by
  have : ∀ b : Bool, b.toNat ≤ 1 := by decide
  unfold gz_pc
  have := this (p.testBit 0); have := ‹∀ b : Bool, b.toNat ≤ 1› (p.testBit 1); have := ‹∀ b : Bool, b.toNat ≤ 1› (p.testBit 2); have := ‹∀ b : Bool, b.toNat ≤ 1› (p.testBit 3); have := ‹∀ b : Bool, b.toNat ≤ 1› (p.testBit 4); have := ‹∀ b : Bool, b.toNat ≤ 1› (p.testBit 5); have := ‹∀ b : Bool, b.toNat ≤ 1› (p.testBit 6); have := ‹∀ b : Bool, b.toNat ≤ 1› (p.testBit 7)
  omega
theorem zsub_gt {a b : Nat} (ha : a ≤ 8) (hb : b ≤ 8) : ((0 : Int32) < Int32.ofNat b - Int32.ofNat a ↔ a < b) ∧ (¬ Int32.ofNat b - Int32.ofNat a = 0 ↔ a ≠ b) := by
  have h : ∀ a, a < 9 → ∀ b, b < 9 → (((0 : Int32) < Int32.ofNat b - Int32.ofNat a ↔ a < b) ∧ (¬ Int32.ofNat b - Int32.ofNat a = 0 ↔ a ≠ b)) := by decide +kernel
  exact h a (by omega) b (by omega)
theorem c_small {V : gw_V} {w : gw_W} (p q : Nat) (hp : p < 256) (hq : q < 256) : gw_E V 7 (0, [(0, .int (Int32.ofNat p)), (1, .int (Int32.ofNat q))], [], w, 0, 0) (fun v w' => v = some (.int (gz_b (gz_sm p q))) ∧ w' = w) := by
  have hd := zsub_gt (gz_pc_le p) (gz_pc_le q)
  refine gs_iload_n (pc := 0) (gd gk_7 0 rfl) rfl ?_
  refine gs_callS (as := [.int (Int32.ofNat q)]) (pc := 1) (gd gk_7 1 rfl) (by decide) rfl rfl (Nat.le_of_ble_eq_true rfl) gq_7_163 (Nat.le_of_ble_eq_true rfl) (c_bits q hq) (fun r_1 w_1 q_1 => ?_)
  obtain ⟨rfl, rfl⟩ := q_1
  refine gs_iload_n (pc := 4) (gd gk_7 2 rfl) rfl ?_
  refine gs_callS (as := [.int (Int32.ofNat p)]) (pc := 5) (gd gk_7 3 rfl) (by decide) rfl rfl (Nat.le_of_ble_eq_true rfl) gq_7_163 (Nat.le_of_ble_eq_true rfl) (c_bits p hp) (fun r_5 w_5 q_5 => ?_)
  obtain ⟨rfl, rfl⟩ := q_5
  refine gs_isub (pc := 8) (gd gk_7 4 rfl) ?_
  refine gs_istore_n (ls2 := fun v => [(0, .int (Int32.ofNat p)), (1, .int (Int32.ofNat q)), (2, .int (v))]) (pc := 9) (gd gk_7 5 rfl) (by rw [gL_7]; decide) (fun _ => rfl) (fun v2_1 hv2_1 => ?_)
  refine gs_iload_n (pc := 10) (gd gk_7 6 rfl) rfl ?_
  refine gs_if_gt (pc := 11) (gd gk_7 7 rfl) (fun c11 => ?_) (fun c11 => ?_)
  · refine gs_iconst (pc := 23) (gd gk_7 13 rfl) (1) rfl ?_
    refine gs_goto (pc := 24) (gd gk_7 14 rfl) ?_
    -- end 1: ireturn 1, pc 28, locals [(0, .int (Int32.ofNat p)), (1, .int (Int32.ofNat q)), (2, .int (v2_1))]
    rw [hv2_1] at c11
    have := hd.1.mp c11
    exact gs_iret (pc := 28) (gd gk_7 16 rfl) rfl (rfl) (Nat.zero_le _) (Nat.zero_le _) (⟨by rw [show gz_sm p q = true by simp [gz_sm]; omega]; rfl, rfl⟩)
  · refine gs_iload_n (pc := 14) (gd gk_7 8 rfl) rfl ?_
    refine gs_if_ne (pc := 15) (gd gk_7 9 rfl) (fun c15 => ?_) (fun c15 => ?_)
    · refine gs_iconst (pc := 27) (gd gk_7 15 rfl) (0) rfl ?_
      -- end 2: ireturn 0, pc 28, locals [(0, .int (Int32.ofNat p)), (1, .int (Int32.ofNat q)), (2, .int (v2_1))]
      rw [hv2_1] at c11 c15
      have h1 : ¬ gz_pc p < gz_pc q := fun q9 => c11 (hd.1.mpr q9); have h2 := hd.2.mp c15
      exact gs_iret (pc := 28) (gd gk_7 16 rfl) rfl (rfl) (Nat.zero_le _) (Nat.zero_le _) (⟨by rw [show gz_sm p q = false by simp [gz_sm]; omega]; rfl, rfl⟩)
    · refine gs_iload_n (pc := 18) (gd gk_7 10 rfl) rfl ?_
      refine gs_iload_n (pc := 19) (gd gk_7 11 rfl) rfl ?_
      refine gs_icmp_ge (pc := 20) (gd gk_7 12 rfl) (fun c20 => ?_) (fun c20 => ?_)
      · replace c20 : q ≤ p := (zle (k := q) (m := p) (by omega) (by omega)).mp c20
        refine gs_iconst (pc := 27) (gd gk_7 15 rfl) (0) rfl ?_
        -- end 3: ireturn 0, pc 28, locals [(0, .int (Int32.ofNat p)), (1, .int (Int32.ofNat q)), (2, .int (v2_1))]
        rw [hv2_1] at c11 c15
        have h1 : ¬ gz_pc p < gz_pc q := fun q9 => c11 (hd.1.mpr q9); have h2 : ¬ gz_pc p ≠ gz_pc q := fun q9 => (hd.2.mpr q9) c15
        exact gs_iret (pc := 28) (gd gk_7 16 rfl) rfl (rfl) (Nat.zero_le _) (Nat.zero_le _) (⟨by rw [show gz_sm p q = false by simp [gz_sm]; omega]; rfl, rfl⟩)
      · replace c20 : ¬ (q ≤ p) := fun q9 => c20 ((zle (k := q) (m := p) (by omega) (by omega)).mpr q9)
        refine gs_iconst (pc := 23) (gd gk_7 13 rfl) (1) rfl ?_
        refine gs_goto (pc := 24) (gd gk_7 14 rfl) ?_
        -- end 4: ireturn 1, pc 28, locals [(0, .int (Int32.ofNat p)), (1, .int (Int32.ofNat q)), (2, .int (v2_1))]
        rw [hv2_1] at c11 c15
        have h1 : ¬ gz_pc p < gz_pc q := fun q9 => c11 (hd.1.mpr q9); have h2 : ¬ gz_pc p ≠ gz_pc q := fun q9 => (hd.2.mpr q9) c15
        exact gs_iret (pc := 28) (gd gk_7 16 rfl) rfl (rfl) (Nat.zero_le _) (Nat.zero_le _) (⟨by rw [show gz_sm p q = true by simp [gz_sm]; omega]; rfl, rfl⟩)
end
section
/-! ===== a street in numbers, and the class's Street and Walk ===== -/
/-- the class's street: 0 baker, strength, cost, winds, noses; 1 winds; 2 cells; 3 wants; 4 prices; 5 contracts -/
def gz_S (I : Nat → Nat → Int32) : Nat → Nat → Int32 := fun a k => if a ≤ 5 then I (6 + a) k else 0
theorem gz_S_eq {I I1 : Nat → Nat → Int32} (h : ∀ p, 6 ≤ p → p ≤ 11 → I1 p = I p) : gz_S I1 = gz_S I := by
  funext a k
  unfold gz_S
  by_cases q : a ≤ 5
  · rw [if_pos q, if_pos q, h (6 + a) (by omega) (by omega)]
  · rw [if_neg q, if_neg q]
def gq_ok (σ : Nat → Nat → Int32) (W N : Nat) : Prop := σ 0 3 = Int32.ofNat W ∧ W ≤ 8 ∧ σ 0 4 = Int32.ofNat N ∧ N ≤ 6 ∧ (0 ≤ σ 0 0 ∧ σ 0 0 ≤ 9) ∧ (1 ≤ σ 0 1 ∧ σ 0 1 ≤ 9) ∧ (0 ≤ σ 0 2 ∧ σ 0 2 ≤ 9) ∧ (∀ h, h < W → σ 1 h = -1 ∨ σ 1 h = 0 ∨ σ 1 h = 1) ∧ ∀ n, n < N → (0 ≤ σ 2 n ∧ σ 2 n ≤ 9) ∧ (1 ≤ σ 3 n ∧ σ 3 n ≤ 9) ∧ (0 ≤ σ 4 n ∧ σ 4 n ≤ 9) ∧ (0 ≤ σ 5 n ∧ σ 5 n ≤ 3)
def gq_has (σ : Nat → Nat → Int32) (sm : Nat → Int32) (n : Nat) : Bool := decide (σ 3 n ≤ sm (σ 2 n).toNatClampNeg)
def gq_due (σ : Nat → Nat → Int32) (n : Nat) (h e : Bool) : Int32 := if σ 5 n = 0 then (if h then σ 4 n else 0) else if σ 5 n = 1 then (if h then 0 else -σ 4 n) else if σ 5 n = 2 then (if h && e then σ 4 n else 0) else (if h then -σ 4 n else 0)
def gq_who (σ : Nat → Nat → Int32) (sm : Nat → Int32) : Nat → Int32
  | 0 => 0
  | k + 1 => if gq_has σ sm k then gq_who σ sm k ||| (1 <<< (Int32.ofNat k &&& 31)) else gq_who σ sm k
theorem c_due {V : gw_V} {n : Nat} {I : Nat → Nat → Int32} {J : Nat → Nat → Int64} (k : Nat) (hk : k < 6) (bh be : Bool) (hc : 0 ≤ I 11 k ∧ I 11 k ≤ 3) : gw_E V 36 (0, [(0, .ref 6), (1, .int (Int32.ofNat k)), (2, .int (gz_b bh)), (3, .int (gz_b be))], [], gS n I J, 0, 0) (fun v w' => v = some (.int (gq_due (gz_S I) k bh be)) ∧ w' = gS n I J) := by
  refine gs_aload_n (pc := 0) (gd gk_36 0 rfl) rfl ?_
  refine gs_getR (r := 11) (pc := 1) (gd gk_36 1 rfl) rfl rfl rfl (by decide) ?_
  refine gs_iload_n (pc := 4) (gd gk_36 2 rfl) rfl ?_
  refine gs_ialoadK (k) (6) (pc := 5) (gd gk_36 3 rfl) (Or.inl rfl) rfl (by decide) (by first | rfl | (simp only [Int32.ofNat_add, Int32.ofNat_mul]; rfl) | (simp only [Int32.ofNat_add, Int32.ofNat_mul])) (by omega) ?_
  -- end 1: switch, pc 6, locals [(0, .ref (6)), (1, .int (Int32.ofNat k)), (2, .int (gz_b bh)), (3, .int (gz_b be))]
  skip
  have h4 : I 11 k = 0 ∨ I 11 k = 1 ∨ I 11 k = 2 ∨ I 11 k = 3 := by grind
  rcases h4 with e | e | e | e
  · rw [e]
    refine gs_tblIn (off := 26) (pc := 6) 32 (gd gk_36 4 rfl) (by decide) (by decide) rfl (by decide) ?_
    refine gs_iload_n (pc := 32) (gd gk_36 5 rfl) rfl ?_
    refine gs_if_eq (pc := 33) (gd gk_36 6 rfl) (fun c33 => ?_) (fun c33 => ?_)
    · refine gs_iconst (pc := 45) (gd gk_36 12 rfl) (0) rfl ?_
      -- end 1: ireturn 0, pc 46, locals [(0, .ref (6)), (1, .int (Int32.ofNat k)), (2, .int (gz_b bh)), (3, .int (gz_b be))]
      exact gs_iret (pc := 46) (gd gk_36 13 rfl) rfl (rfl) (Nat.zero_le _) (Nat.zero_le _) (⟨by simp [gq_due, gz_S, e, gz_b_eq.mp c33], rfl⟩)
    · refine gs_aload_n (pc := 36) (gd gk_36 7 rfl) rfl ?_
      refine gs_getR (r := 10) (pc := 37) (gd gk_36 8 rfl) rfl rfl rfl (by decide) ?_
      refine gs_iload_n (pc := 40) (gd gk_36 9 rfl) rfl ?_
      refine gs_ialoadK (k) (6) (pc := 41) (gd gk_36 10 rfl) (Or.inl rfl) rfl (by decide) (by first | rfl | (simp only [Int32.ofNat_add, Int32.ofNat_mul]; rfl) | (simp only [Int32.ofNat_add, Int32.ofNat_mul])) (by omega) ?_
      refine gs_goto (pc := 42) (gd gk_36 11 rfl) ?_
      -- end 2: ireturn (I 10 k), pc 46, locals [(0, .ref (6)), (1, .int (Int32.ofNat k)), (2, .int (gz_b bh)), (3, .int (gz_b be))]
      exact gs_iret (pc := 46) (gd gk_36 13 rfl) rfl (rfl) (Nat.zero_le _) (Nat.zero_le _) (⟨by simp [gq_due, gz_S, e, gz_b_ne.mp c33], rfl⟩)
  · rw [e]
    refine gs_tblIn (off := 41) (pc := 6) 47 (gd gk_36 4 rfl) (by decide) (by decide) rfl (by decide) ?_
    refine gs_iload_n (pc := 47) (gd gk_36 14 rfl) rfl ?_
    refine gs_if_eq (pc := 48) (gd gk_36 15 rfl) (fun c48 => ?_) (fun c48 => ?_)
    · refine gs_aload_n (pc := 55) (gd gk_36 18 rfl) rfl ?_
      refine gs_getR (r := 10) (pc := 56) (gd gk_36 19 rfl) rfl rfl rfl (by decide) ?_
      refine gs_iload_n (pc := 59) (gd gk_36 20 rfl) rfl ?_
      refine gs_ialoadK (k) (6) (pc := 60) (gd gk_36 21 rfl) (Or.inl rfl) rfl (by decide) (by first | rfl | (simp only [Int32.ofNat_add, Int32.ofNat_mul]; rfl) | (simp only [Int32.ofNat_add, Int32.ofNat_mul])) (by omega) ?_
      refine gs_ineg (pc := 61) (gd gk_36 22 rfl) ?_
      -- end 1: ireturn (-(I 10 k)), pc 62, locals [(0, .ref (6)), (1, .int (Int32.ofNat k)), (2, .int (gz_b bh)), (3, .int (gz_b be))]
      exact gs_iret (pc := 62) (gd gk_36 23 rfl) rfl (rfl) (Nat.zero_le _) (Nat.zero_le _) (⟨by simp [gq_due, gz_S, e, gz_b_eq.mp c48], rfl⟩)
    · refine gs_iconst (pc := 51) (gd gk_36 16 rfl) (0) rfl ?_
      refine gs_goto (pc := 52) (gd gk_36 17 rfl) ?_
      -- end 2: ireturn 0, pc 62, locals [(0, .ref (6)), (1, .int (Int32.ofNat k)), (2, .int (gz_b bh)), (3, .int (gz_b be))]
      exact gs_iret (pc := 62) (gd gk_36 23 rfl) rfl (rfl) (Nat.zero_le _) (Nat.zero_le _) (⟨by simp [gq_due, gz_S, e, gz_b_ne.mp c48], rfl⟩)
  · rw [e]
    refine gs_tblIn (off := 57) (pc := 6) 63 (gd gk_36 4 rfl) (by decide) (by decide) rfl (by decide) ?_
    refine gs_iload_n (pc := 63) (gd gk_36 24 rfl) rfl ?_
    refine gs_if_eq (pc := 64) (gd gk_36 25 rfl) (fun c64 => ?_) (fun c64 => ?_)
    · refine gs_iconst (pc := 80) (gd gk_36 33 rfl) (0) rfl ?_
      -- end 1: ireturn 0, pc 81, locals [(0, .ref (6)), (1, .int (Int32.ofNat k)), (2, .int (gz_b bh)), (3, .int (gz_b be))]
      exact gs_iret (pc := 81) (gd gk_36 34 rfl) rfl (rfl) (Nat.zero_le _) (Nat.zero_le _) (⟨by simp [gq_due, gz_S, e, gz_b_eq.mp c64], rfl⟩)
    · refine gs_iload_n (pc := 67) (gd gk_36 26 rfl) rfl ?_
      refine gs_if_eq (pc := 68) (gd gk_36 27 rfl) (fun c68 => ?_) (fun c68 => ?_)
      · refine gs_iconst (pc := 80) (gd gk_36 33 rfl) (0) rfl ?_
        -- end 2: ireturn 0, pc 81, locals [(0, .ref (6)), (1, .int (Int32.ofNat k)), (2, .int (gz_b bh)), (3, .int (gz_b be))]
        exact gs_iret (pc := 81) (gd gk_36 34 rfl) rfl (rfl) (Nat.zero_le _) (Nat.zero_le _) (⟨by simp [gq_due, gz_S, e, gz_b_ne.mp c64, gz_b_eq.mp c68], rfl⟩)
      · refine gs_aload_n (pc := 71) (gd gk_36 28 rfl) rfl ?_
        refine gs_getR (r := 10) (pc := 72) (gd gk_36 29 rfl) rfl rfl rfl (by decide) ?_
        refine gs_iload_n (pc := 75) (gd gk_36 30 rfl) rfl ?_
        refine gs_ialoadK (k) (6) (pc := 76) (gd gk_36 31 rfl) (Or.inl rfl) rfl (by decide) (by first | rfl | (simp only [Int32.ofNat_add, Int32.ofNat_mul]; rfl) | (simp only [Int32.ofNat_add, Int32.ofNat_mul])) (by omega) ?_
        refine gs_goto (pc := 77) (gd gk_36 32 rfl) ?_
        -- end 3: ireturn (I 10 k), pc 81, locals [(0, .ref (6)), (1, .int (Int32.ofNat k)), (2, .int (gz_b bh)), (3, .int (gz_b be))]
        exact gs_iret (pc := 81) (gd gk_36 34 rfl) rfl (rfl) (Nat.zero_le _) (Nat.zero_le _) (⟨by simp [gq_due, gz_S, e, gz_b_ne.mp c64, gz_b_ne.mp c68], rfl⟩)
  · rw [e]
    refine gs_tblOut (pc := 6) 82 (gd gk_36 4 rfl) (by decide) (by decide) ?_
    refine gs_iload_n (pc := 82) (gd gk_36 35 rfl) rfl ?_
    refine gs_if_eq (pc := 83) (gd gk_36 36 rfl) (fun c83 => ?_) (fun c83 => ?_)
    · refine gs_iconst (pc := 96) (gd gk_36 43 rfl) (0) rfl ?_
      -- end 1: ireturn 0, pc 97, locals [(0, .ref (6)), (1, .int (Int32.ofNat k)), (2, .int (gz_b bh)), (3, .int (gz_b be))]
      exact gs_iret (pc := 97) (gd gk_36 44 rfl) rfl (rfl) (Nat.zero_le _) (Nat.zero_le _) (⟨by simp [gq_due, gz_S, e, gz_b_eq.mp c83], rfl⟩)
    · refine gs_aload_n (pc := 86) (gd gk_36 37 rfl) rfl ?_
      refine gs_getR (r := 10) (pc := 87) (gd gk_36 38 rfl) rfl rfl rfl (by decide) ?_
      refine gs_iload_n (pc := 90) (gd gk_36 39 rfl) rfl ?_
      refine gs_ialoadK (k) (6) (pc := 91) (gd gk_36 40 rfl) (Or.inl rfl) rfl (by decide) (by first | rfl | (simp only [Int32.ofNat_add, Int32.ofNat_mul]; rfl) | (simp only [Int32.ofNat_add, Int32.ofNat_mul])) (by omega) ?_
      refine gs_ineg (pc := 92) (gd gk_36 41 rfl) ?_
      refine gs_goto (pc := 93) (gd gk_36 42 rfl) ?_
      -- end 2: ireturn (-(I 10 k)), pc 97, locals [(0, .ref (6)), (1, .int (Int32.ofNat k)), (2, .int (gz_b bh)), (3, .int (gz_b be))]
      exact gs_iret (pc := 97) (gd gk_36 44 rfl) rfl (rfl) (Nat.zero_le _) (Nat.zero_le _) (⟨by simp [gq_due, gz_S, e, gz_b_ne.mp c83], rfl⟩)
theorem c_nose {V : gw_V} {n : Nat} {I : Nat → Nat → Int32} {J : Nat → Nat → Int64} (x : Int32) (h6 : 0 ≤ I 6 4 ∧ I 6 4 ≤ 6) : gw_E V 34 (0, [(0, .ref 6), (1, .int x)], [], gS n I J, 0, 0) (fun v w' => v = some (.int (gz_b (gz_rg x 0 (I 6 4 - 1)))) ∧ w' = gS n I J) := by
  refine gs_iload_n (pc := 0) (gd gk_34 0 rfl) rfl ?_
  refine gs_if_lt (pc := 1) (gd gk_34 1 rfl) (fun c1 => ?_) (fun c1 => ?_)
  · refine gs_iconst (pc := 16) (gd gk_34 8 rfl) (0) rfl ?_
    -- end 1: ireturn 0, pc 17, locals [(0, .ref (6)), (1, .int (x))]
    exact gs_iret (pc := 17) (gd gk_34 9 rfl) rfl (rfl) (Nat.zero_le _) (Nat.zero_le _) (⟨by rw [gz_rg_f.mpr (by grind)]; rfl, rfl⟩)
  · refine gs_iload_n (pc := 4) (gd gk_34 2 rfl) rfl ?_
    refine gs_aload_n (pc := 5) (gd gk_34 3 rfl) rfl ?_
    refine gs_getI (pc := 6) (gd gk_34 4 rfl) rfl rfl ?_
    refine gs_icmp_ge (pc := 9) (gd gk_34 5 rfl) (fun c9 => ?_) (fun c9 => ?_)
    · refine gs_iconst (pc := 16) (gd gk_34 8 rfl) (0) rfl ?_
      -- end 2: ireturn 0, pc 17, locals [(0, .ref (6)), (1, .int (x))]
      exact gs_iret (pc := 17) (gd gk_34 9 rfl) rfl (rfl) (Nat.zero_le _) (Nat.zero_le _) (⟨by rw [gz_rg_f.mpr (by grind)]; rfl, rfl⟩)
    · refine gs_iconst (pc := 12) (gd gk_34 6 rfl) (1) rfl ?_
      refine gs_goto (pc := 13) (gd gk_34 7 rfl) ?_
      -- end 3: ireturn 1, pc 17, locals [(0, .ref (6)), (1, .int (x))]
      exact gs_iret (pc := 17) (gd gk_34 9 rfl) rfl (rfl) (Nat.zero_le _) (Nat.zero_le _) (⟨by rw [gz_rg_t.mpr (by grind)]; rfl, rfl⟩)
theorem c_who {V : gw_V} {n W N : Nat} {I : Nat → Nat → Int32} {J : Nat → Nat → Int64} (a : Nat) (ht : gw_T (gS n I J) a = 12) (hz : gw_N (gS n I J) a = 10) (hok : gq_ok (gz_S I) W N) : gw_E V 35 (0, [(0, .ref 6), (1, .ref a)], [], gS n I J, 0, 0) (fun v w' => v = some (.int (gq_who (gz_S I) (I a) N)) ∧ w' = gS n I J) := by
  obtain ⟨-, -, hN, hN6, -, -, -, -, hns⟩ := hok
  have hN : I 6 4 = Int32.ofNat N := hN
  have key : ∀ (m k : Nat), m + k = N → ∀ x, x = gq_who (gz_S I) (I a) k → gw_E V 35 (4, [(0, .ref 6), (1, .ref a), (2, .int x), (3, .int (Int32.ofNat k))], [], gS n I J, 0, 0) (fun v w' => v = some (.int (gq_who (gz_S I) (I a) N)) ∧ w' = gS n I J) := by
    intro m
    induction m with
    | zero =>
      intro k hk x hx
      obtain rfl : k = N := by omega
      refine gs_iload_n (pc := 4) (gd gk_35 4 rfl) rfl ?_
      refine gs_aload_n (pc := 5) (gd gk_35 5 rfl) rfl ?_
      refine gs_getI (pc := 6) (gd gk_35 6 rfl) rfl rfl ?_
      refine gs_as (Int32.ofNat k) (hN) ?_
      refine gs_icmp_ge (pc := 9) (gd gk_35 7 rfl) (fun c9 => ?_) (fun c9 => ?_)
      · replace c9 : k ≤ k := (zle (k := k) (m := k) (by omega) (by omega)).mp c9
        refine gs_iload_n (pc := 41) (gd gk_35 27 rfl) rfl ?_
        -- end 1: ireturn x, pc 42, locals [(0, .ref (6)), (1, .ref (a)), (2, .int (x)), (3, .int (Int32.ofNat k))]
        exact gs_iret (pc := 42) (gd gk_35 28 rfl) rfl (rfl) (Nat.zero_le _) (Nat.zero_le _) (⟨by rw [hx], rfl⟩)
      · replace c9 : ¬ (k ≤ k) := fun q9 => c9 ((zle (k := k) (m := k) (by omega) (by omega)).mpr q9)
        -- end 2: stop, pc 12, locals [(0, .ref (6)), (1, .ref (a)), (2, .int (x)), (3, .int (Int32.ofNat k))]
        exact absurd (Nat.le_refl k) c9
    | succ m ih =>
      intro k hk x hx
      refine gs_iload_n (pc := 4) (gd gk_35 4 rfl) rfl ?_
      refine gs_aload_n (pc := 5) (gd gk_35 5 rfl) rfl ?_
      refine gs_getI (pc := 6) (gd gk_35 6 rfl) rfl rfl ?_
      refine gs_as (Int32.ofNat N) (hN) ?_
      refine gs_icmp_ge (pc := 9) (gd gk_35 7 rfl) (fun c9 => ?_) (fun c9 => ?_)
      · replace c9 : N ≤ k := (zle (k := N) (m := k) (by omega) (by omega)).mp c9
        refine gs_iload_n (pc := 41) (gd gk_35 27 rfl) rfl ?_
        -- end 1: ireturn x, pc 42, locals [(0, .ref (6)), (1, .ref (a)), (2, .int (x)), (3, .int (Int32.ofNat k))]
        exact absurd c9 (by omega)
      · replace c9 : ¬ (N ≤ k) := fun q9 => c9 ((zle (k := N) (m := k) (by omega) (by omega)).mpr q9)
        obtain ⟨⟨h20, h21⟩, -, -, -⟩ := hns k (by omega)
        have h20 : 0 ≤ I 8 k := h20
        have h21 : I 8 k ≤ 9 := h21
        refine gs_aload_n (pc := 12) (gd gk_35 8 rfl) rfl ?_
        refine gs_aload_n (pc := 13) (gd gk_35 9 rfl) rfl ?_
        refine gs_getR (r := 8) (pc := 14) (gd gk_35 10 rfl) rfl rfl rfl (by decide) ?_
        refine gs_iload_n (pc := 17) (gd gk_35 11 rfl) rfl ?_
        refine gs_ialoadK (k) (6) (pc := 18) (gd gk_35 12 rfl) (Or.inl rfl) rfl (by decide) (by first | rfl | (simp only [Int32.ofNat_add, Int32.ofNat_mul]; rfl) | (simp only [Int32.ofNat_add, Int32.ofNat_mul])) (by omega) ?_
        refine gs_iaload (pc := 19) (gd gk_35 13 rfl) (Or.inl ht) (by rw [hz]; exact vin (n := 10) h20 (by grind) (by decide)) ?_
        refine gs_aload_n (pc := 20) (gd gk_35 14 rfl) rfl ?_
        refine gs_getR (r := 9) (pc := 21) (gd gk_35 15 rfl) rfl rfl rfl (by decide) ?_
        refine gs_iload_n (pc := 24) (gd gk_35 16 rfl) rfl ?_
        refine gs_ialoadK (k) (6) (pc := 25) (gd gk_35 17 rfl) (Or.inl rfl) rfl (by decide) (by first | rfl | (simp only [Int32.ofNat_add, Int32.ofNat_mul]; rfl) | (simp only [Int32.ofNat_add, Int32.ofNat_mul])) (by omega) ?_
        refine gs_icmp_lt (pc := 26) (gd gk_35 18 rfl) (fun c26 => ?_) (fun c26 => ?_)
        · refine gs_iinc (ls2 := fun v => [(0, .ref (6)), (1, .ref (a)), (2, .int (x)), (3, .int (v))]) (pc := 35) (gd gk_35 25 rfl) rfl (by rw [gL_35]; decide) (fun _ => rfl) (1) rfl (fun v3_1 hv3_1 => ?_)
          obtain rfl : v3_1 = Int32.ofNat (k + 1) := hv3_1.trans (by first | rfl | (simp only [Int32.ofNat_add, Int32.ofNat_mul]; rfl) | (simp only [Int32.ofNat_add, Int32.ofNat_mul]))
          refine gs_goto (pc := 38) (gd gk_35 26 rfl) ?_
          -- end 2: stop, pc 4, locals [(0, .ref (6)), (1, .ref (a)), (2, .int (x)), (3, .int (Int32.ofNat (k + 1)))]
          have h9 : gq_has (gz_S I) (I a) k = false := decide_eq_false (fun q9 => Int32.not_lt.mpr q9 c26)
          exact ih (k + 1) (by omega) _ (by rw [hx]; simp [gq_who, h9])
        · refine gs_iload_n (pc := 29) (gd gk_35 19 rfl) rfl ?_
          refine gs_iconst (pc := 30) (gd gk_35 20 rfl) (1) rfl ?_
          refine gs_iload_n (pc := 31) (gd gk_35 21 rfl) rfl ?_
          refine gs_ishl (pc := 32) (gd gk_35 22 rfl) ?_
          refine gs_ior (pc := 33) (gd gk_35 23 rfl) ?_
          refine gs_istore_n (ls2 := fun v => [(0, .ref (6)), (1, .ref (a)), (2, .int (v)), (3, .int (Int32.ofNat k))]) (pc := 34) (gd gk_35 24 rfl) (by rw [gL_35]; decide) (fun _ => rfl) (fun v2_1 hv2_1 => ?_)
          refine gs_iinc (ls2 := fun v => [(0, .ref (6)), (1, .ref (a)), (2, .int (v2_1)), (3, .int (v))]) (pc := 35) (gd gk_35 25 rfl) rfl (by rw [gL_35]; decide) (fun _ => rfl) (1) rfl (fun v3_2 hv3_2 => ?_)
          obtain rfl : v3_2 = Int32.ofNat (k + 1) := hv3_2.trans (by first | rfl | (simp only [Int32.ofNat_add, Int32.ofNat_mul]; rfl) | (simp only [Int32.ofNat_add, Int32.ofNat_mul]))
          refine gs_goto (pc := 38) (gd gk_35 26 rfl) ?_
          -- end 3: stop, pc 4, locals [(0, .ref (6)), (1, .ref (a)), (2, .int (v2_1)), (3, .int (Int32.ofNat (k + 1)))]
          have h9 : gq_has (gz_S I) (I a) k = true := decide_eq_true (Int32.not_lt.mp c26)
          exact ih (k + 1) (by omega) _ (by rw [hv2_1, hx]; simp [gq_who, h9])
  refine gs_iconst (pc := 0) (gd gk_35 0 rfl) (0) rfl ?_
  refine gs_istore_n (ls2 := fun v => [(0, .ref (6)), (1, .ref (a)), (2, .int (v))]) (pc := 1) (gd gk_35 1 rfl) (by rw [gL_35]; decide) (fun _ => rfl) (fun v2_1 hv2_1 => ?_)
  obtain rfl : v2_1 = Int32.ofNat 0 := hv2_1.trans (by first | rfl | (simp only [Int32.ofNat_add, Int32.ofNat_mul]; rfl) | (simp only [Int32.ofNat_add, Int32.ofNat_mul]))
  refine gs_iconst (pc := 2) (gd gk_35 2 rfl) (0) rfl ?_
  refine gs_istore_n (ls2 := fun v => [(0, .ref (6)), (1, .ref (a)), (2, .int (Int32.ofNat 0)), (3, .int (v))]) (pc := 3) (gd gk_35 3 rfl) (by rw [gL_35]; decide) (fun _ => rfl) (fun v3_1 hv3_1 => ?_)
  obtain rfl : v3_1 = Int32.ofNat 0 := hv3_1.trans (by first | rfl | (simp only [Int32.ofNat_add, Int32.ofNat_mul]; rfl) | (simp only [Int32.ofNat_add, Int32.ofNat_mul]))
  -- end 1: stop, pc 4, locals [(0, .ref (6)), (1, .ref (a)), (2, .int (Int32.ofNat 0)), (3, .int (Int32.ofNat 0))]
  exact key N 0 (by omega) _ rfl
/-- the smell of a cell, a wind on -/
def gq_dr (sm : Nat → Int32) (wd : Int32) (c : Nat) : Int32 := if 0 ≤ Int32.ofNat c - wd ∧ Int32.ofNat c - wd < 10 then (if 0 < sm (Int32.ofNat c - wd).toNatClampNeg then sm (Int32.ofNat c - wd).toNatClampNeg - 1 else 0) else 0
theorem c_drift {V : gw_V} {n : Nat} {I : Nat → Nat → Int32} {J : Nat → Nat → Int64} (a b : Nat) (wd : Int32) (hab : a ≠ b) (ha : gw_T (gS n I J) a = 12) (hza : gw_N (gS n I J) a = 10) (hb : gw_T (gS n I J) b = 12) (hzb : gw_N (gS n I J) b = 10) : gw_E V 55 (0, [(0, .ref a), (1, .ref b), (2, .int wd)], [], gS n I J, 0, 0) (fun v w' => v = none ∧ ∃ I2, w' = gS n I2 J ∧ (∀ c, c < 10 → I2 b c = gq_dr (I a) wd c) ∧ ∀ p, p ≠ b → I2 p = I p) := by
  have key : ∀ (m k : Nat), m + k = 10 → ∀ I1, (∀ c, c < k → I1 b c = gq_dr (I a) wd c) → (∀ p, p ≠ b → I1 p = I p) → gw_E V 55 (2, [(0, .ref a), (1, .ref b), (2, .int wd), (3, .int (Int32.ofNat k))], [], gS n I1 J, 0, 0) (fun v w' => v = none ∧ ∃ I2, w' = gS n I2 J ∧ (∀ c, c < 10 → I2 b c = gq_dr (I a) wd c) ∧ ∀ p, p ≠ b → I2 p = I p) := by
    intro m
    induction m with
    | zero =>
      intro k hk I1 h1 h2
      obtain rfl : k = 10 := by omega
      refine gs_iload_n (pc := 2) (gd gk_55 2 rfl) rfl ?_
      refine gs_bipush (pc := 3) (gd gk_55 3 rfl) (10) rfl ?_
      refine gs_icmp_ge (pc := 5) (gd gk_55 4 rfl) (fun c5 => ?_) (fun c5 => ?_)
      · replace c5 : 10 ≤ 10 := (zle (k := 10) (m := 10) (by omega) (by omega)).mp c5
        -- end 1: return, pc 57, locals [(0, .ref (a)), (1, .ref (b)), (2, .int (wd)), (3, .int (Int32.ofNat 10))]
        exact gs_ret (pc := 57) (gd gk_55 32 rfl) rfl (Nat.zero_le _) (Nat.zero_le _) (⟨rfl, I1, rfl, h1, h2⟩)
      · replace c5 : ¬ (10 ≤ 10) := fun q9 => c5 ((zle (k := 10) (m := 10) (by omega) (by omega)).mpr q9)
        -- end 2: stop, pc 8, locals [(0, .ref (a)), (1, .ref (b)), (2, .int (wd)), (3, .int (Int32.ofNat 10))]
        exact absurd (Nat.le_refl 10) c5
    | succ m ih =>
      intro k hk I1 h1 h2
      have hI : I1 a = I a := h2 a hab
      have step : ∀ I2 x, I2 = gw_u I1 b k x → x = gq_dr (I a) wd k → gw_E V 55 (2, [(0, .ref a), (1, .ref b), (2, .int wd), (3, .int (Int32.ofNat (k + 1)))], [], gS n I2 J, 0, 0) (fun v w' => v = none ∧ ∃ I2, w' = gS n I2 J ∧ (∀ c, c < 10 → I2 b c = gq_dr (I a) wd c) ∧ ∀ p, p ≠ b → I2 p = I p) := by
        intro I2 x e1 e2
        refine ih (k + 1) (by omega) I2 (fun c hc => ?_) (fun p hp => ?_)
        · rw [e1, gw_u_s]
          unfold upd
          by_cases q : c = k
          · rw [if_pos q, q, e2]
          · rw [if_neg q, h1 c (by omega)]
        · rw [e1, gw_u_o hp, h2 p hp]
      refine gs_iload_n (pc := 2) (gd gk_55 2 rfl) rfl ?_
      refine gs_bipush (pc := 3) (gd gk_55 3 rfl) (10) rfl ?_
      refine gs_icmp_ge (pc := 5) (gd gk_55 4 rfl) (fun c5 => ?_) (fun c5 => ?_)
      · replace c5 : 10 ≤ k := (zle (k := 10) (m := k) (by omega) (by omega)).mp c5
        -- end 1: return, pc 57, locals [(0, .ref (a)), (1, .ref (b)), (2, .int (wd)), (3, .int (Int32.ofNat k))]
        exact absurd c5 (by omega)
      · replace c5 : ¬ (10 ≤ k) := fun q9 => c5 ((zle (k := 10) (m := k) (by omega) (by omega)).mpr q9)
        refine gs_iload_n (pc := 8) (gd gk_55 5 rfl) rfl ?_
        refine gs_iload_n (pc := 9) (gd gk_55 6 rfl) rfl ?_
        refine gs_isub (pc := 10) (gd gk_55 7 rfl) ?_
        refine gs_istore (ls2 := fun v => [(0, .ref (a)), (1, .ref (b)), (2, .int (wd)), (3, .int (Int32.ofNat k)), (4, .int (v))]) (pc := 11) (gd gk_55 8 rfl) (by rw [gL_55]; decide) (fun _ => rfl) (fun v4_1 hv4_1 => ?_)
        refine gs_iload (pc := 13) (gd gk_55 9 rfl) rfl ?_
        refine gs_if_lt (pc := 15) (gd gk_55 10 rfl) (fun c15 => ?_) (fun c15 => ?_)
        · refine gs_iconst (pc := 32) (gd gk_55 18 rfl) (0) rfl ?_
          refine gs_istore (ls2 := fun v => [(0, .ref (a)), (1, .ref (b)), (2, .int (wd)), (3, .int (Int32.ofNat k)), (4, .int (v4_1)), (5, .int (v))]) (pc := 33) (gd gk_55 19 rfl) (by rw [gL_55]; decide) (fun _ => rfl) (fun v5_1 hv5_1 => ?_)
          obtain rfl : v5_1 = Int32.ofNat 0 := hv5_1.trans (by first | rfl | (simp only [Int32.ofNat_add, Int32.ofNat_mul]; rfl) | (simp only [Int32.ofNat_add, Int32.ofNat_mul]))
          refine gs_aload_n (pc := 35) (gd gk_55 20 rfl) rfl ?_
          refine gs_iload_n (pc := 36) (gd gk_55 21 rfl) rfl ?_
          refine gs_iload (pc := 37) (gd gk_55 22 rfl) rfl ?_
          refine gs_if_le (pc := 39) (gd gk_55 23 rfl) (fun c39 => ?_) (fun c39 => ?_)
          · replace c39 : 0 ≤ 0 := (zle (k := 0) (m := 0) (by omega) (by omega)).mp c39
            refine gs_iconst (pc := 49) (gd gk_55 28 rfl) (0) rfl ?_
            refine gs_iastoreK (k) (10) gs_sl (pc := 50) (gd gk_55 29 rfl) hb hzb (by decide) (by first | rfl | (simp only [Int32.ofNat_add, Int32.ofNat_mul]; rfl) | (simp only [Int32.ofNat_add, Int32.ofNat_mul])) (by omega) (fun I_1 hI_1 => ?_)
            refine gs_iinc (ls2 := fun v => [(0, .ref (a)), (1, .ref (b)), (2, .int (wd)), (3, .int (v)), (4, .int (v4_1)), (5, .int (Int32.ofNat 0))]) (pc := 51) (gd gk_55 30 rfl) rfl (by rw [gL_55]; decide) (fun _ => rfl) (1) rfl (fun v3_1 hv3_1 => ?_)
            obtain rfl : v3_1 = Int32.ofNat (k + 1) := hv3_1.trans (by first | rfl | (simp only [Int32.ofNat_add, Int32.ofNat_mul]; rfl) | (simp only [Int32.ofNat_add, Int32.ofNat_mul]))
            refine gs_goto (pc := 54) (gd gk_55 31 rfl) ?_
            -- end 2: stop, pc 2, locals [(0, .ref (a)), (1, .ref (b)), (2, .int (wd)), (3, .int (Int32.ofNat (k + 1))), (4, .int (v4_1)), (5, .int (Int32.ofNat 0))]
            refine gs_drop [0, 1, 2, 3] rfl (step _ _ hI_1 ?_)
            unfold gq_dr; rw [← hv4_1, if_neg (by grind)]
          · replace c39 : ¬ (0 ≤ 0) := fun q9 => c39 ((zle (k := 0) (m := 0) (by omega) (by omega)).mpr q9)
            refine gs_iload (pc := 42) (gd gk_55 24 rfl) rfl ?_
            refine gs_iconst (pc := 44) (gd gk_55 25 rfl) (1) rfl ?_
            refine gs_isub (pc := 45) (gd gk_55 26 rfl) ?_
            refine gs_goto (pc := 46) (gd gk_55 27 rfl) ?_
            refine gs_iastoreK (k) (10) gs_sl (pc := 50) (gd gk_55 29 rfl) hb hzb (by decide) (by first | rfl | (simp only [Int32.ofNat_add, Int32.ofNat_mul]; rfl) | (simp only [Int32.ofNat_add, Int32.ofNat_mul])) (by omega) (fun I_2 hI_2 => ?_)
            refine gs_iinc (ls2 := fun v => [(0, .ref (a)), (1, .ref (b)), (2, .int (wd)), (3, .int (v)), (4, .int (v4_1)), (5, .int (Int32.ofNat 0))]) (pc := 51) (gd gk_55 30 rfl) rfl (by rw [gL_55]; decide) (fun _ => rfl) (1) rfl (fun v3_2 hv3_2 => ?_)
            obtain rfl : v3_2 = Int32.ofNat (k + 1) := hv3_2.trans (by first | rfl | (simp only [Int32.ofNat_add, Int32.ofNat_mul]; rfl) | (simp only [Int32.ofNat_add, Int32.ofNat_mul]))
            refine gs_goto (pc := 54) (gd gk_55 31 rfl) ?_
            -- end 3: stop, pc 2, locals [(0, .ref (a)), (1, .ref (b)), (2, .int (wd)), (3, .int (Int32.ofNat (k + 1))), (4, .int (v4_1)), (5, .int (Int32.ofNat 0))]
            exact absurd (Nat.le_refl 0) c39
        · refine gs_iload (pc := 18) (gd gk_55 11 rfl) rfl ?_
          refine gs_bipush (pc := 20) (gd gk_55 12 rfl) (10) rfl ?_
          refine gs_icmp_ge (pc := 22) (gd gk_55 13 rfl) (fun c22 => ?_) (fun c22 => ?_)
          · refine gs_iconst (pc := 32) (gd gk_55 18 rfl) (0) rfl ?_
            refine gs_istore (ls2 := fun v => [(0, .ref (a)), (1, .ref (b)), (2, .int (wd)), (3, .int (Int32.ofNat k)), (4, .int (v4_1)), (5, .int (v))]) (pc := 33) (gd gk_55 19 rfl) (by rw [gL_55]; decide) (fun _ => rfl) (fun v5_2 hv5_2 => ?_)
            obtain rfl : v5_2 = Int32.ofNat 0 := hv5_2.trans (by first | rfl | (simp only [Int32.ofNat_add, Int32.ofNat_mul]; rfl) | (simp only [Int32.ofNat_add, Int32.ofNat_mul]))
            refine gs_aload_n (pc := 35) (gd gk_55 20 rfl) rfl ?_
            refine gs_iload_n (pc := 36) (gd gk_55 21 rfl) rfl ?_
            refine gs_iload (pc := 37) (gd gk_55 22 rfl) rfl ?_
            refine gs_if_le (pc := 39) (gd gk_55 23 rfl) (fun c39 => ?_) (fun c39 => ?_)
            · replace c39 : 0 ≤ 0 := (zle (k := 0) (m := 0) (by omega) (by omega)).mp c39
              refine gs_iconst (pc := 49) (gd gk_55 28 rfl) (0) rfl ?_
              refine gs_iastoreK (k) (10) gs_sl (pc := 50) (gd gk_55 29 rfl) hb hzb (by decide) (by first | rfl | (simp only [Int32.ofNat_add, Int32.ofNat_mul]; rfl) | (simp only [Int32.ofNat_add, Int32.ofNat_mul])) (by omega) (fun I_3 hI_3 => ?_)
              refine gs_iinc (ls2 := fun v => [(0, .ref (a)), (1, .ref (b)), (2, .int (wd)), (3, .int (v)), (4, .int (v4_1)), (5, .int (Int32.ofNat 0))]) (pc := 51) (gd gk_55 30 rfl) rfl (by rw [gL_55]; decide) (fun _ => rfl) (1) rfl (fun v3_3 hv3_3 => ?_)
              obtain rfl : v3_3 = Int32.ofNat (k + 1) := hv3_3.trans (by first | rfl | (simp only [Int32.ofNat_add, Int32.ofNat_mul]; rfl) | (simp only [Int32.ofNat_add, Int32.ofNat_mul]))
              refine gs_goto (pc := 54) (gd gk_55 31 rfl) ?_
              -- end 4: stop, pc 2, locals [(0, .ref (a)), (1, .ref (b)), (2, .int (wd)), (3, .int (Int32.ofNat (k + 1))), (4, .int (v4_1)), (5, .int (Int32.ofNat 0))]
              refine gs_drop [0, 1, 2, 3] rfl (step _ _ hI_3 ?_)
              unfold gq_dr; rw [← hv4_1, if_neg (by grind)]
            · replace c39 : ¬ (0 ≤ 0) := fun q9 => c39 ((zle (k := 0) (m := 0) (by omega) (by omega)).mpr q9)
              refine gs_iload (pc := 42) (gd gk_55 24 rfl) rfl ?_
              refine gs_iconst (pc := 44) (gd gk_55 25 rfl) (1) rfl ?_
              refine gs_isub (pc := 45) (gd gk_55 26 rfl) ?_
              refine gs_goto (pc := 46) (gd gk_55 27 rfl) ?_
              refine gs_iastoreK (k) (10) gs_sl (pc := 50) (gd gk_55 29 rfl) hb hzb (by decide) (by first | rfl | (simp only [Int32.ofNat_add, Int32.ofNat_mul]; rfl) | (simp only [Int32.ofNat_add, Int32.ofNat_mul])) (by omega) (fun I_4 hI_4 => ?_)
              refine gs_iinc (ls2 := fun v => [(0, .ref (a)), (1, .ref (b)), (2, .int (wd)), (3, .int (v)), (4, .int (v4_1)), (5, .int (Int32.ofNat 0))]) (pc := 51) (gd gk_55 30 rfl) rfl (by rw [gL_55]; decide) (fun _ => rfl) (1) rfl (fun v3_4 hv3_4 => ?_)
              obtain rfl : v3_4 = Int32.ofNat (k + 1) := hv3_4.trans (by first | rfl | (simp only [Int32.ofNat_add, Int32.ofNat_mul]; rfl) | (simp only [Int32.ofNat_add, Int32.ofNat_mul]))
              refine gs_goto (pc := 54) (gd gk_55 31 rfl) ?_
              -- end 5: stop, pc 2, locals [(0, .ref (a)), (1, .ref (b)), (2, .int (wd)), (3, .int (Int32.ofNat (k + 1))), (4, .int (v4_1)), (5, .int (Int32.ofNat 0))]
              exact absurd (Nat.le_refl 0) c39
          · refine gs_aload_n (pc := 25) (gd gk_55 14 rfl) rfl ?_
            refine gs_iload (pc := 26) (gd gk_55 15 rfl) rfl ?_
            refine gs_iaload (pc := 28) (gd gk_55 16 rfl) (Or.inl ha) (by show vp_in _ (gw_N (gS n I J) a); rw [hza]; exact vin (n := 10) (by grind) (by grind) (by decide)) ?_
            refine gs_goto (pc := 29) (gd gk_55 17 rfl) ?_
            refine gs_istore (ls2 := fun v => [(0, .ref (a)), (1, .ref (b)), (2, .int (wd)), (3, .int (Int32.ofNat k)), (4, .int (v4_1)), (5, .int (v))]) (pc := 33) (gd gk_55 19 rfl) (by rw [gL_55]; decide) (fun _ => rfl) (fun v5_3 hv5_3 => ?_)
            refine gs_aload_n (pc := 35) (gd gk_55 20 rfl) rfl ?_
            refine gs_iload_n (pc := 36) (gd gk_55 21 rfl) rfl ?_
            refine gs_iload (pc := 37) (gd gk_55 22 rfl) rfl ?_
            refine gs_if_le (pc := 39) (gd gk_55 23 rfl) (fun c39 => ?_) (fun c39 => ?_)
            · refine gs_iconst (pc := 49) (gd gk_55 28 rfl) (0) rfl ?_
              refine gs_iastoreK (k) (10) gs_sl (pc := 50) (gd gk_55 29 rfl) hb hzb (by decide) (by first | rfl | (simp only [Int32.ofNat_add, Int32.ofNat_mul]; rfl) | (simp only [Int32.ofNat_add, Int32.ofNat_mul])) (by omega) (fun I_5 hI_5 => ?_)
              refine gs_iinc (ls2 := fun v => [(0, .ref (a)), (1, .ref (b)), (2, .int (wd)), (3, .int (v)), (4, .int (v4_1)), (5, .int (v5_3))]) (pc := 51) (gd gk_55 30 rfl) rfl (by rw [gL_55]; decide) (fun _ => rfl) (1) rfl (fun v3_5 hv3_5 => ?_)
              obtain rfl : v3_5 = Int32.ofNat (k + 1) := hv3_5.trans (by first | rfl | (simp only [Int32.ofNat_add, Int32.ofNat_mul]; rfl) | (simp only [Int32.ofNat_add, Int32.ofNat_mul]))
              refine gs_goto (pc := 54) (gd gk_55 31 rfl) ?_
              -- end 6: stop, pc 2, locals [(0, .ref (a)), (1, .ref (b)), (2, .int (wd)), (3, .int (Int32.ofNat (k + 1))), (4, .int (v4_1)), (5, .int (v5_3))]
              refine gs_drop [0, 1, 2, 3] rfl (step _ _ hI_5 ?_)
              unfold gq_dr; rw [← hv4_1, if_pos (by grind), ← hI, ← hv5_3, if_neg (by grind)]
            · refine gs_iload (pc := 42) (gd gk_55 24 rfl) rfl ?_
              refine gs_iconst (pc := 44) (gd gk_55 25 rfl) (1) rfl ?_
              refine gs_isub (pc := 45) (gd gk_55 26 rfl) ?_
              refine gs_goto (pc := 46) (gd gk_55 27 rfl) ?_
              refine gs_iastoreK (k) (10) gs_sl (pc := 50) (gd gk_55 29 rfl) hb hzb (by decide) (by first | rfl | (simp only [Int32.ofNat_add, Int32.ofNat_mul]; rfl) | (simp only [Int32.ofNat_add, Int32.ofNat_mul])) (by omega) (fun I_6 hI_6 => ?_)
              refine gs_iinc (ls2 := fun v => [(0, .ref (a)), (1, .ref (b)), (2, .int (wd)), (3, .int (v)), (4, .int (v4_1)), (5, .int (v5_3))]) (pc := 51) (gd gk_55 30 rfl) rfl (by rw [gL_55]; decide) (fun _ => rfl) (1) rfl (fun v3_6 hv3_6 => ?_)
              obtain rfl : v3_6 = Int32.ofNat (k + 1) := hv3_6.trans (by first | rfl | (simp only [Int32.ofNat_add, Int32.ofNat_mul]; rfl) | (simp only [Int32.ofNat_add, Int32.ofNat_mul]))
              refine gs_goto (pc := 54) (gd gk_55 31 rfl) ?_
              -- end 7: stop, pc 2, locals [(0, .ref (a)), (1, .ref (b)), (2, .int (wd)), (3, .int (Int32.ofNat (k + 1))), (4, .int (v4_1)), (5, .int (v5_3))]
              refine gs_drop [0, 1, 2, 3] rfl (step _ _ hI_6 ?_)
              unfold gq_dr; rw [← hv4_1, if_pos (by grind), ← hI, ← hv5_3, if_pos (by grind)]
  refine gs_iconst (pc := 0) (gd gk_55 0 rfl) (0) rfl ?_
  refine gs_istore_n (ls2 := fun v => [(0, .ref (a)), (1, .ref (b)), (2, .int (wd)), (3, .int (v))]) (pc := 1) (gd gk_55 1 rfl) (by rw [gL_55]; decide) (fun _ => rfl) (fun v3_1 hv3_1 => ?_)
  obtain rfl : v3_1 = Int32.ofNat 0 := hv3_1.trans (by first | rfl | (simp only [Int32.ofNat_add, Int32.ofNat_mul]; rfl) | (simp only [Int32.ofNat_add, Int32.ofNat_mul]))
  -- end 1: stop, pc 2, locals [(0, .ref (a)), (1, .ref (b)), (2, .int (wd)), (3, .int (Int32.ofNat 0))]
  exact key 10 0 rfl I (fun c hc => absurd hc (Nat.not_lt_zero _)) (fun _ _ => rfl)
end
section
/-! ===== bits ===== -/
theorem gz_sh : ∀ j, j < 32 → (Int32.ofNat j &&& 31).toBitVec.smod 32 = BitVec.ofNat 32 j := by decide +kernel
theorem gz_bit (s : Int32) {j : Nat} (hj : j < 32) : gz_in s (Int32.ofNat j) = s.toBitVec.getLsbD j := by
  have e : ((s >>> (Int32.ofNat j &&& 31)) &&& 1).toBitVec = (s.toBitVec.sshiftRight j) &&& 1#32 := by
    show (s.toBitVec.sshiftRight' ((Int32.ofNat j &&& 31).toBitVec.smod 32)) &&& 1#32 = _
    rw [gz_sh j hj]
    show (s.toBitVec.sshiftRight (BitVec.ofNat 32 j).toNat) &&& 1#32 = _
    rw [BitVec.toNat_ofNat, Nat.mod_eq_of_lt (by omega)]
  have e2 : (s.toBitVec.sshiftRight j).getLsbD 0 = s.toBitVec.getLsbD j := by
    rw [BitVec.getLsbD_sshiftRight]
    simp
    intro h
    omega
  unfold gz_in
  rw [← e2]
  have e3 : ((s >>> (Int32.ofNat j &&& 31)) &&& 1 = 1) ↔ (s.toBitVec.sshiftRight j).getLsbD 0 = true := by
    rw [← Int32.toBitVec_inj, e, BitVec.and_one_eq_setWidth_ofBool_getLsbD]
    show _ = 1#32 ↔ _
    cases (s.toBitVec.sshiftRight j).getLsbD 0 <;> decide
  rw [Bool.eq_iff_iff, decide_eq_true_iff]
  exact e3
theorem gz_bitn (p : Nat) {j : Nat} (hj : j < 32) : gz_in (Int32.ofNat p) (Int32.ofNat j) = p.testBit j := by
  rw [gz_bit _ hj]
  show (BitVec.ofNat 32 p).getLsbD j = _
  rw [BitVec.getLsbD_ofNat]
  simp [hj]
theorem gz_xor (a b : Int32) {j : Nat} (hj : j < 32) : gz_in (a ^^^ b) (Int32.ofNat j) = (gz_in a (Int32.ofNat j) ^^ gz_in b (Int32.ofNat j)) := by
  rw [gz_bit _ hj, gz_bit _ hj, gz_bit _ hj]
  show (a.toBitVec ^^^ b.toBitVec).getLsbD j = _
  rw [BitVec.getLsbD_xor]
theorem gz_or (a b : Int32) {j : Nat} (hj : j < 32) : gz_in (a ||| b) (Int32.ofNat j) = (gz_in a (Int32.ofNat j) || gz_in b (Int32.ofNat j)) := by
  rw [gz_bit _ hj, gz_bit _ hj, gz_bit _ hj]
  show (a.toBitVec ||| b.toBitVec).getLsbD j = _
  rw [BitVec.getLsbD_or]
theorem gz_one : ∀ k, k < 32 → ∀ j, j < 32 → gz_in (1 <<< (Int32.ofNat k &&& 31)) (Int32.ofNat j) = decide (k = j) := by decide +kernel
theorem gz_zero {j : Nat} (hj : j < 32) : gz_in 0 (Int32.ofNat j) = false := by
  rw [gz_bit _ hj]
  show (0#32).getLsbD j = false
  simp
theorem gq_who_bit (σ : Nat → Nat → Int32) (sm : Nat → Int32) {j : Nat} (hj : j < 32) : ∀ k, k ≤ 32 → gz_in (gq_who σ sm k) (Int32.ofNat j) = (decide (j < k) && gq_has σ sm j)
  | 0, _ => by rw [show gq_who σ sm 0 = 0 from rfl, gz_zero hj]; simp
  | k + 1, hk => by
    have ih := gq_who_bit σ sm hj k (by omega)
    unfold gq_who
    by_cases h : gq_has σ sm k = true
    · rw [if_pos h, gz_or _ _ hj, ih, gz_one k (by omega) j hj]
      by_cases e : k = j
      · subst e; simp [h]
      · have : decide (j < k + 1) = decide (j < k) := by rw [decide_eq_decide]; omega
        simp [this, e]
    · rw [if_neg h, ih]
      by_cases e : k = j
      · subst e; simp at h; simp [h]
      · have : decide (j < k + 1) = decide (j < k) := by rw [decide_eq_decide]; omega
        rw [this]
/-- no higher chimney -/
theorem gz_none {s : Int32} {k : Nat} (hk : k < 32) (h : s >>> (Int32.ofNat k &&& 31) = 0) {c : Nat} (h1 : k ≤ c) (h2 : c < 32) : gz_in s (Int32.ofNat c) = false := by
  rw [gz_bit _ h2]
  have e : s.toBitVec.sshiftRight k = 0#32 := by
    have := congrArg Int32.toBitVec h
    have e1 : (s >>> (Int32.ofNat k &&& 31)).toBitVec = s.toBitVec.sshiftRight k := by
      show (s.toBitVec.sshiftRight' ((Int32.ofNat k &&& 31).toBitVec.smod 32)) = _
      rw [gz_sh k hk]
      show (s.toBitVec.sshiftRight (BitVec.ofNat 32 k).toNat) = _
      rw [BitVec.toNat_ofNat, Nat.mod_eq_of_lt (by omega)]
    rw [e1] at this
    exact this
  have e2 := congrArg (fun x => BitVec.getLsbD x (c - k)) e
  simp only [BitVec.getLsbD_sshiftRight] at e2
  rw [show k + (c - k) = c by omega] at e2
  simp at e2
  have := e2 (by omega)
  rw [if_pos (by omega)] at this
  exact this
end
section
/-! ===== the class's Walk: an hour ===== -/
theorem c_empty {V : gw_V} {n : Nat} {I : Nat → Nat → Int32} {J : Nat → Nat → Int64} (b : Nat) (ch : Int32) (hc : I 57 6 = ch) (hb : gw_T (gS n I J) b = 12) (hzb : gw_N (gS n I J) b = 10) : gw_E V 56 (0, [(0, .ref 57), (1, .ref b)], [], gS n I J, 0, 0) (fun v w' => v = none ∧ ∃ I2, w' = gS n I2 J ∧ (∀ c, c < 10 → I2 b c = if gz_in ch (Int32.ofNat c) then 0 else I b c) ∧ ∀ p, p ≠ b → I2 p = I p) := by
  have hb57 : 57 ≠ b := fun e => by subst e; have h9 : gw_T (gS n I J) 57 = 9 := rfl; rw [h9] at hb; exact absurd hb (by decide)
  have key : ∀ (m k : Nat), m + k = 10 → ∀ I1, (∀ c, c < k → I1 b c = if gz_in ch (Int32.ofNat c) then 0 else I b c) → (∀ c, k ≤ c → I1 b c = I b c) → (∀ p, p ≠ b → I1 p = I p) → gw_E V 56 (2, [(0, .ref 57), (1, .ref b), (2, .int (Int32.ofNat k))], [], gS n I1 J, 0, 0) (fun v w' => v = none ∧ ∃ I2, w' = gS n I2 J ∧ (∀ c, c < 10 → I2 b c = if gz_in ch (Int32.ofNat c) then 0 else I b c) ∧ ∀ p, p ≠ b → I2 p = I p) := by
    intro m
    induction m with
    | zero =>
      intro k hk I1 h1 h0 h2
      obtain rfl : k = 10 := by omega
      refine gs_iload_n (pc := 2) (gd gk_56 2 rfl) rfl ?_
      refine gs_bipush (pc := 3) (gd gk_56 3 rfl) (10) rfl ?_
      refine gs_icmp_ge (pc := 5) (gd gk_56 4 rfl) (fun c5 => ?_) (fun c5 => ?_)
      · replace c5 : 10 ≤ 10 := (zle (k := 10) (m := 10) (by omega) (by omega)).mp c5
        -- end 1: return, pc 38, locals [(0, .ref (57)), (1, .ref (b)), (2, .int (Int32.ofNat 10))]
        exact gs_ret (pc := 38) (gd gk_56 21 rfl) rfl (Nat.zero_le _) (Nat.zero_le _) (⟨rfl, I1, rfl, h1, h2⟩)
      · replace c5 : ¬ (10 ≤ 10) := fun q9 => c5 ((zle (k := 10) (m := 10) (by omega) (by omega)).mpr q9)
        -- end 2: stop, pc 8, locals [(0, .ref (57)), (1, .ref (b)), (2, .int (Int32.ofNat 10))]
        exact absurd (Nat.le_refl 10) c5
    | succ m ih =>
      intro k hk I1 h1 h0 h2
      have hc1 : I1 57 6 = ch := by rw [h2 57 hb57]; exact hc
      refine gs_iload_n (pc := 2) (gd gk_56 2 rfl) rfl ?_
      refine gs_bipush (pc := 3) (gd gk_56 3 rfl) (10) rfl ?_
      refine gs_icmp_ge (pc := 5) (gd gk_56 4 rfl) (fun c5 => ?_) (fun c5 => ?_)
      · replace c5 : 10 ≤ k := (zle (k := 10) (m := k) (by omega) (by omega)).mp c5
        -- end 1: return, pc 38, locals [(0, .ref (57)), (1, .ref (b)), (2, .int (Int32.ofNat k))]
        exact absurd c5 (by omega)
      · replace c5 : ¬ (10 ≤ k) := fun q9 => c5 ((zle (k := 10) (m := k) (by omega) (by omega)).mpr q9)
        refine gs_aload_n (pc := 8) (gd gk_56 5 rfl) rfl ?_
        refine gs_getI (pc := 9) (gd gk_56 6 rfl) rfl rfl ?_
        refine gs_as (ch) (hc1) ?_
        refine gs_iload_n (pc := 12) (gd gk_56 7 rfl) rfl ?_
        refine gs_ishr (pc := 13) (gd gk_56 8 rfl) ?_
        refine gs_if_eq (pc := 14) (gd gk_56 9 rfl) (fun c14 => ?_) (fun c14 => ?_)
        · -- end 2: return, pc 38, locals [(0, .ref (57)), (1, .ref (b)), (2, .int (Int32.ofNat k))]
          exact gs_ret (pc := 38) (gd gk_56 21 rfl) rfl (Nat.zero_le _) (Nat.zero_le _) (⟨rfl, I1, rfl, fun c hc9 => by
            by_cases q : c < k
            · exact h1 c q
            · rw [gz_none (by omega) c14 (by omega) (by omega)]; exact h0 c (by omega), h2⟩)
        · refine gs_aload_n (pc := 17) (gd gk_56 10 rfl) rfl ?_
          refine gs_getI (pc := 18) (gd gk_56 11 rfl) rfl rfl ?_
          refine gs_as (ch) (hc1) ?_
          refine gs_iload_n (pc := 21) (gd gk_56 12 rfl) rfl ?_
          refine gs_callS (as := [.int (ch), .int (Int32.ofNat k)]) (pc := 22) (gd gk_56 13 rfl) (by decide) rfl rfl (Nat.le_of_ble_eq_true rfl) gq_56_96 (Nat.le_of_ble_eq_true rfl) (c_in (ch) (Int32.ofNat k)) (fun r_22 w_22 q_22 => ?_)
          obtain ⟨rfl, rfl⟩ := q_22
          refine gs_if_eq (pc := 25) (gd gk_56 14 rfl) (fun c25 => ?_) (fun c25 => ?_)
          · refine gs_iinc (ls2 := fun v => [(0, .ref (57)), (1, .ref (b)), (2, .int (v))]) (pc := 32) (gd gk_56 19 rfl) rfl (by rw [gL_56]; decide) (fun _ => rfl) (1) rfl (fun v2_1 hv2_1 => ?_)
            obtain rfl : v2_1 = Int32.ofNat (k + 1) := hv2_1.trans (by first | rfl | (simp only [Int32.ofNat_add, Int32.ofNat_mul]; rfl) | (simp only [Int32.ofNat_add, Int32.ofNat_mul]))
            refine gs_goto (pc := 35) (gd gk_56 20 rfl) ?_
            -- end 3: stop, pc 2, locals [(0, .ref (57)), (1, .ref (b)), (2, .int (Int32.ofNat (k + 1)))]
            refine ih (k + 1) (by omega) I1 (fun c hc9 => ?_) (fun c hc9 => h0 c (by omega)) h2
            by_cases q : c < k
            · exact h1 c q
            · obtain rfl : c = k := by omega
              rw [gz_b_eq.mp c25]; exact h0 c (Nat.le_refl _)
          · refine gs_aload_n (pc := 28) (gd gk_56 15 rfl) rfl ?_
            refine gs_iload_n (pc := 29) (gd gk_56 16 rfl) rfl ?_
            refine gs_iconst (pc := 30) (gd gk_56 17 rfl) (0) rfl ?_
            refine gs_iastoreK (k) (10) gs_sl (pc := 31) (gd gk_56 18 rfl) hb hzb (by decide) (by first | rfl | (simp only [Int32.ofNat_add, Int32.ofNat_mul]; rfl) | (simp only [Int32.ofNat_add, Int32.ofNat_mul])) (by omega) (fun I_1 hI_1 => ?_)
            refine gs_iinc (ls2 := fun v => [(0, .ref (57)), (1, .ref (b)), (2, .int (v))]) (pc := 32) (gd gk_56 19 rfl) rfl (by rw [gL_56]; decide) (fun _ => rfl) (1) rfl (fun v2_2 hv2_2 => ?_)
            obtain rfl : v2_2 = Int32.ofNat (k + 1) := hv2_2.trans (by first | rfl | (simp only [Int32.ofNat_add, Int32.ofNat_mul]; rfl) | (simp only [Int32.ofNat_add, Int32.ofNat_mul]))
            refine gs_goto (pc := 35) (gd gk_56 20 rfl) ?_
            -- end 4: stop, pc 2, locals [(0, .ref (57)), (1, .ref (b)), (2, .int (Int32.ofNat (k + 1)))]
            refine ih (k + 1) (by omega) I_1 (fun c hc9 => ?_) (fun c hc9 => ?_) (fun p hp => ?_)
            · rw [hI_1, gw_u_s]
              unfold upd
              by_cases q : c = k
              · rw [if_pos q, q, gz_b_ne.mp c25]; rfl
              · rw [if_neg q]; exact h1 c (by omega)
            · rw [hI_1, gw_u_s]
              unfold upd
              rw [if_neg (by omega)]; exact h0 c (by omega)
            · rw [hI_1, gw_u_o hp]; exact h2 p hp
  refine gs_iconst (pc := 0) (gd gk_56 0 rfl) (0) rfl ?_
  refine gs_istore_n (ls2 := fun v => [(0, .ref (57)), (1, .ref (b)), (2, .int (v))]) (pc := 1) (gd gk_56 1 rfl) (by rw [gL_56]; decide) (fun _ => rfl) (fun v2_1 hv2_1 => ?_)
  obtain rfl : v2_1 = Int32.ofNat 0 := hv2_1.trans (by first | rfl | (simp only [Int32.ofNat_add, Int32.ofNat_mul]; rfl) | (simp only [Int32.ofNat_add, Int32.ofNat_mul]))
  -- end 1: stop, pc 2, locals [(0, .ref (57)), (1, .ref (b)), (2, .int (Int32.ofNat 0))]
  exact key 10 0 rfl I (fun c hc => absurd hc (Nat.not_lt_zero _)) (fun _ _ => rfl) (fun _ _ => rfl)
/-- what comes in an hour from the first k noses -/
def gq_hc (σ : Nat → Nat → Int32) (sm : Nat → Int32) (bk ea : Bool) (so : Nat → Bool) : Nat → Int32
  | 0 => if bk then -σ 0 2 else 0
  | k + 1 => gq_hc σ sm bk ea so k + (if so k then gq_due σ k (gq_has σ sm k) ea else 0)
theorem c_settle {V : gw_V} {n W N : Nat} {I : Nat → Nat → Int32} {J : Nat → Nat → Int64} (g : Nat) (hg : g < 8) (bk ea : Bool) (hok : gq_ok (gz_S I) W N) : gw_E V 57 (0, [(0, .ref 57), (1, .int (Int32.ofNat g)), (2, .int (gz_b bk)), (3, .int (gz_b ea))], [], gS n I J, 0, 0)
    (fun v w' => v = none ∧ ∃ I2, w' = gS n I2 J ∧ (∀ m, m < N → I2 (69 + (g + 1)) m = I (69 + g) m + gq_due (gz_S I) m (gq_has (gz_S I) (I (59 + (g + 1))) m) ea) ∧ I2 78 (g + 1) = I 78 g + gq_hc (gz_S I) (I (59 + (g + 1))) bk ea (fun _ => true) N ∧ I2 79 (g + 1) = I 79 g ||| gq_who (gz_S I) (I (59 + (g + 1))) N ∧ I2 80 (g + 1) = gq_who (gz_S I) (I (59 + (g + 1))) N
      ∧ (∀ p, p ≠ 69 + (g + 1) → p ≠ 78 → p ≠ 79 → p ≠ 80 → I2 p = I p) ∧ ∀ p q, q ≠ g + 1 → p = 78 ∨ p = 79 ∨ p = 80 → I2 p q = I p q) := by
  obtain ⟨-, -, hN, hN6, -, -, -, -, hns⟩ := id hok
  have hN : I 6 4 = Int32.ofNat N := hN
  generalize hsm : I (59 + (g + 1)) = sm
  have key : ∀ (m k : Nat), m + k = N → ∀ I1 x, x = gq_hc (gz_S I) sm bk ea (fun _ => true) k → (∀ q, q < k → I1 (69 + (g + 1)) q = I (69 + g) q + gq_due (gz_S I) q (gq_has (gz_S I) sm q) ea) → (∀ p, p ≠ 69 + (g + 1) → I1 p = I p) →
      gw_E V 57 (38, [(0, .ref 57), (1, .int (Int32.ofNat g)), (2, .int (gz_b bk)), (3, .int (gz_b ea)), (4, .int (gq_who (gz_S I) sm N)), (5, .int x), (6, .int (Int32.ofNat k))], [], gS n I1 J, 0, 0)
    (fun v w' => v = none ∧ ∃ I2, w' = gS n I2 J ∧ (∀ m, m < N → I2 (69 + (g + 1)) m = I (69 + g) m + gq_due (gz_S I) m (gq_has (gz_S I) sm m) ea) ∧ I2 78 (g + 1) = I 78 g + gq_hc (gz_S I) sm bk ea (fun _ => true) N ∧ I2 79 (g + 1) = I 79 g ||| gq_who (gz_S I) sm N ∧ I2 80 (g + 1) = gq_who (gz_S I) sm N
      ∧ (∀ p, p ≠ 69 + (g + 1) → p ≠ 78 → p ≠ 79 → p ≠ 80 → I2 p = I p) ∧ ∀ p q, q ≠ g + 1 → p = 78 ∨ p = 79 ∨ p = 80 → I2 p q = I p q) := by
    intro m
    induction m with
    | zero =>
      intro k hk I1 x hx h1 h2
      obtain rfl : k = N := by omega
      have hN1 : I1 6 4 = Int32.ofNat k := by rw [h2 6 (by omega)]; exact hN
      refine gs_iload (pc := 38) (gd gk_57 21 rfl) rfl ?_
      refine gs_aload_n (pc := 40) (gd gk_57 22 rfl) rfl ?_
      refine gs_getR (r := 6) (pc := 41) (gd gk_57 23 rfl) rfl rfl rfl (by decide) ?_
      refine gs_getI (pc := 44) (gd gk_57 24 rfl) rfl rfl ?_
      refine gs_as (Int32.ofNat k) (hN1) ?_
      refine gs_icmp_ge (pc := 47) (gd gk_57 25 rfl) (fun c47 => ?_) (fun c47 => ?_)
      · replace c47 : k ≤ k := (zle (k := k) (m := k) (by omega) (by omega)).mp c47
        refine gs_aload_n (pc := 105) (gd gk_57 57 rfl) rfl ?_
        refine gs_getR (r := 78) (pc := 106) (gd gk_57 58 rfl) rfl rfl rfl (by decide) ?_
        refine gs_iload_n (pc := 109) (gd gk_57 59 rfl) rfl ?_
        refine gs_iconst (pc := 110) (gd gk_57 60 rfl) (1) rfl ?_
        refine gs_iadd (pc := 111) (gd gk_57 61 rfl) ?_
        refine gs_aload_n (pc := 112) (gd gk_57 62 rfl) rfl ?_
        refine gs_getR (r := 78) (pc := 113) (gd gk_57 63 rfl) rfl rfl rfl (by decide) ?_
        refine gs_iload_n (pc := 116) (gd gk_57 64 rfl) rfl ?_
        refine gs_ialoadK (g) (9) (pc := 117) (gd gk_57 65 rfl) (Or.inl rfl) rfl (by decide) (by first | rfl | (simp only [Int32.ofNat_add, Int32.ofNat_mul]; rfl) | (simp only [Int32.ofNat_add, Int32.ofNat_mul])) (by omega) ?_
        refine gs_iload (pc := 118) (gd gk_57 66 rfl) rfl ?_
        refine gs_iadd (pc := 120) (gd gk_57 67 rfl) ?_
        refine gs_iastoreK ((g + 1)) (9) gs_sl (pc := 121) (gd gk_57 68 rfl) rfl rfl (by decide) (by first | rfl | (simp only [Int32.ofNat_add, Int32.ofNat_mul]; rfl) | (simp only [Int32.ofNat_add, Int32.ofNat_mul])) (by omega) (fun I_1 hI_1 => ?_)
        refine gs_aload_n (pc := 122) (gd gk_57 69 rfl) rfl ?_
        refine gs_getR (r := 79) (pc := 123) (gd gk_57 70 rfl) rfl rfl rfl (by decide) ?_
        refine gs_iload_n (pc := 126) (gd gk_57 71 rfl) rfl ?_
        refine gs_iconst (pc := 127) (gd gk_57 72 rfl) (1) rfl ?_
        refine gs_iadd (pc := 128) (gd gk_57 73 rfl) ?_
        refine gs_aload_n (pc := 129) (gd gk_57 74 rfl) rfl ?_
        refine gs_getR (r := 79) (pc := 130) (gd gk_57 75 rfl) rfl rfl rfl (by decide) ?_
        refine gs_iload_n (pc := 133) (gd gk_57 76 rfl) rfl ?_
        refine gs_ialoadK (g) (9) (pc := 134) (gd gk_57 77 rfl) (Or.inl rfl) rfl (by decide) (by first | rfl | (simp only [Int32.ofNat_add, Int32.ofNat_mul]; rfl) | (simp only [Int32.ofNat_add, Int32.ofNat_mul])) (by omega) ?_
        refine gs_iload (pc := 135) (gd gk_57 78 rfl) rfl ?_
        refine gs_ior (pc := 137) (gd gk_57 79 rfl) ?_
        refine gs_iastoreK ((g + 1)) (9) gs_sl (pc := 138) (gd gk_57 80 rfl) rfl rfl (by decide) (by first | rfl | (simp only [Int32.ofNat_add, Int32.ofNat_mul]; rfl) | (simp only [Int32.ofNat_add, Int32.ofNat_mul])) (by omega) (fun I_2 hI_2 => ?_)
        refine gs_aload_n (pc := 139) (gd gk_57 81 rfl) rfl ?_
        refine gs_getR (r := 80) (pc := 140) (gd gk_57 82 rfl) rfl rfl rfl (by decide) ?_
        refine gs_iload_n (pc := 143) (gd gk_57 83 rfl) rfl ?_
        refine gs_iconst (pc := 144) (gd gk_57 84 rfl) (1) rfl ?_
        refine gs_iadd (pc := 145) (gd gk_57 85 rfl) ?_
        refine gs_iload (pc := 146) (gd gk_57 86 rfl) rfl ?_
        refine gs_iastoreK ((g + 1)) (9) gs_sl (pc := 148) (gd gk_57 87 rfl) rfl rfl (by decide) (by first | rfl | (simp only [Int32.ofNat_add, Int32.ofNat_mul]; rfl) | (simp only [Int32.ofNat_add, Int32.ofNat_mul])) (by omega) (fun I_3 hI_3 => ?_)
        -- end 1: return, pc 149, locals [(0, .ref (57)), (1, .int (Int32.ofNat g)), (2, .int (gz_b bk)), (3, .int (gz_b ea)), (4, .int (gq_who (gz_S I) sm k)), (5, .int (x)), (6, .int (Int32.ofNat k))]
        have e3 : ∀ p, p ≠ 78 → p ≠ 79 → p ≠ 80 → I_3 p = I1 p := fun p a1 a2 a3 => by rw [hI_3, gw_u_o a3, hI_2, gw_u_o a2, hI_1, gw_u_o a1]
        exact gs_ret (pc := 149) (gd gk_57 88 rfl) rfl (Nat.zero_le _) (Nat.zero_le _) (⟨rfl, I_3, rfl, fun q hq => by rw [e3 _ (by omega) (by omega) (by omega)]; exact h1 q hq, by rw [hI_3, gw_u_o (by omega), hI_2, gw_u_o (by omega), hI_1, gw_u_s, hx, h2 78 (by omega)]; simp [upd], by rw [hI_3, gw_u_o (by omega), hI_2, gw_u_s, hI_1, gw_u_o (by omega), h2 79 (by omega)]; simp [upd], by rw [hI_3, gw_u_s]; simp [upd], fun p a1 a2 a3 a4 => by rw [e3 p a2 a3 a4, h2 p a1], fun p q hq hp => by
          rw [hI_3, hI_2, hI_1, ← h2 p (by omega)]
          simp [gw_u, hq]⟩)
      · replace c47 : ¬ (k ≤ k) := fun q9 => c47 ((zle (k := k) (m := k) (by omega) (by omega)).mpr q9)
        -- end 2: stop, pc 50, locals [(0, .ref (57)), (1, .int (Int32.ofNat g)), (2, .int (gz_b bk)), (3, .int (gz_b ea)), (4, .int (gq_who (gz_S I) sm k)), (5, .int (x)), (6, .int (Int32.ofNat k))]
        exact absurd (Nat.le_refl k) c47
    | succ m ih =>
      intro k hk I1 x hx h1 h2
      have hN1 : I1 6 4 = Int32.ofNat N := by rw [h2 6 (by omega)]; exact hN
      have hS1 : gz_S I1 = gz_S I := gz_S_eq (fun p h6 h11 => h2 p (by omega))
      have hdue : 0 ≤ I1 11 k ∧ I1 11 k ≤ 3 := by rw [h2 11 (by omega)]; exact (hns k (by omega)).2.2.2
      refine gs_iload (pc := 38) (gd gk_57 21 rfl) rfl ?_
      refine gs_aload_n (pc := 40) (gd gk_57 22 rfl) rfl ?_
      refine gs_getR (r := 6) (pc := 41) (gd gk_57 23 rfl) rfl rfl rfl (by decide) ?_
      refine gs_getI (pc := 44) (gd gk_57 24 rfl) rfl rfl ?_
      refine gs_as (Int32.ofNat N) (hN1) ?_
      refine gs_icmp_ge (pc := 47) (gd gk_57 25 rfl) (fun c47 => ?_) (fun c47 => ?_)
      · replace c47 : N ≤ k := (zle (k := N) (m := k) (by omega) (by omega)).mp c47
        refine gs_aload_n (pc := 105) (gd gk_57 57 rfl) rfl ?_
        refine gs_getR (r := 78) (pc := 106) (gd gk_57 58 rfl) rfl rfl rfl (by decide) ?_
        refine gs_iload_n (pc := 109) (gd gk_57 59 rfl) rfl ?_
        refine gs_iconst (pc := 110) (gd gk_57 60 rfl) (1) rfl ?_
        refine gs_iadd (pc := 111) (gd gk_57 61 rfl) ?_
        refine gs_aload_n (pc := 112) (gd gk_57 62 rfl) rfl ?_
        refine gs_getR (r := 78) (pc := 113) (gd gk_57 63 rfl) rfl rfl rfl (by decide) ?_
        refine gs_iload_n (pc := 116) (gd gk_57 64 rfl) rfl ?_
        refine gs_ialoadK (g) (9) (pc := 117) (gd gk_57 65 rfl) (Or.inl rfl) rfl (by decide) (by first | rfl | (simp only [Int32.ofNat_add, Int32.ofNat_mul]; rfl) | (simp only [Int32.ofNat_add, Int32.ofNat_mul])) (by omega) ?_
        refine gs_iload (pc := 118) (gd gk_57 66 rfl) rfl ?_
        refine gs_iadd (pc := 120) (gd gk_57 67 rfl) ?_
        refine gs_iastoreK ((g + 1)) (9) gs_sl (pc := 121) (gd gk_57 68 rfl) rfl rfl (by decide) (by first | rfl | (simp only [Int32.ofNat_add, Int32.ofNat_mul]; rfl) | (simp only [Int32.ofNat_add, Int32.ofNat_mul])) (by omega) (fun I_1 hI_1 => ?_)
        refine gs_aload_n (pc := 122) (gd gk_57 69 rfl) rfl ?_
        refine gs_getR (r := 79) (pc := 123) (gd gk_57 70 rfl) rfl rfl rfl (by decide) ?_
        refine gs_iload_n (pc := 126) (gd gk_57 71 rfl) rfl ?_
        refine gs_iconst (pc := 127) (gd gk_57 72 rfl) (1) rfl ?_
        refine gs_iadd (pc := 128) (gd gk_57 73 rfl) ?_
        refine gs_aload_n (pc := 129) (gd gk_57 74 rfl) rfl ?_
        refine gs_getR (r := 79) (pc := 130) (gd gk_57 75 rfl) rfl rfl rfl (by decide) ?_
        refine gs_iload_n (pc := 133) (gd gk_57 76 rfl) rfl ?_
        refine gs_ialoadK (g) (9) (pc := 134) (gd gk_57 77 rfl) (Or.inl rfl) rfl (by decide) (by first | rfl | (simp only [Int32.ofNat_add, Int32.ofNat_mul]; rfl) | (simp only [Int32.ofNat_add, Int32.ofNat_mul])) (by omega) ?_
        refine gs_iload (pc := 135) (gd gk_57 78 rfl) rfl ?_
        refine gs_ior (pc := 137) (gd gk_57 79 rfl) ?_
        refine gs_iastoreK ((g + 1)) (9) gs_sl (pc := 138) (gd gk_57 80 rfl) rfl rfl (by decide) (by first | rfl | (simp only [Int32.ofNat_add, Int32.ofNat_mul]; rfl) | (simp only [Int32.ofNat_add, Int32.ofNat_mul])) (by omega) (fun I_2 hI_2 => ?_)
        refine gs_aload_n (pc := 139) (gd gk_57 81 rfl) rfl ?_
        refine gs_getR (r := 80) (pc := 140) (gd gk_57 82 rfl) rfl rfl rfl (by decide) ?_
        refine gs_iload_n (pc := 143) (gd gk_57 83 rfl) rfl ?_
        refine gs_iconst (pc := 144) (gd gk_57 84 rfl) (1) rfl ?_
        refine gs_iadd (pc := 145) (gd gk_57 85 rfl) ?_
        refine gs_iload (pc := 146) (gd gk_57 86 rfl) rfl ?_
        refine gs_iastoreK ((g + 1)) (9) gs_sl (pc := 148) (gd gk_57 87 rfl) rfl rfl (by decide) (by first | rfl | (simp only [Int32.ofNat_add, Int32.ofNat_mul]; rfl) | (simp only [Int32.ofNat_add, Int32.ofNat_mul])) (by omega) (fun I_3 hI_3 => ?_)
        -- end 1: return, pc 149, locals [(0, .ref (57)), (1, .int (Int32.ofNat g)), (2, .int (gz_b bk)), (3, .int (gz_b ea)), (4, .int (gq_who (gz_S I) sm N)), (5, .int (x)), (6, .int (Int32.ofNat k))]
        exact absurd c47 (by omega)
      · replace c47 : ¬ (N ≤ k) := fun q9 => c47 ((zle (k := N) (m := k) (by omega) (by omega)).mpr q9)
        refine gs_aload_n (pc := 50) (gd gk_57 26 rfl) rfl ?_
        refine gs_getR (r := 6) (pc := 51) (gd gk_57 27 rfl) rfl rfl rfl (by decide) ?_
        refine gs_iload (pc := 54) (gd gk_57 28 rfl) rfl ?_
        refine gs_iload (pc := 56) (gd gk_57 29 rfl) rfl ?_
        refine gs_iload (pc := 58) (gd gk_57 30 rfl) rfl ?_
        refine gs_callS (as := [.int (gq_who (gz_S I) sm N), .int (Int32.ofNat k)]) (pc := 60) (gd gk_57 31 rfl) (by decide) rfl rfl (Nat.le_of_ble_eq_true rfl) gq_57_96 (Nat.le_of_ble_eq_true rfl) (c_in (gq_who (gz_S I) sm N) (Int32.ofNat k)) (fun r_60 w_60 q_60 => ?_)
        obtain ⟨rfl, rfl⟩ := q_60
        refine gs_iload_n (pc := 63) (gd gk_57 32 rfl) rfl ?_
        refine gs_callV (as := [.int (Int32.ofNat k), .int ((gz_b (gz_in (gq_who (gz_S I) sm N) (Int32.ofNat k)))), .int (gz_b ea)]) (pc := 64) (gd gk_57 33 rfl) (by decide) rfl (by decide) rfl rfl (Nat.le_of_ble_eq_true rfl) gq_57_36 (Nat.le_of_ble_eq_true rfl) (c_due k (by omega) (gz_in (gq_who (gz_S I) sm N) (Int32.ofNat k)) ea hdue) (fun r_64 w_64 q_64 => ?_)
        obtain ⟨rfl, rfl⟩ := q_64
        refine gs_istore (ls2 := fun v => [(0, .ref (57)), (1, .int (Int32.ofNat g)), (2, .int (gz_b bk)), (3, .int (gz_b ea)), (4, .int (gq_who (gz_S I) sm N)), (5, .int (x)), (6, .int (Int32.ofNat k)), (7, .int (v))]) (pc := 67) (gd gk_57 34 rfl) (by rw [gL_57]; decide) (fun _ => rfl) (fun v7_1 hv7_1 => ?_)
        refine gs_aload_n (pc := 69) (gd gk_57 35 rfl) rfl ?_
        refine gs_getR (r := 68) (pc := 70) (gd gk_57 36 rfl) rfl rfl rfl (by decide) ?_
        refine gs_iload_n (pc := 73) (gd gk_57 37 rfl) rfl ?_
        refine gs_iconst (pc := 74) (gd gk_57 38 rfl) (1) rfl ?_
        refine gs_iadd (pc := 75) (gd gk_57 39 rfl) ?_
        refine gs_aaloadK (r := 69 + (g + 1)) ((g + 1)) (9) (pc := 76) (gd gk_57 40 rfl) (Or.inr rfl) rfl (by decide) (by first | rfl | (simp only [Int32.ofNat_add, Int32.ofNat_mul]; rfl) | (simp only [Int32.ofNat_add, Int32.ofNat_mul])) (by omega) rfl (by omega) ?_
        refine gs_iload (pc := 77) (gd gk_57 41 rfl) rfl ?_
        refine gs_aload_n (pc := 79) (gd gk_57 42 rfl) rfl ?_
        refine gs_getR (r := 68) (pc := 80) (gd gk_57 43 rfl) rfl rfl rfl (by decide) ?_
        refine gs_iload_n (pc := 83) (gd gk_57 44 rfl) rfl ?_
        refine gs_aaloadK (r := 69 + g) (g) (9) (pc := 84) (gd gk_57 45 rfl) (Or.inr rfl) rfl (by decide) (by first | rfl | (simp only [Int32.ofNat_add, Int32.ofNat_mul]; rfl) | (simp only [Int32.ofNat_add, Int32.ofNat_mul])) (by omega) rfl (by omega) ?_
        refine gs_iload (pc := 85) (gd gk_57 46 rfl) rfl ?_
        refine gs_ialoadK (k) (6) (pc := 87) (gd gk_57 47 rfl) (Or.inl (gt69 (by omega)).1) (gt69 (by omega)).2 (by decide) (by first | rfl | (simp only [Int32.ofNat_add, Int32.ofNat_mul]; rfl) | (simp only [Int32.ofNat_add, Int32.ofNat_mul])) (by omega) ?_
        refine gs_iload (pc := 88) (gd gk_57 48 rfl) rfl ?_
        refine gs_iadd (pc := 90) (gd gk_57 49 rfl) ?_
        refine gs_iastoreK (k) (6) gs_sl (pc := 91) (gd gk_57 50 rfl) (gt69 (by omega)).1 (gt69 (by omega)).2 (by decide) (by first | rfl | (simp only [Int32.ofNat_add, Int32.ofNat_mul]; rfl) | (simp only [Int32.ofNat_add, Int32.ofNat_mul])) (by omega) (fun I_4 hI_4 => ?_)
        refine gs_iload (pc := 92) (gd gk_57 51 rfl) rfl ?_
        refine gs_iload (pc := 94) (gd gk_57 52 rfl) rfl ?_
        refine gs_iadd (pc := 96) (gd gk_57 53 rfl) ?_
        refine gs_istore (ls2 := fun v => [(0, .ref (57)), (1, .int (Int32.ofNat g)), (2, .int (gz_b bk)), (3, .int (gz_b ea)), (4, .int (gq_who (gz_S I) sm N)), (5, .int (v)), (6, .int (Int32.ofNat k)), (7, .int (v7_1))]) (pc := 97) (gd gk_57 54 rfl) (by rw [gL_57]; decide) (fun _ => rfl) (fun v5_1 hv5_1 => ?_)
        refine gs_iinc (ls2 := fun v => [(0, .ref (57)), (1, .int (Int32.ofNat g)), (2, .int (gz_b bk)), (3, .int (gz_b ea)), (4, .int (gq_who (gz_S I) sm N)), (5, .int (v5_1)), (6, .int (v)), (7, .int (v7_1))]) (pc := 99) (gd gk_57 55 rfl) rfl (by rw [gL_57]; decide) (fun _ => rfl) (1) rfl (fun v6_1 hv6_1 => ?_)
        obtain rfl : v6_1 = Int32.ofNat (k + 1) := hv6_1.trans (by first | rfl | (simp only [Int32.ofNat_add, Int32.ofNat_mul]; rfl) | (simp only [Int32.ofNat_add, Int32.ofNat_mul]))
        refine gs_goto (pc := 102) (gd gk_57 56 rfl) ?_
        -- end 2: stop, pc 38, locals [(0, .ref (57)), (1, .int (Int32.ofNat g)), (2, .int (gz_b bk)), (3, .int (gz_b ea)), (4, .int (gq_who (gz_S I) sm N)), (5, .int (v5_1)), (6, .int (Int32.ofNat (k + 1))), (7, .int (v7_1))]
        have e9 : gq_due (gz_S I1) k (gz_in (gq_who (gz_S I) sm N) (Int32.ofNat k)) ea = gq_due (gz_S I) k (gq_has (gz_S I) sm k) ea := by rw [hS1, gq_who_bit _ _ (by omega) N (by omega), decide_eq_true (by omega : k < N), Bool.true_and]
        rw [e9] at hv7_1
        refine gs_drop [0, 1, 2, 3, 4, 5, 6] rfl (ih (k + 1) (by omega) I_4 _ (by rw [hv5_1, hx, hv7_1]; rfl) (fun q hq => ?_) (fun p hp => ?_))
        · rw [hI_4, gw_u_s]
          unfold upd
          by_cases e : q = k
          · rw [if_pos e, h2 _ (by omega), hv7_1, e]
          · rw [if_neg e]; exact h1 q (by omega)
        · rw [hI_4, gw_u_o hp]; exact h2 p hp
  have join : ∀ x, x = (if bk then -(gz_S I) 0 2 else 0) → gw_E V 57 (33, [(0, .ref 57), (1, .int (Int32.ofNat g)), (2, .int (gz_b bk)), (3, .int (gz_b ea)), (4, .int (gq_who (gz_S I) sm N))], [.int x], gS n I J, 0, 0)
    (fun v w' => v = none ∧ ∃ I2, w' = gS n I2 J ∧ (∀ m, m < N → I2 (69 + (g + 1)) m = I (69 + g) m + gq_due (gz_S I) m (gq_has (gz_S I) sm m) ea) ∧ I2 78 (g + 1) = I 78 g + gq_hc (gz_S I) sm bk ea (fun _ => true) N ∧ I2 79 (g + 1) = I 79 g ||| gq_who (gz_S I) sm N ∧ I2 80 (g + 1) = gq_who (gz_S I) sm N
      ∧ (∀ p, p ≠ 69 + (g + 1) → p ≠ 78 → p ≠ 79 → p ≠ 80 → I2 p = I p) ∧ ∀ p q, q ≠ g + 1 → p = 78 ∨ p = 79 ∨ p = 80 → I2 p q = I p q) := by
    intro x hx
    refine gs_istore (ls2 := fun v => [(0, .ref (57)), (1, .int (Int32.ofNat g)), (2, .int (gz_b bk)), (3, .int (gz_b ea)), (4, .int (gq_who (gz_S I) sm N)), (5, .int (v))]) (pc := 33) (gd gk_57 18 rfl) (by rw [gL_57]; decide) (fun _ => rfl) (fun v5_1 hv5_1 => ?_)
    refine gs_iconst (pc := 35) (gd gk_57 19 rfl) (0) rfl ?_
    refine gs_istore (ls2 := fun v => [(0, .ref (57)), (1, .int (Int32.ofNat g)), (2, .int (gz_b bk)), (3, .int (gz_b ea)), (4, .int (gq_who (gz_S I) sm N)), (5, .int (v5_1)), (6, .int (v))]) (pc := 36) (gd gk_57 20 rfl) (by rw [gL_57]; decide) (fun _ => rfl) (fun v6_1 hv6_1 => ?_)
    obtain rfl : v6_1 = Int32.ofNat 0 := hv6_1.trans (by first | rfl | (simp only [Int32.ofNat_add, Int32.ofNat_mul]; rfl) | (simp only [Int32.ofNat_add, Int32.ofNat_mul]))
    -- end 1: stop, pc 38, locals [(0, .ref (57)), (1, .int (Int32.ofNat g)), (2, .int (gz_b bk)), (3, .int (gz_b ea)), (4, .int (gq_who (gz_S I) sm N)), (5, .int (v5_1)), (6, .int (Int32.ofNat 0))]
    exact key N 0 (by omega) I _ (by rw [hv5_1, hx]; rfl) (fun q hq => absurd hq (Nat.not_lt_zero _)) (fun _ _ => rfl)
  refine gs_aload_n (pc := 0) (gd gk_57 0 rfl) rfl ?_
  refine gs_getR (r := 6) (pc := 1) (gd gk_57 1 rfl) rfl rfl rfl (by decide) ?_
  refine gs_aload_n (pc := 4) (gd gk_57 2 rfl) rfl ?_
  refine gs_getR (r := 58) (pc := 5) (gd gk_57 3 rfl) rfl rfl rfl (by decide) ?_
  refine gs_iload_n (pc := 8) (gd gk_57 4 rfl) rfl ?_
  refine gs_iconst (pc := 9) (gd gk_57 5 rfl) (1) rfl ?_
  refine gs_iadd (pc := 10) (gd gk_57 6 rfl) ?_
  refine gs_aaloadK (r := 59 + (g + 1)) ((g + 1)) (9) (pc := 11) (gd gk_57 7 rfl) (Or.inr rfl) rfl (by decide) (by first | rfl | (simp only [Int32.ofNat_add, Int32.ofNat_mul]; rfl) | (simp only [Int32.ofNat_add, Int32.ofNat_mul])) (by omega) rfl (by omega) ?_
  refine gs_callV (as := [.ref (59 + (g + 1))]) (pc := 12) (gd gk_57 8 rfl) (by decide) rfl (by decide) rfl rfl (Nat.le_of_ble_eq_true rfl) gq_57_35 (Nat.le_of_ble_eq_true rfl) (c_who (W := W) (N := N) (59 + (g + 1)) (gt59 (by omega)).1 (gt59 (by omega)).2 hok) (fun r_12 w_12 q_12 => ?_)
  rw [hsm] at q_12
  obtain ⟨rfl, rfl⟩ := q_12
  refine gs_istore (ls2 := fun v => [(0, .ref (57)), (1, .int (Int32.ofNat g)), (2, .int (gz_b bk)), (3, .int (gz_b ea)), (4, .int (v))]) (pc := 15) (gd gk_57 9 rfl) (by rw [gL_57]; decide) (fun _ => rfl) (fun v4_1 hv4_1 => ?_)
  refine gs_iload_n (pc := 17) (gd gk_57 10 rfl) rfl ?_
  refine gs_if_eq (pc := 18) (gd gk_57 11 rfl) (fun c18 => ?_) (fun c18 => ?_)
  · refine gs_iconst (pc := 32) (gd gk_57 17 rfl) (0) rfl ?_
    -- end 1: stop, pc 33, locals [(0, .ref (57)), (1, .int (Int32.ofNat g)), (2, .int (gz_b bk)), (3, .int (gz_b ea)), (4, .int (v4_1))]
    subst hv4_1
    exact join _ (by rw [gz_b_eq.mp c18]; rfl)
  · refine gs_aload_n (pc := 21) (gd gk_57 12 rfl) rfl ?_
    refine gs_getR (r := 6) (pc := 22) (gd gk_57 13 rfl) rfl rfl rfl (by decide) ?_
    refine gs_getI (pc := 25) (gd gk_57 14 rfl) rfl rfl ?_
    refine gs_ineg (pc := 28) (gd gk_57 15 rfl) ?_
    refine gs_goto (pc := 29) (gd gk_57 16 rfl) ?_
    -- end 2: stop, pc 33, locals [(0, .ref (57)), (1, .int (Int32.ofNat g)), (2, .int (gz_b bk)), (3, .int (gz_b ea)), (4, .int (v4_1))]
    subst hv4_1
    exact join _ (by rw [gz_b_ne.mp c18]; rfl)
end
section
/-! ===== the class's Walk: an hour passes; a plan is followed ===== -/
def gq_st (σ : Nat → Nat → Int32) (wd : Int32) (bk : Bool) (bc : Nat) (ch : Int32) (sm : Nat → Int32) (c : Nat) : Int32 := if gz_in ch (Int32.ofNat c) then 0 else gq_dr sm wd c + (if bk && c == bc then σ 0 1 else 0)
def gq_wd (σ : Nat → Nat → Int32) (tr : Int32) (h : Nat) : Int32 := if gz_in tr (Int32.ofNat h) then -σ 1 h else σ 1 h
/-- row g + 1 is row g an hour on: by a wind, baked or not -/
def gq_rel (I : Nat → Nat → Int32) (N g : Nat) (wd : Int32) (bk : Bool) (bc : Nat) (ch : Int32) : Prop :=
  (∀ c, c < 10 → I (59 + (g + 1)) c = gq_st (gz_S I) wd bk bc ch (I (59 + g)) c) ∧ (∀ m, m < N → I (69 + (g + 1)) m = I (69 + g) m + gq_due (gz_S I) m (gq_has (gz_S I) (I (59 + (g + 1))) m) (decide (wd = 1)))
  ∧ I 78 (g + 1) = I 78 g + gq_hc (gz_S I) (I (59 + (g + 1))) bk (decide (wd = 1)) (fun _ => true) N ∧ I 79 (g + 1) = I 79 g ||| gq_who (gz_S I) (I (59 + (g + 1))) N ∧ I 80 (g + 1) = gq_who (gz_S I) (I (59 + (g + 1))) N
/-- what an hour's passing may change -/
def gq_pf (I I2 : Nat → Nat → Int32) (g : Nat) : Prop := (∀ p, p ≠ 59 + (g + 1) → p ≠ 69 + (g + 1) → p ≠ 78 → p ≠ 79 → p ≠ 80 → I2 p = I p) ∧ ∀ p q, q ≠ g + 1 → p = 78 ∨ p = 79 ∨ p = 80 → I2 p q = I p q
theorem c_pass {V : gw_V} {n W N : Nat} {I : Nat → Nat → Int32} {J : Nat → Nat → Int64} (g h0 bc : Nat) (hg : g < 8) (hok : gq_ok (gz_S I) W N) (hh : I 57 11 = Int32.ofNat h0) (hhg : h0 + g < W) (hbc : I 57 7 = Int32.ofNat bc) (hbc9 : bc < 10) : gw_E V 54 (0, [(0, .ref 57), (1, .int (Int32.ofNat g))], [], gS n I J, 0, 0)
    (fun v w' => v = none ∧ ∃ I2, w' = gS n I2 J ∧ gq_rel I2 N g (gq_wd (gz_S I) (I 57 9) (h0 + g)) (gz_in (I 57 8) (Int32.ofNat (h0 + g))) bc (I 57 6) ∧ gq_pf I I2 g) := by
  obtain ⟨-, hW8, -, hN6, -, -, -, -, -⟩ := id hok
  generalize hbk : gz_in (I 57 8) (Int32.ofNat (h0 + g)) = bk
  generalize hwd : gq_wd (gz_S I) (I 57 9) (h0 + g) = wd
  have join95 : ∀ I1, (∀ c, c < 10 → I1 (59 + (g + 1)) c = gq_dr (I (59 + g)) wd c + (if bk && c == bc then gz_S I 0 1 else 0)) → (∀ p, p ≠ 59 + (g + 1) → I1 p = I p) → gw_E V 54 (95, [(0, .ref 57), (1, .int (Int32.ofNat g)), (2, .int (Int32.ofNat (h0 + g))), (3, .int wd), (4, .int (gz_b bk)), (5, .ref (59 + (g + 1)))], [], gS n I1 J, 0, 0)
      (fun v w' => v = none ∧ ∃ I2, w' = gS n I2 J ∧ gq_rel I2 N g wd bk bc (I 57 6) ∧ gq_pf I I2 g) := by
    intro I1 h1 h2
    have fin : ∀ (ea : Bool), ea = decide (wd = 1) → ∀ I3, (∀ c, c < 10 → I3 (59 + (g + 1)) c = if gz_in (I 57 6) (Int32.ofNat c) then 0 else I1 (59 + (g + 1)) c) → (∀ p, p ≠ 59 + (g + 1) → I3 p = I1 p) → ∀ I4, ((∀ m, m < N → I4 (69 + (g + 1)) m = I3 (69 + g) m + gq_due (gz_S I3) m (gq_has (gz_S I3) (I3 (59 + (g + 1))) m) ea) ∧ I4 78 (g + 1) = I3 78 g + gq_hc (gz_S I3) (I3 (59 + (g + 1))) bk ea (fun _ => true) N ∧ I4 79 (g + 1) = I3 79 g ||| gq_who (gz_S I3) (I3 (59 + (g + 1))) N ∧ I4 80 (g + 1) = gq_who (gz_S I3) (I3 (59 + (g + 1))) N
      ∧ (∀ p, p ≠ 69 + (g + 1) → p ≠ 78 → p ≠ 79 → p ≠ 80 → I4 p = I3 p) ∧ ∀ p q, q ≠ g + 1 → p = 78 ∨ p = 79 ∨ p = 80 → I4 p q = I3 p q) → gq_rel I4 N g wd bk bc (I 57 6) ∧ gq_pf I I4 g := by
      intro ea hea I3 a1 a2 I4 ⟨b1, b2, b3, b4, b5, b6⟩
      have s3 : gz_S I3 = gz_S I := gz_S_eq (fun p q1 q2 => by rw [a2 p (by omega), h2 p (by omega)])
      have s4 : gz_S I4 = gz_S I := gz_S_eq (fun p q1 q2 => by rw [b5 p (by omega) (by omega) (by omega) (by omega), a2 p (by omega), h2 p (by omega)])
      rw [s3, hea] at b1 b2
      rw [s3] at b3 b4
      have r1 : I4 (59 + (g + 1)) = I3 (59 + (g + 1)) := b5 _ (by omega) (by omega) (by omega) (by omega)
      have r0 : I4 (59 + g) = I (59 + g) := by rw [b5 _ (by omega) (by omega) (by omega) (by omega), a2 _ (by omega), h2 _ (by omega)]
      refine ⟨⟨fun c hc => ?_, fun m hm => ?_, ?_, ?_, ?_⟩, fun p q1 q2 q3 q4 q5 => ?_, fun p q q1 q2 => ?_⟩
      · rw [r1, r0, s4, a1 c hc, h1 c hc]; rfl
      · rw [s4, r1, b1 m hm, b5 (69 + g) (by omega) (by omega) (by omega) (by omega)]
      · rw [s4, r1, b2, b6 78 g (by omega) (Or.inl rfl)]
      · rw [s4, r1, b3, b6 79 g (by omega) (Or.inr (Or.inl rfl))]
      · rw [s4, r1, b4]
      · rw [b5 p q2 q3 q4 q5, a2 p q1, h2 p q1]
      · rw [b6 p q q1 q2, a2 p (by omega), h2 p (by omega)]
    have hok3 : ∀ I3, (∀ p, p ≠ 59 + (g + 1) → I3 p = I1 p) → gq_ok (gz_S I3) W N := fun I3 a2 => by rw [gz_S_eq (I := I) (fun p q1 q2 => by rw [a2 p (by omega), h2 p (by omega)])]; exact hok
    refine gs_aload_n (pc := 95) (gd gk_54 54 rfl) rfl ?_
    refine gs_aload (pc := 96) (gd gk_54 55 rfl) rfl ?_
    refine gs_callV (as := [.ref (59 + (g + 1))]) (pc := 98) (gd gk_54 56 rfl) (by decide) rfl (by decide) rfl rfl (Nat.le_of_ble_eq_true rfl) gq_54_56 (Nat.le_of_ble_eq_true rfl) (c_empty (59 + (g + 1)) (I 57 6) (by rw [h2 57 (by omega)]) (gt59 (by omega)).1 (gt59 (by omega)).2) (fun r_98 w_98 q_98 => ?_)
    obtain ⟨rfl, I_e, rfl, he1, he2⟩ := q_98
    refine gs_aload_n (pc := 101) (gd gk_54 57 rfl) rfl ?_
    refine gs_iload_n (pc := 102) (gd gk_54 58 rfl) rfl ?_
    refine gs_iload (pc := 103) (gd gk_54 59 rfl) rfl ?_
    refine gs_iload_n (pc := 105) (gd gk_54 60 rfl) rfl ?_
    refine gs_iconst (pc := 106) (gd gk_54 61 rfl) (1) rfl ?_
    refine gs_icmp_ne (pc := 107) (gd gk_54 62 rfl) (fun c107 => ?_) (fun c107 => ?_)
    · refine gs_iconst (pc := 114) (gd gk_54 65 rfl) (0) rfl ?_
      refine gs_callV (as := [.int (Int32.ofNat g), .int (gz_b bk), .int (0)]) (pc := 115) (gd gk_54 66 rfl) (by decide) rfl (by decide) rfl rfl (Nat.le_of_ble_eq_true rfl) gq_54_57 (Nat.le_of_ble_eq_true rfl) (c_settle (W := W) (N := N) g hg bk false (hok3 I_e he2)) (fun r_115 w_115 q_115 => ?_)
      obtain ⟨rfl, I_s, rfl, hs⟩ := q_115
      -- end 1: return, pc 118, locals [(0, .ref (57)), (1, .int (Int32.ofNat g)), (2, .int (Int32.ofNat (h0 + g))), (3, .int (wd)), (4, .int (gz_b bk)), (5, .ref (59 + (g + 1)))]
      exact gs_ret (pc := 118) (gd gk_54 67 rfl) rfl (Nat.zero_le _) (Nat.zero_le _) (⟨rfl, I_s, rfl, fin false (decide_eq_false c107).symm I_e he1 he2 I_s hs⟩)
    · refine gs_iconst (pc := 110) (gd gk_54 63 rfl) (1) rfl ?_
      refine gs_goto (pc := 111) (gd gk_54 64 rfl) ?_
      refine gs_callV (as := [.int (Int32.ofNat g), .int (gz_b bk), .int (1)]) (pc := 115) (gd gk_54 66 rfl) (by decide) rfl (by decide) rfl rfl (Nat.le_of_ble_eq_true rfl) gq_54_57 (Nat.le_of_ble_eq_true rfl) (c_settle (W := W) (N := N) g hg bk true (hok3 I_e he2)) (fun r_115 w_115 q_115 => ?_)
      obtain ⟨rfl, I_s, rfl, hs⟩ := q_115
      -- end 2: return, pc 118, locals [(0, .ref (57)), (1, .int (Int32.ofNat g)), (2, .int (Int32.ofNat (h0 + g))), (3, .int (wd)), (4, .int (gz_b bk)), (5, .ref (59 + (g + 1)))]
      exact gs_ret (pc := 118) (gd gk_54 67 rfl) rfl (Nat.zero_le _) (Nat.zero_le _) (⟨rfl, I_s, rfl, fin true (decide_eq_true c107).symm I_e he1 he2 I_s hs⟩)
  have join40 : gw_E V 54 (40, [(0, .ref 57), (1, .int (Int32.ofNat g)), (2, .int (Int32.ofNat (h0 + g)))], [.int wd], gS n I J, 0, 0) (fun v w' => v = none ∧ ∃ I2, w' = gS n I2 J ∧ gq_rel I2 N g wd bk bc (I 57 6) ∧ gq_pf I I2 g) := by
    refine gs_istore_n (ls2 := fun v => [(0, .ref (57)), (1, .int (Int32.ofNat g)), (2, .int (Int32.ofNat (h0 + g))), (3, .int (v))]) (pc := 40) (gd gk_54 22 rfl) (by rw [gL_54]; decide) (fun _ => rfl) (fun v3_1 hv3_1 => ?_)
    refine gs_aload_n (pc := 41) (gd gk_54 23 rfl) rfl ?_
    refine gs_getI (pc := 42) (gd gk_54 24 rfl) rfl rfl ?_
    refine gs_iload_n (pc := 45) (gd gk_54 25 rfl) rfl ?_
    refine gs_callS (as := [.int ((I 57 8)), .int (Int32.ofNat (h0 + g))]) (pc := 46) (gd gk_54 26 rfl) (by decide) rfl rfl (Nat.le_of_ble_eq_true rfl) gq_54_96 (Nat.le_of_ble_eq_true rfl) (c_in ((I 57 8)) (Int32.ofNat (h0 + g))) (fun r_46 w_46 q_46 => ?_)
    obtain ⟨rfl, rfl⟩ := q_46
    refine gs_istore (ls2 := fun v => [(0, .ref (57)), (1, .int (Int32.ofNat g)), (2, .int (Int32.ofNat (h0 + g))), (3, .int (v3_1)), (4, .int (v))]) (pc := 49) (gd gk_54 27 rfl) (by rw [gL_54]; decide) (fun _ => rfl) (fun v4_1 hv4_1 => ?_)
    subst hv3_1
    rw [hbk] at hv4_1
    subst hv4_1
    refine gs_aload_n (pc := 51) (gd gk_54 28 rfl) rfl ?_
    refine gs_getR (r := 58) (pc := 52) (gd gk_54 29 rfl) rfl rfl rfl (by decide) ?_
    refine gs_iload_n (pc := 55) (gd gk_54 30 rfl) rfl ?_
    refine gs_iconst (pc := 56) (gd gk_54 31 rfl) (1) rfl ?_
    refine gs_iadd (pc := 57) (gd gk_54 32 rfl) ?_
    refine gs_aaloadK (r := 59 + (g + 1)) ((g + 1)) (9) (pc := 58) (gd gk_54 33 rfl) (Or.inr rfl) rfl (by decide) (by first | rfl | (simp only [Int32.ofNat_add, Int32.ofNat_mul]; rfl) | (simp only [Int32.ofNat_add, Int32.ofNat_mul])) (by omega) rfl (by omega) ?_
    refine gs_astore (ls2 := fun v => [(0, .ref (57)), (1, .int (Int32.ofNat g)), (2, .int (Int32.ofNat (h0 + g))), (3, .int (v3_1)), (4, .int (gz_b bk)), (5, .ref (v))]) (pc := 59) (gd gk_54 34 rfl) (by rw [gL_54]; decide) (fun _ => rfl) (fun o5_1 ho5_1 => ?_)
    subst ho5_1
    refine gs_aload_n (pc := 61) (gd gk_54 35 rfl) rfl ?_
    refine gs_getR (r := 58) (pc := 62) (gd gk_54 36 rfl) rfl rfl rfl (by decide) ?_
    refine gs_iload_n (pc := 65) (gd gk_54 37 rfl) rfl ?_
    refine gs_aaloadK (r := 59 + g) (g) (9) (pc := 66) (gd gk_54 38 rfl) (Or.inr rfl) rfl (by decide) (by first | rfl | (simp only [Int32.ofNat_add, Int32.ofNat_mul]; rfl) | (simp only [Int32.ofNat_add, Int32.ofNat_mul])) (by omega) rfl (by omega) ?_
    refine gs_aload (pc := 67) (gd gk_54 39 rfl) rfl ?_
    refine gs_iload_n (pc := 69) (gd gk_54 40 rfl) rfl ?_
    refine gs_callS (as := [.ref (59 + g), .ref (59 + (g + 1)), .int (v3_1)]) (pc := 70) (gd gk_54 41 rfl) (by decide) rfl rfl (Nat.le_of_ble_eq_true rfl) gq_54_55 (Nat.le_of_ble_eq_true rfl) (c_drift (59 + g) (59 + (g + 1)) v3_1 (by omega) (gt59 (by omega)).1 (gt59 (by omega)).2 (gt59 (by omega)).1 (gt59 (by omega)).2) (fun r_70 w_70 q_70 => ?_)
    obtain ⟨rfl, I_d, rfl, hd1, hd2⟩ := q_70
    refine gs_iload (pc := 73) (gd gk_54 42 rfl) rfl ?_
    refine gs_if_eq (pc := 75) (gd gk_54 43 rfl) (fun c75 => ?_) (fun c75 => ?_)
    · -- end 1: stop, pc 95, locals [(0, .ref (57)), (1, .int (Int32.ofNat g)), (2, .int (Int32.ofNat (h0 + g))), (3, .int (v3_1)), (4, .int (gz_b bk)), (5, .ref (59 + (g + 1)))]
      have hb0 := gz_b_eq.mp c75
      exact join95 I_d (fun c hc => by rw [hd1 c hc, hb0]; simp) hd2
    · refine gs_aload (pc := 78) (gd gk_54 44 rfl) rfl ?_
      refine gs_aload_n (pc := 80) (gd gk_54 45 rfl) rfl ?_
      refine gs_getI (pc := 81) (gd gk_54 46 rfl) rfl rfl ?_
      refine gs_as (Int32.ofNat bc) (by rw [hd2 57 (by omega)]; exact hbc) ?_
      refine gs_dup2 (pc := 84) (gd gk_54 47 rfl) rfl rfl ?_
      refine gs_ialoadK (bc) (10) (pc := 85) (gd gk_54 48 rfl) (Or.inl (gt59 (by omega)).1) (gt59 (by omega)).2 (by decide) (by first | rfl | (simp only [Int32.ofNat_add, Int32.ofNat_mul]; rfl) | (simp only [Int32.ofNat_add, Int32.ofNat_mul])) (by omega) ?_
      refine gs_aload_n (pc := 86) (gd gk_54 49 rfl) rfl ?_
      refine gs_getR (r := 6) (pc := 87) (gd gk_54 50 rfl) rfl rfl rfl (by decide) ?_
      refine gs_getI (pc := 90) (gd gk_54 51 rfl) rfl rfl ?_
      refine gs_iadd (pc := 93) (gd gk_54 52 rfl) ?_
      refine gs_iastoreK (bc) (10) gs_sl (pc := 94) (gd gk_54 53 rfl) (gt59 (by omega)).1 (gt59 (by omega)).2 (by decide) (by first | rfl | (simp only [Int32.ofNat_add, Int32.ofNat_mul]; rfl) | (simp only [Int32.ofNat_add, Int32.ofNat_mul])) (by omega) (fun I_1 hI_1 => ?_)
      -- end 2: stop, pc 95, locals [(0, .ref (57)), (1, .int (Int32.ofNat g)), (2, .int (Int32.ofNat (h0 + g))), (3, .int (v3_1)), (4, .int (gz_b bk)), (5, .ref (59 + (g + 1)))]
      have hb1 := gz_b_ne.mp c75
      refine join95 I_1 (fun c hc => ?_) (fun p hp => by rw [hI_1, gw_u_o hp, hd2 p hp])
      rw [hI_1, gw_u_s, hb1]
      unfold upd
      by_cases q : c = bc
      · subst q; rw [if_pos rfl, hd1 _ hc, hd2 6 (by omega)]; simp [gz_S]
      · rw [if_neg q, hd1 c hc]; simp [q]
  refine gs_aload_n (pc := 0) (gd gk_54 0 rfl) rfl ?_
  refine gs_getI (pc := 1) (gd gk_54 1 rfl) rfl rfl ?_
  refine gs_as (Int32.ofNat h0) (hh) ?_
  refine gs_iload_n (pc := 4) (gd gk_54 2 rfl) rfl ?_
  refine gs_iadd (pc := 5) (gd gk_54 3 rfl) ?_
  refine gs_istore_n (ls2 := fun v => [(0, .ref (57)), (1, .int (Int32.ofNat g)), (2, .int (v))]) (pc := 6) (gd gk_54 4 rfl) (by rw [gL_54]; decide) (fun _ => rfl) (fun v2_1 hv2_1 => ?_)
  obtain rfl : v2_1 = Int32.ofNat ((h0 + g)) := hv2_1.trans (by first | rfl | (simp only [Int32.ofNat_add, Int32.ofNat_mul]; rfl) | (simp only [Int32.ofNat_add, Int32.ofNat_mul]))
  refine gs_aload_n (pc := 7) (gd gk_54 5 rfl) rfl ?_
  refine gs_getI (pc := 8) (gd gk_54 6 rfl) rfl rfl ?_
  refine gs_iload_n (pc := 11) (gd gk_54 7 rfl) rfl ?_
  refine gs_callS (as := [.int ((I 57 9)), .int (Int32.ofNat ((h0 + g)))]) (pc := 12) (gd gk_54 8 rfl) (by decide) rfl rfl (Nat.le_of_ble_eq_true rfl) gq_54_96 (Nat.le_of_ble_eq_true rfl) (c_in ((I 57 9)) (Int32.ofNat ((h0 + g)))) (fun r_12 w_12 q_12 => ?_)
  obtain ⟨rfl, rfl⟩ := q_12
  refine gs_if_eq (pc := 15) (gd gk_54 9 rfl) (fun c15 => ?_) (fun c15 => ?_)
  · refine gs_aload_n (pc := 31) (gd gk_54 17 rfl) rfl ?_
    refine gs_getR (r := 6) (pc := 32) (gd gk_54 18 rfl) rfl rfl rfl (by decide) ?_
    refine gs_getR (r := 7) (pc := 35) (gd gk_54 19 rfl) rfl rfl rfl (by decide) ?_
    refine gs_iload_n (pc := 38) (gd gk_54 20 rfl) rfl ?_
    refine gs_ialoadK (((h0 + g))) (8) (pc := 39) (gd gk_54 21 rfl) (Or.inl rfl) rfl (by decide) (by first | rfl | (simp only [Int32.ofNat_add, Int32.ofNat_mul]; rfl) | (simp only [Int32.ofNat_add, Int32.ofNat_mul])) (by omega) ?_
    -- end 1: stop, pc 40, locals [(0, .ref (57)), (1, .int (Int32.ofNat g)), (2, .int (Int32.ofNat ((h0 + g))))]
    have e9 : I 7 (h0 + g) = wd := by rw [← hwd]; unfold gq_wd; rw [gz_b_eq.mp c15]; rfl
    rw [e9]; exact join40
  · refine gs_aload_n (pc := 18) (gd gk_54 10 rfl) rfl ?_
    refine gs_getR (r := 6) (pc := 19) (gd gk_54 11 rfl) rfl rfl rfl (by decide) ?_
    refine gs_getR (r := 7) (pc := 22) (gd gk_54 12 rfl) rfl rfl rfl (by decide) ?_
    refine gs_iload_n (pc := 25) (gd gk_54 13 rfl) rfl ?_
    refine gs_ialoadK (((h0 + g))) (8) (pc := 26) (gd gk_54 14 rfl) (Or.inl rfl) rfl (by decide) (by first | rfl | (simp only [Int32.ofNat_add, Int32.ofNat_mul]; rfl) | (simp only [Int32.ofNat_add, Int32.ofNat_mul])) (by omega) ?_
    refine gs_ineg (pc := 27) (gd gk_54 15 rfl) ?_
    refine gs_goto (pc := 28) (gd gk_54 16 rfl) ?_
    -- end 2: stop, pc 40, locals [(0, .ref (57)), (1, .int (Int32.ofNat g)), (2, .int (Int32.ofNat ((h0 + g))))]
    have e9 : -(I 7 (h0 + g)) = wd := by rw [← hwd]; unfold gq_wd; rw [gz_b_ne.mp c15]; rfl
    rw [e9]; exact join40
theorem gq_rel_eq {I I2 : Nat → Nat → Int32} {N g : Nat} {wd : Int32} {bk : Bool} {bc : Nat} {ch : Int32} (h : gq_rel I N g wd bk bc ch) (hS : gz_S I2 = gz_S I) (h1 : I2 (59 + g) = I (59 + g)) (h2 : I2 (59 + (g + 1)) = I (59 + (g + 1))) (h3 : I2 (69 + g) = I (69 + g)) (h4 : I2 (69 + (g + 1)) = I (69 + (g + 1))) (h5 : ∀ p, p = 78 ∨ p = 79 ∨ p = 80 → I2 p g = I p g ∧ I2 p (g + 1) = I p (g + 1)) : gq_rel I2 N g wd bk bc ch := by
  obtain ⟨a1, a2, a3, a4, a5⟩ := h
  refine ⟨?_, ?_, ?_, ?_, ?_⟩
  · rw [hS, h1, h2]; exact a1
  · rw [hS, h2, h3, h4]; exact a2
  · rw [hS, h2, (h5 78 (Or.inl rfl)).1, (h5 78 (Or.inl rfl)).2]; exact a3
  · rw [hS, h2, (h5 79 (Or.inr (Or.inl rfl))).1, (h5 79 (Or.inr (Or.inl rfl))).2]; exact a4
  · rw [hS, h2, (h5 80 (Or.inr (Or.inr rfl))).2]; exact a5
/-- rows 0 to g are those of a plan and of turns, from hour h0 on -/
def gq_rows (I : Nat → Nat → Int32) (N h0 : Nat) (pl tr : Int32) (bc : Nat) (ch : Int32) (g : Nat) : Prop := ∀ q, q < g → gq_rel I N q (gq_wd (gz_S I) tr (h0 + q)) (gz_in pl (Int32.ofNat (h0 + q))) bc ch
/-- the cells that a walk may change: its rows behind the first, its numbers 8, 9, 10 -/
def gq_wf (I I2 : Nat → Nat → Int32) : Prop := (∀ p, ¬ (60 ≤ p ∧ p ≤ 67) → ¬ (70 ≤ p ∧ p ≤ 80) → p ≠ 57 → I2 p = I p) ∧ (∀ p, p = 78 ∨ p = 79 ∨ p = 80 → I2 p 0 = I p 0) ∧ ∀ q, q ≠ 8 → q ≠ 9 → q ≠ 10 → I2 57 q = I 57 q
theorem gq_wf_tr {I I2 I3 : Nat → Nat → Int32} (h : gq_wf I I2) (h' : gq_wf I2 I3) : gq_wf I I3 := ⟨fun p a b c => (h'.1 p a b c).trans (h.1 p a b c), fun p a => (h'.2.1 p a).trans (h.2.1 p a), fun q a b c => (h'.2.2 q a b c).trans (h.2.2 q a b c)⟩
theorem gq_wf_S {I I2 : Nat → Nat → Int32} (h : gq_wf I I2) : gz_S I2 = gz_S I := gz_S_eq (fun p h1 h2 => h.1 p (by omega) (by omega) (by omega))
theorem gq_wf_rf (I : Nat → Nat → Int32) : gq_wf I I := ⟨fun _ _ _ _ => rfl, fun _ _ => rfl, fun _ _ _ _ => rfl⟩
theorem c_take {V : gw_V} {n W N : Nat} {I : Nat → Nat → Int32} {J : Nat → Nat → Int64} (pl tr : Int32) (h0 bc L fo : Nat) (hok : gq_ok (gz_S I) W N) (hh : I 57 11 = Int32.ofNat h0) (hL : I 57 12 = Int32.ofNat L) (hW : h0 + L = W) (hbc : I 57 7 = Int32.ofNat bc) (hbc9 : bc < 10) (hfo : I 57 10 = Int32.ofNat fo) (hfoL : fo ≤ L) (hro : gq_rows I N h0 (I 57 8) (I 57 9) bc (I 57 6) fo) : gw_E V 53 (0, [(0, .ref 57), (1, .int pl), (2, .int tr)], [], gS n I J, 0, 0)
    (fun v w' => v = none ∧ ∃ I2, w' = gS n I2 J ∧ gq_wf I I2 ∧ I2 57 8 = pl ∧ I2 57 9 = tr ∧ I2 57 10 = Int32.ofNat L ∧ gq_rows I2 N h0 pl tr bc (I 57 6) L) := by
  obtain ⟨-, hW8, -, hN6, -, -, -, -, -⟩ := id hok
  have lp2 : ∀ (m k : Nat), m + k = L → ∀ (x y : Int32) (I1 : Nat → Nat → Int32), gq_wf I I1 → I1 57 8 = pl → I1 57 9 = tr → gq_rows I1 N h0 pl tr bc (I 57 6) k → gw_E V 53 (60, [(0, .ref 57), (1, .int pl), (2, .int tr), (3, .int x), (4, .int y), (5, .int (Int32.ofNat k))], [], gS n I1 J, 0, 0)
      (fun v w' => v = none ∧ ∃ I2, w' = gS n I2 J ∧ gq_wf I I2 ∧ I2 57 8 = pl ∧ I2 57 9 = tr ∧ I2 57 10 = Int32.ofNat L ∧ gq_rows I2 N h0 pl tr bc (I 57 6) L) := by
    intro m
    induction m with
    | zero =>
      intro k hk x y I1 h1 h2 h3 h4
      obtain rfl : k = L := by omega
      have hL1 : I1 57 12 = Int32.ofNat k := by rw [h1.2.2 12 (by omega) (by omega) (by omega)]; exact hL
      refine gs_iload (pc := 60) (gd gk_53 33 rfl) rfl ?_
      refine gs_aload_n (pc := 62) (gd gk_53 34 rfl) rfl ?_
      refine gs_getI (pc := 63) (gd gk_53 35 rfl) rfl rfl ?_
      refine gs_as (Int32.ofNat k) (hL1) ?_
      refine gs_icmp_ge (pc := 66) (gd gk_53 36 rfl) (fun c66 => ?_) (fun c66 => ?_)
      · replace c66 : k ≤ k := (zle (k := k) (m := k) (by omega) (by omega)).mp c66
        refine gs_aload_n (pc := 81) (gd gk_53 42 rfl) rfl ?_
        refine gs_aload_n (pc := 82) (gd gk_53 43 rfl) rfl ?_
        refine gs_getI (pc := 83) (gd gk_53 44 rfl) rfl rfl ?_
        refine gs_as (Int32.ofNat k) (hL1) ?_
        refine gs_putI (pc := 86) (gd gk_53 45 rfl) rfl rfl rfl rfl (fun I_1 hI_1 => ?_)
        -- end 1: return, pc 89, locals [(0, .ref (57)), (1, .int (pl)), (2, .int (tr)), (3, .int (x)), (4, .int (y)), (5, .int (Int32.ofNat k))]
        have hw : gq_wf I1 I_1 := ⟨fun p _ _ q3 => by rw [hI_1, gw_u_o q3], fun p q1 => by rw [hI_1, gw_u_o (by omega)], fun q q1 q2 q3 => by rw [hI_1, gw_u_s]; simp [upd, q3]⟩
        exact gs_ret (pc := 89) (gd gk_53 46 rfl) rfl (Nat.zero_le _) (Nat.zero_le _) (⟨rfl, I_1, rfl, gq_wf_tr h1 hw, by rw [hI_1, gw_u_s]; simp [upd, h2], by rw [hI_1, gw_u_s]; simp [upd, h3], by rw [hI_1, gw_u_s]; simp [upd], fun q hq => by
          rw [gq_wf_S hw]
          exact gq_rel_eq (h4 q hq) (gq_wf_S hw) (by rw [hI_1, gw_u_o (by omega)]) (by rw [hI_1, gw_u_o (by omega)]) (by rw [hI_1, gw_u_o (by omega)]) (by rw [hI_1, gw_u_o (by omega)]) (fun p hp => by rw [hI_1, gw_u_o (by omega)]; exact ⟨rfl, rfl⟩)⟩)
      · replace c66 : ¬ (k ≤ k) := fun q9 => c66 ((zle (k := k) (m := k) (by omega) (by omega)).mpr q9)
        -- end 2: stop, pc 69, locals [(0, .ref (57)), (1, .int (pl)), (2, .int (tr)), (3, .int (x)), (4, .int (y)), (5, .int (Int32.ofNat k))]
        exact absurd (Nat.le_refl k) c66
    | succ m ih =>
      intro k hk x y I1 h1 h2 h3 h4
      have hL1 : I1 57 12 = Int32.ofNat L := by rw [h1.2.2 12 (by omega) (by omega) (by omega)]; exact hL
      have hok1 : gq_ok (gz_S I1) W N := by rw [gq_wf_S h1]; exact hok
      refine gs_iload (pc := 60) (gd gk_53 33 rfl) rfl ?_
      refine gs_aload_n (pc := 62) (gd gk_53 34 rfl) rfl ?_
      refine gs_getI (pc := 63) (gd gk_53 35 rfl) rfl rfl ?_
      refine gs_as (Int32.ofNat L) (hL1) ?_
      refine gs_icmp_ge (pc := 66) (gd gk_53 36 rfl) (fun c66 => ?_) (fun c66 => ?_)
      · replace c66 : L ≤ k := (zle (k := L) (m := k) (by omega) (by omega)).mp c66
        refine gs_aload_n (pc := 81) (gd gk_53 42 rfl) rfl ?_
        refine gs_aload_n (pc := 82) (gd gk_53 43 rfl) rfl ?_
        refine gs_getI (pc := 83) (gd gk_53 44 rfl) rfl rfl ?_
        refine gs_as (Int32.ofNat L) (hL1) ?_
        refine gs_putI (pc := 86) (gd gk_53 45 rfl) rfl rfl rfl rfl (fun I_1 hI_1 => ?_)
        -- end 1: return, pc 89, locals [(0, .ref (57)), (1, .int (pl)), (2, .int (tr)), (3, .int (x)), (4, .int (y)), (5, .int (Int32.ofNat k))]
        exact absurd c66 (by omega)
      · replace c66 : ¬ (L ≤ k) := fun q9 => c66 ((zle (k := L) (m := k) (by omega) (by omega)).mpr q9)
        refine gs_aload_n (pc := 69) (gd gk_53 37 rfl) rfl ?_
        refine gs_iload (pc := 70) (gd gk_53 38 rfl) rfl ?_
        refine gs_callV (as := [.int (Int32.ofNat k)]) (pc := 72) (gd gk_53 39 rfl) (by decide) rfl (by decide) rfl rfl (Nat.le_of_ble_eq_true rfl) gq_53_54 (Nat.le_of_ble_eq_true rfl) (c_pass (W := W) (N := N) k h0 bc (by omega) hok1 (by rw [h1.2.2 11 (by omega) (by omega) (by omega)]; exact hh) (by omega) (by rw [h1.2.2 7 (by omega) (by omega) (by omega)]; exact hbc) hbc9) (fun r_72 w_72 q_72 => ?_)
        obtain ⟨rfl, I_p, rfl, hp1, hp2⟩ := q_72
        refine gs_iinc (ls2 := fun v => [(0, .ref (57)), (1, .int (pl)), (2, .int (tr)), (3, .int (x)), (4, .int (y)), (5, .int (v))]) (pc := 75) (gd gk_53 40 rfl) rfl (by rw [gL_53]; decide) (fun _ => rfl) (1) rfl (fun v5_1 hv5_1 => ?_)
        obtain rfl : v5_1 = Int32.ofNat (k + 1) := hv5_1.trans (by first | rfl | (simp only [Int32.ofNat_add, Int32.ofNat_mul]; rfl) | (simp only [Int32.ofNat_add, Int32.ofNat_mul]))
        refine gs_goto (pc := 78) (gd gk_53 41 rfl) ?_
        -- end 2: stop, pc 60, locals [(0, .ref (57)), (1, .int (pl)), (2, .int (tr)), (3, .int (x)), (4, .int (y)), (5, .int (Int32.ofNat (k + 1)))]
        have hw : gq_wf I1 I_p := ⟨fun p q1 q2 q3 => hp2.1 p (by omega) (by omega) (by omega) (by omega) (by omega), fun p q1 => hp2.2 p 0 (by omega) q1, fun q _ _ _ => by rw [hp2.1 57 (by omega) (by omega) (by omega) (by omega) (by omega)]⟩
        have h57 : I_p 57 = I1 57 := hp2.1 57 (by omega) (by omega) (by omega) (by omega) (by omega)
        refine ih (k + 1) (by omega) x y I_p (gq_wf_tr h1 hw) (by rw [h57]; exact h2) (by rw [h57]; exact h3) (fun q hq => ?_)
        rw [gq_wf_S hw]
        by_cases e : q = k
        · subst e
          rw [h2, h3, h1.2.2 6 (by omega) (by omega) (by omega)] at hp1
          exact hp1
        · exact gq_rel_eq (h4 q (by omega)) (gq_wf_S hw) (hp2.1 _ (by omega) (by omega) (by omega) (by omega) (by omega)) (hp2.1 _ (by omega) (by omega) (by omega) (by omega) (by omega)) (hp2.1 _ (by omega) (by omega) (by omega) (by omega) (by omega)) (hp2.1 _ (by omega) (by omega) (by omega) (by omega) (by omega)) (fun p hp => ⟨hp2.2 p q (by omega) hp, hp2.2 p (q + 1) (by omega) hp⟩)
  have join46 : ∀ k, k ≤ fo → (∀ q, q < k → gz_in ((pl ^^^ I 57 8) ||| (tr ^^^ I 57 9)) (Int32.ofNat (h0 + q)) = false) → gw_E V 53 (46, [(0, .ref 57), (1, .int pl), (2, .int tr), (3, .int ((pl ^^^ I 57 8) ||| (tr ^^^ I 57 9))), (4, .int (Int32.ofNat k))], [], gS n I J, 0, 0)
      (fun v w' => v = none ∧ ∃ I2, w' = gS n I2 J ∧ gq_wf I I2 ∧ I2 57 8 = pl ∧ I2 57 9 = tr ∧ I2 57 10 = Int32.ofNat L ∧ gq_rows I2 N h0 pl tr bc (I 57 6) L) := by
    intro k hk hs
    refine gs_aload_n (pc := 46) (gd gk_53 25 rfl) rfl ?_
    refine gs_iload_n (pc := 47) (gd gk_53 26 rfl) rfl ?_
    refine gs_putI (pc := 48) (gd gk_53 27 rfl) rfl rfl rfl rfl (fun I_1 hI_1 => ?_)
    refine gs_aload_n (pc := 51) (gd gk_53 28 rfl) rfl ?_
    refine gs_iload_n (pc := 52) (gd gk_53 29 rfl) rfl ?_
    refine gs_putI (pc := 53) (gd gk_53 30 rfl) rfl rfl rfl rfl (fun I_2 hI_2 => ?_)
    refine gs_iload (pc := 56) (gd gk_53 31 rfl) rfl ?_
    refine gs_istore (ls2 := fun v => [(0, .ref (57)), (1, .int (pl)), (2, .int (tr)), (3, .int (((pl ^^^ (I 57 8)) ||| (tr ^^^ (I 57 9))))), (4, .int (Int32.ofNat k)), (5, .int (v))]) (pc := 58) (gd gk_53 32 rfl) (by rw [gL_53]; decide) (fun _ => rfl) (fun v5_1 hv5_1 => ?_)
    obtain rfl : v5_1 = Int32.ofNat k := hv5_1.trans (by first | rfl | (simp only [Int32.ofNat_add, Int32.ofNat_mul]; rfl) | (simp only [Int32.ofNat_add, Int32.ofNat_mul]))
    -- end 1: stop, pc 60, locals [(0, .ref (57)), (1, .int (pl)), (2, .int (tr)), (3, .int (((pl ^^^ (I 57 8)) ||| (tr ^^^ (I 57 9))))), (4, .int (Int32.ofNat k)), (5, .int (Int32.ofNat k))]
    have hw : gq_wf I I_2 := ⟨fun p _ _ q3 => by rw [hI_2, gw_u_o q3, hI_1, gw_u_o q3], fun p q1 => by rw [hI_2, gw_u_o (by omega), hI_1, gw_u_o (by omega)], fun q q1 q2 q3 => by rw [hI_2, gw_u_s, hI_1, gw_u_s]; simp [upd, q1, q2]⟩
    refine lp2 (L - k) k (by omega) _ _ I_2 hw (by rw [hI_2, gw_u_s, hI_1, gw_u_s]; simp [upd]) (by rw [hI_2, gw_u_s]; simp [upd]) (fun q hq => ?_)
    have e1 := hs q hq
    rw [gz_or _ _ (by omega), gz_xor _ _ (by omega), gz_xor _ _ (by omega)] at e1
    have e2 : gz_in pl (Int32.ofNat (h0 + q)) = gz_in (I 57 8) (Int32.ofNat (h0 + q)) ∧ gz_in tr (Int32.ofNat (h0 + q)) = gz_in (I 57 9) (Int32.ofNat (h0 + q)) := by revert e1; cases gz_in pl (Int32.ofNat (h0 + q)) <;> cases gz_in (I 57 8) (Int32.ofNat (h0 + q)) <;> cases gz_in tr (Int32.ofNat (h0 + q)) <;> cases gz_in (I 57 9) (Int32.ofNat (h0 + q)) <;> decide
    rw [gq_wf_S hw, e2.1, show gq_wd (gz_S I) tr (h0 + q) = gq_wd (gz_S I) (I 57 9) (h0 + q) by unfold gq_wd; rw [e2.2]]
    exact gq_rel_eq (hro q (by omega)) (gq_wf_S hw) (by rw [hI_2, gw_u_o (by omega), hI_1, gw_u_o (by omega)]) (by rw [hI_2, gw_u_o (by omega), hI_1, gw_u_o (by omega)]) (by rw [hI_2, gw_u_o (by omega), hI_1, gw_u_o (by omega)]) (by rw [hI_2, gw_u_o (by omega), hI_1, gw_u_o (by omega)]) (fun p hp => by rw [hI_2, gw_u_o (by omega), hI_1, gw_u_o (by omega)]; exact ⟨rfl, rfl⟩)
  have lp1 : ∀ (m k : Nat), m + k = fo → (∀ q, q < k → gz_in ((pl ^^^ I 57 8) ||| (tr ^^^ I 57 9)) (Int32.ofNat (h0 + q)) = false) → gw_E V 53 (17, [(0, .ref 57), (1, .int pl), (2, .int tr), (3, .int ((pl ^^^ I 57 8) ||| (tr ^^^ I 57 9))), (4, .int (Int32.ofNat k))], [], gS n I J, 0, 0)
      (fun v w' => v = none ∧ ∃ I2, w' = gS n I2 J ∧ gq_wf I I2 ∧ I2 57 8 = pl ∧ I2 57 9 = tr ∧ I2 57 10 = Int32.ofNat L ∧ gq_rows I2 N h0 pl tr bc (I 57 6) L) := by
    intro m
    induction m with
    | zero =>
      intro k hk hs
      obtain rfl : k = fo := by omega
      refine gs_iload (pc := 17) (gd gk_53 12 rfl) rfl ?_
      refine gs_aload_n (pc := 19) (gd gk_53 13 rfl) rfl ?_
      refine gs_getI (pc := 20) (gd gk_53 14 rfl) rfl rfl ?_
      refine gs_as (Int32.ofNat k) (hfo) ?_
      refine gs_icmp_ge (pc := 23) (gd gk_53 15 rfl) (fun c23 => ?_) (fun c23 => ?_)
      · replace c23 : k ≤ k := (zle (k := k) (m := k) (by omega) (by omega)).mp c23
        -- end 1: stop, pc 46, locals [(0, .ref (57)), (1, .int (pl)), (2, .int (tr)), (3, .int (((pl ^^^ (I 57 8)) ||| (tr ^^^ (I 57 9))))), (4, .int (Int32.ofNat k))]
        exact join46 k (Nat.le_refl k) hs
      · replace c23 : ¬ (k ≤ k) := fun q9 => c23 ((zle (k := k) (m := k) (by omega) (by omega)).mpr q9)
        -- end 2: stop, pc 26, locals [(0, .ref (57)), (1, .int (pl)), (2, .int (tr)), (3, .int (((pl ^^^ (I 57 8)) ||| (tr ^^^ (I 57 9))))), (4, .int (Int32.ofNat k))]
        exact absurd (Nat.le_refl k) c23
    | succ m ih =>
      intro k hk hs
      refine gs_iload (pc := 17) (gd gk_53 12 rfl) rfl ?_
      refine gs_aload_n (pc := 19) (gd gk_53 13 rfl) rfl ?_
      refine gs_getI (pc := 20) (gd gk_53 14 rfl) rfl rfl ?_
      refine gs_as (Int32.ofNat fo) (hfo) ?_
      refine gs_icmp_ge (pc := 23) (gd gk_53 15 rfl) (fun c23 => ?_) (fun c23 => ?_)
      · replace c23 : fo ≤ k := (zle (k := fo) (m := k) (by omega) (by omega)).mp c23
        -- end 1: stop, pc 46, locals [(0, .ref (57)), (1, .int (pl)), (2, .int (tr)), (3, .int (((pl ^^^ (I 57 8)) ||| (tr ^^^ (I 57 9))))), (4, .int (Int32.ofNat k))]
        exact absurd c23 (by omega)
      · replace c23 : ¬ (fo ≤ k) := fun q9 => c23 ((zle (k := fo) (m := k) (by omega) (by omega)).mpr q9)
        refine gs_iload_n (pc := 26) (gd gk_53 16 rfl) rfl ?_
        refine gs_aload_n (pc := 27) (gd gk_53 17 rfl) rfl ?_
        refine gs_getI (pc := 28) (gd gk_53 18 rfl) rfl rfl ?_
        refine gs_as (Int32.ofNat h0) (hh) ?_
        refine gs_iload (pc := 31) (gd gk_53 19 rfl) rfl ?_
        refine gs_iadd (pc := 33) (gd gk_53 20 rfl) ?_
        refine gs_callS (as := [.int (((pl ^^^ (I 57 8)) ||| (tr ^^^ (I 57 9)))), .int ((Int32.ofNat h0 + Int32.ofNat k))]) (pc := 34) (gd gk_53 21 rfl) (by decide) rfl rfl (Nat.le_of_ble_eq_true rfl) gq_53_96 (Nat.le_of_ble_eq_true rfl) (c_in ((pl ^^^ I 57 8) ||| (tr ^^^ I 57 9)) (Int32.ofNat h0 + Int32.ofNat k)) (fun r_34 w_34 q_34 => ?_)
        rw [← Int32.ofNat_add] at q_34
        obtain ⟨rfl, rfl⟩ := q_34
        refine gs_if_ne (pc := 37) (gd gk_53 22 rfl) (fun c37 => ?_) (fun c37 => ?_)
        · -- end 2: stop, pc 46, locals [(0, .ref (57)), (1, .int (pl)), (2, .int (tr)), (3, .int (((pl ^^^ (I 57 8)) ||| (tr ^^^ (I 57 9))))), (4, .int (Int32.ofNat k))]
          exact join46 k (by omega) hs
        · refine gs_iinc (ls2 := fun v => [(0, .ref (57)), (1, .int (pl)), (2, .int (tr)), (3, .int (((pl ^^^ (I 57 8)) ||| (tr ^^^ (I 57 9))))), (4, .int (v))]) (pc := 40) (gd gk_53 23 rfl) rfl (by rw [gL_53]; decide) (fun _ => rfl) (1) rfl (fun v4_1 hv4_1 => ?_)
          obtain rfl : v4_1 = Int32.ofNat (k + 1) := hv4_1.trans (by first | rfl | (simp only [Int32.ofNat_add, Int32.ofNat_mul]; rfl) | (simp only [Int32.ofNat_add, Int32.ofNat_mul]))
          refine gs_goto (pc := 43) (gd gk_53 24 rfl) ?_
          -- end 3: stop, pc 17, locals [(0, .ref (57)), (1, .int (pl)), (2, .int (tr)), (3, .int (((pl ^^^ (I 57 8)) ||| (tr ^^^ (I 57 9))))), (4, .int (Int32.ofNat (k + 1)))]
          refine ih (k + 1) (by omega) (fun q hq => ?_)
          by_cases e : q = k
          · subst e; exact gz_b_eq.mp c37
          · exact hs q (by omega)
  refine gs_iload_n (pc := 0) (gd gk_53 0 rfl) rfl ?_
  refine gs_aload_n (pc := 1) (gd gk_53 1 rfl) rfl ?_
  refine gs_getI (pc := 2) (gd gk_53 2 rfl) rfl rfl ?_
  refine gs_ixor (pc := 5) (gd gk_53 3 rfl) ?_
  refine gs_iload_n (pc := 6) (gd gk_53 4 rfl) rfl ?_
  refine gs_aload_n (pc := 7) (gd gk_53 5 rfl) rfl ?_
  refine gs_getI (pc := 8) (gd gk_53 6 rfl) rfl rfl ?_
  refine gs_ixor (pc := 11) (gd gk_53 7 rfl) ?_
  refine gs_ior (pc := 12) (gd gk_53 8 rfl) ?_
  refine gs_istore_n (ls2 := fun v => [(0, .ref (57)), (1, .int (pl)), (2, .int (tr)), (3, .int (v))]) (pc := 13) (gd gk_53 9 rfl) (by rw [gL_53]; decide) (fun _ => rfl) (fun v3_1 hv3_1 => ?_)
  refine gs_iconst (pc := 14) (gd gk_53 10 rfl) (0) rfl ?_
  refine gs_istore (ls2 := fun v => [(0, .ref (57)), (1, .int (pl)), (2, .int (tr)), (3, .int (v3_1)), (4, .int (v))]) (pc := 15) (gd gk_53 11 rfl) (by rw [gL_53]; decide) (fun _ => rfl) (fun v4_1 hv4_1 => ?_)
  obtain rfl : v4_1 = Int32.ofNat 0 := hv4_1.trans (by first | rfl | (simp only [Int32.ofNat_add, Int32.ofNat_mul]; rfl) | (simp only [Int32.ofNat_add, Int32.ofNat_mul]))
  -- end 1: stop, pc 17, locals [(0, .ref (57)), (1, .int (pl)), (2, .int (tr)), (3, .int (v3_1)), (4, .int (Int32.ofNat 0))]
  subst hv3_1
  exact lp1 fo 0 (by omega) (fun q hq => absurd hq (Nat.not_lt_zero _))
end
section
/-! ===== hours by hours, in numbers ===== -/
/-- the smells behind g hours -/
def gq_sq (σ : Nat → Nat → Int32) (wd : Nat → Int32) (pl : Nat → Bool) (bc : Nat) (ch : Int32) (s0 : Nat → Int32) : Nat → Nat → Int32
  | 0 => s0
  | g + 1 => gq_st σ (wd g) (pl g) bc ch (gq_sq σ wd pl bc ch s0 g)
/-- what a nose has paid by then -/
def gq_pd (σ : Nat → Nat → Int32) (wd : Nat → Int32) (pl : Nat → Bool) (bc : Nat) (ch : Int32) (s0 : Nat → Int32) (m : Nat) : Nat → Int32
  | 0 => 0
  | g + 1 => gq_pd σ wd pl bc ch s0 m g + gq_due σ m (gq_has σ (gq_sq σ wd pl bc ch s0 (g + 1)) m) (decide (wd g = 1))
/-- what has come by then, of some noses -/
def gq_cm (σ : Nat → Nat → Int32) (wd : Nat → Int32) (pl : Nat → Bool) (bc : Nat) (ch : Int32) (s0 : Nat → Int32) (so : Nat → Bool) (N : Nat) : Nat → Int32
  | 0 => 0
  | g + 1 => gq_cm σ wd pl bc ch s0 so N g + gq_hc σ (gq_sq σ wd pl bc ch s0 (g + 1)) (pl g) (decide (wd g = 1)) so N
/-- who has had it by then -/
def gq_hd (σ : Nat → Nat → Int32) (wd : Nat → Int32) (pl : Nat → Bool) (bc : Nat) (ch : Int32) (s0 : Nat → Int32) (N : Nat) : Nat → Int32
  | 0 => 0
  | g + 1 => gq_hd σ wd pl bc ch s0 N g ||| gq_who σ (gq_sq σ wd pl bc ch s0 (g + 1)) N
theorem gq_dr_c {s1 s2 : Nat → Int32} (h : ∀ c, c < 10 → s1 c = s2 c) (wd : Int32) (c : Nat) : gq_dr s1 wd c = gq_dr s2 wd c := by
  unfold gq_dr
  by_cases q : 0 ≤ Int32.ofNat c - wd ∧ Int32.ofNat c - wd < 10
  · rw [if_pos q, if_pos q, h _ ((zlt_l q.1 (n := 10) (by decide)).mp q.2)]
  · rw [if_neg q, if_neg q]
theorem gq_st_c {s1 s2 : Nat → Int32} (h : ∀ c, c < 10 → s1 c = s2 c) (σ : Nat → Nat → Int32) (wd : Int32) (bk : Bool) (bc : Nat) (ch : Int32) (c : Nat) : gq_st σ wd bk bc ch s1 c = gq_st σ wd bk bc ch s2 c := by
  unfold gq_st
  rw [gq_dr_c h]
theorem gq_has_c {s1 s2 : Nat → Int32} (h : ∀ c, c < 10 → s1 c = s2 c) {σ : Nat → Nat → Int32} {m : Nat} (h2 : 0 ≤ σ 2 m ∧ σ 2 m ≤ 9) : gq_has σ s1 m = gq_has σ s2 m := by
  unfold gq_has
  rw [h _ (by have := (zle_l h2.1 (n := 9) (by decide)).mp h2.2; omega)]
theorem gq_who_c {s1 s2 : Nat → Int32} (h : ∀ c, c < 10 → s1 c = s2 c) {σ : Nat → Nat → Int32} : ∀ {N : Nat}, (∀ m, m < N → 0 ≤ σ 2 m ∧ σ 2 m ≤ 9) → gq_who σ s1 N = gq_who σ s2 N
  | 0, _ => rfl
  | N + 1, hn => by
    unfold gq_who
    rw [gq_has_c h (hn N (by omega)), gq_who_c h (N := N) (fun m hm => hn m (by omega))]
theorem gq_hc_c {s1 s2 : Nat → Int32} (h : ∀ c, c < 10 → s1 c = s2 c) {σ : Nat → Nat → Int32} {bk ea : Bool} {so : Nat → Bool} : ∀ {N : Nat}, (∀ m, m < N → 0 ≤ σ 2 m ∧ σ 2 m ≤ 9) → gq_hc σ s1 bk ea so N = gq_hc σ s2 bk ea so N
  | 0, _ => rfl
  | N + 1, hn => by
    unfold gq_hc
    rw [gq_has_c h (hn N (by omega)), gq_hc_c h (N := N) (fun m hm => hn m (by omega))]
/-- what the rows hold, in numbers -/
def gq_res (I : Nat → Nat → Int32) (N L : Nat) (σ : Nat → Nat → Int32) (wd : Nat → Int32) (pl : Nat → Bool) (bc : Nat) (ch : Int32) (s0 : Nat → Int32) : Prop := ∀ g, g ≤ L → (∀ c, c < 10 → I (59 + g) c = gq_sq σ wd pl bc ch s0 g c) ∧ (∀ m, m < N → I (69 + g) m = gq_pd σ wd pl bc ch s0 m g) ∧ I 78 g = gq_cm σ wd pl bc ch s0 (fun _ => true) N g ∧ I 79 g = gq_hd σ wd pl bc ch s0 N g ∧ (0 < g → I 80 g = gq_who σ (gq_sq σ wd pl bc ch s0 g) N)
theorem gq_res_of {I : Nat → Nat → Int32} {W N h0 L bc : Nat} {pl tr ch : Int32} {s0 : Nat → Int32} (hok : gq_ok (gz_S I) W N) (h78 : I 78 0 = 0) (h79 : I 79 0 = 0) (h69 : ∀ m, m < N → I 69 m = 0) (h59 : I 59 = s0) (hr : gq_rows I N h0 pl tr bc ch L) : gq_res I N L (gz_S I) (fun q => gq_wd (gz_S I) tr (h0 + q)) (fun q => gz_in pl (Int32.ofNat (h0 + q))) bc ch s0 := by
  have hc : ∀ m, m < N → 0 ≤ gz_S I 2 m ∧ gz_S I 2 m ≤ 9 := fun m hm => (hok.2.2.2.2.2.2.2.2 m hm).1
  intro g
  induction g with
  | zero =>
    intro _
    exact ⟨fun c _ => by rw [show 59 + 0 = 59 from rfl, h59]; rfl, fun m hm => by rw [show 69 + 0 = 69 from rfl, h69 m hm]; rfl, h78, h79, fun h => absurd h (Nat.lt_irrefl 0)⟩
  | succ g ih =>
    intro hg
    obtain ⟨a1, a2, a3, a4, -⟩ := ih (by omega)
    obtain ⟨b1, b2, b3, b4, b5⟩ := hr g (by omega)
    have e : ∀ c, c < 10 → I (59 + (g + 1)) c = gq_sq (gz_S I) (fun q => gq_wd (gz_S I) tr (h0 + q)) (fun q => gz_in pl (Int32.ofNat (h0 + q))) bc ch s0 (g + 1) c := fun c hc9 => by
      rw [b1 c hc9, gq_st_c a1]; rfl
    refine ⟨e, fun m hm => ?_, ?_, ?_, fun _ => ?_⟩
    · rw [b2 m hm, a2 m hm, gq_has_c e (hc m hm)]; rfl
    · rw [b3, a3, gq_hc_c e hc]; rfl
    · rw [b4, a4, gq_who_c e hc]; rfl
    · rw [b5, gq_who_c e hc]
/-- a walk that has been started: its street, first hour, hours left, baker -/
def gq_on (I : Nat → Nat → Int32) (W N h0 L bc : Nat) : Prop := gq_ok (gz_S I) W N ∧ I 57 11 = Int32.ofNat h0 ∧ I 57 12 = Int32.ofNat L ∧ h0 + L = W ∧ I 57 7 = Int32.ofNat bc ∧ bc < 10 ∧ I 78 0 = 0 ∧ I 79 0 = 0 ∧ (∀ m, m < N → I 69 m = 0) ∧ ∃ fo, fo ≤ L ∧ I 57 10 = Int32.ofNat fo ∧ gq_rows I N h0 (I 57 8) (I 57 9) bc (I 57 6) fo
theorem c_take2 {V : gw_V} {n W N h0 L bc : Nat} {I : Nat → Nat → Int32} {J : Nat → Nat → Int64} (pl tr : Int32) (hon : gq_on I W N h0 L bc) : gw_E V 53 (0, [(0, .ref 57), (1, .int pl), (2, .int tr)], [], gS n I J, 0, 0)
    (fun v w' => v = none ∧ ∃ I2, w' = gS n I2 J ∧ gq_wf I I2 ∧ gq_on I2 W N h0 L bc ∧ gq_res I2 N L (gz_S I) (fun q => gq_wd (gz_S I) tr (h0 + q)) (fun q => gz_in pl (Int32.ofNat (h0 + q))) bc (I 57 6) (I 59)) := by
  obtain ⟨hok, a1, a2, a3, a4, a5, a6, a7, a8, fo, a9, a10, a11⟩ := hon
  refine gs_mono ?_ (c_take pl tr h0 bc L fo hok a1 a2 a3 a4 a5 a10 a9 a11)
  rintro v w ⟨rfl, I2, rfl, b1, b2, b3, b4, b5⟩
  have hS := gq_wf_S b1
  have hok2 : gq_ok (gz_S I2) W N := by rw [hS]; exact hok
  have c6 : I2 57 6 = I 57 6 := b1.2.2 6 (by omega) (by omega) (by omega)
  have d1 : I2 78 0 = 0 := by rw [b1.2.1 78 (Or.inl rfl)]; exact a6
  have d2 : I2 79 0 = 0 := by rw [b1.2.1 79 (Or.inr (Or.inl rfl))]; exact a7
  have d3 : ∀ m, m < N → I2 69 m = 0 := fun m hm => by rw [b1.1 69 (by omega) (by omega) (by omega)]; exact a8 m hm
  refine ⟨rfl, I2, rfl, b1, ⟨hok2, by rw [b1.2.2 11 (by omega) (by omega) (by omega)]; exact a1, by rw [b1.2.2 12 (by omega) (by omega) (by omega)]; exact a2, a3, by rw [b1.2.2 7 (by omega) (by omega) (by omega)]; exact a4, a5, d1, d2, d3, L, Nat.le_refl L, b4, by rw [b2, b3, c6]; exact b5⟩, ?_⟩
  have := gq_res_of (s0 := I 59) hok2 d1 d2 d3 (b1.1 59 (by omega) (by omega) (by omega)) b5
  rw [hS] at this
  exact this
/-- what start may change -/
def gq_sf (I I2 : Nat → Nat → Int32) : Prop := (∀ p, p ≠ 57 → p ≠ 59 → I2 p = I p)
theorem c_start_now {V : gw_V} {n W N : Nat} {I : Nat → Nat → Int32} {J : Nat → Nat → Int64} (bc h0 L : Nat) (hok : gq_ok (gz_S I) W N) (hh : I 12 3 = Int32.ofNat h0) (hW : h0 + L = W) (hbc : bc < 10) (h78 : I 78 0 = 0) (h79 : I 79 0 = 0) (h69 : ∀ m, m < N → I 69 m = 0) : gw_E V 50 (0, [(0, .ref 57), (1, .ref 12), (2, .int (Int32.ofNat bc))], [], gS n I J, 0, 0)
    (fun v w' => v = none ∧ ∃ I2, w' = gS n I2 J ∧ gq_sf I I2 ∧ gq_on I2 W N h0 L bc ∧ I2 57 6 = I 12 1 ∧ ∀ c, c < 10 → I2 59 c = I 13 c) := by
  obtain ⟨hW0, -⟩ := id hok
  have hW0 : I 6 3 = Int32.ofNat W := hW0
  refine gs_aload_n (pc := 0) (gd gk_50 0 rfl) rfl ?_
  refine gs_getR (r := 13) (pc := 1) (gd gk_50 1 rfl) rfl rfl rfl (by decide) ?_
  refine gs_iconst (pc := 4) (gd gk_50 2 rfl) (0) rfl ?_
  refine gs_aload_n (pc := 5) (gd gk_50 3 rfl) rfl ?_
  refine gs_getR (r := 58) (pc := 6) (gd gk_50 4 rfl) rfl rfl rfl (by decide) ?_
  refine gs_iconst (pc := 9) (gd gk_50 5 rfl) (0) rfl ?_
  refine gs_aaloadK (r := 59) (0) (9) (pc := 10) (gd gk_50 6 rfl) (Or.inr rfl) rfl (by decide) (by first | rfl | (simp only [Int32.ofNat_add, Int32.ofNat_mul]; rfl) | (simp only [Int32.ofNat_add, Int32.ofNat_mul])) (by omega) rfl (by omega) ?_
  refine gs_iconst (pc := 11) (gd gk_50 7 rfl) (0) rfl ?_
  refine gs_bipush (pc := 12) (gd gk_50 8 rfl) (10) rfl ?_
  refine gs_copy gs_sl (pc := 14) (gd gk_50 9 rfl) (by decide) (by decide) (Nat.le_of_ble_eq_true rfl) rfl rfl (by decide) (by decide) (by decide) (Nat.le_of_ble_eq_true rfl) (Nat.le_of_ble_eq_true rfl) (fun I_1 hI_1 => ?_)
  refine gs_aload_n (pc := 17) (gd gk_50 10 rfl) rfl ?_
  refine gs_aload_n (pc := 18) (gd gk_50 11 rfl) rfl ?_
  refine gs_getI (pc := 19) (gd gk_50 12 rfl) rfl rfl ?_
  refine gs_putI (pc := 22) (gd gk_50 13 rfl) rfl rfl rfl rfl (fun I_2 hI_2 => ?_)
  refine gs_aload_n (pc := 25) (gd gk_50 14 rfl) rfl ?_
  refine gs_iload_n (pc := 26) (gd gk_50 15 rfl) rfl ?_
  refine gs_putI (pc := 27) (gd gk_50 16 rfl) rfl rfl rfl rfl (fun I_3 hI_3 => ?_)
  refine gs_aload_n (pc := 30) (gd gk_50 17 rfl) rfl ?_
  refine gs_aload_n (pc := 31) (gd gk_50 18 rfl) rfl ?_
  refine gs_getI (pc := 32) (gd gk_50 19 rfl) rfl rfl ?_
  refine gs_putI (pc := 35) (gd gk_50 20 rfl) rfl rfl rfl rfl (fun I_4 hI_4 => ?_)
  refine gs_aload_n (pc := 38) (gd gk_50 21 rfl) rfl ?_
  refine gs_aload_n (pc := 39) (gd gk_50 22 rfl) rfl ?_
  refine gs_getR (r := 6) (pc := 40) (gd gk_50 23 rfl) rfl rfl rfl (by decide) ?_
  refine gs_getI (pc := 43) (gd gk_50 24 rfl) rfl rfl ?_
  refine gs_aload_n (pc := 46) (gd gk_50 25 rfl) rfl ?_
  refine gs_getI (pc := 47) (gd gk_50 26 rfl) rfl rfl ?_
  refine gs_isub (pc := 50) (gd gk_50 27 rfl) ?_
  refine gs_putI (pc := 51) (gd gk_50 28 rfl) rfl rfl rfl rfl (fun I_5 hI_5 => ?_)
  refine gs_aload_n (pc := 54) (gd gk_50 29 rfl) rfl ?_
  refine gs_iconst (pc := 55) (gd gk_50 30 rfl) (0) rfl ?_
  refine gs_putI (pc := 56) (gd gk_50 31 rfl) rfl rfl rfl rfl (fun I_6 hI_6 => ?_)
  -- end 1: return, pc 59, locals [(0, .ref (57)), (1, .ref (12)), (2, .int (Int32.ofNat bc))]
  have e1 : ∀ p, p ≠ 57 → p ≠ 59 → I_6 p = I p := fun p a1 a2 => by rw [hI_6, gw_u_o a1, hI_5, gw_u_o a1, hI_4, gw_u_o a1, hI_3, gw_u_o a1, hI_2, gw_u_o a1, hI_1]; funext z; simp [gw_cp, a2]
  have e2 : ∀ c, c < 10 → I_6 59 c = I 13 c := fun c hc => by
    rw [hI_6, gw_u_o (by omega), hI_5, gw_u_o (by omega), hI_4, gw_u_o (by omega), hI_3, gw_u_o (by omega), hI_2, gw_u_o (by omega), hI_1]
    have z0 : (0 : Int32).toNatClampNeg = 0 := rfl
    have z10 : (10 : Int32).toNatClampNeg = 10 := rfl
    simp [gw_cp, va_cpy, z0, z10, hc]
  have hS : gz_S I_6 = gz_S I := gz_S_eq (fun p h6 h11 => e1 p (by omega) (by omega))
  have q6 : ∀ Z : Nat → Nat → Int32, Z = gw_cp I 13 59 (0 : Int32).toNatClampNeg (0 : Int32).toNatClampNeg (10 : Int32).toNatClampNeg → ∀ p, p ≠ 59 → Z p = I p := fun Z hZ p hp => by rw [hZ]; funext z; simp [gw_cp, hp]
  have v57 : I_6 57 6 = I 12 1 ∧ I_6 57 7 = Int32.ofNat bc ∧ I_6 57 11 = I 12 3 ∧ I_6 57 12 = I 6 3 - I 12 3 ∧ I_6 57 10 = 0 := by
    have f1 := q6 I_1 hI_1 12 (by omega)
    have f2 := q6 I_1 hI_1 6 (by omega)
    refine ⟨?_, ?_, ?_, ?_, ?_⟩ <;> subst hI_6 hI_5 hI_4 hI_3 hI_2 <;> simp [gw_u, f1, f2]
  exact gs_ret (pc := 59) (gd gk_50 32 rfl) rfl (Nat.zero_le _) (Nat.zero_le _) (⟨rfl, I_6, rfl, e1, ⟨by rw [hS]; exact hok, by rw [v57.2.2.1]; exact hh, by rw [v57.2.2.2.1, hW0, hh, ← hW, Int32.ofNat_add]; grind, hW, v57.2.1, hbc, by rw [e1 78 (by omega) (by omega)]; exact h78, by rw [e1 79 (by omega) (by omega)]; exact h79, fun m hm => by rw [e1 69 (by omega) (by omega)]; exact h69 m hm, 0, Nat.zero_le _, v57.2.2.2.2, fun q hq => absurd hq (Nat.not_lt_zero _)⟩, v57.1, e2⟩)
theorem c_start_sup {V : gw_V} {n W N : Nat} {I : Nat → Nat → Int32} {J : Nat → Nat → Int64} (bc h0 L : Nat) (hok : gq_ok (gz_S I) W N) (hh : I 14 3 = Int32.ofNat h0) (hW : h0 + L = W) (hbc : bc < 10) (h78 : I 78 0 = 0) (h79 : I 79 0 = 0) (h69 : ∀ m, m < N → I 69 m = 0) : gw_E V 50 (0, [(0, .ref 57), (1, .ref 14), (2, .int (Int32.ofNat bc))], [], gS n I J, 0, 0)
    (fun v w' => v = none ∧ ∃ I2, w' = gS n I2 J ∧ gq_sf I I2 ∧ gq_on I2 W N h0 L bc ∧ I2 57 6 = I 14 1 ∧ ∀ c, c < 10 → I2 59 c = I 15 c) := by
  obtain ⟨hW0, -⟩ := id hok
  have hW0 : I 6 3 = Int32.ofNat W := hW0
  refine gs_aload_n (pc := 0) (gd gk_50 0 rfl) rfl ?_
  refine gs_getR (r := 15) (pc := 1) (gd gk_50 1 rfl) rfl rfl rfl (by decide) ?_
  refine gs_iconst (pc := 4) (gd gk_50 2 rfl) (0) rfl ?_
  refine gs_aload_n (pc := 5) (gd gk_50 3 rfl) rfl ?_
  refine gs_getR (r := 58) (pc := 6) (gd gk_50 4 rfl) rfl rfl rfl (by decide) ?_
  refine gs_iconst (pc := 9) (gd gk_50 5 rfl) (0) rfl ?_
  refine gs_aaloadK (r := 59) (0) (9) (pc := 10) (gd gk_50 6 rfl) (Or.inr rfl) rfl (by decide) (by first | rfl | (simp only [Int32.ofNat_add, Int32.ofNat_mul]; rfl) | (simp only [Int32.ofNat_add, Int32.ofNat_mul])) (by omega) rfl (by omega) ?_
  refine gs_iconst (pc := 11) (gd gk_50 7 rfl) (0) rfl ?_
  refine gs_bipush (pc := 12) (gd gk_50 8 rfl) (10) rfl ?_
  refine gs_copy gs_sl (pc := 14) (gd gk_50 9 rfl) (by decide) (by decide) (Nat.le_of_ble_eq_true rfl) rfl rfl (by decide) (by decide) (by decide) (Nat.le_of_ble_eq_true rfl) (Nat.le_of_ble_eq_true rfl) (fun I_1 hI_1 => ?_)
  refine gs_aload_n (pc := 17) (gd gk_50 10 rfl) rfl ?_
  refine gs_aload_n (pc := 18) (gd gk_50 11 rfl) rfl ?_
  refine gs_getI (pc := 19) (gd gk_50 12 rfl) rfl rfl ?_
  refine gs_putI (pc := 22) (gd gk_50 13 rfl) rfl rfl rfl rfl (fun I_2 hI_2 => ?_)
  refine gs_aload_n (pc := 25) (gd gk_50 14 rfl) rfl ?_
  refine gs_iload_n (pc := 26) (gd gk_50 15 rfl) rfl ?_
  refine gs_putI (pc := 27) (gd gk_50 16 rfl) rfl rfl rfl rfl (fun I_3 hI_3 => ?_)
  refine gs_aload_n (pc := 30) (gd gk_50 17 rfl) rfl ?_
  refine gs_aload_n (pc := 31) (gd gk_50 18 rfl) rfl ?_
  refine gs_getI (pc := 32) (gd gk_50 19 rfl) rfl rfl ?_
  refine gs_putI (pc := 35) (gd gk_50 20 rfl) rfl rfl rfl rfl (fun I_4 hI_4 => ?_)
  refine gs_aload_n (pc := 38) (gd gk_50 21 rfl) rfl ?_
  refine gs_aload_n (pc := 39) (gd gk_50 22 rfl) rfl ?_
  refine gs_getR (r := 6) (pc := 40) (gd gk_50 23 rfl) rfl rfl rfl (by decide) ?_
  refine gs_getI (pc := 43) (gd gk_50 24 rfl) rfl rfl ?_
  refine gs_aload_n (pc := 46) (gd gk_50 25 rfl) rfl ?_
  refine gs_getI (pc := 47) (gd gk_50 26 rfl) rfl rfl ?_
  refine gs_isub (pc := 50) (gd gk_50 27 rfl) ?_
  refine gs_putI (pc := 51) (gd gk_50 28 rfl) rfl rfl rfl rfl (fun I_5 hI_5 => ?_)
  refine gs_aload_n (pc := 54) (gd gk_50 29 rfl) rfl ?_
  refine gs_iconst (pc := 55) (gd gk_50 30 rfl) (0) rfl ?_
  refine gs_putI (pc := 56) (gd gk_50 31 rfl) rfl rfl rfl rfl (fun I_6 hI_6 => ?_)
  -- end 1: return, pc 59, locals [(0, .ref (57)), (1, .ref (14)), (2, .int (Int32.ofNat bc))]
  have e1 : ∀ p, p ≠ 57 → p ≠ 59 → I_6 p = I p := fun p a1 a2 => by rw [hI_6, gw_u_o a1, hI_5, gw_u_o a1, hI_4, gw_u_o a1, hI_3, gw_u_o a1, hI_2, gw_u_o a1, hI_1]; funext z; simp [gw_cp, a2]
  have e2 : ∀ c, c < 10 → I_6 59 c = I 15 c := fun c hc => by
    rw [hI_6, gw_u_o (by omega), hI_5, gw_u_o (by omega), hI_4, gw_u_o (by omega), hI_3, gw_u_o (by omega), hI_2, gw_u_o (by omega), hI_1]
    have z0 : (0 : Int32).toNatClampNeg = 0 := rfl
    have z10 : (10 : Int32).toNatClampNeg = 10 := rfl
    simp [gw_cp, va_cpy, z0, z10, hc]
  have hS : gz_S I_6 = gz_S I := gz_S_eq (fun p h6 h11 => e1 p (by omega) (by omega))
  have q6 : ∀ Z : Nat → Nat → Int32, Z = gw_cp I 15 59 (0 : Int32).toNatClampNeg (0 : Int32).toNatClampNeg (10 : Int32).toNatClampNeg → ∀ p, p ≠ 59 → Z p = I p := fun Z hZ p hp => by rw [hZ]; funext z; simp [gw_cp, hp]
  have v57 : I_6 57 6 = I 14 1 ∧ I_6 57 7 = Int32.ofNat bc ∧ I_6 57 11 = I 14 3 ∧ I_6 57 12 = I 6 3 - I 14 3 ∧ I_6 57 10 = 0 := by
    have f1 := q6 I_1 hI_1 14 (by omega)
    have f2 := q6 I_1 hI_1 6 (by omega)
    refine ⟨?_, ?_, ?_, ?_, ?_⟩ <;> subst hI_6 hI_5 hI_4 hI_3 hI_2 <;> simp [gw_u, f1, f2]
  exact gs_ret (pc := 59) (gd gk_50 32 rfl) rfl (Nat.zero_le _) (Nat.zero_le _) (⟨rfl, I_6, rfl, e1, ⟨by rw [hS]; exact hok, by rw [v57.2.2.1]; exact hh, by rw [v57.2.2.2.1, hW0, hh, ← hW, Int32.ofNat_add]; grind, hW, v57.2.1, hbc, by rw [e1 78 (by omega) (by omega)]; exact h78, by rw [e1 79 (by omega) (by omega)]; exact h79, fun m hm => by rw [e1 69 (by omega) (by omega)]; exact h69 m hm, 0, Nat.zero_le _, v57.2.2.2.2, fun q hq => absurd hq (Nat.not_lt_zero _)⟩, v57.1, e2⟩)
end
section
/-! ===== sets of hours; what a walk tells ===== -/
/-- the hours of a number: the last hour goes in and out fastest -/
def gz_sn (num h0 L : Nat) : Nat → Nat
  | 0 => 0
  | b + 1 => gz_sn num h0 L b + (if num.testBit b then 2 ^ (h0 + L - 1 - b) else 0)
def gz_se (num h0 L : Nat) : Nat → Int32
  | 0 => 0
  | b + 1 => if gz_in (Int32.ofNat num) (Int32.ofNat b) then gz_se num h0 L b ||| (1 <<< (((Int32.ofNat h0 + Int32.ofNat L - 1) - Int32.ofNat b) &&& 31)) else gz_se num h0 L b
theorem gz_se_sn : ∀ h0, h0 < 9 → ∀ L, L < 9 → h0 + L < 9 → ∀ num, num < 2 ^ L → gz_se num h0 L L = Int32.ofNat (gz_sn num h0 L L) ∧ gz_sn num h0 L L < 256 := by decide +kernel
theorem gz_shl : ∀ L, L < 31 → (1 : Int32) <<< (Int32.ofNat L &&& 31) = Int32.ofNat (2 ^ L) := by decide +kernel
section
variable {V : gw_V} {n W N h0 L bc : Nat} {I : Nat → Nat → Int32} {J : Nat → Nat → Int64}
theorem c_sets (hL : I 57 12 = Int32.ofNat L) (h8 : L ≤ 8) : gw_E V 51 (0, [(0, .ref 57)], [], gS n I J, 0, 0) (fun v w' => v = some (.int (Int32.ofNat (2 ^ L))) ∧ w' = gS n I J) := by
  refine gs_iconst (pc := 0) (gd gk_51 0 rfl) (1) rfl ?_
  refine gs_aload_n (pc := 1) (gd gk_51 1 rfl) rfl ?_
  refine gs_getI (pc := 2) (gd gk_51 2 rfl) rfl rfl ?_
  refine gs_as (Int32.ofNat L) (hL) ?_
  refine gs_ishl (pc := 5) (gd gk_51 3 rfl) ?_
  -- end 1: ireturn (1 <<< (Int32.ofNat L &&& 31)), pc 6, locals [(0, .ref (57))]
  exact gs_iret (pc := 6) (gd gk_51 4 rfl) rfl (rfl) (Nat.zero_le _) (Nat.zero_le _) (⟨by rw [gz_shl L (by omega)], rfl⟩)
theorem c_set (num : Nat) (hn : num < 2 ^ L) (hh : I 57 11 = Int32.ofNat h0) (hL : I 57 12 = Int32.ofNat L) (h8 : h0 + L ≤ 8) : gw_E V 52 (0, [(0, .ref 57), (1, .int (Int32.ofNat num))], [], gS n I J, 0, 0) (fun v w' => v = some (.int (Int32.ofNat (gz_sn num h0 L L))) ∧ w' = gS n I J) := by
  have hfin : gz_se num h0 L L = Int32.ofNat (gz_sn num h0 L L) := (gz_se_sn h0 (by omega) L (by omega) (by omega) num hn).1
  have key : ∀ (m k : Nat), m + k = L → ∀ x, x = gz_se num h0 L k → gw_E V 52 (4, [(0, .ref 57), (1, .int (Int32.ofNat num)), (2, .int x), (3, .int (Int32.ofNat k))], [], gS n I J, 0, 0) (fun v w' => v = some (.int (Int32.ofNat (gz_sn num h0 L L))) ∧ w' = gS n I J) := by
    intro m
    induction m with
    | zero =>
      intro k hk x hx
      obtain rfl : k = L := by omega
      refine gs_iload_n (pc := 4) (gd gk_52 4 rfl) rfl ?_
      refine gs_aload_n (pc := 5) (gd gk_52 5 rfl) rfl ?_
      refine gs_getI (pc := 6) (gd gk_52 6 rfl) rfl rfl ?_
      refine gs_as (Int32.ofNat k) (hL) ?_
      refine gs_icmp_ge (pc := 9) (gd gk_52 7 rfl) (fun c9 => ?_) (fun c9 => ?_)
      · replace c9 : k ≤ k := (zle (k := k) (m := k) (by omega) (by omega)).mp c9
        refine gs_iload_n (pc := 44) (gd gk_52 28 rfl) rfl ?_
        -- end 1: ireturn x, pc 45, locals [(0, .ref (57)), (1, .int (Int32.ofNat num)), (2, .int (x)), (3, .int (Int32.ofNat k))]
        exact gs_iret (pc := 45) (gd gk_52 29 rfl) rfl (rfl) (Nat.zero_le _) (Nat.zero_le _) (⟨by rw [hx, hfin], rfl⟩)
      · replace c9 : ¬ (k ≤ k) := fun q9 => c9 ((zle (k := k) (m := k) (by omega) (by omega)).mpr q9)
        -- end 2: stop, pc 12, locals [(0, .ref (57)), (1, .int (Int32.ofNat num)), (2, .int (x)), (3, .int (Int32.ofNat k))]
        exact absurd (Nat.le_refl k) c9
    | succ m ih =>
      intro k hk x hx
      refine gs_iload_n (pc := 4) (gd gk_52 4 rfl) rfl ?_
      refine gs_aload_n (pc := 5) (gd gk_52 5 rfl) rfl ?_
      refine gs_getI (pc := 6) (gd gk_52 6 rfl) rfl rfl ?_
      refine gs_as (Int32.ofNat L) (hL) ?_
      refine gs_icmp_ge (pc := 9) (gd gk_52 7 rfl) (fun c9 => ?_) (fun c9 => ?_)
      · replace c9 : L ≤ k := (zle (k := L) (m := k) (by omega) (by omega)).mp c9
        refine gs_iload_n (pc := 44) (gd gk_52 28 rfl) rfl ?_
        -- end 1: ireturn x, pc 45, locals [(0, .ref (57)), (1, .int (Int32.ofNat num)), (2, .int (x)), (3, .int (Int32.ofNat k))]
        exact absurd c9 (by omega)
      · replace c9 : ¬ (L ≤ k) := fun q9 => c9 ((zle (k := L) (m := k) (by omega) (by omega)).mpr q9)
        refine gs_iload_n (pc := 12) (gd gk_52 8 rfl) rfl ?_
        refine gs_iload_n (pc := 13) (gd gk_52 9 rfl) rfl ?_
        refine gs_callS (as := [.int (Int32.ofNat num), .int (Int32.ofNat k)]) (pc := 14) (gd gk_52 10 rfl) (by decide) rfl rfl (Nat.le_of_ble_eq_true rfl) gq_52_96 (Nat.le_of_ble_eq_true rfl) (c_in (Int32.ofNat num) (Int32.ofNat k)) (fun r_14 w_14 q_14 => ?_)
        obtain ⟨rfl, rfl⟩ := q_14
        refine gs_if_eq (pc := 17) (gd gk_52 11 rfl) (fun c17 => ?_) (fun c17 => ?_)
        · refine gs_iinc (ls2 := fun v => [(0, .ref (57)), (1, .int (Int32.ofNat num)), (2, .int (x)), (3, .int (v))]) (pc := 38) (gd gk_52 26 rfl) rfl (by rw [gL_52]; decide) (fun _ => rfl) (1) rfl (fun v3_1 hv3_1 => ?_)
          obtain rfl : v3_1 = Int32.ofNat (k + 1) := hv3_1.trans (by first | rfl | (simp only [Int32.ofNat_add, Int32.ofNat_mul]; rfl) | (simp only [Int32.ofNat_add, Int32.ofNat_mul]))
          refine gs_goto (pc := 41) (gd gk_52 27 rfl) ?_
          -- end 2: stop, pc 4, locals [(0, .ref (57)), (1, .int (Int32.ofNat num)), (2, .int (x)), (3, .int (Int32.ofNat (k + 1)))]
          exact ih (k + 1) (by omega) _ (by rw [hx]; simp only [gz_se, gz_b_eq.mp c17]; rfl)
        · refine gs_iload_n (pc := 20) (gd gk_52 12 rfl) rfl ?_
          refine gs_iconst (pc := 21) (gd gk_52 13 rfl) (1) rfl ?_
          refine gs_aload_n (pc := 22) (gd gk_52 14 rfl) rfl ?_
          refine gs_getI (pc := 23) (gd gk_52 15 rfl) rfl rfl ?_
          refine gs_as (Int32.ofNat h0) (hh) ?_
          refine gs_aload_n (pc := 26) (gd gk_52 16 rfl) rfl ?_
          refine gs_getI (pc := 27) (gd gk_52 17 rfl) rfl rfl ?_
          refine gs_as (Int32.ofNat L) (hL) ?_
          refine gs_iadd (pc := 30) (gd gk_52 18 rfl) ?_
          refine gs_iconst (pc := 31) (gd gk_52 19 rfl) (1) rfl ?_
          refine gs_isub (pc := 32) (gd gk_52 20 rfl) ?_
          refine gs_iload_n (pc := 33) (gd gk_52 21 rfl) rfl ?_
          refine gs_isub (pc := 34) (gd gk_52 22 rfl) ?_
          refine gs_ishl (pc := 35) (gd gk_52 23 rfl) ?_
          refine gs_ior (pc := 36) (gd gk_52 24 rfl) ?_
          refine gs_istore_n (ls2 := fun v => [(0, .ref (57)), (1, .int (Int32.ofNat num)), (2, .int (v)), (3, .int (Int32.ofNat k))]) (pc := 37) (gd gk_52 25 rfl) (by rw [gL_52]; decide) (fun _ => rfl) (fun v2_1 hv2_1 => ?_)
          refine gs_iinc (ls2 := fun v => [(0, .ref (57)), (1, .int (Int32.ofNat num)), (2, .int (v2_1)), (3, .int (v))]) (pc := 38) (gd gk_52 26 rfl) rfl (by rw [gL_52]; decide) (fun _ => rfl) (1) rfl (fun v3_2 hv3_2 => ?_)
          obtain rfl : v3_2 = Int32.ofNat (k + 1) := hv3_2.trans (by first | rfl | (simp only [Int32.ofNat_add, Int32.ofNat_mul]; rfl) | (simp only [Int32.ofNat_add, Int32.ofNat_mul]))
          refine gs_goto (pc := 41) (gd gk_52 27 rfl) ?_
          -- end 3: stop, pc 4, locals [(0, .ref (57)), (1, .int (Int32.ofNat num)), (2, .int (v2_1)), (3, .int (Int32.ofNat (k + 1)))]
          exact ih (k + 1) (by omega) _ (by rw [hv2_1, hx]; simp only [gz_se, gz_b_ne.mp c17]; rfl)
  refine gs_iconst (pc := 0) (gd gk_52 0 rfl) (0) rfl ?_
  refine gs_istore_n (ls2 := fun v => [(0, .ref (57)), (1, .int (Int32.ofNat num)), (2, .int (v))]) (pc := 1) (gd gk_52 1 rfl) (by rw [gL_52]; decide) (fun _ => rfl) (fun v2_1 hv2_1 => ?_)
  obtain rfl : v2_1 = Int32.ofNat 0 := hv2_1.trans (by first | rfl | (simp only [Int32.ofNat_add, Int32.ofNat_mul]; rfl) | (simp only [Int32.ofNat_add, Int32.ofNat_mul]))
  refine gs_iconst (pc := 2) (gd gk_52 2 rfl) (0) rfl ?_
  refine gs_istore_n (ls2 := fun v => [(0, .ref (57)), (1, .int (Int32.ofNat num)), (2, .int (Int32.ofNat 0)), (3, .int (v))]) (pc := 3) (gd gk_52 3 rfl) (by rw [gL_52]; decide) (fun _ => rfl) (fun v3_1 hv3_1 => ?_)
  obtain rfl : v3_1 = Int32.ofNat 0 := hv3_1.trans (by first | rfl | (simp only [Int32.ofNat_add, Int32.ofNat_mul]; rfl) | (simp only [Int32.ofNat_add, Int32.ofNat_mul]))
  -- end 1: stop, pc 4, locals [(0, .ref (57)), (1, .int (Int32.ofNat num)), (2, .int (Int32.ofNat 0)), (3, .int (Int32.ofNat 0))]
  exact key L 0 (by omega) _ rfl
theorem c_comes (hL : I 57 12 = Int32.ofNat L) (h8 : L ≤ 8) : gw_E V 58 (0, [(0, .ref 57)], [], gS n I J, 0, 0) (fun v w' => v = some (.int (I 78 L)) ∧ w' = gS n I J) := by
  refine gs_aload_n (pc := 0) (gd gk_58 0 rfl) rfl ?_
  refine gs_getR (r := 78) (pc := 1) (gd gk_58 1 rfl) rfl rfl rfl (by decide) ?_
  refine gs_aload_n (pc := 4) (gd gk_58 2 rfl) rfl ?_
  refine gs_getI (pc := 5) (gd gk_58 3 rfl) rfl rfl ?_
  refine gs_as (Int32.ofNat L) (hL) ?_
  refine gs_ialoadK (L) (9) (pc := 8) (gd gk_58 4 rfl) (Or.inl rfl) rfl (by decide) (by first | rfl | (simp only [Int32.ofNat_add, Int32.ofNat_mul]; rfl) | (simp only [Int32.ofNat_add, Int32.ofNat_mul])) (by omega) ?_
  -- end 1: ireturn (I 78 L), pc 9, locals [(0, .ref (57))]
  exact gs_iret (pc := 9) (gd gk_58 5 rfl) rfl (rfl) (Nat.zero_le _) (Nat.zero_le _) (⟨rfl, rfl⟩)
theorem c_had (hL : I 57 12 = Int32.ofNat L) (h8 : L ≤ 8) : gw_E V 61 (0, [(0, .ref 57)], [], gS n I J, 0, 0) (fun v w' => v = some (.int (I 79 L)) ∧ w' = gS n I J) := by
  refine gs_aload_n (pc := 0) (gd gk_61 0 rfl) rfl ?_
  refine gs_getR (r := 79) (pc := 1) (gd gk_61 1 rfl) rfl rfl rfl (by decide) ?_
  refine gs_aload_n (pc := 4) (gd gk_61 2 rfl) rfl ?_
  refine gs_getI (pc := 5) (gd gk_61 3 rfl) rfl rfl ?_
  refine gs_as (Int32.ofNat L) (hL) ?_
  refine gs_ialoadK (L) (9) (pc := 8) (gd gk_61 4 rfl) (Or.inl rfl) rfl (by decide) (by first | rfl | (simp only [Int32.ofNat_add, Int32.ofNat_mul]; rfl) | (simp only [Int32.ofNat_add, Int32.ofNat_mul])) (by omega) ?_
  -- end 1: ireturn (I 79 L), pc 9, locals [(0, .ref (57))]
  exact gs_iret (pc := 9) (gd gk_61 5 rfl) rfl (rfl) (Nat.zero_le _) (Nat.zero_le _) (⟨rfl, rfl⟩)
theorem c_inhour (g : Nat) (hg : g < 8) : gw_E V 59 (0, [(0, .ref 57), (1, .int (Int32.ofNat g))], [], gS n I J, 0, 0) (fun v w' => v = some (.int (I 78 (g + 1) - I 78 g)) ∧ w' = gS n I J) := by
  refine gs_aload_n (pc := 0) (gd gk_59 0 rfl) rfl ?_
  refine gs_getR (r := 78) (pc := 1) (gd gk_59 1 rfl) rfl rfl rfl (by decide) ?_
  refine gs_iload_n (pc := 4) (gd gk_59 2 rfl) rfl ?_
  refine gs_iconst (pc := 5) (gd gk_59 3 rfl) (1) rfl ?_
  refine gs_iadd (pc := 6) (gd gk_59 4 rfl) ?_
  refine gs_ialoadK ((g + 1)) (9) (pc := 7) (gd gk_59 5 rfl) (Or.inl rfl) rfl (by decide) (by first | rfl | (simp only [Int32.ofNat_add, Int32.ofNat_mul]; rfl) | (simp only [Int32.ofNat_add, Int32.ofNat_mul])) (by omega) ?_
  refine gs_aload_n (pc := 8) (gd gk_59 6 rfl) rfl ?_
  refine gs_getR (r := 78) (pc := 9) (gd gk_59 7 rfl) rfl rfl rfl (by decide) ?_
  refine gs_iload_n (pc := 12) (gd gk_59 8 rfl) rfl ?_
  refine gs_ialoadK (g) (9) (pc := 13) (gd gk_59 9 rfl) (Or.inl rfl) rfl (by decide) (by first | rfl | (simp only [Int32.ofNat_add, Int32.ofNat_mul]; rfl) | (simp only [Int32.ofNat_add, Int32.ofNat_mul])) (by omega) ?_
  refine gs_isub (pc := 14) (gd gk_59 10 rfl) ?_
  -- end 1: ireturn ((I 78 (g + 1)) - (I 78 g)), pc 15, locals [(0, .ref (57)), (1, .int (Int32.ofNat g))]
  exact gs_iret (pc := 15) (gd gk_59 11 rfl) rfl (rfl) (Nat.zero_le _) (Nat.zero_le _) (⟨rfl, rfl⟩)
theorem c_paid (m : Nat) (hm : m < 6) (hL : I 57 12 = Int32.ofNat L) (h8 : L ≤ 8) : gw_E V 60 (0, [(0, .ref 57), (1, .int (Int32.ofNat m))], [], gS n I J, 0, 0) (fun v w' => v = some (.int (I (69 + L) m)) ∧ w' = gS n I J) := by
  refine gs_aload_n (pc := 0) (gd gk_60 0 rfl) rfl ?_
  refine gs_getR (r := 68) (pc := 1) (gd gk_60 1 rfl) rfl rfl rfl (by decide) ?_
  refine gs_aload_n (pc := 4) (gd gk_60 2 rfl) rfl ?_
  refine gs_getI (pc := 5) (gd gk_60 3 rfl) rfl rfl ?_
  refine gs_as (Int32.ofNat L) (hL) ?_
  refine gs_aaloadK (r := 69 + L) (L) (9) (pc := 8) (gd gk_60 4 rfl) (Or.inr rfl) rfl (by decide) (by first | rfl | (simp only [Int32.ofNat_add, Int32.ofNat_mul]; rfl) | (simp only [Int32.ofNat_add, Int32.ofNat_mul])) (by omega) rfl (by omega) ?_
  refine gs_iload_n (pc := 9) (gd gk_60 5 rfl) rfl ?_
  refine gs_ialoadK (m) (6) (pc := 10) (gd gk_60 6 rfl) (Or.inl (gt69 (by omega)).1) (gt69 (by omega)).2 (by decide) (by first | rfl | (simp only [Int32.ofNat_add, Int32.ofNat_mul]; rfl) | (simp only [Int32.ofNat_add, Int32.ofNat_mul])) (by omega) ?_
  -- end 1: ireturn (I (69 + L) m), pc 11, locals [(0, .ref (57)), (1, .int (Int32.ofNat m))]
  exact gs_iret (pc := 11) (gd gk_60 7 rfl) rfl (rfl) (Nat.zero_le _) (Nat.zero_le _) (⟨rfl, rfl⟩)
theorem c_left : gw_E V 97 (0, [(0, .ref 3)], [], gS n I J, 0, 0) (fun v w' => v = some (.int (I 6 3 - I 12 3)) ∧ w' = gS n I J) := by
  refine gs_aload_n (pc := 0) (gd gk_97 0 rfl) rfl ?_
  refine gs_getR (r := 6) (pc := 1) (gd gk_97 1 rfl) rfl rfl rfl (by decide) ?_
  refine gs_getI (pc := 4) (gd gk_97 2 rfl) rfl rfl ?_
  refine gs_aload_n (pc := 7) (gd gk_97 3 rfl) rfl ?_
  refine gs_getR (r := 12) (pc := 8) (gd gk_97 4 rfl) rfl rfl rfl (by decide) ?_
  refine gs_getI (pc := 11) (gd gk_97 5 rfl) rfl rfl ?_
  refine gs_isub (pc := 14) (gd gk_97 6 rfl) ?_
  -- end 1: ireturn ((I 6 3) - (I 12 3)), pc 15, locals [(0, .ref (3))]
  exact gs_iret (pc := 15) (gd gk_97 7 rfl) rfl (rfl) (Nat.zero_le _) (Nat.zero_le _) (⟨rfl, rfl⟩)
/-- the class's morning as it stands, in numbers -/
def gq_now (I : Nat → Nat → Int32) (W N h0 L bc : Nat) : Prop := gq_ok (gz_S I) W N ∧ I 12 3 = Int32.ofNat h0 ∧ h0 + L = W ∧ I 6 0 = Int32.ofNat bc ∧ bc < 10 ∧ I 78 0 = 0 ∧ I 79 0 = 0 ∧ ∀ m, m < N → I 69 m = 0
/-- what the class's asking may change: the walk but its first rows' beginnings -/
def gq_qf (I I2 : Nat → Nat → Int32) : Prop := (∀ p, ¬ (57 ≤ p ∧ p ≤ 125) → p ≠ 14 → p ≠ 15 → I2 p = I p) ∧ I2 78 0 = I 78 0 ∧ I2 79 0 = I 79 0 ∧ I2 69 = I 69
theorem gq_qf_tr {I I2 I3 : Nat → Nat → Int32} (h : gq_qf I I2) (h' : gq_qf I2 I3) : gq_qf I I3 := ⟨fun p a b c => (h'.1 p a b c).trans (h.1 p a b c), h'.2.1.trans h.2.1, h'.2.2.1.trans h.2.2.1, h'.2.2.2.trans h.2.2.2⟩
theorem gq_qf_w {I I2 : Nat → Nat → Int32} (h : gq_wf I I2) : gq_qf I I2 := ⟨fun p a _ _ => h.1 p (by omega) (by omega) (by omega), h.2.1 78 (Or.inl rfl), h.2.1 79 (Or.inr (Or.inl rfl)), h.1 69 (by omega) (by omega) (by omega)⟩
theorem gq_qf_s {I I2 : Nat → Nat → Int32} (h : gq_sf I I2) : gq_qf I I2 := ⟨fun p a _ _ => h p (by omega) (by omega), by rw [h 78 (by omega) (by omega)], by rw [h 79 (by omega) (by omega)], h 69 (by omega) (by omega)⟩
theorem gq_qf_S {I I2 : Nat → Nat → Int32} (h : gq_qf I I2) : gz_S I2 = gz_S I := gz_S_eq (fun p h1 h2 => h.1 p (by omega) (by omega) (by omega))
/-- the smells of the walk's first row may be read as the morning's -/
theorem gq_sq_c {s1 s2 : Nat → Int32} (h : ∀ c, c < 10 → s1 c = s2 c) {σ : Nat → Nat → Int32} {wd : Nat → Int32} {pl : Nat → Bool} {bc : Nat} {ch : Int32} : ∀ g c, c < 10 → gq_sq σ wd pl bc ch s1 g c = gq_sq σ wd pl bc ch s2 g c
  | 0, c, hc => h c hc
  | g + 1, c, _ => gq_st_c (gq_sq_c h g) σ _ _ _ _ c
theorem gq_cm_c {s1 s2 : Nat → Int32} (h : ∀ c, c < 10 → s1 c = s2 c) {σ : Nat → Nat → Int32} {wd : Nat → Int32} {pl : Nat → Bool} {bc : Nat} {ch : Int32} {so : Nat → Bool} {N : Nat} (hn : ∀ m, m < N → 0 ≤ σ 2 m ∧ σ 2 m ≤ 9) : ∀ g, gq_cm σ wd pl bc ch s1 so N g = gq_cm σ wd pl bc ch s2 so N g
  | 0 => rfl
  | g + 1 => by unfold gq_cm; rw [gq_cm_c h hn g, gq_hc_c (gq_sq_c h (g + 1)) hn]
theorem gq_hd_c {s1 s2 : Nat → Int32} (h : ∀ c, c < 10 → s1 c = s2 c) {σ : Nat → Nat → Int32} {wd : Nat → Int32} {pl : Nat → Bool} {bc : Nat} {ch : Int32} {N : Nat} (hn : ∀ m, m < N → 0 ≤ σ 2 m ∧ σ 2 m ≤ 9) : ∀ g, gq_hd σ wd pl bc ch s1 N g = gq_hd σ wd pl bc ch s2 N g
  | 0 => rfl
  | g + 1 => by unfold gq_hd; rw [gq_hd_c h hn g, gq_who_c (gq_sq_c h (g + 1)) hn]
theorem gq_pd_c {s1 s2 : Nat → Int32} (h : ∀ c, c < 10 → s1 c = s2 c) {σ : Nat → Nat → Int32} {wd : Nat → Int32} {pl : Nat → Bool} {bc : Nat} {ch : Int32} {m : Nat} (hn : 0 ≤ σ 2 m ∧ σ 2 m ≤ 9) : ∀ g, gq_pd σ wd pl bc ch s1 m g = gq_pd σ wd pl bc ch s2 m g
  | 0 => rfl
  | g + 1 => by unfold gq_pd; rw [gq_pd_c h hn g, gq_has_c (gq_sq_c h (g + 1)) hn]
end
end
section
/-! ===== the reference's street, an hour of it ===== -/
def gz_M (I : Nat → Nat → Int32) : Nat → Nat → Int32 := fun a k => if a = 0 then (if k < 5 then I 126 k else 0) else if a = 1 then I 127 k else if a = 2 then I 129 (4 * k) else if a = 3 then I 129 (4 * k + 1) else if a = 4 then I 129 (4 * k + 2) else if a = 5 then I 129 (4 * k + 3) else 0
theorem gz_M_eq {I I1 : Nat → Nat → Int32} (h : ∀ k, k < 5 → I1 126 k = I 126 k) (h1 : I1 127 = I 127) (h2 : I1 129 = I 129) : gz_M I1 = gz_M I := by
  funext a k
  unfold gz_M
  rw [h1, h2]
  by_cases q : k < 5
  · rw [if_pos q, if_pos q, h k q]
  · rw [if_neg q, if_neg q]
/-- a level of its mornings -/
def gz_L (I : Nat → Nat → Int32) (l : Nat) : Nat → Int32 := fun c => I 133 (13 * l + c)
section
variable {V : gw_V} {n W N : Nat} {I : Nat → Nat → Int32} {J : Nat → Nat → Int64}
theorem m_pays (k : Nat) (hk : k < 6) (bh : Bool) (wd : Int32) (hc : 0 ≤ I 129 (4 * k + 3) ∧ I 129 (4 * k + 3) ≤ 3) : gw_E V 126 (0, [(0, .ref 126), (1, .int (Int32.ofNat k)), (2, .int (gz_b bh)), (3, .int wd)], [], gS n I J, 0, 0) (fun v w' => v = some (.int (gq_due (gz_M I) k bh (decide (wd = 1)))) ∧ w' = gS n I J) := by
  refine gs_aload_n (pc := 0) (gd gk_126 0 rfl) rfl ?_
  refine gs_getR (r := 129) (pc := 1) (gd gk_126 1 rfl) rfl rfl rfl (by decide) ?_
  refine gs_iconst (pc := 4) (gd gk_126 2 rfl) (4) rfl ?_
  refine gs_iload_n (pc := 5) (gd gk_126 3 rfl) rfl ?_
  refine gs_imul (pc := 6) (gd gk_126 4 rfl) ?_
  refine gs_iconst (pc := 7) (gd gk_126 5 rfl) (2) rfl ?_
  refine gs_iadd (pc := 8) (gd gk_126 6 rfl) ?_
  refine gs_ialoadK (((4 * k) + 2)) (24) (pc := 9) (gd gk_126 7 rfl) (Or.inl rfl) rfl (by decide) (by first | rfl | (simp only [Int32.ofNat_add, Int32.ofNat_mul]; rfl) | (simp only [Int32.ofNat_add, Int32.ofNat_mul])) (by omega) ?_
  refine gs_istore (ls2 := fun v => [(0, .ref (126)), (1, .int (Int32.ofNat k)), (2, .int (gz_b bh)), (3, .int (wd)), (4, .int (v))]) (pc := 10) (gd gk_126 8 rfl) (by rw [gL_126]; decide) (fun _ => rfl) (fun v4_1 hv4_1 => ?_)
  refine gs_aload_n (pc := 12) (gd gk_126 9 rfl) rfl ?_
  refine gs_getR (r := 129) (pc := 13) (gd gk_126 10 rfl) rfl rfl rfl (by decide) ?_
  refine gs_iconst (pc := 16) (gd gk_126 11 rfl) (4) rfl ?_
  refine gs_iload_n (pc := 17) (gd gk_126 12 rfl) rfl ?_
  refine gs_imul (pc := 18) (gd gk_126 13 rfl) ?_
  refine gs_iconst (pc := 19) (gd gk_126 14 rfl) (3) rfl ?_
  refine gs_iadd (pc := 20) (gd gk_126 15 rfl) ?_
  refine gs_ialoadK (((4 * k) + 3)) (24) (pc := 21) (gd gk_126 16 rfl) (Or.inl rfl) rfl (by decide) (by first | rfl | (simp only [Int32.ofNat_add, Int32.ofNat_mul]; rfl) | (simp only [Int32.ofNat_add, Int32.ofNat_mul])) (by omega) ?_
  -- end 1: switch, pc 22, locals [(0, .ref (126)), (1, .int (Int32.ofNat k)), (2, .int (gz_b bh)), (3, .int (wd)), (4, .int (v4_1))]
  skip
  have h4 : I 129 (4 * k + 3) = 0 ∨ I 129 (4 * k + 3) = 1 ∨ I 129 (4 * k + 3) = 2 ∨ I 129 (4 * k + 3) = 3 := by grind
  rcases h4 with e | e | e | e
  · rw [e]
    refine gs_tblIn (off := 26) (pc := 22) 48 (gd gk_126 17 rfl) (by decide) (by decide) rfl (by decide) ?_
    refine gs_iload_n (pc := 48) (gd gk_126 18 rfl) rfl ?_
    refine gs_if_eq (pc := 49) (gd gk_126 19 rfl) (fun c49 => ?_) (fun c49 => ?_)
    · refine gs_iconst (pc := 57) (gd gk_126 22 rfl) (0) rfl ?_
      -- end 1: ireturn 0, pc 58, locals [(0, .ref (126)), (1, .int (Int32.ofNat k)), (2, .int (gz_b bh)), (3, .int (wd)), (4, .int (v4_1))]
      exact gs_iret (pc := 58) (gd gk_126 23 rfl) rfl (rfl) (Nat.zero_le _) (Nat.zero_le _) (⟨by simp [gq_due, gz_M, e, gz_b_eq.mp c49], rfl⟩)
    · refine gs_iload (pc := 52) (gd gk_126 20 rfl) rfl ?_
      refine gs_goto (pc := 54) (gd gk_126 21 rfl) ?_
      -- end 2: ireturn v4_1, pc 58, locals [(0, .ref (126)), (1, .int (Int32.ofNat k)), (2, .int (gz_b bh)), (3, .int (wd)), (4, .int (v4_1))]
      exact gs_iret (pc := 58) (gd gk_126 23 rfl) rfl (rfl) (Nat.zero_le _) (Nat.zero_le _) (⟨by simp [gq_due, gz_M, e, gz_b_ne.mp c49, hv4_1], rfl⟩)
  · rw [e]
    refine gs_tblIn (off := 37) (pc := 22) 59 (gd gk_126 17 rfl) (by decide) (by decide) rfl (by decide) ?_
    refine gs_iload_n (pc := 59) (gd gk_126 24 rfl) rfl ?_
    refine gs_if_eq (pc := 60) (gd gk_126 25 rfl) (fun c60 => ?_) (fun c60 => ?_)
    · refine gs_iload (pc := 67) (gd gk_126 28 rfl) rfl ?_
      refine gs_ineg (pc := 69) (gd gk_126 29 rfl) ?_
      -- end 1: ireturn (-v4_1), pc 70, locals [(0, .ref (126)), (1, .int (Int32.ofNat k)), (2, .int (gz_b bh)), (3, .int (wd)), (4, .int (v4_1))]
      exact gs_iret (pc := 70) (gd gk_126 30 rfl) rfl (rfl) (Nat.zero_le _) (Nat.zero_le _) (⟨by simp [gq_due, gz_M, e, gz_b_eq.mp c60, hv4_1], rfl⟩)
    · refine gs_iconst (pc := 63) (gd gk_126 26 rfl) (0) rfl ?_
      refine gs_goto (pc := 64) (gd gk_126 27 rfl) ?_
      -- end 2: ireturn 0, pc 70, locals [(0, .ref (126)), (1, .int (Int32.ofNat k)), (2, .int (gz_b bh)), (3, .int (wd)), (4, .int (v4_1))]
      exact gs_iret (pc := 70) (gd gk_126 30 rfl) rfl (rfl) (Nat.zero_le _) (Nat.zero_le _) (⟨by simp [gq_due, gz_M, e, gz_b_ne.mp c60], rfl⟩)
  · rw [e]
    refine gs_tblIn (off := 49) (pc := 22) 71 (gd gk_126 17 rfl) (by decide) (by decide) rfl (by decide) ?_
    refine gs_iload_n (pc := 71) (gd gk_126 31 rfl) rfl ?_
    refine gs_if_eq (pc := 72) (gd gk_126 32 rfl) (fun c72 => ?_) (fun c72 => ?_)
    · refine gs_iconst (pc := 85) (gd gk_126 38 rfl) (0) rfl ?_
      -- end 1: ireturn 0, pc 86, locals [(0, .ref (126)), (1, .int (Int32.ofNat k)), (2, .int (gz_b bh)), (3, .int (wd)), (4, .int (v4_1))]
      exact gs_iret (pc := 86) (gd gk_126 39 rfl) rfl (rfl) (Nat.zero_le _) (Nat.zero_le _) (⟨by simp [gq_due, gz_M, e, gz_b_eq.mp c72], rfl⟩)
    · refine gs_iload_n (pc := 75) (gd gk_126 33 rfl) rfl ?_
      refine gs_iconst (pc := 76) (gd gk_126 34 rfl) (1) rfl ?_
      refine gs_icmp_ne (pc := 77) (gd gk_126 35 rfl) (fun c77 => ?_) (fun c77 => ?_)
      · refine gs_iconst (pc := 85) (gd gk_126 38 rfl) (0) rfl ?_
        -- end 2: ireturn 0, pc 86, locals [(0, .ref (126)), (1, .int (Int32.ofNat k)), (2, .int (gz_b bh)), (3, .int (wd)), (4, .int (v4_1))]
        exact gs_iret (pc := 86) (gd gk_126 39 rfl) rfl (rfl) (Nat.zero_le _) (Nat.zero_le _) (⟨by simp [gq_due, gz_M, e, gz_b_ne.mp c72, c77], rfl⟩)
      · refine gs_iload (pc := 80) (gd gk_126 36 rfl) rfl ?_
        refine gs_goto (pc := 82) (gd gk_126 37 rfl) ?_
        -- end 3: ireturn v4_1, pc 86, locals [(0, .ref (126)), (1, .int (Int32.ofNat k)), (2, .int (gz_b bh)), (3, .int (wd)), (4, .int (v4_1))]
        exact gs_iret (pc := 86) (gd gk_126 39 rfl) rfl (rfl) (Nat.zero_le _) (Nat.zero_le _) (⟨by simp [gq_due, gz_M, e, gz_b_ne.mp c72, c77, hv4_1], rfl⟩)
  · rw [e]
    refine gs_tblOut (pc := 22) 87 (gd gk_126 17 rfl) (by decide) (by decide) ?_
    refine gs_iload_n (pc := 87) (gd gk_126 40 rfl) rfl ?_
    refine gs_if_eq (pc := 88) (gd gk_126 41 rfl) (fun c88 => ?_) (fun c88 => ?_)
    · refine gs_iconst (pc := 97) (gd gk_126 45 rfl) (0) rfl ?_
      -- end 1: ireturn 0, pc 98, locals [(0, .ref (126)), (1, .int (Int32.ofNat k)), (2, .int (gz_b bh)), (3, .int (wd)), (4, .int (v4_1))]
      exact gs_iret (pc := 98) (gd gk_126 46 rfl) rfl (rfl) (Nat.zero_le _) (Nat.zero_le _) (⟨by simp [gq_due, gz_M, e, gz_b_eq.mp c88], rfl⟩)
    · refine gs_iload (pc := 91) (gd gk_126 42 rfl) rfl ?_
      refine gs_ineg (pc := 93) (gd gk_126 43 rfl) ?_
      refine gs_goto (pc := 94) (gd gk_126 44 rfl) ?_
      -- end 2: ireturn (-v4_1), pc 98, locals [(0, .ref (126)), (1, .int (Int32.ofNat k)), (2, .int (gz_b bh)), (3, .int (wd)), (4, .int (v4_1))]
      exact gs_iret (pc := 98) (gd gk_126 46 rfl) rfl (rfl) (Nat.zero_le _) (Nat.zero_le _) (⟨by simp [gq_due, gz_M, e, gz_b_ne.mp c88, hv4_1], rfl⟩)
theorem m_hasIt (l k : Nat) (hl : l < 3) (hk : k < 6) (hc : 0 ≤ I 129 (4 * k) ∧ I 129 (4 * k) ≤ 9) : gw_E V 121 (0, [(0, .ref 126), (1, .int (Int32.ofNat l)), (2, .int (Int32.ofNat k))], [], gS n I J, 0, 0) (fun v w' => v = some (.int (gz_b (gq_has (gz_M I) (gz_L I l) k))) ∧ w' = gS n I J) := by
  have h9 : (I 129 (4 * k)).toNatClampNeg ≤ 9 := (zle_l hc.1 (n := 9) (by decide)).mp hc.2
  generalize hcc : (I 129 (4 * k)).toNatClampNeg = cc at h9
  have hcv : I 129 (4 * k) = Int32.ofNat cc := by rw [← hcc]; exact (znat hc.1).1.symm
  refine gs_aload_n (pc := 0) (gd gk_121 0 rfl) rfl ?_
  refine gs_getR (r := 133) (pc := 1) (gd gk_121 1 rfl) rfl rfl rfl (by decide) ?_
  refine gs_bipush (pc := 4) (gd gk_121 2 rfl) (13) rfl ?_
  refine gs_iload_n (pc := 6) (gd gk_121 3 rfl) rfl ?_
  refine gs_imul (pc := 7) (gd gk_121 4 rfl) ?_
  refine gs_aload_n (pc := 8) (gd gk_121 5 rfl) rfl ?_
  refine gs_getR (r := 129) (pc := 9) (gd gk_121 6 rfl) rfl rfl rfl (by decide) ?_
  refine gs_iconst (pc := 12) (gd gk_121 7 rfl) (4) rfl ?_
  refine gs_iload_n (pc := 13) (gd gk_121 8 rfl) rfl ?_
  refine gs_imul (pc := 14) (gd gk_121 9 rfl) ?_
  refine gs_ialoadK ((4 * k)) (24) (pc := 15) (gd gk_121 10 rfl) (Or.inl rfl) rfl (by decide) (by first | rfl | (simp only [Int32.ofNat_add, Int32.ofNat_mul]; rfl) | (simp only [Int32.ofNat_add, Int32.ofNat_mul])) (by omega) ?_
  refine gs_as (Int32.ofNat cc) (hcv) ?_
  refine gs_iadd (pc := 16) (gd gk_121 11 rfl) ?_
  refine gs_ialoadK (((13 * l) + cc)) (52) (pc := 17) (gd gk_121 12 rfl) (Or.inl rfl) rfl (by decide) (by first | rfl | (simp only [Int32.ofNat_add, Int32.ofNat_mul]; rfl) | (simp only [Int32.ofNat_add, Int32.ofNat_mul])) (by omega) ?_
  refine gs_aload_n (pc := 18) (gd gk_121 13 rfl) rfl ?_
  refine gs_getR (r := 129) (pc := 19) (gd gk_121 14 rfl) rfl rfl rfl (by decide) ?_
  refine gs_iconst (pc := 22) (gd gk_121 15 rfl) (4) rfl ?_
  refine gs_iload_n (pc := 23) (gd gk_121 16 rfl) rfl ?_
  refine gs_imul (pc := 24) (gd gk_121 17 rfl) ?_
  refine gs_iconst (pc := 25) (gd gk_121 18 rfl) (1) rfl ?_
  refine gs_iadd (pc := 26) (gd gk_121 19 rfl) ?_
  refine gs_ialoadK (((4 * k) + 1)) (24) (pc := 27) (gd gk_121 20 rfl) (Or.inl rfl) rfl (by decide) (by first | rfl | (simp only [Int32.ofNat_add, Int32.ofNat_mul]; rfl) | (simp only [Int32.ofNat_add, Int32.ofNat_mul])) (by omega) ?_
  refine gs_icmp_lt (pc := 28) (gd gk_121 21 rfl) (fun c28 => ?_) (fun c28 => ?_)
  · refine gs_iconst (pc := 35) (gd gk_121 24 rfl) (0) rfl ?_
    -- end 1: ireturn 0, pc 36, locals [(0, .ref (126)), (1, .int (Int32.ofNat l)), (2, .int (Int32.ofNat k))]
    have h9 : gq_has (gz_M I) (gz_L I l) k = false := decide_eq_false (fun q9 => Int32.not_lt.mpr q9 (by show I 133 (13 * l + (I 129 (4 * k)).toNatClampNeg) < _; rw [hcc]; exact c28))
    exact gs_iret (pc := 36) (gd gk_121 25 rfl) rfl (rfl) (Nat.zero_le _) (Nat.zero_le _) (⟨by rw [h9]; rfl, rfl⟩)
  · refine gs_iconst (pc := 31) (gd gk_121 22 rfl) (1) rfl ?_
    refine gs_goto (pc := 32) (gd gk_121 23 rfl) ?_
    -- end 2: ireturn 1, pc 36, locals [(0, .ref (126)), (1, .int (Int32.ofNat l)), (2, .int (Int32.ofNat k))]
    have h9 : gq_has (gz_M I) (gz_L I l) k = true := decide_eq_true (by show _ ≤ I 133 (13 * l + (I 129 (4 * k)).toNatClampNeg); rw [hcc]; exact Int32.not_lt.mp c28)
    exact gs_iret (pc := 36) (gd gk_121 25 rfl) rfl (rfl) (Nat.zero_le _) (Nat.zero_le _) (⟨by rw [h9]; rfl, rfl⟩)
theorem m_who (l : Nat) (hl : l < 3) (hok : gq_ok (gz_M I) W N) : gw_E V 122 (0, [(0, .ref 126), (1, .int (Int32.ofNat l))], [], gS n I J, 0, 0) (fun v w' => v = some (.int (gq_who (gz_M I) (gz_L I l) N)) ∧ w' = gS n I J) := by
  obtain ⟨-, -, hN, hN6, -, -, -, -, hns⟩ := hok
  have hN : I 126 4 = Int32.ofNat N := hN
  have key : ∀ (m k : Nat), m + k = N → ∀ x, x = gq_who (gz_M I) (gz_L I l) k → gw_E V 122 (4, [(0, .ref 126), (1, .int (Int32.ofNat l)), (2, .int x), (3, .int (Int32.ofNat k))], [], gS n I J, 0, 0) (fun v w' => v = some (.int (gq_who (gz_M I) (gz_L I l) N)) ∧ w' = gS n I J) := by
    intro m
    induction m with
    | zero =>
      intro k hk x hx
      obtain rfl : k = N := by omega
      refine gs_iload_n (pc := 4) (gd gk_122 4 rfl) rfl ?_
      refine gs_aload_n (pc := 5) (gd gk_122 5 rfl) rfl ?_
      refine gs_getI (pc := 6) (gd gk_122 6 rfl) rfl rfl ?_
      refine gs_as (Int32.ofNat k) (hN) ?_
      refine gs_icmp_ge (pc := 9) (gd gk_122 7 rfl) (fun c9 => ?_) (fun c9 => ?_)
      · replace c9 : k ≤ k := (zle (k := k) (m := k) (by omega) (by omega)).mp c9
        refine gs_iload_n (pc := 37) (gd gk_122 23 rfl) rfl ?_
        -- end 1: ireturn x, pc 38, locals [(0, .ref (126)), (1, .int (Int32.ofNat l)), (2, .int (x)), (3, .int (Int32.ofNat k))]
        exact gs_iret (pc := 38) (gd gk_122 24 rfl) rfl (rfl) (Nat.zero_le _) (Nat.zero_le _) (⟨by rw [hx], rfl⟩)
      · replace c9 : ¬ (k ≤ k) := fun q9 => c9 ((zle (k := k) (m := k) (by omega) (by omega)).mpr q9)
        -- end 2: stop, pc 12, locals [(0, .ref (126)), (1, .int (Int32.ofNat l)), (2, .int (x)), (3, .int (Int32.ofNat k))]
        exact absurd (Nat.le_refl k) c9
    | succ m ih =>
      intro k hk x hx
      refine gs_iload_n (pc := 4) (gd gk_122 4 rfl) rfl ?_
      refine gs_aload_n (pc := 5) (gd gk_122 5 rfl) rfl ?_
      refine gs_getI (pc := 6) (gd gk_122 6 rfl) rfl rfl ?_
      refine gs_as (Int32.ofNat N) (hN) ?_
      refine gs_icmp_ge (pc := 9) (gd gk_122 7 rfl) (fun c9 => ?_) (fun c9 => ?_)
      · replace c9 : N ≤ k := (zle (k := N) (m := k) (by omega) (by omega)).mp c9
        refine gs_iload_n (pc := 37) (gd gk_122 23 rfl) rfl ?_
        -- end 1: ireturn x, pc 38, locals [(0, .ref (126)), (1, .int (Int32.ofNat l)), (2, .int (x)), (3, .int (Int32.ofNat k))]
        exact absurd c9 (by omega)
      · replace c9 : ¬ (N ≤ k) := fun q9 => c9 ((zle (k := N) (m := k) (by omega) (by omega)).mpr q9)
        refine gs_iload_n (pc := 12) (gd gk_122 8 rfl) rfl ?_
        refine gs_aload_n (pc := 13) (gd gk_122 9 rfl) rfl ?_
        refine gs_iload_n (pc := 14) (gd gk_122 10 rfl) rfl ?_
        refine gs_iload_n (pc := 15) (gd gk_122 11 rfl) rfl ?_
        refine gs_callV (as := [.int (Int32.ofNat l), .int (Int32.ofNat k)]) (pc := 16) (gd gk_122 12 rfl) (by decide) rfl (by decide) rfl rfl (Nat.le_of_ble_eq_true rfl) gq_122_121 (Nat.le_of_ble_eq_true rfl) (m_hasIt l k hl (by omega) (hns k (by omega)).1) (fun r_16 w_16 q_16 => ?_)
        obtain ⟨rfl, rfl⟩ := q_16
        refine gs_if_eq (pc := 19) (gd gk_122 13 rfl) (fun c19 => ?_) (fun c19 => ?_)
        · refine gs_iconst (pc := 28) (gd gk_122 18 rfl) (0) rfl ?_
          refine gs_ior (pc := 29) (gd gk_122 19 rfl) ?_
          refine gs_istore_n (ls2 := fun v => [(0, .ref (126)), (1, .int (Int32.ofNat l)), (2, .int (v)), (3, .int (Int32.ofNat k))]) (pc := 30) (gd gk_122 20 rfl) (by rw [gL_122]; decide) (fun _ => rfl) (fun v2_1 hv2_1 => ?_)
          refine gs_iinc (ls2 := fun v => [(0, .ref (126)), (1, .int (Int32.ofNat l)), (2, .int (v2_1)), (3, .int (v))]) (pc := 31) (gd gk_122 21 rfl) rfl (by rw [gL_122]; decide) (fun _ => rfl) (1) rfl (fun v3_1 hv3_1 => ?_)
          obtain rfl : v3_1 = Int32.ofNat (k + 1) := hv3_1.trans (by first | rfl | (simp only [Int32.ofNat_add, Int32.ofNat_mul]; rfl) | (simp only [Int32.ofNat_add, Int32.ofNat_mul]))
          refine gs_goto (pc := 34) (gd gk_122 22 rfl) ?_
          -- end 2: stop, pc 4, locals [(0, .ref (126)), (1, .int (Int32.ofNat l)), (2, .int (v2_1)), (3, .int (Int32.ofNat (k + 1)))]
          exact ih (k + 1) (by omega) _ (by rw [hv2_1, hx]; simp [gq_who, gz_b_eq.mp c19])
        · refine gs_iconst (pc := 22) (gd gk_122 14 rfl) (1) rfl ?_
          refine gs_iload_n (pc := 23) (gd gk_122 15 rfl) rfl ?_
          refine gs_ishl (pc := 24) (gd gk_122 16 rfl) ?_
          refine gs_goto (pc := 25) (gd gk_122 17 rfl) ?_
          refine gs_ior (pc := 29) (gd gk_122 19 rfl) ?_
          refine gs_istore_n (ls2 := fun v => [(0, .ref (126)), (1, .int (Int32.ofNat l)), (2, .int (v)), (3, .int (Int32.ofNat k))]) (pc := 30) (gd gk_122 20 rfl) (by rw [gL_122]; decide) (fun _ => rfl) (fun v2_2 hv2_2 => ?_)
          refine gs_iinc (ls2 := fun v => [(0, .ref (126)), (1, .int (Int32.ofNat l)), (2, .int (v2_2)), (3, .int (v))]) (pc := 31) (gd gk_122 21 rfl) rfl (by rw [gL_122]; decide) (fun _ => rfl) (1) rfl (fun v3_2 hv3_2 => ?_)
          obtain rfl : v3_2 = Int32.ofNat (k + 1) := hv3_2.trans (by first | rfl | (simp only [Int32.ofNat_add, Int32.ofNat_mul]; rfl) | (simp only [Int32.ofNat_add, Int32.ofNat_mul]))
          refine gs_goto (pc := 34) (gd gk_122 22 rfl) ?_
          -- end 3: stop, pc 4, locals [(0, .ref (126)), (1, .int (Int32.ofNat l)), (2, .int (v2_2)), (3, .int (Int32.ofNat (k + 1)))]
          exact ih (k + 1) (by omega) _ (by rw [hv2_2, hx]; simp [gq_who, gz_b_ne.mp c19])
  refine gs_iconst (pc := 0) (gd gk_122 0 rfl) (0) rfl ?_
  refine gs_istore_n (ls2 := fun v => [(0, .ref (126)), (1, .int (Int32.ofNat l)), (2, .int (v))]) (pc := 1) (gd gk_122 1 rfl) (by rw [gL_122]; decide) (fun _ => rfl) (fun v2_1 hv2_1 => ?_)
  obtain rfl : v2_1 = Int32.ofNat 0 := hv2_1.trans (by first | rfl | (simp only [Int32.ofNat_add, Int32.ofNat_mul]; rfl) | (simp only [Int32.ofNat_add, Int32.ofNat_mul]))
  refine gs_iconst (pc := 2) (gd gk_122 2 rfl) (0) rfl ?_
  refine gs_istore_n (ls2 := fun v => [(0, .ref (126)), (1, .int (Int32.ofNat l)), (2, .int (Int32.ofNat 0)), (3, .int (v))]) (pc := 3) (gd gk_122 3 rfl) (by rw [gL_122]; decide) (fun _ => rfl) (fun v3_1 hv3_1 => ?_)
  obtain rfl : v3_1 = Int32.ofNat 0 := hv3_1.trans (by first | rfl | (simp only [Int32.ofNat_add, Int32.ofNat_mul]; rfl) | (simp only [Int32.ofNat_add, Int32.ofNat_mul]))
  -- end 1: stop, pc 4, locals [(0, .ref (126)), (1, .int (Int32.ofNat l)), (2, .int (Int32.ofNat 0)), (3, .int (Int32.ofNat 0))]
  exact key N 0 (by omega) _ rfl
end
/-- the smells that k cells have sent on -/
def gq_dk (sm : Nat → Int32) (wd : Int32) (k t : Nat) : Int32 := if 0 ≤ Int32.ofNat t - wd ∧ Int32.ofNat t - wd < Int32.ofNat k then (if 0 < sm (Int32.ofNat t - wd).toNatClampNeg then sm (Int32.ofNat t - wd).toNatClampNeg - 1 else 0) else 0
theorem gq_dk_e {sm : Nat → Int32} {wd : Int32} {k t : Nat} (hk : k < 10) (e : Int32.ofNat t - wd = Int32.ofNat k) : gq_dk sm wd (k + 1) t = (if 0 < sm k then sm k - 1 else 0) ∧ gq_dk sm wd k t = 0 := by
  unfold gq_dk
  rw [e, znn (by omega)]
  refine ⟨?_, ?_⟩
  · rw [if_pos ⟨z0 k (by omega), (zlt (by omega) (by omega)).mpr (Nat.lt_succ_self k)⟩]
  · exact if_neg (fun q => absurd ((zlt (by omega) (by omega)).mp q.2) (Nat.lt_irrefl k))
theorem gq_dk_n {sm : Nat → Int32} {wd : Int32} {k t : Nat} (hk : k < 10) (e : ¬ Int32.ofNat t - wd = Int32.ofNat k) : gq_dk sm wd (k + 1) t = gq_dk sm wd k t := by
  unfold gq_dk
  have h1 := z0 k (by omega)
  have h2 : Int32.ofNat k < 10 := (zlt (m := 10) (by omega) (by decide)).mpr hk
  rw [zsucc]
  generalize Int32.ofNat t - wd = x at *
  generalize Int32.ofNat k = y at *
  by_cases q : 0 ≤ x ∧ x < y
  · rw [if_pos q, if_pos (by grind)]
  · rw [if_neg q, if_neg (by grind)]
abbrev mq_drift (n : Nat) (I : Nat → Nat → Int32) (J : Nat → Nat → Int64) (l : Nat) (wd : Int32) (bk : Bool) (bc : Nat) : Option Value → gw_W → Prop := fun v w' => v = none ∧ ∃ I2, w' = gS n I2 J ∧ (∀ c, c < 10 → I2 133 (13 * l + c) = gq_st (gz_M I) wd bk bc (I 133 (13 * l + 10)) (gz_L I l) c) ∧ (∀ q, ¬ (13 * l ≤ q ∧ q < 13 * l + 10) → I2 133 q = I 133 q) ∧ ∀ p, p ≠ 133 → p ≠ 135 → I2 p = I p
theorem m_drift {V : gw_V} {n : Nat} {I : Nat → Nat → Int32} {J : Nat → Nat → Int64} (l : Nat) (hl : l < 3) (wd bs : Int32) (bk : Bool) (bc : Nat) (hbc : bc < 10) (hbs : bs = if bk then Int32.ofNat bc else -99) (hwd : wd = -1 ∨ wd = 0 ∨ wd = 1) : gw_E V 125 (0, [(0, .ref 126), (1, .int (Int32.ofNat l)), (2, .int wd), (3, .int bs)], [], gS n I J, 0, 0) (mq_drift n I J l wd bk bc) := by
  have lp3 : ∀ (m k : Nat), m + k = 10 → ∀ I1, (∀ t, t < 10 → I1 135 t = gq_dr (gz_L I l) wd t) → (∀ c, c < k → I1 133 (13 * l + c) = gq_st (gz_M I) wd bk bc (I 133 (13 * l + 10)) (gz_L I l) c) → (∀ q, ¬ (13 * l ≤ q ∧ q < 13 * l + k) → I1 133 q = I 133 q) → (∀ p, p ≠ 133 → p ≠ 135 → I1 p = I p) → gw_E V 125 (100, [(0, .ref 126), (1, .int (Int32.ofNat l)), (2, .int wd), (3, .int bs), (4, .int (Int32.ofNat (13 * l))), (5, .int (Int32.ofNat k))], [], gS n I1 J, 0, 0) (mq_drift n I J l wd bk bc) := by
    intro m
    induction m with
    | zero =>
      intro k hk I1 h0 h1 h2 h3
      obtain rfl : k = 10 := by omega
      refine gs_iload (pc := 100) (gd gk_125 54 rfl) rfl ?_
      refine gs_bipush (pc := 102) (gd gk_125 55 rfl) (10) rfl ?_
      refine gs_icmp_ge (pc := 104) (gd gk_125 56 rfl) (fun c104 => ?_) (fun c104 => ?_)
      · replace c104 : 10 ≤ 10 := (zle (k := 10) (m := 10) (by omega) (by omega)).mp c104
        -- end 1: return, pc 171, locals [(0, .ref (126)), (1, .int (Int32.ofNat l)), (2, .int (wd)), (3, .int (bs)), (4, .int (Int32.ofNat (13 * l))), (5, .int (Int32.ofNat 10))]
        exact gs_ret (pc := 171) (gd gk_125 90 rfl) rfl (Nat.zero_le _) (Nat.zero_le _) (⟨rfl, I1, rfl, h1, h2, h3⟩)
      · replace c104 : ¬ (10 ≤ 10) := fun q9 => c104 ((zle (k := 10) (m := 10) (by omega) (by omega)).mpr q9)
        -- end 2: stop, pc 107, locals [(0, .ref (126)), (1, .int (Int32.ofNat l)), (2, .int (wd)), (3, .int (bs)), (4, .int (Int32.ofNat (13 * l))), (5, .int (Int32.ofNat 10))]
        exact absurd (Nat.le_refl 10) c104
    | succ m ih =>
      intro k hk I1 h0 h1 h2 h3
      have step : ∀ I2 x, I2 = gw_u I1 133 (13 * l + k) x → x = gq_st (gz_M I) wd bk bc (I 133 (13 * l + 10)) (gz_L I l) k → gw_E V 125 (100, [(0, .ref 126), (1, .int (Int32.ofNat l)), (2, .int wd), (3, .int bs), (4, .int (Int32.ofNat (13 * l))), (5, .int (Int32.ofNat (k + 1)))], [], gS n I2 J, 0, 0) (mq_drift n I J l wd bk bc) := by
        intro I2 x e1 e2
        refine ih (k + 1) (by omega) I2 (fun t ht => ?_) (fun c hc => ?_) (fun q hq => ?_) (fun p p1 p2 => ?_)
        · rw [e1, gw_u_o (by omega)]; exact h0 t ht
        · rw [e1, gw_u_s]
          unfold upd
          by_cases q : c = k
          · rw [q, if_pos rfl, e2]
          · rw [if_neg (by omega)]; exact h1 c (by omega)
        · rw [e1, gw_u_s]
          unfold upd
          rw [if_neg (by omega)]; exact h2 q (by omega)
        · rw [e1, gw_u_o p1]; exact h3 p p1 p2
      have hch : I1 133 (13 * l + 10) = I 133 (13 * l + 10) := h2 _ (by omega)
      have h126 : I1 126 1 = gz_M I 0 1 := by rw [h3 126 (by omega) (by omega)]; rfl
      have hst : ∀ z, z = I1 135 k + (if Int32.ofNat k = bs then I1 126 1 else 0) → (gz_in (I1 133 (13 * l + 10)) (Int32.ofNat k) = true → (0 : Int32) = gq_st (gz_M I) wd bk bc (I 133 (13 * l + 10)) (gz_L I l) k) ∧ (gz_in (I1 133 (13 * l + 10)) (Int32.ofNat k) = false → z = gq_st (gz_M I) wd bk bc (I 133 (13 * l + 10)) (gz_L I l) k) := by
        intro z hz
        rw [hch]
        refine ⟨fun q => by unfold gq_st; rw [if_pos q], fun q => ?_⟩
        unfold gq_st
        rw [q, hz, h0 k (by omega), h126, hbs]
        cases bk
        · have : ¬ Int32.ofNat k = -99 := fun q => by have := z0 k (by omega); rw [q] at this; exact absurd this (by decide)
          simp [this]
        · have : (Int32.ofNat k = Int32.ofNat bc) ↔ k = bc := zeq (by omega) (by omega)
          simp [this]
      refine gs_iload (pc := 100) (gd gk_125 54 rfl) rfl ?_
      refine gs_bipush (pc := 102) (gd gk_125 55 rfl) (10) rfl ?_
      refine gs_icmp_ge (pc := 104) (gd gk_125 56 rfl) (fun c104 => ?_) (fun c104 => ?_)
      · replace c104 : 10 ≤ k := (zle (k := 10) (m := k) (by omega) (by omega)).mp c104
        -- end 1: return, pc 171, locals [(0, .ref (126)), (1, .int (Int32.ofNat l)), (2, .int (wd)), (3, .int (bs)), (4, .int (Int32.ofNat (13 * l))), (5, .int (Int32.ofNat k))]
        exact absurd c104 (by omega)
      · replace c104 : ¬ (10 ≤ k) := fun q9 => c104 ((zle (k := 10) (m := k) (by omega) (by omega)).mpr q9)
        refine gs_aload_n (pc := 107) (gd gk_125 57 rfl) rfl ?_
        refine gs_getR (r := 135) (pc := 108) (gd gk_125 58 rfl) rfl rfl rfl (by decide) ?_
        refine gs_iload (pc := 111) (gd gk_125 59 rfl) rfl ?_
        refine gs_ialoadK (k) (10) (pc := 113) (gd gk_125 60 rfl) (Or.inl rfl) rfl (by decide) (by first | rfl | (simp only [Int32.ofNat_add, Int32.ofNat_mul]; rfl) | (simp only [Int32.ofNat_add, Int32.ofNat_mul])) (by omega) ?_
        refine gs_iload (pc := 114) (gd gk_125 61 rfl) rfl ?_
        refine gs_iload_n (pc := 116) (gd gk_125 62 rfl) rfl ?_
        refine gs_icmp_ne (pc := 117) (gd gk_125 63 rfl) (fun c117 => ?_) (fun c117 => ?_)
        · refine gs_iconst (pc := 127) (gd gk_125 67 rfl) (0) rfl ?_
          refine gs_iadd (pc := 128) (gd gk_125 68 rfl) ?_
          refine gs_istore (ls2 := fun v => [(0, .ref (126)), (1, .int (Int32.ofNat l)), (2, .int (wd)), (3, .int (bs)), (4, .int (Int32.ofNat (13 * l))), (5, .int (Int32.ofNat k)), (6, .int (v))]) (pc := 129) (gd gk_125 69 rfl) (by rw [gL_125]; decide) (fun _ => rfl) (fun v6_1 hv6_1 => ?_)
          refine gs_aload_n (pc := 131) (gd gk_125 70 rfl) rfl ?_
          refine gs_getR (r := 133) (pc := 132) (gd gk_125 71 rfl) rfl rfl rfl (by decide) ?_
          refine gs_iload (pc := 135) (gd gk_125 72 rfl) rfl ?_
          refine gs_iload (pc := 137) (gd gk_125 73 rfl) rfl ?_
          refine gs_iadd (pc := 139) (gd gk_125 74 rfl) ?_
          refine gs_aload_n (pc := 140) (gd gk_125 75 rfl) rfl ?_
          refine gs_getR (r := 133) (pc := 141) (gd gk_125 76 rfl) rfl rfl rfl (by decide) ?_
          refine gs_iload (pc := 144) (gd gk_125 77 rfl) rfl ?_
          refine gs_bipush (pc := 146) (gd gk_125 78 rfl) (10) rfl ?_
          refine gs_iadd (pc := 148) (gd gk_125 79 rfl) ?_
          refine gs_ialoadK (((13 * l) + 10)) (52) (pc := 149) (gd gk_125 80 rfl) (Or.inl rfl) rfl (by decide) (by first | rfl | (simp only [Int32.ofNat_add, Int32.ofNat_mul]; rfl) | (simp only [Int32.ofNat_add, Int32.ofNat_mul])) (by omega) ?_
          refine gs_iload (pc := 150) (gd gk_125 81 rfl) rfl ?_
          refine gs_callS (as := [.int ((I1 133 ((13 * l) + 10))), .int (Int32.ofNat k)]) (pc := 152) (gd gk_125 82 rfl) (by decide) rfl rfl (Nat.le_of_ble_eq_true rfl) gq_125_108 (Nat.le_of_ble_eq_true rfl) (c_mhas ((I1 133 ((13 * l) + 10))) (Int32.ofNat k)) (fun r_152 w_152 q_152 => ?_)
          obtain ⟨rfl, rfl⟩ := q_152
          refine gs_if_eq (pc := 155) (gd gk_125 83 rfl) (fun c155 => ?_) (fun c155 => ?_)
          · refine gs_iload (pc := 162) (gd gk_125 86 rfl) rfl ?_
            refine gs_iastoreK (((13 * l) + k)) (52) gs_sl (pc := 164) (gd gk_125 87 rfl) rfl rfl (by decide) (by first | rfl | (simp only [Int32.ofNat_add, Int32.ofNat_mul]; rfl) | (simp only [Int32.ofNat_add, Int32.ofNat_mul])) (by omega) (fun I_1 hI_1 => ?_)
            refine gs_iinc (ls2 := fun v => [(0, .ref (126)), (1, .int (Int32.ofNat l)), (2, .int (wd)), (3, .int (bs)), (4, .int (Int32.ofNat (13 * l))), (5, .int (v)), (6, .int (v6_1))]) (pc := 165) (gd gk_125 88 rfl) rfl (by rw [gL_125]; decide) (fun _ => rfl) (1) rfl (fun v5_1 hv5_1 => ?_)
            obtain rfl : v5_1 = Int32.ofNat (k + 1) := hv5_1.trans (by first | rfl | (simp only [Int32.ofNat_add, Int32.ofNat_mul]; rfl) | (simp only [Int32.ofNat_add, Int32.ofNat_mul]))
            refine gs_goto (pc := 168) (gd gk_125 89 rfl) ?_
            -- end 2: stop, pc 100, locals [(0, .ref (126)), (1, .int (Int32.ofNat l)), (2, .int (wd)), (3, .int (bs)), (4, .int (Int32.ofNat (13 * l))), (5, .int (Int32.ofNat (k + 1))), (6, .int (v6_1))]
            refine gs_drop [0, 1, 2, 3, 4, 5] rfl (step _ _ hI_1 ?_)
            exact (hst v6_1 (by rw [hv6_1, if_neg c117])).2 (gz_b_eq.mp c155)
          · refine gs_iconst (pc := 158) (gd gk_125 84 rfl) (0) rfl ?_
            refine gs_goto (pc := 159) (gd gk_125 85 rfl) ?_
            refine gs_iastoreK (((13 * l) + k)) (52) gs_sl (pc := 164) (gd gk_125 87 rfl) rfl rfl (by decide) (by first | rfl | (simp only [Int32.ofNat_add, Int32.ofNat_mul]; rfl) | (simp only [Int32.ofNat_add, Int32.ofNat_mul])) (by omega) (fun I_2 hI_2 => ?_)
            refine gs_iinc (ls2 := fun v => [(0, .ref (126)), (1, .int (Int32.ofNat l)), (2, .int (wd)), (3, .int (bs)), (4, .int (Int32.ofNat (13 * l))), (5, .int (v)), (6, .int (v6_1))]) (pc := 165) (gd gk_125 88 rfl) rfl (by rw [gL_125]; decide) (fun _ => rfl) (1) rfl (fun v5_2 hv5_2 => ?_)
            obtain rfl : v5_2 = Int32.ofNat (k + 1) := hv5_2.trans (by first | rfl | (simp only [Int32.ofNat_add, Int32.ofNat_mul]; rfl) | (simp only [Int32.ofNat_add, Int32.ofNat_mul]))
            refine gs_goto (pc := 168) (gd gk_125 89 rfl) ?_
            -- end 3: stop, pc 100, locals [(0, .ref (126)), (1, .int (Int32.ofNat l)), (2, .int (wd)), (3, .int (bs)), (4, .int (Int32.ofNat (13 * l))), (5, .int (Int32.ofNat (k + 1))), (6, .int (v6_1))]
            refine gs_drop [0, 1, 2, 3, 4, 5] rfl (step _ _ hI_2 ?_)
            exact (hst v6_1 (by rw [hv6_1, if_neg c117])).1 (gz_b_ne.mp c155)
        · refine gs_aload_n (pc := 120) (gd gk_125 64 rfl) rfl ?_
          refine gs_getI (pc := 121) (gd gk_125 65 rfl) rfl rfl ?_
          refine gs_goto (pc := 124) (gd gk_125 66 rfl) ?_
          refine gs_iadd (pc := 128) (gd gk_125 68 rfl) ?_
          refine gs_istore (ls2 := fun v => [(0, .ref (126)), (1, .int (Int32.ofNat l)), (2, .int (wd)), (3, .int (bs)), (4, .int (Int32.ofNat (13 * l))), (5, .int (Int32.ofNat k)), (6, .int (v))]) (pc := 129) (gd gk_125 69 rfl) (by rw [gL_125]; decide) (fun _ => rfl) (fun v6_2 hv6_2 => ?_)
          refine gs_aload_n (pc := 131) (gd gk_125 70 rfl) rfl ?_
          refine gs_getR (r := 133) (pc := 132) (gd gk_125 71 rfl) rfl rfl rfl (by decide) ?_
          refine gs_iload (pc := 135) (gd gk_125 72 rfl) rfl ?_
          refine gs_iload (pc := 137) (gd gk_125 73 rfl) rfl ?_
          refine gs_iadd (pc := 139) (gd gk_125 74 rfl) ?_
          refine gs_aload_n (pc := 140) (gd gk_125 75 rfl) rfl ?_
          refine gs_getR (r := 133) (pc := 141) (gd gk_125 76 rfl) rfl rfl rfl (by decide) ?_
          refine gs_iload (pc := 144) (gd gk_125 77 rfl) rfl ?_
          refine gs_bipush (pc := 146) (gd gk_125 78 rfl) (10) rfl ?_
          refine gs_iadd (pc := 148) (gd gk_125 79 rfl) ?_
          refine gs_ialoadK (((13 * l) + 10)) (52) (pc := 149) (gd gk_125 80 rfl) (Or.inl rfl) rfl (by decide) (by first | rfl | (simp only [Int32.ofNat_add, Int32.ofNat_mul]; rfl) | (simp only [Int32.ofNat_add, Int32.ofNat_mul])) (by omega) ?_
          refine gs_iload (pc := 150) (gd gk_125 81 rfl) rfl ?_
          refine gs_callS (as := [.int ((I1 133 ((13 * l) + 10))), .int (Int32.ofNat k)]) (pc := 152) (gd gk_125 82 rfl) (by decide) rfl rfl (Nat.le_of_ble_eq_true rfl) gq_125_108 (Nat.le_of_ble_eq_true rfl) (c_mhas ((I1 133 ((13 * l) + 10))) (Int32.ofNat k)) (fun r_152 w_152 q_152 => ?_)
          obtain ⟨rfl, rfl⟩ := q_152
          refine gs_if_eq (pc := 155) (gd gk_125 83 rfl) (fun c155 => ?_) (fun c155 => ?_)
          · refine gs_iload (pc := 162) (gd gk_125 86 rfl) rfl ?_
            refine gs_iastoreK (((13 * l) + k)) (52) gs_sl (pc := 164) (gd gk_125 87 rfl) rfl rfl (by decide) (by first | rfl | (simp only [Int32.ofNat_add, Int32.ofNat_mul]; rfl) | (simp only [Int32.ofNat_add, Int32.ofNat_mul])) (by omega) (fun I_3 hI_3 => ?_)
            refine gs_iinc (ls2 := fun v => [(0, .ref (126)), (1, .int (Int32.ofNat l)), (2, .int (wd)), (3, .int (bs)), (4, .int (Int32.ofNat (13 * l))), (5, .int (v)), (6, .int (v6_2))]) (pc := 165) (gd gk_125 88 rfl) rfl (by rw [gL_125]; decide) (fun _ => rfl) (1) rfl (fun v5_3 hv5_3 => ?_)
            obtain rfl : v5_3 = Int32.ofNat (k + 1) := hv5_3.trans (by first | rfl | (simp only [Int32.ofNat_add, Int32.ofNat_mul]; rfl) | (simp only [Int32.ofNat_add, Int32.ofNat_mul]))
            refine gs_goto (pc := 168) (gd gk_125 89 rfl) ?_
            -- end 4: stop, pc 100, locals [(0, .ref (126)), (1, .int (Int32.ofNat l)), (2, .int (wd)), (3, .int (bs)), (4, .int (Int32.ofNat (13 * l))), (5, .int (Int32.ofNat (k + 1))), (6, .int (v6_2))]
            refine gs_drop [0, 1, 2, 3, 4, 5] rfl (step _ _ hI_3 ?_)
            exact (hst v6_2 (by rw [hv6_2, if_pos c117])).2 (gz_b_eq.mp c155)
          · refine gs_iconst (pc := 158) (gd gk_125 84 rfl) (0) rfl ?_
            refine gs_goto (pc := 159) (gd gk_125 85 rfl) ?_
            refine gs_iastoreK (((13 * l) + k)) (52) gs_sl (pc := 164) (gd gk_125 87 rfl) rfl rfl (by decide) (by first | rfl | (simp only [Int32.ofNat_add, Int32.ofNat_mul]; rfl) | (simp only [Int32.ofNat_add, Int32.ofNat_mul])) (by omega) (fun I_4 hI_4 => ?_)
            refine gs_iinc (ls2 := fun v => [(0, .ref (126)), (1, .int (Int32.ofNat l)), (2, .int (wd)), (3, .int (bs)), (4, .int (Int32.ofNat (13 * l))), (5, .int (v)), (6, .int (v6_2))]) (pc := 165) (gd gk_125 88 rfl) rfl (by rw [gL_125]; decide) (fun _ => rfl) (1) rfl (fun v5_4 hv5_4 => ?_)
            obtain rfl : v5_4 = Int32.ofNat (k + 1) := hv5_4.trans (by first | rfl | (simp only [Int32.ofNat_add, Int32.ofNat_mul]; rfl) | (simp only [Int32.ofNat_add, Int32.ofNat_mul]))
            refine gs_goto (pc := 168) (gd gk_125 89 rfl) ?_
            -- end 5: stop, pc 100, locals [(0, .ref (126)), (1, .int (Int32.ofNat l)), (2, .int (wd)), (3, .int (bs)), (4, .int (Int32.ofNat (13 * l))), (5, .int (Int32.ofNat (k + 1))), (6, .int (v6_2))]
            refine gs_drop [0, 1, 2, 3, 4, 5] rfl (step _ _ hI_4 ?_)
            exact (hst v6_2 (by rw [hv6_2, if_pos c117])).1 (gz_b_ne.mp c155)
  have lp2 : ∀ (m k : Nat), m + k = 10 → ∀ I1, (∀ t, t < 10 → I1 135 t = gq_dk (gz_L I l) wd k t) → (∀ p, p ≠ 135 → I1 p = I p) → gw_E V 125 (33, [(0, .ref 126), (1, .int (Int32.ofNat l)), (2, .int wd), (3, .int bs), (4, .int (Int32.ofNat (13 * l))), (5, .int (Int32.ofNat k))], [], gS n I1 J, 0, 0) (mq_drift n I J l wd bk bc) := by
    intro m
    induction m with
    | zero =>
      intro k hk I1 h1 h2
      obtain rfl : k = 10 := by omega
      refine gs_iload (pc := 33) (gd gk_125 18 rfl) rfl ?_
      refine gs_bipush (pc := 35) (gd gk_125 19 rfl) (10) rfl ?_
      refine gs_icmp_ge (pc := 37) (gd gk_125 20 rfl) (fun c37 => ?_) (fun c37 => ?_)
      · replace c37 : 10 ≤ 10 := (zle (k := 10) (m := 10) (by omega) (by omega)).mp c37
        refine gs_iconst (pc := 97) (gd gk_125 52 rfl) (0) rfl ?_
        refine gs_istore (ls2 := fun v => [(0, .ref (126)), (1, .int (Int32.ofNat l)), (2, .int (wd)), (3, .int (bs)), (4, .int (Int32.ofNat (13 * l))), (5, .int (v))]) (pc := 98) (gd gk_125 53 rfl) (by rw [gL_125]; decide) (fun _ => rfl) (fun v5_1 hv5_1 => ?_)
        obtain rfl : v5_1 = Int32.ofNat 0 := hv5_1.trans (by first | rfl | (simp only [Int32.ofNat_add, Int32.ofNat_mul]; rfl) | (simp only [Int32.ofNat_add, Int32.ofNat_mul]))
        -- end 1: stop, pc 100, locals [(0, .ref (126)), (1, .int (Int32.ofNat l)), (2, .int (wd)), (3, .int (bs)), (4, .int (Int32.ofNat (13 * l))), (5, .int (Int32.ofNat 0))]
        exact lp3 10 0 rfl I1 (fun t ht => h1 t ht) (fun c hc => absurd hc (Nat.not_lt_zero _)) (fun q _ => by rw [h2 133 (by omega)]) (fun p p1 p2 => h2 p p2)
      · replace c37 : ¬ (10 ≤ 10) := fun q9 => c37 ((zle (k := 10) (m := 10) (by omega) (by omega)).mpr q9)
        -- end 2: stop, pc 40, locals [(0, .ref (126)), (1, .int (Int32.ofNat l)), (2, .int (wd)), (3, .int (bs)), (4, .int (Int32.ofNat (13 * l))), (5, .int (Int32.ofNat 10))]
        exact absurd (Nat.le_refl 10) c37
    | succ m ih =>
      intro k hk I1 h1 h2
      have h133 : I1 133 (13 * l + k) = gz_L I l k := by rw [h2 133 (by omega)]; rfl
      have hto : ∀ t, t < 10 → (Int32.ofNat t - wd = Int32.ofNat k ↔ Int32.ofNat k + wd = Int32.ofNat t) := fun t _ => by constructor <;> (intro q; grind)
      refine gs_iload (pc := 33) (gd gk_125 18 rfl) rfl ?_
      refine gs_bipush (pc := 35) (gd gk_125 19 rfl) (10) rfl ?_
      refine gs_icmp_ge (pc := 37) (gd gk_125 20 rfl) (fun c37 => ?_) (fun c37 => ?_)
      · replace c37 : 10 ≤ k := (zle (k := 10) (m := k) (by omega) (by omega)).mp c37
        -- end 1: stop, pc 97, locals [(0, .ref (126)), (1, .int (Int32.ofNat l)), (2, .int (wd)), (3, .int (bs)), (4, .int (Int32.ofNat (13 * l))), (5, .int (Int32.ofNat k))]
        exact absurd c37 (by omega)
      · replace c37 : ¬ (10 ≤ k) := fun q9 => c37 ((zle (k := 10) (m := k) (by omega) (by omega)).mpr q9)
        refine gs_iload (pc := 40) (gd gk_125 21 rfl) rfl ?_
        refine gs_iload_n (pc := 42) (gd gk_125 22 rfl) rfl ?_
        refine gs_iadd (pc := 43) (gd gk_125 23 rfl) ?_
        refine gs_istore (ls2 := fun v => [(0, .ref (126)), (1, .int (Int32.ofNat l)), (2, .int (wd)), (3, .int (bs)), (4, .int (Int32.ofNat (13 * l))), (5, .int (Int32.ofNat k)), (6, .int (v))]) (pc := 44) (gd gk_125 24 rfl) (by rw [gL_125]; decide) (fun _ => rfl) (fun v6_1 hv6_1 => ?_)
        refine gs_iload (pc := 46) (gd gk_125 25 rfl) rfl ?_
        refine gs_i2l (pc := 48) (gd gk_125 26 rfl) ?_
        refine gs_lconst (pc := 49) (gd gk_125 27 rfl) (0) rfl ?_
        refine gs_ldc2_w (pc := 50) (gd gk_125 28 rfl) (9) rfl ?_
        refine gs_callS (as := [.long ((v6_1 : Int32).toInt64), .long (0), .long (9)]) (pc := 53) (gd gk_125 29 rfl) (by decide) rfl rfl (Nat.le_of_ble_eq_true rfl) gq_125_107 (Nat.le_of_ble_eq_true rfl) (c_mrg (v6_1) (0) (9)) (fun r_53 w_53 q_53 => ?_)
        obtain ⟨rfl, rfl⟩ := q_53
        refine gs_if_eq (pc := 56) (gd gk_125 30 rfl) (fun c56 => ?_) (fun c56 => ?_)
        · refine gs_iinc (ls2 := fun v => [(0, .ref (126)), (1, .int (Int32.ofNat l)), (2, .int (wd)), (3, .int (bs)), (4, .int (Int32.ofNat (13 * l))), (5, .int (v)), (6, .int (v6_1))]) (pc := 91) (gd gk_125 50 rfl) rfl (by rw [gL_125]; decide) (fun _ => rfl) (1) rfl (fun v5_1 hv5_1 => ?_)
          obtain rfl : v5_1 = Int32.ofNat (k + 1) := hv5_1.trans (by first | rfl | (simp only [Int32.ofNat_add, Int32.ofNat_mul]; rfl) | (simp only [Int32.ofNat_add, Int32.ofNat_mul]))
          refine gs_goto (pc := 94) (gd gk_125 51 rfl) ?_
          -- end 2: stop, pc 33, locals [(0, .ref (126)), (1, .int (Int32.ofNat l)), (2, .int (wd)), (3, .int (bs)), (4, .int (Int32.ofNat (13 * l))), (5, .int (Int32.ofNat (k + 1))), (6, .int (v6_1))]
          refine gs_drop [0, 1, 2, 3, 4, 5] rfl (ih (k + 1) (by omega) I1 (fun t ht => ?_) h2)
          have hf := gz_rg_f.mp (gz_b_eq.mp c56)
          rw [gq_dk_n (by omega) (fun q => ?_)]; exact h1 t ht
          rw [hto t ht, ← hv6_1] at q
          exact hf ⟨by rw [q]; exact z0 t (by omega), by rw [q]; exact (zle (m := 9) (by omega) (by decide)).mpr (by omega)⟩
        · refine gs_aload_n (pc := 59) (gd gk_125 31 rfl) rfl ?_
          refine gs_getR (r := 133) (pc := 60) (gd gk_125 32 rfl) rfl rfl rfl (by decide) ?_
          refine gs_iload (pc := 63) (gd gk_125 33 rfl) rfl ?_
          refine gs_iload (pc := 65) (gd gk_125 34 rfl) rfl ?_
          refine gs_iadd (pc := 67) (gd gk_125 35 rfl) ?_
          refine gs_ialoadK (((13 * l) + k)) (52) (pc := 68) (gd gk_125 36 rfl) (Or.inl rfl) rfl (by decide) (by first | rfl | (simp only [Int32.ofNat_add, Int32.ofNat_mul]; rfl) | (simp only [Int32.ofNat_add, Int32.ofNat_mul])) (by omega) ?_
          refine gs_if_le (pc := 69) (gd gk_125 37 rfl) (fun c69 => ?_) (fun c69 => ?_)
          · refine gs_iinc (ls2 := fun v => [(0, .ref (126)), (1, .int (Int32.ofNat l)), (2, .int (wd)), (3, .int (bs)), (4, .int (Int32.ofNat (13 * l))), (5, .int (v)), (6, .int (v6_1))]) (pc := 91) (gd gk_125 50 rfl) rfl (by rw [gL_125]; decide) (fun _ => rfl) (1) rfl (fun v5_2 hv5_2 => ?_)
            obtain rfl : v5_2 = Int32.ofNat (k + 1) := hv5_2.trans (by first | rfl | (simp only [Int32.ofNat_add, Int32.ofNat_mul]; rfl) | (simp only [Int32.ofNat_add, Int32.ofNat_mul]))
            refine gs_goto (pc := 94) (gd gk_125 51 rfl) ?_
            -- end 3: stop, pc 33, locals [(0, .ref (126)), (1, .int (Int32.ofNat l)), (2, .int (wd)), (3, .int (bs)), (4, .int (Int32.ofNat (13 * l))), (5, .int (Int32.ofNat (k + 1))), (6, .int (v6_1))]
            refine gs_drop [0, 1, 2, 3, 4, 5] rfl (ih (k + 1) (by omega) I1 (fun t ht => ?_) h2)
            rw [h133] at c69
            by_cases q : Int32.ofNat t - wd = Int32.ofNat k
            · rw [(gq_dk_e (by omega) q).1, if_neg (by grind), h1 t ht, (gq_dk_e (by omega) q).2]
            · rw [gq_dk_n (by omega) q]; exact h1 t ht
          · refine gs_aload_n (pc := 72) (gd gk_125 38 rfl) rfl ?_
            refine gs_getR (r := 135) (pc := 73) (gd gk_125 39 rfl) rfl rfl rfl (by decide) ?_
            refine gs_iload (pc := 76) (gd gk_125 40 rfl) rfl ?_
            refine gs_as (Int32.ofNat (v6_1.toNatClampNeg)) ((znat (gz_rg_t.mp (gz_b_ne.mp c56)).1).1.symm) ?_
            refine gs_aload_n (pc := 78) (gd gk_125 41 rfl) rfl ?_
            refine gs_getR (r := 133) (pc := 79) (gd gk_125 42 rfl) rfl rfl rfl (by decide) ?_
            refine gs_iload (pc := 82) (gd gk_125 43 rfl) rfl ?_
            refine gs_iload (pc := 84) (gd gk_125 44 rfl) rfl ?_
            refine gs_iadd (pc := 86) (gd gk_125 45 rfl) ?_
            refine gs_ialoadK (((13 * l) + k)) (52) (pc := 87) (gd gk_125 46 rfl) (Or.inl rfl) rfl (by decide) (by first | rfl | (simp only [Int32.ofNat_add, Int32.ofNat_mul]; rfl) | (simp only [Int32.ofNat_add, Int32.ofNat_mul])) (by omega) ?_
            refine gs_iconst (pc := 88) (gd gk_125 47 rfl) (1) rfl ?_
            refine gs_isub (pc := 89) (gd gk_125 48 rfl) ?_
            have h69 := (zle_l (gz_rg_t.mp (gz_b_ne.mp c56)).1 (n := 9) (by decide)).mp (gz_rg_t.mp (gz_b_ne.mp c56)).2
            refine gs_iastoreK ((v6_1.toNatClampNeg)) (10) gs_sl (pc := 90) (gd gk_125 49 rfl) rfl rfl (by decide) (by first | rfl | (simp only [Int32.ofNat_add, Int32.ofNat_mul]; rfl) | (simp only [Int32.ofNat_add, Int32.ofNat_mul])) (by omega) (fun I_1 hI_1 => ?_)
            refine gs_iinc (ls2 := fun v => [(0, .ref (126)), (1, .int (Int32.ofNat l)), (2, .int (wd)), (3, .int (bs)), (4, .int (Int32.ofNat (13 * l))), (5, .int (v)), (6, .int (v6_1))]) (pc := 91) (gd gk_125 50 rfl) rfl (by rw [gL_125]; decide) (fun _ => rfl) (1) rfl (fun v5_3 hv5_3 => ?_)
            obtain rfl : v5_3 = Int32.ofNat (k + 1) := hv5_3.trans (by first | rfl | (simp only [Int32.ofNat_add, Int32.ofNat_mul]; rfl) | (simp only [Int32.ofNat_add, Int32.ofNat_mul]))
            refine gs_goto (pc := 94) (gd gk_125 51 rfl) ?_
            -- end 4: stop, pc 33, locals [(0, .ref (126)), (1, .int (Int32.ofNat l)), (2, .int (wd)), (3, .int (bs)), (4, .int (Int32.ofNat (13 * l))), (5, .int (Int32.ofNat (k + 1))), (6, .int (v6_1))]
            refine gs_drop [0, 1, 2, 3, 4, 5] rfl (ih (k + 1) (by omega) I_1 (fun t ht => ?_) (fun p hp => by rw [hI_1, gw_u_o hp, h2 p hp]))
            rw [h133] at c69
            have hr := gz_rg_t.mp (gz_b_ne.mp c56)
            rw [hI_1, gw_u_s]
            unfold upd
            by_cases q : Int32.ofNat t - wd = Int32.ofNat k
            · have q2 := (hto t ht).mp q
              rw [← hv6_1] at q2
              rw [if_pos (by rw [q2, znn (by omega)]), (gq_dk_e (by omega) q).1, if_pos (Int32.not_le.mp c69), h133]
            · rw [gq_dk_n (by omega) q, if_neg (fun z => q ((hto t ht).mpr ?_))]
              · exact h1 t ht
              · rw [← hv6_1, z, (znat hr.1).1]
  have lp1 : ∀ (m k : Nat), m + k = 10 → ∀ I1, (∀ t, t < k → I1 135 t = 0) → (∀ p, p ≠ 135 → I1 p = I p) → gw_E V 125 (9, [(0, .ref 126), (1, .int (Int32.ofNat l)), (2, .int wd), (3, .int bs), (4, .int (Int32.ofNat (13 * l))), (5, .int (Int32.ofNat k))], [], gS n I1 J, 0, 0) (mq_drift n I J l wd bk bc) := by
    intro m
    induction m with
    | zero =>
      intro k hk I1 h1 h2
      obtain rfl : k = 10 := by omega
      refine gs_iload (pc := 9) (gd gk_125 6 rfl) rfl ?_
      refine gs_bipush (pc := 11) (gd gk_125 7 rfl) (10) rfl ?_
      refine gs_icmp_ge (pc := 13) (gd gk_125 8 rfl) (fun c13 => ?_) (fun c13 => ?_)
      · replace c13 : 10 ≤ 10 := (zle (k := 10) (m := 10) (by omega) (by omega)).mp c13
        refine gs_iconst (pc := 30) (gd gk_125 16 rfl) (0) rfl ?_
        refine gs_istore (ls2 := fun v => [(0, .ref (126)), (1, .int (Int32.ofNat l)), (2, .int (wd)), (3, .int (bs)), (4, .int (Int32.ofNat (13 * l))), (5, .int (v))]) (pc := 31) (gd gk_125 17 rfl) (by rw [gL_125]; decide) (fun _ => rfl) (fun v5_1 hv5_1 => ?_)
        obtain rfl : v5_1 = Int32.ofNat 0 := hv5_1.trans (by first | rfl | (simp only [Int32.ofNat_add, Int32.ofNat_mul]; rfl) | (simp only [Int32.ofNat_add, Int32.ofNat_mul]))
        -- end 1: stop, pc 33, locals [(0, .ref (126)), (1, .int (Int32.ofNat l)), (2, .int (wd)), (3, .int (bs)), (4, .int (Int32.ofNat (13 * l))), (5, .int (Int32.ofNat 0))]
        exact lp2 10 0 rfl I1 (fun t ht => by rw [h1 t ht]; unfold gq_dk; rw [if_neg (by grind)]) h2
      · replace c13 : ¬ (10 ≤ 10) := fun q9 => c13 ((zle (k := 10) (m := 10) (by omega) (by omega)).mpr q9)
        -- end 2: stop, pc 16, locals [(0, .ref (126)), (1, .int (Int32.ofNat l)), (2, .int (wd)), (3, .int (bs)), (4, .int (Int32.ofNat (13 * l))), (5, .int (Int32.ofNat 10))]
        exact absurd (Nat.le_refl 10) c13
    | succ m ih =>
      intro k hk I1 h1 h2
      refine gs_iload (pc := 9) (gd gk_125 6 rfl) rfl ?_
      refine gs_bipush (pc := 11) (gd gk_125 7 rfl) (10) rfl ?_
      refine gs_icmp_ge (pc := 13) (gd gk_125 8 rfl) (fun c13 => ?_) (fun c13 => ?_)
      · replace c13 : 10 ≤ k := (zle (k := 10) (m := k) (by omega) (by omega)).mp c13
        -- end 1: stop, pc 30, locals [(0, .ref (126)), (1, .int (Int32.ofNat l)), (2, .int (wd)), (3, .int (bs)), (4, .int (Int32.ofNat (13 * l))), (5, .int (Int32.ofNat k))]
        exact absurd c13 (by omega)
      · replace c13 : ¬ (10 ≤ k) := fun q9 => c13 ((zle (k := 10) (m := k) (by omega) (by omega)).mpr q9)
        refine gs_aload_n (pc := 16) (gd gk_125 9 rfl) rfl ?_
        refine gs_getR (r := 135) (pc := 17) (gd gk_125 10 rfl) rfl rfl rfl (by decide) ?_
        refine gs_iload (pc := 20) (gd gk_125 11 rfl) rfl ?_
        refine gs_iconst (pc := 22) (gd gk_125 12 rfl) (0) rfl ?_
        refine gs_iastoreK (k) (10) gs_sl (pc := 23) (gd gk_125 13 rfl) rfl rfl (by decide) (by first | rfl | (simp only [Int32.ofNat_add, Int32.ofNat_mul]; rfl) | (simp only [Int32.ofNat_add, Int32.ofNat_mul])) (by omega) (fun I_1 hI_1 => ?_)
        refine gs_iinc (ls2 := fun v => [(0, .ref (126)), (1, .int (Int32.ofNat l)), (2, .int (wd)), (3, .int (bs)), (4, .int (Int32.ofNat (13 * l))), (5, .int (v))]) (pc := 24) (gd gk_125 14 rfl) rfl (by rw [gL_125]; decide) (fun _ => rfl) (1) rfl (fun v5_1 hv5_1 => ?_)
        obtain rfl : v5_1 = Int32.ofNat (k + 1) := hv5_1.trans (by first | rfl | (simp only [Int32.ofNat_add, Int32.ofNat_mul]; rfl) | (simp only [Int32.ofNat_add, Int32.ofNat_mul]))
        refine gs_goto (pc := 27) (gd gk_125 15 rfl) ?_
        -- end 2: stop, pc 9, locals [(0, .ref (126)), (1, .int (Int32.ofNat l)), (2, .int (wd)), (3, .int (bs)), (4, .int (Int32.ofNat (13 * l))), (5, .int (Int32.ofNat (k + 1)))]
        refine ih (k + 1) (by omega) I_1 (fun t ht => ?_) (fun p hp => by rw [hI_1, gw_u_o hp, h2 p hp])
        rw [hI_1, gw_u_s]
        unfold upd
        by_cases q : t = k
        · rw [if_pos q]
        · rw [if_neg q]; exact h1 t (by omega)
  refine gs_bipush (pc := 0) (gd gk_125 0 rfl) (13) rfl ?_
  refine gs_iload_n (pc := 2) (gd gk_125 1 rfl) rfl ?_
  refine gs_imul (pc := 3) (gd gk_125 2 rfl) ?_
  refine gs_istore (ls2 := fun v => [(0, .ref (126)), (1, .int (Int32.ofNat l)), (2, .int (wd)), (3, .int (bs)), (4, .int (v))]) (pc := 4) (gd gk_125 3 rfl) (by rw [gL_125]; decide) (fun _ => rfl) (fun v4_1 hv4_1 => ?_)
  obtain rfl : v4_1 = Int32.ofNat ((13 * l)) := hv4_1.trans (by first | rfl | (simp only [Int32.ofNat_add, Int32.ofNat_mul]; rfl) | (simp only [Int32.ofNat_add, Int32.ofNat_mul]))
  refine gs_iconst (pc := 6) (gd gk_125 4 rfl) (0) rfl ?_
  refine gs_istore (ls2 := fun v => [(0, .ref (126)), (1, .int (Int32.ofNat l)), (2, .int (wd)), (3, .int (bs)), (4, .int (Int32.ofNat ((13 * l)))), (5, .int (v))]) (pc := 7) (gd gk_125 5 rfl) (by rw [gL_125]; decide) (fun _ => rfl) (fun v5_1 hv5_1 => ?_)
  obtain rfl : v5_1 = Int32.ofNat 0 := hv5_1.trans (by first | rfl | (simp only [Int32.ofNat_add, Int32.ofNat_mul]; rfl) | (simp only [Int32.ofNat_add, Int32.ofNat_mul]))
  -- end 1: stop, pc 9, locals [(0, .ref (126)), (1, .int (Int32.ofNat l)), (2, .int (wd)), (3, .int (bs)), (4, .int (Int32.ofNat ((13 * l)))), (5, .int (Int32.ofNat 0))]
  exact lp1 10 0 rfl I (fun t ht => absurd ht (Nat.not_lt_zero _)) (fun _ _ => rfl)
end
section
/-! ===== the reference: an hour passes, a plan is run ===== -/
abbrev mq_pass (n : Nat) (I : Nat → Nat → Int32) (J : Nat → Nat → Int64) (N l h : Nat) (wd : Int32) (bk : Bool) (bc : Nat) (so : Int32) : Option Value → gw_W → Prop := fun v w' => ∃ I2, w' = gS n I2 J ∧ v = some (.int (gq_hc (gz_M I) (gq_st (gz_M I) wd bk bc (I 133 (13 * l + 10)) (gz_L I l)) bk (decide (wd = 1)) (fun m => gz_in so (Int32.ofNat m)) N))
    ∧ (∀ c, c < 10 → I2 133 (13 * l + c) = gq_st (gz_M I) wd bk bc (I 133 (13 * l + 10)) (gz_L I l) c) ∧ I2 133 (13 * l + 11) = I 133 (13 * l + 11) + gq_hc (gz_M I) (gq_st (gz_M I) wd bk bc (I 133 (13 * l + 10)) (gz_L I l)) bk (decide (wd = 1)) (fun m => gz_in so (Int32.ofNat m)) N ∧ I2 133 (13 * l + 12) = Int32.ofNat (h + 1)
    ∧ (∀ q, ¬ (13 * l ≤ q ∧ q < 13 * l + 10) → q ≠ 13 * l + 11 → q ≠ 13 * l + 12 → I2 133 q = I 133 q) ∧ ∀ p, p ≠ 133 → p ≠ 135 → I2 p = I p
theorem m_pass {V : gw_V} {n W N : Nat} {I : Nat → Nat → Int32} {J : Nat → Nat → Int64} (l h bc : Nat) (bk : Bool) (so wd : Int32) (hl : l < 3) (hok : gq_ok (gz_M I) W N) (hh : I 133 (13 * l + 12) = Int32.ofNat h) (hh8 : h < 8) (hb : I 128 h = wd) (hwd : wd = -1 ∨ wd = 0 ∨ wd = 1) (hbc : I 126 0 = Int32.ofNat bc) (hbc9 : bc < 10) : gw_E V 127 (0, [(0, .ref 126), (1, .int (Int32.ofNat l)), (2, .int (gz_b bk)), (3, .int so)], [], gS n I J, 0, 0) (mq_pass n I J N l h wd bk bc so) := by
  obtain ⟨-, -, hN, hN6, -, -, -, -, hns⟩ := id hok
  have hN : I 126 4 = Int32.ofNat N := hN
  have join43 : ∀ I1, (∀ c, c < 10 → I1 133 (13 * l + c) = gq_st (gz_M I) wd bk bc (I 133 (13 * l + 10)) (gz_L I l) c) → (∀ q, ¬ (13 * l ≤ q ∧ q < 13 * l + 10) → I1 133 q = I 133 q) → (∀ p, p ≠ 133 → p ≠ 135 → I1 p = I p) → gw_E V 127 (43, [(0, .ref 126), (1, .int (Int32.ofNat l)), (2, .int (gz_b bk)), (3, .int so), (4, .int (Int32.ofNat (13 * l))), (5, .int wd)], [], gS n I1 J, 0, 0) (mq_pass n I J N l h wd bk bc so) := by
    intro I1 h1 h2 h3
    have hM : gz_M I1 = gz_M I := gz_M_eq (fun k _ => by rw [h3 126 (by omega) (by omega)]) (h3 127 (by omega) (by omega)) (h3 129 (by omega) (by omega))
    have hns1 : ∀ m, m < N → 0 ≤ gz_M I 2 m ∧ gz_M I 2 m ≤ 9 := fun m hm => (hns m hm).1
    have hc1 : ∀ c, c < 10 → gz_L I1 l c = gq_st (gz_M I) wd bk bc (I 133 (13 * l + 10)) (gz_L I l) c := h1
    generalize hsm : gq_st (gz_M I) wd bk bc (I 133 (13 * l + 10)) (gz_L I l) = sm at *
    have hN1 : I1 126 4 = Int32.ofNat N := by rw [h3 126 (by omega) (by omega)]; exact hN
    have h129 : I1 129 = I 129 := h3 129 (by omega) (by omega)
    have lp : ∀ (m k : Nat), m + k = N → ∀ x, x = gq_hc (gz_M I) sm bk (decide (wd = 1)) (fun m => gz_in so (Int32.ofNat m)) k → gw_E V 127 (61, [(0, .ref 126), (1, .int (Int32.ofNat l)), (2, .int (gz_b bk)), (3, .int so), (4, .int (Int32.ofNat (13 * l))), (5, .int wd), (6, .int x), (7, .int (Int32.ofNat k))], [], gS n I1 J, 0, 0) (mq_pass n I J N l h wd bk bc so) := by
      intro m
      induction m with
      | zero =>
        intro k hk x hx
        obtain rfl : k = N := by omega
        have e12 : I1 133 (13 * l + 12) = Int32.ofNat h := by rw [h2 _ (by omega)]; exact hh
        refine gs_iload (pc := 61) (gd gk_127 34 rfl) rfl ?_
        refine gs_aload_n (pc := 63) (gd gk_127 35 rfl) rfl ?_
        refine gs_getI (pc := 64) (gd gk_127 36 rfl) rfl rfl ?_
        refine gs_as (Int32.ofNat k) (hN1) ?_
        refine gs_icmp_ge (pc := 67) (gd gk_127 37 rfl) (fun c67 => ?_) (fun c67 => ?_)
        · replace c67 : k ≤ k := (zle (k := k) (m := k) (by omega) (by omega)).mp c67
          refine gs_aload_n (pc := 109) (gd gk_127 57 rfl) rfl ?_
          refine gs_getR (r := 133) (pc := 110) (gd gk_127 58 rfl) rfl rfl rfl (by decide) ?_
          refine gs_iload (pc := 113) (gd gk_127 59 rfl) rfl ?_
          refine gs_bipush (pc := 115) (gd gk_127 60 rfl) (12) rfl ?_
          refine gs_iadd (pc := 117) (gd gk_127 61 rfl) ?_
          refine gs_dup2 (pc := 118) (gd gk_127 62 rfl) rfl rfl ?_
          refine gs_ialoadK (((13 * l) + 12)) (52) (pc := 119) (gd gk_127 63 rfl) (Or.inl rfl) rfl (by decide) (by first | rfl | (simp only [Int32.ofNat_add, Int32.ofNat_mul]; rfl) | (simp only [Int32.ofNat_add, Int32.ofNat_mul])) (by omega) ?_
          refine gs_as (Int32.ofNat h) (e12) ?_
          refine gs_iconst (pc := 120) (gd gk_127 64 rfl) (1) rfl ?_
          refine gs_iadd (pc := 121) (gd gk_127 65 rfl) ?_
          refine gs_iastoreK (((13 * l) + 12)) (52) gs_sl (pc := 122) (gd gk_127 66 rfl) rfl rfl (by decide) (by first | rfl | (simp only [Int32.ofNat_add, Int32.ofNat_mul]; rfl) | (simp only [Int32.ofNat_add, Int32.ofNat_mul])) (by omega) (fun I_1 hI_1 => ?_)
          refine gs_aload_n (pc := 123) (gd gk_127 67 rfl) rfl ?_
          refine gs_getR (r := 133) (pc := 124) (gd gk_127 68 rfl) rfl rfl rfl (by decide) ?_
          refine gs_iload (pc := 127) (gd gk_127 69 rfl) rfl ?_
          refine gs_bipush (pc := 129) (gd gk_127 70 rfl) (11) rfl ?_
          refine gs_iadd (pc := 131) (gd gk_127 71 rfl) ?_
          refine gs_dup2 (pc := 132) (gd gk_127 72 rfl) rfl rfl ?_
          refine gs_ialoadK (((13 * l) + 11)) (52) (pc := 133) (gd gk_127 73 rfl) (Or.inl rfl) rfl (by decide) (by first | rfl | (simp only [Int32.ofNat_add, Int32.ofNat_mul]; rfl) | (simp only [Int32.ofNat_add, Int32.ofNat_mul])) (by omega) ?_
          refine gs_iload (pc := 134) (gd gk_127 74 rfl) rfl ?_
          refine gs_iadd (pc := 136) (gd gk_127 75 rfl) ?_
          refine gs_iastoreK (((13 * l) + 11)) (52) gs_sl (pc := 137) (gd gk_127 76 rfl) rfl rfl (by decide) (by first | rfl | (simp only [Int32.ofNat_add, Int32.ofNat_mul]; rfl) | (simp only [Int32.ofNat_add, Int32.ofNat_mul])) (by omega) (fun I_2 hI_2 => ?_)
          refine gs_iload (pc := 138) (gd gk_127 77 rfl) rfl ?_
          -- end 1: ireturn x, pc 140, locals [(0, .ref (126)), (1, .int (Int32.ofNat l)), (2, .int (gz_b bk)), (3, .int (so)), (4, .int (Int32.ofNat (13 * l))), (5, .int (wd)), (6, .int (x)), (7, .int (Int32.ofNat k))]
          have e0 : ∀ q, q ≠ 13 * l + 11 → q ≠ 13 * l + 12 → I_2 133 q = I1 133 q := fun q q1 q2 => by rw [hI_2, gw_u_s, hI_1, gw_u_s]; simp [upd, q1, q2]
          exact gs_iret (pc := 140) (gd gk_127 78 rfl) rfl (rfl) (Nat.zero_le _) (Nat.zero_le _) (⟨I_2, rfl, by rw [hx, hsm], fun c hc => by rw [e0 _ (by omega) (by omega), h1 c hc, hsm], by rw [hI_2, gw_u_s, hI_1, gw_u_s, hx, hsm]; simp [upd, h2 (13 * l + 11) (by omega)], by rw [hI_2, gw_u_s, hI_1, gw_u_s]; simp [upd, Int32.ofNat_add], fun q q1 q2 q3 => by rw [e0 q q2 q3, h2 q q1], fun p p1 p2 => by rw [hI_2, gw_u_o p1, hI_1, gw_u_o p1, h3 p p1 p2]⟩)
        · replace c67 : ¬ (k ≤ k) := fun q9 => c67 ((zle (k := k) (m := k) (by omega) (by omega)).mpr q9)
          -- end 2: stop, pc 70, locals [(0, .ref (126)), (1, .int (Int32.ofNat l)), (2, .int (gz_b bk)), (3, .int (so)), (4, .int (Int32.ofNat (13 * l))), (5, .int (wd)), (6, .int (x)), (7, .int (Int32.ofNat k))]
          exact absurd (Nat.le_refl k) c67
      | succ m ih =>
        intro k hk x hx
        refine gs_iload (pc := 61) (gd gk_127 34 rfl) rfl ?_
        refine gs_aload_n (pc := 63) (gd gk_127 35 rfl) rfl ?_
        refine gs_getI (pc := 64) (gd gk_127 36 rfl) rfl rfl ?_
        refine gs_as (Int32.ofNat N) (hN1) ?_
        refine gs_icmp_ge (pc := 67) (gd gk_127 37 rfl) (fun c67 => ?_) (fun c67 => ?_)
        · replace c67 : N ≤ k := (zle (k := N) (m := k) (by omega) (by omega)).mp c67
          -- end 1: stop, pc 109, locals [(0, .ref (126)), (1, .int (Int32.ofNat l)), (2, .int (gz_b bk)), (3, .int (so)), (4, .int (Int32.ofNat (13 * l))), (5, .int (wd)), (6, .int (x)), (7, .int (Int32.ofNat k))]
          exact absurd c67 (by omega)
        · replace c67 : ¬ (N ≤ k) := fun q9 => c67 ((zle (k := N) (m := k) (by omega) (by omega)).mpr q9)
          refine gs_iload (pc := 70) (gd gk_127 38 rfl) rfl ?_
          refine gs_iload_n (pc := 72) (gd gk_127 39 rfl) rfl ?_
          refine gs_iload (pc := 73) (gd gk_127 40 rfl) rfl ?_
          refine gs_callS (as := [.int (so), .int (Int32.ofNat k)]) (pc := 75) (gd gk_127 41 rfl) (by decide) rfl rfl (Nat.le_of_ble_eq_true rfl) gq_127_108 (Nat.le_of_ble_eq_true rfl) (c_mhas (so) (Int32.ofNat k)) (fun r_75 w_75 q_75 => ?_)
          obtain ⟨rfl, rfl⟩ := q_75
          refine gs_if_eq (pc := 78) (gd gk_127 42 rfl) (fun c78 => ?_) (fun c78 => ?_)
          · refine gs_iconst (pc := 99) (gd gk_127 52 rfl) (0) rfl ?_
            refine gs_iadd (pc := 100) (gd gk_127 53 rfl) ?_
            refine gs_istore (ls2 := fun v => [(0, .ref (126)), (1, .int (Int32.ofNat l)), (2, .int (gz_b bk)), (3, .int (so)), (4, .int (Int32.ofNat (13 * l))), (5, .int (wd)), (6, .int (v)), (7, .int (Int32.ofNat k))]) (pc := 101) (gd gk_127 54 rfl) (by rw [gL_127]; decide) (fun _ => rfl) (fun v6_1 hv6_1 => ?_)
            refine gs_iinc (ls2 := fun v => [(0, .ref (126)), (1, .int (Int32.ofNat l)), (2, .int (gz_b bk)), (3, .int (so)), (4, .int (Int32.ofNat (13 * l))), (5, .int (wd)), (6, .int (v6_1)), (7, .int (v))]) (pc := 103) (gd gk_127 55 rfl) rfl (by rw [gL_127]; decide) (fun _ => rfl) (1) rfl (fun v7_1 hv7_1 => ?_)
            obtain rfl : v7_1 = Int32.ofNat (k + 1) := hv7_1.trans (by first | rfl | (simp only [Int32.ofNat_add, Int32.ofNat_mul]; rfl) | (simp only [Int32.ofNat_add, Int32.ofNat_mul]))
            refine gs_goto (pc := 106) (gd gk_127 56 rfl) ?_
            -- end 2: stop, pc 61, locals [(0, .ref (126)), (1, .int (Int32.ofNat l)), (2, .int (gz_b bk)), (3, .int (so)), (4, .int (Int32.ofNat (13 * l))), (5, .int (wd)), (6, .int (v6_1)), (7, .int (Int32.ofNat (k + 1)))]
            exact ih (k + 1) (by omega) _ (by rw [hv6_1, hx]; simp [gq_hc, gz_b_eq.mp c78])
          · refine gs_aload_n (pc := 81) (gd gk_127 43 rfl) rfl ?_
            refine gs_iload (pc := 82) (gd gk_127 44 rfl) rfl ?_
            refine gs_aload_n (pc := 84) (gd gk_127 45 rfl) rfl ?_
            refine gs_iload_n (pc := 85) (gd gk_127 46 rfl) rfl ?_
            refine gs_iload (pc := 86) (gd gk_127 47 rfl) rfl ?_
            refine gs_callV (as := [.int (Int32.ofNat l), .int (Int32.ofNat k)]) (pc := 88) (gd gk_127 48 rfl) (by decide) rfl (by decide) rfl rfl (Nat.le_of_ble_eq_true rfl) gq_127_121 (Nat.le_of_ble_eq_true rfl) (m_hasIt l k hl (by omega) (by rw [h129]; exact (hns k (by omega)).1)) (fun r_88 w_88 q_88 => ?_)
            obtain ⟨rfl, rfl⟩ := q_88
            refine gs_iload (pc := 91) (gd gk_127 49 rfl) rfl ?_
            refine gs_callV (as := [.int (Int32.ofNat k), .int ((gz_b (gq_has (gz_M I1) (gz_L I1 l) k))), .int (wd)]) (pc := 93) (gd gk_127 50 rfl) (by decide) rfl (by decide) rfl rfl (Nat.le_of_ble_eq_true rfl) gq_127_126 (Nat.le_of_ble_eq_true rfl) (m_pays k (by omega) (gq_has (gz_M I1) (gz_L I1 l) k) wd (by rw [h129]; exact (hns k (by omega)).2.2.2)) (fun r_93 w_93 q_93 => ?_)
            obtain ⟨rfl, rfl⟩ := q_93
            refine gs_goto (pc := 96) (gd gk_127 51 rfl) ?_
            refine gs_iadd (pc := 100) (gd gk_127 53 rfl) ?_
            refine gs_istore (ls2 := fun v => [(0, .ref (126)), (1, .int (Int32.ofNat l)), (2, .int (gz_b bk)), (3, .int (so)), (4, .int (Int32.ofNat (13 * l))), (5, .int (wd)), (6, .int (v)), (7, .int (Int32.ofNat k))]) (pc := 101) (gd gk_127 54 rfl) (by rw [gL_127]; decide) (fun _ => rfl) (fun v6_2 hv6_2 => ?_)
            refine gs_iinc (ls2 := fun v => [(0, .ref (126)), (1, .int (Int32.ofNat l)), (2, .int (gz_b bk)), (3, .int (so)), (4, .int (Int32.ofNat (13 * l))), (5, .int (wd)), (6, .int (v6_2)), (7, .int (v))]) (pc := 103) (gd gk_127 55 rfl) rfl (by rw [gL_127]; decide) (fun _ => rfl) (1) rfl (fun v7_2 hv7_2 => ?_)
            obtain rfl : v7_2 = Int32.ofNat (k + 1) := hv7_2.trans (by first | rfl | (simp only [Int32.ofNat_add, Int32.ofNat_mul]; rfl) | (simp only [Int32.ofNat_add, Int32.ofNat_mul]))
            refine gs_goto (pc := 106) (gd gk_127 56 rfl) ?_
            -- end 3: stop, pc 61, locals [(0, .ref (126)), (1, .int (Int32.ofNat l)), (2, .int (gz_b bk)), (3, .int (so)), (4, .int (Int32.ofNat (13 * l))), (5, .int (wd)), (6, .int (v6_2)), (7, .int (Int32.ofNat (k + 1)))]
            exact ih (k + 1) (by omega) _ (by rw [hv6_2, hx, hM, gq_has_c hc1 (hns1 k (by omega))]; simp [gq_hc, gz_b_ne.mp c78])
    refine gs_iload_n (pc := 43) (gd gk_127 24 rfl) rfl ?_
    refine gs_if_eq (pc := 44) (gd gk_127 25 rfl) (fun c44 => ?_) (fun c44 => ?_)
    · refine gs_iconst (pc := 55) (gd gk_127 30 rfl) (0) rfl ?_
      refine gs_istore (ls2 := fun v => [(0, .ref (126)), (1, .int (Int32.ofNat l)), (2, .int (gz_b bk)), (3, .int (so)), (4, .int (Int32.ofNat (13 * l))), (5, .int (wd)), (6, .int (v))]) (pc := 56) (gd gk_127 31 rfl) (by rw [gL_127]; decide) (fun _ => rfl) (fun v6_1 hv6_1 => ?_)
      obtain rfl : v6_1 = Int32.ofNat 0 := hv6_1.trans (by first | rfl | (simp only [Int32.ofNat_add, Int32.ofNat_mul]; rfl) | (simp only [Int32.ofNat_add, Int32.ofNat_mul]))
      refine gs_iconst (pc := 58) (gd gk_127 32 rfl) (0) rfl ?_
      refine gs_istore (ls2 := fun v => [(0, .ref (126)), (1, .int (Int32.ofNat l)), (2, .int (gz_b bk)), (3, .int (so)), (4, .int (Int32.ofNat (13 * l))), (5, .int (wd)), (6, .int (Int32.ofNat 0)), (7, .int (v))]) (pc := 59) (gd gk_127 33 rfl) (by rw [gL_127]; decide) (fun _ => rfl) (fun v7_1 hv7_1 => ?_)
      obtain rfl : v7_1 = Int32.ofNat 0 := hv7_1.trans (by first | rfl | (simp only [Int32.ofNat_add, Int32.ofNat_mul]; rfl) | (simp only [Int32.ofNat_add, Int32.ofNat_mul]))
      -- end 1: stop, pc 61, locals [(0, .ref (126)), (1, .int (Int32.ofNat l)), (2, .int (gz_b bk)), (3, .int (so)), (4, .int (Int32.ofNat (13 * l))), (5, .int (wd)), (6, .int (Int32.ofNat 0)), (7, .int (Int32.ofNat 0))]
      exact lp N 0 (by omega) _ (by rw [gz_b_eq.mp c44]; rfl)
    · refine gs_aload_n (pc := 47) (gd gk_127 26 rfl) rfl ?_
      refine gs_getI (pc := 48) (gd gk_127 27 rfl) rfl rfl ?_
      refine gs_ineg (pc := 51) (gd gk_127 28 rfl) ?_
      refine gs_goto (pc := 52) (gd gk_127 29 rfl) ?_
      refine gs_istore (ls2 := fun v => [(0, .ref (126)), (1, .int (Int32.ofNat l)), (2, .int (gz_b bk)), (3, .int (so)), (4, .int (Int32.ofNat (13 * l))), (5, .int (wd)), (6, .int (v))]) (pc := 56) (gd gk_127 31 rfl) (by rw [gL_127]; decide) (fun _ => rfl) (fun v6_2 hv6_2 => ?_)
      refine gs_iconst (pc := 58) (gd gk_127 32 rfl) (0) rfl ?_
      refine gs_istore (ls2 := fun v => [(0, .ref (126)), (1, .int (Int32.ofNat l)), (2, .int (gz_b bk)), (3, .int (so)), (4, .int (Int32.ofNat (13 * l))), (5, .int (wd)), (6, .int (v6_2)), (7, .int (v))]) (pc := 59) (gd gk_127 33 rfl) (by rw [gL_127]; decide) (fun _ => rfl) (fun v7_2 hv7_2 => ?_)
      obtain rfl : v7_2 = Int32.ofNat 0 := hv7_2.trans (by first | rfl | (simp only [Int32.ofNat_add, Int32.ofNat_mul]; rfl) | (simp only [Int32.ofNat_add, Int32.ofNat_mul]))
      -- end 2: stop, pc 61, locals [(0, .ref (126)), (1, .int (Int32.ofNat l)), (2, .int (gz_b bk)), (3, .int (so)), (4, .int (Int32.ofNat (13 * l))), (5, .int (wd)), (6, .int (v6_2)), (7, .int (Int32.ofNat 0))]
      exact lp N 0 (by omega) _ (by rw [hv6_2, gz_b_ne.mp c44, h3 126 (by omega) (by omega)]; rfl)
  refine gs_bipush (pc := 0) (gd gk_127 0 rfl) (13) rfl ?_
  refine gs_iload_n (pc := 2) (gd gk_127 1 rfl) rfl ?_
  refine gs_imul (pc := 3) (gd gk_127 2 rfl) ?_
  refine gs_istore (ls2 := fun v => [(0, .ref (126)), (1, .int (Int32.ofNat l)), (2, .int (gz_b bk)), (3, .int (so)), (4, .int (v))]) (pc := 4) (gd gk_127 3 rfl) (by rw [gL_127]; decide) (fun _ => rfl) (fun v4_1 hv4_1 => ?_)
  obtain rfl : v4_1 = Int32.ofNat (13 * l) := hv4_1.trans (by first | rfl | (simp only [Int32.ofNat_add, Int32.ofNat_mul]; rfl) | (simp only [Int32.ofNat_add, Int32.ofNat_mul]))
  refine gs_aload_n (pc := 6) (gd gk_127 4 rfl) rfl ?_
  refine gs_getR (r := 128) (pc := 7) (gd gk_127 5 rfl) rfl rfl rfl (by decide) ?_
  refine gs_aload_n (pc := 10) (gd gk_127 6 rfl) rfl ?_
  refine gs_getR (r := 133) (pc := 11) (gd gk_127 7 rfl) rfl rfl rfl (by decide) ?_
  refine gs_iload (pc := 14) (gd gk_127 8 rfl) rfl ?_
  refine gs_bipush (pc := 16) (gd gk_127 9 rfl) (12) rfl ?_
  refine gs_iadd (pc := 18) (gd gk_127 10 rfl) ?_
  refine gs_ialoadK (((13 * l) + 12)) (52) (pc := 19) (gd gk_127 11 rfl) (Or.inl rfl) rfl (by decide) (by first | rfl | (simp only [Int32.ofNat_add, Int32.ofNat_mul]; rfl) | (simp only [Int32.ofNat_add, Int32.ofNat_mul])) (by omega) ?_
  refine gs_as (Int32.ofNat h) (hh) ?_
  refine gs_ialoadK (h) (8) (pc := 20) (gd gk_127 12 rfl) (Or.inl rfl) rfl (by decide) (by first | rfl | (simp only [Int32.ofNat_add, Int32.ofNat_mul]; rfl) | (simp only [Int32.ofNat_add, Int32.ofNat_mul])) (by omega) ?_
  refine gs_istore (ls2 := fun v => [(0, .ref (126)), (1, .int (Int32.ofNat l)), (2, .int (gz_b bk)), (3, .int (so)), (4, .int (Int32.ofNat (13 * l))), (5, .int (v))]) (pc := 21) (gd gk_127 13 rfl) (by rw [gL_127]; decide) (fun _ => rfl) (fun v5_1 hv5_1 => ?_)
  rw [hb] at hv5_1
  subst hv5_1
  refine gs_aload_n (pc := 23) (gd gk_127 14 rfl) rfl ?_
  refine gs_iload_n (pc := 24) (gd gk_127 15 rfl) rfl ?_
  refine gs_iload (pc := 25) (gd gk_127 16 rfl) rfl ?_
  refine gs_iload_n (pc := 27) (gd gk_127 17 rfl) rfl ?_
  refine gs_if_eq (pc := 28) (gd gk_127 18 rfl) (fun c28 => ?_) (fun c28 => ?_)
  · refine gs_bipush (pc := 38) (gd gk_127 22 rfl) (-99) rfl ?_
    refine gs_callV (as := [.int (Int32.ofNat l), .int (v5_1), .int ((-99))]) (pc := 40) (gd gk_127 23 rfl) (by decide) rfl (by decide) rfl rfl (Nat.le_of_ble_eq_true rfl) gq_127_125 (Nat.le_of_ble_eq_true rfl) (m_drift l hl v5_1 ((-99)) bk bc hbc9 (by rw [gz_b_eq.mp c28]; rfl) hwd) (fun r_40 w_40 q_40 => ?_)
    obtain ⟨rfl, I_d, rfl, hd1, hd2, hd3⟩ := q_40
    -- end 1: stop, pc 43, locals [(0, .ref (126)), (1, .int (Int32.ofNat l)), (2, .int (gz_b bk)), (3, .int (so)), (4, .int (Int32.ofNat (13 * l))), (5, .int (v5_1))]
    exact join43 I_d hd1 hd2 hd3
  · refine gs_aload_n (pc := 31) (gd gk_127 19 rfl) rfl ?_
    refine gs_getI (pc := 32) (gd gk_127 20 rfl) rfl rfl ?_
    refine gs_as (Int32.ofNat bc) (hbc) ?_
    refine gs_goto (pc := 35) (gd gk_127 21 rfl) ?_
    refine gs_callV (as := [.int (Int32.ofNat l), .int (v5_1), .int (Int32.ofNat bc)]) (pc := 40) (gd gk_127 23 rfl) (by decide) rfl (by decide) rfl rfl (Nat.le_of_ble_eq_true rfl) gq_127_125 (Nat.le_of_ble_eq_true rfl) (m_drift l hl v5_1 (Int32.ofNat bc) bk bc hbc9 (by rw [gz_b_ne.mp c28]; rfl) hwd) (fun r_40 w_40 q_40 => ?_)
    obtain ⟨rfl, I_d, rfl, hd1, hd2, hd3⟩ := q_40
    -- end 2: stop, pc 43, locals [(0, .ref (126)), (1, .int (Int32.ofNat l)), (2, .int (gz_b bk)), (3, .int (so)), (4, .int (Int32.ofNat (13 * l))), (5, .int (v5_1))]
    exact join43 I_d hd1 hd2 hd3
theorem m_winds {V : gw_V} {n : Nat} {I : Nat → Nat → Int32} {J : Nat → Nat → Int64} : gw_E V 128 (0, [(0, .ref 126)], [], gS n I J, 0, 0) (fun v w' => v = none ∧ ∃ I2, w' = gS n I2 J ∧ (∀ h, h < 8 → I2 128 h = I 127 h) ∧ ∀ p, p ≠ 128 → I2 p = I p) := by
  have lp : ∀ (m k : Nat), m + k = 8 → ∀ I1, (∀ h, h < k → I1 128 h = I 127 h) → (∀ p, p ≠ 128 → I1 p = I p) → gw_E V 128 (2, [(0, .ref 126), (1, .int (Int32.ofNat k))], [], gS n I1 J, 0, 0) (fun v w' => v = none ∧ ∃ I2, w' = gS n I2 J ∧ (∀ h, h < 8 → I2 128 h = I 127 h) ∧ ∀ p, p ≠ 128 → I2 p = I p) := by
    intro m
    induction m with
    | zero =>
      intro k hk I1 h1 h2
      obtain rfl : k = 8 := by omega
      refine gs_iload_n (pc := 2) (gd gk_128 2 rfl) rfl ?_
      refine gs_bipush (pc := 3) (gd gk_128 3 rfl) (8) rfl ?_
      refine gs_icmp_ge (pc := 5) (gd gk_128 4 rfl) (fun c5 => ?_) (fun c5 => ?_)
      · replace c5 : 8 ≤ 8 := (zle (k := 8) (m := 8) (by omega) (by omega)).mp c5
        -- end 1: return, pc 26, locals [(0, .ref (126)), (1, .int (Int32.ofNat 8))]
        exact gs_ret (pc := 26) (gd gk_128 15 rfl) rfl (Nat.zero_le _) (Nat.zero_le _) (⟨rfl, I1, rfl, h1, h2⟩)
      · replace c5 : ¬ (8 ≤ 8) := fun q9 => c5 ((zle (k := 8) (m := 8) (by omega) (by omega)).mpr q9)
        -- end 2: stop, pc 8, locals [(0, .ref (126)), (1, .int (Int32.ofNat 8))]
        exact absurd (Nat.le_refl 8) c5
    | succ m ih =>
      intro k hk I1 h1 h2
      refine gs_iload_n (pc := 2) (gd gk_128 2 rfl) rfl ?_
      refine gs_bipush (pc := 3) (gd gk_128 3 rfl) (8) rfl ?_
      refine gs_icmp_ge (pc := 5) (gd gk_128 4 rfl) (fun c5 => ?_) (fun c5 => ?_)
      · replace c5 : 8 ≤ k := (zle (k := 8) (m := k) (by omega) (by omega)).mp c5
        -- end 1: return, pc 26, locals [(0, .ref (126)), (1, .int (Int32.ofNat k))]
        exact absurd c5 (by omega)
      · replace c5 : ¬ (8 ≤ k) := fun q9 => c5 ((zle (k := 8) (m := k) (by omega) (by omega)).mpr q9)
        refine gs_aload_n (pc := 8) (gd gk_128 5 rfl) rfl ?_
        refine gs_getR (r := 128) (pc := 9) (gd gk_128 6 rfl) rfl rfl rfl (by decide) ?_
        refine gs_iload_n (pc := 12) (gd gk_128 7 rfl) rfl ?_
        refine gs_aload_n (pc := 13) (gd gk_128 8 rfl) rfl ?_
        refine gs_getR (r := 127) (pc := 14) (gd gk_128 9 rfl) rfl rfl rfl (by decide) ?_
        refine gs_iload_n (pc := 17) (gd gk_128 10 rfl) rfl ?_
        refine gs_ialoadK (k) (8) (pc := 18) (gd gk_128 11 rfl) (Or.inl rfl) rfl (by decide) (by first | rfl | (simp only [Int32.ofNat_add, Int32.ofNat_mul]; rfl) | (simp only [Int32.ofNat_add, Int32.ofNat_mul])) (by omega) ?_
        refine gs_iastoreK (k) (8) gs_sl (pc := 19) (gd gk_128 12 rfl) rfl rfl (by decide) (by first | rfl | (simp only [Int32.ofNat_add, Int32.ofNat_mul]; rfl) | (simp only [Int32.ofNat_add, Int32.ofNat_mul])) (by omega) (fun I_1 hI_1 => ?_)
        refine gs_iinc (ls2 := fun v => [(0, .ref (126)), (1, .int (v))]) (pc := 20) (gd gk_128 13 rfl) rfl (by rw [gL_128]; decide) (fun _ => rfl) (1) rfl (fun v1_1 hv1_1 => ?_)
        obtain rfl : v1_1 = Int32.ofNat (k + 1) := hv1_1.trans (by first | rfl | (simp only [Int32.ofNat_add, Int32.ofNat_mul]; rfl) | (simp only [Int32.ofNat_add, Int32.ofNat_mul]))
        refine gs_goto (pc := 23) (gd gk_128 14 rfl) ?_
        -- end 2: stop, pc 2, locals [(0, .ref (126)), (1, .int (Int32.ofNat (k + 1)))]
        refine ih (k + 1) (by omega) I_1 (fun h hh => ?_) (fun p hp => by rw [hI_1, gw_u_o hp, h2 p hp])
        rw [hI_1, gw_u_s]
        unfold upd
        by_cases q : h = k
        · rw [if_pos q, q, h2 127 (by omega)]
        · rw [if_neg q]; exact h1 h (by omega)
  refine gs_iconst (pc := 0) (gd gk_128 0 rfl) (0) rfl ?_
  refine gs_istore_n (ls2 := fun v => [(0, .ref (126)), (1, .int (v))]) (pc := 1) (gd gk_128 1 rfl) (by rw [gL_128]; decide) (fun _ => rfl) (fun v1_1 hv1_1 => ?_)
  obtain rfl : v1_1 = Int32.ofNat 0 := hv1_1.trans (by first | rfl | (simp only [Int32.ofNat_add, Int32.ofNat_mul]; rfl) | (simp only [Int32.ofNat_add, Int32.ofNat_mul]))
  -- end 1: stop, pc 2, locals [(0, .ref (126)), (1, .int (Int32.ofNat 0))]
  exact lp 8 0 rfl I (fun h hh => absurd hh (Nat.not_lt_zero _)) (fun _ _ => rfl)
theorem m_lay {V : gw_V} {n : Nat} {I : Nat → Nat → Int32} {J : Nat → Nat → Int64} (a b : Nat) (ha : a < 3) (hb : b < 3) (hab : a ≠ b) : gw_E V 129 (0, [(0, .ref 126), (1, .int (Int32.ofNat a)), (2, .int (Int32.ofNat b))], [], gS n I J, 0, 0) (fun v w' => v = none ∧ ∃ I2, w' = gS n I2 J ∧ (∀ c, c < 13 → I2 133 (13 * b + c) = I 133 (13 * a + c)) ∧ (∀ q, ¬ (13 * b ≤ q ∧ q < 13 * b + 13) → I2 133 q = I 133 q) ∧ ∀ p, p ≠ 133 → I2 p = I p) := by
  have lp : ∀ (m k : Nat), m + k = 13 → ∀ I1, (∀ c, c < k → I1 133 (13 * b + c) = I 133 (13 * a + c)) → (∀ q, ¬ (13 * b ≤ q ∧ q < 13 * b + 13) → I1 133 q = I 133 q) → (∀ p, p ≠ 133 → I1 p = I p) → gw_E V 129 (2, [(0, .ref 126), (1, .int (Int32.ofNat a)), (2, .int (Int32.ofNat b)), (3, .int (Int32.ofNat k))], [], gS n I1 J, 0, 0) (fun v w' => v = none ∧ ∃ I2, w' = gS n I2 J ∧ (∀ c, c < 13 → I2 133 (13 * b + c) = I 133 (13 * a + c)) ∧ (∀ q, ¬ (13 * b ≤ q ∧ q < 13 * b + 13) → I2 133 q = I 133 q) ∧ ∀ p, p ≠ 133 → I2 p = I p) := by
    intro m
    induction m with
    | zero =>
      intro k hk I1 h1 h2 h3
      obtain rfl : k = 13 := by omega
      refine gs_iload_n (pc := 2) (gd gk_129 2 rfl) rfl ?_
      refine gs_bipush (pc := 3) (gd gk_129 3 rfl) (13) rfl ?_
      refine gs_icmp_ge (pc := 5) (gd gk_129 4 rfl) (fun c5 => ?_) (fun c5 => ?_)
      · replace c5 : 13 ≤ 13 := (zle (k := 13) (m := 13) (by omega) (by omega)).mp c5
        -- end 1: return, pc 36, locals [(0, .ref (126)), (1, .int (Int32.ofNat a)), (2, .int (Int32.ofNat b)), (3, .int (Int32.ofNat 13))]
        exact gs_ret (pc := 36) (gd gk_129 23 rfl) rfl (Nat.zero_le _) (Nat.zero_le _) (⟨rfl, I1, rfl, h1, h2, h3⟩)
      · replace c5 : ¬ (13 ≤ 13) := fun q9 => c5 ((zle (k := 13) (m := 13) (by omega) (by omega)).mpr q9)
        -- end 2: stop, pc 8, locals [(0, .ref (126)), (1, .int (Int32.ofNat a)), (2, .int (Int32.ofNat b)), (3, .int (Int32.ofNat 13))]
        exact absurd (Nat.le_refl 13) c5
    | succ m ih =>
      intro k hk I1 h1 h2 h3
      refine gs_iload_n (pc := 2) (gd gk_129 2 rfl) rfl ?_
      refine gs_bipush (pc := 3) (gd gk_129 3 rfl) (13) rfl ?_
      refine gs_icmp_ge (pc := 5) (gd gk_129 4 rfl) (fun c5 => ?_) (fun c5 => ?_)
      · replace c5 : 13 ≤ k := (zle (k := 13) (m := k) (by omega) (by omega)).mp c5
        -- end 1: return, pc 36, locals [(0, .ref (126)), (1, .int (Int32.ofNat a)), (2, .int (Int32.ofNat b)), (3, .int (Int32.ofNat k))]
        exact absurd c5 (by omega)
      · replace c5 : ¬ (13 ≤ k) := fun q9 => c5 ((zle (k := 13) (m := k) (by omega) (by omega)).mpr q9)
        refine gs_aload_n (pc := 8) (gd gk_129 5 rfl) rfl ?_
        refine gs_getR (r := 133) (pc := 9) (gd gk_129 6 rfl) rfl rfl rfl (by decide) ?_
        refine gs_bipush (pc := 12) (gd gk_129 7 rfl) (13) rfl ?_
        refine gs_iload_n (pc := 14) (gd gk_129 8 rfl) rfl ?_
        refine gs_imul (pc := 15) (gd gk_129 9 rfl) ?_
        refine gs_iload_n (pc := 16) (gd gk_129 10 rfl) rfl ?_
        refine gs_iadd (pc := 17) (gd gk_129 11 rfl) ?_
        refine gs_aload_n (pc := 18) (gd gk_129 12 rfl) rfl ?_
        refine gs_getR (r := 133) (pc := 19) (gd gk_129 13 rfl) rfl rfl rfl (by decide) ?_
        refine gs_bipush (pc := 22) (gd gk_129 14 rfl) (13) rfl ?_
        refine gs_iload_n (pc := 24) (gd gk_129 15 rfl) rfl ?_
        refine gs_imul (pc := 25) (gd gk_129 16 rfl) ?_
        refine gs_iload_n (pc := 26) (gd gk_129 17 rfl) rfl ?_
        refine gs_iadd (pc := 27) (gd gk_129 18 rfl) ?_
        refine gs_ialoadK (((13 * a) + k)) (52) (pc := 28) (gd gk_129 19 rfl) (Or.inl rfl) rfl (by decide) (by first | rfl | (simp only [Int32.ofNat_add, Int32.ofNat_mul]; rfl) | (simp only [Int32.ofNat_add, Int32.ofNat_mul])) (by omega) ?_
        refine gs_iastoreK (((13 * b) + k)) (52) gs_sl (pc := 29) (gd gk_129 20 rfl) rfl rfl (by decide) (by first | rfl | (simp only [Int32.ofNat_add, Int32.ofNat_mul]; rfl) | (simp only [Int32.ofNat_add, Int32.ofNat_mul])) (by omega) (fun I_1 hI_1 => ?_)
        refine gs_iinc (ls2 := fun v => [(0, .ref (126)), (1, .int (Int32.ofNat a)), (2, .int (Int32.ofNat b)), (3, .int (v))]) (pc := 30) (gd gk_129 21 rfl) rfl (by rw [gL_129]; decide) (fun _ => rfl) (1) rfl (fun v3_1 hv3_1 => ?_)
        obtain rfl : v3_1 = Int32.ofNat (k + 1) := hv3_1.trans (by first | rfl | (simp only [Int32.ofNat_add, Int32.ofNat_mul]; rfl) | (simp only [Int32.ofNat_add, Int32.ofNat_mul]))
        refine gs_goto (pc := 33) (gd gk_129 22 rfl) ?_
        -- end 2: stop, pc 2, locals [(0, .ref (126)), (1, .int (Int32.ofNat a)), (2, .int (Int32.ofNat b)), (3, .int (Int32.ofNat (k + 1)))]
        refine ih (k + 1) (by omega) I_1 (fun c hc => ?_) (fun q hq => ?_) (fun p hp => by rw [hI_1, gw_u_o hp, h3 p hp])
        · rw [hI_1, gw_u_s]
          unfold upd
          by_cases q : c = k
          · rw [q, if_pos rfl, h2 _ (by omega)]
          · rw [if_neg (by omega)]; exact h1 c (by omega)
        · rw [hI_1, gw_u_s]
          unfold upd
          rw [if_neg (by omega)]; exact h2 q hq
  refine gs_iconst (pc := 0) (gd gk_129 0 rfl) (0) rfl ?_
  refine gs_istore_n (ls2 := fun v => [(0, .ref (126)), (1, .int (Int32.ofNat a)), (2, .int (Int32.ofNat b)), (3, .int (v))]) (pc := 1) (gd gk_129 1 rfl) (by rw [gL_129]; decide) (fun _ => rfl) (fun v3_1 hv3_1 => ?_)
  obtain rfl : v3_1 = Int32.ofNat 0 := hv3_1.trans (by first | rfl | (simp only [Int32.ofNat_add, Int32.ofNat_mul]; rfl) | (simp only [Int32.ofNat_add, Int32.ofNat_mul]))
  -- end 1: stop, pc 2, locals [(0, .ref (126)), (1, .int (Int32.ofNat a)), (2, .int (Int32.ofNat b)), (3, .int (Int32.ofNat 0))]
  exact lp 13 0 rfl I (fun c hc => absurd hc (Nat.not_lt_zero _)) (fun _ _ => rfl) (fun _ _ => rfl)
end
section
/-! ===== the reference: run ===== -/
/-- the reference's morning as it stands, in numbers; its winds as they blow -/
def gm_now (I : Nat → Nat → Int32) (W N h0 L bc : Nat) : Prop := gq_ok (gz_M I) W N ∧ I 133 12 = Int32.ofNat h0 ∧ h0 + L = W ∧ I 126 0 = Int32.ofNat bc ∧ bc < 10
/-- what the reference's asking may change -/
def gm_qf (I I2 : Nat → Nat → Int32) : Prop := (∀ p, p ≠ 126 → p ≠ 128 → p ≠ 130 → p ≠ 131 → p ≠ 132 → p ≠ 133 → p ≠ 135 → p ≠ 137 → p ≠ 141 → p ≠ 142 → I2 p = I p) ∧ (∀ q, q < 13 → I2 133 q = I 133 q) ∧ ∀ q, q ≠ 11 → q ≠ 12 → q ≠ 16 → q ≠ 17 → q ≠ 22 → q ≠ 23 → q ≠ 30 → q ≠ 31 → I2 126 q = I 126 q
theorem gm_qf_tr {I I2 I3 : Nat → Nat → Int32} (h : gm_qf I I2) (h' : gm_qf I2 I3) : gm_qf I I3 := ⟨fun p a b c d e f g i j k => (h'.1 p a b c d e f g i j k).trans (h.1 p a b c d e f g i j k), fun q a => (h'.2.1 q a).trans (h.2.1 q a), fun q a b c d e f g i => (h'.2.2 q a b c d e f g i).trans (h.2.2 q a b c d e f g i)⟩
theorem gm_qf_rf (I : Nat → Nat → Int32) : gm_qf I I := ⟨fun _ _ _ _ _ _ _ _ _ _ _ => rfl, fun _ _ => rfl, fun _ _ _ _ _ _ _ _ _ => rfl⟩
theorem gm_qf_M {I I2 : Nat → Nat → Int32} (h : gm_qf I I2) : gz_M I2 = gz_M I := gz_M_eq (fun k hk => h.2.2 k (by omega) (by omega) (by omega) (by omega) (by omega) (by omega) (by omega) (by omega)) (h.1 127 (by omega) (by omega) (by omega) (by omega) (by omega) (by omega) (by omega) (by omega) (by omega) (by omega)) (h.1 129 (by omega) (by omega) (by omega) (by omega) (by omega) (by omega) (by omega) (by omega) (by omega) (by omega))
theorem gm_qf_now {I I2 : Nat → Nat → Int32} {W N h0 L bc : Nat} (h : gm_qf I I2) (hn : gm_now I W N h0 L bc) : gm_now I2 W N h0 L bc := by
  obtain ⟨a1, a2, a3, a4, a5⟩ := hn
  exact ⟨by rw [gm_qf_M h]; exact a1, by rw [h.2.1 12 (by omega)]; exact a2, a3, by rw [h.2.2 0 (by omega) (by omega) (by omega) (by omega) (by omega) (by omega) (by omega) (by omega)]; exact a4, a5⟩
/-- less: the winds as they blow stay too -/
def gm_rf (I I2 : Nat → Nat → Int32) : Prop := (∀ p, p ≠ 126 → p ≠ 133 → p ≠ 135 → I2 p = I p) ∧ (∀ q, ¬ (13 ≤ q ∧ q < 26) → I2 133 q = I 133 q) ∧ ∀ q, q ≠ 22 → I2 126 q = I 126 q
theorem gm_rf_q {I I2 : Nat → Nat → Int32} (h : gm_rf I I2) : gm_qf I I2 := ⟨fun p a _ _ _ _ b c _ _ _ => h.1 p a b c, fun q a => h.2.1 q (by omega), fun q _ _ _ _ a _ _ _ => h.2.2 q a⟩
abbrev mq_run (n : Nat) (I : Nat → Nat → Int32) (J : Nat → Nat → Int64) (N h0 L bc : Nat) (pl so : Int32) : Option Value → gw_W → Prop := fun v w' => ∃ I2, w' = gS n I2 J ∧ v = some (.int (gq_cm (gz_M I) (fun q => I 128 (h0 + q)) (fun q => gz_in pl (Int32.ofNat (h0 + q))) bc (I 133 10) (I 133) (fun m => gz_in so (Int32.ofNat m)) N L)) ∧ I2 126 22 = gq_hd (gz_M I) (fun q => I 128 (h0 + q)) (fun q => gz_in pl (Int32.ofNat (h0 + q))) bc (I 133 10) (I 133) N L ∧ gm_rf I I2
theorem m_run {V : gw_V} {n W N : Nat} {I : Nat → Nat → Int32} {J : Nat → Nat → Int64} (h0 L bc : Nat) (pl so : Int32) (hn : gm_now I W N h0 L bc) (hb : ∀ h, h < W → I 128 h = -1 ∨ I 128 h = 0 ∨ I 128 h = 1) : gw_E V 134 (0, [(0, .ref 126), (1, .int pl), (2, .int so)], [], gS n I J, 0, 0) (mq_run n I J N h0 L bc pl so) := by
  obtain ⟨hok, hh, hW, hbc, hbc9⟩ := hn
  obtain ⟨hW0, hW8, hN, hN6, -, -, -, -, hns⟩ := id hok
  have hW0 : I 126 3 = Int32.ofNat W := hW0
  have hns1 : ∀ m, m < N → 0 ≤ gz_M I 2 m ∧ gz_M I 2 m ≤ 9 := fun m hm => (hns m hm).1
  generalize hwd : (fun q => I 128 (h0 + q)) = wd
  generalize hpl : (fun q => gz_in pl (Int32.ofNat (h0 + q))) = pf
  have lp : ∀ (m g : Nat), m + g = L → ∀ I1 x, x = gq_cm (gz_M I) wd pf bc (I 133 10) (I 133) (fun m => gz_in so (Int32.ofNat m)) N g → (∀ c, c < 10 → I1 133 (13 + c) = gq_sq (gz_M I) wd pf bc (I 133 10) (I 133) g c) → I1 133 23 = I 133 10 → I1 133 25 = Int32.ofNat (h0 + g) → I1 126 22 = gq_hd (gz_M I) wd pf bc (I 133 10) (I 133) N g → gm_rf I I1 → gw_E V 134 (13, [(0, .ref 126), (1, .int pl), (2, .int so), (3, .int x)], [], gS n I1 J, 0, 0) (mq_run n I J N h0 L bc pl so) := by
    intro m
    induction m with
    | zero =>
      intro g hg I1 x hx h1 h2 h3 h4 h5
      obtain rfl : g = L := by omega
      have hW1 : I1 126 3 = Int32.ofNat W := by rw [h5.2.2 3 (by omega)]; exact hW0
      refine gs_aload_n (pc := 13) (gd gk_134 9 rfl) rfl ?_
      refine gs_getR (r := 133) (pc := 14) (gd gk_134 10 rfl) rfl rfl rfl (by decide) ?_
      refine gs_bipush (pc := 17) (gd gk_134 11 rfl) (25) rfl ?_
      refine gs_ialoadK (25) (52) (pc := 19) (gd gk_134 12 rfl) (Or.inl rfl) rfl (by decide) (by first | rfl | (simp only [Int32.ofNat_add, Int32.ofNat_mul]; rfl) | (simp only [Int32.ofNat_add, Int32.ofNat_mul])) (by omega) ?_
      refine gs_as (Int32.ofNat (h0 + g)) (h3) ?_
      refine gs_aload_n (pc := 20) (gd gk_134 13 rfl) rfl ?_
      refine gs_getI (pc := 21) (gd gk_134 14 rfl) rfl rfl ?_
      refine gs_as (Int32.ofNat W) (hW1) ?_
      refine gs_icmp_ge (pc := 24) (gd gk_134 15 rfl) (fun c24 => ?_) (fun c24 => ?_)
      · replace c24 : W ≤ (h0 + g) := (zle (k := W) (m := (h0 + g)) (by omega) (by omega)).mp c24
        refine gs_iload_n (pc := 64) (gd gk_134 38 rfl) rfl ?_
        -- end 1: ireturn x, pc 65, locals [(0, .ref (126)), (1, .int (pl)), (2, .int (so)), (3, .int (x))]
        exact gs_iret (pc := 65) (gd gk_134 39 rfl) rfl (rfl) (Nat.zero_le _) (Nat.zero_le _) (⟨I1, rfl, by rw [hx, ← hwd, ← hpl], by rw [h4, ← hwd, ← hpl], h5⟩)
      · replace c24 : ¬ (W ≤ (h0 + g)) := fun q9 => c24 ((zle (k := W) (m := (h0 + g)) (by omega) (by omega)).mpr q9)
        -- end 2: stop, pc 27, locals [(0, .ref (126)), (1, .int (pl)), (2, .int (so)), (3, .int (x))]
        exact absurd c24 (by omega)
    | succ m ih =>
      intro g hg I1 x hx h1 h2 h3 h4 h5
      have hW1 : I1 126 3 = Int32.ofNat W := by rw [h5.2.2 3 (by omega)]; exact hW0
      have hM1 : gz_M I1 = gz_M I := gm_qf_M (gm_rf_q h5)
      have hok1 : gq_ok (gz_M I1) W N := by rw [hM1]; exact hok
      have hbg : I1 128 (h0 + g) = wd g := by rw [h5.1 128 (by omega) (by omega) (by omega), ← hwd]
      have hwdg : wd g = -1 ∨ wd g = 0 ∨ wd g = 1 := by rw [← hwd]; exact hb (h0 + g) (by omega)
      have hpg : gz_in pl (Int32.ofNat (h0 + g)) = pf g := by rw [← hpl]
      have hL1 : ∀ c, c < 10 → gz_L I1 1 c = gq_sq (gz_M I) wd pf bc (I 133 10) (I 133) g c := h1
      refine gs_aload_n (pc := 13) (gd gk_134 9 rfl) rfl ?_
      refine gs_getR (r := 133) (pc := 14) (gd gk_134 10 rfl) rfl rfl rfl (by decide) ?_
      refine gs_bipush (pc := 17) (gd gk_134 11 rfl) (25) rfl ?_
      refine gs_ialoadK (25) (52) (pc := 19) (gd gk_134 12 rfl) (Or.inl rfl) rfl (by decide) (by first | rfl | (simp only [Int32.ofNat_add, Int32.ofNat_mul]; rfl) | (simp only [Int32.ofNat_add, Int32.ofNat_mul])) (by omega) ?_
      refine gs_as (Int32.ofNat (h0 + g)) (h3) ?_
      refine gs_aload_n (pc := 20) (gd gk_134 13 rfl) rfl ?_
      refine gs_getI (pc := 21) (gd gk_134 14 rfl) rfl rfl ?_
      refine gs_as (Int32.ofNat W) (hW1) ?_
      refine gs_icmp_ge (pc := 24) (gd gk_134 15 rfl) (fun c24 => ?_) (fun c24 => ?_)
      · replace c24 : W ≤ (h0 + g) := (zle (k := W) (m := (h0 + g)) (by omega) (by omega)).mp c24
        refine gs_iload_n (pc := 64) (gd gk_134 38 rfl) rfl ?_
        -- end 1: ireturn x, pc 65, locals [(0, .ref (126)), (1, .int (pl)), (2, .int (so)), (3, .int (x))]
        exact absurd c24 (by omega)
      · replace c24 : ¬ (W ≤ (h0 + g)) := fun q9 => c24 ((zle (k := W) (m := (h0 + g)) (by omega) (by omega)).mpr q9)
        refine gs_iload_n (pc := 27) (gd gk_134 16 rfl) rfl ?_
        refine gs_aload_n (pc := 28) (gd gk_134 17 rfl) rfl ?_
        refine gs_iconst (pc := 29) (gd gk_134 18 rfl) (1) rfl ?_
        refine gs_iload_n (pc := 30) (gd gk_134 19 rfl) rfl ?_
        refine gs_aload_n (pc := 31) (gd gk_134 20 rfl) rfl ?_
        refine gs_getR (r := 133) (pc := 32) (gd gk_134 21 rfl) rfl rfl rfl (by decide) ?_
        refine gs_bipush (pc := 35) (gd gk_134 22 rfl) (25) rfl ?_
        refine gs_ialoadK (25) (52) (pc := 37) (gd gk_134 23 rfl) (Or.inl rfl) rfl (by decide) (by first | rfl | (simp only [Int32.ofNat_add, Int32.ofNat_mul]; rfl) | (simp only [Int32.ofNat_add, Int32.ofNat_mul])) (by omega) ?_
        refine gs_as (Int32.ofNat (h0 + g)) (h3) ?_
        refine gs_callS (as := [.int (pl), .int (Int32.ofNat (h0 + g))]) (pc := 38) (gd gk_134 24 rfl) (by decide) rfl rfl (Nat.le_of_ble_eq_true rfl) gq_134_108 (Nat.le_of_ble_eq_true rfl) (c_mhas (pl) (Int32.ofNat (h0 + g))) (fun r_38 w_38 q_38 => ?_)
        obtain ⟨rfl, rfl⟩ := q_38
        refine gs_iload_n (pc := 41) (gd gk_134 25 rfl) rfl ?_
        refine gs_callV (as := [.int (1), .int ((gz_b (gz_in (pl) (Int32.ofNat (h0 + g))))), .int (so)]) (pc := 42) (gd gk_134 26 rfl) (by decide) rfl (by decide) rfl rfl (Nat.le_of_ble_eq_true rfl) gq_134_127 (Nat.le_of_ble_eq_true rfl) (m_pass (W := W) (N := N) 1 (h0 + g) bc (gz_in pl (Int32.ofNat (h0 + g))) so (wd g) (by omega) hok1 h3 (by omega) hbg hwdg (by rw [h5.2.2 0 (by omega)]; exact hbc) hbc9) (fun r_42 w_42 q_42 => ?_)
        obtain ⟨I_p, rfl, rfl, p1, p2, p3, p4, p5⟩ := q_42
        rw [hM1, hpg] at p1
        have p1 : ∀ c, c < 10 → I_p 133 (13 + c) = gq_sq (gz_M I) wd pf bc (I 133 10) (I 133) (g + 1) c := fun c hc => by rw [show 13 + c = 13 * 1 + c from rfl, p1 c hc, gq_st_c hL1, show I1 133 (13 * 1 + 10) = I1 133 23 from rfl, h2]; rfl
        have hMp : gz_M I_p = gz_M I := by rw [gz_M_eq (I := I1) (fun k _ => by rw [p5 126 (by omega) (by omega)]) (p5 127 (by omega) (by omega)) (p5 129 (by omega) (by omega))]; exact hM1
        have hokp : gq_ok (gz_M I_p) W N := by rw [hMp]; exact hok
        refine gs_iadd (pc := 45) (gd gk_134 27 rfl) ?_
        refine gs_istore_n (ls2 := fun v => [(0, .ref (126)), (1, .int (pl)), (2, .int (so)), (3, .int (v))]) (pc := 46) (gd gk_134 28 rfl) (by rw [gL_134]; decide) (fun _ => rfl) (fun v3_1 hv3_1 => ?_)
        refine gs_aload_n (pc := 47) (gd gk_134 29 rfl) rfl ?_
        refine gs_dup (pc := 48) (gd gk_134 30 rfl) rfl ?_
        refine gs_getI (pc := 49) (gd gk_134 31 rfl) rfl rfl ?_
        refine gs_aload_n (pc := 52) (gd gk_134 32 rfl) rfl ?_
        refine gs_iconst (pc := 53) (gd gk_134 33 rfl) (1) rfl ?_
        refine gs_callV (as := [.int (1)]) (pc := 54) (gd gk_134 34 rfl) (by decide) rfl (by decide) rfl rfl (Nat.le_of_ble_eq_true rfl) gq_134_122 (Nat.le_of_ble_eq_true rfl) (m_who (W := W) (N := N) 1 (by omega) hokp) (fun r_54 w_54 q_54 => ?_)
        obtain ⟨rfl, rfl⟩ := q_54
        refine gs_ior (pc := 57) (gd gk_134 35 rfl) ?_
        refine gs_putI (pc := 58) (gd gk_134 36 rfl) rfl rfl rfl rfl (fun I_1 hI_1 => ?_)
        refine gs_goto (pc := 61) (gd gk_134 37 rfl) ?_
        -- end 2: stop, pc 13, locals [(0, .ref (126)), (1, .int (pl)), (2, .int (so)), (3, .int (v3_1))]
        have eS : ∀ c, c < 10 → gq_st (gz_M I) (wd g) (pf g) bc (I 133 10) (gz_L I1 1) c = gq_sq (gz_M I) wd pf bc (I 133 10) (I 133) (g + 1) c := fun c hc => by rw [gq_st_c hL1]; rfl
        have e133 : I_1 133 = I_p 133 := by rw [hI_1, gw_u_o (by omega)]
        refine ih (g + 1) (by omega) I_1 _ ?_ (fun c hc => by rw [e133]; exact p1 c hc) ?_ ?_ ?_ ⟨fun p q1 q2 q3 => ?_, fun q hq => ?_, fun q hq => ?_⟩
        · rw [hv3_1, hx, hM1, hpg, show I1 133 (13 * 1 + 10) = I 133 10 from h2, gq_hc_c eS hns1]; rfl
        · rw [e133, p4 23 (by omega) (by omega) (by omega)]; exact h2
        · rw [e133]; exact p3
        · rw [hI_1, gw_u_s, hMp, gq_who_c (s1 := gz_L I_p 1) (s2 := gq_sq (gz_M I) wd pf bc (I 133 10) (I 133) (g + 1)) (fun c hc => p1 c hc) hns1, p5 126 (by omega) (by omega), h4]; simp [upd]; rfl
        · rw [hI_1, gw_u_o q1, p5 p q2 q3]; exact h5.1 p q1 q2 q3
        · rw [e133, p4 q (by omega) (by omega) (by omega)]; exact h5.2.1 q hq
        · rw [hI_1, gw_u_s]; unfold upd; rw [if_neg hq, p5 126 (by omega) (by omega)]; exact h5.2.2 q hq
  refine gs_aload_n (pc := 0) (gd gk_134 0 rfl) rfl ?_
  refine gs_iconst (pc := 1) (gd gk_134 1 rfl) (0) rfl ?_
  refine gs_iconst (pc := 2) (gd gk_134 2 rfl) (1) rfl ?_
  refine gs_callV (as := [.int (0), .int (1)]) (pc := 3) (gd gk_134 3 rfl) (by decide) rfl (by decide) rfl rfl (Nat.le_of_ble_eq_true rfl) gq_134_129 (Nat.le_of_ble_eq_true rfl) (m_lay 0 1 (by omega) (by omega) (by omega)) (fun r_3 w_3 q_3 => ?_)
  obtain ⟨rfl, I_l, rfl, l1, l2, l3⟩ := q_3
  refine gs_aload_n (pc := 6) (gd gk_134 4 rfl) rfl ?_
  refine gs_iconst (pc := 7) (gd gk_134 5 rfl) (0) rfl ?_
  refine gs_putI (pc := 8) (gd gk_134 6 rfl) rfl rfl rfl rfl (fun I_1 hI_1 => ?_)
  refine gs_iconst (pc := 11) (gd gk_134 7 rfl) (0) rfl ?_
  refine gs_istore_n (ls2 := fun v => [(0, .ref (126)), (1, .int (pl)), (2, .int (so)), (3, .int (v))]) (pc := 12) (gd gk_134 8 rfl) (by rw [gL_134]; decide) (fun _ => rfl) (fun v3_1 hv3_1 => ?_)
  obtain rfl : v3_1 = Int32.ofNat 0 := hv3_1.trans (by first | rfl | (simp only [Int32.ofNat_add, Int32.ofNat_mul]; rfl) | (simp only [Int32.ofNat_add, Int32.ofNat_mul]))
  -- end 1: stop, pc 13, locals [(0, .ref (126)), (1, .int (pl)), (2, .int (so)), (3, .int (Int32.ofNat 0))]
  have e133 : I_1 133 = I_l 133 := by rw [hI_1, gw_u_o (by omega)]
  refine lp L 0 (by omega) I_1 _ rfl (fun c hc => by rw [e133]; exact (l1 c (by omega)).trans (by rw [show 13 * 0 + c = c by omega]; rfl)) (by rw [e133]; exact l1 10 (by omega)) (by rw [e133]; exact (l1 12 (by omega)).trans hh) (by rw [hI_1, gw_u_s]; rfl) ⟨fun p q1 q2 q3 => by rw [hI_1, gw_u_o q1, l3 p q2], fun q hq => by rw [e133]; exact l2 q (by omega), fun q hq => ?_⟩
  rw [hI_1, gw_u_s]; unfold upd; rw [if_neg hq, l3 126 (by omega)]
end
section
/-! ===== the best plan: bounds, order; the class's Choice ===== -/
theorem zadd_b {a b : Int32} {x y u v : Int} (ha : x ≤ a.toInt ∧ a.toInt ≤ y) (hb : u ≤ b.toInt ∧ b.toInt ≤ v) (h1 : -2000000000 ≤ x + u) (h2 : y + v ≤ 2000000000) : (a + b).toInt = a.toInt + b.toInt := by
  rw [Int32.toInt_add]
  exact Int.bmod_eq_of_le (by omega) (by omega)
theorem gq_due_b {σ : Nat → Nat → Int32} {m : Nat} {h e : Bool} (hp : 0 ≤ σ 4 m ∧ σ 4 m ≤ 9) : -9 ≤ (gq_due σ m h e).toInt ∧ (gq_due σ m h e).toInt ≤ 9 := by
  have k1 : -9 ≤ (σ 4 m).toInt ∧ (σ 4 m).toInt ≤ 9 := by
    have a := Int32.le_iff_toInt_le.mp hp.1
    have b := Int32.le_iff_toInt_le.mp hp.2
    exact ⟨by have : (0 : Int32).toInt = 0 := rfl; omega, by have : (9 : Int32).toInt = 9 := rfl; omega⟩
  have k2 : -9 ≤ (-(σ 4 m)).toInt ∧ (-(σ 4 m)).toInt ≤ 9 := by
    have a := Int32.le_iff_toInt_le.mp hp.1
    have z : (0 : Int32).toInt = 0 := rfl
    rw [Int32.toInt_neg]
    rw [Int.bmod_eq_of_le (by omega) (by omega)]
    omega
  have k3 : -9 ≤ (0 : Int32).toInt ∧ (0 : Int32).toInt ≤ 9 := by decide
  unfold gq_due
  repeat' split
  all_goals first | exact k1 | exact k2 | exact k3
theorem gq_hc_b {σ : Nat → Nat → Int32} {sm : Nat → Int32} {bk ea : Bool} {so : Nat → Bool} (hc : 0 ≤ σ 0 2 ∧ σ 0 2 ≤ 9) : ∀ {N : Nat}, N ≤ 6 → (∀ m, m < N → 0 ≤ σ 4 m ∧ σ 4 m ≤ 9) → -(9 + 9 * (N : Int)) ≤ (gq_hc σ sm bk ea so N).toInt ∧ (gq_hc σ sm bk ea so N).toInt ≤ 9 + 9 * (N : Int)
  | 0, _, _ => by
    have a := Int32.le_iff_toInt_le.mp hc.1
    have b := Int32.le_iff_toInt_le.mp hc.2
    have z : (0 : Int32).toInt = 0 := rfl
    have z9 : (9 : Int32).toInt = 9 := rfl
    unfold gq_hc
    split
    · rw [Int32.toInt_neg, Int.bmod_eq_of_le (by omega) (by omega)]
      omega
    · omega
  | N + 1, h6, hp => by
    have ih := gq_hc_b (sm := sm) (bk := bk) (ea := ea) (so := so) hc (N := N) (by omega) (fun m hm => hp m (by omega))
    have hd := gq_due_b (h := gq_has σ sm N) (e := ea) (hp N (by omega))
    have hd2 : -9 ≤ (if so N then gq_due σ N (gq_has σ sm N) ea else 0).toInt ∧ (if so N then gq_due σ N (gq_has σ sm N) ea else 0).toInt ≤ 9 := by
      split
      · exact hd
      · decide
    unfold gq_hc
    rw [zadd_b ih hd2 (by omega) (by omega)]
    omega
theorem gq_cm_b {σ : Nat → Nat → Int32} {W N : Nat} (hok : gq_ok σ W N) (wd : Nat → Int32) (pl : Nat → Bool) (bc : Nat) (ch : Int32) (s0 : Nat → Int32) (so : Nat → Bool) : ∀ {g : Nat}, g ≤ 8 → -(63 * (g : Int)) ≤ (gq_cm σ wd pl bc ch s0 so N g).toInt ∧ (gq_cm σ wd pl bc ch s0 so N g).toInt ≤ 63 * (g : Int)
  | 0, _ => by show _ ≤ (0 : Int32).toInt ∧ (0 : Int32).toInt ≤ _; have : (0 : Int32).toInt = 0 := rfl; omega
  | g + 1, hg => by
    obtain ⟨-, -, -, h6, -, -, hc, -, hns⟩ := id hok
    have ih := gq_cm_b hok wd pl bc ch s0 so (g := g) (by omega)
    have hh := gq_hc_b (sm := gq_sq σ wd pl bc ch s0 (g + 1)) (bk := pl g) (ea := decide (wd g = 1)) (so := so) hc h6 (fun m hm => (hns m hm).2.2.1)
    have hh2 : -63 ≤ (gq_hc σ (gq_sq σ wd pl bc ch s0 (g + 1)) (pl g) (decide (wd g = 1)) so N).toInt ∧ (gq_hc σ (gq_sq σ wd pl bc ch s0 (g + 1)) (pl g) (decide (wd g = 1)) so N).toInt ≤ 63 := by omega
    unfold gq_cm
    rw [zadd_b ih hh2 (by omega) (by omega)]
    omega
/-- a set of hours from h0 on, L of them -/
def gz_su (q h0 L : Nat) : Prop := q % 2 ^ h0 = 0 ∧ q < 2 ^ (h0 + L)
theorem gz_sn_su : ∀ h0, h0 < 9 → ∀ L, L < 9 → h0 + L < 9 → ∀ num, num < 2 ^ L → gz_sn num h0 L L % 2 ^ h0 = 0 ∧ gz_sn num h0 L L < 2 ^ (h0 + L) := by decide +kernel
/-- the number of a set: its bits, turned round -/
def gz_ns (q h0 L : Nat) : Nat → Nat
  | 0 => 0
  | b + 1 => gz_ns q h0 L b + (if q.testBit (h0 + L - 1 - b) then 2 ^ b else 0)
theorem gz_su_sn0 : ∀ h0, h0 < 9 → ∀ L, L < 9 → h0 + L < 9 → ∀ q, q < 2 ^ (h0 + L) → (decide (q % 2 ^ h0 ≠ 0) || (decide (gz_ns q h0 L L < 2 ^ L) && decide (gz_sn (gz_ns q h0 L L) h0 L L = q))) = true := by decide +kernel
theorem gz_su_sn (h0 : Nat) (a : h0 < 9) (L : Nat) (b : L < 9) (c : h0 + L < 9) (q : Nat) (d : q < 2 ^ (h0 + L)) : (q % 2 ^ h0 ≠ 0 ∨ (gz_ns q h0 L L < 2 ^ L ∧ gz_sn (gz_ns q h0 L L) h0 L L = q)) := by
  have := gz_su_sn0 h0 a L b c q d
  simpa using this
/-- p is as good as q or better: more comes, or as much by fewer hours, or by like hours and p is the smaller -/
def gq_ge (val : Nat → Int32) (p q : Nat) : Prop := (val q).toInt < (val p).toInt ∨ (val q).toInt = (val p).toInt ∧ (gz_pc p < gz_pc q ∨ gz_pc p = gz_pc q ∧ p ≤ q)
def gq_bst (val : Nat → Int32) (h0 L p : Nat) : Prop := gz_su p h0 L ∧ ∀ q, gz_su q h0 L → gq_ge val p q
theorem gq_bst_one {val : Nat → Int32} {h0 L p q : Nat} (h1 : gq_bst val h0 L p) (h2 : gq_bst val h0 L q) : p = q := by
  have a := h1.2 q h2.1
  have b := h2.2 p h1.1
  unfold gq_ge at a b
  omega
theorem gq_ge_tr {val : Nat → Int32} {p q r : Nat} (h1 : gq_ge val p q) (h2 : gq_ge val q r) : gq_ge val p r := by
  unfold gq_ge at *
  omega
theorem gq_ge_rf (val : Nat → Int32) (p : Nat) : gq_ge val p p := by unfold gq_ge; omega
theorem gq_wf_on {I I2 : Nat → Nat → Int32} {W N h0 L bc : Nat} (h57 : I2 57 = I 57) (ho : ∀ p, p ≠ 81 → I2 p = I p) (h : gq_on I W N h0 L bc) : gq_on I2 W N h0 L bc := by
  have hS : gz_S I2 = gz_S I := gz_S_eq (fun p _ _ => ho p (by omega))
  obtain ⟨a0, a1, a2, a3, a4, a5, a6, a7, a8, fo, a9, a10, a11⟩ := h
  have hW8 := a0.2.1
  refine ⟨by rw [hS]; exact a0, by rw [h57]; exact a1, by rw [h57]; exact a2, a3, by rw [h57]; exact a4, a5, by rw [ho 78 (by omega)]; exact a6, by rw [ho 79 (by omega)]; exact a7, fun m hm => by rw [ho 69 (by omega)]; exact a8 m hm, fo, a9, by rw [h57]; exact a10, fun q hq => ?_⟩
  rw [hS, h57]
  exact gq_rel_eq (a11 q hq) hS (ho _ (by omega)) (ho _ (by omega)) (ho _ (by omega)) (ho _ (by omega)) (fun p hp => by rw [ho p (by omega)]; exact ⟨rfl, rfl⟩)
/-- what comes by a plan: the class's walk -/
abbrev gq_val (σ : Nat → Nat → Int32) (N h0 L bc : Nat) (ch : Int32) (s0 : Nat → Int32) (so : Nat → Bool) : Nat → Int32 := fun p => gq_cm σ (fun q => gq_wd σ 0 (h0 + q)) (fun q => gz_in (Int32.ofNat p) (Int32.ofNat (h0 + q))) bc ch s0 so N L
abbrev cq_best (n : Nat) (I : Nat → Nat → Int32) (J : Nat → Nat → Int64) (N h0 L bc : Nat) : Option Value → gw_W → Prop := fun v w' => v = none ∧ ∃ I2 p, w' = gS n I2 J ∧ gq_qf I I2 ∧ I2 81 1 = Int32.ofNat p ∧ I2 81 2 = gq_val (gz_S I) N h0 L bc (I 57 6) (I 59) (fun _ => true) p ∧ gq_bst (gq_val (gz_S I) N h0 L bc (I 57 6) (I 59) (fun _ => true)) h0 L p
theorem c_findBest {V : gw_V} {n W N h0 L bc : Nat} {I : Nat → Nat → Int32} {J : Nat → Nat → Int64} (hon : gq_on I W N h0 L bc) : gw_E V 5 (0, [(0, .ref 81)], [], gS n I J, 0, 0) (cq_best n I J N h0 L bc) := by
  obtain ⟨hok, -, -, hW, -⟩ := id hon
  have hW8 : W ≤ 8 := hok.2.1
  generalize hval : gq_val (gz_S I) N h0 L bc (I 57 6) (I 59) (fun _ => true) = val
  have hvb : ∀ p, -504 ≤ (val p).toInt ∧ (val p).toInt ≤ 504 := fun p => by
    rw [← hval]
    show -504 ≤ (gq_cm _ _ _ _ _ _ _ _ _).toInt ∧ (gq_cm _ _ _ _ _ _ _ _ _).toInt ≤ 504
    have := gq_cm_b hok (fun q => gq_wd (gz_S I) 0 (h0 + q)) (fun q => gz_in (Int32.ofNat p) (Int32.ofNat (h0 + q))) bc (I 57 6) (I 59) (fun _ => true) (g := L) (by omega)
    omega
  have hpw : 2 ^ L ≤ 256 := Nat.le_trans (Nat.pow_le_pow_right (by omega) (show L ≤ 8 by omega)) (by decide)
  have lp : ∀ (m k : Nat), m + k = 2 ^ L → ∀ I1, gq_on I1 W N h0 L bc → gq_qf I I1 → I1 59 = I 59 → I1 57 6 = I 57 6 → (0 < k → ∃ j, j < k ∧ I1 81 1 = Int32.ofNat (gz_sn j h0 L L) ∧ I1 81 2 = val (gz_sn j h0 L L) ∧ ∀ i, i < k → gq_ge val (gz_sn j h0 L L) (gz_sn i h0 L L)) → gw_E V 5 (2, [(0, .ref 81), (1, .int (Int32.ofNat k))], [], gS n I1 J, 0, 0) (cq_best n I J N h0 L bc) := by
    intro m
    induction m with
    | zero =>
      intro k hk I1 h1 h2 h3 h4 h5
      obtain rfl : k = 2 ^ L := by omega
      refine gs_iload_n (pc := 2) (gd gk_5 2 rfl) rfl ?_
      refine gs_aload_n (pc := 3) (gd gk_5 3 rfl) rfl ?_
      refine gs_getR (r := 57) (pc := 4) (gd gk_5 4 rfl) rfl rfl rfl (by decide) ?_
      refine gs_callV (as := []) (pc := 7) (gd gk_5 5 rfl) (by decide) rfl (by decide) rfl rfl (Nat.le_of_ble_eq_true rfl) gq_5_51 (Nat.le_of_ble_eq_true rfl) (c_sets (L := L) h1.2.2.1 (by omega)) (fun r_7 w_7 q_7 => ?_)
      obtain ⟨rfl, rfl⟩ := q_7
      refine gs_icmp_ge (pc := 10) (gd gk_5 6 rfl) (fun c10 => ?_) (fun c10 => ?_)
      · replace c10 : (2 ^ L) ≤ (2 ^ L) := (zle (k := (2 ^ L)) (m := (2 ^ L)) (by omega) (by omega)).mp c10
        -- end 1: return, pc 89, locals [(0, .ref (81)), (1, .int (Int32.ofNat (2 ^ L)))]
        obtain ⟨j, hj, e1, e2, e3⟩ := h5 (Nat.two_pow_pos L)
        have hs := gz_sn_su h0 (by omega) L (by omega) (by omega) j hj
        exact gs_ret (pc := 89) (gd gk_5 45 rfl) rfl (Nat.zero_le _) (Nat.zero_le _) (⟨rfl, I1, gz_sn j h0 L L, rfl, h2, e1, by rw [e2, hval], ⟨hs, fun q hq => by
          have := (gz_su_sn h0 (by omega) L (by omega) (by omega) q hq.2).resolve_left (fun z => z hq.1)
          rw [hval, ← this.2]
          exact e3 _ this.1⟩⟩)
      · replace c10 : ¬ ((2 ^ L) ≤ (2 ^ L)) := fun q9 => c10 ((zle (k := (2 ^ L)) (m := (2 ^ L)) (by omega) (by omega)).mpr q9)
        -- end 2: stop, pc 13, locals [(0, .ref (81)), (1, .int (Int32.ofNat (2 ^ L)))]
        exact absurd (Nat.le_refl _) c10
    | succ m ih =>
      intro k hk I1 h1 h2 h3 h4 h5
      have hS1 : gz_S I1 = gz_S I := gq_qf_S h2
      have hkL : k < 2 ^ L := by omega
      have hsn := gz_se_sn h0 (by omega) L (by omega) (by omega) k hkL
      have goon : ∀ I2, gq_on I2 W N h0 L bc → gq_qf I I2 → I2 59 = I 59 → I2 57 6 = I 57 6 → (∃ j, j < k + 1 ∧ I2 81 1 = Int32.ofNat (gz_sn j h0 L L) ∧ I2 81 2 = val (gz_sn j h0 L L) ∧ ∀ i, i < k + 1 → gq_ge val (gz_sn j h0 L L) (gz_sn i h0 L L)) → gw_E V 5 (2, [(0, .ref 81), (1, .int (Int32.ofNat (k + 1)))], [], gS n I2 J, 0, 0) (cq_best n I J N h0 L bc) := fun I2 a b c d e => ih (k + 1) (by omega) I2 a b c d (fun _ => e)
      have upd2 : ∀ I2 I3 I4, gq_on I2 W N h0 L bc → gq_qf I I2 → I2 59 = I 59 → I2 57 6 = I 57 6 → I3 = gw_u I2 81 1 (Int32.ofNat (gz_sn k h0 L L)) → I4 = gw_u I3 81 2 (val (gz_sn k h0 L L)) → (∀ i, i < k → gq_ge val (gz_sn k h0 L L) (gz_sn i h0 L L)) → gw_E V 5 (2, [(0, .ref 81), (1, .int (Int32.ofNat (k + 1)))], [], gS n I4 J, 0, 0) (cq_best n I J N h0 L bc) := by
        intro I2 I3 I4 a1 a2 a3 a4 e3 e4 a5
        have ho : ∀ p, p ≠ 81 → I4 p = I2 p := fun p hp => by rw [e4, gw_u_o hp, e3, gw_u_o hp]
        refine goon I4 (gq_wf_on (ho 57 (by omega)) ho a1) (gq_qf_tr a2 ⟨fun p _ _ _ => ho p (by omega), by rw [ho 78 (by omega)], by rw [ho 79 (by omega)], ho 69 (by omega)⟩) (by rw [ho 59 (by omega)]; exact a3) (by rw [ho 57 (by omega)]; exact a4) ⟨k, by omega, by rw [e4, gw_u_s, e3, gw_u_s]; simp [upd], by rw [e4, gw_u_s]; simp [upd], fun i hi => ?_⟩
        by_cases q : i = k
        · rw [q]; exact gq_ge_rf val _
        · exact a5 i (by omega)
      refine gs_iload_n (pc := 2) (gd gk_5 2 rfl) rfl ?_
      refine gs_aload_n (pc := 3) (gd gk_5 3 rfl) rfl ?_
      refine gs_getR (r := 57) (pc := 4) (gd gk_5 4 rfl) rfl rfl rfl (by decide) ?_
      refine gs_callV (as := []) (pc := 7) (gd gk_5 5 rfl) (by decide) rfl (by decide) rfl rfl (Nat.le_of_ble_eq_true rfl) gq_5_51 (Nat.le_of_ble_eq_true rfl) (c_sets (L := L) h1.2.2.1 (by omega)) (fun r_7 w_7 q_7 => ?_)
      obtain ⟨rfl, rfl⟩ := q_7
      refine gs_icmp_ge (pc := 10) (gd gk_5 6 rfl) (fun c10 => ?_) (fun c10 => ?_)
      · replace c10 : (2 ^ L) ≤ k := (zle (k := (2 ^ L)) (m := k) (by omega) (by omega)).mp c10
        -- end 1: stop, pc 89, locals [(0, .ref (81)), (1, .int (Int32.ofNat k))]
        exact absurd c10 (by omega)
      · replace c10 : ¬ ((2 ^ L) ≤ k) := fun q9 => c10 ((zle (k := (2 ^ L)) (m := k) (by omega) (by omega)).mpr q9)
        refine gs_aload_n (pc := 13) (gd gk_5 7 rfl) rfl ?_
        refine gs_getR (r := 57) (pc := 14) (gd gk_5 8 rfl) rfl rfl rfl (by decide) ?_
        refine gs_iload_n (pc := 17) (gd gk_5 9 rfl) rfl ?_
        refine gs_callV (as := [.int (Int32.ofNat k)]) (pc := 18) (gd gk_5 10 rfl) (by decide) rfl (by decide) rfl rfl (Nat.le_of_ble_eq_true rfl) gq_5_52 (Nat.le_of_ble_eq_true rfl) (c_set k hkL h1.2.1 h1.2.2.1 (by omega)) (fun r_18 w_18 q_18 => ?_)
        obtain ⟨rfl, rfl⟩ := q_18
        refine gs_istore_n (ls2 := fun v => [(0, .ref (81)), (1, .int (Int32.ofNat k)), (2, .int (v))]) (pc := 21) (gd gk_5 11 rfl) (by rw [gL_5]; decide) (fun _ => rfl) (fun v2_1 hv2_1 => ?_)
        obtain rfl : v2_1 = Int32.ofNat (gz_sn k h0 L L) := hv2_1.trans (by first | rfl | (simp only [Int32.ofNat_add, Int32.ofNat_mul]; rfl) | (simp only [Int32.ofNat_add, Int32.ofNat_mul]))
        refine gs_aload_n (pc := 22) (gd gk_5 12 rfl) rfl ?_
        refine gs_getR (r := 57) (pc := 23) (gd gk_5 13 rfl) rfl rfl rfl (by decide) ?_
        refine gs_iload_n (pc := 26) (gd gk_5 14 rfl) rfl ?_
        refine gs_iconst (pc := 27) (gd gk_5 15 rfl) (0) rfl ?_
        refine gs_callV (as := [.int (Int32.ofNat (gz_sn k h0 L L)), .int (0)]) (pc := 28) (gd gk_5 16 rfl) (by decide) rfl (by decide) rfl rfl (Nat.le_of_ble_eq_true rfl) gq_5_53 (Nat.le_of_ble_eq_true rfl) (c_take2 (Int32.ofNat (gz_sn k h0 L L)) 0 h1) (fun r_28 w_28 q_28 => ?_)
        obtain ⟨rfl, I_t, rfl, t1, t2, t3⟩ := q_28
        have hS2 : gz_S I_t = gz_S I := by rw [gq_wf_S t1]; exact hS1
        have b59 : I_t 59 = I 59 := by rw [t1.1 59 (by omega) (by omega) (by omega)]; exact h3
        have b6 : I_t 57 6 = I 57 6 := by rw [t1.2.2 6 (by omega) (by omega) (by omega)]; exact h4
        have bq : gq_qf I I_t := gq_qf_tr h2 (gq_qf_w t1)
        have hv : I_t 78 L = val (gz_sn k h0 L L) := by rw [(t3 L (Nat.le_refl L)).2.2.1, hS1, h3, h4, ← hval]
        have b81 : I_t 81 = I1 81 := t1.1 81 (by omega) (by omega) (by omega)
        refine gs_aload_n (pc := 31) (gd gk_5 17 rfl) rfl ?_
        refine gs_getR (r := 57) (pc := 32) (gd gk_5 18 rfl) rfl rfl rfl (by decide) ?_
        refine gs_callV (as := []) (pc := 35) (gd gk_5 19 rfl) (by decide) rfl (by decide) rfl rfl (Nat.le_of_ble_eq_true rfl) gq_5_58 (Nat.le_of_ble_eq_true rfl) (c_comes (L := L) t2.2.2.1 (by omega)) (fun r_35 w_35 q_35 => ?_)
        obtain ⟨rfl, rfl⟩ := q_35
        refine gs_aload_n (pc := 38) (gd gk_5 20 rfl) rfl ?_
        refine gs_getI (pc := 39) (gd gk_5 21 rfl) rfl rfl ?_
        refine gs_isub (pc := 42) (gd gk_5 22 rfl) ?_
        refine gs_istore_n (ls2 := fun v => [(0, .ref (81)), (1, .int (Int32.ofNat k)), (2, .int (Int32.ofNat (gz_sn k h0 L L))), (3, .int (v))]) (pc := 43) (gd gk_5 23 rfl) (by rw [gL_5]; decide) (fun _ => rfl) (fun v3_1 hv3_1 => ?_)
        refine gs_iload_n (pc := 44) (gd gk_5 24 rfl) rfl ?_
        refine gs_if_eq (pc := 45) (gd gk_5 25 rfl) (fun c45 => ?_) (fun c45 => ?_)
        · replace c45 : k = 0 := (zeq (k := k) (m := 0) (by omega) (by omega)).mp c45
          refine gs_aload_n (pc := 67) (gd gk_5 35 rfl) rfl ?_
          refine gs_iload_n (pc := 68) (gd gk_5 36 rfl) rfl ?_
          refine gs_putI (pc := 69) (gd gk_5 37 rfl) rfl rfl rfl rfl (fun I_1 hI_1 => ?_)
          refine gs_aload_n (pc := 72) (gd gk_5 38 rfl) rfl ?_
          refine gs_aload_n (pc := 73) (gd gk_5 39 rfl) rfl ?_
          refine gs_getR (r := 57) (pc := 74) (gd gk_5 40 rfl) rfl rfl rfl (by decide) ?_
          refine gs_callV (as := []) (pc := 77) (gd gk_5 41 rfl) (by decide) rfl (by decide) rfl rfl (Nat.le_of_ble_eq_true rfl) gq_5_58 (Nat.le_of_ble_eq_true rfl) (c_comes (L := L) (by rw [hI_1, gw_u_o (by omega)]; exact t2.2.2.1) (by omega)) (fun r_77 w_77 q_77 => ?_)
          obtain ⟨rfl, rfl⟩ := q_77
          refine gs_putI (pc := 80) (gd gk_5 42 rfl) rfl rfl rfl rfl (fun I_2 hI_2 => ?_)
          refine gs_iinc (ls2 := fun v => [(0, .ref (81)), (1, .int (v)), (2, .int (Int32.ofNat (gz_sn k h0 L L))), (3, .int (v3_1))]) (pc := 83) (gd gk_5 43 rfl) rfl (by rw [gL_5]; decide) (fun _ => rfl) (1) rfl (fun v1_1 hv1_1 => ?_)
          obtain rfl : v1_1 = Int32.ofNat (k + 1) := hv1_1.trans (by first | rfl | (simp only [Int32.ofNat_add, Int32.ofNat_mul]; rfl) | (simp only [Int32.ofNat_add, Int32.ofNat_mul]))
          refine gs_goto (pc := 86) (gd gk_5 44 rfl) ?_
          -- end 2: stop, pc 2, locals [(0, .ref (81)), (1, .int (Int32.ofNat (k + 1))), (2, .int (Int32.ofNat (gz_sn k h0 L L))), (3, .int (v3_1))]
          refine gs_drop [0, 1] rfl (upd2 I_t _ _ t2 bq b59 b6 hI_1 (by rw [hI_2]; congr 1; rw [hI_1, gw_u_o (by omega)]; exact hv) (fun i hi => by omega))
        · replace c45 : ¬ (k = 0) := fun q9 => c45 ((zeq (k := k) (m := 0) (by omega) (by omega)).mpr q9)
          obtain ⟨j, hj, e1, e2, e3⟩ := h5 (by omega)
          have hjs := (gz_se_sn h0 (by omega) L (by omega) (by omega) j (by omega)).2
          have hmo : v3_1.toInt = (val (gz_sn k h0 L L)).toInt - (val (gz_sn j h0 L L)).toInt := by
            rw [hv3_1, hv, b81, e2, Int32.toInt_sub]
            have := hvb (gz_sn k h0 L L)
            have := hvb (gz_sn j h0 L L)
            exact Int.bmod_eq_of_le (by omega) (by omega)
          have old : gq_ge val (gz_sn j h0 L L) (gz_sn k h0 L L) → gw_E V 5 (2, [(0, .ref 81), (1, .int (Int32.ofNat (k + 1)))], [], gS n I_t J, 0, 0) (cq_best n I J N h0 L bc) := fun hh => goon I_t t2 bq b59 b6 ⟨j, by omega, by rw [b81]; exact e1, by rw [b81]; exact e2, fun i hi => by
            by_cases q : i = k
            · rw [q]; exact hh
            · exact e3 i (by omega)⟩
          have new : ∀ I3 I4, gq_ge val (gz_sn k h0 L L) (gz_sn j h0 L L) → I3 = gw_u I_t 81 1 (Int32.ofNat (gz_sn k h0 L L)) → I4 = gw_u I3 81 2 (I3 78 L) → gw_E V 5 (2, [(0, .ref 81), (1, .int (Int32.ofNat (k + 1)))], [], gS n I4 J, 0, 0) (cq_best n I J N h0 L bc) := fun I3 I4 hh q1 q2 => upd2 I_t I3 I4 t2 bq b59 b6 q1 (by rw [q2]; congr 1; rw [q1, gw_u_o (by omega)]; exact hv) (fun i hi => gq_ge_tr hh (e3 i hi))
          refine gs_iload_n (pc := 48) (gd gk_5 26 rfl) rfl ?_
          refine gs_if_gt (pc := 49) (gd gk_5 27 rfl) (fun c49 => ?_) (fun c49 => ?_)
          · refine gs_aload_n (pc := 67) (gd gk_5 35 rfl) rfl ?_
            refine gs_iload_n (pc := 68) (gd gk_5 36 rfl) rfl ?_
            refine gs_putI (pc := 69) (gd gk_5 37 rfl) rfl rfl rfl rfl (fun I_3 hI_3 => ?_)
            refine gs_aload_n (pc := 72) (gd gk_5 38 rfl) rfl ?_
            refine gs_aload_n (pc := 73) (gd gk_5 39 rfl) rfl ?_
            refine gs_getR (r := 57) (pc := 74) (gd gk_5 40 rfl) rfl rfl rfl (by decide) ?_
            refine gs_callV (as := []) (pc := 77) (gd gk_5 41 rfl) (by decide) rfl (by decide) rfl rfl (Nat.le_of_ble_eq_true rfl) gq_5_58 (Nat.le_of_ble_eq_true rfl) (c_comes (L := L) (by rw [hI_3, gw_u_o (by omega)]; exact t2.2.2.1) (by omega)) (fun r_77 w_77 q_77 => ?_)
            obtain ⟨rfl, rfl⟩ := q_77
            refine gs_putI (pc := 80) (gd gk_5 42 rfl) rfl rfl rfl rfl (fun I_4 hI_4 => ?_)
            refine gs_iinc (ls2 := fun v => [(0, .ref (81)), (1, .int (v)), (2, .int (Int32.ofNat (gz_sn k h0 L L))), (3, .int (v3_1))]) (pc := 83) (gd gk_5 43 rfl) rfl (by rw [gL_5]; decide) (fun _ => rfl) (1) rfl (fun v1_2 hv1_2 => ?_)
            obtain rfl : v1_2 = Int32.ofNat (k + 1) := hv1_2.trans (by first | rfl | (simp only [Int32.ofNat_add, Int32.ofNat_mul]; rfl) | (simp only [Int32.ofNat_add, Int32.ofNat_mul]))
            refine gs_goto (pc := 86) (gd gk_5 44 rfl) ?_
            -- end 3: stop, pc 2, locals [(0, .ref (81)), (1, .int (Int32.ofNat (k + 1))), (2, .int (Int32.ofNat (gz_sn k h0 L L))), (3, .int (v3_1))]
            refine gs_drop [0, 1] rfl (new _ _ ?_ hI_3 hI_4)
            have := Int32.lt_iff_toInt_lt.mp c49
            exact .inl (by have z : (0 : Int32).toInt = 0 := rfl; omega)
          · refine gs_iload_n (pc := 52) (gd gk_5 28 rfl) rfl ?_
            refine gs_if_ne (pc := 53) (gd gk_5 29 rfl) (fun c53 => ?_) (fun c53 => ?_)
            · refine gs_iinc (ls2 := fun v => [(0, .ref (81)), (1, .int (v)), (2, .int (Int32.ofNat (gz_sn k h0 L L))), (3, .int (v3_1))]) (pc := 83) (gd gk_5 43 rfl) rfl (by rw [gL_5]; decide) (fun _ => rfl) (1) rfl (fun v1_3 hv1_3 => ?_)
              obtain rfl : v1_3 = Int32.ofNat (k + 1) := hv1_3.trans (by first | rfl | (simp only [Int32.ofNat_add, Int32.ofNat_mul]; rfl) | (simp only [Int32.ofNat_add, Int32.ofNat_mul]))
              refine gs_goto (pc := 86) (gd gk_5 44 rfl) ?_
              -- end 4: stop, pc 2, locals [(0, .ref (81)), (1, .int (Int32.ofNat (k + 1))), (2, .int (Int32.ofNat (gz_sn k h0 L L))), (3, .int (v3_1))]
              refine gs_drop [0, 1] rfl (old ?_)
              have := Int32.le_iff_toInt_le.mp (Int32.not_lt.mp c49)
              have : v3_1.toInt ≠ 0 := fun q => c53 (Int32.toInt_inj.mp q)
              exact .inl (by have z : (0 : Int32).toInt = 0 := rfl; omega)
            · refine gs_iload_n (pc := 56) (gd gk_5 30 rfl) rfl ?_
              refine gs_aload_n (pc := 57) (gd gk_5 31 rfl) rfl ?_
              refine gs_getI (pc := 58) (gd gk_5 32 rfl) rfl rfl ?_
              refine gs_as ((Int32.ofNat (gz_sn j h0 L L))) ((by rw [b81]; exact e1)) ?_
              refine gs_callS (as := [.int (Int32.ofNat (gz_sn k h0 L L)), .int ((Int32.ofNat (gz_sn j h0 L L)))]) (pc := 61) (gd gk_5 33 rfl) (by decide) rfl rfl (Nat.le_of_ble_eq_true rfl) gq_5_7 (Nat.le_of_ble_eq_true rfl) (c_small (gz_sn k h0 L L) (gz_sn j h0 L L) hsn.2 hjs) (fun r_61 w_61 q_61 => ?_)
              obtain ⟨rfl, rfl⟩ := q_61
              refine gs_if_eq (pc := 64) (gd gk_5 34 rfl) (fun c64 => ?_) (fun c64 => ?_)
              · refine gs_iinc (ls2 := fun v => [(0, .ref (81)), (1, .int (v)), (2, .int (Int32.ofNat (gz_sn k h0 L L))), (3, .int (v3_1))]) (pc := 83) (gd gk_5 43 rfl) rfl (by rw [gL_5]; decide) (fun _ => rfl) (1) rfl (fun v1_4 hv1_4 => ?_)
                obtain rfl : v1_4 = Int32.ofNat (k + 1) := hv1_4.trans (by first | rfl | (simp only [Int32.ofNat_add, Int32.ofNat_mul]; rfl) | (simp only [Int32.ofNat_add, Int32.ofNat_mul]))
                refine gs_goto (pc := 86) (gd gk_5 44 rfl) ?_
                -- end 5: stop, pc 2, locals [(0, .ref (81)), (1, .int (Int32.ofNat (k + 1))), (2, .int (Int32.ofNat (gz_sn k h0 L L))), (3, .int (v3_1))]
                refine gs_drop [0, 1] rfl (old ?_)
                have hz : v3_1.toInt = 0 := by rw [c53]; rfl
                have hb := gz_b_eq.mp c64
                simp only [gz_sm, decide_eq_false_iff_not] at hb
                exact .inr (by omega)
              · refine gs_aload_n (pc := 67) (gd gk_5 35 rfl) rfl ?_
                refine gs_iload_n (pc := 68) (gd gk_5 36 rfl) rfl ?_
                refine gs_putI (pc := 69) (gd gk_5 37 rfl) rfl rfl rfl rfl (fun I_5 hI_5 => ?_)
                refine gs_aload_n (pc := 72) (gd gk_5 38 rfl) rfl ?_
                refine gs_aload_n (pc := 73) (gd gk_5 39 rfl) rfl ?_
                refine gs_getR (r := 57) (pc := 74) (gd gk_5 40 rfl) rfl rfl rfl (by decide) ?_
                refine gs_callV (as := []) (pc := 77) (gd gk_5 41 rfl) (by decide) rfl (by decide) rfl rfl (Nat.le_of_ble_eq_true rfl) gq_5_58 (Nat.le_of_ble_eq_true rfl) (c_comes (L := L) (by rw [hI_5, gw_u_o (by omega)]; exact t2.2.2.1) (by omega)) (fun r_77 w_77 q_77 => ?_)
                obtain ⟨rfl, rfl⟩ := q_77
                refine gs_putI (pc := 80) (gd gk_5 42 rfl) rfl rfl rfl rfl (fun I_6 hI_6 => ?_)
                refine gs_iinc (ls2 := fun v => [(0, .ref (81)), (1, .int (v)), (2, .int (Int32.ofNat (gz_sn k h0 L L))), (3, .int (v3_1))]) (pc := 83) (gd gk_5 43 rfl) rfl (by rw [gL_5]; decide) (fun _ => rfl) (1) rfl (fun v1_5 hv1_5 => ?_)
                obtain rfl : v1_5 = Int32.ofNat (k + 1) := hv1_5.trans (by first | rfl | (simp only [Int32.ofNat_add, Int32.ofNat_mul]; rfl) | (simp only [Int32.ofNat_add, Int32.ofNat_mul]))
                refine gs_goto (pc := 86) (gd gk_5 44 rfl) ?_
                -- end 6: stop, pc 2, locals [(0, .ref (81)), (1, .int (Int32.ofNat (k + 1))), (2, .int (Int32.ofNat (gz_sn k h0 L L))), (3, .int (v3_1))]
                refine gs_drop [0, 1] rfl (new _ _ ?_ hI_5 hI_6)
                have hz : v3_1.toInt = 0 := by rw [c53]; rfl
                have hb := gz_b_ne.mp c64
                simp only [gz_sm, decide_eq_true_eq] at hb
                exact .inr (by omega)
  refine gs_iconst (pc := 0) (gd gk_5 0 rfl) (0) rfl ?_
  refine gs_istore_n (ls2 := fun v => [(0, .ref (81)), (1, .int (v))]) (pc := 1) (gd gk_5 1 rfl) (by rw [gL_5]; decide) (fun _ => rfl) (fun v1_1 hv1_1 => ?_)
  obtain rfl : v1_1 = Int32.ofNat 0 := hv1_1.trans (by first | rfl | (simp only [Int32.ofNat_add, Int32.ofNat_mul]; rfl) | (simp only [Int32.ofNat_add, Int32.ofNat_mul]))
  -- end 1: stop, pc 2, locals [(0, .ref (81)), (1, .int (Int32.ofNat 0))]
  exact lp (2 ^ L) 0 (by omega) I hon ⟨fun _ _ _ _ => rfl, rfl, rfl, rfl⟩ rfl rfl (fun h => absurd h (Nat.lt_irrefl 0))
end
section
/-! ===== the class: follow, by, had, best ===== -/
theorem gq_res_c {I : Nat → Nat → Int32} {N L : Nat} {σ : Nat → Nat → Int32} {wd : Nat → Int32} {pl : Nat → Bool} {bc : Nat} {ch : Int32} {s1 s2 : Nat → Int32} (h : ∀ c, c < 10 → s1 c = s2 c) (hn : ∀ m, m < N → 0 ≤ σ 2 m ∧ σ 2 m ≤ 9) (hr : gq_res I N L σ wd pl bc ch s1) : gq_res I N L σ wd pl bc ch s2 := fun g hg => by
  obtain ⟨a1, a2, a3, a4, a5⟩ := hr g hg
  exact ⟨fun c hc => (a1 c hc).trans (gq_sq_c h g c hc), fun m hm => (a2 m hm).trans (gq_pd_c h (hn m hm) g), a3.trans (gq_cm_c h hn g), a4.trans (gq_hd_c h hn g), fun g0 => (a5 g0).trans (gq_who_c (fun c hc => gq_sq_c h g c hc) hn)⟩
theorem gq_ok_n {σ : Nat → Nat → Int32} {W N : Nat} (h : gq_ok σ W N) : ∀ m, m < N → 0 ≤ σ 2 m ∧ σ 2 m ≤ 9 := by
  obtain ⟨-, -, -, -, -, -, -, -, hns⟩ := h
  exact fun m hm => (hns m hm).1
theorem gq_now_qf {I I2 : Nat → Nat → Int32} {W N h0 L bc : Nat} (h : gq_qf I I2) (hn : gq_now I W N h0 L bc) : gq_now I2 W N h0 L bc := by
  obtain ⟨a1, a2, a3, a4, a5, a6, a7, a8⟩ := hn
  exact ⟨by rw [gq_qf_S h]; exact a1, by rw [h.1 12 (by omega) (by omega) (by omega)]; exact a2, a3, by rw [h.1 6 (by omega) (by omega) (by omega)]; exact a4, a5, by rw [h.2.1]; exact a6, by rw [h.2.2.1]; exact a7, by rw [h.2.2.2]; exact a8⟩
/-- the winds as they blow, from the hour on -/
abbrev gq_w0 (σ : Nat → Nat → Int32) (h0 : Nat) : Nat → Int32 := fun q => gq_wd σ 0 (h0 + q)
abbrev gq_p0 (pl : Int32) (h0 : Nat) : Nat → Bool := fun q => gz_in pl (Int32.ofNat (h0 + q))
section
variable {V : gw_V} {n W N h0 L bc : Nat} {I : Nat → Nat → Int32} {J : Nat → Nat → Int64}
theorem c_follow (pl : Int32) (hn : gq_now I W N h0 L bc) : gw_E V 98 (0, [(0, .ref 3), (1, .int pl)], [], gS n I J, 0, 0) (fun v w' => v = none ∧ ∃ I2, w' = gS n I2 J ∧ gq_qf I I2 ∧ gq_on I2 W N h0 L bc ∧ gq_res I2 N L (gz_S I) (gq_w0 (gz_S I) h0) (gq_p0 pl h0) bc (I 12 1) (I 13)) := by
  obtain ⟨hok, hh, hW, hbc, hb9, h78, h79, h69⟩ := hn
  refine gs_aload_n (pc := 0) (gd gk_98 0 rfl) rfl ?_
  refine gs_getR (r := 57) (pc := 1) (gd gk_98 1 rfl) rfl rfl rfl (by decide) ?_
  refine gs_aload_n (pc := 4) (gd gk_98 2 rfl) rfl ?_
  refine gs_getR (r := 12) (pc := 5) (gd gk_98 3 rfl) rfl rfl rfl (by decide) ?_
  refine gs_aload_n (pc := 8) (gd gk_98 4 rfl) rfl ?_
  refine gs_getR (r := 6) (pc := 9) (gd gk_98 5 rfl) rfl rfl rfl (by decide) ?_
  refine gs_getI (pc := 12) (gd gk_98 6 rfl) rfl rfl ?_
  refine gs_as (Int32.ofNat bc) (hbc) ?_
  refine gs_callV (as := [.ref (12), .int (Int32.ofNat bc)]) (pc := 15) (gd gk_98 7 rfl) (by decide) rfl (by decide) rfl rfl (Nat.le_of_ble_eq_true rfl) gq_98_50 (Nat.le_of_ble_eq_true rfl) (c_start_now bc h0 L hok hh hW hb9 h78 h79 h69) (fun r_15 w_15 q_15 => ?_)
  obtain ⟨rfl, I_s, rfl, s1, s2, s3, s4⟩ := q_15
  refine gs_aload_n (pc := 18) (gd gk_98 8 rfl) rfl ?_
  refine gs_getR (r := 57) (pc := 19) (gd gk_98 9 rfl) rfl rfl rfl (by decide) ?_
  refine gs_iload_n (pc := 22) (gd gk_98 10 rfl) rfl ?_
  refine gs_iconst (pc := 23) (gd gk_98 11 rfl) (0) rfl ?_
  refine gs_callV (as := [.int (pl), .int (0)]) (pc := 24) (gd gk_98 12 rfl) (by decide) rfl (by decide) rfl rfl (Nat.le_of_ble_eq_true rfl) gq_98_53 (Nat.le_of_ble_eq_true rfl) (c_take2 pl 0 s2) (fun r_24 w_24 q_24 => ?_)
  obtain ⟨rfl, I_t, rfl, t1, t2, t3⟩ := q_24
  -- end 1: return, pc 27, locals [(0, .ref (3)), (1, .int (pl))]
  have hS : gz_S I_s = gz_S I := gq_qf_S (gq_qf_s s1)
  rw [hS, s3] at t3
  exact gs_ret (pc := 27) (gd gk_98 13 rfl) rfl (Nat.zero_le _) (Nat.zero_le _) (⟨rfl, I_t, rfl, gq_qf_tr (gq_qf_s s1) (gq_qf_w t1), t2, gq_res_c s4 (gq_ok_n hok) t3⟩)
theorem c_by (pl : Int32) (hn : gq_now I W N h0 L bc) : gw_E V 75 (0, [(0, .ref 3), (1, .int pl)], [], gS n I J, 0, 0) (fun v w' => v = some (.int (if gz_rg pl 0 255 then gq_cm (gz_S I) (gq_w0 (gz_S I) h0) (gq_p0 pl h0) bc (I 12 1) (I 13) (fun _ => true) N L else -1000002)) ∧ ∃ I2, w' = gS n I2 J ∧ gq_qf I I2) := by
  have hW8 : W ≤ 8 := hn.1.2.1
  have hW : h0 + L = W := hn.2.2.1
  refine gs_iload_n (pc := 0) (gd gk_75 0 rfl) rfl ?_
  refine gs_callS (as := [.int (pl)]) (pc := 1) (gd gk_75 1 rfl) (by decide) rfl rfl (Nat.le_of_ble_eq_true rfl) gq_75_94 (Nat.le_of_ble_eq_true rfl) (c_plan (pl)) (fun r_1 w_1 q_1 => ?_)
  obtain ⟨rfl, rfl⟩ := q_1
  refine gs_if_ne (pc := 4) (gd gk_75 2 rfl) (fun c4 => ?_) (fun c4 => ?_)
  · refine gs_aload_n (pc := 10) (gd gk_75 5 rfl) rfl ?_
    refine gs_iload_n (pc := 11) (gd gk_75 6 rfl) rfl ?_
    refine gs_callV (as := [.int (pl)]) (pc := 12) (gd gk_75 7 rfl) (by decide) rfl (by decide) rfl rfl (Nat.le_of_ble_eq_true rfl) gq_75_98 (Nat.le_of_ble_eq_true rfl) (c_follow pl hn) (fun r_12 w_12 q_12 => ?_)
    obtain ⟨rfl, I_f, rfl, f1, f2, f3⟩ := q_12
    refine gs_aload_n (pc := 15) (gd gk_75 8 rfl) rfl ?_
    refine gs_getR (r := 57) (pc := 16) (gd gk_75 9 rfl) rfl rfl rfl (by decide) ?_
    refine gs_callV (as := []) (pc := 19) (gd gk_75 10 rfl) (by decide) rfl (by decide) rfl rfl (Nat.le_of_ble_eq_true rfl) gq_75_58 (Nat.le_of_ble_eq_true rfl) (c_comes (L := L) f2.2.2.1 (by omega)) (fun r_19 w_19 q_19 => ?_)
    obtain ⟨rfl, rfl⟩ := q_19
    -- end 1: ireturn (I_f 78 L), pc 22, locals [(0, .ref (3)), (1, .int (pl))]
    exact gs_iret (pc := 22) (gd gk_75 11 rfl) rfl (rfl) (Nat.zero_le _) (Nat.zero_le _) (⟨by rw [(f3 L (Nat.le_refl L)).2.2.1, if_pos (gz_b_ne.mp c4)], I_f, rfl, f1⟩)
  · refine gs_ldc (pc := 7) (gd gk_75 3 rfl) (-1000002) rfl ?_
    -- end 2: ireturn (-1000002), pc 9, locals [(0, .ref (3)), (1, .int (pl))]
    exact gs_iret (pc := 9) (gd gk_75 4 rfl) rfl (rfl) (Nat.zero_le _) (Nat.zero_le _) (⟨by rw [if_neg (by rw [gz_b_eq.mp c4]; decide)], I, rfl, ⟨fun _ _ _ _ => rfl, rfl, rfl, rfl⟩⟩)
theorem c_hadp (pl : Int32) (hn : gq_now I W N h0 L bc) : gw_E V 80 (0, [(0, .ref 3), (1, .int pl)], [], gS n I J, 0, 0) (fun v w' => v = some (.int (if gz_rg pl 0 255 then gq_hd (gz_S I) (gq_w0 (gz_S I) h0) (gq_p0 pl h0) bc (I 12 1) (I 13) N L else -2)) ∧ ∃ I2, w' = gS n I2 J ∧ gq_qf I I2) := by
  have hW8 : W ≤ 8 := hn.1.2.1
  have hW : h0 + L = W := hn.2.2.1
  refine gs_iload_n (pc := 0) (gd gk_80 0 rfl) rfl ?_
  refine gs_callS (as := [.int (pl)]) (pc := 1) (gd gk_80 1 rfl) (by decide) rfl rfl (Nat.le_of_ble_eq_true rfl) gq_80_94 (Nat.le_of_ble_eq_true rfl) (c_plan (pl)) (fun r_1 w_1 q_1 => ?_)
  obtain ⟨rfl, rfl⟩ := q_1
  refine gs_if_ne (pc := 4) (gd gk_80 2 rfl) (fun c4 => ?_) (fun c4 => ?_)
  · refine gs_aload_n (pc := 10) (gd gk_80 5 rfl) rfl ?_
    refine gs_iload_n (pc := 11) (gd gk_80 6 rfl) rfl ?_
    refine gs_callV (as := [.int (pl)]) (pc := 12) (gd gk_80 7 rfl) (by decide) rfl (by decide) rfl rfl (Nat.le_of_ble_eq_true rfl) gq_80_98 (Nat.le_of_ble_eq_true rfl) (c_follow pl hn) (fun r_12 w_12 q_12 => ?_)
    obtain ⟨rfl, I_f, rfl, f1, f2, f3⟩ := q_12
    refine gs_aload_n (pc := 15) (gd gk_80 8 rfl) rfl ?_
    refine gs_getR (r := 57) (pc := 16) (gd gk_80 9 rfl) rfl rfl rfl (by decide) ?_
    refine gs_callV (as := []) (pc := 19) (gd gk_80 10 rfl) (by decide) rfl (by decide) rfl rfl (Nat.le_of_ble_eq_true rfl) gq_80_61 (Nat.le_of_ble_eq_true rfl) (c_had (L := L) f2.2.2.1 (by omega)) (fun r_19 w_19 q_19 => ?_)
    obtain ⟨rfl, rfl⟩ := q_19
    -- end 1: ireturn (I_f 79 L), pc 22, locals [(0, .ref (3)), (1, .int (pl))]
    exact gs_iret (pc := 22) (gd gk_80 11 rfl) rfl (rfl) (Nat.zero_le _) (Nat.zero_le _) (⟨by rw [(f3 L (Nat.le_refl L)).2.2.2.1, if_pos (gz_b_ne.mp c4)], I_f, rfl, f1⟩)
  · refine gs_bipush (pc := 7) (gd gk_80 3 rfl) (-2) rfl ?_
    -- end 2: ireturn (-2), pc 9, locals [(0, .ref (3)), (1, .int (pl))]
    exact gs_iret (pc := 9) (gd gk_80 4 rfl) rfl (rfl) (Nat.zero_le _) (Nat.zero_le _) (⟨by rw [if_neg (by rw [gz_b_eq.mp c4]; decide)], I, rfl, ⟨fun _ _ _ _ => rfl, rfl, rfl, rfl⟩⟩)
/-- what comes by a plan: the words of both -/
abbrev gq_vl (σ : Nat → Nat → Int32) (N h0 L bc : Nat) (ch : Int32) (s0 : Nat → Int32) (so : Nat → Bool) : Nat → Int32 := gq_val σ N h0 L bc ch s0 so
theorem gq_val_c {s1 s2 : Nat → Int32} (h : ∀ c, c < 10 → s1 c = s2 c) {σ : Nat → Nat → Int32} {N h0 L bc : Nat} {ch : Int32} {so : Nat → Bool} (hn : ∀ m, m < N → 0 ≤ σ 2 m ∧ σ 2 m ≤ 9) : gq_val σ N h0 L bc ch s1 so = gq_val σ N h0 L bc ch s2 so := by
  funext p
  exact gq_cm_c h hn L
theorem c_best (pn : Bool) (hn : gq_now I W N h0 L bc) : gw_E V 76 (0, [(0, .ref 3), (1, .int (gz_b pn))], [], gS n I J, 0, 0) (fun v w' => ∃ I2 p, w' = gS n I2 J ∧ gq_qf I I2 ∧ gq_bst (gq_val (gz_S I) N h0 L bc (I 12 1) (I 13) (fun _ => true)) h0 L p ∧ v = some (.int (if pn then gq_val (gz_S I) N h0 L bc (I 12 1) (I 13) (fun _ => true) p else Int32.ofNat p))) := by
  obtain ⟨hok, hh, hW, hbc, hb9, h78, h79, h69⟩ := hn
  refine gs_aload_n (pc := 0) (gd gk_76 0 rfl) rfl ?_
  refine gs_getR (r := 57) (pc := 1) (gd gk_76 1 rfl) rfl rfl rfl (by decide) ?_
  refine gs_aload_n (pc := 4) (gd gk_76 2 rfl) rfl ?_
  refine gs_getR (r := 12) (pc := 5) (gd gk_76 3 rfl) rfl rfl rfl (by decide) ?_
  refine gs_aload_n (pc := 8) (gd gk_76 4 rfl) rfl ?_
  refine gs_getR (r := 6) (pc := 9) (gd gk_76 5 rfl) rfl rfl rfl (by decide) ?_
  refine gs_getI (pc := 12) (gd gk_76 6 rfl) rfl rfl ?_
  refine gs_as (Int32.ofNat bc) (hbc) ?_
  refine gs_callV (as := [.ref (12), .int (Int32.ofNat bc)]) (pc := 15) (gd gk_76 7 rfl) (by decide) rfl (by decide) rfl rfl (Nat.le_of_ble_eq_true rfl) gq_76_50 (Nat.le_of_ble_eq_true rfl) (c_start_now bc h0 L hok hh hW hb9 h78 h79 h69) (fun r_15 w_15 q_15 => ?_)
  obtain ⟨rfl, I_s, rfl, s1, s2, s3, s4⟩ := q_15
  refine gs_aload_n (pc := 18) (gd gk_76 8 rfl) rfl ?_
  refine gs_getR (r := 81) (pc := 19) (gd gk_76 9 rfl) rfl rfl rfl (by decide) ?_
  refine gs_callV (as := []) (pc := 22) (gd gk_76 10 rfl) (by decide) rfl (by decide) rfl rfl (Nat.le_of_ble_eq_true rfl) gq_76_5 (Nat.le_of_ble_eq_true rfl) (c_findBest s2) (fun r_22 w_22 q_22 => ?_)
  obtain ⟨rfl, I_t, p, rfl, t1, t2, t3, t4⟩ := q_22
  rw [gq_qf_S (gq_qf_s s1), s3, gq_val_c s4 (gq_ok_n hok)] at t3 t4
  refine gs_iload_n (pc := 25) (gd gk_76 11 rfl) rfl ?_
  refine gs_if_eq (pc := 26) (gd gk_76 12 rfl) (fun c26 => ?_) (fun c26 => ?_)
  · refine gs_aload_n (pc := 39) (gd gk_76 17 rfl) rfl ?_
    refine gs_getR (r := 81) (pc := 40) (gd gk_76 18 rfl) rfl rfl rfl (by decide) ?_
    refine gs_getI (pc := 43) (gd gk_76 19 rfl) rfl rfl ?_
    -- end 1: ireturn (I_t 81 1), pc 46, locals [(0, .ref (3)), (1, .int (gz_b pn))]
    exact gs_iret (pc := 46) (gd gk_76 20 rfl) rfl (rfl) (Nat.zero_le _) (Nat.zero_le _) (⟨I_t, p, rfl, gq_qf_tr (gq_qf_s s1) t1, t4, by rw [t2, gz_b_eq.mp c26]; rfl⟩)
  · refine gs_aload_n (pc := 29) (gd gk_76 13 rfl) rfl ?_
    refine gs_getR (r := 81) (pc := 30) (gd gk_76 14 rfl) rfl rfl rfl (by decide) ?_
    refine gs_getI (pc := 33) (gd gk_76 15 rfl) rfl rfl ?_
    refine gs_goto (pc := 36) (gd gk_76 16 rfl) ?_
    -- end 2: ireturn (I_t 81 2), pc 46, locals [(0, .ref (3)), (1, .int (gz_b pn))]
    exact gs_iret (pc := 46) (gd gk_76 20 rfl) rfl (rfl) (Nat.zero_le _) (Nat.zero_le _) (⟨I_t, p, rfl, gq_qf_tr (gq_qf_s s1) t1, t4, by rw [t3, gz_b_ne.mp c26]; rfl⟩)
end
end
section
/-! ===== the class: findOnly, only ===== -/
def gq_le (p q : Nat) : Prop := gz_pc p < gz_pc q ∨ gz_pc p = gz_pc q ∧ p ≤ q
def gq_onl (hv : Nat → Int32) (told : Int32) (h0 L p : Nat) : Prop := gz_su p h0 L ∧ hv p = told ∧ ∀ q, gz_su q h0 L → hv q = told → gq_le p q
theorem gq_onl_one {hv : Nat → Int32} {told : Int32} {h0 L p q : Nat} (h1 : gq_onl hv told h0 L p) (h2 : gq_onl hv told h0 L q) : p = q := by
  have a := h1.2.2 q h2.1 h2.2.1
  have b := h2.2.2 p h1.1 h1.2.1
  unfold gq_le at a b
  omega
theorem gq_le_tr {p q r : Nat} (h1 : gq_le p q) (h2 : gq_le q r) : gq_le p r := by
  unfold gq_le at *
  omega
abbrev gq_hv (σ : Nat → Nat → Int32) (N h0 L bc : Nat) (ch : Int32) (s0 : Nat → Int32) : Nat → Int32 := fun p => gq_hd σ (fun q => gq_wd σ 0 (h0 + q)) (fun q => gz_in (Int32.ofNat p) (Int32.ofNat (h0 + q))) bc ch s0 N L
theorem gq_hv_c {s1 s2 : Nat → Int32} (h : ∀ c, c < 10 → s1 c = s2 c) {σ : Nat → Nat → Int32} {N h0 L bc : Nat} {ch : Int32} (hn : ∀ m, m < N → 0 ≤ σ 2 m ∧ σ 2 m ≤ 9) : gq_hv σ N h0 L bc ch s1 = gq_hv σ N h0 L bc ch s2 := by
  funext p
  exact gq_hd_c h hn L
abbrev cq_only (n : Nat) (I : Nat → Nat → Int32) (J : Nat → Nat → Int64) (N h0 L bc : Nat) (told : Int32) : Option Value → gw_W → Prop := fun v w' => ∃ I2 f, w' = gS n I2 J ∧ v = some (.int (gz_b f)) ∧ gq_qf I I2 ∧ (f = true → ∃ p, I2 81 1 = Int32.ofNat p ∧ gq_onl (gq_hv (gz_S I) N h0 L bc (I 57 6) (I 59)) told h0 L p) ∧ (f = false → ∀ q, gz_su q h0 L → gq_hv (gz_S I) N h0 L bc (I 57 6) (I 59) q ≠ told)
theorem zinj {a b : Nat} (ha : a < 256) (hb : b < 256) (h : Int32.ofNat a = Int32.ofNat b) : a = b := (zeq (by omega) (by omega)).mp h
theorem c_findOnly {V : gw_V} {n W N h0 L bc : Nat} {I : Nat → Nat → Int32} {J : Nat → Nat → Int64} (told : Int32) (hon : gq_on I W N h0 L bc) : gw_E V 6 (0, [(0, .ref 81), (1, .int told)], [], gS n I J, 0, 0) (cq_only n I J N h0 L bc told) := by
  obtain ⟨hok, -, -, hW, -⟩ := id hon
  have hW8 : W ≤ 8 := hok.2.1
  generalize hval : gq_hv (gz_S I) N h0 L bc (I 57 6) (I 59) = hv
  have hpw : 2 ^ L ≤ 256 := Nat.le_trans (Nat.pow_le_pow_right (by omega) (show L ≤ 8 by omega)) (by decide)
  have lp : ∀ (m k : Nat), m + k = 2 ^ L → ∀ I1 f, gq_on I1 W N h0 L bc → gq_qf I I1 → I1 59 = I 59 → I1 57 6 = I 57 6 → (f = true → ∃ j, j < k ∧ I1 81 1 = Int32.ofNat (gz_sn j h0 L L) ∧ hv (gz_sn j h0 L L) = told ∧ ∀ i, i < k → hv (gz_sn i h0 L L) = told → gq_le (gz_sn j h0 L L) (gz_sn i h0 L L)) → (f = false → ∀ i, i < k → hv (gz_sn i h0 L L) ≠ told) → gw_E V 6 (4, [(0, .ref 81), (1, .int told), (2, .int (gz_b f)), (3, .int (Int32.ofNat k))], [], gS n I1 J, 0, 0) (cq_only n I J N h0 L bc told) := by
    intro m
    induction m with
    | zero =>
      intro k hk I1 f h1 h2 h3 h4 h5 h6
      obtain rfl : k = 2 ^ L := by omega
      refine gs_iload_n (pc := 4) (gd gk_6 4 rfl) rfl ?_
      refine gs_aload_n (pc := 5) (gd gk_6 5 rfl) rfl ?_
      refine gs_getR (r := 57) (pc := 6) (gd gk_6 6 rfl) rfl rfl rfl (by decide) ?_
      refine gs_callV (as := []) (pc := 9) (gd gk_6 7 rfl) (by decide) rfl (by decide) rfl rfl (Nat.le_of_ble_eq_true rfl) gq_6_51 (Nat.le_of_ble_eq_true rfl) (c_sets (L := L) h1.2.2.1 (by omega)) (fun r_9 w_9 q_9 => ?_)
      obtain ⟨rfl, rfl⟩ := q_9
      refine gs_icmp_ge (pc := 12) (gd gk_6 8 rfl) (fun c12 => ?_) (fun c12 => ?_)
      · replace c12 : (2 ^ L) ≤ (2 ^ L) := (zle (k := (2 ^ L)) (m := (2 ^ L)) (by omega) (by omega)).mp c12
        refine gs_iload_n (pc := 76) (gd gk_6 38 rfl) rfl ?_
        -- end 1: ireturn gz_b f, pc 77, locals [(0, .ref (81)), (1, .int (told)), (2, .int (gz_b f)), (3, .int (Int32.ofNat (2 ^ L)))]
        have hall : ∀ q, gz_su q h0 L → ∃ i, i < 2 ^ L ∧ gz_sn i h0 L L = q := fun q hq => ⟨_, (gz_su_sn h0 (by omega) L (by omega) (by omega) q hq.2).resolve_left (fun z => z hq.1)⟩
        exact gs_iret (pc := 77) (gd gk_6 39 rfl) rfl (gz_b_nar _) (Nat.zero_le _) (Nat.zero_le _) (⟨I1, f, rfl, rfl, h2, fun hf => by
          obtain ⟨j, hj, e1, e2, e3⟩ := h5 hf
          refine ⟨_, e1, gz_sn_su h0 (by omega) L (by omega) (by omega) j hj, by rw [hval]; exact e2, fun q hq hh => ?_⟩
          obtain ⟨i, hi, rfl⟩ := hall q hq
          rw [hval] at hh
          exact e3 i hi hh, fun hf q hq => by
          obtain ⟨i, hi, rfl⟩ := hall q hq
          rw [hval]
          exact h6 hf i hi⟩)
      · replace c12 : ¬ ((2 ^ L) ≤ (2 ^ L)) := fun q9 => c12 ((zle (k := (2 ^ L)) (m := (2 ^ L)) (by omega) (by omega)).mpr q9)
        -- end 2: stop, pc 15, locals [(0, .ref (81)), (1, .int (told)), (2, .int (gz_b f)), (3, .int (Int32.ofNat (2 ^ L)))]
        exact absurd (Nat.le_refl _) c12
    | succ m ih =>
      intro k hk I1 f h1 h2 h3 h4 h5 h6
      have hS1 : gz_S I1 = gz_S I := gq_qf_S h2
      have hkL : k < 2 ^ L := by omega
      have hsn := gz_se_sn h0 (by omega) L (by omega) (by omega) k hkL
      refine gs_iload_n (pc := 4) (gd gk_6 4 rfl) rfl ?_
      refine gs_aload_n (pc := 5) (gd gk_6 5 rfl) rfl ?_
      refine gs_getR (r := 57) (pc := 6) (gd gk_6 6 rfl) rfl rfl rfl (by decide) ?_
      refine gs_callV (as := []) (pc := 9) (gd gk_6 7 rfl) (by decide) rfl (by decide) rfl rfl (Nat.le_of_ble_eq_true rfl) gq_6_51 (Nat.le_of_ble_eq_true rfl) (c_sets (L := L) h1.2.2.1 (by omega)) (fun r_9 w_9 q_9 => ?_)
      obtain ⟨rfl, rfl⟩ := q_9
      refine gs_icmp_ge (pc := 12) (gd gk_6 8 rfl) (fun c12 => ?_) (fun c12 => ?_)
      · replace c12 : (2 ^ L) ≤ k := (zle (k := (2 ^ L)) (m := k) (by omega) (by omega)).mp c12
        refine gs_iload_n (pc := 76) (gd gk_6 38 rfl) rfl ?_
        -- end 1: ireturn gz_b f, pc 77, locals [(0, .ref (81)), (1, .int (told)), (2, .int (gz_b f)), (3, .int (Int32.ofNat k))]
        exact absurd c12 (by omega)
      · replace c12 : ¬ ((2 ^ L) ≤ k) := fun q9 => c12 ((zle (k := (2 ^ L)) (m := k) (by omega) (by omega)).mpr q9)
        refine gs_aload_n (pc := 15) (gd gk_6 9 rfl) rfl ?_
        refine gs_getR (r := 57) (pc := 16) (gd gk_6 10 rfl) rfl rfl rfl (by decide) ?_
        refine gs_iload_n (pc := 19) (gd gk_6 11 rfl) rfl ?_
        refine gs_callV (as := [.int (Int32.ofNat k)]) (pc := 20) (gd gk_6 12 rfl) (by decide) rfl (by decide) rfl rfl (Nat.le_of_ble_eq_true rfl) gq_6_52 (Nat.le_of_ble_eq_true rfl) (c_set k hkL h1.2.1 h1.2.2.1 (by omega)) (fun r_20 w_20 q_20 => ?_)
        obtain ⟨rfl, rfl⟩ := q_20
        refine gs_istore (ls2 := fun v => [(0, .ref (81)), (1, .int (told)), (2, .int (gz_b f)), (3, .int (Int32.ofNat k)), (4, .int (v))]) (pc := 23) (gd gk_6 13 rfl) (by rw [gL_6]; decide) (fun _ => rfl) (fun v4_1 hv4_1 => ?_)
        obtain rfl : v4_1 = Int32.ofNat (gz_sn k h0 L L) := hv4_1.trans (by first | rfl | (simp only [Int32.ofNat_add, Int32.ofNat_mul]; rfl) | (simp only [Int32.ofNat_add, Int32.ofNat_mul]))
        refine gs_aload_n (pc := 25) (gd gk_6 14 rfl) rfl ?_
        refine gs_getR (r := 57) (pc := 26) (gd gk_6 15 rfl) rfl rfl rfl (by decide) ?_
        refine gs_iload (pc := 29) (gd gk_6 16 rfl) rfl ?_
        refine gs_iconst (pc := 31) (gd gk_6 17 rfl) (0) rfl ?_
        refine gs_callV (as := [.int (Int32.ofNat (gz_sn k h0 L L)), .int (0)]) (pc := 32) (gd gk_6 18 rfl) (by decide) rfl (by decide) rfl rfl (Nat.le_of_ble_eq_true rfl) gq_6_53 (Nat.le_of_ble_eq_true rfl) (c_take2 (Int32.ofNat (gz_sn k h0 L L)) 0 h1) (fun r_32 w_32 q_32 => ?_)
        obtain ⟨rfl, I_t, rfl, t1, t2, t3⟩ := q_32
        have hS2 : gz_S I_t = gz_S I := by rw [gq_wf_S t1]; exact hS1
        have b59 : I_t 59 = I 59 := by rw [t1.1 59 (by omega) (by omega) (by omega)]; exact h3
        have b6 : I_t 57 6 = I 57 6 := by rw [t1.2.2 6 (by omega) (by omega) (by omega)]; exact h4
        have bq : gq_qf I I_t := gq_qf_tr h2 (gq_qf_w t1)
        have hvk : I_t 79 L = hv (gz_sn k h0 L L) := by rw [(t3 L (Nat.le_refl L)).2.2.2.1, hS1, h3, h4, ← hval]
        have b81 : I_t 81 = I1 81 := t1.1 81 (by omega) (by omega) (by omega)
        have old : hv (gz_sn k h0 L L) ≠ told ∨ (f = true ∧ ∀ j, I1 81 1 = Int32.ofNat (gz_sn j h0 L L) → hv (gz_sn j h0 L L) = told → j < k → gq_le (gz_sn j h0 L L) (gz_sn k h0 L L)) → gw_E V 6 (4, [(0, .ref 81), (1, .int told), (2, .int (gz_b f)), (3, .int (Int32.ofNat (k + 1)))], [], gS n I_t J, 0, 0) (cq_only n I J N h0 L bc told) := fun hh => ih (k + 1) (by omega) I_t f t2 bq b59 b6 (fun hf => by
          obtain ⟨j, hj, e1, e2, e3⟩ := h5 hf
          refine ⟨j, by omega, by rw [b81]; exact e1, e2, fun i hi he => ?_⟩
          by_cases q : i = k
          · subst q
            rcases hh with hh | hh
            · exact absurd he hh
            · exact hh.2 j e1 e2 hj
          · exact e3 i (by omega) he) (fun hf i hi => by
          by_cases q : i = k
          · subst q
            rcases hh with hh | hh
            · exact hh
            · rw [hf] at hh; exact absurd hh.1 (by decide)
          · exact h6 hf i (by omega))
        have new : ∀ I3, hv (gz_sn k h0 L L) = told → (f = true → ∀ j, I1 81 1 = Int32.ofNat (gz_sn j h0 L L) → j < k → gq_le (gz_sn k h0 L L) (gz_sn j h0 L L)) → I3 = gw_u I_t 81 1 (Int32.ofNat (gz_sn k h0 L L)) → gw_E V 6 (4, [(0, .ref 81), (1, .int told), (2, .int (gz_b true)), (3, .int (Int32.ofNat (k + 1)))], [], gS n I3 J, 0, 0) (cq_only n I J N h0 L bc told) := fun I3 hh hl e3 => by
          have ho : ∀ p, p ≠ 81 → I3 p = I_t p := fun p hp => by rw [e3, gw_u_o hp]
          refine ih (k + 1) (by omega) I3 true (gq_wf_on (ho 57 (by omega)) ho t2) (gq_qf_tr bq ⟨fun p _ _ _ => ho p (by omega), by rw [ho 78 (by omega)], by rw [ho 79 (by omega)], ho 69 (by omega)⟩) (by rw [ho 59 (by omega)]; exact b59) (by rw [ho 57 (by omega)]; exact b6) (fun _ => ⟨k, by omega, by rw [e3, gw_u_s]; simp [upd], hh, fun i hi he => ?_⟩) (fun hf => by cases hf)
          by_cases q : i = k
          · subst q; exact .inr ⟨rfl, Nat.le_refl _⟩
          · cases f with
            | true =>
              obtain ⟨j, hj, e1, e2, e4⟩ := h5 rfl
              exact gq_le_tr (hl rfl j e1 hj) (e4 i (by omega) he)
            | false => exact absurd he (h6 rfl i (by omega))
        refine gs_aload_n (pc := 35) (gd gk_6 19 rfl) rfl ?_
        refine gs_getR (r := 57) (pc := 36) (gd gk_6 20 rfl) rfl rfl rfl (by decide) ?_
        refine gs_callV (as := []) (pc := 39) (gd gk_6 21 rfl) (by decide) rfl (by decide) rfl rfl (Nat.le_of_ble_eq_true rfl) gq_6_61 (Nat.le_of_ble_eq_true rfl) (c_had (L := L) t2.2.2.1 (by omega)) (fun r_39 w_39 q_39 => ?_)
        obtain ⟨rfl, rfl⟩ := q_39
        refine gs_iload_n (pc := 42) (gd gk_6 22 rfl) rfl ?_
        refine gs_icmp_ne (pc := 43) (gd gk_6 23 rfl) (fun c43 => ?_) (fun c43 => ?_)
        · refine gs_iinc (ls2 := fun v => [(0, .ref (81)), (1, .int (told)), (2, .int (gz_b f)), (3, .int (v)), (4, .int (Int32.ofNat (gz_sn k h0 L L)))]) (pc := 70) (gd gk_6 36 rfl) rfl (by rw [gL_6]; decide) (fun _ => rfl) (1) rfl (fun v3_1 hv3_1 => ?_)
          obtain rfl : v3_1 = Int32.ofNat (k + 1) := hv3_1.trans (by first | rfl | (simp only [Int32.ofNat_add, Int32.ofNat_mul]; rfl) | (simp only [Int32.ofNat_add, Int32.ofNat_mul]))
          refine gs_goto (pc := 73) (gd gk_6 37 rfl) ?_
          -- end 2: stop, pc 4, locals [(0, .ref (81)), (1, .int (told)), (2, .int (gz_b f)), (3, .int (Int32.ofNat (k + 1))), (4, .int (Int32.ofNat (gz_sn k h0 L L)))]
          refine gs_drop [0, 1, 2, 3] rfl (old (.inl ?_))
          rw [← hvk]; exact c43
        · refine gs_iload_n (pc := 46) (gd gk_6 24 rfl) rfl ?_
          refine gs_if_eq (pc := 47) (gd gk_6 25 rfl) (fun c47 => ?_) (fun c47 => ?_)
          · refine gs_aload_n (pc := 62) (gd gk_6 31 rfl) rfl ?_
            refine gs_iload (pc := 63) (gd gk_6 32 rfl) rfl ?_
            refine gs_putI (pc := 65) (gd gk_6 33 rfl) rfl rfl rfl rfl (fun I_1 hI_1 => ?_)
            refine gs_iconst (pc := 68) (gd gk_6 34 rfl) (1) rfl ?_
            refine gs_istore_n (ls2 := fun v => [(0, .ref (81)), (1, .int (told)), (2, .int (v)), (3, .int (Int32.ofNat k)), (4, .int (Int32.ofNat (gz_sn k h0 L L)))]) (pc := 69) (gd gk_6 35 rfl) (by rw [gL_6]; decide) (fun _ => rfl) (fun v2_1 hv2_1 => ?_)
            obtain rfl : v2_1 = Int32.ofNat 1 := hv2_1.trans (by first | rfl | (simp only [Int32.ofNat_add, Int32.ofNat_mul]; rfl) | (simp only [Int32.ofNat_add, Int32.ofNat_mul]))
            refine gs_iinc (ls2 := fun v => [(0, .ref (81)), (1, .int (told)), (2, .int (Int32.ofNat 1)), (3, .int (v)), (4, .int (Int32.ofNat (gz_sn k h0 L L)))]) (pc := 70) (gd gk_6 36 rfl) rfl (by rw [gL_6]; decide) (fun _ => rfl) (1) rfl (fun v3_2 hv3_2 => ?_)
            obtain rfl : v3_2 = Int32.ofNat (k + 1) := hv3_2.trans (by first | rfl | (simp only [Int32.ofNat_add, Int32.ofNat_mul]; rfl) | (simp only [Int32.ofNat_add, Int32.ofNat_mul]))
            refine gs_goto (pc := 73) (gd gk_6 37 rfl) ?_
            -- end 3: stop, pc 4, locals [(0, .ref (81)), (1, .int (told)), (2, .int (Int32.ofNat 1)), (3, .int (Int32.ofNat (k + 1))), (4, .int (Int32.ofNat (gz_sn k h0 L L)))]
            refine gs_drop [0, 1, 2, 3] rfl (new _ (by rw [← hvk]; exact c43) (fun hf => ?_) hI_1)
            rw [gz_b_eq.mp c47] at hf; cases hf
          · obtain ⟨j, hj, e1, e2, e3⟩ := h5 (gz_b_ne.mp c47)
            have hjs := (gz_se_sn h0 (by omega) L (by omega) (by omega) j (by omega)).2
            refine gs_iload (pc := 50) (gd gk_6 26 rfl) rfl ?_
            refine gs_aload_n (pc := 52) (gd gk_6 27 rfl) rfl ?_
            refine gs_getI (pc := 53) (gd gk_6 28 rfl) rfl rfl ?_
            refine gs_as ((Int32.ofNat (gz_sn j h0 L L))) ((by rw [b81]; exact e1)) ?_
            refine gs_callS (as := [.int (Int32.ofNat (gz_sn k h0 L L)), .int ((Int32.ofNat (gz_sn j h0 L L)))]) (pc := 56) (gd gk_6 29 rfl) (by decide) rfl rfl (Nat.le_of_ble_eq_true rfl) gq_6_7 (Nat.le_of_ble_eq_true rfl) (c_small (gz_sn k h0 L L) (gz_sn j h0 L L) hsn.2 hjs) (fun r_56 w_56 q_56 => ?_)
            obtain ⟨rfl, rfl⟩ := q_56
            refine gs_if_eq (pc := 59) (gd gk_6 30 rfl) (fun c59 => ?_) (fun c59 => ?_)
            · refine gs_iinc (ls2 := fun v => [(0, .ref (81)), (1, .int (told)), (2, .int (gz_b f)), (3, .int (v)), (4, .int (Int32.ofNat (gz_sn k h0 L L)))]) (pc := 70) (gd gk_6 36 rfl) rfl (by rw [gL_6]; decide) (fun _ => rfl) (1) rfl (fun v3_3 hv3_3 => ?_)
              obtain rfl : v3_3 = Int32.ofNat (k + 1) := hv3_3.trans (by first | rfl | (simp only [Int32.ofNat_add, Int32.ofNat_mul]; rfl) | (simp only [Int32.ofNat_add, Int32.ofNat_mul]))
              refine gs_goto (pc := 73) (gd gk_6 37 rfl) ?_
              -- end 4: stop, pc 4, locals [(0, .ref (81)), (1, .int (told)), (2, .int (gz_b f)), (3, .int (Int32.ofNat (k + 1))), (4, .int (Int32.ofNat (gz_sn k h0 L L)))]
              refine gs_drop [0, 1, 2, 3] rfl (old (.inr ⟨gz_b_ne.mp c47, fun j2 q1 q2 q3 => ?_⟩))
              have hb := gz_b_eq.mp c59
              simp only [gz_sm, decide_eq_false_iff_not] at hb
              have : gz_sn j h0 L L = gz_sn j2 h0 L L := zinj hjs (gz_se_sn h0 (by omega) L (by omega) (by omega) j2 (by omega)).2 (e1.symm.trans q1)
              rw [← this]; unfold gq_le; omega
            · refine gs_aload_n (pc := 62) (gd gk_6 31 rfl) rfl ?_
              refine gs_iload (pc := 63) (gd gk_6 32 rfl) rfl ?_
              refine gs_putI (pc := 65) (gd gk_6 33 rfl) rfl rfl rfl rfl (fun I_2 hI_2 => ?_)
              refine gs_iconst (pc := 68) (gd gk_6 34 rfl) (1) rfl ?_
              refine gs_istore_n (ls2 := fun v => [(0, .ref (81)), (1, .int (told)), (2, .int (v)), (3, .int (Int32.ofNat k)), (4, .int (Int32.ofNat (gz_sn k h0 L L)))]) (pc := 69) (gd gk_6 35 rfl) (by rw [gL_6]; decide) (fun _ => rfl) (fun v2_2 hv2_2 => ?_)
              obtain rfl : v2_2 = Int32.ofNat 1 := hv2_2.trans (by first | rfl | (simp only [Int32.ofNat_add, Int32.ofNat_mul]; rfl) | (simp only [Int32.ofNat_add, Int32.ofNat_mul]))
              refine gs_iinc (ls2 := fun v => [(0, .ref (81)), (1, .int (told)), (2, .int (Int32.ofNat 1)), (3, .int (v)), (4, .int (Int32.ofNat (gz_sn k h0 L L)))]) (pc := 70) (gd gk_6 36 rfl) rfl (by rw [gL_6]; decide) (fun _ => rfl) (1) rfl (fun v3_4 hv3_4 => ?_)
              obtain rfl : v3_4 = Int32.ofNat (k + 1) := hv3_4.trans (by first | rfl | (simp only [Int32.ofNat_add, Int32.ofNat_mul]; rfl) | (simp only [Int32.ofNat_add, Int32.ofNat_mul]))
              refine gs_goto (pc := 73) (gd gk_6 37 rfl) ?_
              -- end 5: stop, pc 4, locals [(0, .ref (81)), (1, .int (told)), (2, .int (Int32.ofNat 1)), (3, .int (Int32.ofNat (k + 1))), (4, .int (Int32.ofNat (gz_sn k h0 L L)))]
              refine gs_drop [0, 1, 2, 3] rfl (new _ (by rw [← hvk]; exact c43) (fun hf j2 q1 q3 => ?_) hI_2)
              have hb := gz_b_ne.mp c59
              simp only [gz_sm, decide_eq_true_eq] at hb
              have : gz_sn j h0 L L = gz_sn j2 h0 L L := zinj hjs (gz_se_sn h0 (by omega) L (by omega) (by omega) j2 (by omega)).2 (e1.symm.trans q1)
              rw [← this]; unfold gq_le; omega
  refine gs_iconst (pc := 0) (gd gk_6 0 rfl) (0) rfl ?_
  refine gs_istore_n (ls2 := fun v => [(0, .ref (81)), (1, .int (told)), (2, .int (v))]) (pc := 1) (gd gk_6 1 rfl) (by rw [gL_6]; decide) (fun _ => rfl) (fun v2_1 hv2_1 => ?_)
  obtain rfl : v2_1 = Int32.ofNat 0 := hv2_1.trans (by first | rfl | (simp only [Int32.ofNat_add, Int32.ofNat_mul]; rfl) | (simp only [Int32.ofNat_add, Int32.ofNat_mul]))
  refine gs_iconst (pc := 2) (gd gk_6 2 rfl) (0) rfl ?_
  refine gs_istore_n (ls2 := fun v => [(0, .ref (81)), (1, .int (told)), (2, .int (Int32.ofNat 0)), (3, .int (v))]) (pc := 3) (gd gk_6 3 rfl) (by rw [gL_6]; decide) (fun _ => rfl) (fun v3_1 hv3_1 => ?_)
  obtain rfl : v3_1 = Int32.ofNat 0 := hv3_1.trans (by first | rfl | (simp only [Int32.ofNat_add, Int32.ofNat_mul]; rfl) | (simp only [Int32.ofNat_add, Int32.ofNat_mul]))
  -- end 1: stop, pc 4, locals [(0, .ref (81)), (1, .int (told)), (2, .int (Int32.ofNat 0)), (3, .int (Int32.ofNat 0))]
  exact lp (2 ^ L) 0 (by omega) I false hon ⟨fun _ _ _ _ => rfl, rfl, rfl, rfl⟩ rfl rfl (fun h => by cases h) (fun _ i hi => absurd hi (Nat.not_lt_zero _))
section
variable {V : gw_V} {n W N h0 L bc : Nat} {I : Nat → Nat → Int32} {J : Nat → Nat → Int64}
/-- the answer of only, in the words of both -/
def gq_oa (hv : Nat → Int32) (told : Int32) (N h0 L : Nat) (x : Int32) : Prop := if gz_rg told 0 (Int32.ofNat (2 ^ N) - 1) then (∃ p, x = Int32.ofNat p ∧ gq_onl hv told h0 L p) ∨ (x = -99 ∧ ∀ q, gz_su q h0 L → hv q ≠ told) else x = -2
theorem gz_shl6 : ∀ N, N < 7 → (1 : Int32) <<< (Int32.ofNat N &&& 31) = Int32.ofNat (2 ^ N) := by decide +kernel
theorem gz_rgN {N : Nat} (h : N ≤ 6) (t : Int32) : gz_rg t 0 (Int32.ofNat (2 ^ N) - 1) = decide (0 ≤ t ∧ t < 1 <<< (Int32.ofNat N &&& 31)) := by
  rw [gz_shl6 N (by omega)]
  have e1 : (Int32.ofNat (2 ^ N)).toInt = 2 ^ N ∧ (Int32.ofNat (2 ^ N) - 1).toInt = 2 ^ N - 1 := by
    rcases (by omega : N = 0 ∨ N = 1 ∨ N = 2 ∨ N = 3 ∨ N = 4 ∨ N = 5 ∨ N = 6) with rfl | rfl | rfl | rfl | rfl | rfl | rfl <;> decide
  unfold gz_rg
  congr 1
  rw [Int32.le_iff_toInt_le, Int32.le_iff_toInt_le, Int32.lt_iff_toInt_lt, e1.1, e1.2]
  exact propext ⟨fun q => ⟨q.1, by omega⟩, fun q => ⟨q.1, by omega⟩⟩
theorem c_only (told : Int32) (hn : gq_now I W N h0 L bc) : gw_E V 81 (0, [(0, .ref 3), (1, .int told)], [], gS n I J, 0, 0) (fun v w' => ∃ I2 x, w' = gS n I2 J ∧ gq_qf I I2 ∧ gq_oa (gq_hv (gz_S I) N h0 L bc (I 12 1) (I 13)) told N h0 L x ∧ v = some (.int x)) := by
  obtain ⟨hok, hh, hW, hbc, hb9, h78, h79, h69⟩ := hn
  have hN : I 6 4 = Int32.ofNat N := hok.2.2.1
  have hN6 : N ≤ 6 := hok.2.2.2.1
  refine gs_iload_n (pc := 0) (gd gk_81 0 rfl) rfl ?_
  refine gs_if_lt (pc := 1) (gd gk_81 1 rfl) (fun c1 => ?_) (fun c1 => ?_)
  · refine gs_bipush (pc := 17) (gd gk_81 9 rfl) (-2) rfl ?_
    -- end 1: ireturn (-2), pc 19, locals [(0, .ref (3)), (1, .int (told))]
    exact gs_iret (pc := 19) (gd gk_81 10 rfl) rfl (rfl) (Nat.zero_le _) (Nat.zero_le _) (⟨I, -2, rfl, ⟨fun _ _ _ _ => rfl, rfl, rfl, rfl⟩, by
      unfold gq_oa
      rw [gz_rgN hN6, if_neg (by intro q; have q := of_decide_eq_true q; exact absurd c1 (Int32.not_lt.mpr q.1))], rfl⟩)
  · refine gs_iload_n (pc := 4) (gd gk_81 2 rfl) rfl ?_
    refine gs_iconst (pc := 5) (gd gk_81 3 rfl) (1) rfl ?_
    refine gs_aload_n (pc := 6) (gd gk_81 4 rfl) rfl ?_
    refine gs_getR (r := 6) (pc := 7) (gd gk_81 5 rfl) rfl rfl rfl (by decide) ?_
    refine gs_getI (pc := 10) (gd gk_81 6 rfl) rfl rfl ?_
    refine gs_as (Int32.ofNat N) (hN) ?_
    refine gs_ishl (pc := 13) (gd gk_81 7 rfl) ?_
    refine gs_icmp_lt (pc := 14) (gd gk_81 8 rfl) (fun c14 => ?_) (fun c14 => ?_)
    · refine gs_aload_n (pc := 20) (gd gk_81 11 rfl) rfl ?_
      refine gs_getR (r := 57) (pc := 21) (gd gk_81 12 rfl) rfl rfl rfl (by decide) ?_
      refine gs_aload_n (pc := 24) (gd gk_81 13 rfl) rfl ?_
      refine gs_getR (r := 12) (pc := 25) (gd gk_81 14 rfl) rfl rfl rfl (by decide) ?_
      refine gs_aload_n (pc := 28) (gd gk_81 15 rfl) rfl ?_
      refine gs_getR (r := 6) (pc := 29) (gd gk_81 16 rfl) rfl rfl rfl (by decide) ?_
      refine gs_getI (pc := 32) (gd gk_81 17 rfl) rfl rfl ?_
      refine gs_as (Int32.ofNat bc) (hbc) ?_
      refine gs_callV (as := [.ref (12), .int (Int32.ofNat bc)]) (pc := 35) (gd gk_81 18 rfl) (by decide) rfl (by decide) rfl rfl (Nat.le_of_ble_eq_true rfl) gq_81_50 (Nat.le_of_ble_eq_true rfl) (c_start_now bc h0 L hok hh hW hb9 h78 h79 h69) (fun r_35 w_35 q_35 => ?_)
      obtain ⟨rfl, I_s, rfl, s1, s2, s3, s4⟩ := q_35
      refine gs_aload_n (pc := 38) (gd gk_81 19 rfl) rfl ?_
      refine gs_getR (r := 81) (pc := 39) (gd gk_81 20 rfl) rfl rfl rfl (by decide) ?_
      refine gs_iload_n (pc := 42) (gd gk_81 21 rfl) rfl ?_
      refine gs_callV (as := [.int (told)]) (pc := 43) (gd gk_81 22 rfl) (by decide) rfl (by decide) rfl rfl (Nat.le_of_ble_eq_true rfl) gq_81_6 (Nat.le_of_ble_eq_true rfl) (c_findOnly told s2) (fun r_43 w_43 q_43 => ?_)
      obtain ⟨I_t, f, rfl, rfl, t1, t2, t3⟩ := q_43
      rw [gq_qf_S (gq_qf_s s1), s3, gq_hv_c s4 (gq_ok_n hok)] at t2 t3
      refine gs_if_eq (pc := 46) (gd gk_81 23 rfl) (fun c46 => ?_) (fun c46 => ?_)
      · refine gs_bipush (pc := 59) (gd gk_81 28 rfl) (-99) rfl ?_
        -- end 2: ireturn (-99), pc 61, locals [(0, .ref (3)), (1, .int (told))]
        have hr : gz_rg told 0 (Int32.ofNat (2 ^ N) - 1) = true := by rw [gz_rgN hN6]; exact decide_eq_true ⟨Int32.not_lt.mp c1, c14⟩
        exact gs_iret (pc := 61) (gd gk_81 29 rfl) rfl (rfl) (Nat.zero_le _) (Nat.zero_le _) (⟨I_t, -99, rfl, gq_qf_tr (gq_qf_s s1) t1, by
          unfold gq_oa
          rw [if_pos hr]
          exact .inr ⟨rfl, t3 (gz_b_eq.mp c46)⟩, rfl⟩)
      · refine gs_aload_n (pc := 49) (gd gk_81 24 rfl) rfl ?_
        refine gs_getR (r := 81) (pc := 50) (gd gk_81 25 rfl) rfl rfl rfl (by decide) ?_
        refine gs_getI (pc := 53) (gd gk_81 26 rfl) rfl rfl ?_
        refine gs_goto (pc := 56) (gd gk_81 27 rfl) ?_
        -- end 3: ireturn (I_t 81 1), pc 61, locals [(0, .ref (3)), (1, .int (told))]
        have hr : gz_rg told 0 (Int32.ofNat (2 ^ N) - 1) = true := by rw [gz_rgN hN6]; exact decide_eq_true ⟨Int32.not_lt.mp c1, c14⟩
        exact gs_iret (pc := 61) (gd gk_81 29 rfl) rfl (rfl) (Nat.zero_le _) (Nat.zero_le _) (⟨I_t, _, rfl, gq_qf_tr (gq_qf_s s1) t1, by
          unfold gq_oa
          rw [if_pos hr]
          exact .inl (t2 (gz_b_ne.mp c46)), rfl⟩)
    · refine gs_bipush (pc := 17) (gd gk_81 9 rfl) (-2) rfl ?_
      -- end 4: ireturn (-2), pc 19, locals [(0, .ref (3)), (1, .int (told))]
      exact gs_iret (pc := 19) (gd gk_81 10 rfl) rfl (rfl) (Nat.zero_le _) (Nat.zero_le _) (⟨I, -2, rfl, ⟨fun _ _ _ _ => rfl, rfl, rfl, rfl⟩, by
        unfold gq_oa
        rw [gz_rgN hN6, if_neg (by intro q; have q := of_decide_eq_true q; exact absurd q.2 c14)], rfl⟩)
/-- one chimney turned -/
abbrev gq_tc (ch : Int32) (c : Nat) : Int32 := ch ^^^ (1 <<< (Int32.ofNat c &&& 31))
/-- what comes by the best plan, and the best chimney of the first k: in the words of both -/
def gq_bv (val : Nat → Int32) (h0 L : Nat) (x : Int32) : Prop := ∃ p, gq_bst val h0 L p ∧ x = val p
theorem gq_bv_one {val : Nat → Int32} {h0 L : Nat} {x y : Int32} (h1 : gq_bv val h0 L x) (h2 : gq_bv val h0 L y) : x = y := by
  obtain ⟨p, a1, a2⟩ := h1
  obtain ⟨q, b1, b2⟩ := h2
  rw [a2, b2, gq_bst_one a1 b1]
def gq_bc (val : Nat → Int32) (valc : Nat → Nat → Int32) (h0 L : Nat) : Nat → Int32 → Int32 → Prop
  | 0, x, f => gq_bv val h0 L x ∧ f = -99
  | k + 1, x, f => ∃ x0 f0 y, gq_bc val valc h0 L k x0 f0 ∧ gq_bv (valc k) h0 L y ∧ x = (if x0 < y then y else x0) ∧ f = (if x0 < y then Int32.ofNat k else f0)
theorem gq_bc_one {val : Nat → Int32} {valc : Nat → Nat → Int32} {h0 L : Nat} : ∀ {k : Nat} {x y f g : Int32}, gq_bc val valc h0 L k x f → gq_bc val valc h0 L k y g → x = y ∧ f = g
  | 0, x, y, f, g, h1, h2 => ⟨gq_bv_one h1.1 h2.1, h1.2.trans h2.2.symm⟩
  | k + 1, x, y, f, g, h1, h2 => by
    obtain ⟨x0, f0, z, a1, a2, a3, a4⟩ := h1
    obtain ⟨x1, f1, z1, b1, b2, b3, b4⟩ := h2
    obtain ⟨rfl, rfl⟩ := gq_bc_one a1 b1
    obtain rfl := gq_bv_one a2 b2
    exact ⟨a3.trans b3.symm, a4.trans b4.symm⟩
/-- a morning of the class at a -/
def gz_mo (a : Nat) : Prop := ∀ n I J, gw_T (gS n I J) a = 3 ∧ gs_r a 0 = a + 1 ∧ gw_T (gS n I J) (a + 1) = 12 ∧ gw_N (gS n I J) (a + 1) = 10
theorem gz_mo_12 : gz_mo 12 := fun _ _ _ => ⟨rfl, rfl, rfl, rfl⟩
theorem gz_mo_14 : gz_mo 14 := fun _ _ _ => ⟨rfl, rfl, rfl, rfl⟩
theorem gz_mo_a : ∀ k, k < 14 → gz_mo (18 + 2 * k) := by
  have h : ∀ k, k < 14 → (gs_s0.getD (17 + 2 * k) (99, 0)).1 = 3 ∧ gs_r (18 + 2 * k) 0 = 19 + 2 * k ∧ (gs_s0.getD (18 + 2 * k) (99, 0)) = (12, 10) := by decide +kernel
  intro k hk n I J
  obtain ⟨a, b, c⟩ := h k hk
  refine ⟨?_, by rw [b]; omega, ?_, ?_⟩
  · rw [show 18 + 2 * k = (17 + 2 * k) + 1 by omega]; exact a
  · show ((gs_s n).getD _ _).1 = _
    show (gs_s0.getD (18 + 2 * k) (99, 0)).1 = 12
    rw [c]
  · show (gs_s0.getD (18 + 2 * k) (99, 0)).2 = 10
    rw [c]
theorem gz_mo_s : ∀ k, k < 2 → gz_mo (49 + 2 * k) := by
  intro k hk
  rcases (by omega : k = 0 ∨ k = 1) with rfl | rfl
  · exact fun _ _ _ => ⟨rfl, rfl, rfl, rfl⟩
  · exact fun _ _ _ => ⟨rfl, rfl, rfl, rfl⟩
theorem c_copy (a b : Nat) (ha : gz_mo a) (hb : gz_mo b) (hab : a ≠ b) (hab1 : a + 1 ≠ b) (hba1 : b + 1 ≠ a) : gw_E V 15 (0, [(0, .ref a), (1, .ref b)], [], gS n I J, 0, 0) (fun v w' => v = none ∧ ∃ I2, w' = gS n I2 J ∧ (∀ c, c < 10 → I2 (a + 1) c = I (b + 1) c) ∧ I2 a 1 = I b 1 ∧ I2 a 2 = I b 2 ∧ I2 a 3 = I b 3 ∧ ∀ p, p ≠ a → p ≠ a + 1 → I2 p = I p) := by
  refine gs_aload_n (pc := 0) (gd gk_15 0 rfl) rfl ?_
  refine gs_getR (r := b + 1) (pc := 1) (gd gk_15 1 rfl) (hb _ _ _).1 rfl (hb n I J).2.1 (by omega) ?_
  refine gs_iconst (pc := 4) (gd gk_15 2 rfl) (0) rfl ?_
  refine gs_aload_n (pc := 5) (gd gk_15 3 rfl) rfl ?_
  refine gs_getR (r := a + 1) (pc := 6) (gd gk_15 4 rfl) (ha _ _ _).1 rfl (ha n I J).2.1 (by omega) ?_
  refine gs_iconst (pc := 9) (gd gk_15 5 rfl) (0) rfl ?_
  refine gs_bipush (pc := 10) (gd gk_15 6 rfl) (10) rfl ?_
  refine gs_copy gs_sl (pc := 12) (gd gk_15 7 rfl) (by decide) (by decide) (Nat.le_of_ble_eq_true rfl) (hb _ _ _).2.2.1 (ha _ _ _).2.2.1 (by decide) (by decide) (by decide) (by rw [(hb n I J).2.2.2]; decide) (by rw [(ha n I J).2.2.2]; decide) (fun I_1 hI_1 => ?_)
  refine gs_aload_n (pc := 15) (gd gk_15 8 rfl) rfl ?_
  refine gs_aload_n (pc := 16) (gd gk_15 9 rfl) rfl ?_
  refine gs_getI (pc := 17) (gd gk_15 10 rfl) (hb _ _ _).1 rfl ?_
  refine gs_putI (pc := 20) (gd gk_15 11 rfl) (ha _ _ _).1 rfl rfl rfl (fun I_2 hI_2 => ?_)
  refine gs_aload_n (pc := 23) (gd gk_15 12 rfl) rfl ?_
  refine gs_aload_n (pc := 24) (gd gk_15 13 rfl) rfl ?_
  refine gs_getI (pc := 25) (gd gk_15 14 rfl) (hb _ _ _).1 rfl ?_
  refine gs_putI (pc := 28) (gd gk_15 15 rfl) (ha _ _ _).1 rfl rfl rfl (fun I_3 hI_3 => ?_)
  refine gs_aload_n (pc := 31) (gd gk_15 16 rfl) rfl ?_
  refine gs_aload_n (pc := 32) (gd gk_15 17 rfl) rfl ?_
  refine gs_getI (pc := 33) (gd gk_15 18 rfl) (hb _ _ _).1 rfl ?_
  refine gs_putI (pc := 36) (gd gk_15 19 rfl) (ha _ _ _).1 rfl rfl rfl (fun I_4 hI_4 => ?_)
  have e1 : ∀ p, p ≠ a + 1 → I_1 p = I p := fun p hp => by rw [hI_1]; funext z; simp [gw_cp, hp]
  have e2 : ∀ c, c < 10 → I_1 (a + 1) c = I (b + 1) c := fun c hc => by
    have z0 : (0 : Int32).toNatClampNeg = 0 := rfl
    have z10 : (10 : Int32).toNatClampNeg = 10 := rfl
    rw [hI_1]
    simp [gw_cp, va_cpy, z0, z10, hc]
  have e4 : ∀ p, p ≠ a → I_4 p = I_1 p := fun p hp => by rw [hI_4, gw_u_o hp, hI_3, gw_u_o hp, hI_2, gw_u_o hp]
  have eb : I_1 b = I b := e1 b (by omega)
  have e3 : I_4 a 1 = I b 1 ∧ I_4 a 2 = I b 2 ∧ I_4 a 3 = I b 3 := by
    refine ⟨?_, ?_, ?_⟩ <;> subst hI_4 hI_3 hI_2 <;> simp [gw_u, eb, (Ne.symm hab)]
  exact gs_ret (pc := 39) (gd gk_15 20 rfl) rfl (Nat.zero_le _) (Nat.zero_le _) ⟨rfl, I_4, rfl, fun c hc => by rw [e4 _ (by omega)]; exact e2 c hc, e3.1, e3.2.1, e3.2.2, fun p q1 q2 => (e4 p q1).trans (e1 p q2)⟩
end
end
section
/-! ===== the class: bestChimney ===== -/
section
variable {V : gw_V} {n W N h0 L bc : Nat} {I : Nat → Nat → Int32} {J : Nat → Nat → Int64}
theorem c_start_sup2 (bc h0 L : Nat) (hn : gq_now I W N h0 L bc) (h14 : I 14 3 = Int32.ofNat h0) : gw_E V 50 (0, [(0, .ref 57), (1, .ref 14), (2, .int (Int32.ofNat bc))], [], gS n I J, 0, 0)
    (fun v w' => v = none ∧ ∃ I2, w' = gS n I2 J ∧ gq_sf I I2 ∧ gq_on I2 W N h0 L bc ∧ I2 57 6 = I 14 1 ∧ ∀ c, c < 10 → I2 59 c = I 15 c) := by
  obtain ⟨hok, hh, hW, hbc, hb9, h78, h79, h69⟩ := hn
  exact c_start_sup bc h0 L hok h14 hW hb9 h78 h79 h69
abbrev cq_bch (n : Nat) (I : Nat → Nat → Int32) (J : Nat → Nat → Int64) (N h0 L bc : Nat) : Option Value → gw_W → Prop := fun v w' => ∃ I2 x f, w' = gS n I2 J ∧ gq_qf I I2 ∧ gq_bc (gq_val (gz_S I) N h0 L bc (I 12 1) (I 13) (fun _ => true)) (fun c => gq_val (gz_S I) N h0 L bc (gq_tc (I 12 1) c) (I 13) (fun _ => true)) h0 L 10 x f ∧ v = some (.int f)
theorem c_bestChimney (hn : gq_now I W N h0 L bc) : gw_E V 77 (0, [(0, .ref 3)], [], gS n I J, 0, 0) (cq_bch n I J N h0 L bc) := by
  generalize hval : gq_val (gz_S I) N h0 L bc (I 12 1) (I 13) (fun _ => true) = val
  generalize hvalc : (fun c => gq_val (gz_S I) N h0 L bc (gq_tc (I 12 1) c) (I 13) (fun _ => true)) = valc
  have lp : ∀ (m k : Nat), m + k = 10 → ∀ I1 x f, gq_qf I I1 → gq_bc val valc h0 L k x f → gw_E V 77 (11, [(0, .ref 3), (1, .int x), (2, .int f), (3, .int (Int32.ofNat k))], [], gS n I1 J, 0, 0) (cq_bch n I J N h0 L bc) := by
    intro m
    induction m with
    | zero =>
      intro k hk I1 x f h1 h2
      obtain rfl : k = 10 := by omega
      refine gs_iload_n (pc := 11) (gd gk_77 8 rfl) rfl ?_
      refine gs_bipush (pc := 12) (gd gk_77 9 rfl) (10) rfl ?_
      refine gs_icmp_ge (pc := 14) (gd gk_77 10 rfl) (fun c14 => ?_) (fun c14 => ?_)
      · replace c14 : 10 ≤ 10 := (zle (k := 10) (m := 10) (by omega) (by omega)).mp c14
        refine gs_iload_n (pc := 95) (gd gk_77 49 rfl) rfl ?_
        -- end 1: ireturn f, pc 96, locals [(0, .ref (3)), (1, .int (x)), (2, .int (f)), (3, .int (Int32.ofNat 10))]
        exact gs_iret (pc := 96) (gd gk_77 50 rfl) rfl (rfl) (Nat.zero_le _) (Nat.zero_le _) (⟨I1, x, f, rfl, h1, by rw [hval, hvalc]; exact h2, rfl⟩)
      · replace c14 : ¬ (10 ≤ 10) := fun q9 => c14 ((zle (k := 10) (m := 10) (by omega) (by omega)).mpr q9)
        -- end 2: stop, pc 17, locals [(0, .ref (3)), (1, .int (x)), (2, .int (f)), (3, .int (Int32.ofNat 10))]
        exact absurd (by decide) c14
    | succ m ih =>
      intro k hk I1 x f h1 h2
      have hn1 := gq_now_qf h1 hn
      have hbc1 : I1 6 0 = Int32.ofNat bc := hn1.2.2.2.1
      have hh1 : I1 12 3 = Int32.ofNat h0 := hn1.2.1
      refine gs_iload_n (pc := 11) (gd gk_77 8 rfl) rfl ?_
      refine gs_bipush (pc := 12) (gd gk_77 9 rfl) (10) rfl ?_
      refine gs_icmp_ge (pc := 14) (gd gk_77 10 rfl) (fun c14 => ?_) (fun c14 => ?_)
      · replace c14 : 10 ≤ k := (zle (k := 10) (m := k) (by omega) (by omega)).mp c14
        refine gs_iload_n (pc := 95) (gd gk_77 49 rfl) rfl ?_
        -- end 1: ireturn f, pc 96, locals [(0, .ref (3)), (1, .int (x)), (2, .int (f)), (3, .int (Int32.ofNat k))]
        exact absurd c14 (by omega)
      · replace c14 : ¬ (10 ≤ k) := fun q9 => c14 ((zle (k := 10) (m := k) (by omega) (by omega)).mpr q9)
        refine gs_aload_n (pc := 17) (gd gk_77 11 rfl) rfl ?_
        refine gs_getR (r := 14) (pc := 18) (gd gk_77 12 rfl) rfl rfl rfl (by decide) ?_
        refine gs_aload_n (pc := 21) (gd gk_77 13 rfl) rfl ?_
        refine gs_getR (r := 12) (pc := 22) (gd gk_77 14 rfl) rfl rfl rfl (by decide) ?_
        refine gs_callV (as := [.ref (12)]) (pc := 25) (gd gk_77 15 rfl) (by decide) rfl (by decide) rfl rfl (Nat.le_of_ble_eq_true rfl) gq_77_15 (Nat.le_of_ble_eq_true rfl) (c_copy 14 12 gz_mo_14 gz_mo_12 (by omega) (by omega) (by omega)) (fun r_25 w_25 q_25 => ?_)
        obtain ⟨rfl, I_c, rfl, d2, d3, d4, d5, d6⟩ := q_25
        refine gs_aload_n (pc := 28) (gd gk_77 16 rfl) rfl ?_
        refine gs_getR (r := 14) (pc := 29) (gd gk_77 17 rfl) rfl rfl rfl (by decide) ?_
        refine gs_dup (pc := 32) (gd gk_77 18 rfl) rfl ?_
        refine gs_getI (pc := 33) (gd gk_77 19 rfl) rfl rfl ?_
        refine gs_iconst (pc := 36) (gd gk_77 20 rfl) (1) rfl ?_
        refine gs_iload_n (pc := 37) (gd gk_77 21 rfl) rfl ?_
        refine gs_ishl (pc := 38) (gd gk_77 22 rfl) ?_
        refine gs_ixor (pc := 39) (gd gk_77 23 rfl) ?_
        refine gs_putI (pc := 40) (gd gk_77 24 rfl) rfl rfl rfl rfl (fun I_1 hI_1 => ?_)
        have ho : ∀ p, p ≠ 14 → p ≠ 15 → I_1 p = I1 p := fun p q1 q2 => by rw [hI_1, gw_u_o q1, d6 p q1 q2]
        have hq1 : gq_qf I1 I_1 := ⟨fun p _ a b => ho p a b, by rw [ho 78 (by omega) (by omega)], by rw [ho 79 (by omega) (by omega)], ho 69 (by omega) (by omega)⟩
        have hn2 := gq_now_qf hq1 hn1
        have h6 : I_1 6 0 = Int32.ofNat bc := hn2.2.2.2.1
        have h14 : I_1 14 3 = Int32.ofNat h0 := by rw [hI_1, gw_u_s]; simp [upd]; rw [d5]; exact hh1
        have h141 : I_1 14 1 = gq_tc (I 12 1) k := by rw [hI_1, gw_u_s]; simp [upd]; rw [d3, h1.1 12 (by omega) (by omega) (by omega)]
        have h15 : ∀ c, c < 10 → I_1 15 c = I 13 c := fun c hc => by rw [hI_1, gw_u_o (by omega), d2 c hc, h1.1 13 (by omega) (by omega) (by omega)]
        refine gs_aload_n (pc := 43) (gd gk_77 25 rfl) rfl ?_
        refine gs_getR (r := 57) (pc := 44) (gd gk_77 26 rfl) rfl rfl rfl (by decide) ?_
        refine gs_aload_n (pc := 47) (gd gk_77 27 rfl) rfl ?_
        refine gs_getR (r := 14) (pc := 48) (gd gk_77 28 rfl) rfl rfl rfl (by decide) ?_
        refine gs_aload_n (pc := 51) (gd gk_77 29 rfl) rfl ?_
        refine gs_getR (r := 6) (pc := 52) (gd gk_77 30 rfl) rfl rfl rfl (by decide) ?_
        refine gs_getI (pc := 55) (gd gk_77 31 rfl) rfl rfl ?_
        refine gs_as (Int32.ofNat bc) (h6) ?_
        refine gs_callV (as := [.ref (14), .int (Int32.ofNat bc)]) (pc := 58) (gd gk_77 32 rfl) (by decide) rfl (by decide) rfl rfl (Nat.le_of_ble_eq_true rfl) gq_77_50 (Nat.le_of_ble_eq_true rfl) (c_start_sup2 bc h0 L hn2 h14) (fun r_58 w_58 q_58 => ?_)
        obtain ⟨rfl, I_s, rfl, s1, s2, s3, s4⟩ := q_58
        refine gs_aload_n (pc := 61) (gd gk_77 33 rfl) rfl ?_
        refine gs_getR (r := 81) (pc := 62) (gd gk_77 34 rfl) rfl rfl rfl (by decide) ?_
        refine gs_callV (as := []) (pc := 65) (gd gk_77 35 rfl) (by decide) rfl (by decide) rfl rfl (Nat.le_of_ble_eq_true rfl) gq_77_5 (Nat.le_of_ble_eq_true rfl) (c_findBest s2) (fun r_65 w_65 q_65 => ?_)
        obtain ⟨rfl, I_t, p, rfl, t1, t2, t3, t4⟩ := q_65
        have hS : gz_S I_s = gz_S I := by rw [gq_qf_S (gq_qf_s s1), gq_qf_S hq1, gq_qf_S h1]
        rw [hS, s3, h141, gq_val_c (fun c hc => (s4 c hc).trans (h15 c hc)) (gq_ok_n hn.1)] at t3 t4
        have hv : gq_bv (valc k) h0 L (I_t 81 2) := by rw [← hvalc]; exact ⟨p, t4, t3⟩
        have hqt := gq_qf_tr h1 (gq_qf_tr hq1 (gq_qf_tr (gq_qf_s s1) t1))
        refine gs_aload_n (pc := 68) (gd gk_77 36 rfl) rfl ?_
        refine gs_getR (r := 81) (pc := 69) (gd gk_77 37 rfl) rfl rfl rfl (by decide) ?_
        refine gs_getI (pc := 72) (gd gk_77 38 rfl) rfl rfl ?_
        refine gs_iload_n (pc := 75) (gd gk_77 39 rfl) rfl ?_
        refine gs_icmp_le (pc := 76) (gd gk_77 40 rfl) (fun c76 => ?_) (fun c76 => ?_)
        · refine gs_iinc (ls2 := fun v => [(0, .ref (3)), (1, .int (x)), (2, .int (f)), (3, .int (v))]) (pc := 89) (gd gk_77 47 rfl) rfl (by rw [gL_77]; decide) (fun _ => rfl) (1) rfl (fun v3_1 hv3_1 => ?_)
          obtain rfl : v3_1 = Int32.ofNat (k + 1) := hv3_1.trans (by first | rfl | (simp only [Int32.ofNat_add, Int32.ofNat_mul]; rfl) | (simp only [Int32.ofNat_add, Int32.ofNat_mul]))
          refine gs_goto (pc := 92) (gd gk_77 48 rfl) ?_
          -- end 2: stop, pc 11, locals [(0, .ref (3)), (1, .int (x)), (2, .int (f)), (3, .int (Int32.ofNat (k + 1)))]
          exact ih (k + 1) (by omega) I_t x f hqt ⟨x, f, _, h2, hv, by rw [if_neg (Int32.not_lt.mpr c76)], by rw [if_neg (Int32.not_lt.mpr c76)]⟩
        · refine gs_aload_n (pc := 79) (gd gk_77 41 rfl) rfl ?_
          refine gs_getR (r := 81) (pc := 80) (gd gk_77 42 rfl) rfl rfl rfl (by decide) ?_
          refine gs_getI (pc := 83) (gd gk_77 43 rfl) rfl rfl ?_
          refine gs_istore_n (ls2 := fun v => [(0, .ref (3)), (1, .int (v)), (2, .int (f)), (3, .int (Int32.ofNat k))]) (pc := 86) (gd gk_77 44 rfl) (by rw [gL_77]; decide) (fun _ => rfl) (fun v1_1 hv1_1 => ?_)
          refine gs_iload_n (pc := 87) (gd gk_77 45 rfl) rfl ?_
          refine gs_istore_n (ls2 := fun v => [(0, .ref (3)), (1, .int (v1_1)), (2, .int (v)), (3, .int (Int32.ofNat k))]) (pc := 88) (gd gk_77 46 rfl) (by rw [gL_77]; decide) (fun _ => rfl) (fun v2_1 hv2_1 => ?_)
          obtain rfl : v2_1 = Int32.ofNat k := hv2_1.trans (by first | rfl | (simp only [Int32.ofNat_add, Int32.ofNat_mul]; rfl) | (simp only [Int32.ofNat_add, Int32.ofNat_mul]))
          refine gs_iinc (ls2 := fun v => [(0, .ref (3)), (1, .int (v1_1)), (2, .int (Int32.ofNat k)), (3, .int (v))]) (pc := 89) (gd gk_77 47 rfl) rfl (by rw [gL_77]; decide) (fun _ => rfl) (1) rfl (fun v3_2 hv3_2 => ?_)
          obtain rfl : v3_2 = Int32.ofNat (k + 1) := hv3_2.trans (by first | rfl | (simp only [Int32.ofNat_add, Int32.ofNat_mul]; rfl) | (simp only [Int32.ofNat_add, Int32.ofNat_mul]))
          refine gs_goto (pc := 92) (gd gk_77 48 rfl) ?_
          -- end 3: stop, pc 11, locals [(0, .ref (3)), (1, .int (v1_1)), (2, .int (Int32.ofNat k)), (3, .int (Int32.ofNat (k + 1)))]
          exact ih (k + 1) (by omega) I_t _ _ hqt ⟨x, f, _, h2, hv, by rw [if_pos (Int32.not_le.mp c76)]; exact hv1_1, by rw [if_pos (Int32.not_le.mp c76)]⟩
  refine gs_aload_n (pc := 0) (gd gk_77 0 rfl) rfl ?_
  refine gs_iconst (pc := 1) (gd gk_77 1 rfl) (1) rfl ?_
  refine gs_callV (as := [.int (1)]) (pc := 2) (gd gk_77 2 rfl) (by decide) rfl (by decide) rfl rfl (Nat.le_of_ble_eq_true rfl) gq_77_76 (Nat.le_of_ble_eq_true rfl) (c_best true hn) (fun r_2 w_2 q_2 => ?_)
  obtain ⟨I_b, p, rfl, b1, b2, rfl⟩ := q_2
  refine gs_istore_n (ls2 := fun v => [(0, .ref (3)), (1, .int (v))]) (pc := 5) (gd gk_77 3 rfl) (by rw [gL_77]; decide) (fun _ => rfl) (fun v1_1 hv1_1 => ?_)
  refine gs_bipush (pc := 6) (gd gk_77 4 rfl) (-99) rfl ?_
  refine gs_istore_n (ls2 := fun v => [(0, .ref (3)), (1, .int (v1_1)), (2, .int (v))]) (pc := 8) (gd gk_77 5 rfl) (by rw [gL_77]; decide) (fun _ => rfl) (fun v2_1 hv2_1 => ?_)
  refine gs_iconst (pc := 9) (gd gk_77 6 rfl) (0) rfl ?_
  refine gs_istore_n (ls2 := fun v => [(0, .ref (3)), (1, .int (v1_1)), (2, .int (v2_1)), (3, .int (v))]) (pc := 10) (gd gk_77 7 rfl) (by rw [gL_77]; decide) (fun _ => rfl) (fun v3_1 hv3_1 => ?_)
  obtain rfl : v3_1 = Int32.ofNat 0 := hv3_1.trans (by first | rfl | (simp only [Int32.ofNat_add, Int32.ofNat_mul]; rfl) | (simp only [Int32.ofNat_add, Int32.ofNat_mul]))
  -- end 1: stop, pc 11, locals [(0, .ref (3)), (1, .int (v1_1)), (2, .int (v2_1)), (3, .int (Int32.ofNat 0))]
  refine lp 10 0 rfl I_b _ _ b1 ⟨⟨p, by rw [hval] at b2; exact b2, ?_⟩, ?_⟩
  · rw [hv1_1, hval]; rfl
  · exact hv2_1
end
end
section
/-! ===== the words agree where the streets agree ===== -/
def gq_sim (σ τ : Nat → Nat → Int32) (N : Nat) : Prop := σ 0 1 = τ 0 1 ∧ σ 0 2 = τ 0 2 ∧ ∀ m, m < N → ∀ p, 2 ≤ p → p ≤ 5 → σ p m = τ p m
theorem gq_sim_rf (σ : Nat → Nat → Int32) (N : Nat) : gq_sim σ σ N := ⟨rfl, rfl, fun _ _ _ _ _ => rfl⟩
theorem gq_has_k {σ τ : Nat → Nat → Int32} {N m : Nat} (h : gq_sim σ τ N) (hm : m < N) (s : Nat → Int32) : gq_has σ s m = gq_has τ s m := by
  unfold gq_has
  rw [h.2.2 m hm 2 (by omega) (by omega), h.2.2 m hm 3 (by omega) (by omega)]
theorem gq_due_k {σ τ : Nat → Nat → Int32} {N m : Nat} (h : gq_sim σ τ N) (hm : m < N) (a b : Bool) : gq_due σ m a b = gq_due τ m a b := by
  unfold gq_due
  rw [h.2.2 m hm 4 (by omega) (by omega), h.2.2 m hm 5 (by omega) (by omega)]
theorem gq_who_k {σ τ : Nat → Nat → Int32} {N : Nat} (h : gq_sim σ τ N) (s : Nat → Int32) : ∀ {k : Nat}, k ≤ N → gq_who σ s k = gq_who τ s k
  | 0, _ => rfl
  | k + 1, hk => by
    unfold gq_who
    rw [gq_has_k h (show k < N by omega), gq_who_k h s (k := k) (by omega)]
theorem gq_hc_k {σ τ : Nat → Nat → Int32} {N : Nat} (h : gq_sim σ τ N) (s : Nat → Int32) (bk ea : Bool) {so to : Nat → Bool} (hso : ∀ m, m < N → so m = to m) : ∀ {k : Nat}, k ≤ N → gq_hc σ s bk ea so k = gq_hc τ s bk ea to k
  | 0, _ => by unfold gq_hc; rw [h.2.1]
  | k + 1, hk => by
    unfold gq_hc
    rw [gq_has_k h (show k < N by omega), gq_due_k h (show k < N by omega), hso k (by omega), gq_hc_k h s bk ea hso (k := k) (by omega)]
theorem gq_st_k {σ τ : Nat → Nat → Int32} {N : Nat} (h : gq_sim σ τ N) (wd : Int32) (bk : Bool) (bc : Nat) (ch : Int32) (s : Nat → Int32) (c : Nat) : gq_st σ wd bk bc ch s c = gq_st τ wd bk bc ch s c := by
  unfold gq_st
  rw [h.1]
section
variable {σ τ : Nat → Nat → Int32} {N L bc : Nat} {wd ve : Nat → Int32} {pl ql : Nat → Bool} {ch : Int32} {s t : Nat → Int32} {so to : Nat → Bool}
theorem gq_sq_k (h : gq_sim σ τ N) (hw : ∀ q, q < L → wd q = ve q) (hp : ∀ q, q < L → pl q = ql q) (hs : ∀ c, c < 10 → s c = t c) : ∀ g, g ≤ L → ∀ c, c < 10 → gq_sq σ wd pl bc ch s g c = gq_sq τ ve ql bc ch t g c
  | 0, _, c, hc => hs c hc
  | g + 1, hg, c, _ => by
    show gq_st σ (wd g) (pl g) bc ch (gq_sq σ wd pl bc ch s g) c = gq_st τ (ve g) (ql g) bc ch (gq_sq τ ve ql bc ch t g) c
    rw [hw g (by omega), hp g (by omega), gq_st_c (gq_sq_k h hw hp hs g (by omega)), gq_st_k h]
theorem gq_cm_k (h : gq_sim σ τ N) (hw : ∀ q, q < L → wd q = ve q) (hp : ∀ q, q < L → pl q = ql q) (hs : ∀ c, c < 10 → s c = t c) (hso : ∀ m, m < N → so m = to m) (hn : ∀ m, m < N → 0 ≤ σ 2 m ∧ σ 2 m ≤ 9) : ∀ g, g ≤ L → gq_cm σ wd pl bc ch s so N g = gq_cm τ ve ql bc ch t to N g
  | 0, _ => rfl
  | g + 1, hg => by
    unfold gq_cm
    rw [gq_cm_k h hw hp hs hso hn g (by omega), gq_hc_c (gq_sq_k h hw hp hs (g + 1) hg) hn, gq_hc_k h _ _ _ hso (Nat.le_refl N), hw g (by omega), hp g (by omega)]
theorem gq_hd_k (h : gq_sim σ τ N) (hw : ∀ q, q < L → wd q = ve q) (hp : ∀ q, q < L → pl q = ql q) (hs : ∀ c, c < 10 → s c = t c) (hn : ∀ m, m < N → 0 ≤ σ 2 m ∧ σ 2 m ≤ 9) : ∀ g, g ≤ L → gq_hd σ wd pl bc ch s N g = gq_hd τ ve ql bc ch t N g
  | 0, _ => rfl
  | g + 1, hg => by
    unfold gq_hd
    rw [gq_hd_k h hw hp hs hn g (by omega), gq_who_c (gq_sq_k h hw hp hs (g + 1) hg) hn, gq_who_k h _ (Nat.le_refl N)]
theorem gq_pd_k {m : Nat} (hm : m < N) (h : gq_sim σ τ N) (hw : ∀ q, q < L → wd q = ve q) (hp : ∀ q, q < L → pl q = ql q) (hs : ∀ c, c < 10 → s c = t c) (hn : ∀ m, m < N → 0 ≤ σ 2 m ∧ σ 2 m ≤ 9) : ∀ g, g ≤ L → gq_pd σ wd pl bc ch s m g = gq_pd τ ve ql bc ch t m g
  | 0, _ => rfl
  | g + 1, hg => by
    unfold gq_pd
    rw [gq_pd_k hm h hw hp hs hn g (by omega), gq_has_c (gq_sq_k h hw hp hs (g + 1) hg) (hn m hm), gq_has_k h hm, gq_due_k h hm, hw g (by omega)]
end
theorem gz_in_0 (j : Nat) (hj : j < 32) : gz_in 0 (Int32.ofNat j) = false := by
  have := gz_bitn 0 hj
  rw [show (0 : Int32) = Int32.ofNat 0 from rfl, this, Nat.zero_testBit]
theorem gq_wd_0 (σ : Nat → Nat → Int32) (h : Nat) (hh : h < 32) : gq_wd σ 0 h = σ 1 h := by
  unfold gq_wd
  rw [gz_in_0 h hh]; rfl
/-! ===== the reference: left, by, had, bestBy, best ===== -/
/-- the hours that are left, as the reference says them -/
def gz_lf (W h0 : Nat) : Int32 := (((1 : Int32) <<< (Int32.ofNat W &&& 31)) - 1) &&& ((((1 : Int32) <<< (Int32.ofNat h0 &&& 31)) - 1) ^^^ -1)
theorem gz_lf_su0 : ∀ h0, h0 < 9 → ∀ L, L < 9 → h0 + L < 9 → ∀ q, q < 2 ^ (h0 + L) → (decide (Int32.ofNat q &&& (gz_lf (h0 + L) h0 ^^^ -1) = 0) == decide (q % 2 ^ h0 = 0)) = true := by decide +kernel
theorem gz_lf_su {h0 L q : Nat} (h : h0 + L < 9) (hq : q < 2 ^ (h0 + L)) : Int32.ofNat q &&& (gz_lf (h0 + L) h0 ^^^ -1) = 0 ↔ gz_su q h0 L := by
  have := gz_lf_su0 h0 (by omega) L (by omega) h q hq
  have e := eq_of_beq this
  have e2 := decide_eq_decide.mp e
  exact ⟨fun a => ⟨e2.mp a, hq⟩, fun a => e2.mpr a.1⟩
section
variable {V : gw_V} {n W N h0 L bc : Nat} {I : Nat → Nat → Int32} {J : Nat → Nat → Int64}
theorem m_left (hn : gm_now I W N h0 L bc) : gw_E V 135 (0, [(0, .ref 126)], [], gS n I J, 0, 0) (fun v w' => v = some (.int (gz_lf W h0)) ∧ w' = gS n I J) := by
  have hW : I 126 3 = Int32.ofNat W := hn.1.1
  refine gs_iconst (pc := 0) (gd gk_135 0 rfl) (1) rfl ?_
  refine gs_aload_n (pc := 1) (gd gk_135 1 rfl) rfl ?_
  refine gs_getI (pc := 2) (gd gk_135 2 rfl) rfl rfl ?_
  refine gs_as (Int32.ofNat W) (hW) ?_
  refine gs_ishl (pc := 5) (gd gk_135 3 rfl) ?_
  refine gs_iconst (pc := 6) (gd gk_135 4 rfl) (1) rfl ?_
  refine gs_isub (pc := 7) (gd gk_135 5 rfl) ?_
  refine gs_iconst (pc := 8) (gd gk_135 6 rfl) (1) rfl ?_
  refine gs_aload_n (pc := 9) (gd gk_135 7 rfl) rfl ?_
  refine gs_getR (r := 133) (pc := 10) (gd gk_135 8 rfl) rfl rfl rfl (by decide) ?_
  refine gs_bipush (pc := 13) (gd gk_135 9 rfl) (12) rfl ?_
  refine gs_ialoadK (12) (52) (pc := 15) (gd gk_135 10 rfl) (Or.inl rfl) rfl (by decide) (by first | rfl | (simp only [Int32.ofNat_add, Int32.ofNat_mul]; rfl) | (simp only [Int32.ofNat_add, Int32.ofNat_mul])) (by omega) ?_
  refine gs_as (Int32.ofNat h0) (hn.2.1) ?_
  refine gs_ishl (pc := 16) (gd gk_135 11 rfl) ?_
  refine gs_iconst (pc := 17) (gd gk_135 12 rfl) (1) rfl ?_
  refine gs_isub (pc := 18) (gd gk_135 13 rfl) ?_
  refine gs_iconst (pc := 19) (gd gk_135 14 rfl) (-1) rfl ?_
  refine gs_ixor (pc := 20) (gd gk_135 15 rfl) ?_
  refine gs_iand (pc := 21) (gd gk_135 16 rfl) ?_
  -- end 1: ireturn (((1 <<< (Int32.ofNat W &&& 31)) - 1) &&& (((1 <<< (Int32.ofNat h0 &&& 31)) - 1) ^^^ (-1))), pc 22, locals [(0, .ref (126))]
  exact gs_iret (pc := 22) (gd gk_135 17 rfl) rfl (rfl) (Nat.zero_le _) (Nat.zero_le _) (⟨rfl, rfl⟩)
theorem m_run0 {I0 : Nat → Nat → Int32} (pl so : Int32) (hq : gm_qf I0 I) (hn : gm_now I0 W N h0 L bc) (hb : ∀ h, h < 8 → I 128 h = I0 127 h) : gw_E V 134 (0, [(0, .ref 126), (1, .int pl), (2, .int so)], [], gS n I J, 0, 0) (fun v w' => ∃ I2, w' = gS n I2 J ∧ v = some (.int (gq_cm (gz_M I0) (gq_w0 (gz_M I0) h0) (gq_p0 pl h0) bc (I0 133 10) (I0 133) (fun m => gz_in so (Int32.ofNat m)) N L)) ∧ I2 126 22 = gq_hd (gz_M I0) (gq_w0 (gz_M I0) h0) (gq_p0 pl h0) bc (I0 133 10) (I0 133) N L ∧ gm_rf I I2) := by
  have hn1 := gm_qf_now hq hn
  have hW8 := hn.1.2.1
  have hW := hn.2.2.1
  have hwd : ∀ q, q < L → I 128 (h0 + q) = gq_w0 (gz_M I0) h0 q := fun q hq2 => by
    show _ = gq_wd _ _ _
    rw [hb _ (by omega), gq_wd_0 _ _ (by omega)]; rfl
  refine gs_mono ?_ (m_run h0 L bc pl so hn1 (fun h hh => ?_))
  · rintro v w ⟨I2, rfl, rfl, e1, e2⟩
    have hs : ∀ c, c < 10 → I 133 c = I0 133 c := fun c hc => hq.2.1 c (by omega)
    have hM := gm_qf_M hq
    have hok := gq_ok_n hn1.1
    rw [hM, hq.2.1 10 (by omega)] at e1
    refine ⟨I2, rfl, ?_, ?_, e2⟩
    · rw [hM] at hok ⊢
      rw [hq.2.1 10 (by omega), gq_cm_k (gq_sim_rf _ N) hwd (fun _ _ => rfl) hs (fun _ _ => rfl) hok L (Nat.le_refl L)]
    · rw [hM] at hok
      rw [e1, gq_hd_k (gq_sim_rf _ N) hwd (fun _ _ => rfl) hs hok L (Nat.le_refl L)]
  · rw [hb h (by omega)]
    obtain ⟨-, -, -, -, -, -, -, hw, -⟩ := hn.1
    exact hw h hh
theorem gm_qf_128 {I I2 : Nat → Nat → Int32} (h : ∀ p, p ≠ 128 → I2 p = I p) : gm_qf I I2 := ⟨fun p _ a _ _ _ _ _ _ _ _ => h p a, fun q _ => by rw [h 133 (by omega)], fun q _ _ _ _ _ _ _ _ => by rw [h 126 (by omega)]⟩
theorem gm_all {N : Nat} (h : N ≤ 6) : ∀ m, m < N → gz_in 63 (Int32.ofNat m) = true := by
  have : ∀ m, m < 6 → gz_in 63 (Int32.ofNat m) = true := by decide
  exact fun m hm => this m (by omega)
theorem m_by (pl : Int32) (hn : gm_now I W N h0 L bc) : gw_E V 136 (0, [(0, .ref 126), (1, .int pl)], [], gS n I J, 0, 0) (fun v w' => v = some (.int (if gz_rg pl 0 255 then gq_cm (gz_M I) (gq_w0 (gz_M I) h0) (gq_p0 pl h0) bc (I 133 10) (I 133) (fun _ => true) N L else -1000002)) ∧ ∃ I2, w' = gS n I2 J ∧ gm_qf I I2) := by
  refine gs_iload_n (pc := 0) (gd gk_136 0 rfl) rfl ?_
  refine gs_i2l (pc := 1) (gd gk_136 1 rfl) ?_
  refine gs_lconst (pc := 2) (gd gk_136 2 rfl) (0) rfl ?_
  refine gs_ldc2_w (pc := 3) (gd gk_136 3 rfl) (255) rfl ?_
  refine gs_callS (as := [.long ((pl : Int32).toInt64), .long (0), .long (255)]) (pc := 6) (gd gk_136 4 rfl) (by decide) rfl rfl (Nat.le_of_ble_eq_true rfl) gq_136_107 (Nat.le_of_ble_eq_true rfl) (c_mrg (pl) (0) (255)) (fun r_6 w_6 q_6 => ?_)
  obtain ⟨rfl, rfl⟩ := q_6
  refine gs_if_ne (pc := 9) (gd gk_136 5 rfl) (fun c9 => ?_) (fun c9 => ?_)
  · refine gs_aload_n (pc := 15) (gd gk_136 8 rfl) rfl ?_
    refine gs_callV (as := []) (pc := 16) (gd gk_136 9 rfl) (by decide) rfl (by decide) rfl rfl (Nat.le_of_ble_eq_true rfl) gq_136_128 (Nat.le_of_ble_eq_true rfl) (m_winds) (fun r_16 w_16 q_16 => ?_)
    obtain ⟨rfl, I_w, rfl, w1, w2⟩ := q_16
    refine gs_aload_n (pc := 19) (gd gk_136 10 rfl) rfl ?_
    refine gs_iload_n (pc := 20) (gd gk_136 11 rfl) rfl ?_
    refine gs_bipush (pc := 21) (gd gk_136 12 rfl) (63) rfl ?_
    refine gs_callV (as := [.int (pl), .int (63)]) (pc := 23) (gd gk_136 13 rfl) (by decide) rfl (by decide) rfl rfl (Nat.le_of_ble_eq_true rfl) gq_136_134 (Nat.le_of_ble_eq_true rfl) (m_run0 (I0 := I) pl 63 (gm_qf_128 w2) hn w1) (fun r_23 w_23 q_23 => ?_)
    obtain ⟨I_r, rfl, rfl, r1, r2⟩ := q_23
    -- end 1: ireturn (gq_cm (gz_M I) (gq_w0 (gz_M I) h0) (gq_p0 pl h0) bc (I 133 10) (I 133) (fun m => gz_in 63 (Int32.ofNat m)) N L), pc 26, locals [(0, .ref (126)), (1, .int (pl))]
    exact gs_iret (pc := 26) (gd gk_136 14 rfl) rfl (rfl) (Nat.zero_le _) (Nat.zero_le _) (⟨by rw [if_pos (gz_b_ne.mp c9), gq_cm_k (gq_sim_rf _ N) (fun _ _ => rfl) (fun _ _ => rfl) (fun _ _ => rfl) (gm_all hn.1.2.2.2.1) (gq_ok_n hn.1) L (Nat.le_refl L)], I_r, rfl, gm_qf_tr (gm_qf_128 w2) (gm_rf_q r2)⟩)
  · refine gs_ldc (pc := 12) (gd gk_136 6 rfl) (-1000002) rfl ?_
    -- end 2: ireturn (-1000002), pc 14, locals [(0, .ref (126)), (1, .int (pl))]
    exact gs_iret (pc := 14) (gd gk_136 7 rfl) rfl (rfl) (Nat.zero_le _) (Nat.zero_le _) (⟨by rw [if_neg (by rw [gz_b_eq.mp c9]; decide)], I, rfl, gm_qf_rf I⟩)
theorem m_had (pl : Int32) (hn : gm_now I W N h0 L bc) : gw_E V 145 (0, [(0, .ref 126), (1, .int pl)], [], gS n I J, 0, 0) (fun v w' => v = some (.int (if gz_rg pl 0 255 then gq_hd (gz_M I) (gq_w0 (gz_M I) h0) (gq_p0 pl h0) bc (I 133 10) (I 133) N L else -2)) ∧ ∃ I2, w' = gS n I2 J ∧ gm_qf I I2) := by
  refine gs_iload_n (pc := 0) (gd gk_145 0 rfl) rfl ?_
  refine gs_i2l (pc := 1) (gd gk_145 1 rfl) ?_
  refine gs_lconst (pc := 2) (gd gk_145 2 rfl) (0) rfl ?_
  refine gs_ldc2_w (pc := 3) (gd gk_145 3 rfl) (255) rfl ?_
  refine gs_callS (as := [.long ((pl : Int32).toInt64), .long (0), .long (255)]) (pc := 6) (gd gk_145 4 rfl) (by decide) rfl rfl (Nat.le_of_ble_eq_true rfl) gq_145_107 (Nat.le_of_ble_eq_true rfl) (c_mrg (pl) (0) (255)) (fun r_6 w_6 q_6 => ?_)
  obtain ⟨rfl, rfl⟩ := q_6
  refine gs_if_ne (pc := 9) (gd gk_145 5 rfl) (fun c9 => ?_) (fun c9 => ?_)
  · refine gs_aload_n (pc := 15) (gd gk_145 8 rfl) rfl ?_
    refine gs_callV (as := []) (pc := 16) (gd gk_145 9 rfl) (by decide) rfl (by decide) rfl rfl (Nat.le_of_ble_eq_true rfl) gq_145_128 (Nat.le_of_ble_eq_true rfl) (m_winds) (fun r_16 w_16 q_16 => ?_)
    obtain ⟨rfl, I_w, rfl, w1, w2⟩ := q_16
    refine gs_aload_n (pc := 19) (gd gk_145 10 rfl) rfl ?_
    refine gs_iload_n (pc := 20) (gd gk_145 11 rfl) rfl ?_
    refine gs_bipush (pc := 21) (gd gk_145 12 rfl) (63) rfl ?_
    refine gs_callV (as := [.int (pl), .int (63)]) (pc := 23) (gd gk_145 13 rfl) (by decide) rfl (by decide) rfl rfl (Nat.le_of_ble_eq_true rfl) gq_145_134 (Nat.le_of_ble_eq_true rfl) (m_run0 (I0 := I) pl 63 (gm_qf_128 w2) hn w1) (fun r_23 w_23 q_23 => ?_)
    obtain ⟨I_r, rfl, rfl, r1, r2⟩ := q_23
    refine gs_pop (pc := 26) (gd gk_145 14 rfl) rfl ?_
    refine gs_aload_n (pc := 27) (gd gk_145 15 rfl) rfl ?_
    refine gs_getI (pc := 28) (gd gk_145 16 rfl) rfl rfl ?_
    -- end 1: ireturn (I_r 126 22), pc 31, locals [(0, .ref (126)), (1, .int (pl))]
    exact gs_iret (pc := 31) (gd gk_145 17 rfl) rfl (rfl) (Nat.zero_le _) (Nat.zero_le _) (⟨by rw [r1, if_pos (gz_b_ne.mp c9)], I_r, rfl, gm_qf_tr (gm_qf_128 w2) (gm_rf_q r2)⟩)
  · refine gs_bipush (pc := 12) (gd gk_145 6 rfl) (-2) rfl ?_
    -- end 2: ireturn (-2), pc 14, locals [(0, .ref (126)), (1, .int (pl))]
    exact gs_iret (pc := 14) (gd gk_145 7 rfl) rfl (rfl) (Nat.zero_le _) (Nat.zero_le _) (⟨by rw [if_neg (by rw [gz_b_eq.mp c9]; decide)], I, rfl, gm_qf_rf I⟩)
end
end
section
/-! ===== the reference: bestBy, best, bestChimney, only ===== -/
section
variable {V : gw_V} {n W N h0 L bc : Nat} {I : Nat → Nat → Int32} {J : Nat → Nat → Int64}
abbrev gm_val (I : Nat → Nat → Int32) (N h0 L bc : Nat) (so : Int32) : Nat → Int32 := gq_val (gz_M I) N h0 L bc (I 133 10) (I 133) (fun m => gz_in so (Int32.ofNat m))
abbrev mq_bb (n : Nat) (I : Nat → Nat → Int32) (J : Nat → Nat → Int64) (N h0 L bc : Nat) (so : Int32) : Option Value → gw_W → Prop := fun v w' => ∃ I2 p, w' = gS n I2 J ∧ gm_qf I I2 ∧ I2 126 23 = Int32.ofNat p ∧ v = some (.int (gm_val I N h0 L bc so p)) ∧ gq_bst (gm_val I N h0 L bc so) h0 L p
theorem gm_qf_u {I I2 : Nat → Nat → Int32} {k : Nat} {x : Int32} (h : I2 = gw_u I 126 k x) (hk : k = 11 ∨ k = 12 ∨ k = 16 ∨ k = 17 ∨ k = 22 ∨ k = 23 ∨ k = 30 ∨ k = 31) : gm_qf I I2 := ⟨fun p a _ _ _ _ _ _ _ _ _ => by rw [h, gw_u_o a], fun q _ => by rw [h, gw_u_o (by omega)], fun q a b c d e f g i => by rw [h, gw_u_s]; unfold upd; rw [if_neg (by omega)]⟩
theorem m_bestBy (so : Int32) (hn : gm_now I W N h0 L bc) : gw_E V 137 (0, [(0, .ref 126), (1, .int so)], [], gS n I J, 0, 0) (mq_bb n I J N h0 L bc so) := by
  obtain ⟨hok, hh, hW, hbc, hb9⟩ := id hn
  have hW8 : W ≤ 8 := hok.2.1
  have hW3 : I 126 3 = Int32.ofNat W := hok.1
  generalize hval : gm_val I N h0 L bc so = val
  have hpw : 2 ^ W ≤ 256 := Nat.le_trans (Nat.pow_le_pow_right (by omega) hW8) (by decide)
  have lp : ∀ (m k : Nat), m + k = 2 ^ W → 0 < k → ∀ I1 p, gm_qf I I1 → (∀ h, h < 8 → I1 128 h = I 127 h) → I1 126 23 = Int32.ofNat p → p < k → gz_su p h0 L → (∀ q, q < k → gz_su q h0 L → gq_ge val p q) → gw_E V 137 (18, [(0, .ref 126), (1, .int so), (2, .int (val p)), (3, .int (Int32.ofNat k))], [], gS n I1 J, 0, 0) (mq_bb n I J N h0 L bc so) := by
    intro m
    induction m with
    | zero =>
      intro k hk k0 I1 p h1 h2 h3 h4 h5 h6
      obtain rfl : k = 2 ^ W := by omega
      have hW31 : I1 126 3 = Int32.ofNat W := (gm_qf_now h1 hn).1.1
      refine gs_iload_n (pc := 18) (gd gk_137 12 rfl) rfl ?_
      refine gs_iconst (pc := 19) (gd gk_137 13 rfl) (1) rfl ?_
      refine gs_aload_n (pc := 20) (gd gk_137 14 rfl) rfl ?_
      refine gs_getI (pc := 21) (gd gk_137 15 rfl) rfl rfl ?_
      refine gs_as (Int32.ofNat W) (hW31) ?_
      refine gs_ishl (pc := 24) (gd gk_137 16 rfl) ?_
      refine gs_icmp_ge (pc := 25) (gd gk_137 17 rfl) (fun c25 => ?_) (fun c25 => ?_)
      · refine gs_iload_n (pc := 115) (gd gk_137 62 rfl) rfl ?_
        -- end 1: ireturn val p, pc 116, locals [(0, .ref (126)), (1, .int (so)), (2, .int (val p)), (3, .int (Int32.ofNat (2 ^ W)))]
        exact gs_iret (pc := 116) (gd gk_137 63 rfl) rfl (rfl) (Nat.zero_le _) (Nat.zero_le _) (⟨I1, p, rfl, h1, h3, by rw [hval], by rw [hval]; exact ⟨h5, fun q hq => h6 q (by rw [← hW]; exact hq.2) hq⟩⟩)
      · -- end 2: stop, pc 28, locals [(0, .ref (126)), (1, .int (so)), (2, .int (val p)), (3, .int (Int32.ofNat (2 ^ W)))]
        exact absurd (by rw [gz_shl W (by omega)]; exact Int32.le_refl _) c25
    | succ m ih =>
      intro k hk k0 I1 p h1 h2 h3 h4 h5 h6
      have hn1 := gm_qf_now h1 hn
      have hW31 : I1 126 3 = Int32.ofNat W := hn1.1.1
      have hsu : Int32.ofNat k &&& (gz_lf W h0 ^^^ -1) = 0 ↔ gz_su k h0 L := by rw [← hW]; exact gz_lf_su (by omega) (by rw [hW]; omega)
      have tail : ∀ I2 (b : Bool), gm_rf I1 I2 → (b = true → gz_su k h0 L ∧ gq_ge val k p) → (b = false → gq_ge val p k) → gw_E V 137 (78, [(0, .ref 126), (1, .int so), (2, .int (val p)), (3, .int (Int32.ofNat k)), (4, .int (val k))], [.int (gz_b b)], gS n I2 J, 0, 0) (mq_bb n I J N h0 L bc so) := by
        intro I2 b t1 t2 t3
        have e128 : ∀ h, h < 8 → I2 128 h = I 127 h := fun h hh => by rw [t1.1 128 (by omega) (by omega) (by omega)]; exact h2 h hh
        have e23 : I2 126 23 = Int32.ofNat p := by rw [t1.2.2 23 (by omega)]; exact h3
        have go : ∀ I3 p2, I3 = gw_u I2 126 23 (Int32.ofNat p2) → p2 < k + 1 → gz_su p2 h0 L → (∀ q, q < k + 1 → gz_su q h0 L → gq_ge val p2 q) → gw_E V 137 (18, [(0, .ref 126), (1, .int so), (2, .int (val p2)), (3, .int (Int32.ofNat (k + 1)))], [], gS n I3 J, 0, 0) (mq_bb n I J N h0 L bc so) := fun I3 p2 e3 g1 g2 g3 => ih (k + 1) (by omega) (by omega) I3 p2 (gm_qf_tr h1 (gm_qf_tr (gm_rf_q t1) (gm_qf_u e3 (by omega)))) (fun h hh => by rw [e3, gw_u_o (by omega)]; exact e128 h hh) (by rw [e3, gw_u_s]; simp [upd]) g1 g2 g3
        refine gs_istore (ls2 := fun v => [(0, .ref (126)), (1, .int (so)), (2, .int (val p)), (3, .int (Int32.ofNat k)), (4, .int (val k)), (5, .int (v))]) (pc := 78) (gd gk_137 45 rfl) (by rw [gL_137]; decide) (fun _ => rfl) (fun v5_1 hv5_1 => ?_)
        refine gs_aload_n (pc := 80) (gd gk_137 46 rfl) rfl ?_
        refine gs_iload (pc := 81) (gd gk_137 47 rfl) rfl ?_
        refine gs_if_eq (pc := 83) (gd gk_137 48 rfl) (fun c83 => ?_) (fun c83 => ?_)
        · refine gs_aload_n (pc := 90) (gd gk_137 51 rfl) rfl ?_
          refine gs_getI (pc := 91) (gd gk_137 52 rfl) rfl rfl ?_
          refine gs_as (Int32.ofNat p) (e23) ?_
          refine gs_putI (pc := 94) (gd gk_137 53 rfl) rfl rfl rfl rfl (fun I_1 hI_1 => ?_)
          refine gs_iload (pc := 97) (gd gk_137 54 rfl) rfl ?_
          refine gs_if_eq (pc := 99) (gd gk_137 55 rfl) (fun c99 => ?_) (fun c99 => ?_)
          · refine gs_iload_n (pc := 107) (gd gk_137 58 rfl) rfl ?_
            refine gs_istore_n (ls2 := fun v => [(0, .ref (126)), (1, .int (so)), (2, .int (v)), (3, .int (Int32.ofNat k)), (4, .int (val k)), (5, .int (v5_1))]) (pc := 108) (gd gk_137 59 rfl) (by rw [gL_137]; decide) (fun _ => rfl) (fun v2_1 hv2_1 => ?_)
            refine gs_iinc (ls2 := fun v => [(0, .ref (126)), (1, .int (so)), (2, .int (v2_1)), (3, .int (v)), (4, .int (val k)), (5, .int (v5_1))]) (pc := 109) (gd gk_137 60 rfl) rfl (by rw [gL_137]; decide) (fun _ => rfl) (1) rfl (fun v3_1 hv3_1 => ?_)
            obtain rfl : v3_1 = Int32.ofNat (k + 1) := hv3_1.trans (by first | rfl | (simp only [Int32.ofNat_add, Int32.ofNat_mul]; rfl) | (simp only [Int32.ofNat_add, Int32.ofNat_mul]))
            refine gs_goto (pc := 112) (gd gk_137 61 rfl) ?_
            -- end 1: stop, pc 18, locals [(0, .ref (126)), (1, .int (so)), (2, .int (v2_1)), (3, .int (Int32.ofNat (k + 1))), (4, .int (val k)), (5, .int (v5_1))]
            have hb : b = false := gz_b_eq.mp (hv5_1.symm.trans c83)
            obtain rfl := hv2_1
            refine gs_drop [0, 1, 2, 3] rfl (go I_1 p hI_1 (by omega) h5 (fun q hq hs => ?_))
            by_cases e : q = k
            · rw [e]; exact t3 hb
            · exact h6 q (by omega) hs
          · refine gs_iload (pc := 102) (gd gk_137 56 rfl) rfl ?_
            refine gs_goto (pc := 104) (gd gk_137 57 rfl) ?_
            refine gs_istore_n (ls2 := fun v => [(0, .ref (126)), (1, .int (so)), (2, .int (v)), (3, .int (Int32.ofNat k)), (4, .int (val k)), (5, .int (v5_1))]) (pc := 108) (gd gk_137 59 rfl) (by rw [gL_137]; decide) (fun _ => rfl) (fun v2_2 hv2_2 => ?_)
            refine gs_iinc (ls2 := fun v => [(0, .ref (126)), (1, .int (so)), (2, .int (v2_2)), (3, .int (v)), (4, .int (val k)), (5, .int (v5_1))]) (pc := 109) (gd gk_137 60 rfl) rfl (by rw [gL_137]; decide) (fun _ => rfl) (1) rfl (fun v3_2 hv3_2 => ?_)
            obtain rfl : v3_2 = Int32.ofNat (k + 1) := hv3_2.trans (by first | rfl | (simp only [Int32.ofNat_add, Int32.ofNat_mul]; rfl) | (simp only [Int32.ofNat_add, Int32.ofNat_mul]))
            refine gs_goto (pc := 112) (gd gk_137 61 rfl) ?_
            -- end 2: stop, pc 18, locals [(0, .ref (126)), (1, .int (so)), (2, .int (v2_2)), (3, .int (Int32.ofNat (k + 1))), (4, .int (val k)), (5, .int (v5_1))]
            exact absurd c83 c99
        · refine gs_iload_n (pc := 86) (gd gk_137 49 rfl) rfl ?_
          refine gs_goto (pc := 87) (gd gk_137 50 rfl) ?_
          refine gs_putI (pc := 94) (gd gk_137 53 rfl) rfl rfl rfl rfl (fun I_2 hI_2 => ?_)
          refine gs_iload (pc := 97) (gd gk_137 54 rfl) rfl ?_
          refine gs_if_eq (pc := 99) (gd gk_137 55 rfl) (fun c99 => ?_) (fun c99 => ?_)
          · refine gs_iload_n (pc := 107) (gd gk_137 58 rfl) rfl ?_
            refine gs_istore_n (ls2 := fun v => [(0, .ref (126)), (1, .int (so)), (2, .int (v)), (3, .int (Int32.ofNat k)), (4, .int (val k)), (5, .int (v5_1))]) (pc := 108) (gd gk_137 59 rfl) (by rw [gL_137]; decide) (fun _ => rfl) (fun v2_3 hv2_3 => ?_)
            refine gs_iinc (ls2 := fun v => [(0, .ref (126)), (1, .int (so)), (2, .int (v2_3)), (3, .int (v)), (4, .int (val k)), (5, .int (v5_1))]) (pc := 109) (gd gk_137 60 rfl) rfl (by rw [gL_137]; decide) (fun _ => rfl) (1) rfl (fun v3_3 hv3_3 => ?_)
            obtain rfl : v3_3 = Int32.ofNat (k + 1) := hv3_3.trans (by first | rfl | (simp only [Int32.ofNat_add, Int32.ofNat_mul]; rfl) | (simp only [Int32.ofNat_add, Int32.ofNat_mul]))
            refine gs_goto (pc := 112) (gd gk_137 61 rfl) ?_
            -- end 3: stop, pc 18, locals [(0, .ref (126)), (1, .int (so)), (2, .int (v2_3)), (3, .int (Int32.ofNat (k + 1))), (4, .int (val k)), (5, .int (v5_1))]
            exact absurd c99 c83
          · refine gs_iload (pc := 102) (gd gk_137 56 rfl) rfl ?_
            refine gs_goto (pc := 104) (gd gk_137 57 rfl) ?_
            refine gs_istore_n (ls2 := fun v => [(0, .ref (126)), (1, .int (so)), (2, .int (v)), (3, .int (Int32.ofNat k)), (4, .int (val k)), (5, .int (v5_1))]) (pc := 108) (gd gk_137 59 rfl) (by rw [gL_137]; decide) (fun _ => rfl) (fun v2_4 hv2_4 => ?_)
            refine gs_iinc (ls2 := fun v => [(0, .ref (126)), (1, .int (so)), (2, .int (v2_4)), (3, .int (v)), (4, .int (val k)), (5, .int (v5_1))]) (pc := 109) (gd gk_137 60 rfl) rfl (by rw [gL_137]; decide) (fun _ => rfl) (1) rfl (fun v3_4 hv3_4 => ?_)
            obtain rfl : v3_4 = Int32.ofNat (k + 1) := hv3_4.trans (by first | rfl | (simp only [Int32.ofNat_add, Int32.ofNat_mul]; rfl) | (simp only [Int32.ofNat_add, Int32.ofNat_mul]))
            refine gs_goto (pc := 112) (gd gk_137 61 rfl) ?_
            -- end 4: stop, pc 18, locals [(0, .ref (126)), (1, .int (so)), (2, .int (v2_4)), (3, .int (Int32.ofNat (k + 1))), (4, .int (val k)), (5, .int (v5_1))]
            have hb : b = true := gz_b_ne.mp (fun e => c83 (hv5_1.trans e))
            obtain rfl := hv2_4
            refine gs_drop [0, 1, 2, 3] rfl (go I_2 k hI_2 (by omega) (t2 hb).1 (fun q hq hs => ?_))
            by_cases e : q = k
            · rw [e]; exact gq_ge_rf val k
            · exact gq_ge_tr (t2 hb).2 (h6 q (by omega) hs)
      refine gs_iload_n (pc := 18) (gd gk_137 12 rfl) rfl ?_
      refine gs_iconst (pc := 19) (gd gk_137 13 rfl) (1) rfl ?_
      refine gs_aload_n (pc := 20) (gd gk_137 14 rfl) rfl ?_
      refine gs_getI (pc := 21) (gd gk_137 15 rfl) rfl rfl ?_
      refine gs_as (Int32.ofNat W) (hW31) ?_
      refine gs_ishl (pc := 24) (gd gk_137 16 rfl) ?_
      refine gs_icmp_ge (pc := 25) (gd gk_137 17 rfl) (fun c25 => ?_) (fun c25 => ?_)
      · refine gs_iload_n (pc := 115) (gd gk_137 62 rfl) rfl ?_
        -- end 1: ireturn val p, pc 116, locals [(0, .ref (126)), (1, .int (so)), (2, .int (val p)), (3, .int (Int32.ofNat k))]
        rw [gz_shl W (by omega)] at c25
        exact absurd ((zle (by omega) (by omega)).mp c25) (by omega)
      · refine gs_iload_n (pc := 28) (gd gk_137 18 rfl) rfl ?_
        refine gs_aload_n (pc := 29) (gd gk_137 19 rfl) rfl ?_
        refine gs_callV (as := []) (pc := 30) (gd gk_137 20 rfl) (by decide) rfl (by decide) rfl rfl (Nat.le_of_ble_eq_true rfl) gq_137_135 (Nat.le_of_ble_eq_true rfl) (m_left hn1) (fun r_30 w_30 q_30 => ?_)
        obtain ⟨rfl, rfl⟩ := q_30
        refine gs_iconst (pc := 33) (gd gk_137 21 rfl) (-1) rfl ?_
        refine gs_ixor (pc := 34) (gd gk_137 22 rfl) ?_
        refine gs_iand (pc := 35) (gd gk_137 23 rfl) ?_
        refine gs_if_ne (pc := 36) (gd gk_137 24 rfl) (fun c36 => ?_) (fun c36 => ?_)
        · refine gs_iinc (ls2 := fun v => [(0, .ref (126)), (1, .int (so)), (2, .int (val p)), (3, .int (v))]) (pc := 109) (gd gk_137 60 rfl) rfl (by rw [gL_137]; decide) (fun _ => rfl) (1) rfl (fun v3_1 hv3_1 => ?_)
          obtain rfl : v3_1 = Int32.ofNat (k + 1) := hv3_1.trans (by first | rfl | (simp only [Int32.ofNat_add, Int32.ofNat_mul]; rfl) | (simp only [Int32.ofNat_add, Int32.ofNat_mul]))
          refine gs_goto (pc := 112) (gd gk_137 61 rfl) ?_
          -- end 2: stop, pc 18, locals [(0, .ref (126)), (1, .int (so)), (2, .int (val p)), (3, .int (Int32.ofNat (k + 1)))]
          refine ih (k + 1) (by omega) (by omega) I1 p h1 h2 h3 (by omega) h5 (fun q hq hs => ?_)
          by_cases e : q = k
          · rw [e] at hs; exact absurd (hsu.mpr hs) c36
          · exact h6 q (by omega) hs
        · refine gs_aload_n (pc := 39) (gd gk_137 25 rfl) rfl ?_
          refine gs_iload_n (pc := 40) (gd gk_137 26 rfl) rfl ?_
          refine gs_iload_n (pc := 41) (gd gk_137 27 rfl) rfl ?_
          refine gs_callV (as := [.int (Int32.ofNat k), .int (so)]) (pc := 42) (gd gk_137 28 rfl) (by decide) rfl (by decide) rfl rfl (Nat.le_of_ble_eq_true rfl) gq_137_134 (Nat.le_of_ble_eq_true rfl) (m_run0 (I0 := I) (Int32.ofNat k) so h1 hn h2) (fun r_42 w_42 q_42 => ?_)
          obtain ⟨I_r, rfl, rfl, r1, r2⟩ := q_42
          refine gs_istore (ls2 := fun v => [(0, .ref (126)), (1, .int (so)), (2, .int (val p)), (3, .int (Int32.ofNat k)), (4, .int (v))]) (pc := 45) (gd gk_137 29 rfl) (by rw [gL_137]; decide) (fun _ => rfl) (fun v4_1 hv4_1 => ?_)
          refine gs_iload (pc := 47) (gd gk_137 30 rfl) rfl ?_
          refine gs_iload_n (pc := 49) (gd gk_137 31 rfl) rfl ?_
          refine gs_icmp_gt (pc := 50) (gd gk_137 32 rfl) (fun c50 => ?_) (fun c50 => ?_)
          · refine gs_iconst (pc := 73) (gd gk_137 42 rfl) (1) rfl ?_
            refine gs_goto (pc := 74) (gd gk_137 43 rfl) ?_
            -- end 3: stop, pc 78, locals [(0, .ref (126)), (1, .int (so)), (2, .int (val p)), (3, .int (Int32.ofNat k)), (4, .int (v4_1))]
            obtain rfl : v4_1 = val k := by rw [hv4_1, ← hval]
            exact tail I_r true r2 (fun _ => ⟨hsu.mp c36, .inl (Int32.lt_iff_toInt_lt.mp c50)⟩) (fun e => by cases e)
          · refine gs_iload (pc := 53) (gd gk_137 33 rfl) rfl ?_
            refine gs_iload_n (pc := 55) (gd gk_137 34 rfl) rfl ?_
            refine gs_icmp_ne (pc := 56) (gd gk_137 35 rfl) (fun c56 => ?_) (fun c56 => ?_)
            · refine gs_iconst (pc := 77) (gd gk_137 44 rfl) (0) rfl ?_
              -- end 4: stop, pc 78, locals [(0, .ref (126)), (1, .int (so)), (2, .int (val p)), (3, .int (Int32.ofNat k)), (4, .int (v4_1))]
              obtain rfl : v4_1 = val k := by rw [hv4_1, ← hval]
              refine tail I_r false r2 (fun e => by cases e) (fun _ => .inl ?_)
              have a1 := Int32.le_iff_toInt_le.mp (Int32.not_lt.mp c50)
              have a2 : (val k).toInt ≠ (val p).toInt := fun e => c56 (Int32.toInt_inj.mp e)
              omega
            · refine gs_iload_n (pc := 59) (gd gk_137 36 rfl) rfl ?_
              refine gs_callS (as := [.int (Int32.ofNat k)]) (pc := 60) (gd gk_137 37 rfl) (by decide) rfl rfl (Nat.le_of_ble_eq_true rfl) gq_137_109 (Nat.le_of_ble_eq_true rfl) (c_ones (Int32.ofNat k)) (fun r_60 w_60 q_60 => ?_)
              obtain ⟨rfl, rfl⟩ := q_60
              refine gs_aload_n (pc := 63) (gd gk_137 38 rfl) rfl ?_
              refine gs_getI (pc := 64) (gd gk_137 39 rfl) rfl rfl ?_
              refine gs_callS (as := [.int ((I_r 126 23))]) (pc := 67) (gd gk_137 40 rfl) (by decide) rfl rfl (Nat.le_of_ble_eq_true rfl) gq_137_109 (Nat.le_of_ble_eq_true rfl) (c_ones ((I_r 126 23))) (fun r_67 w_67 q_67 => ?_)
              obtain ⟨rfl, rfl⟩ := q_67
              refine gs_icmp_ge (pc := 70) (gd gk_137 41 rfl) (fun c70 => ?_) (fun c70 => ?_)
              · refine gs_iconst (pc := 77) (gd gk_137 44 rfl) (0) rfl ?_
                -- end 5: stop, pc 78, locals [(0, .ref (126)), (1, .int (so)), (2, .int (val p)), (3, .int (Int32.ofNat k)), (4, .int (v4_1))]
                obtain rfl : v4_1 = val k := by rw [hv4_1, ← hval]
                rw [r2.2.2 23 (by omega), h3, gz_on_pc k (by omega), gz_on_pc p (by omega)] at c70
                have c70 := (zle (by have := gz_pc_le p; omega) (by have := gz_pc_le k; omega)).mp c70
                refine tail I_r false r2 (fun e => by cases e) (fun _ => .inr ⟨by rw [c56], by omega⟩)
              · refine gs_iconst (pc := 73) (gd gk_137 42 rfl) (1) rfl ?_
                refine gs_goto (pc := 74) (gd gk_137 43 rfl) ?_
                -- end 6: stop, pc 78, locals [(0, .ref (126)), (1, .int (so)), (2, .int (val p)), (3, .int (Int32.ofNat k)), (4, .int (v4_1))]
                obtain rfl : v4_1 = val k := by rw [hv4_1, ← hval]
                rw [r2.2.2 23 (by omega), h3, gz_on_pc k (by omega), gz_on_pc p (by omega)] at c70
                have c70 : ¬ gz_pc p ≤ gz_pc k := fun e => c70 ((zle (by have := gz_pc_le p; omega) (by have := gz_pc_le k; omega)).mpr e)
                refine tail I_r true r2 (fun _ => ⟨hsu.mp c36, .inr ⟨by rw [c56], by omega⟩⟩) (fun e => by cases e)
  refine gs_aload_n (pc := 0) (gd gk_137 0 rfl) rfl ?_
  refine gs_callV (as := []) (pc := 1) (gd gk_137 1 rfl) (by decide) rfl (by decide) rfl rfl (Nat.le_of_ble_eq_true rfl) gq_137_128 (Nat.le_of_ble_eq_true rfl) (m_winds) (fun r_1 w_1 q_1 => ?_)
  obtain ⟨rfl, I_w, rfl, w1, w2⟩ := q_1
  refine gs_aload_n (pc := 4) (gd gk_137 2 rfl) rfl ?_
  refine gs_iconst (pc := 5) (gd gk_137 3 rfl) (0) rfl ?_
  refine gs_putI (pc := 6) (gd gk_137 4 rfl) rfl rfl rfl rfl (fun I_1 hI_1 => ?_)
  refine gs_aload_n (pc := 9) (gd gk_137 5 rfl) rfl ?_
  refine gs_iconst (pc := 10) (gd gk_137 6 rfl) (0) rfl ?_
  refine gs_iload_n (pc := 11) (gd gk_137 7 rfl) rfl ?_
  refine gs_callV (as := [.int (0), .int (so)]) (pc := 12) (gd gk_137 8 rfl) (by decide) rfl (by decide) rfl rfl (Nat.le_of_ble_eq_true rfl) gq_137_134 (Nat.le_of_ble_eq_true rfl) (m_run0 (I0 := I) 0 so (gm_qf_tr (gm_qf_128 w2) (gm_qf_u hI_1 (by omega))) hn (fun h hh => by rw [hI_1, gw_u_o (by omega)]; exact w1 h hh)) (fun r_12 w_12 q_12 => ?_)
  obtain ⟨I_r, rfl, rfl, r1, r2⟩ := q_12
  refine gs_istore_n (ls2 := fun v => [(0, .ref (126)), (1, .int (so)), (2, .int (v))]) (pc := 15) (gd gk_137 9 rfl) (by rw [gL_137]; decide) (fun _ => rfl) (fun v2_1 hv2_1 => ?_)
  refine gs_iconst (pc := 16) (gd gk_137 10 rfl) (1) rfl ?_
  refine gs_istore_n (ls2 := fun v => [(0, .ref (126)), (1, .int (so)), (2, .int (v2_1)), (3, .int (v))]) (pc := 17) (gd gk_137 11 rfl) (by rw [gL_137]; decide) (fun _ => rfl) (fun v3_1 hv3_1 => ?_)
  obtain rfl : v3_1 = Int32.ofNat 1 := hv3_1.trans (by first | rfl | (simp only [Int32.ofNat_add, Int32.ofNat_mul]; rfl) | (simp only [Int32.ofNat_add, Int32.ofNat_mul]))
  -- end 1: stop, pc 18, locals [(0, .ref (126)), (1, .int (so)), (2, .int (v2_1)), (3, .int (Int32.ofNat 1))]
  obtain rfl : v2_1 = val 0 := by rw [hv2_1, ← hval]; rfl
  have hp0 := Nat.two_pow_pos W
  refine lp (2 ^ W - 1) 1 (by omega) (by omega) I_r 0 (gm_qf_tr (gm_qf_tr (gm_qf_128 w2) (gm_qf_u hI_1 (by omega))) (gm_rf_q r2)) (fun h hh => ?_) ?_ (by omega) ⟨Nat.zero_mod _, Nat.two_pow_pos _⟩ (fun q hq _ => ?_)
  · rw [r2.1 128 (by omega) (by omega) (by omega), hI_1, gw_u_o (by omega)]; exact w1 h hh
  · rw [r2.2.2 23 (by omega), hI_1, gw_u_s]; simp [upd]
  · obtain rfl : q = 0 := by omega
    exact gq_ge_rf val 0
theorem gm_val_63 (hn : gm_now I W N h0 L bc) : gm_val I N h0 L bc 63 = gq_val (gz_M I) N h0 L bc (I 133 10) (I 133) (fun _ => true) := by
  funext p
  exact gq_cm_k (gq_sim_rf _ N) (fun _ _ => rfl) (fun _ _ => rfl) (fun _ _ => rfl) (gm_all hn.1.2.2.2.1) (gq_ok_n hn.1) L (Nat.le_refl L)
theorem m_best (pn : Bool) (hn : gm_now I W N h0 L bc) : gw_E V 138 (0, [(0, .ref 126), (1, .int (gz_b pn))], [], gS n I J, 0, 0) (fun v w' => ∃ I2 p, w' = gS n I2 J ∧ gm_qf I I2 ∧ gq_bst (gq_val (gz_M I) N h0 L bc (I 133 10) (I 133) (fun _ => true)) h0 L p ∧ v = some (.int (if pn then gq_val (gz_M I) N h0 L bc (I 133 10) (I 133) (fun _ => true) p else Int32.ofNat p))) := by
  refine gs_aload_n (pc := 0) (gd gk_138 0 rfl) rfl ?_
  refine gs_bipush (pc := 1) (gd gk_138 1 rfl) (63) rfl ?_
  refine gs_callV (as := [.int (63)]) (pc := 3) (gd gk_138 2 rfl) (by decide) rfl (by decide) rfl rfl (Nat.le_of_ble_eq_true rfl) gq_138_137 (Nat.le_of_ble_eq_true rfl) (m_bestBy 63 hn) (fun r_3 w_3 q_3 => ?_)
  obtain ⟨I_b, p, rfl, b1, b2, rfl, b3⟩ := q_3
  rw [gm_val_63 hn] at b3
  refine gs_istore_n (ls2 := fun v => [(0, .ref (126)), (1, .int (gz_b pn)), (2, .int (v))]) (pc := 6) (gd gk_138 3 rfl) (by rw [gL_138]; decide) (fun _ => rfl) (fun v2_1 hv2_1 => ?_)
  refine gs_iload_n (pc := 7) (gd gk_138 4 rfl) rfl ?_
  refine gs_if_eq (pc := 8) (gd gk_138 5 rfl) (fun c8 => ?_) (fun c8 => ?_)
  · refine gs_aload_n (pc := 15) (gd gk_138 8 rfl) rfl ?_
    refine gs_getI (pc := 16) (gd gk_138 9 rfl) rfl rfl ?_
    -- end 1: ireturn (I_b 126 23), pc 19, locals [(0, .ref (126)), (1, .int (gz_b pn)), (2, .int (v2_1))]
    exact gs_iret (pc := 19) (gd gk_138 10 rfl) rfl (rfl) (Nat.zero_le _) (Nat.zero_le _) (⟨I_b, p, rfl, b1, b3, by rw [b2, gz_b_eq.mp c8]; rfl⟩)
  · refine gs_iload_n (pc := 11) (gd gk_138 6 rfl) rfl ?_
    refine gs_goto (pc := 12) (gd gk_138 7 rfl) ?_
    -- end 2: ireturn v2_1, pc 19, locals [(0, .ref (126)), (1, .int (gz_b pn)), (2, .int (v2_1))]
    exact gs_iret (pc := 19) (gd gk_138 10 rfl) rfl (rfl) (Nat.zero_le _) (Nat.zero_le _) (⟨I_b, p, rfl, b1, b3, by rw [hv2_1, gm_val_63 hn, gz_b_ne.mp c8]; rfl⟩)
end
end
section
/-! ===== the reference: bestChimney, only ===== -/
section
variable {V : gw_V} {n W N h0 L bc : Nat} {I : Nat → Nat → Int32} {J : Nat → Nat → Int64}
theorem gz_xx (a b : Int32) : (a ^^^ b) ^^^ b = a := by rw [Int32.xor_assoc, Int32.xor_self, Int32.xor_zero]
theorem gq_bst_0 {val : Nat → Int32} {h0 : Nat} : gq_bst val h0 0 0 := by
  refine ⟨⟨Nat.zero_mod _, Nat.two_pow_pos _⟩, fun q hq => ?_⟩
  obtain ⟨a, b⟩ := hq
  rw [Nat.add_zero] at b
  rw [Nat.mod_eq_of_lt b] at a
  rw [a]
  exact gq_ge_rf val 0
theorem gq_bc_0 {val : Nat → Int32} {valc : Nat → Nat → Int32} {h0 : Nat} (h : val 0 = 0) (hc : ∀ c, valc c 0 = 0) : ∀ k, gq_bc val valc h0 0 k 0 (-99)
  | 0 => ⟨⟨0, gq_bst_0, h.symm⟩, rfl⟩
  | k + 1 => ⟨0, -99, 0, gq_bc_0 h hc k, ⟨0, gq_bst_0, (hc k).symm⟩, by rw [if_neg (by decide)], by rw [if_neg (by decide)]⟩
abbrev mq_bch (n : Nat) (I : Nat → Nat → Int32) (J : Nat → Nat → Int64) (N h0 L bc : Nat) : Option Value → gw_W → Prop := fun v w' => ∃ I2 x f, w' = gS n I2 J ∧ gm_qf I I2 ∧ gq_bc (gq_val (gz_M I) N h0 L bc (I 133 10) (I 133) (fun _ => true)) (fun c => gq_val (gz_M I) N h0 L bc (gq_tc (I 133 10) c) (I 133) (fun _ => true)) h0 L 10 x f ∧ v = some (.int f)
theorem m_bestChimney (hn : gm_now I W N h0 L bc) : gw_E V 139 (0, [(0, .ref 126)], [], gS n I J, 0, 0) (mq_bch n I J N h0 L bc) := by
  obtain ⟨hok, hh, hW, hbc, hb9⟩ := id hn
  have hW8 : W ≤ 8 := hok.2.1
  have hW3 : I 126 3 = Int32.ofNat W := hok.1
  generalize hval : gq_val (gz_M I) N h0 L bc (I 133 10) (I 133) (fun _ => true) = val
  generalize hvalc : (fun c => gq_val (gz_M I) N h0 L bc (gq_tc (I 133 10) c) (I 133) (fun _ => true)) = valc
  have lp : ∀ (m k : Nat), m + k = 10 → ∀ I1 x f, gm_qf I I1 → gq_bc val valc h0 L k x f → gw_E V 139 (29, [(0, .ref 126), (1, .int x), (2, .int f), (3, .int (Int32.ofNat k))], [], gS n I1 J, 0, 0) (mq_bch n I J N h0 L bc) := by
    intro m
    induction m with
    | zero =>
      intro k hk I1 x f h1 h2
      obtain rfl : k = 10 := by omega
      refine gs_iload_n (pc := 29) (gd gk_139 17 rfl) rfl ?_
      refine gs_bipush (pc := 30) (gd gk_139 18 rfl) (10) rfl ?_
      refine gs_icmp_ge (pc := 32) (gd gk_139 19 rfl) (fun c32 => ?_) (fun c32 => ?_)
      · replace c32 : 10 ≤ 10 := (zle (k := 10) (m := 10) (by omega) (by omega)).mp c32
        refine gs_iload_n (pc := 100) (gd gk_139 60 rfl) rfl ?_
        -- end 1: ireturn f, pc 101, locals [(0, .ref (126)), (1, .int (x)), (2, .int (f)), (3, .int (Int32.ofNat 10))]
        exact gs_iret (pc := 101) (gd gk_139 61 rfl) rfl (rfl) (Nat.zero_le _) (Nat.zero_le _) (⟨I1, x, f, rfl, h1, by rw [hval, hvalc]; exact h2, rfl⟩)
      · replace c32 : ¬ (10 ≤ 10) := fun q9 => c32 ((zle (k := 10) (m := 10) (by omega) (by omega)).mpr q9)
        -- end 2: stop, pc 35, locals [(0, .ref (126)), (1, .int (x)), (2, .int (f)), (3, .int (Int32.ofNat 10))]
        exact absurd (by decide) c32
    | succ m ih =>
      intro k hk I1 x f h1 h2
      have hn1 := gm_qf_now h1 hn
      have tail : ∀ I2 y, gm_qf I I2 → gq_bv (valc k) h0 L y → gw_E V 139 (69, [(0, .ref 126), (1, .int x), (2, .int f), (3, .int (Int32.ofNat k)), (4, .int y)], [], gS n I2 J, 0, 0) (mq_bch n I J N h0 L bc) := by
        intro I2 y t1 t2
        refine gs_iload (pc := 69) (gd gk_139 44 rfl) rfl ?_
        refine gs_iload_n (pc := 71) (gd gk_139 45 rfl) rfl ?_
        refine gs_icmp_le (pc := 72) (gd gk_139 46 rfl) (fun c72 => ?_) (fun c72 => ?_)
        · refine gs_iload_n (pc := 79) (gd gk_139 49 rfl) rfl ?_
          refine gs_istore_n (ls2 := fun v => [(0, .ref (126)), (1, .int (x)), (2, .int (v)), (3, .int (Int32.ofNat k)), (4, .int (y))]) (pc := 80) (gd gk_139 50 rfl) (by rw [gL_139]; decide) (fun _ => rfl) (fun v2_1 hv2_1 => ?_)
          refine gs_iload (pc := 81) (gd gk_139 51 rfl) rfl ?_
          refine gs_iload_n (pc := 83) (gd gk_139 52 rfl) rfl ?_
          refine gs_icmp_le (pc := 84) (gd gk_139 53 rfl) (fun c84 => ?_) (fun c84 => ?_)
          · refine gs_iload_n (pc := 92) (gd gk_139 56 rfl) rfl ?_
            refine gs_istore_n (ls2 := fun v => [(0, .ref (126)), (1, .int (v)), (2, .int (v2_1)), (3, .int (Int32.ofNat k)), (4, .int (y))]) (pc := 93) (gd gk_139 57 rfl) (by rw [gL_139]; decide) (fun _ => rfl) (fun v1_1 hv1_1 => ?_)
            refine gs_iinc (ls2 := fun v => [(0, .ref (126)), (1, .int (v1_1)), (2, .int (v2_1)), (3, .int (v)), (4, .int (y))]) (pc := 94) (gd gk_139 58 rfl) rfl (by rw [gL_139]; decide) (fun _ => rfl) (1) rfl (fun v3_1 hv3_1 => ?_)
            obtain rfl : v3_1 = Int32.ofNat (k + 1) := hv3_1.trans (by first | rfl | (simp only [Int32.ofNat_add, Int32.ofNat_mul]; rfl) | (simp only [Int32.ofNat_add, Int32.ofNat_mul]))
            refine gs_goto (pc := 97) (gd gk_139 59 rfl) ?_
            -- end 1: stop, pc 29, locals [(0, .ref (126)), (1, .int (v1_1)), (2, .int (v2_1)), (3, .int (Int32.ofNat (k + 1))), (4, .int (y))]
            obtain rfl := hv2_1
            obtain rfl := hv1_1
            exact gs_drop [0, 1, 2, 3] rfl (ih (k + 1) (by omega) I2 _ _ t1 ⟨_, _, y, h2, t2, by rw [if_neg (Int32.not_lt.mpr c72)], by rw [if_neg (Int32.not_lt.mpr c72)]⟩)
          · refine gs_iload (pc := 87) (gd gk_139 54 rfl) rfl ?_
            refine gs_goto (pc := 89) (gd gk_139 55 rfl) ?_
            refine gs_istore_n (ls2 := fun v => [(0, .ref (126)), (1, .int (v)), (2, .int (v2_1)), (3, .int (Int32.ofNat k)), (4, .int (y))]) (pc := 93) (gd gk_139 57 rfl) (by rw [gL_139]; decide) (fun _ => rfl) (fun v1_2 hv1_2 => ?_)
            refine gs_iinc (ls2 := fun v => [(0, .ref (126)), (1, .int (v1_2)), (2, .int (v2_1)), (3, .int (v)), (4, .int (y))]) (pc := 94) (gd gk_139 58 rfl) rfl (by rw [gL_139]; decide) (fun _ => rfl) (1) rfl (fun v3_2 hv3_2 => ?_)
            obtain rfl : v3_2 = Int32.ofNat (k + 1) := hv3_2.trans (by first | rfl | (simp only [Int32.ofNat_add, Int32.ofNat_mul]; rfl) | (simp only [Int32.ofNat_add, Int32.ofNat_mul]))
            refine gs_goto (pc := 97) (gd gk_139 59 rfl) ?_
            -- end 2: stop, pc 29, locals [(0, .ref (126)), (1, .int (v1_2)), (2, .int (v2_1)), (3, .int (Int32.ofNat (k + 1))), (4, .int (y))]
            exact absurd c72 c84
        · refine gs_iload_n (pc := 75) (gd gk_139 47 rfl) rfl ?_
          refine gs_goto (pc := 76) (gd gk_139 48 rfl) ?_
          refine gs_istore_n (ls2 := fun v => [(0, .ref (126)), (1, .int (x)), (2, .int (v)), (3, .int (Int32.ofNat k)), (4, .int (y))]) (pc := 80) (gd gk_139 50 rfl) (by rw [gL_139]; decide) (fun _ => rfl) (fun v2_2 hv2_2 => ?_)
          obtain rfl : v2_2 = Int32.ofNat k := hv2_2.trans (by first | rfl | (simp only [Int32.ofNat_add, Int32.ofNat_mul]; rfl) | (simp only [Int32.ofNat_add, Int32.ofNat_mul]))
          refine gs_iload (pc := 81) (gd gk_139 51 rfl) rfl ?_
          refine gs_iload_n (pc := 83) (gd gk_139 52 rfl) rfl ?_
          refine gs_icmp_le (pc := 84) (gd gk_139 53 rfl) (fun c84 => ?_) (fun c84 => ?_)
          · refine gs_iload_n (pc := 92) (gd gk_139 56 rfl) rfl ?_
            refine gs_istore_n (ls2 := fun v => [(0, .ref (126)), (1, .int (v)), (2, .int (Int32.ofNat k)), (3, .int (Int32.ofNat k)), (4, .int (y))]) (pc := 93) (gd gk_139 57 rfl) (by rw [gL_139]; decide) (fun _ => rfl) (fun v1_3 hv1_3 => ?_)
            refine gs_iinc (ls2 := fun v => [(0, .ref (126)), (1, .int (v1_3)), (2, .int (Int32.ofNat k)), (3, .int (v)), (4, .int (y))]) (pc := 94) (gd gk_139 58 rfl) rfl (by rw [gL_139]; decide) (fun _ => rfl) (1) rfl (fun v3_3 hv3_3 => ?_)
            obtain rfl : v3_3 = Int32.ofNat (k + 1) := hv3_3.trans (by first | rfl | (simp only [Int32.ofNat_add, Int32.ofNat_mul]; rfl) | (simp only [Int32.ofNat_add, Int32.ofNat_mul]))
            refine gs_goto (pc := 97) (gd gk_139 59 rfl) ?_
            -- end 3: stop, pc 29, locals [(0, .ref (126)), (1, .int (v1_3)), (2, .int (Int32.ofNat k)), (3, .int (Int32.ofNat (k + 1))), (4, .int (y))]
            exact absurd c84 c72
          · refine gs_iload (pc := 87) (gd gk_139 54 rfl) rfl ?_
            refine gs_goto (pc := 89) (gd gk_139 55 rfl) ?_
            refine gs_istore_n (ls2 := fun v => [(0, .ref (126)), (1, .int (v)), (2, .int (Int32.ofNat k)), (3, .int (Int32.ofNat k)), (4, .int (y))]) (pc := 93) (gd gk_139 57 rfl) (by rw [gL_139]; decide) (fun _ => rfl) (fun v1_4 hv1_4 => ?_)
            refine gs_iinc (ls2 := fun v => [(0, .ref (126)), (1, .int (v1_4)), (2, .int (Int32.ofNat k)), (3, .int (v)), (4, .int (y))]) (pc := 94) (gd gk_139 58 rfl) rfl (by rw [gL_139]; decide) (fun _ => rfl) (1) rfl (fun v3_4 hv3_4 => ?_)
            obtain rfl : v3_4 = Int32.ofNat (k + 1) := hv3_4.trans (by first | rfl | (simp only [Int32.ofNat_add, Int32.ofNat_mul]; rfl) | (simp only [Int32.ofNat_add, Int32.ofNat_mul]))
            refine gs_goto (pc := 97) (gd gk_139 59 rfl) ?_
            -- end 4: stop, pc 29, locals [(0, .ref (126)), (1, .int (v1_4)), (2, .int (Int32.ofNat k)), (3, .int (Int32.ofNat (k + 1))), (4, .int (y))]
            obtain rfl := hv1_4
            exact gs_drop [0, 1, 2, 3] rfl (ih (k + 1) (by omega) I2 _ _ t1 ⟨_, _, _, h2, t2, by rw [if_pos (Int32.not_le.mp c72)], by rw [if_pos (Int32.not_le.mp c72)]⟩)
      refine gs_iload_n (pc := 29) (gd gk_139 17 rfl) rfl ?_
      refine gs_bipush (pc := 30) (gd gk_139 18 rfl) (10) rfl ?_
      refine gs_icmp_ge (pc := 32) (gd gk_139 19 rfl) (fun c32 => ?_) (fun c32 => ?_)
      · replace c32 : 10 ≤ k := (zle (k := 10) (m := k) (by omega) (by omega)).mp c32
        refine gs_iload_n (pc := 100) (gd gk_139 60 rfl) rfl ?_
        -- end 1: ireturn f, pc 101, locals [(0, .ref (126)), (1, .int (x)), (2, .int (f)), (3, .int (Int32.ofNat k))]
        exact absurd c32 (by omega)
      · replace c32 : ¬ (10 ≤ k) := fun q9 => c32 ((zle (k := 10) (m := k) (by omega) (by omega)).mpr q9)
        refine gs_aload_n (pc := 35) (gd gk_139 20 rfl) rfl ?_
        refine gs_getR (r := 133) (pc := 36) (gd gk_139 21 rfl) rfl rfl rfl (by decide) ?_
        refine gs_bipush (pc := 39) (gd gk_139 22 rfl) (10) rfl ?_
        refine gs_dup2 (pc := 41) (gd gk_139 23 rfl) rfl rfl ?_
        refine gs_ialoadK (10) (52) (pc := 42) (gd gk_139 24 rfl) (Or.inl rfl) rfl (by decide) (by first | rfl | (simp only [Int32.ofNat_add, Int32.ofNat_mul]; rfl) | (simp only [Int32.ofNat_add, Int32.ofNat_mul])) (by omega) ?_
        refine gs_iconst (pc := 43) (gd gk_139 25 rfl) (1) rfl ?_
        refine gs_iload_n (pc := 44) (gd gk_139 26 rfl) rfl ?_
        refine gs_ishl (pc := 45) (gd gk_139 27 rfl) ?_
        refine gs_ixor (pc := 46) (gd gk_139 28 rfl) ?_
        refine gs_iastoreK (10) (52) gs_sl (pc := 47) (gd gk_139 29 rfl) rfl rfl (by decide) (by first | rfl | (simp only [Int32.ofNat_add, Int32.ofNat_mul]; rfl) | (simp only [Int32.ofNat_add, Int32.ofNat_mul])) (by omega) (fun I_1 hI_1 => ?_)
        have o1 : ∀ p, p ≠ 133 → I_1 p = I1 p := fun p q => by rw [hI_1, gw_u_o q]
        have o2 : ∀ q, q ≠ 10 → I_1 133 q = I1 133 q := fun q hq => by rw [hI_1, gw_u_s]; simp [upd, hq]
        have o3 : I_1 133 10 = gq_tc (I 133 10) k := by rw [hI_1, gw_u_s]; simp [upd]; rw [h1.2.1 10 (by omega)]
        have oM : gz_M I_1 = gz_M I := (gz_M_eq (fun k _ => by rw [o1 126 (by omega)]) (o1 127 (by omega)) (o1 129 (by omega))).trans (gm_qf_M h1)
        have on : gm_now I_1 W N h0 L bc := ⟨by rw [oM]; exact hok, by rw [o2 12 (by omega)]; exact hn1.2.1, hW, by rw [o1 126 (by omega)]; exact hn1.2.2.2.1, hb9⟩
        refine gs_aload_n (pc := 48) (gd gk_139 30 rfl) rfl ?_
        refine gs_bipush (pc := 49) (gd gk_139 31 rfl) (63) rfl ?_
        refine gs_callV (as := [.int (63)]) (pc := 51) (gd gk_139 32 rfl) (by decide) rfl (by decide) rfl rfl (Nat.le_of_ble_eq_true rfl) gq_139_137 (Nat.le_of_ble_eq_true rfl) (m_bestBy 63 on) (fun r_51 w_51 q_51 => ?_)
        obtain ⟨I_b, p, rfl, b1, b2, rfl, b3⟩ := q_51
        have hvv : gm_val I_1 N h0 L bc 63 = valc k := by rw [gm_val_63 on, oM, o3, ← hvalc, gq_val_c (s2 := I 133) (fun c hc => by rw [o2 c (by omega)]; exact h1.2.1 c (by omega)) (gq_ok_n hok)]
        rw [hvv] at b3
        refine gs_istore (ls2 := fun v => [(0, .ref (126)), (1, .int (x)), (2, .int (f)), (3, .int (Int32.ofNat k)), (4, .int (v))]) (pc := 54) (gd gk_139 33 rfl) (by rw [gL_139]; decide) (fun _ => rfl) (fun v4_1 hv4_1 => ?_)
        refine gs_aload_n (pc := 56) (gd gk_139 34 rfl) rfl ?_
        refine gs_getR (r := 133) (pc := 57) (gd gk_139 35 rfl) rfl rfl rfl (by decide) ?_
        refine gs_bipush (pc := 60) (gd gk_139 36 rfl) (10) rfl ?_
        refine gs_dup2 (pc := 62) (gd gk_139 37 rfl) rfl rfl ?_
        refine gs_ialoadK (10) (52) (pc := 63) (gd gk_139 38 rfl) (Or.inl rfl) rfl (by decide) (by first | rfl | (simp only [Int32.ofNat_add, Int32.ofNat_mul]; rfl) | (simp only [Int32.ofNat_add, Int32.ofNat_mul])) (by omega) ?_
        refine gs_iconst (pc := 64) (gd gk_139 39 rfl) (1) rfl ?_
        refine gs_iload_n (pc := 65) (gd gk_139 40 rfl) rfl ?_
        refine gs_ishl (pc := 66) (gd gk_139 41 rfl) ?_
        refine gs_ixor (pc := 67) (gd gk_139 42 rfl) ?_
        refine gs_iastoreK (10) (52) gs_sl (pc := 68) (gd gk_139 43 rfl) rfl rfl (by decide) (by first | rfl | (simp only [Int32.ofNat_add, Int32.ofNat_mul]; rfl) | (simp only [Int32.ofNat_add, Int32.ofNat_mul])) (by omega) (fun I_2 hI_2 => ?_)
        -- end 2: stop, pc 69, locals [(0, .ref (126)), (1, .int (x)), (2, .int (f)), (3, .int (Int32.ofNat k)), (4, .int (v4_1))]
        have hq2 : gm_qf I I_2 := by
          refine ⟨fun p q1 q2 q3 q4 q5 q6 q7 q8 q9 q10 => ?_, fun q hq => ?_, fun q q1 q2 q3 q4 q5 q6 q7 q8 => ?_⟩
          · rw [hI_2, gw_u_o q6, b1.1 p q1 q2 q3 q4 q5 q6 q7 q8 q9 q10, o1 p q6]; exact h1.1 p q1 q2 q3 q4 q5 q6 q7 q8 q9 q10
          · rw [hI_2, gw_u_s]
            unfold upd
            by_cases e : q = 10
            · rw [if_pos e, e, b1.2.1 10 (by omega), o3]; exact gz_xx _ _
            · rw [if_neg e, b1.2.1 q hq, o2 q e]; exact h1.2.1 q hq
          · rw [hI_2, gw_u_o (by omega), b1.2.2 q q1 q2 q3 q4 q5 q6 q7 q8, o1 126 (by omega)]; exact h1.2.2 q q1 q2 q3 q4 q5 q6 q7 q8
        exact tail I_2 _ hq2 ⟨p, b3, by rw [hv4_1, hvv]⟩
  refine gs_aload_n (pc := 0) (gd gk_139 0 rfl) rfl ?_
  refine gs_getR (r := 133) (pc := 1) (gd gk_139 1 rfl) rfl rfl rfl (by decide) ?_
  refine gs_bipush (pc := 4) (gd gk_139 2 rfl) (12) rfl ?_
  refine gs_ialoadK (12) (52) (pc := 6) (gd gk_139 3 rfl) (Or.inl rfl) rfl (by decide) (by first | rfl | (simp only [Int32.ofNat_add, Int32.ofNat_mul]; rfl) | (simp only [Int32.ofNat_add, Int32.ofNat_mul])) (by omega) ?_
  refine gs_as (Int32.ofNat h0) (hh) ?_
  refine gs_aload_n (pc := 7) (gd gk_139 4 rfl) rfl ?_
  refine gs_getI (pc := 8) (gd gk_139 5 rfl) rfl rfl ?_
  refine gs_as (Int32.ofNat W) (hW3) ?_
  refine gs_icmp_ne (pc := 11) (gd gk_139 6 rfl) (fun c11 => ?_) (fun c11 => ?_)
  · replace c11 : ¬ (h0 = W) := fun q9 => c11 ((zeq (k := h0) (m := W) (by omega) (by omega)).mpr q9)
    refine gs_aload_n (pc := 17) (gd gk_139 9 rfl) rfl ?_
    refine gs_bipush (pc := 18) (gd gk_139 10 rfl) (63) rfl ?_
    refine gs_callV (as := [.int (63)]) (pc := 20) (gd gk_139 11 rfl) (by decide) rfl (by decide) rfl rfl (Nat.le_of_ble_eq_true rfl) gq_139_137 (Nat.le_of_ble_eq_true rfl) (m_bestBy 63 hn) (fun r_20 w_20 q_20 => ?_)
    obtain ⟨I_b, p, rfl, b1, b2, rfl, b3⟩ := q_20
    rw [gm_val_63 hn] at b3
    refine gs_istore_n (ls2 := fun v => [(0, .ref (126)), (1, .int (v))]) (pc := 23) (gd gk_139 12 rfl) (by rw [gL_139]; decide) (fun _ => rfl) (fun v1_1 hv1_1 => ?_)
    refine gs_bipush (pc := 24) (gd gk_139 13 rfl) (-99) rfl ?_
    refine gs_istore_n (ls2 := fun v => [(0, .ref (126)), (1, .int (v1_1)), (2, .int (v))]) (pc := 26) (gd gk_139 14 rfl) (by rw [gL_139]; decide) (fun _ => rfl) (fun v2_1 hv2_1 => ?_)
    refine gs_iconst (pc := 27) (gd gk_139 15 rfl) (0) rfl ?_
    refine gs_istore_n (ls2 := fun v => [(0, .ref (126)), (1, .int (v1_1)), (2, .int (v2_1)), (3, .int (v))]) (pc := 28) (gd gk_139 16 rfl) (by rw [gL_139]; decide) (fun _ => rfl) (fun v3_1 hv3_1 => ?_)
    obtain rfl : v3_1 = Int32.ofNat 0 := hv3_1.trans (by first | rfl | (simp only [Int32.ofNat_add, Int32.ofNat_mul]; rfl) | (simp only [Int32.ofNat_add, Int32.ofNat_mul]))
    -- end 1: stop, pc 29, locals [(0, .ref (126)), (1, .int (v1_1)), (2, .int (v2_1)), (3, .int (Int32.ofNat 0))]
    refine lp 10 0 rfl I_b _ _ b1 ⟨⟨p, by rw [hval] at b3; exact b3, ?_⟩, ?_⟩
    · rw [hv1_1, gm_val_63 hn, hval]
    · exact hv2_1
  · replace c11 : h0 = W := (zeq (k := h0) (m := W) (by omega) (by omega)).mp c11
    refine gs_bipush (pc := 14) (gd gk_139 7 rfl) (-99) rfl ?_
    -- end 2: ireturn (-99), pc 16, locals [(0, .ref (126))]
    obtain rfl : L = 0 := by omega
    exact gs_iret (pc := 16) (gd gk_139 8 rfl) rfl (rfl) (Nat.zero_le _) (Nat.zero_le _) (⟨I, 0, -99, rfl, gm_qf_rf I, gq_bc_0 rfl (fun _ => rfl) 10, rfl⟩)
abbrev gm_hv (I : Nat → Nat → Int32) (N h0 L bc : Nat) : Nat → Int32 := gq_hv (gz_M I) N h0 L bc (I 133 10) (I 133)
def gq_oi (hv : Nat → Int32) (told : Int32) (h0 L k : Nat) (x : Int32) : Prop := (∃ p, x = Int32.ofNat p ∧ p < k ∧ gz_su p h0 L ∧ hv p = told ∧ ∀ q, q < k → gz_su q h0 L → hv q = told → gq_le p q) ∨ (x = -99 ∧ ∀ q, q < k → gz_su q h0 L → hv q ≠ told)
theorem gq_oi_k {hv : Nat → Int32} {told : Int32} {h0 L k : Nat} {x : Int32} (h : gq_oi hv told h0 L k x) (h1 : ∀ p, x = Int32.ofNat p → p < k → gz_su k h0 L → hv k = told → gq_le p k) (h2 : x = -99 → gz_su k h0 L → hv k ≠ told) : gq_oi hv told h0 L (k + 1) x := by
  rcases h with ⟨p, a1, a2, a3, a4, a5⟩ | ⟨a1, a2⟩
  · refine .inl ⟨p, a1, by omega, a3, a4, fun q hq hs hh => ?_⟩
    by_cases e : q = k
    · subst e; exact h1 p a1 a2 hs hh
    · exact a5 q (by omega) hs hh
  · refine .inr ⟨a1, fun q hq hs => ?_⟩
    by_cases e : q = k
    · subst e; exact h2 a1 hs
    · exact a2 q (by omega) hs
theorem gq_oi_n {hv : Nat → Int32} {told : Int32} {h0 L k : Nat} {x : Int32} (h : gq_oi hv told h0 L k x) (h1 : ∀ p, x = Int32.ofNat p → p < k → gq_le k p) (h2 : gz_su k h0 L) (h3 : hv k = told) : gq_oi hv told h0 L (k + 1) (Int32.ofNat k) := by
  refine .inl ⟨k, rfl, by omega, h2, h3, fun q hq hs hh => ?_⟩
  by_cases e : q = k
  · subst e; exact .inr ⟨rfl, Nat.le_refl _⟩
  · rcases h with ⟨p, a1, a2, a3, a4, a5⟩ | ⟨a1, a2⟩
    · exact gq_le_tr (h1 p a1 a2) (a5 q (by omega) hs hh)
    · exact absurd hh (a2 q (by omega) hs)
theorem gz_n99 : ∀ p, p < 256 → Int32.ofNat p ≠ -99 := by decide +kernel
abbrev mq_only (n : Nat) (I : Nat → Nat → Int32) (J : Nat → Nat → Int64) (N h0 L bc : Nat) (told : Int32) : Option Value → gw_W → Prop := fun v w' => ∃ I2 x, w' = gS n I2 J ∧ gm_qf I I2 ∧ gq_oa (gm_hv I N h0 L bc) told N h0 L x ∧ v = some (.int x)
theorem m_only (told : Int32) (hn : gm_now I W N h0 L bc) : gw_E V 146 (0, [(0, .ref 126), (1, .int told)], [], gS n I J, 0, 0) (mq_only n I J N h0 L bc told) := by
  obtain ⟨hok, hh, hW, hbc, hb9⟩ := id hn
  have hW8 : W ≤ 8 := hok.2.1
  have hN : I 126 4 = Int32.ofNat N := hok.2.2.1
  have hN6 : N ≤ 6 := hok.2.2.2.1
  generalize hval : gm_hv I N h0 L bc = hv
  have hpw : 2 ^ W ≤ 256 := Nat.le_trans (Nat.pow_le_pow_right (by omega) hW8) (by decide)
  have lp : gz_rg told 0 (Int32.ofNat (2 ^ N) - 1) = true → ∀ (m k : Nat), m + k = 2 ^ W → ∀ I1 x, gm_qf I I1 → (∀ h, h < 8 → I1 128 h = I 127 h) → gq_oi hv told h0 L k x → gw_E V 146 (30, [(0, .ref 126), (1, .int told), (2, .int x), (3, .int (Int32.ofNat k))], [], gS n I1 J, 0, 0) (mq_only n I J N h0 L bc told) := by
    intro hrg m
    induction m with
    | zero =>
      intro k hk I1 x h1 h2 h3
      obtain rfl : k = 2 ^ W := by omega
      have hW31 : I1 126 3 = Int32.ofNat W := (gm_qf_now h1 hn).1.1
      refine gs_iload_n (pc := 30) (gd gk_146 20 rfl) rfl ?_
      refine gs_iconst (pc := 31) (gd gk_146 21 rfl) (1) rfl ?_
      refine gs_aload_n (pc := 32) (gd gk_146 22 rfl) rfl ?_
      refine gs_getI (pc := 33) (gd gk_146 23 rfl) rfl rfl ?_
      refine gs_as (Int32.ofNat W) (hW31) ?_
      refine gs_ishl (pc := 36) (gd gk_146 24 rfl) ?_
      refine gs_icmp_ge (pc := 37) (gd gk_146 25 rfl) (fun c37 => ?_) (fun c37 => ?_)
      · refine gs_iload_n (pc := 96) (gd gk_146 56 rfl) rfl ?_
        -- end 1: ireturn x, pc 97, locals [(0, .ref (126)), (1, .int (told)), (2, .int (x)), (3, .int (Int32.ofNat (2 ^ W)))]
        exact gs_iret (pc := 97) (gd gk_146 57 rfl) rfl (rfl) (Nat.zero_le _) (Nat.zero_le _) (⟨I1, x, rfl, h1, by
          unfold gq_oa
          rw [if_pos hrg, hval]
          rcases h3 with ⟨p, a1, a2, a3, a4, a5⟩ | ⟨a1, a2⟩
          · exact .inl ⟨p, a1, a3, a4, fun q hq hh => a5 q (by rw [← hW]; exact hq.2) hq hh⟩
          · exact .inr ⟨a1, fun q hq => a2 q (by rw [← hW]; exact hq.2) hq⟩, rfl⟩)
      · -- end 2: stop, pc 40, locals [(0, .ref (126)), (1, .int (told)), (2, .int (x)), (3, .int (Int32.ofNat (2 ^ W)))]
        exact absurd (by rw [gz_shl W (by omega)]; exact Int32.le_refl _) c37
    | succ m ih =>
      intro k hk I1 x h1 h2 h3
      have hn1 := gm_qf_now h1 hn
      have hW31 : I1 126 3 = Int32.ofNat W := hn1.1.1
      have hsu : Int32.ofNat k &&& (gz_lf W h0 ^^^ -1) = 0 ↔ gz_su k h0 L := by rw [← hW]; exact gz_lf_su (by omega) (by rw [hW]; omega)
      have r128 : ∀ {I2}, gm_rf I1 I2 → ∀ h, h < 8 → I2 128 h = I 127 h := fun r h hh => by rw [r.1 128 (by omega) (by omega) (by omega)]; exact h2 h hh
      have rk : hv k = gq_hd (gz_M I) (gq_w0 (gz_M I) h0) (gq_p0 (Int32.ofNat k) h0) bc (I 133 10) (I 133) N L := by rw [← hval]
      have on65 : ∀ p, x = Int32.ofNat p → p < k → gz_on x 8 = Int32.ofNat (gz_pc p) ∧ gz_on (Int32.ofNat k) 8 = Int32.ofNat (gz_pc k) := fun p e1 e2 => ⟨by rw [e1]; exact gz_on_pc p (by omega), gz_on_pc k (by omega)⟩
      refine gs_iload_n (pc := 30) (gd gk_146 20 rfl) rfl ?_
      refine gs_iconst (pc := 31) (gd gk_146 21 rfl) (1) rfl ?_
      refine gs_aload_n (pc := 32) (gd gk_146 22 rfl) rfl ?_
      refine gs_getI (pc := 33) (gd gk_146 23 rfl) rfl rfl ?_
      refine gs_as (Int32.ofNat W) (hW31) ?_
      refine gs_ishl (pc := 36) (gd gk_146 24 rfl) ?_
      refine gs_icmp_ge (pc := 37) (gd gk_146 25 rfl) (fun c37 => ?_) (fun c37 => ?_)
      · refine gs_iload_n (pc := 96) (gd gk_146 56 rfl) rfl ?_
        -- end 1: ireturn x, pc 97, locals [(0, .ref (126)), (1, .int (told)), (2, .int (x)), (3, .int (Int32.ofNat k))]
        rw [gz_shl W (by omega)] at c37
        exact absurd ((zle (by omega) (by omega)).mp c37) (by omega)
      · refine gs_iload_n (pc := 40) (gd gk_146 26 rfl) rfl ?_
        refine gs_aload_n (pc := 41) (gd gk_146 27 rfl) rfl ?_
        refine gs_callV (as := []) (pc := 42) (gd gk_146 28 rfl) (by decide) rfl (by decide) rfl rfl (Nat.le_of_ble_eq_true rfl) gq_146_135 (Nat.le_of_ble_eq_true rfl) (m_left hn1) (fun r_42 w_42 q_42 => ?_)
        obtain ⟨rfl, rfl⟩ := q_42
        refine gs_iconst (pc := 45) (gd gk_146 29 rfl) (-1) rfl ?_
        refine gs_ixor (pc := 46) (gd gk_146 30 rfl) ?_
        refine gs_iand (pc := 47) (gd gk_146 31 rfl) ?_
        refine gs_if_ne (pc := 48) (gd gk_146 32 rfl) (fun c48 => ?_) (fun c48 => ?_)
        · refine gs_iinc (ls2 := fun v => [(0, .ref (126)), (1, .int (told)), (2, .int (x)), (3, .int (v))]) (pc := 90) (gd gk_146 54 rfl) rfl (by rw [gL_146]; decide) (fun _ => rfl) (1) rfl (fun v3_1 hv3_1 => ?_)
          obtain rfl : v3_1 = Int32.ofNat (k + 1) := hv3_1.trans (by first | rfl | (simp only [Int32.ofNat_add, Int32.ofNat_mul]; rfl) | (simp only [Int32.ofNat_add, Int32.ofNat_mul]))
          refine gs_goto (pc := 93) (gd gk_146 55 rfl) ?_
          -- end 2: stop, pc 30, locals [(0, .ref (126)), (1, .int (told)), (2, .int (x)), (3, .int (Int32.ofNat (k + 1)))]
          exact ih (k + 1) (by omega) I1 x h1 h2 (gq_oi_k h3 (fun _ _ _ hs => absurd (hsu.mpr hs) c48) (fun _ hs => absurd (hsu.mpr hs) c48))
        · refine gs_iload_n (pc := 51) (gd gk_146 33 rfl) rfl ?_
          refine gs_bipush (pc := 52) (gd gk_146 34 rfl) (-99) rfl ?_
          refine gs_icmp_eq (pc := 54) (gd gk_146 35 rfl) (fun c54 => ?_) (fun c54 => ?_)
          · refine gs_aload_n (pc := 68) (gd gk_146 41 rfl) rfl ?_
            refine gs_iload_n (pc := 69) (gd gk_146 42 rfl) rfl ?_
            refine gs_bipush (pc := 70) (gd gk_146 43 rfl) (63) rfl ?_
            refine gs_callV (as := [.int (Int32.ofNat k), .int (63)]) (pc := 72) (gd gk_146 44 rfl) (by decide) rfl (by decide) rfl rfl (Nat.le_of_ble_eq_true rfl) gq_146_134 (Nat.le_of_ble_eq_true rfl) (m_run0 (I0 := I) (Int32.ofNat k) 63 h1 hn h2) (fun r_72 w_72 q_72 => ?_)
            obtain ⟨I_r, rfl, rfl, r1, r2⟩ := q_72
            refine gs_pop (pc := 75) (gd gk_146 45 rfl) rfl ?_
            refine gs_aload_n (pc := 76) (gd gk_146 46 rfl) rfl ?_
            refine gs_getI (pc := 77) (gd gk_146 47 rfl) rfl rfl ?_
            refine gs_iload_n (pc := 80) (gd gk_146 48 rfl) rfl ?_
            refine gs_icmp_ne (pc := 81) (gd gk_146 49 rfl) (fun c81 => ?_) (fun c81 => ?_)
            · refine gs_iload_n (pc := 88) (gd gk_146 52 rfl) rfl ?_
              refine gs_istore_n (ls2 := fun v => [(0, .ref (126)), (1, .int (told)), (2, .int (v)), (3, .int (Int32.ofNat k))]) (pc := 89) (gd gk_146 53 rfl) (by rw [gL_146]; decide) (fun _ => rfl) (fun v2_1 hv2_1 => ?_)
              refine gs_iinc (ls2 := fun v => [(0, .ref (126)), (1, .int (told)), (2, .int (v2_1)), (3, .int (v))]) (pc := 90) (gd gk_146 54 rfl) rfl (by rw [gL_146]; decide) (fun _ => rfl) (1) rfl (fun v3_2 hv3_2 => ?_)
              obtain rfl : v3_2 = Int32.ofNat (k + 1) := hv3_2.trans (by first | rfl | (simp only [Int32.ofNat_add, Int32.ofNat_mul]; rfl) | (simp only [Int32.ofNat_add, Int32.ofNat_mul]))
              refine gs_goto (pc := 93) (gd gk_146 55 rfl) ?_
              -- end 3: stop, pc 30, locals [(0, .ref (126)), (1, .int (told)), (2, .int (v2_1)), (3, .int (Int32.ofNat (k + 1)))]
              obtain rfl := hv2_1
              refine ih (k + 1) (by omega) I_r _ (gm_qf_tr h1 (gm_rf_q r2)) (r128 r2) (gq_oi_k h3 (fun p e1 e2 _ _ => absurd (e1.symm.trans c54) (gz_n99 p (by omega))) (fun _ _ => ?_))
              rw [r1, ← rk] at c81; exact c81
            · refine gs_iload_n (pc := 84) (gd gk_146 50 rfl) rfl ?_
              refine gs_goto (pc := 85) (gd gk_146 51 rfl) ?_
              refine gs_istore_n (ls2 := fun v => [(0, .ref (126)), (1, .int (told)), (2, .int (v)), (3, .int (Int32.ofNat k))]) (pc := 89) (gd gk_146 53 rfl) (by rw [gL_146]; decide) (fun _ => rfl) (fun v2_2 hv2_2 => ?_)
              obtain rfl : v2_2 = Int32.ofNat k := hv2_2.trans (by first | rfl | (simp only [Int32.ofNat_add, Int32.ofNat_mul]; rfl) | (simp only [Int32.ofNat_add, Int32.ofNat_mul]))
              refine gs_iinc (ls2 := fun v => [(0, .ref (126)), (1, .int (told)), (2, .int (Int32.ofNat k)), (3, .int (v))]) (pc := 90) (gd gk_146 54 rfl) rfl (by rw [gL_146]; decide) (fun _ => rfl) (1) rfl (fun v3_3 hv3_3 => ?_)
              obtain rfl : v3_3 = Int32.ofNat (k + 1) := hv3_3.trans (by first | rfl | (simp only [Int32.ofNat_add, Int32.ofNat_mul]; rfl) | (simp only [Int32.ofNat_add, Int32.ofNat_mul]))
              refine gs_goto (pc := 93) (gd gk_146 55 rfl) ?_
              -- end 4: stop, pc 30, locals [(0, .ref (126)), (1, .int (told)), (2, .int (Int32.ofNat k)), (3, .int (Int32.ofNat (k + 1)))]
              refine ih (k + 1) (by omega) I_r _ (gm_qf_tr h1 (gm_rf_q r2)) (r128 r2) (gq_oi_n h3 (fun p e1 e2 => absurd (e1.symm.trans c54) (gz_n99 p (by omega))) (hsu.mp c48) ?_)
              rw [r1, ← rk] at c81; exact c81
          · refine gs_iload_n (pc := 57) (gd gk_146 36 rfl) rfl ?_
            refine gs_callS (as := [.int (Int32.ofNat k)]) (pc := 58) (gd gk_146 37 rfl) (by decide) rfl rfl (Nat.le_of_ble_eq_true rfl) gq_146_109 (Nat.le_of_ble_eq_true rfl) (c_ones (Int32.ofNat k)) (fun r_58 w_58 q_58 => ?_)
            obtain ⟨rfl, rfl⟩ := q_58
            refine gs_iload_n (pc := 61) (gd gk_146 38 rfl) rfl ?_
            refine gs_callS (as := [.int (x)]) (pc := 62) (gd gk_146 39 rfl) (by decide) rfl rfl (Nat.le_of_ble_eq_true rfl) gq_146_109 (Nat.le_of_ble_eq_true rfl) (c_ones (x)) (fun r_62 w_62 q_62 => ?_)
            obtain ⟨rfl, rfl⟩ := q_62
            refine gs_icmp_ge (pc := 65) (gd gk_146 40 rfl) (fun c65 => ?_) (fun c65 => ?_)
            · refine gs_iinc (ls2 := fun v => [(0, .ref (126)), (1, .int (told)), (2, .int (x)), (3, .int (v))]) (pc := 90) (gd gk_146 54 rfl) rfl (by rw [gL_146]; decide) (fun _ => rfl) (1) rfl (fun v3_4 hv3_4 => ?_)
              obtain rfl : v3_4 = Int32.ofNat (k + 1) := hv3_4.trans (by first | rfl | (simp only [Int32.ofNat_add, Int32.ofNat_mul]; rfl) | (simp only [Int32.ofNat_add, Int32.ofNat_mul]))
              refine gs_goto (pc := 93) (gd gk_146 55 rfl) ?_
              -- end 5: stop, pc 30, locals [(0, .ref (126)), (1, .int (told)), (2, .int (x)), (3, .int (Int32.ofNat (k + 1)))]
              refine ih (k + 1) (by omega) I1 x h1 h2 (gq_oi_k h3 (fun p e1 e2 _ _ => ?_) (fun e => absurd e c54))
              have := on65 p e1 e2
              rw [this.1, this.2] at c65
              have c65 := (zle (by have := gz_pc_le p; omega) (by have := gz_pc_le k; omega)).mp c65
              unfold gq_le; omega
            · refine gs_aload_n (pc := 68) (gd gk_146 41 rfl) rfl ?_
              refine gs_iload_n (pc := 69) (gd gk_146 42 rfl) rfl ?_
              refine gs_bipush (pc := 70) (gd gk_146 43 rfl) (63) rfl ?_
              refine gs_callV (as := [.int (Int32.ofNat k), .int (63)]) (pc := 72) (gd gk_146 44 rfl) (by decide) rfl (by decide) rfl rfl (Nat.le_of_ble_eq_true rfl) gq_146_134 (Nat.le_of_ble_eq_true rfl) (m_run0 (I0 := I) (Int32.ofNat k) 63 h1 hn h2) (fun r_72 w_72 q_72 => ?_)
              obtain ⟨I_r, rfl, rfl, r1, r2⟩ := q_72
              refine gs_pop (pc := 75) (gd gk_146 45 rfl) rfl ?_
              refine gs_aload_n (pc := 76) (gd gk_146 46 rfl) rfl ?_
              refine gs_getI (pc := 77) (gd gk_146 47 rfl) rfl rfl ?_
              refine gs_iload_n (pc := 80) (gd gk_146 48 rfl) rfl ?_
              refine gs_icmp_ne (pc := 81) (gd gk_146 49 rfl) (fun c81 => ?_) (fun c81 => ?_)
              · refine gs_iload_n (pc := 88) (gd gk_146 52 rfl) rfl ?_
                refine gs_istore_n (ls2 := fun v => [(0, .ref (126)), (1, .int (told)), (2, .int (v)), (3, .int (Int32.ofNat k))]) (pc := 89) (gd gk_146 53 rfl) (by rw [gL_146]; decide) (fun _ => rfl) (fun v2_3 hv2_3 => ?_)
                refine gs_iinc (ls2 := fun v => [(0, .ref (126)), (1, .int (told)), (2, .int (v2_3)), (3, .int (v))]) (pc := 90) (gd gk_146 54 rfl) rfl (by rw [gL_146]; decide) (fun _ => rfl) (1) rfl (fun v3_5 hv3_5 => ?_)
                obtain rfl : v3_5 = Int32.ofNat (k + 1) := hv3_5.trans (by first | rfl | (simp only [Int32.ofNat_add, Int32.ofNat_mul]; rfl) | (simp only [Int32.ofNat_add, Int32.ofNat_mul]))
                refine gs_goto (pc := 93) (gd gk_146 55 rfl) ?_
                -- end 6: stop, pc 30, locals [(0, .ref (126)), (1, .int (told)), (2, .int (v2_3)), (3, .int (Int32.ofNat (k + 1)))]
                obtain rfl := hv2_3
                refine ih (k + 1) (by omega) I_r _ (gm_qf_tr h1 (gm_rf_q r2)) (r128 r2) (gq_oi_k h3 (fun p e1 e2 hs hh => ?_) (fun e => absurd e c54))
                rw [r1, ← rk] at c81; exact absurd hh c81
              · refine gs_iload_n (pc := 84) (gd gk_146 50 rfl) rfl ?_
                refine gs_goto (pc := 85) (gd gk_146 51 rfl) ?_
                refine gs_istore_n (ls2 := fun v => [(0, .ref (126)), (1, .int (told)), (2, .int (v)), (3, .int (Int32.ofNat k))]) (pc := 89) (gd gk_146 53 rfl) (by rw [gL_146]; decide) (fun _ => rfl) (fun v2_4 hv2_4 => ?_)
                obtain rfl : v2_4 = Int32.ofNat k := hv2_4.trans (by first | rfl | (simp only [Int32.ofNat_add, Int32.ofNat_mul]; rfl) | (simp only [Int32.ofNat_add, Int32.ofNat_mul]))
                refine gs_iinc (ls2 := fun v => [(0, .ref (126)), (1, .int (told)), (2, .int (Int32.ofNat k)), (3, .int (v))]) (pc := 90) (gd gk_146 54 rfl) rfl (by rw [gL_146]; decide) (fun _ => rfl) (1) rfl (fun v3_6 hv3_6 => ?_)
                obtain rfl : v3_6 = Int32.ofNat (k + 1) := hv3_6.trans (by first | rfl | (simp only [Int32.ofNat_add, Int32.ofNat_mul]; rfl) | (simp only [Int32.ofNat_add, Int32.ofNat_mul]))
                refine gs_goto (pc := 93) (gd gk_146 55 rfl) ?_
                -- end 7: stop, pc 30, locals [(0, .ref (126)), (1, .int (told)), (2, .int (Int32.ofNat k)), (3, .int (Int32.ofNat (k + 1)))]
                refine ih (k + 1) (by omega) I_r _ (gm_qf_tr h1 (gm_rf_q r2)) (r128 r2) (gq_oi_n h3 (fun p e1 e2 => ?_) (hsu.mp c48) ?_)
                · have := on65 p e1 e2
                  rw [this.1, this.2] at c65
                  have c65 : ¬ gz_pc p ≤ gz_pc k := fun e => c65 ((zle (by have := gz_pc_le p; omega) (by have := gz_pc_le k; omega)).mpr e)
                  unfold gq_le; omega
                · rw [r1, ← rk] at c81; exact c81
  refine gs_iload_n (pc := 0) (gd gk_146 0 rfl) rfl ?_
  refine gs_i2l (pc := 1) (gd gk_146 1 rfl) ?_
  refine gs_lconst (pc := 2) (gd gk_146 2 rfl) (0) rfl ?_
  refine gs_iconst (pc := 3) (gd gk_146 3 rfl) (1) rfl ?_
  refine gs_aload_n (pc := 4) (gd gk_146 4 rfl) rfl ?_
  refine gs_getI (pc := 5) (gd gk_146 5 rfl) rfl rfl ?_
  refine gs_as (Int32.ofNat N) (hN) ?_
  refine gs_ishl (pc := 8) (gd gk_146 6 rfl) ?_
  refine gs_iconst (pc := 9) (gd gk_146 7 rfl) (1) rfl ?_
  refine gs_isub (pc := 10) (gd gk_146 8 rfl) ?_
  refine gs_i2l (pc := 11) (gd gk_146 9 rfl) ?_
  refine gs_callS (as := [.long ((told : Int32).toInt64), .long (0), .long ((((1 <<< (Int32.ofNat N &&& 31)) - 1) : Int32).toInt64)]) (pc := 12) (gd gk_146 10 rfl) (by decide) rfl rfl (Nat.le_of_ble_eq_true rfl) gq_146_107 (Nat.le_of_ble_eq_true rfl) (c_mrg (told) (0) (((1 <<< (Int32.ofNat N &&& 31)) - 1))) (fun r_12 w_12 q_12 => ?_)
  obtain ⟨rfl, rfl⟩ := q_12
  refine gs_if_ne (pc := 15) (gd gk_146 11 rfl) (fun c15 => ?_) (fun c15 => ?_)
  · refine gs_aload_n (pc := 21) (gd gk_146 14 rfl) rfl ?_
    refine gs_callV (as := []) (pc := 22) (gd gk_146 15 rfl) (by decide) rfl (by decide) rfl rfl (Nat.le_of_ble_eq_true rfl) gq_146_128 (Nat.le_of_ble_eq_true rfl) (m_winds) (fun r_22 w_22 q_22 => ?_)
    obtain ⟨rfl, I_w, rfl, w1, w2⟩ := q_22
    refine gs_bipush (pc := 25) (gd gk_146 16 rfl) (-99) rfl ?_
    refine gs_istore_n (ls2 := fun v => [(0, .ref (126)), (1, .int (told)), (2, .int (v))]) (pc := 27) (gd gk_146 17 rfl) (by rw [gL_146]; decide) (fun _ => rfl) (fun v2_1 hv2_1 => ?_)
    refine gs_iconst (pc := 28) (gd gk_146 18 rfl) (0) rfl ?_
    refine gs_istore_n (ls2 := fun v => [(0, .ref (126)), (1, .int (told)), (2, .int (v2_1)), (3, .int (v))]) (pc := 29) (gd gk_146 19 rfl) (by rw [gL_146]; decide) (fun _ => rfl) (fun v3_1 hv3_1 => ?_)
    obtain rfl : v3_1 = Int32.ofNat 0 := hv3_1.trans (by first | rfl | (simp only [Int32.ofNat_add, Int32.ofNat_mul]; rfl) | (simp only [Int32.ofNat_add, Int32.ofNat_mul]))
    -- end 1: stop, pc 30, locals [(0, .ref (126)), (1, .int (told)), (2, .int (v2_1)), (3, .int (Int32.ofNat 0))]
    obtain rfl := hv2_1
    exact lp (by rw [← gz_shl6 N (by omega)]; exact gz_b_ne.mp c15) (2 ^ W) 0 (by omega) I_w _ (gm_qf_128 w2) w1 (.inr ⟨rfl, fun q hq => absurd hq (Nat.not_lt_zero _)⟩)
  · refine gs_bipush (pc := 18) (gd gk_146 12 rfl) (-2) rfl ?_
    -- end 2: ireturn (-2), pc 20, locals [(0, .ref (126)), (1, .int (told))]
    exact gs_iret (pc := 20) (gd gk_146 13 rfl) rfl (rfl) (Nat.zero_le _) (Nat.zero_le _) (⟨I, -2, rfl, gm_qf_rf I, by
      unfold gq_oa
      rw [if_neg (by rw [← gz_shl6 N (by omega), gz_b_eq.mp c15]; decide)], rfl⟩)
end
end
section
/-! ===== the face: write, wipe, smell, wind, pennies; both sides ===== -/
section
variable {V : gw_V} {n W N h0 L bc : Nat} {I : Nat → Nat → Int32} {J : Nat → Nat → Int64}
/-- the answer of write, the text's length being l -/
def gz_wr (x : Int32) (l : Nat) : Int32 := if gz_rg x 0 255 then (if l < 48 then Int32.ofNat (l + 1) else -4) else -2
theorem c_add {l : Nat} (x : Int32) (hl : I 4 1 = Int32.ofNat l) (h8 : l ≤ 48) : gw_E V 38 (0, [(0, .ref 4), (1, .int x)], [], gS n I J, 0, 0) (fun v w' => ∃ I2, w' = gS n I2 J ∧ v = some (.int (gz_b (decide (l < 48)))) ∧ I2 = if l < 48 then gw_u (gw_u I 5 l x) 4 1 (Int32.ofNat (l + 1)) else I) := by
  refine gs_aload_n (pc := 0) (gd gk_38 0 rfl) rfl ?_
  refine gs_getI (pc := 1) (gd gk_38 1 rfl) rfl rfl ?_
  refine gs_as (Int32.ofNat l) (hl) ?_
  refine gs_bipush (pc := 4) (gd gk_38 2 rfl) (48) rfl ?_
  refine gs_icmp_lt (pc := 6) (gd gk_38 3 rfl) (fun c6 => ?_) (fun c6 => ?_)
  · replace c6 : l < 48 := (zlt (k := l) (m := 48) (by omega) (by omega)).mp c6
    refine gs_aload_n (pc := 11) (gd gk_38 6 rfl) rfl ?_
    refine gs_getR (r := 5) (pc := 12) (gd gk_38 7 rfl) rfl rfl rfl (by decide) ?_
    refine gs_aload_n (pc := 15) (gd gk_38 8 rfl) rfl ?_
    refine gs_getI (pc := 16) (gd gk_38 9 rfl) rfl rfl ?_
    refine gs_as (Int32.ofNat l) (hl) ?_
    refine gs_iload_n (pc := 19) (gd gk_38 10 rfl) rfl ?_
    refine gs_iastoreK (l) (48) gs_sl (pc := 20) (gd gk_38 11 rfl) rfl rfl (by decide) (by first | rfl | (simp only [Int32.ofNat_add, Int32.ofNat_mul]; rfl) | (simp only [Int32.ofNat_add, Int32.ofNat_mul])) (by omega) (fun I_1 hI_1 => ?_)
    refine gs_aload_n (pc := 21) (gd gk_38 12 rfl) rfl ?_
    refine gs_dup (pc := 22) (gd gk_38 13 rfl) rfl ?_
    refine gs_getI (pc := 23) (gd gk_38 14 rfl) rfl rfl ?_
    refine gs_as (Int32.ofNat l) (by rw [hI_1, gw_u_o (by omega)]; exact hl) ?_
    refine gs_iconst (pc := 26) (gd gk_38 15 rfl) (1) rfl ?_
    refine gs_iadd (pc := 27) (gd gk_38 16 rfl) ?_
    refine gs_putI (pc := 28) (gd gk_38 17 rfl) rfl rfl rfl rfl (fun I_2 hI_2 => ?_)
    refine gs_iconst (pc := 31) (gd gk_38 18 rfl) (1) rfl ?_
    -- end 1: ireturn 1, pc 32, locals [(0, .ref (4)), (1, .int (x))]
    exact gs_iret (pc := 32) (gd gk_38 19 rfl) rfl (rfl) (Nat.zero_le _) (Nat.zero_le _) (⟨I_2, rfl, by rw [decide_eq_true c6]; rfl, by rw [if_pos c6, hI_2, hI_1, zsucc]⟩)
  · replace c6 : ¬ (l < 48) := fun q9 => c6 ((zlt (k := l) (m := 48) (by omega) (by omega)).mpr q9)
    refine gs_iconst (pc := 9) (gd gk_38 4 rfl) (0) rfl ?_
    -- end 2: ireturn 0, pc 10, locals [(0, .ref (4)), (1, .int (x))]
    exact gs_iret (pc := 10) (gd gk_38 5 rfl) rfl (rfl) (Nat.zero_le _) (Nat.zero_le _) (⟨I, rfl, by rw [decide_eq_false c6]; rfl, by rw [if_neg c6]⟩)
theorem c_write {l : Nat} (x : Int32) (hl : I 4 1 = Int32.ofNat l) (h8 : l ≤ 48) : gw_E V 64 (0, [(0, .ref 3), (1, .int x)], [], gS n I J, 0, 0) (fun v w' => ∃ I2, w' = gS n I2 J ∧ v = some (.int (gz_wr x l)) ∧ I2 = if gz_rg x 0 255 then (if l < 48 then gw_u (gw_u I 5 l x) 4 1 (Int32.ofNat (l + 1)) else I) else I) := by
  refine gs_iload_n (pc := 0) (gd gk_64 0 rfl) rfl ?_
  refine gs_if_lt (pc := 1) (gd gk_64 1 rfl) (fun c1 => ?_) (fun c1 => ?_)
  · refine gs_bipush (pc := 11) (gd gk_64 5 rfl) (-2) rfl ?_
    -- end 1: ireturn (-2), pc 13, locals [(0, .ref (3)), (1, .int (x))]
    exact gs_iret (pc := 13) (gd gk_64 6 rfl) rfl (rfl) (Nat.zero_le _) (Nat.zero_le _) (⟨I, rfl, by unfold gz_wr; rw [if_neg (by intro q; exact absurd c1 (Int32.not_lt.mpr (gz_rg_t.mp q).1))], by rw [if_neg (by intro q; exact absurd c1 (Int32.not_lt.mpr (gz_rg_t.mp q).1))]⟩)
  · refine gs_iload_n (pc := 4) (gd gk_64 2 rfl) rfl ?_
    refine gs_sipush (pc := 5) (gd gk_64 3 rfl) (255) rfl ?_
    refine gs_icmp_le (pc := 8) (gd gk_64 4 rfl) (fun c8 => ?_) (fun c8 => ?_)
    · refine gs_aload_n (pc := 14) (gd gk_64 7 rfl) rfl ?_
      refine gs_getR (r := 4) (pc := 15) (gd gk_64 8 rfl) rfl rfl rfl (by decide) ?_
      refine gs_iload_n (pc := 18) (gd gk_64 9 rfl) rfl ?_
      refine gs_callV (as := [.int (x)]) (pc := 19) (gd gk_64 10 rfl) (by decide) rfl (by decide) rfl rfl (Nat.le_of_ble_eq_true rfl) gq_64_38 (Nat.le_of_ble_eq_true rfl) (c_add x hl h8) (fun r_19 w_19 q_19 => ?_)
      obtain ⟨I_a, rfl, rfl, a1⟩ := q_19
      refine gs_if_eq (pc := 22) (gd gk_64 11 rfl) (fun c22 => ?_) (fun c22 => ?_)
      · refine gs_bipush (pc := 35) (gd gk_64 16 rfl) (-4) rfl ?_
        -- end 2: ireturn (-4), pc 37, locals [(0, .ref (3)), (1, .int (x))]
        have hr : gz_rg x 0 255 = true := gz_rg_t.mpr ⟨Int32.not_lt.mp c1, c8⟩
        have hl8 : ¬ l < 48 := of_decide_eq_false (gz_b_eq.mp c22)
        exact gs_iret (pc := 37) (gd gk_64 17 rfl) rfl (rfl) (Nat.zero_le _) (Nat.zero_le _) (⟨I_a, rfl, by unfold gz_wr; rw [if_pos hr, if_neg hl8], by rw [if_pos hr]; exact a1⟩)
      · refine gs_aload_n (pc := 25) (gd gk_64 12 rfl) rfl ?_
        refine gs_getR (r := 4) (pc := 26) (gd gk_64 13 rfl) rfl rfl rfl (by decide) ?_
        refine gs_getI (pc := 29) (gd gk_64 14 rfl) rfl rfl ?_
        refine gs_goto (pc := 32) (gd gk_64 15 rfl) ?_
        -- end 3: ireturn (I_a 4 1), pc 37, locals [(0, .ref (3)), (1, .int (x))]
        have hr : gz_rg x 0 255 = true := gz_rg_t.mpr ⟨Int32.not_lt.mp c1, c8⟩
        have hl8 : l < 48 := of_decide_eq_true (gz_b_ne.mp c22)
        exact gs_iret (pc := 37) (gd gk_64 17 rfl) rfl (rfl) (Nat.zero_le _) (Nat.zero_le _) (⟨I_a, rfl, by unfold gz_wr; rw [if_pos hr, if_pos hl8, a1, if_pos hl8, gw_u_s]; simp [upd], by rw [if_pos hr]; exact a1⟩)
    · refine gs_bipush (pc := 11) (gd gk_64 5 rfl) (-2) rfl ?_
      -- end 4: ireturn (-2), pc 13, locals [(0, .ref (3)), (1, .int (x))]
      exact gs_iret (pc := 13) (gd gk_64 6 rfl) rfl (rfl) (Nat.zero_le _) (Nat.zero_le _) (⟨I, rfl, by unfold gz_wr; rw [if_neg (by intro q; exact absurd (gz_rg_t.mp q).2 c8)], by rw [if_neg (by intro q; exact absurd (gz_rg_t.mp q).2 c8)]⟩)
theorem m_write {l : Nat} (x : Int32) (hl : I 126 15 = Int32.ofNat l) (h8 : l ≤ 48) : gw_E V 110 (0, [(0, .ref 126), (1, .int x)], [], gS n I J, 0, 0) (fun v w' => ∃ I2, w' = gS n I2 J ∧ v = some (.int (gz_wr x l)) ∧ I2 = if gz_rg x 0 255 then (if l < 48 then gw_u (gw_u I 134 l x) 126 15 (Int32.ofNat (l + 1)) else I) else I) := by
  refine gs_iload_n (pc := 0) (gd gk_110 0 rfl) rfl ?_
  refine gs_i2l (pc := 1) (gd gk_110 1 rfl) ?_
  refine gs_lconst (pc := 2) (gd gk_110 2 rfl) (0) rfl ?_
  refine gs_ldc2_w (pc := 3) (gd gk_110 3 rfl) (255) rfl ?_
  refine gs_callS (as := [.long ((x : Int32).toInt64), .long (0), .long (255)]) (pc := 6) (gd gk_110 4 rfl) (by decide) rfl rfl (Nat.le_of_ble_eq_true rfl) gq_110_107 (Nat.le_of_ble_eq_true rfl) (c_mrg (x) (0) (255)) (fun r_6 w_6 q_6 => ?_)
  obtain ⟨rfl, rfl⟩ := q_6
  refine gs_if_ne (pc := 9) (gd gk_110 5 rfl) (fun c9 => ?_) (fun c9 => ?_)
  · refine gs_aload_n (pc := 15) (gd gk_110 8 rfl) rfl ?_
    refine gs_getI (pc := 16) (gd gk_110 9 rfl) rfl rfl ?_
    refine gs_as (Int32.ofNat l) (hl) ?_
    refine gs_bipush (pc := 19) (gd gk_110 10 rfl) (48) rfl ?_
    refine gs_icmp_ne (pc := 21) (gd gk_110 11 rfl) (fun c21 => ?_) (fun c21 => ?_)
    · replace c21 : ¬ (l = 48) := fun q9 => c21 ((zeq (k := l) (m := 48) (by omega) (by omega)).mpr q9)
      refine gs_aload_n (pc := 27) (gd gk_110 14 rfl) rfl ?_
      refine gs_getR (r := 134) (pc := 28) (gd gk_110 15 rfl) rfl rfl rfl (by decide) ?_
      refine gs_aload_n (pc := 31) (gd gk_110 16 rfl) rfl ?_
      refine gs_getI (pc := 32) (gd gk_110 17 rfl) rfl rfl ?_
      refine gs_as (Int32.ofNat l) (hl) ?_
      refine gs_iload_n (pc := 35) (gd gk_110 18 rfl) rfl ?_
      refine gs_iastoreK (l) (48) gs_sl (pc := 36) (gd gk_110 19 rfl) rfl rfl (by decide) (by first | rfl | (simp only [Int32.ofNat_add, Int32.ofNat_mul]; rfl) | (simp only [Int32.ofNat_add, Int32.ofNat_mul])) (by omega) (fun I_1 hI_1 => ?_)
      refine gs_aload_n (pc := 37) (gd gk_110 20 rfl) rfl ?_
      refine gs_dup (pc := 38) (gd gk_110 21 rfl) rfl ?_
      refine gs_getI (pc := 39) (gd gk_110 22 rfl) rfl rfl ?_
      refine gs_as (Int32.ofNat l) (by rw [hI_1, gw_u_o (by omega)]; exact hl) ?_
      refine gs_iconst (pc := 42) (gd gk_110 23 rfl) (1) rfl ?_
      refine gs_iadd (pc := 43) (gd gk_110 24 rfl) ?_
      refine gs_putI (pc := 44) (gd gk_110 25 rfl) rfl rfl rfl rfl (fun I_2 hI_2 => ?_)
      refine gs_aload_n (pc := 47) (gd gk_110 26 rfl) rfl ?_
      refine gs_getI (pc := 48) (gd gk_110 27 rfl) rfl rfl ?_
      -- end 1: ireturn (I_2 126 15), pc 51, locals [(0, .ref (126)), (1, .int (x))]
      have hr := gz_b_ne.mp c9
      have hl8 : l < 48 := by omega
      exact gs_iret (pc := 51) (gd gk_110 28 rfl) rfl (rfl) (Nat.zero_le _) (Nat.zero_le _) (⟨I_2, rfl, by unfold gz_wr; rw [if_pos hr, if_pos hl8, hI_2, gw_u_s]; simp [upd]; try rfl, by rw [if_pos hr, if_pos hl8, hI_2, hI_1, zsucc]⟩)
    · replace c21 : l = 48 := (zeq (k := l) (m := 48) (by omega) (by omega)).mp c21
      refine gs_bipush (pc := 24) (gd gk_110 12 rfl) (-4) rfl ?_
      -- end 2: ireturn (-4), pc 26, locals [(0, .ref (126)), (1, .int (x))]
      have hr := gz_b_ne.mp c9
      have hl8 : ¬ l < 48 := by omega
      exact gs_iret (pc := 26) (gd gk_110 13 rfl) rfl (rfl) (Nat.zero_le _) (Nat.zero_le _) (⟨I, rfl, by unfold gz_wr; rw [if_pos hr, if_neg hl8], by rw [if_pos hr, if_neg hl8]⟩)
  · refine gs_bipush (pc := 12) (gd gk_110 6 rfl) (-2) rfl ?_
    -- end 3: ireturn (-2), pc 14, locals [(0, .ref (126)), (1, .int (x))]
    have hr : ¬ gz_rg x 0 255 = true := by rw [gz_b_eq.mp c9]; decide
    exact gs_iret (pc := 14) (gd gk_110 7 rfl) rfl (rfl) (Nat.zero_le _) (Nat.zero_le _) (⟨I, rfl, by unfold gz_wr; rw [if_neg hr], by rw [if_neg hr]⟩)
theorem c_wipe : gw_E V 65 (0, [(0, .ref 3)], [], gS n I J, 0, 0) (fun v w' => ∃ I2, w' = gS n I2 J ∧ v = some (.int (I 4 1)) ∧ I2 = gw_u I 4 1 0) := by
  refine gs_aload_n (pc := 0) (gd gk_65 0 rfl) rfl ?_
  refine gs_getR (r := 4) (pc := 1) (gd gk_65 1 rfl) rfl rfl rfl (by decide) ?_
  refine gs_getI (pc := 4) (gd gk_65 2 rfl) rfl rfl ?_
  refine gs_istore_n (ls2 := fun v => [(0, .ref (3)), (1, .int (v))]) (pc := 7) (gd gk_65 3 rfl) (by rw [gL_65]; decide) (fun _ => rfl) (fun v1_1 hv1_1 => ?_)
  refine gs_aload_n (pc := 8) (gd gk_65 4 rfl) rfl ?_
  refine gs_getR (r := 4) (pc := 9) (gd gk_65 5 rfl) rfl rfl rfl (by decide) ?_
  refine gs_iconst (pc := 12) (gd gk_65 6 rfl) (0) rfl ?_
  refine gs_putI (pc := 13) (gd gk_65 7 rfl) rfl rfl rfl rfl (fun I_1 hI_1 => ?_)
  refine gs_iload_n (pc := 16) (gd gk_65 8 rfl) rfl ?_
  -- end 1: ireturn v1_1, pc 17, locals [(0, .ref (3)), (1, .int (v1_1))]
  exact gs_iret (pc := 17) (gd gk_65 9 rfl) rfl (rfl) (Nat.zero_le _) (Nat.zero_le _) (⟨I_1, rfl, by rw [hv1_1], hI_1⟩)
theorem m_wipe : gw_E V 111 (0, [(0, .ref 126)], [], gS n I J, 0, 0) (fun v w' => ∃ I2, w' = gS n I2 J ∧ v = some (.int (I 126 15)) ∧ I2 = gw_u I 126 15 0) := by
  refine gs_aload_n (pc := 0) (gd gk_111 0 rfl) rfl ?_
  refine gs_getI (pc := 1) (gd gk_111 1 rfl) rfl rfl ?_
  refine gs_istore_n (ls2 := fun v => [(0, .ref (126)), (1, .int (v))]) (pc := 4) (gd gk_111 2 rfl) (by rw [gL_111]; decide) (fun _ => rfl) (fun v1_1 hv1_1 => ?_)
  refine gs_aload_n (pc := 5) (gd gk_111 3 rfl) rfl ?_
  refine gs_iconst (pc := 6) (gd gk_111 4 rfl) (0) rfl ?_
  refine gs_putI (pc := 7) (gd gk_111 5 rfl) rfl rfl rfl rfl (fun I_1 hI_1 => ?_)
  refine gs_iload_n (pc := 10) (gd gk_111 6 rfl) rfl ?_
  -- end 1: ireturn v1_1, pc 11, locals [(0, .ref (126)), (1, .int (v1_1))]
  exact gs_iret (pc := 11) (gd gk_111 7 rfl) rfl (rfl) (Nat.zero_le _) (Nat.zero_le _) (⟨I_1, rfl, by rw [hv1_1], hI_1⟩)
theorem c_pennies : gw_E V 71 (0, [(0, .ref 3)], [], gS n I J, 0, 0) (fun v w' => v = some (.int (I 12 2)) ∧ w' = gS n I J) := by
  refine gs_aload_n (pc := 0) (gd gk_71 0 rfl) rfl ?_
  refine gs_getR (r := 12) (pc := 1) (gd gk_71 1 rfl) rfl rfl rfl (by decide) ?_
  refine gs_getI (pc := 4) (gd gk_71 2 rfl) rfl rfl ?_
  -- end 1: ireturn (I 12 2), pc 7, locals [(0, .ref (3))]
  exact gs_iret (pc := 7) (gd gk_71 3 rfl) rfl (rfl) (Nat.zero_le _) (Nat.zero_le _) (⟨rfl, rfl⟩)
theorem m_pennies : gw_E V 124 (0, [(0, .ref 126)], [], gS n I J, 0, 0) (fun v w' => v = some (.int (I 133 11)) ∧ w' = gS n I J) := by
  refine gs_aload_n (pc := 0) (gd gk_124 0 rfl) rfl ?_
  refine gs_getR (r := 133) (pc := 1) (gd gk_124 1 rfl) rfl rfl rfl (by decide) ?_
  refine gs_bipush (pc := 4) (gd gk_124 2 rfl) (11) rfl ?_
  refine gs_ialoadK (11) (52) (pc := 6) (gd gk_124 3 rfl) (Or.inl rfl) rfl (by decide) (by first | rfl | (simp only [Int32.ofNat_add, Int32.ofNat_mul]; rfl) | (simp only [Int32.ofNat_add, Int32.ofNat_mul])) (by omega) ?_
  -- end 1: ireturn (I 133 11), pc 7, locals [(0, .ref (126))]
  exact gs_iret (pc := 7) (gd gk_124 4 rfl) rfl (rfl) (Nat.zero_le _) (Nat.zero_le _) (⟨rfl, rfl⟩)
/-- a number between is some natural number -/
theorem gz_nat {x : Int32} {b : Nat} (h : gz_rg x 0 (Int32.ofNat b) = true) (hb : b < 1000) : ∃ c, c ≤ b ∧ x = Int32.ofNat c := by
  obtain ⟨h1, h2⟩ := gz_rg_t.mp h
  have h2 := (zle_l h1 (n := b) (by omega)).mp h2
  exact ⟨x.toNatClampNeg, h2, (znat h1).1.symm⟩
theorem c_smell (x : Int32) : gw_E V 68 (0, [(0, .ref 3), (1, .int x)], [], gS n I J, 0, 0) (fun v w' => v = some (.int (if gz_rg x 0 9 then I 13 x.toNatClampNeg else -2)) ∧ w' = gS n I J) := by
  by_cases hr : gz_rg x 0 9 = true
  · obtain ⟨c, hc, rfl⟩ := gz_nat (b := 9) hr (by omega)
    refine gs_iload_n (pc := 0) (gd gk_68 0 rfl) rfl ?_
    refine gs_callS (as := [.int (Int32.ofNat c)]) (pc := 1) (gd gk_68 1 rfl) (by decide) rfl rfl (Nat.le_of_ble_eq_true rfl) gq_68_93 (Nat.le_of_ble_eq_true rfl) (c_cell (Int32.ofNat c)) (fun r_1 w_1 q_1 => ?_)
    obtain ⟨rfl, rfl⟩ := q_1
    refine gs_if_eq (pc := 4) (gd gk_68 2 rfl) (fun c4 => ?_) (fun c4 => ?_)
    · refine gs_bipush (pc := 19) (gd gk_68 9 rfl) (-2) rfl ?_
      -- end 1: ireturn (-2), pc 21, locals [(0, .ref (3)), (1, .int (Int32.ofNat c))]
      exact absurd (gz_b_eq.mp c4) (by rw [hr]; decide)
    · refine gs_aload_n (pc := 7) (gd gk_68 3 rfl) rfl ?_
      refine gs_getR (r := 12) (pc := 8) (gd gk_68 4 rfl) rfl rfl rfl (by decide) ?_
      refine gs_getR (r := 13) (pc := 11) (gd gk_68 5 rfl) rfl rfl rfl (by decide) ?_
      refine gs_iload_n (pc := 14) (gd gk_68 6 rfl) rfl ?_
      refine gs_ialoadK (c) (10) (pc := 15) (gd gk_68 7 rfl) (Or.inl rfl) rfl (by decide) (by first | rfl | (simp only [Int32.ofNat_add, Int32.ofNat_mul]; rfl) | (simp only [Int32.ofNat_add, Int32.ofNat_mul])) (by omega) ?_
      refine gs_goto (pc := 16) (gd gk_68 8 rfl) ?_
      -- end 2: ireturn (I 13 c), pc 21, locals [(0, .ref (3)), (1, .int (Int32.ofNat c))]
      exact gs_iret (pc := 21) (gd gk_68 10 rfl) rfl (rfl) (Nat.zero_le _) (Nat.zero_le _) (⟨by rw [if_pos hr, znn (by omega)], rfl⟩)
  · skip
    refine gs_iload_n (pc := 0) (gd gk_68 0 rfl) rfl ?_
    refine gs_callS (as := [.int (x)]) (pc := 1) (gd gk_68 1 rfl) (by decide) rfl rfl (Nat.le_of_ble_eq_true rfl) gq_68_93 (Nat.le_of_ble_eq_true rfl) (c_cell (x)) (fun r_1 w_1 q_1 => ?_)
    obtain ⟨rfl, rfl⟩ := q_1
    refine gs_if_eq (pc := 4) (gd gk_68 2 rfl) (fun c4 => ?_) (fun c4 => ?_)
    · refine gs_bipush (pc := 19) (gd gk_68 9 rfl) (-2) rfl ?_
      -- end 1: ireturn (-2), pc 21, locals [(0, .ref (3)), (1, .int (x))]
      exact gs_iret (pc := 21) (gd gk_68 10 rfl) rfl (rfl) (Nat.zero_le _) (Nat.zero_le _) (⟨by rw [if_neg hr], rfl⟩)
    · -- end 2: stop, pc 7, locals [(0, .ref (3)), (1, .int (x))]
      exact absurd (gz_b_ne.mp c4) hr
theorem m_smell (x : Int32) : gw_E V 119 (0, [(0, .ref 126), (1, .int x)], [], gS n I J, 0, 0) (fun v w' => v = some (.int (if gz_rg x 0 9 then I 133 x.toNatClampNeg else -2)) ∧ w' = gS n I J) := by
  by_cases hr : gz_rg x 0 9 = true
  · obtain ⟨c, hc, rfl⟩ := gz_nat (b := 9) hr (by omega)
    refine gs_iload_n (pc := 0) (gd gk_119 0 rfl) rfl ?_
    refine gs_i2l (pc := 1) (gd gk_119 1 rfl) ?_
    refine gs_lconst (pc := 2) (gd gk_119 2 rfl) (0) rfl ?_
    refine gs_ldc2_w (pc := 3) (gd gk_119 3 rfl) (9) rfl ?_
    refine gs_callS (as := [.long ((Int32.ofNat c : Int32).toInt64), .long (0), .long (9)]) (pc := 6) (gd gk_119 4 rfl) (by decide) rfl rfl (Nat.le_of_ble_eq_true rfl) gq_119_107 (Nat.le_of_ble_eq_true rfl) (c_mrg (Int32.ofNat c) (0) (9)) (fun r_6 w_6 q_6 => ?_)
    obtain ⟨rfl, rfl⟩ := q_6
    refine gs_if_eq (pc := 9) (gd gk_119 5 rfl) (fun c9 => ?_) (fun c9 => ?_)
    · refine gs_bipush (pc := 21) (gd gk_119 11 rfl) (-2) rfl ?_
      -- end 1: ireturn (-2), pc 23, locals [(0, .ref (126)), (1, .int (Int32.ofNat c))]
      exact absurd (gz_b_eq.mp c9) (by rw [hr]; decide)
    · refine gs_aload_n (pc := 12) (gd gk_119 6 rfl) rfl ?_
      refine gs_getR (r := 133) (pc := 13) (gd gk_119 7 rfl) rfl rfl rfl (by decide) ?_
      refine gs_iload_n (pc := 16) (gd gk_119 8 rfl) rfl ?_
      refine gs_ialoadK (c) (52) (pc := 17) (gd gk_119 9 rfl) (Or.inl rfl) rfl (by decide) (by first | rfl | (simp only [Int32.ofNat_add, Int32.ofNat_mul]; rfl) | (simp only [Int32.ofNat_add, Int32.ofNat_mul])) (by omega) ?_
      refine gs_goto (pc := 18) (gd gk_119 10 rfl) ?_
      -- end 2: ireturn (I 133 c), pc 23, locals [(0, .ref (126)), (1, .int (Int32.ofNat c))]
      exact gs_iret (pc := 23) (gd gk_119 12 rfl) rfl (rfl) (Nat.zero_le _) (Nat.zero_le _) (⟨by rw [if_pos hr, znn (by omega)], rfl⟩)
  · skip
    refine gs_iload_n (pc := 0) (gd gk_119 0 rfl) rfl ?_
    refine gs_i2l (pc := 1) (gd gk_119 1 rfl) ?_
    refine gs_lconst (pc := 2) (gd gk_119 2 rfl) (0) rfl ?_
    refine gs_ldc2_w (pc := 3) (gd gk_119 3 rfl) (9) rfl ?_
    refine gs_callS (as := [.long ((x : Int32).toInt64), .long (0), .long (9)]) (pc := 6) (gd gk_119 4 rfl) (by decide) rfl rfl (Nat.le_of_ble_eq_true rfl) gq_119_107 (Nat.le_of_ble_eq_true rfl) (c_mrg (x) (0) (9)) (fun r_6 w_6 q_6 => ?_)
    obtain ⟨rfl, rfl⟩ := q_6
    refine gs_if_eq (pc := 9) (gd gk_119 5 rfl) (fun c9 => ?_) (fun c9 => ?_)
    · refine gs_bipush (pc := 21) (gd gk_119 11 rfl) (-2) rfl ?_
      -- end 1: ireturn (-2), pc 23, locals [(0, .ref (126)), (1, .int (x))]
      exact gs_iret (pc := 23) (gd gk_119 12 rfl) rfl (rfl) (Nat.zero_le _) (Nat.zero_le _) (⟨by rw [if_neg hr], rfl⟩)
    · -- end 2: stop, pc 12, locals [(0, .ref (126)), (1, .int (x))]
      exact absurd (gz_b_ne.mp c9) hr
/-- below a number: as the class asks, and as the reference asks -/
def gz_lt (x : Int32) (b : Nat) : Bool := decide (0 ≤ x ∧ x < Int32.ofNat b)
theorem gz_lt_nat {x : Int32} {b : Nat} (h : gz_lt x b = true) (hb : b < 1000) : ∃ c, c < b ∧ x = Int32.ofNat c := by
  obtain ⟨h1, h2⟩ := of_decide_eq_true h
  exact ⟨x.toNatClampNeg, (zlt_l h1 (n := b) (by omega)).mp h2, (znat h1).1.symm⟩
theorem gz_rg_lt (x : Int32) (b : Nat) (hb : b < 1000) : gz_rg x 0 (Int32.ofNat b - 1) = gz_lt x b := by
  unfold gz_rg gz_lt
  congr 1
  have e0 := Int32.toInt_ofNat_of_lt (n := b) (by omega)
  have e1 : (Int32.ofNat b - 1).toInt = b - 1 := by
    rw [Int32.toInt_sub, e0]
    exact Int.bmod_eq_of_le (by have : (1 : Int32).toInt = 1 := rfl; omega) (by have : (1 : Int32).toInt = 1 := rfl; omega)
  rw [Int32.le_iff_toInt_le, Int32.le_iff_toInt_le, Int32.lt_iff_toInt_lt, e0, e1]
  exact propext ⟨fun q => ⟨q.1, by omega⟩, fun q => ⟨q.1, by omega⟩⟩
theorem c_wind (x : Int32) (hW : I 6 3 = Int32.ofNat W) (h8 : W ≤ 8) : gw_E V 69 (0, [(0, .ref 3), (1, .int x)], [], gS n I J, 0, 0) (fun v w' => v = some (.int (if gz_lt x W then I 7 x.toNatClampNeg else -99)) ∧ w' = gS n I J) := by
  by_cases hr : gz_lt x W = true
  · obtain ⟨c, hc, rfl⟩ := gz_lt_nat hr (by omega)
    refine gs_iload_n (pc := 0) (gd gk_69 0 rfl) rfl ?_
    refine gs_if_lt (pc := 1) (gd gk_69 1 rfl) (fun c1 => ?_) (fun c1 => ?_)
    · replace c1 : c < 0 := (zlt (k := c) (m := 0) (by omega) (by omega)).mp c1
      refine gs_bipush (pc := 27) (gd gk_69 13 rfl) (-99) rfl ?_
      -- end 1: ireturn (-99), pc 29, locals [(0, .ref (3)), (1, .int (Int32.ofNat c))]
      exact absurd c1 (Nat.not_lt_zero _)
    · replace c1 : ¬ (c < 0) := fun q9 => c1 ((zlt (k := c) (m := 0) (by omega) (by omega)).mpr q9)
      refine gs_iload_n (pc := 4) (gd gk_69 2 rfl) rfl ?_
      refine gs_aload_n (pc := 5) (gd gk_69 3 rfl) rfl ?_
      refine gs_getR (r := 6) (pc := 6) (gd gk_69 4 rfl) rfl rfl rfl (by decide) ?_
      refine gs_getI (pc := 9) (gd gk_69 5 rfl) rfl rfl ?_
      refine gs_as (Int32.ofNat W) (hW) ?_
      refine gs_icmp_ge (pc := 12) (gd gk_69 6 rfl) (fun c12 => ?_) (fun c12 => ?_)
      · replace c12 : W ≤ c := (zle (k := W) (m := c) (by omega) (by omega)).mp c12
        refine gs_bipush (pc := 27) (gd gk_69 13 rfl) (-99) rfl ?_
        -- end 2: ireturn (-99), pc 29, locals [(0, .ref (3)), (1, .int (Int32.ofNat c))]
        exact absurd c12 (by omega)
      · replace c12 : ¬ (W ≤ c) := fun q9 => c12 ((zle (k := W) (m := c) (by omega) (by omega)).mpr q9)
        refine gs_aload_n (pc := 15) (gd gk_69 7 rfl) rfl ?_
        refine gs_getR (r := 6) (pc := 16) (gd gk_69 8 rfl) rfl rfl rfl (by decide) ?_
        refine gs_getR (r := 7) (pc := 19) (gd gk_69 9 rfl) rfl rfl rfl (by decide) ?_
        refine gs_iload_n (pc := 22) (gd gk_69 10 rfl) rfl ?_
        refine gs_ialoadK (c) (8) (pc := 23) (gd gk_69 11 rfl) (Or.inl rfl) rfl (by decide) (by first | rfl | (simp only [Int32.ofNat_add, Int32.ofNat_mul]; rfl) | (simp only [Int32.ofNat_add, Int32.ofNat_mul])) (by omega) ?_
        refine gs_goto (pc := 24) (gd gk_69 12 rfl) ?_
        -- end 3: ireturn (I 7 c), pc 29, locals [(0, .ref (3)), (1, .int (Int32.ofNat c))]
        exact gs_iret (pc := 29) (gd gk_69 14 rfl) rfl (rfl) (Nat.zero_le _) (Nat.zero_le _) (⟨by rw [if_pos hr, znn (by omega)], rfl⟩)
  · skip
    refine gs_iload_n (pc := 0) (gd gk_69 0 rfl) rfl ?_
    refine gs_if_lt (pc := 1) (gd gk_69 1 rfl) (fun c1 => ?_) (fun c1 => ?_)
    · refine gs_bipush (pc := 27) (gd gk_69 13 rfl) (-99) rfl ?_
      -- end 1: ireturn (-99), pc 29, locals [(0, .ref (3)), (1, .int (x))]
      exact gs_iret (pc := 29) (gd gk_69 14 rfl) rfl (rfl) (Nat.zero_le _) (Nat.zero_le _) (⟨by rw [if_neg hr], rfl⟩)
    · refine gs_iload_n (pc := 4) (gd gk_69 2 rfl) rfl ?_
      refine gs_aload_n (pc := 5) (gd gk_69 3 rfl) rfl ?_
      refine gs_getR (r := 6) (pc := 6) (gd gk_69 4 rfl) rfl rfl rfl (by decide) ?_
      refine gs_getI (pc := 9) (gd gk_69 5 rfl) rfl rfl ?_
      refine gs_as (Int32.ofNat W) (hW) ?_
      refine gs_icmp_ge (pc := 12) (gd gk_69 6 rfl) (fun c12 => ?_) (fun c12 => ?_)
      · refine gs_bipush (pc := 27) (gd gk_69 13 rfl) (-99) rfl ?_
        -- end 2: ireturn (-99), pc 29, locals [(0, .ref (3)), (1, .int (x))]
        exact gs_iret (pc := 29) (gd gk_69 14 rfl) rfl (rfl) (Nat.zero_le _) (Nat.zero_le _) (⟨by rw [if_neg hr], rfl⟩)
      · -- end 3: stop, pc 15, locals [(0, .ref (3)), (1, .int (x))]
        exact absurd (decide_eq_true ⟨Int32.not_lt.mp c1, Int32.not_le.mp c12⟩) hr
theorem m_wind (x : Int32) (hW : I 126 3 = Int32.ofNat W) (h8 : W ≤ 8) : gw_E V 120 (0, [(0, .ref 126), (1, .int x)], [], gS n I J, 0, 0) (fun v w' => v = some (.int (if gz_lt x W then I 127 x.toNatClampNeg else -99)) ∧ w' = gS n I J) := by
  by_cases hr : gz_lt x W = true
  · obtain ⟨c, hc, rfl⟩ := gz_lt_nat hr (by omega)
    refine gs_iload_n (pc := 0) (gd gk_120 0 rfl) rfl ?_
    refine gs_i2l (pc := 1) (gd gk_120 1 rfl) ?_
    refine gs_lconst (pc := 2) (gd gk_120 2 rfl) (0) rfl ?_
    refine gs_aload_n (pc := 3) (gd gk_120 3 rfl) rfl ?_
    refine gs_getI (pc := 4) (gd gk_120 4 rfl) rfl rfl ?_
    refine gs_as (Int32.ofNat W) (hW) ?_
    refine gs_iconst (pc := 7) (gd gk_120 5 rfl) (1) rfl ?_
    refine gs_isub (pc := 8) (gd gk_120 6 rfl) ?_
    refine gs_i2l (pc := 9) (gd gk_120 7 rfl) ?_
    refine gs_callS (as := [.long ((Int32.ofNat c : Int32).toInt64), .long (0), .long (((Int32.ofNat W - 1) : Int32).toInt64)]) (pc := 10) (gd gk_120 8 rfl) (by decide) rfl rfl (Nat.le_of_ble_eq_true rfl) gq_120_107 (Nat.le_of_ble_eq_true rfl) (c_mrg (Int32.ofNat c) (0) ((Int32.ofNat W - 1))) (fun r_10 w_10 q_10 => ?_)
    obtain ⟨rfl, rfl⟩ := q_10
    refine gs_if_eq (pc := 13) (gd gk_120 9 rfl) (fun c13 => ?_) (fun c13 => ?_)
    · refine gs_bipush (pc := 25) (gd gk_120 15 rfl) (-99) rfl ?_
      -- end 1: ireturn (-99), pc 27, locals [(0, .ref (126)), (1, .int (Int32.ofNat c))]
      exact absurd (gz_b_eq.mp c13) (by rw [gz_rg_lt _ _ (by omega), hr]; decide)
    · refine gs_aload_n (pc := 16) (gd gk_120 10 rfl) rfl ?_
      refine gs_getR (r := 127) (pc := 17) (gd gk_120 11 rfl) rfl rfl rfl (by decide) ?_
      refine gs_iload_n (pc := 20) (gd gk_120 12 rfl) rfl ?_
      refine gs_ialoadK (c) (8) (pc := 21) (gd gk_120 13 rfl) (Or.inl rfl) rfl (by decide) (by first | rfl | (simp only [Int32.ofNat_add, Int32.ofNat_mul]; rfl) | (simp only [Int32.ofNat_add, Int32.ofNat_mul])) (by omega) ?_
      refine gs_goto (pc := 22) (gd gk_120 14 rfl) ?_
      -- end 2: ireturn (I 127 c), pc 27, locals [(0, .ref (126)), (1, .int (Int32.ofNat c))]
      exact gs_iret (pc := 27) (gd gk_120 16 rfl) rfl (rfl) (Nat.zero_le _) (Nat.zero_le _) (⟨by rw [if_pos hr, znn (by omega)], rfl⟩)
  · skip
    refine gs_iload_n (pc := 0) (gd gk_120 0 rfl) rfl ?_
    refine gs_i2l (pc := 1) (gd gk_120 1 rfl) ?_
    refine gs_lconst (pc := 2) (gd gk_120 2 rfl) (0) rfl ?_
    refine gs_aload_n (pc := 3) (gd gk_120 3 rfl) rfl ?_
    refine gs_getI (pc := 4) (gd gk_120 4 rfl) rfl rfl ?_
    refine gs_as (Int32.ofNat W) (hW) ?_
    refine gs_iconst (pc := 7) (gd gk_120 5 rfl) (1) rfl ?_
    refine gs_isub (pc := 8) (gd gk_120 6 rfl) ?_
    refine gs_i2l (pc := 9) (gd gk_120 7 rfl) ?_
    refine gs_callS (as := [.long ((x : Int32).toInt64), .long (0), .long (((Int32.ofNat W - 1) : Int32).toInt64)]) (pc := 10) (gd gk_120 8 rfl) (by decide) rfl rfl (Nat.le_of_ble_eq_true rfl) gq_120_107 (Nat.le_of_ble_eq_true rfl) (c_mrg (x) (0) ((Int32.ofNat W - 1))) (fun r_10 w_10 q_10 => ?_)
    obtain ⟨rfl, rfl⟩ := q_10
    refine gs_if_eq (pc := 13) (gd gk_120 9 rfl) (fun c13 => ?_) (fun c13 => ?_)
    · refine gs_bipush (pc := 25) (gd gk_120 15 rfl) (-99) rfl ?_
      -- end 1: ireturn (-99), pc 27, locals [(0, .ref (126)), (1, .int (x))]
      exact gs_iret (pc := 27) (gd gk_120 16 rfl) rfl (rfl) (Nat.zero_le _) (Nat.zero_le _) (⟨by rw [if_neg hr], rfl⟩)
    · -- end 2: stop, pc 16, locals [(0, .ref (126)), (1, .int (x))]
      exact absurd (gz_b_ne.mp c13) (by rw [gz_rg_lt _ _ (by omega)]; exact hr)
theorem c_hasNose (x : Int32) (hN : I 6 4 = Int32.ofNat N) : gw_E V 34 (0, [(0, .ref 6), (1, .int x)], [], gS n I J, 0, 0) (fun v w' => v = some (.int (gz_b (gz_lt x N))) ∧ w' = gS n I J) := by
  refine gs_iload_n (pc := 0) (gd gk_34 0 rfl) rfl ?_
  refine gs_if_lt (pc := 1) (gd gk_34 1 rfl) (fun c1 => ?_) (fun c1 => ?_)
  · refine gs_iconst (pc := 16) (gd gk_34 8 rfl) (0) rfl ?_
    -- end 1: ireturn 0, pc 17, locals [(0, .ref (6)), (1, .int (x))]
    exact gs_iret (pc := 17) (gd gk_34 9 rfl) rfl (rfl) (Nat.zero_le _) (Nat.zero_le _) (⟨by rw [show gz_lt x N = false from decide_eq_false (fun q => absurd c1 (Int32.not_lt.mpr q.1))]; rfl, rfl⟩)
  · refine gs_iload_n (pc := 4) (gd gk_34 2 rfl) rfl ?_
    refine gs_aload_n (pc := 5) (gd gk_34 3 rfl) rfl ?_
    refine gs_getI (pc := 6) (gd gk_34 4 rfl) rfl rfl ?_
    refine gs_as (Int32.ofNat N) (hN) ?_
    refine gs_icmp_ge (pc := 9) (gd gk_34 5 rfl) (fun c9 => ?_) (fun c9 => ?_)
    · refine gs_iconst (pc := 16) (gd gk_34 8 rfl) (0) rfl ?_
      -- end 2: ireturn 0, pc 17, locals [(0, .ref (6)), (1, .int (x))]
      exact gs_iret (pc := 17) (gd gk_34 9 rfl) rfl (rfl) (Nat.zero_le _) (Nat.zero_le _) (⟨by rw [show gz_lt x N = false from decide_eq_false (fun q => absurd c9 (Int32.not_le.mpr q.2))]; rfl, rfl⟩)
    · refine gs_iconst (pc := 12) (gd gk_34 6 rfl) (1) rfl ?_
      refine gs_goto (pc := 13) (gd gk_34 7 rfl) ?_
      -- end 3: ireturn 1, pc 17, locals [(0, .ref (6)), (1, .int (x))]
      exact gs_iret (pc := 17) (gd gk_34 9 rfl) rfl (rfl) (Nat.zero_le _) (Nat.zero_le _) (⟨by rw [show gz_lt x N = true from decide_eq_true ⟨Int32.not_lt.mp c1, Int32.not_le.mp c9⟩]; rfl, rfl⟩)
theorem m_isNose (x : Int32) (hN : I 126 4 = Int32.ofNat N) (h6 : N ≤ 6) : gw_E V 118 (0, [(0, .ref 126), (1, .int x)], [], gS n I J, 0, 0) (fun v w' => v = some (.int (gz_b (gz_lt x N))) ∧ w' = gS n I J) := by
  refine gs_iload_n (pc := 0) (gd gk_118 0 rfl) rfl ?_
  refine gs_i2l (pc := 1) (gd gk_118 1 rfl) ?_
  refine gs_lconst (pc := 2) (gd gk_118 2 rfl) (0) rfl ?_
  refine gs_aload_n (pc := 3) (gd gk_118 3 rfl) rfl ?_
  refine gs_getI (pc := 4) (gd gk_118 4 rfl) rfl rfl ?_
  refine gs_as (Int32.ofNat N) (hN) ?_
  refine gs_iconst (pc := 7) (gd gk_118 5 rfl) (1) rfl ?_
  refine gs_isub (pc := 8) (gd gk_118 6 rfl) ?_
  refine gs_i2l (pc := 9) (gd gk_118 7 rfl) ?_
  refine gs_callS (as := [.long ((x : Int32).toInt64), .long (0), .long (((Int32.ofNat N - 1) : Int32).toInt64)]) (pc := 10) (gd gk_118 8 rfl) (by decide) rfl rfl (Nat.le_of_ble_eq_true rfl) gq_118_107 (Nat.le_of_ble_eq_true rfl) (c_mrg (x) (0) ((Int32.ofNat N - 1))) (fun r_10 w_10 q_10 => ?_)
  obtain ⟨rfl, rfl⟩ := q_10
  -- end 1: ireturn (gz_b (gz_rg (x) (0) ((Int32.ofNat N - 1)))), pc 13, locals [(0, .ref (126)), (1, .int (x))]
  exact gs_iret (pc := 13) (gd gk_118 9 rfl) rfl (gz_b_nar _) (Nat.zero_le _) (Nat.zero_le _) (⟨by rw [gz_rg_lt _ _ (by omega)], rfl⟩)
end
end
section
/-! ===== nose, of both ===== -/
section
variable {V : gw_V} {n W N h0 L bc : Nat} {I : Nat → Nat → Int32} {J : Nat → Nat → Int64}
/-- the answer of nose -/
def gq_nz (σ : Nat → Nat → Int32) (s : Nat → Int32) (N : Nat) (x u : Int32) : Int32 := if gz_lt x N then (if u = 0 then σ 2 x.toNatClampNeg else if u = 1 then σ 3 x.toNatClampNeg else if u = 2 then σ 4 x.toNatClampNeg else if u = 3 then σ 5 x.toNatClampNeg else if u = 4 then gz_b (gq_has σ s x.toNatClampNeg) else -2) else -1
theorem c_nosep (x u : Int32) (hok : gq_ok (gz_S I) W N) : gw_E V 70 (0, [(0, .ref 3), (1, .int x), (2, .int u)], [], gS n I J, 0, 0) (fun v w' => v = some (.int (gq_nz (gz_S I) (I 13) N x u)) ∧ w' = gS n I J) := by
  have hN : I 6 4 = Int32.ofNat N := hok.2.2.1
  have hN6 : N ≤ 6 := hok.2.2.2.1
  by_cases hr : gz_lt x N = true
  · obtain ⟨c, hc, rfl⟩ := gz_lt_nat hr (by omega)
    have hz : (Int32.ofNat c).toNatClampNeg = c := znn (by omega)
    have sw : gw_E V 70 (14, [(0, .ref 3), (1, .int (Int32.ofNat c)), (2, .int u)], [.int u], gS n I J, 0, 0) (fun v w' => v = some (.int (gq_nz (gz_S I) (I 13) N (Int32.ofNat c) u)) ∧ w' = gS n I J) := by
      by_cases e0 : u = 0
      · subst e0
        refine gs_tblIn (off := 34) (pc := 14) 48 (gd gk_70 8 rfl) (by decide) (by decide) rfl (by decide) ?_
        refine gs_aload_n (pc := 48) (gd gk_70 9 rfl) rfl ?_
        refine gs_getR (r := 6) (pc := 49) (gd gk_70 10 rfl) rfl rfl rfl (by decide) ?_
        refine gs_getR (r := 8) (pc := 52) (gd gk_70 11 rfl) rfl rfl rfl (by decide) ?_
        refine gs_iload_n (pc := 55) (gd gk_70 12 rfl) rfl ?_
        refine gs_ialoadK (c) (6) (pc := 56) (gd gk_70 13 rfl) (Or.inl rfl) rfl (by decide) (by first | rfl | (simp only [Int32.ofNat_add, Int32.ofNat_mul]; rfl) | (simp only [Int32.ofNat_add, Int32.ofNat_mul])) (by omega) ?_
        -- end 1: ireturn (I 8 c), pc 57, locals [(0, .ref (3)), (1, .int (Int32.ofNat c)), (2, .int (0))]
        exact gs_iret (pc := 57) (gd gk_70 14 rfl) rfl (rfl) (Nat.zero_le _) (Nat.zero_le _) (⟨by unfold gq_nz; rw [if_pos hr, hz]; rfl, rfl⟩)
      by_cases e1 : u = 1
      · subst e1
        refine gs_tblIn (off := 44) (pc := 14) 58 (gd gk_70 8 rfl) (by decide) (by decide) rfl (by decide) ?_
        refine gs_aload_n (pc := 58) (gd gk_70 15 rfl) rfl ?_
        refine gs_getR (r := 6) (pc := 59) (gd gk_70 16 rfl) rfl rfl rfl (by decide) ?_
        refine gs_getR (r := 9) (pc := 62) (gd gk_70 17 rfl) rfl rfl rfl (by decide) ?_
        refine gs_iload_n (pc := 65) (gd gk_70 18 rfl) rfl ?_
        refine gs_ialoadK (c) (6) (pc := 66) (gd gk_70 19 rfl) (Or.inl rfl) rfl (by decide) (by first | rfl | (simp only [Int32.ofNat_add, Int32.ofNat_mul]; rfl) | (simp only [Int32.ofNat_add, Int32.ofNat_mul])) (by omega) ?_
        -- end 1: ireturn (I 9 c), pc 67, locals [(0, .ref (3)), (1, .int (Int32.ofNat c)), (2, .int (1))]
        exact gs_iret (pc := 67) (gd gk_70 20 rfl) rfl (rfl) (Nat.zero_le _) (Nat.zero_le _) (⟨by unfold gq_nz; rw [if_pos hr, hz]; rfl, rfl⟩)
      by_cases e2 : u = 2
      · subst e2
        refine gs_tblIn (off := 54) (pc := 14) 68 (gd gk_70 8 rfl) (by decide) (by decide) rfl (by decide) ?_
        refine gs_aload_n (pc := 68) (gd gk_70 21 rfl) rfl ?_
        refine gs_getR (r := 6) (pc := 69) (gd gk_70 22 rfl) rfl rfl rfl (by decide) ?_
        refine gs_getR (r := 10) (pc := 72) (gd gk_70 23 rfl) rfl rfl rfl (by decide) ?_
        refine gs_iload_n (pc := 75) (gd gk_70 24 rfl) rfl ?_
        refine gs_ialoadK (c) (6) (pc := 76) (gd gk_70 25 rfl) (Or.inl rfl) rfl (by decide) (by first | rfl | (simp only [Int32.ofNat_add, Int32.ofNat_mul]; rfl) | (simp only [Int32.ofNat_add, Int32.ofNat_mul])) (by omega) ?_
        -- end 1: ireturn (I 10 c), pc 77, locals [(0, .ref (3)), (1, .int (Int32.ofNat c)), (2, .int (2))]
        exact gs_iret (pc := 77) (gd gk_70 26 rfl) rfl (rfl) (Nat.zero_le _) (Nat.zero_le _) (⟨by unfold gq_nz; rw [if_pos hr, hz]; rfl, rfl⟩)
      by_cases e3 : u = 3
      · subst e3
        refine gs_tblIn (off := 64) (pc := 14) 78 (gd gk_70 8 rfl) (by decide) (by decide) rfl (by decide) ?_
        refine gs_aload_n (pc := 78) (gd gk_70 27 rfl) rfl ?_
        refine gs_getR (r := 6) (pc := 79) (gd gk_70 28 rfl) rfl rfl rfl (by decide) ?_
        refine gs_getR (r := 11) (pc := 82) (gd gk_70 29 rfl) rfl rfl rfl (by decide) ?_
        refine gs_iload_n (pc := 85) (gd gk_70 30 rfl) rfl ?_
        refine gs_ialoadK (c) (6) (pc := 86) (gd gk_70 31 rfl) (Or.inl rfl) rfl (by decide) (by first | rfl | (simp only [Int32.ofNat_add, Int32.ofNat_mul]; rfl) | (simp only [Int32.ofNat_add, Int32.ofNat_mul])) (by omega) ?_
        -- end 1: ireturn (I 11 c), pc 87, locals [(0, .ref (3)), (1, .int (Int32.ofNat c)), (2, .int (3))]
        exact gs_iret (pc := 87) (gd gk_70 32 rfl) rfl (rfl) (Nat.zero_le _) (Nat.zero_le _) (⟨by unfold gq_nz; rw [if_pos hr, hz]; rfl, rfl⟩)
      by_cases e4 : u = 4
      · subst e4
        refine gs_tblIn (off := 74) (pc := 14) 88 (gd gk_70 8 rfl) (by decide) (by decide) rfl (by decide) ?_
        refine gs_aload_n (pc := 88) (gd gk_70 33 rfl) rfl ?_
        refine gs_getR (r := 6) (pc := 89) (gd gk_70 34 rfl) rfl rfl rfl (by decide) ?_
        refine gs_aload_n (pc := 92) (gd gk_70 35 rfl) rfl ?_
        refine gs_getR (r := 12) (pc := 93) (gd gk_70 36 rfl) rfl rfl rfl (by decide) ?_
        refine gs_getR (r := 13) (pc := 96) (gd gk_70 37 rfl) rfl rfl rfl (by decide) ?_
        refine gs_callV (as := [.ref (13)]) (pc := 99) (gd gk_70 38 rfl) (by decide) rfl (by decide) rfl rfl (Nat.le_of_ble_eq_true rfl) gq_70_35 (Nat.le_of_ble_eq_true rfl) (c_who 13 rfl rfl hok) (fun r_99 w_99 q_99 => ?_)
        obtain ⟨rfl, rfl⟩ := q_99
        refine gs_iload_n (pc := 102) (gd gk_70 39 rfl) rfl ?_
        refine gs_callS (as := [.int ((gq_who (gz_S I) (I 13) N)), .int (Int32.ofNat c)]) (pc := 103) (gd gk_70 40 rfl) (by decide) rfl rfl (Nat.le_of_ble_eq_true rfl) gq_70_96 (Nat.le_of_ble_eq_true rfl) (c_in ((gq_who (gz_S I) (I 13) N)) (Int32.ofNat c)) (fun r_103 w_103 q_103 => ?_)
        obtain ⟨rfl, rfl⟩ := q_103
        refine gs_if_eq (pc := 106) (gd gk_70 41 rfl) (fun c106 => ?_) (fun c106 => ?_)
        · refine gs_iconst (pc := 113) (gd gk_70 44 rfl) (0) rfl ?_
          -- end 1: ireturn 0, pc 114, locals [(0, .ref (3)), (1, .int (Int32.ofNat c)), (2, .int (4))]
          have hh : gq_has (gz_S I) (I 13) c = false := by have := gz_b_eq.mp c106; rw [gq_who_bit _ _ (by omega) _ (by omega), decide_eq_true hc, Bool.true_and] at this; exact this
          exact gs_iret (pc := 114) (gd gk_70 45 rfl) rfl (rfl) (Nat.zero_le _) (Nat.zero_le _) (⟨by unfold gq_nz; rw [if_pos hr, hz, hh]; rfl, rfl⟩)
        · refine gs_iconst (pc := 109) (gd gk_70 42 rfl) (1) rfl ?_
          refine gs_goto (pc := 110) (gd gk_70 43 rfl) ?_
          -- end 2: ireturn 1, pc 114, locals [(0, .ref (3)), (1, .int (Int32.ofNat c)), (2, .int (4))]
          have hh : gq_has (gz_S I) (I 13) c = true := by have := gz_b_ne.mp c106; rw [gq_who_bit _ _ (by omega) _ (by omega), decide_eq_true hc, Bool.true_and] at this; exact this
          exact gs_iret (pc := 114) (gd gk_70 45 rfl) rfl (rfl) (Nat.zero_le _) (Nat.zero_le _) (⟨by unfold gq_nz; rw [if_pos hr, hz, hh]; rfl, rfl⟩)
      · refine gs_tblOut (pc := 14) 115 (gd gk_70 8 rfl) ?_ (by decide) ?_
        · have q0 : u.toInt ≠ 0 := fun e => e0 (Int32.toInt_inj.mp e)
          have q1 : u.toInt ≠ 1 := fun e => e1 (Int32.toInt_inj.mp e)
          have q2 : u.toInt ≠ 2 := fun e => e2 (Int32.toInt_inj.mp e)
          have q3 : u.toInt ≠ 3 := fun e => e3 (Int32.toInt_inj.mp e)
          have q4 : u.toInt ≠ 4 := fun e => e4 (Int32.toInt_inj.mp e)
          omega
        refine gs_bipush (pc := 115) (gd gk_70 46 rfl) (-2) rfl ?_
        -- end 1: ireturn (-2), pc 117, locals [(0, .ref (3)), (1, .int (Int32.ofNat c)), (2, .int (u))]
        exact gs_iret (pc := 117) (gd gk_70 47 rfl) rfl (rfl) (Nat.zero_le _) (Nat.zero_le _) (⟨by unfold gq_nz; rw [if_pos hr, if_neg e0, if_neg e1, if_neg e2, if_neg e3, if_neg e4], rfl⟩)
    refine gs_aload_n (pc := 0) (gd gk_70 0 rfl) rfl ?_
    refine gs_getR (r := 6) (pc := 1) (gd gk_70 1 rfl) rfl rfl rfl (by decide) ?_
    refine gs_iload_n (pc := 4) (gd gk_70 2 rfl) rfl ?_
    refine gs_callV (as := [.int (Int32.ofNat c)]) (pc := 5) (gd gk_70 3 rfl) (by decide) rfl (by decide) rfl rfl (Nat.le_of_ble_eq_true rfl) gq_70_34 (Nat.le_of_ble_eq_true rfl) (c_hasNose _ hN) (fun r_5 w_5 q_5 => ?_)
    obtain ⟨rfl, rfl⟩ := q_5
    refine gs_if_ne (pc := 8) (gd gk_70 4 rfl) (fun c8 => ?_) (fun c8 => ?_)
    · refine gs_iload_n (pc := 13) (gd gk_70 7 rfl) rfl ?_
      -- end 1: stop, pc 14, locals [(0, .ref (3)), (1, .int (Int32.ofNat c)), (2, .int (u))]
      exact sw
    · refine gs_iconst (pc := 11) (gd gk_70 5 rfl) (-1) rfl ?_
      -- end 2: ireturn (-1), pc 12, locals [(0, .ref (3)), (1, .int (Int32.ofNat c)), (2, .int (u))]
      exact absurd (gz_b_eq.mp c8) (by rw [hr]; decide)
  · skip
    refine gs_aload_n (pc := 0) (gd gk_70 0 rfl) rfl ?_
    refine gs_getR (r := 6) (pc := 1) (gd gk_70 1 rfl) rfl rfl rfl (by decide) ?_
    refine gs_iload_n (pc := 4) (gd gk_70 2 rfl) rfl ?_
    refine gs_callV (as := [.int (x)]) (pc := 5) (gd gk_70 3 rfl) (by decide) rfl (by decide) rfl rfl (Nat.le_of_ble_eq_true rfl) gq_70_34 (Nat.le_of_ble_eq_true rfl) (c_hasNose _ hN) (fun r_5 w_5 q_5 => ?_)
    obtain ⟨rfl, rfl⟩ := q_5
    refine gs_if_ne (pc := 8) (gd gk_70 4 rfl) (fun c8 => ?_) (fun c8 => ?_)
    · -- end 1: stop, pc 13, locals [(0, .ref (3)), (1, .int (x)), (2, .int (u))]
      exact absurd (gz_b_ne.mp c8) hr
    · refine gs_iconst (pc := 11) (gd gk_70 5 rfl) (-1) rfl ?_
      -- end 2: ireturn (-1), pc 12, locals [(0, .ref (3)), (1, .int (x)), (2, .int (u))]
      exact gs_iret (pc := 12) (gd gk_70 6 rfl) rfl (rfl) (Nat.zero_le _) (Nat.zero_le _) (⟨by unfold gq_nz; rw [if_neg hr], rfl⟩)
theorem m_nosep (x u : Int32) (hok : gq_ok (gz_M I) W N) : gw_E V 123 (0, [(0, .ref 126), (1, .int x), (2, .int u)], [], gS n I J, 0, 0) (fun v w' => v = some (.int (gq_nz (gz_M I) (gz_L I 0) N x u)) ∧ w' = gS n I J) := by
  have hN : I 126 4 = Int32.ofNat N := hok.2.2.1
  have hN6 : N ≤ 6 := hok.2.2.2.1
  by_cases hr : gz_lt x N = true
  · obtain ⟨c, hc, rfl⟩ := gz_lt_nat hr (by omega)
    have hz : (Int32.ofNat c).toNatClampNeg = c := znn (by omega)
    by_cases hu : gz_rg u 0 3 = true
    · obtain ⟨d, hd, rfl⟩ := gz_nat (b := 3) hu (by omega)
      refine gs_aload_n (pc := 0) (gd gk_123 0 rfl) rfl ?_
      refine gs_iload_n (pc := 1) (gd gk_123 1 rfl) rfl ?_
      refine gs_callV (as := [.int (Int32.ofNat c)]) (pc := 2) (gd gk_123 2 rfl) (by decide) rfl (by decide) rfl rfl (Nat.le_of_ble_eq_true rfl) gq_123_118 (Nat.le_of_ble_eq_true rfl) (m_isNose _ hN hN6) (fun r_2 w_2 q_2 => ?_)
      obtain ⟨rfl, rfl⟩ := q_2
      refine gs_if_ne (pc := 5) (gd gk_123 3 rfl) (fun c5 => ?_) (fun c5 => ?_)
      · refine gs_iload_n (pc := 10) (gd gk_123 6 rfl) rfl ?_
        refine gs_i2l (pc := 11) (gd gk_123 7 rfl) ?_
        refine gs_lconst (pc := 12) (gd gk_123 8 rfl) (0) rfl ?_
        refine gs_ldc2_w (pc := 13) (gd gk_123 9 rfl) (3) rfl ?_
        refine gs_callS (as := [.long ((Int32.ofNat d : Int32).toInt64), .long (0), .long (3)]) (pc := 16) (gd gk_123 10 rfl) (by decide) rfl rfl (Nat.le_of_ble_eq_true rfl) gq_123_107 (Nat.le_of_ble_eq_true rfl) (c_mrg (Int32.ofNat d) (0) (3)) (fun r_16 w_16 q_16 => ?_)
        obtain ⟨rfl, rfl⟩ := q_16
        refine gs_if_eq (pc := 19) (gd gk_123 11 rfl) (fun c19 => ?_) (fun c19 => ?_)
        · -- end 1: stop, pc 33, locals [(0, .ref (126)), (1, .int (Int32.ofNat c)), (2, .int (Int32.ofNat d))]
          exact absurd (gz_b_eq.mp c19) (by rw [hu]; decide)
        · refine gs_aload_n (pc := 22) (gd gk_123 12 rfl) rfl ?_
          refine gs_getR (r := 129) (pc := 23) (gd gk_123 13 rfl) rfl rfl rfl (by decide) ?_
          refine gs_iconst (pc := 26) (gd gk_123 14 rfl) (4) rfl ?_
          refine gs_iload_n (pc := 27) (gd gk_123 15 rfl) rfl ?_
          refine gs_imul (pc := 28) (gd gk_123 16 rfl) ?_
          refine gs_iload_n (pc := 29) (gd gk_123 17 rfl) rfl ?_
          refine gs_iadd (pc := 30) (gd gk_123 18 rfl) ?_
          refine gs_ialoadK (((4 * c) + d)) (24) (pc := 31) (gd gk_123 19 rfl) (Or.inl rfl) rfl (by decide) (by first | rfl | (simp only [Int32.ofNat_add, Int32.ofNat_mul]; rfl) | (simp only [Int32.ofNat_add, Int32.ofNat_mul])) (by omega) ?_
          -- end 2: ireturn (I 129 ((4 * c) + d)), pc 32, locals [(0, .ref (126)), (1, .int (Int32.ofNat c)), (2, .int (Int32.ofNat d))]
          exact gs_iret (pc := 32) (gd gk_123 20 rfl) rfl (rfl) (Nat.zero_le _) (Nat.zero_le _) (⟨by
            unfold gq_nz
            rw [if_pos hr, hz]
            rcases (by omega : d = 0 ∨ d = 1 ∨ d = 2 ∨ d = 3) with rfl | rfl | rfl | rfl <;> rfl, rfl⟩)
      · refine gs_iconst (pc := 8) (gd gk_123 4 rfl) (-1) rfl ?_
        -- end 3: ireturn (-1), pc 9, locals [(0, .ref (126)), (1, .int (Int32.ofNat c)), (2, .int (Int32.ofNat d))]
        exact absurd (gz_b_eq.mp c5) (by rw [hr]; decide)
    · skip
      refine gs_aload_n (pc := 0) (gd gk_123 0 rfl) rfl ?_
      refine gs_iload_n (pc := 1) (gd gk_123 1 rfl) rfl ?_
      refine gs_callV (as := [.int (Int32.ofNat c)]) (pc := 2) (gd gk_123 2 rfl) (by decide) rfl (by decide) rfl rfl (Nat.le_of_ble_eq_true rfl) gq_123_118 (Nat.le_of_ble_eq_true rfl) (m_isNose _ hN hN6) (fun r_2 w_2 q_2 => ?_)
      obtain ⟨rfl, rfl⟩ := q_2
      refine gs_if_ne (pc := 5) (gd gk_123 3 rfl) (fun c5 => ?_) (fun c5 => ?_)
      · refine gs_iload_n (pc := 10) (gd gk_123 6 rfl) rfl ?_
        refine gs_i2l (pc := 11) (gd gk_123 7 rfl) ?_
        refine gs_lconst (pc := 12) (gd gk_123 8 rfl) (0) rfl ?_
        refine gs_ldc2_w (pc := 13) (gd gk_123 9 rfl) (3) rfl ?_
        refine gs_callS (as := [.long ((u : Int32).toInt64), .long (0), .long (3)]) (pc := 16) (gd gk_123 10 rfl) (by decide) rfl rfl (Nat.le_of_ble_eq_true rfl) gq_123_107 (Nat.le_of_ble_eq_true rfl) (c_mrg (u) (0) (3)) (fun r_16 w_16 q_16 => ?_)
        obtain ⟨rfl, rfl⟩ := q_16
        refine gs_if_eq (pc := 19) (gd gk_123 11 rfl) (fun c19 => ?_) (fun c19 => ?_)
        · refine gs_iload_n (pc := 33) (gd gk_123 21 rfl) rfl ?_
          refine gs_iconst (pc := 34) (gd gk_123 22 rfl) (4) rfl ?_
          refine gs_icmp_ne (pc := 35) (gd gk_123 23 rfl) (fun c35 => ?_) (fun c35 => ?_)
          · refine gs_bipush (pc := 55) (gd gk_123 33 rfl) (-2) rfl ?_
            -- end 1: ireturn (-2), pc 57, locals [(0, .ref (126)), (1, .int (Int32.ofNat c)), (2, .int (u))]
            have h0 : u ≠ 0 := fun e => hu (by rw [e]; decide)
            have h1 : u ≠ 1 := fun e => hu (by rw [e]; decide)
            have h2 : u ≠ 2 := fun e => hu (by rw [e]; decide)
            have h3 : u ≠ 3 := fun e => hu (by rw [e]; decide)
            exact gs_iret (pc := 57) (gd gk_123 34 rfl) rfl (rfl) (Nat.zero_le _) (Nat.zero_le _) (⟨by unfold gq_nz; rw [if_pos hr, if_neg h0, if_neg h1, if_neg h2, if_neg h3, if_neg c35], rfl⟩)
          · refine gs_aload_n (pc := 38) (gd gk_123 24 rfl) rfl ?_
            refine gs_iconst (pc := 39) (gd gk_123 25 rfl) (0) rfl ?_
            refine gs_iload_n (pc := 40) (gd gk_123 26 rfl) rfl ?_
            refine gs_callV (as := [.int (0), .int (Int32.ofNat c)]) (pc := 41) (gd gk_123 27 rfl) (by decide) rfl (by decide) rfl rfl (Nat.le_of_ble_eq_true rfl) gq_123_121 (Nat.le_of_ble_eq_true rfl) (m_hasIt 0 c (by omega) (by omega) (gq_ok_n hok c hc)) (fun r_41 w_41 q_41 => ?_)
            obtain ⟨rfl, rfl⟩ := q_41
            refine gs_if_eq (pc := 44) (gd gk_123 28 rfl) (fun c44 => ?_) (fun c44 => ?_)
            · refine gs_iconst (pc := 51) (gd gk_123 31 rfl) (0) rfl ?_
              refine gs_goto (pc := 52) (gd gk_123 32 rfl) ?_
              -- end 2: ireturn 0, pc 57, locals [(0, .ref (126)), (1, .int (Int32.ofNat c)), (2, .int (u))]
              have h0 : u ≠ 0 := fun e => hu (by rw [e]; decide)
              have h1 : u ≠ 1 := fun e => hu (by rw [e]; decide)
              have h2 : u ≠ 2 := fun e => hu (by rw [e]; decide)
              have h3 : u ≠ 3 := fun e => hu (by rw [e]; decide)
              exact gs_iret (pc := 57) (gd gk_123 34 rfl) rfl (rfl) (Nat.zero_le _) (Nat.zero_le _) (⟨by unfold gq_nz; rw [if_pos hr, if_neg h0, if_neg h1, if_neg h2, if_neg h3, if_pos c35, hz, gz_b_eq.mp c44]; rfl, rfl⟩)
            · refine gs_iconst (pc := 47) (gd gk_123 29 rfl) (1) rfl ?_
              refine gs_goto (pc := 48) (gd gk_123 30 rfl) ?_
              -- end 3: ireturn 1, pc 57, locals [(0, .ref (126)), (1, .int (Int32.ofNat c)), (2, .int (u))]
              have h0 : u ≠ 0 := fun e => hu (by rw [e]; decide)
              have h1 : u ≠ 1 := fun e => hu (by rw [e]; decide)
              have h2 : u ≠ 2 := fun e => hu (by rw [e]; decide)
              have h3 : u ≠ 3 := fun e => hu (by rw [e]; decide)
              exact gs_iret (pc := 57) (gd gk_123 34 rfl) rfl (rfl) (Nat.zero_le _) (Nat.zero_le _) (⟨by unfold gq_nz; rw [if_pos hr, if_neg h0, if_neg h1, if_neg h2, if_neg h3, if_pos c35, hz, gz_b_ne.mp c44]; rfl, rfl⟩)
        · -- end 4: stop, pc 22, locals [(0, .ref (126)), (1, .int (Int32.ofNat c)), (2, .int (u))]
          exact absurd (gz_b_ne.mp c19) hu
      · refine gs_iconst (pc := 8) (gd gk_123 4 rfl) (-1) rfl ?_
        -- end 5: ireturn (-1), pc 9, locals [(0, .ref (126)), (1, .int (Int32.ofNat c)), (2, .int (u))]
        exact absurd (gz_b_eq.mp c5) (by rw [hr]; decide)
  · skip
    refine gs_aload_n (pc := 0) (gd gk_123 0 rfl) rfl ?_
    refine gs_iload_n (pc := 1) (gd gk_123 1 rfl) rfl ?_
    refine gs_callV (as := [.int (x)]) (pc := 2) (gd gk_123 2 rfl) (by decide) rfl (by decide) rfl rfl (Nat.le_of_ble_eq_true rfl) gq_123_118 (Nat.le_of_ble_eq_true rfl) (m_isNose _ hN hN6) (fun r_2 w_2 q_2 => ?_)
    obtain ⟨rfl, rfl⟩ := q_2
    refine gs_if_ne (pc := 5) (gd gk_123 3 rfl) (fun c5 => ?_) (fun c5 => ?_)
    · -- end 1: stop, pc 10, locals [(0, .ref (126)), (1, .int (x)), (2, .int (u))]
      exact absurd (gz_b_ne.mp c5) hr
    · refine gs_iconst (pc := 8) (gd gk_123 4 rfl) (-1) rfl ?_
      -- end 2: ireturn (-1), pc 9, locals [(0, .ref (126)), (1, .int (x)), (2, .int (u))]
      exact gs_iret (pc := 9) (gd gk_123 5 rfl) rfl (rfl) (Nat.zero_le _) (Nat.zero_le _) (⟨by unfold gq_nz; rw [if_neg hr], rfl⟩)
end
end
section
/-! ===== acts: remember, takeBack; keepAct ===== -/
section
variable {V : gw_V} {n W N h0 L bc : Nat} {I : Nat → Nat → Int32} {J : Nat → Nat → Int64}
/-- the morning at a of one world is that at b of another -/
def gz_mm (I2 : Nat → Nat → Int32) (a : Nat) (I : Nat → Nat → Int32) (b : Nat) : Prop := (∀ c, c < 10 → I2 (a + 1) c = I (b + 1) c) ∧ I2 a 1 = I b 1 ∧ I2 a 2 = I b 2 ∧ I2 a 3 = I b 3
theorem gz_r14 : ∀ k, k < 14 → (Int32.ofNat k + 1) - (Int32.ofNat k + 1) / 14 * 14 = Int32.ofNat ((k + 1) % 14) := by decide +kernel
theorem gz_r13 : ∀ k, k < 14 → ((Int32.ofNat k + 14) - 1) - ((Int32.ofNat k + 14) - 1) / 14 * 14 = Int32.ofNat ((k + 13) % 14) := by decide +kernel
theorem gz_r13m : ∀ k, k < 14 → (Int32.ofNat k + 13) - (Int32.ofNat k + 13) / 14 * 14 = Int32.ofNat ((k + 13) % 14) := by decide +kernel
theorem gz_min14 : ∀ k, k < 15 → (if (14 : Int32) < Int32.ofNat k + 1 then 14 else Int32.ofNat k + 1) = Int32.ofNat (min (k + 1) 14) := by decide +kernel
theorem c_remember (nx sz : Nat) (h1 : I 16 1 = Int32.ofNat nx) (h2 : nx < 14) (h3 : I 16 2 = Int32.ofNat sz) (h4 : sz ≤ 14) : gw_E V 2 (0, [(0, .ref 16), (1, .ref 12)], [], gS n I J, 0, 0) (fun v w' => v = none ∧ ∃ I2, w' = gS n I2 J ∧ gz_mm I2 (18 + 2 * nx) I 12 ∧ I2 16 1 = Int32.ofNat ((nx + 1) % 14) ∧ I2 16 2 = Int32.ofNat (min (sz + 1) 14) ∧ ∀ p, p ≠ 18 + 2 * nx → p ≠ 18 + 2 * nx + 1 → p ≠ 16 → I2 p = I p) := by
  refine gs_aload_n (pc := 0) (gd gk_2 0 rfl) rfl ?_
  refine gs_getR (r := 17) (pc := 1) (gd gk_2 1 rfl) rfl rfl rfl (by decide) ?_
  refine gs_aload_n (pc := 4) (gd gk_2 2 rfl) rfl ?_
  refine gs_getI (pc := 5) (gd gk_2 3 rfl) rfl rfl ?_
  refine gs_as (Int32.ofNat nx) (h1) ?_
  refine gs_aaloadK (r := 18 + 2 * nx) (nx) (14) (pc := 8) (gd gk_2 4 rfl) (Or.inl rfl) rfl (by decide) (by first | rfl | (simp only [Int32.ofNat_add, Int32.ofNat_mul]; rfl) | (simp only [Int32.ofNat_add, Int32.ofNat_mul])) (by omega) rfl (by omega) ?_
  refine gs_aload_n (pc := 9) (gd gk_2 5 rfl) rfl ?_
  refine gs_callV (as := [.ref (12)]) (pc := 10) (gd gk_2 6 rfl) (by decide) rfl (by decide) (gz_mo_a nx h2 n I J).1 rfl (Nat.le_of_ble_eq_true rfl) gq_2_15 (Nat.le_of_ble_eq_true rfl) (c_copy (18 + 2 * nx) 12 (gz_mo_a nx h2) gz_mo_12 (by omega) (by omega) (by omega)) (fun r_10 w_10 q_10 => ?_)
  obtain ⟨rfl, I_c, rfl, d2, d3, d4, d5, d6⟩ := q_10
  refine gs_aload_n (pc := 13) (gd gk_2 7 rfl) rfl ?_
  refine gs_aload_n (pc := 14) (gd gk_2 8 rfl) rfl ?_
  refine gs_getI (pc := 15) (gd gk_2 9 rfl) rfl rfl ?_
  refine gs_iconst (pc := 18) (gd gk_2 10 rfl) (1) rfl ?_
  refine gs_iadd (pc := 19) (gd gk_2 11 rfl) ?_
  refine gs_bipush (pc := 20) (gd gk_2 12 rfl) (14) rfl ?_
  refine gs_irem (pc := 22) (gd gk_2 13 rfl) (by decide) ?_
  refine gs_putI (pc := 23) (gd gk_2 14 rfl) rfl rfl rfl rfl (fun I_1 hI_1 => ?_)
  refine gs_aload_n (pc := 26) (gd gk_2 15 rfl) rfl ?_
  refine gs_aload_n (pc := 27) (gd gk_2 16 rfl) rfl ?_
  refine gs_getI (pc := 28) (gd gk_2 17 rfl) rfl rfl ?_
  refine gs_iconst (pc := 31) (gd gk_2 18 rfl) (1) rfl ?_
  refine gs_iadd (pc := 32) (gd gk_2 19 rfl) ?_
  refine gs_bipush (pc := 33) (gd gk_2 20 rfl) (14) rfl ?_
  refine gs_mmin (pc := 35) (gd gk_2 21 rfl) (by decide) (by decide) (Nat.zero_le _) (Nat.zero_le _) (Nat.le_of_ble_eq_true rfl) ?_
  refine gs_putI (pc := 38) (gd gk_2 22 rfl) rfl rfl rfl rfl (fun I_2 hI_2 => ?_)
  -- end 1: return, pc 41, locals [(0, .ref (16)), (1, .ref (12))]
  have e1 : I_c 16 1 = Int32.ofNat nx := by rw [d6 16 (by omega) (by omega)]; exact h1
  have e2 : I_c 16 2 = Int32.ofNat sz := by rw [d6 16 (by omega) (by omega)]; exact h3
  have f2 : I_1 16 2 = Int32.ofNat sz := by rw [hI_1, gw_u_s]; simp [upd]; exact e2
  have o : ∀ p, p ≠ 16 → I_2 p = I_c p := fun p hp => by rw [hI_2, gw_u_o hp, hI_1, gw_u_o hp]
  have a1 : I_2 16 1 = Int32.ofNat ((nx + 1) % 14) := by rw [hI_2, gw_u_s]; simp only [upd]; rw [if_neg (by omega), hI_1, gw_u_s]; simp only [upd, if_true]; rw [e1]; exact gz_r14 nx h2
  have a2 : I_2 16 2 = Int32.ofNat (min (sz + 1) 14) := by rw [hI_2, gw_u_s]; simp only [upd, if_true]; rw [f2]; exact gz_min14 sz (by omega)
  exact gs_ret (pc := 41) (gd gk_2 23 rfl) rfl (Nat.zero_le _) (Nat.zero_le _) (⟨rfl, I_2, rfl, ⟨fun c hc => by rw [o _ (by omega)]; exact d2 c hc, by rw [o _ (by omega)]; exact d3, by rw [o _ (by omega)]; exact d4, by rw [o _ (by omega)]; exact d5⟩, a1, a2, fun p q1 q2 q3 => by rw [o p q3]; exact d6 p q1 q2⟩)
theorem c_takeBack (nx sz : Nat) (h1 : I 16 1 = Int32.ofNat nx) (h2 : nx < 14) (h3 : I 16 2 = Int32.ofNat sz) (h4 : sz ≤ 14) : gw_E V 3 (0, [(0, .ref 16), (1, .ref 12)], [], gS n I J, 0, 0) (fun v w' => ∃ I2, w' = gS n I2 J ∧ v = some (.int (gz_b (decide (0 < sz)))) ∧ (sz = 0 → I2 = I) ∧ (0 < sz → gz_mm I2 12 I (18 + 2 * ((nx + 13) % 14)) ∧ I2 16 1 = Int32.ofNat ((nx + 13) % 14) ∧ I2 16 2 = Int32.ofNat (sz - 1) ∧ ∀ p, p ≠ 12 → p ≠ 13 → p ≠ 16 → I2 p = I p)) := by
  refine gs_aload_n (pc := 0) (gd gk_3 0 rfl) rfl ?_
  refine gs_getI (pc := 1) (gd gk_3 1 rfl) rfl rfl ?_
  refine gs_as (Int32.ofNat sz) (h3) ?_
  refine gs_if_ne (pc := 4) (gd gk_3 2 rfl) (fun c4 => ?_) (fun c4 => ?_)
  · replace c4 : ¬ (sz = 0) := fun q9 => c4 ((zeq (k := sz) (m := 0) (by omega) (by omega)).mpr q9)
    refine gs_aload_n (pc := 9) (gd gk_3 5 rfl) rfl ?_
    refine gs_aload_n (pc := 10) (gd gk_3 6 rfl) rfl ?_
    refine gs_getI (pc := 11) (gd gk_3 7 rfl) rfl rfl ?_
    refine gs_as (Int32.ofNat nx) (h1) ?_
    refine gs_bipush (pc := 14) (gd gk_3 8 rfl) (14) rfl ?_
    refine gs_iadd (pc := 16) (gd gk_3 9 rfl) ?_
    refine gs_iconst (pc := 17) (gd gk_3 10 rfl) (1) rfl ?_
    refine gs_isub (pc := 18) (gd gk_3 11 rfl) ?_
    refine gs_bipush (pc := 19) (gd gk_3 12 rfl) (14) rfl ?_
    refine gs_irem (pc := 21) (gd gk_3 13 rfl) (by decide) ?_
    refine gs_putI (pc := 22) (gd gk_3 14 rfl) rfl rfl rfl rfl (fun I_1 hI_1 => ?_)
    refine gs_aload_n (pc := 25) (gd gk_3 15 rfl) rfl ?_
    refine gs_aload_n (pc := 26) (gd gk_3 16 rfl) rfl ?_
    refine gs_getR (r := 17) (pc := 27) (gd gk_3 17 rfl) rfl rfl rfl (by decide) ?_
    refine gs_aload_n (pc := 30) (gd gk_3 18 rfl) rfl ?_
    refine gs_getI (pc := 31) (gd gk_3 19 rfl) rfl rfl ?_
    refine gs_as (Int32.ofNat ((nx + 13) % 14)) (by rw [hI_1, gw_u_s]; simp only [upd, if_true]; exact gz_r13 nx h2) ?_
    refine gs_aaloadK (r := 18 + 2 * ((nx + 13) % 14)) (((nx + 13) % 14)) (14) (pc := 34) (gd gk_3 20 rfl) (Or.inl rfl) rfl (by decide) (by first | rfl | (simp only [Int32.ofNat_add, Int32.ofNat_mul]; rfl) | (simp only [Int32.ofNat_add, Int32.ofNat_mul])) (by omega) rfl (by omega) ?_
    refine gs_callV (as := [.ref (18 + 2 * ((nx + 13) % 14))]) (pc := 35) (gd gk_3 21 rfl) (by decide) rfl (by decide) rfl rfl (Nat.le_of_ble_eq_true rfl) gq_3_15 (Nat.le_of_ble_eq_true rfl) (c_copy 12 (18 + 2 * ((nx + 13) % 14)) gz_mo_12 (gz_mo_a _ (by omega)) (by omega) (by omega) (by omega)) (fun r_35 w_35 q_35 => ?_)
    obtain ⟨rfl, I_c, rfl, d2, d3, d4, d5, d6⟩ := q_35
    refine gs_aload_n (pc := 38) (gd gk_3 22 rfl) rfl ?_
    refine gs_dup (pc := 39) (gd gk_3 23 rfl) rfl ?_
    refine gs_getI (pc := 40) (gd gk_3 24 rfl) rfl rfl ?_
    refine gs_iconst (pc := 43) (gd gk_3 25 rfl) (1) rfl ?_
    refine gs_isub (pc := 44) (gd gk_3 26 rfl) ?_
    refine gs_putI (pc := 45) (gd gk_3 27 rfl) rfl rfl rfl rfl (fun I_2 hI_2 => ?_)
    refine gs_iconst (pc := 48) (gd gk_3 28 rfl) (1) rfl ?_
    -- end 1: ireturn 1, pc 49, locals [(0, .ref (16)), (1, .ref (12))]
    have hp : 0 < sz := by omega
    have o1 : ∀ p, p ≠ 16 → I_1 p = I p := fun p hp => by rw [hI_1, gw_u_o hp]
    have o2 : ∀ p, p ≠ 16 → I_2 p = I_c p := fun p hp => by rw [hI_2, gw_u_o hp]
    have e1 : I_c 16 = I_1 16 := d6 16 (by omega) (by omega)
    have f1 : I_1 16 1 = Int32.ofNat ((nx + 13) % 14) := by rw [hI_1, gw_u_s]; simp only [upd, if_true]; exact gz_r13 nx h2
    have f2 : I_1 16 2 = Int32.ofNat sz := by rw [hI_1, gw_u_s]; simp [upd]; exact h3
    have a1 : I_2 16 1 = Int32.ofNat ((nx + 13) % 14) := by rw [hI_2, gw_u_s]; simp only [upd]; rw [if_neg (by omega), e1]; exact f1
    have a2 : I_2 16 2 = Int32.ofNat (sz - 1) := by rw [hI_2, gw_u_s]; simp only [upd, if_true]; rw [e1, f2]; obtain ⟨z, rfl⟩ : ∃ z, sz = z + 1 := ⟨sz - 1, by omega⟩; rw [zsucc]; simp
    exact gs_iret (pc := 49) (gd gk_3 29 rfl) rfl (rfl) (Nat.zero_le _) (Nat.zero_le _) (⟨I_2, rfl, by rw [decide_eq_true hp]; rfl, fun e => absurd e c4, fun _ => ⟨⟨fun c hc => by rw [o2 _ (by omega), d2 c hc, o1 _ (by omega)], by rw [o2 _ (by omega), d3, o1 _ (by omega)], by rw [o2 _ (by omega), d4, o1 _ (by omega)], by rw [o2 _ (by omega), d5, o1 _ (by omega)]⟩, a1, a2, fun p q1 q2 q3 => by rw [o2 p q3, d6 p q1 q2, o1 p q3]⟩⟩)
  · replace c4 : sz = 0 := (zeq (k := sz) (m := 0) (by omega) (by omega)).mp c4
    refine gs_iconst (pc := 7) (gd gk_3 3 rfl) (0) rfl ?_
    -- end 2: ireturn 0, pc 8, locals [(0, .ref (16)), (1, .ref (12))]
    exact gs_iret (pc := 8) (gd gk_3 4 rfl) rfl (rfl) (Nat.zero_le _) (Nat.zero_le _) (⟨I, rfl, by rw [c4]; rfl, fun _ => rfl, fun e => absurd e (by omega)⟩)
theorem m_keepAct (nx sz : Nat) (h1 : I 126 20 = Int32.ofNat nx) (h2 : nx < 14) (h3 : I 126 19 = Int32.ofNat sz) (h4 : sz ≤ 14) : gw_E V 130 (0, [(0, .ref 126)], [], gS n I J, 0, 0) (fun v w' => v = none ∧ ∃ I2, w' = gS n I2 J ∧ (∀ c, c < 13 → I2 136 (13 * nx + c) = I 133 c) ∧ (∀ q, ¬ (13 * nx ≤ q ∧ q < 13 * nx + 13) → I2 136 q = I 136 q) ∧ I2 126 20 = Int32.ofNat ((nx + 1) % 14) ∧ I2 126 19 = Int32.ofNat (min (sz + 1) 14) ∧ (∀ q, q ≠ 19 → q ≠ 20 → I2 126 q = I 126 q) ∧ ∀ p, p ≠ 126 → p ≠ 136 → I2 p = I p) := by
  have lp : ∀ (m k : Nat), m + k = 13 → ∀ I1, (∀ c, c < k → I1 136 (13 * nx + c) = I 133 c) → (∀ q, ¬ (13 * nx ≤ q ∧ q < 13 * nx + 13) → I1 136 q = I 136 q) → (∀ p, p ≠ 136 → I1 p = I p) → gw_E V 130 (2, [(0, .ref 126), (1, .int (Int32.ofNat k))], [], gS n I1 J, 0, 0) (fun v w' => v = none ∧ ∃ I2, w' = gS n I2 J ∧ (∀ c, c < 13 → I2 136 (13 * nx + c) = I 133 c) ∧ (∀ q, ¬ (13 * nx ≤ q ∧ q < 13 * nx + 13) → I2 136 q = I 136 q) ∧ I2 126 20 = Int32.ofNat ((nx + 1) % 14) ∧ I2 126 19 = Int32.ofNat (min (sz + 1) 14) ∧ (∀ q, q ≠ 19 → q ≠ 20 → I2 126 q = I 126 q) ∧ ∀ p, p ≠ 126 → p ≠ 136 → I2 p = I p) := by
    intro m
    induction m with
    | zero =>
      intro k hk I1 g1 g2 g3
      obtain rfl : k = 13 := by omega
      have e20 : I1 126 20 = Int32.ofNat nx := by rw [g3 126 (by omega)]; exact h1
      have e19 : I1 126 19 = Int32.ofNat sz := by rw [g3 126 (by omega)]; exact h3
      refine gs_iload_n (pc := 2) (gd gk_130 2 rfl) rfl ?_
      refine gs_bipush (pc := 3) (gd gk_130 3 rfl) (13) rfl ?_
      refine gs_icmp_ge (pc := 5) (gd gk_130 4 rfl) (fun c5 => ?_) (fun c5 => ?_)
      · replace c5 : 13 ≤ 13 := (zle (k := 13) (m := 13) (by omega) (by omega)).mp c5
        refine gs_aload_n (pc := 34) (gd gk_130 20 rfl) rfl ?_
        refine gs_aload_n (pc := 35) (gd gk_130 21 rfl) rfl ?_
        refine gs_getI (pc := 36) (gd gk_130 22 rfl) rfl rfl ?_
        refine gs_as (Int32.ofNat nx) (e20) ?_
        refine gs_iconst (pc := 39) (gd gk_130 23 rfl) (1) rfl ?_
        refine gs_iadd (pc := 40) (gd gk_130 24 rfl) ?_
        refine gs_bipush (pc := 41) (gd gk_130 25 rfl) (14) rfl ?_
        refine gs_irem (pc := 43) (gd gk_130 26 rfl) (by decide) ?_
        refine gs_putI (pc := 44) (gd gk_130 27 rfl) rfl rfl rfl rfl (fun I_1 hI_1 => ?_)
        refine gs_aload_n (pc := 47) (gd gk_130 28 rfl) rfl ?_
        refine gs_aload_n (pc := 48) (gd gk_130 29 rfl) rfl ?_
        refine gs_getI (pc := 49) (gd gk_130 30 rfl) rfl rfl ?_
        refine gs_bipush (pc := 52) (gd gk_130 31 rfl) (14) rfl ?_
        refine gs_icmp_ge (pc := 54) (gd gk_130 32 rfl) (fun c54 => ?_) (fun c54 => ?_)
        · refine gs_bipush (pc := 66) (gd gk_130 38 rfl) (14) rfl ?_
          refine gs_putI (pc := 68) (gd gk_130 39 rfl) rfl rfl rfl rfl (fun I_2 hI_2 => ?_)
          -- end 1: return, pc 71, locals [(0, .ref (126)), (1, .int (Int32.ofNat 13))]
          have f2 : I_1 126 19 = Int32.ofNat sz := by rw [hI_1, gw_u_s]; simp [upd]; exact e19
          rw [f2] at c54
          have c54 := (zle (k := 14) (by omega) (by omega)).mp c54
          have a1 : I_2 126 20 = Int32.ofNat ((nx + 1) % 14) := by rw [hI_2, gw_u_s]; simp only [upd]; rw [if_neg (by omega), hI_1, gw_u_s]; simp only [upd, if_true]; exact gz_r14 nx h2
          have a2 : I_2 126 19 = Int32.ofNat (min (sz + 1) 14) := by rw [hI_2, gw_u_s]; simp only [upd, if_true]; rw [show min (sz + 1) 14 = 14 by omega]; rfl
          have o : ∀ p, p ≠ 126 → I_2 p = I1 p := fun p hp => by rw [hI_2, gw_u_o hp, hI_1, gw_u_o hp]
          exact gs_ret (pc := 71) (gd gk_130 40 rfl) rfl (Nat.zero_le _) (Nat.zero_le _) (⟨rfl, I_2, rfl, by rw [o 136 (by omega)]; exact g1, by rw [o 136 (by omega)]; exact g2, a1, a2, fun q q1 q2 => by rw [hI_2, gw_u_s]; simp only [upd]; rw [if_neg q1, hI_1, gw_u_s]; simp only [upd]; rw [if_neg q2, g3 126 (by omega)], fun p q1 q2 => by rw [o p q1]; exact g3 p q2⟩)
        · refine gs_aload_n (pc := 57) (gd gk_130 33 rfl) rfl ?_
          refine gs_getI (pc := 58) (gd gk_130 34 rfl) rfl rfl ?_
          refine gs_iconst (pc := 61) (gd gk_130 35 rfl) (1) rfl ?_
          refine gs_iadd (pc := 62) (gd gk_130 36 rfl) ?_
          refine gs_goto (pc := 63) (gd gk_130 37 rfl) ?_
          refine gs_putI (pc := 68) (gd gk_130 39 rfl) rfl rfl rfl rfl (fun I_3 hI_3 => ?_)
          -- end 2: return, pc 71, locals [(0, .ref (126)), (1, .int (Int32.ofNat 13))]
          have f2 : I_1 126 19 = Int32.ofNat sz := by rw [hI_1, gw_u_s]; simp [upd]; exact e19
          rw [f2] at c54
          have c54 : ¬ 14 ≤ sz := fun e => c54 ((zle (k := 14) (by omega) (by omega)).mpr e)
          have a1 : I_3 126 20 = Int32.ofNat ((nx + 1) % 14) := by rw [hI_3, gw_u_s]; simp only [upd]; rw [if_neg (by omega), hI_1, gw_u_s]; simp only [upd, if_true]; exact gz_r14 nx h2
          have a2 : I_3 126 19 = Int32.ofNat (min (sz + 1) 14) := by rw [hI_3, gw_u_s]; simp only [upd, if_true]; rw [show min (sz + 1) 14 = sz + 1 by omega, f2, zsucc]
          have o : ∀ p, p ≠ 126 → I_3 p = I1 p := fun p hp => by rw [hI_3, gw_u_o hp, hI_1, gw_u_o hp]
          exact gs_ret (pc := 71) (gd gk_130 40 rfl) rfl (Nat.zero_le _) (Nat.zero_le _) (⟨rfl, I_3, rfl, by rw [o 136 (by omega)]; exact g1, by rw [o 136 (by omega)]; exact g2, a1, a2, fun q q1 q2 => by rw [hI_3, gw_u_s]; simp only [upd]; rw [if_neg q1, hI_1, gw_u_s]; simp only [upd]; rw [if_neg q2, g3 126 (by omega)], fun p q1 q2 => by rw [o p q1]; exact g3 p q2⟩)
      · replace c5 : ¬ (13 ≤ 13) := fun q9 => c5 ((zle (k := 13) (m := 13) (by omega) (by omega)).mpr q9)
        -- end 3: stop, pc 8, locals [(0, .ref (126)), (1, .int (Int32.ofNat 13))]
        exact absurd (by decide) c5
    | succ m ih =>
      intro k hk I1 g1 g2 g3
      have e20 : I1 126 20 = Int32.ofNat nx := by rw [g3 126 (by omega)]; exact h1
      refine gs_iload_n (pc := 2) (gd gk_130 2 rfl) rfl ?_
      refine gs_bipush (pc := 3) (gd gk_130 3 rfl) (13) rfl ?_
      refine gs_icmp_ge (pc := 5) (gd gk_130 4 rfl) (fun c5 => ?_) (fun c5 => ?_)
      · replace c5 : 13 ≤ k := (zle (k := 13) (m := k) (by omega) (by omega)).mp c5
        -- end 1: stop, pc 34, locals [(0, .ref (126)), (1, .int (Int32.ofNat k))]
        exact absurd c5 (by omega)
      · replace c5 : ¬ (13 ≤ k) := fun q9 => c5 ((zle (k := 13) (m := k) (by omega) (by omega)).mpr q9)
        refine gs_aload_n (pc := 8) (gd gk_130 5 rfl) rfl ?_
        refine gs_getR (r := 136) (pc := 9) (gd gk_130 6 rfl) rfl rfl rfl (by decide) ?_
        refine gs_bipush (pc := 12) (gd gk_130 7 rfl) (13) rfl ?_
        refine gs_aload_n (pc := 14) (gd gk_130 8 rfl) rfl ?_
        refine gs_getI (pc := 15) (gd gk_130 9 rfl) rfl rfl ?_
        refine gs_as (Int32.ofNat nx) (e20) ?_
        refine gs_imul (pc := 18) (gd gk_130 10 rfl) ?_
        refine gs_iload_n (pc := 19) (gd gk_130 11 rfl) rfl ?_
        refine gs_iadd (pc := 20) (gd gk_130 12 rfl) ?_
        refine gs_aload_n (pc := 21) (gd gk_130 13 rfl) rfl ?_
        refine gs_getR (r := 133) (pc := 22) (gd gk_130 14 rfl) rfl rfl rfl (by decide) ?_
        refine gs_iload_n (pc := 25) (gd gk_130 15 rfl) rfl ?_
        refine gs_ialoadK (k) (52) (pc := 26) (gd gk_130 16 rfl) (Or.inl rfl) rfl (by decide) (by first | rfl | (simp only [Int32.ofNat_add, Int32.ofNat_mul]; rfl) | (simp only [Int32.ofNat_add, Int32.ofNat_mul])) (by omega) ?_
        refine gs_iastoreK (((13 * nx) + k)) (182) gs_sl (pc := 27) (gd gk_130 17 rfl) rfl rfl (by decide) (by first | rfl | (simp only [Int32.ofNat_add, Int32.ofNat_mul]; rfl) | (simp only [Int32.ofNat_add, Int32.ofNat_mul])) (by omega) (fun I_1 hI_1 => ?_)
        refine gs_iinc (ls2 := fun v => [(0, .ref (126)), (1, .int (v))]) (pc := 28) (gd gk_130 18 rfl) rfl (by rw [gL_130]; decide) (fun _ => rfl) (1) rfl (fun v1_1 hv1_1 => ?_)
        obtain rfl : v1_1 = Int32.ofNat (k + 1) := hv1_1.trans (by first | rfl | (simp only [Int32.ofNat_add, Int32.ofNat_mul]; rfl) | (simp only [Int32.ofNat_add, Int32.ofNat_mul]))
        refine gs_goto (pc := 31) (gd gk_130 19 rfl) ?_
        -- end 2: stop, pc 2, locals [(0, .ref (126)), (1, .int (Int32.ofNat (k + 1)))]
        refine ih (k + 1) (by omega) I_1 (fun c hc => ?_) (fun q hq => ?_) (fun p hp => by rw [hI_1, gw_u_o hp]; exact g3 p hp)
        · rw [hI_1, gw_u_s]
          simp only [upd]
          by_cases e : c = k
          · subst e; rw [if_pos rfl, g3 133 (by omega)]
          · rw [if_neg (by omega)]; exact g1 c (by omega)
        · rw [hI_1, gw_u_s]; simp only [upd]; rw [if_neg (by omega)]; exact g2 q hq
  refine gs_iconst (pc := 0) (gd gk_130 0 rfl) (0) rfl ?_
  refine gs_istore_n (ls2 := fun v => [(0, .ref (126)), (1, .int (v))]) (pc := 1) (gd gk_130 1 rfl) (by rw [gL_130]; decide) (fun _ => rfl) (fun v1_1 hv1_1 => ?_)
  obtain rfl : v1_1 = Int32.ofNat 0 := hv1_1.trans (by first | rfl | (simp only [Int32.ofNat_add, Int32.ofNat_mul]; rfl) | (simp only [Int32.ofNat_add, Int32.ofNat_mul]))
  -- end 1: stop, pc 2, locals [(0, .ref (126)), (1, .int (Int32.ofNat 0))]
  exact lp 13 0 rfl I (fun c hc => absurd hc (Nat.not_lt_zero _)) (fun _ _ => rfl) (fun _ _ => rfl)
end
end
section
/-! ===== chimney, undo: both ===== -/
section
variable {V : gw_V} {n W N h0 L bc : Nat} {I : Nat → Nat → Int32} {J : Nat → Nat → Int64}
theorem gz_and1 (s k : Int32) : (s >>> (k &&& 31)) &&& 1 = gz_b (gz_in s k) := by
  unfold gz_in
  generalize s >>> (k &&& 31) = x
  have h : x &&& 1 = 0 ∨ x &&& 1 = 1 := by
    have e := BitVec.and_one_eq_setWidth_ofBool_getLsbD (x := x.toBitVec)
    cases hb : x.toBitVec.getLsbD 0 with
    | false => exact .inl (Int32.toBitVec_inj.mp (by rw [hb] at e; exact e))
    | true => exact .inr (Int32.toBitVec_inj.mp (by rw [hb] at e; exact e))
  rcases h with h | h <;> rw [h] <;> rfl
/-- what an act leaves behind: the class -/
def gz_rm (I I2 : Nat → Nat → Int32) (nx sz : Nat) : Prop := gz_mm I2 (18 + 2 * nx) I 12 ∧ I2 16 1 = Int32.ofNat ((nx + 1) % 14) ∧ I2 16 2 = Int32.ofNat (min (sz + 1) 14)
/-- what an act leaves behind: the reference -/
def gm_rm (I I2 : Nat → Nat → Int32) (nx sz : Nat) : Prop := (∀ c, c < 13 → I2 136 (13 * nx + c) = I 133 c) ∧ (∀ q, ¬ (13 * nx ≤ q ∧ q < 13 * nx + 13) → I2 136 q = I 136 q) ∧ I2 126 20 = Int32.ofNat ((nx + 1) % 14) ∧ I2 126 19 = Int32.ofNat (min (sz + 1) 14)
theorem gz_left0 {I : Nat → Nat → Int32} (a : I 6 3 = Int32.ofNat W) (b : I 12 3 = Int32.ofNat h0) (hW : h0 ≤ W) (h8 : W ≤ 8) : I 6 3 - I 12 3 = 0 ↔ h0 = W := by
  rw [a, b]
  have h : ∀ w, w < 9 → ∀ h, h < 9 → h ≤ w → (Int32.ofNat w - Int32.ofNat h = 0 ↔ h = w) := by decide +kernel
  exact h W (by omega) h0 (by omega) hW
theorem c_chimney (x : Int32) (nx sz : Nat) (h1 : I 16 1 = Int32.ofNat nx) (h2 : nx < 14) (h3 : I 16 2 = Int32.ofNat sz) (h4 : sz ≤ 14) (a : I 6 3 = Int32.ofNat W) (b : I 12 3 = Int32.ofNat h0) (hW : h0 ≤ W) (h8 : W ≤ 8) : gw_E V 73 (0, [(0, .ref 3), (1, .int x)], [], gS n I J, 0, 0) (fun v w' => ∃ I2 y, w' = gS n I2 J ∧ v = some (.int y) ∧ if gz_rg x 0 9 then (if h0 = W then y = -3 ∧ I2 = I else y = gz_b (gz_in (I 12 1 ^^^ (1 <<< (x &&& 31))) x) ∧ gz_rm I I2 nx sz ∧ I2 12 1 = I 12 1 ^^^ (1 <<< (x &&& 31)) ∧ (∀ q, q ≠ 1 → I2 12 q = I 12 q) ∧ ∀ p, p ≠ 18 + 2 * nx → p ≠ 18 + 2 * nx + 1 → p ≠ 16 → p ≠ 12 → I2 p = I p) else y = -2 ∧ I2 = I) := by
  have hl := gz_left0 a b hW h8
  refine gs_iload_n (pc := 0) (gd gk_73 0 rfl) rfl ?_
  refine gs_callS (as := [.int (x)]) (pc := 1) (gd gk_73 1 rfl) (by decide) rfl rfl (Nat.le_of_ble_eq_true rfl) gq_73_93 (Nat.le_of_ble_eq_true rfl) (c_cell (x)) (fun r_1 w_1 q_1 => ?_)
  obtain ⟨rfl, rfl⟩ := q_1
  refine gs_if_ne (pc := 4) (gd gk_73 2 rfl) (fun c4 => ?_) (fun c4 => ?_)
  · refine gs_aload_n (pc := 10) (gd gk_73 5 rfl) rfl ?_
    refine gs_callV (as := []) (pc := 11) (gd gk_73 6 rfl) (by decide) rfl (by decide) rfl rfl (Nat.le_of_ble_eq_true rfl) gq_73_97 (Nat.le_of_ble_eq_true rfl) (c_left) (fun r_11 w_11 q_11 => ?_)
    obtain ⟨rfl, rfl⟩ := q_11
    refine gs_if_ne (pc := 14) (gd gk_73 7 rfl) (fun c14 => ?_) (fun c14 => ?_)
    · refine gs_aload_n (pc := 20) (gd gk_73 10 rfl) rfl ?_
      refine gs_getR (r := 16) (pc := 21) (gd gk_73 11 rfl) rfl rfl rfl (by decide) ?_
      refine gs_aload_n (pc := 24) (gd gk_73 12 rfl) rfl ?_
      refine gs_getR (r := 12) (pc := 25) (gd gk_73 13 rfl) rfl rfl rfl (by decide) ?_
      refine gs_callV (as := [.ref (12)]) (pc := 28) (gd gk_73 14 rfl) (by decide) rfl (by decide) rfl rfl (Nat.le_of_ble_eq_true rfl) gq_73_2 (Nat.le_of_ble_eq_true rfl) (c_remember nx sz h1 h2 h3 h4) (fun r_28 w_28 q_28 => ?_)
      obtain ⟨rfl, I_r, rfl, r1, r2, r3, r4⟩ := q_28
      refine gs_aload_n (pc := 31) (gd gk_73 15 rfl) rfl ?_
      refine gs_getR (r := 12) (pc := 32) (gd gk_73 16 rfl) rfl rfl rfl (by decide) ?_
      refine gs_dup (pc := 35) (gd gk_73 17 rfl) rfl ?_
      refine gs_getI (pc := 36) (gd gk_73 18 rfl) rfl rfl ?_
      refine gs_iconst (pc := 39) (gd gk_73 19 rfl) (1) rfl ?_
      refine gs_iload_n (pc := 40) (gd gk_73 20 rfl) rfl ?_
      refine gs_ishl (pc := 41) (gd gk_73 21 rfl) ?_
      refine gs_ixor (pc := 42) (gd gk_73 22 rfl) ?_
      refine gs_putI (pc := 43) (gd gk_73 23 rfl) rfl rfl rfl rfl (fun I_1 hI_1 => ?_)
      refine gs_aload_n (pc := 46) (gd gk_73 24 rfl) rfl ?_
      refine gs_getR (r := 12) (pc := 47) (gd gk_73 25 rfl) rfl rfl rfl (by decide) ?_
      refine gs_getI (pc := 50) (gd gk_73 26 rfl) rfl rfl ?_
      refine gs_iload_n (pc := 53) (gd gk_73 27 rfl) rfl ?_
      refine gs_callS (as := [.int ((I_1 12 1)), .int (x)]) (pc := 54) (gd gk_73 28 rfl) (by decide) rfl rfl (Nat.le_of_ble_eq_true rfl) gq_73_96 (Nat.le_of_ble_eq_true rfl) (c_in ((I_1 12 1)) (x)) (fun r_54 w_54 q_54 => ?_)
      obtain ⟨rfl, rfl⟩ := q_54
      refine gs_if_eq (pc := 57) (gd gk_73 29 rfl) (fun c57 => ?_) (fun c57 => ?_)
      · refine gs_iconst (pc := 64) (gd gk_73 32 rfl) (0) rfl ?_
        -- end 1: ireturn 0, pc 65, locals [(0, .ref (3)), (1, .int (x))]
        have hr : gz_rg x 0 9 = true := gz_b_ne.mp c4
        have hw : ¬ h0 = W := fun e => c14 (hl.mpr e)
        have e1 : I_r 12 = I 12 := r4 12 (by omega) (by omega) (by omega)
        have k1 : I_1 12 1 = I 12 1 ^^^ (1 <<< (x &&& 31)) := by rw [hI_1, gw_u_s]; simp only [upd, if_true]; rw [e1]
        have o : ∀ p, p ≠ 12 → I_1 p = I_r p := fun p hp => by rw [hI_1, gw_u_o hp]
        have km : gz_rm I I_1 nx sz := ⟨⟨fun c hc => by rw [o _ (by omega)]; exact r1.1 c hc, by rw [o _ (by omega)]; exact r1.2.1, by rw [o _ (by omega)]; exact r1.2.2.1, by rw [o _ (by omega)]; exact r1.2.2.2⟩, by rw [o _ (by omega)]; exact r2, by rw [o _ (by omega)]; exact r3⟩
        have kk : ∀ y, y = gz_b (gz_in (I_1 12 1) x) → (if gz_rg x 0 9 then (if h0 = W then y = -3 ∧ I_1 = I else y = gz_b (gz_in (I 12 1 ^^^ (1 <<< (x &&& 31))) x) ∧ gz_rm I I_1 nx sz ∧ I_1 12 1 = I 12 1 ^^^ (1 <<< (x &&& 31)) ∧ (∀ q, q ≠ 1 → I_1 12 q = I 12 q) ∧ ∀ p, p ≠ 18 + 2 * nx → p ≠ 18 + 2 * nx + 1 → p ≠ 16 → p ≠ 12 → I_1 p = I p) else y = -2 ∧ I_1 = I) := fun y hy => by
          rw [if_pos hr, if_neg hw]
          exact ⟨by rw [hy, k1], km, k1, fun q hq => by rw [hI_1, gw_u_s]; simp only [upd]; rw [if_neg hq, e1], fun p q1 q2 q3 q4 => by rw [o p q4]; exact r4 p q1 q2 q3⟩
        exact gs_iret (pc := 65) (gd gk_73 33 rfl) rfl (rfl) (Nat.zero_le _) (Nat.zero_le _) (⟨I_1, 0, rfl, rfl, kk 0 (by rw [gz_b_eq.mp c57]; rfl)⟩)
      · refine gs_iconst (pc := 60) (gd gk_73 30 rfl) (1) rfl ?_
        refine gs_goto (pc := 61) (gd gk_73 31 rfl) ?_
        -- end 2: ireturn 1, pc 65, locals [(0, .ref (3)), (1, .int (x))]
        have hr : gz_rg x 0 9 = true := gz_b_ne.mp c4
        have hw : ¬ h0 = W := fun e => c14 (hl.mpr e)
        have e1 : I_r 12 = I 12 := r4 12 (by omega) (by omega) (by omega)
        have k1 : I_1 12 1 = I 12 1 ^^^ (1 <<< (x &&& 31)) := by rw [hI_1, gw_u_s]; simp only [upd, if_true]; rw [e1]
        have o : ∀ p, p ≠ 12 → I_1 p = I_r p := fun p hp => by rw [hI_1, gw_u_o hp]
        have km : gz_rm I I_1 nx sz := ⟨⟨fun c hc => by rw [o _ (by omega)]; exact r1.1 c hc, by rw [o _ (by omega)]; exact r1.2.1, by rw [o _ (by omega)]; exact r1.2.2.1, by rw [o _ (by omega)]; exact r1.2.2.2⟩, by rw [o _ (by omega)]; exact r2, by rw [o _ (by omega)]; exact r3⟩
        have kk : ∀ y, y = gz_b (gz_in (I_1 12 1) x) → (if gz_rg x 0 9 then (if h0 = W then y = -3 ∧ I_1 = I else y = gz_b (gz_in (I 12 1 ^^^ (1 <<< (x &&& 31))) x) ∧ gz_rm I I_1 nx sz ∧ I_1 12 1 = I 12 1 ^^^ (1 <<< (x &&& 31)) ∧ (∀ q, q ≠ 1 → I_1 12 q = I 12 q) ∧ ∀ p, p ≠ 18 + 2 * nx → p ≠ 18 + 2 * nx + 1 → p ≠ 16 → p ≠ 12 → I_1 p = I p) else y = -2 ∧ I_1 = I) := fun y hy => by
          rw [if_pos hr, if_neg hw]
          exact ⟨by rw [hy, k1], km, k1, fun q hq => by rw [hI_1, gw_u_s]; simp only [upd]; rw [if_neg hq, e1], fun p q1 q2 q3 q4 => by rw [o p q4]; exact r4 p q1 q2 q3⟩
        exact gs_iret (pc := 65) (gd gk_73 33 rfl) rfl (rfl) (Nat.zero_le _) (Nat.zero_le _) (⟨I_1, 1, rfl, rfl, kk 1 (by rw [gz_b_ne.mp c57]; rfl)⟩)
    · refine gs_bipush (pc := 17) (gd gk_73 8 rfl) (-3) rfl ?_
      -- end 3: ireturn (-3), pc 19, locals [(0, .ref (3)), (1, .int (x))]
      have hr : gz_rg x 0 9 = true := gz_b_ne.mp c4
      exact gs_iret (pc := 19) (gd gk_73 9 rfl) rfl (rfl) (Nat.zero_le _) (Nat.zero_le _) (⟨I, -3, rfl, rfl, by rw [if_pos hr, if_pos (hl.mp c14)]; exact ⟨rfl, rfl⟩⟩)
  · refine gs_bipush (pc := 7) (gd gk_73 3 rfl) (-2) rfl ?_
    -- end 4: ireturn (-2), pc 9, locals [(0, .ref (3)), (1, .int (x))]
    have hr : ¬ gz_rg x 0 9 = true := by rw [gz_b_eq.mp c4]; decide
    exact gs_iret (pc := 9) (gd gk_73 4 rfl) rfl (rfl) (Nat.zero_le _) (Nat.zero_le _) (⟨I, -2, rfl, rfl, by rw [if_neg hr]; exact ⟨rfl, rfl⟩⟩)
theorem m_chimney (x : Int32) (nx sz : Nat) (h1 : I 126 20 = Int32.ofNat nx) (h2 : nx < 14) (h3 : I 126 19 = Int32.ofNat sz) (h4 : sz ≤ 14) (a : I 126 3 = Int32.ofNat W) (b : I 133 12 = Int32.ofNat h0) (hW : h0 ≤ W) (h8 : W ≤ 8) : gw_E V 132 (0, [(0, .ref 126), (1, .int x)], [], gS n I J, 0, 0) (fun v w' => ∃ I2 y, w' = gS n I2 J ∧ v = some (.int y) ∧ if gz_rg x 0 9 then (if h0 = W then y = -3 ∧ I2 = I else y = gz_b (gz_in (I 133 10 ^^^ (1 <<< (x &&& 31))) x) ∧ gm_rm I I2 nx sz ∧ I2 133 10 = I 133 10 ^^^ (1 <<< (x &&& 31)) ∧ (∀ q, q ≠ 10 → I2 133 q = I 133 q) ∧ (∀ q, q ≠ 19 → q ≠ 20 → I2 126 q = I 126 q) ∧ ∀ p, p ≠ 126 → p ≠ 136 → p ≠ 133 → I2 p = I p) else y = -2 ∧ I2 = I) := by
  refine gs_iload_n (pc := 0) (gd gk_132 0 rfl) rfl ?_
  refine gs_i2l (pc := 1) (gd gk_132 1 rfl) ?_
  refine gs_lconst (pc := 2) (gd gk_132 2 rfl) (0) rfl ?_
  refine gs_ldc2_w (pc := 3) (gd gk_132 3 rfl) (9) rfl ?_
  refine gs_callS (as := [.long ((x : Int32).toInt64), .long (0), .long (9)]) (pc := 6) (gd gk_132 4 rfl) (by decide) rfl rfl (Nat.le_of_ble_eq_true rfl) gq_132_107 (Nat.le_of_ble_eq_true rfl) (c_mrg (x) (0) (9)) (fun r_6 w_6 q_6 => ?_)
  obtain ⟨rfl, rfl⟩ := q_6
  refine gs_if_ne (pc := 9) (gd gk_132 5 rfl) (fun c9 => ?_) (fun c9 => ?_)
  · refine gs_aload_n (pc := 15) (gd gk_132 8 rfl) rfl ?_
    refine gs_getR (r := 133) (pc := 16) (gd gk_132 9 rfl) rfl rfl rfl (by decide) ?_
    refine gs_bipush (pc := 19) (gd gk_132 10 rfl) (12) rfl ?_
    refine gs_ialoadK (12) (52) (pc := 21) (gd gk_132 11 rfl) (Or.inl rfl) rfl (by decide) (by first | rfl | (simp only [Int32.ofNat_add, Int32.ofNat_mul]; rfl) | (simp only [Int32.ofNat_add, Int32.ofNat_mul])) (by omega) ?_
    refine gs_as (Int32.ofNat h0) (b) ?_
    refine gs_aload_n (pc := 22) (gd gk_132 12 rfl) rfl ?_
    refine gs_getI (pc := 23) (gd gk_132 13 rfl) rfl rfl ?_
    refine gs_as (Int32.ofNat W) (a) ?_
    refine gs_icmp_ne (pc := 26) (gd gk_132 14 rfl) (fun c26 => ?_) (fun c26 => ?_)
    · replace c26 : ¬ (h0 = W) := fun q9 => c26 ((zeq (k := h0) (m := W) (by omega) (by omega)).mpr q9)
      refine gs_aload_n (pc := 32) (gd gk_132 17 rfl) rfl ?_
      refine gs_callV (as := []) (pc := 33) (gd gk_132 18 rfl) (by decide) rfl (by decide) rfl rfl (Nat.le_of_ble_eq_true rfl) gq_132_130 (Nat.le_of_ble_eq_true rfl) (m_keepAct nx sz h1 h2 h3 h4) (fun r_33 w_33 q_33 => ?_)
      obtain ⟨rfl, I_r, rfl, r1, r2, r3, r4, r5, r6⟩ := q_33
      refine gs_aload_n (pc := 36) (gd gk_132 19 rfl) rfl ?_
      refine gs_getR (r := 133) (pc := 37) (gd gk_132 20 rfl) rfl rfl rfl (by decide) ?_
      refine gs_bipush (pc := 40) (gd gk_132 21 rfl) (10) rfl ?_
      refine gs_dup2 (pc := 42) (gd gk_132 22 rfl) rfl rfl ?_
      refine gs_ialoadK (10) (52) (pc := 43) (gd gk_132 23 rfl) (Or.inl rfl) rfl (by decide) (by first | rfl | (simp only [Int32.ofNat_add, Int32.ofNat_mul]; rfl) | (simp only [Int32.ofNat_add, Int32.ofNat_mul])) (by omega) ?_
      refine gs_iconst (pc := 44) (gd gk_132 24 rfl) (1) rfl ?_
      refine gs_iload_n (pc := 45) (gd gk_132 25 rfl) rfl ?_
      refine gs_ishl (pc := 46) (gd gk_132 26 rfl) ?_
      refine gs_ixor (pc := 47) (gd gk_132 27 rfl) ?_
      refine gs_iastoreK (10) (52) gs_sl (pc := 48) (gd gk_132 28 rfl) rfl rfl (by decide) (by first | rfl | (simp only [Int32.ofNat_add, Int32.ofNat_mul]; rfl) | (simp only [Int32.ofNat_add, Int32.ofNat_mul])) (by omega) (fun I_1 hI_1 => ?_)
      refine gs_aload_n (pc := 49) (gd gk_132 29 rfl) rfl ?_
      refine gs_getR (r := 133) (pc := 50) (gd gk_132 30 rfl) rfl rfl rfl (by decide) ?_
      refine gs_bipush (pc := 53) (gd gk_132 31 rfl) (10) rfl ?_
      refine gs_ialoadK (10) (52) (pc := 55) (gd gk_132 32 rfl) (Or.inl rfl) rfl (by decide) (by first | rfl | (simp only [Int32.ofNat_add, Int32.ofNat_mul]; rfl) | (simp only [Int32.ofNat_add, Int32.ofNat_mul])) (by omega) ?_
      refine gs_iload_n (pc := 56) (gd gk_132 33 rfl) rfl ?_
      refine gs_ishr (pc := 57) (gd gk_132 34 rfl) ?_
      refine gs_iconst (pc := 58) (gd gk_132 35 rfl) (1) rfl ?_
      refine gs_iand (pc := 59) (gd gk_132 36 rfl) ?_
      -- end 1: ireturn (((I_1 133 10) >>> (x &&& 31)) &&& 1), pc 60, locals [(0, .ref (126)), (1, .int (x))]
      have hr : gz_rg x 0 9 = true := gz_b_ne.mp c9
      have e1 : I_r 133 = I 133 := r6 133 (by omega) (by omega)
      have k1 : I_1 133 10 = I 133 10 ^^^ (1 <<< (x &&& 31)) := by rw [hI_1, gw_u_s]; simp only [upd, if_true]; rw [e1]
      have o : ∀ p, p ≠ 133 → I_1 p = I_r p := fun p hp => by rw [hI_1, gw_u_o hp]
      exact gs_iret (pc := 60) (gd gk_132 37 rfl) rfl (rfl) (Nat.zero_le _) (Nat.zero_le _) (⟨I_1, _, rfl, rfl, by
        rw [if_pos hr, if_neg c26]
        exact ⟨by rw [gz_and1, k1], ⟨by rw [o 136 (by omega)]; exact r1, by rw [o 136 (by omega)]; exact r2, by rw [o 126 (by omega)]; exact r3, by rw [o 126 (by omega)]; exact r4⟩, k1, fun q hq => by rw [hI_1, gw_u_s]; simp only [upd]; rw [if_neg hq, e1], fun q q1 q2 => by rw [o 126 (by omega)]; exact r5 q q1 q2, fun p q1 q2 q3 => by rw [o p q3]; exact r6 p q1 q2⟩⟩)
    · replace c26 : h0 = W := (zeq (k := h0) (m := W) (by omega) (by omega)).mp c26
      refine gs_bipush (pc := 29) (gd gk_132 15 rfl) (-3) rfl ?_
      -- end 2: ireturn (-3), pc 31, locals [(0, .ref (126)), (1, .int (x))]
      have hr : gz_rg x 0 9 = true := gz_b_ne.mp c9
      exact gs_iret (pc := 31) (gd gk_132 16 rfl) rfl (rfl) (Nat.zero_le _) (Nat.zero_le _) (⟨I, -3, rfl, rfl, by rw [if_pos hr, if_pos c26]; exact ⟨rfl, rfl⟩⟩)
  · refine gs_bipush (pc := 12) (gd gk_132 6 rfl) (-2) rfl ?_
    -- end 3: ireturn (-2), pc 14, locals [(0, .ref (126)), (1, .int (x))]
    have hr : ¬ gz_rg x 0 9 = true := by rw [gz_b_eq.mp c9]; decide
    exact gs_iret (pc := 14) (gd gk_132 7 rfl) rfl (rfl) (Nat.zero_le _) (Nat.zero_le _) (⟨I, -2, rfl, rfl, by rw [if_neg hr]; exact ⟨rfl, rfl⟩⟩)
theorem c_undo (nx sz : Nat) (h1 : I 16 1 = Int32.ofNat nx) (h2 : nx < 14) (h3 : I 16 2 = Int32.ofNat sz) (h4 : sz ≤ 14) : gw_E V 74 (0, [(0, .ref 3)], [], gS n I J, 0, 0) (fun v w' => ∃ I2 y, w' = gS n I2 J ∧ v = some (.int y) ∧ (sz = 0 → y = -3 ∧ I2 = I) ∧ (0 < sz → y = Int32.ofNat (sz - 1) ∧ gz_mm I2 12 I (18 + 2 * ((nx + 13) % 14)) ∧ I2 16 1 = Int32.ofNat ((nx + 13) % 14) ∧ I2 16 2 = Int32.ofNat (sz - 1) ∧ ∀ p, p ≠ 12 → p ≠ 13 → p ≠ 16 → I2 p = I p)) := by
  refine gs_aload_n (pc := 0) (gd gk_74 0 rfl) rfl ?_
  refine gs_getR (r := 16) (pc := 1) (gd gk_74 1 rfl) rfl rfl rfl (by decide) ?_
  refine gs_aload_n (pc := 4) (gd gk_74 2 rfl) rfl ?_
  refine gs_getR (r := 12) (pc := 5) (gd gk_74 3 rfl) rfl rfl rfl (by decide) ?_
  refine gs_callV (as := [.ref (12)]) (pc := 8) (gd gk_74 4 rfl) (by decide) rfl (by decide) rfl rfl (Nat.le_of_ble_eq_true rfl) gq_74_3 (Nat.le_of_ble_eq_true rfl) (c_takeBack nx sz h1 h2 h3 h4) (fun r_8 w_8 q_8 => ?_)
  obtain ⟨I_r, rfl, rfl, r1, r2⟩ := q_8
  refine gs_if_eq (pc := 11) (gd gk_74 5 rfl) (fun c11 => ?_) (fun c11 => ?_)
  · refine gs_bipush (pc := 24) (gd gk_74 10 rfl) (-3) rfl ?_
    -- end 1: ireturn (-3), pc 26, locals [(0, .ref (3))]
    have hz : sz = 0 := by have := of_decide_eq_false (gz_b_eq.mp c11); omega
    exact gs_iret (pc := 26) (gd gk_74 11 rfl) rfl (rfl) (Nat.zero_le _) (Nat.zero_le _) (⟨I_r, -3, rfl, rfl, fun e => ⟨rfl, r1 e⟩, fun e => absurd e (by omega)⟩)
  · refine gs_aload_n (pc := 14) (gd gk_74 6 rfl) rfl ?_
    refine gs_getR (r := 16) (pc := 15) (gd gk_74 7 rfl) rfl rfl rfl (by decide) ?_
    refine gs_getI (pc := 18) (gd gk_74 8 rfl) rfl rfl ?_
    refine gs_goto (pc := 21) (gd gk_74 9 rfl) ?_
    -- end 2: ireturn (I_r 16 2), pc 26, locals [(0, .ref (3))]
    have hz := of_decide_eq_true (gz_b_ne.mp c11)
    exact gs_iret (pc := 26) (gd gk_74 11 rfl) rfl (rfl) (Nat.zero_le _) (Nat.zero_le _) (⟨I_r, _, rfl, rfl, fun e => absurd e (by omega), fun e => ⟨(r2 e).2.2.1, r2 e⟩⟩)
theorem m_undo (nx sz : Nat) (h1 : I 126 20 = Int32.ofNat nx) (h2 : nx < 14) (h3 : I 126 19 = Int32.ofNat sz) (h4 : sz ≤ 14) : gw_E V 133 (0, [(0, .ref 126)], [], gS n I J, 0, 0) (fun v w' => ∃ I2 y, w' = gS n I2 J ∧ v = some (.int y) ∧ (sz = 0 → y = -3 ∧ I2 = I) ∧ (0 < sz → y = Int32.ofNat (sz - 1) ∧ (∀ c, c < 13 → I2 133 c = I 136 (13 * ((nx + 13) % 14) + c)) ∧ (∀ q, 13 ≤ q → I2 133 q = I 133 q) ∧ I2 126 20 = Int32.ofNat ((nx + 13) % 14) ∧ I2 126 19 = Int32.ofNat (sz - 1) ∧ (∀ q, q ≠ 19 → q ≠ 20 → I2 126 q = I 126 q) ∧ ∀ p, p ≠ 126 → p ≠ 133 → I2 p = I p)) := by
  have hn3 : (nx + 13) % 14 < 14 := Nat.mod_lt _ (by omega)
  generalize hny : (nx + 13) % 14 = ny at hn3
  have lp : 0 < sz → ∀ (m k : Nat), m + k = 13 → ∀ I1, (∀ c, c < k → I1 133 c = I 136 (13 * ny + c)) → (∀ q, 13 ≤ q → I1 133 q = I 133 q) → I1 126 20 = Int32.ofNat ny → I1 126 19 = Int32.ofNat (sz - 1) → (∀ q, q ≠ 19 → q ≠ 20 → I1 126 q = I 126 q) → (∀ p, p ≠ 126 → p ≠ 133 → I1 p = I p) → gw_E V 133 (36, [(0, .ref 126), (1, .int (Int32.ofNat k))], [], gS n I1 J, 0, 0) (fun v w' => ∃ I2 y, w' = gS n I2 J ∧ v = some (.int y) ∧ (sz = 0 → y = -3 ∧ I2 = I) ∧ (0 < sz → y = Int32.ofNat (sz - 1) ∧ (∀ c, c < 13 → I2 133 c = I 136 (13 * ny + c)) ∧ (∀ q, 13 ≤ q → I2 133 q = I 133 q) ∧ I2 126 20 = Int32.ofNat ny ∧ I2 126 19 = Int32.ofNat (sz - 1) ∧ (∀ q, q ≠ 19 → q ≠ 20 → I2 126 q = I 126 q) ∧ ∀ p, p ≠ 126 → p ≠ 133 → I2 p = I p)) := by
    intro hsz m
    induction m with
    | zero =>
      intro k hk I1 g1 g2 g3 g4 g5 g6
      obtain rfl : k = 13 := by omega
      refine gs_iload_n (pc := 36) (gd gk_133 21 rfl) rfl ?_
      refine gs_bipush (pc := 37) (gd gk_133 22 rfl) (13) rfl ?_
      refine gs_icmp_ge (pc := 39) (gd gk_133 23 rfl) (fun c39 => ?_) (fun c39 => ?_)
      · replace c39 : 13 ≤ 13 := (zle (k := 13) (m := 13) (by omega) (by omega)).mp c39
        refine gs_aload_n (pc := 68) (gd gk_133 39 rfl) rfl ?_
        refine gs_getI (pc := 69) (gd gk_133 40 rfl) rfl rfl ?_
        -- end 1: ireturn (I1 126 19), pc 72, locals [(0, .ref (126)), (1, .int (Int32.ofNat 13))]
        exact gs_iret (pc := 72) (gd gk_133 41 rfl) rfl (rfl) (Nat.zero_le _) (Nat.zero_le _) (⟨I1, _, rfl, rfl, fun e => absurd e (by omega), fun _ => ⟨g4, g1, g2, g3, g4, g5, g6⟩⟩)
      · replace c39 : ¬ (13 ≤ 13) := fun q9 => c39 ((zle (k := 13) (m := 13) (by omega) (by omega)).mpr q9)
        -- end 2: stop, pc 42, locals [(0, .ref (126)), (1, .int (Int32.ofNat 13))]
        exact absurd (by decide) c39
    | succ m ih =>
      intro k hk I1 g1 g2 g3 g4 g5 g6
      refine gs_iload_n (pc := 36) (gd gk_133 21 rfl) rfl ?_
      refine gs_bipush (pc := 37) (gd gk_133 22 rfl) (13) rfl ?_
      refine gs_icmp_ge (pc := 39) (gd gk_133 23 rfl) (fun c39 => ?_) (fun c39 => ?_)
      · replace c39 : 13 ≤ k := (zle (k := 13) (m := k) (by omega) (by omega)).mp c39
        refine gs_aload_n (pc := 68) (gd gk_133 39 rfl) rfl ?_
        refine gs_getI (pc := 69) (gd gk_133 40 rfl) rfl rfl ?_
        -- end 1: ireturn (I1 126 19), pc 72, locals [(0, .ref (126)), (1, .int (Int32.ofNat k))]
        exact absurd c39 (by omega)
      · replace c39 : ¬ (13 ≤ k) := fun q9 => c39 ((zle (k := 13) (m := k) (by omega) (by omega)).mpr q9)
        refine gs_aload_n (pc := 42) (gd gk_133 24 rfl) rfl ?_
        refine gs_getR (r := 133) (pc := 43) (gd gk_133 25 rfl) rfl rfl rfl (by decide) ?_
        refine gs_iload_n (pc := 46) (gd gk_133 26 rfl) rfl ?_
        refine gs_aload_n (pc := 47) (gd gk_133 27 rfl) rfl ?_
        refine gs_getR (r := 136) (pc := 48) (gd gk_133 28 rfl) rfl rfl rfl (by decide) ?_
        refine gs_bipush (pc := 51) (gd gk_133 29 rfl) (13) rfl ?_
        refine gs_aload_n (pc := 53) (gd gk_133 30 rfl) rfl ?_
        refine gs_getI (pc := 54) (gd gk_133 31 rfl) rfl rfl ?_
        refine gs_as (Int32.ofNat ny) (g3) ?_
        refine gs_imul (pc := 57) (gd gk_133 32 rfl) ?_
        refine gs_iload_n (pc := 58) (gd gk_133 33 rfl) rfl ?_
        refine gs_iadd (pc := 59) (gd gk_133 34 rfl) ?_
        refine gs_ialoadK (((13 * ny) + k)) (182) (pc := 60) (gd gk_133 35 rfl) (Or.inl rfl) rfl (by decide) (by first | rfl | (simp only [Int32.ofNat_add, Int32.ofNat_mul]; rfl) | (simp only [Int32.ofNat_add, Int32.ofNat_mul])) (by omega) ?_
        refine gs_iastoreK (k) (52) gs_sl (pc := 61) (gd gk_133 36 rfl) rfl rfl (by decide) (by first | rfl | (simp only [Int32.ofNat_add, Int32.ofNat_mul]; rfl) | (simp only [Int32.ofNat_add, Int32.ofNat_mul])) (by omega) (fun I_1 hI_1 => ?_)
        refine gs_iinc (ls2 := fun v => [(0, .ref (126)), (1, .int (v))]) (pc := 62) (gd gk_133 37 rfl) rfl (by rw [gL_133]; decide) (fun _ => rfl) (1) rfl (fun v1_1 hv1_1 => ?_)
        obtain rfl : v1_1 = Int32.ofNat (k + 1) := hv1_1.trans (by first | rfl | (simp only [Int32.ofNat_add, Int32.ofNat_mul]; rfl) | (simp only [Int32.ofNat_add, Int32.ofNat_mul]))
        refine gs_goto (pc := 65) (gd gk_133 38 rfl) ?_
        -- end 2: stop, pc 36, locals [(0, .ref (126)), (1, .int (Int32.ofNat (k + 1)))]
        refine ih (k + 1) (by omega) I_1 (fun c hc => ?_) (fun q hq => ?_) ?_ ?_ (fun q q1 q2 => ?_) (fun p q1 q2 => ?_)
        · rw [hI_1, gw_u_s]
          simp only [upd]
          by_cases e : c = k
          · subst e; rw [if_pos rfl, g6 136 (by omega) (by omega)]
          · rw [if_neg e]; exact g1 c (by omega)
        · rw [hI_1, gw_u_s]; simp only [upd]; rw [if_neg (by omega)]; exact g2 q hq
        · rw [hI_1, gw_u_o (by omega)]; exact g3
        · rw [hI_1, gw_u_o (by omega)]; exact g4
        · rw [hI_1, gw_u_o (by omega)]; exact g5 q q1 q2
        · rw [hI_1, gw_u_o q2]; exact g6 p q1 q2
  refine gs_aload_n (pc := 0) (gd gk_133 0 rfl) rfl ?_
  refine gs_getI (pc := 1) (gd gk_133 1 rfl) rfl rfl ?_
  refine gs_as (Int32.ofNat sz) (h3) ?_
  refine gs_if_ne (pc := 4) (gd gk_133 2 rfl) (fun c4 => ?_) (fun c4 => ?_)
  · replace c4 : ¬ (sz = 0) := fun q9 => c4 ((zeq (k := sz) (m := 0) (by omega) (by omega)).mpr q9)
    refine gs_aload_n (pc := 10) (gd gk_133 5 rfl) rfl ?_
    refine gs_dup (pc := 11) (gd gk_133 6 rfl) rfl ?_
    refine gs_getI (pc := 12) (gd gk_133 7 rfl) rfl rfl ?_
    refine gs_as (Int32.ofNat sz) (h3) ?_
    refine gs_iconst (pc := 15) (gd gk_133 8 rfl) (1) rfl ?_
    refine gs_isub (pc := 16) (gd gk_133 9 rfl) ?_
    refine gs_putI (pc := 17) (gd gk_133 10 rfl) rfl rfl rfl rfl (fun I_1 hI_1 => ?_)
    refine gs_aload_n (pc := 20) (gd gk_133 11 rfl) rfl ?_
    refine gs_aload_n (pc := 21) (gd gk_133 12 rfl) rfl ?_
    refine gs_getI (pc := 22) (gd gk_133 13 rfl) rfl rfl ?_
    refine gs_as (Int32.ofNat nx) (by rw [hI_1, gw_u_s]; simp [upd]; exact h1) ?_
    refine gs_bipush (pc := 25) (gd gk_133 14 rfl) (13) rfl ?_
    refine gs_iadd (pc := 27) (gd gk_133 15 rfl) ?_
    refine gs_bipush (pc := 28) (gd gk_133 16 rfl) (14) rfl ?_
    refine gs_irem (pc := 30) (gd gk_133 17 rfl) (by decide) ?_
    refine gs_putI (pc := 31) (gd gk_133 18 rfl) rfl rfl rfl rfl (fun I_2 hI_2 => ?_)
    refine gs_iconst (pc := 34) (gd gk_133 19 rfl) (0) rfl ?_
    refine gs_istore_n (ls2 := fun v => [(0, .ref (126)), (1, .int (v))]) (pc := 35) (gd gk_133 20 rfl) (by rw [gL_133]; decide) (fun _ => rfl) (fun v1_1 hv1_1 => ?_)
    obtain rfl : v1_1 = Int32.ofNat 0 := hv1_1.trans (by first | rfl | (simp only [Int32.ofNat_add, Int32.ofNat_mul]; rfl) | (simp only [Int32.ofNat_add, Int32.ofNat_mul]))
    -- end 1: stop, pc 36, locals [(0, .ref (126)), (1, .int (Int32.ofNat 0))]
    have hp : 0 < sz := by omega
    have a1 : I_2 126 20 = Int32.ofNat ny := by rw [hI_2, gw_u_s]; simp only [upd, if_true]; rw [gz_r13m nx h2, hny]
    have a2 : I_2 126 19 = Int32.ofNat (sz - 1) := by rw [hI_2, gw_u_s]; simp only [upd]; rw [if_neg (by omega), hI_1, gw_u_s]; simp only [upd, if_true]; obtain ⟨z, rfl⟩ : ∃ z, sz = z + 1 := ⟨sz - 1, by omega⟩; rw [zsucc]; simp
    have o : ∀ p, p ≠ 126 → I_2 p = I p := fun p hp => by rw [hI_2, gw_u_o hp, hI_1, gw_u_o hp]
    refine lp hp 13 0 rfl I_2 (fun c hc => absurd hc (Nat.not_lt_zero _)) (fun q _ => by rw [o 133 (by omega)]) a1 a2 (fun q q1 q2 => ?_) (fun p q1 _ => o p q1)
    rw [hI_2, gw_u_s]; simp only [upd]; rw [if_neg q2, hI_1, gw_u_s]; simp only [upd]; rw [if_neg q1]
  · replace c4 : sz = 0 := (zeq (k := sz) (m := 0) (by omega) (by omega)).mp c4
    refine gs_bipush (pc := 7) (gd gk_133 3 rfl) (-3) rfl ?_
    -- end 2: ireturn (-3), pc 9, locals [(0, .ref (126))]
    exact gs_iret (pc := 9) (gd gk_133 4 rfl) rfl (rfl) (Nat.zero_le _) (Nat.zero_le _) (⟨I, -3, rfl, rfl, fun _ => ⟨rfl, rfl⟩, fun e => absurd e (by omega)⟩)
end
end
section
/-! ===== hour: both ===== -/
section
variable {V : gw_V} {n W N h0 L bc : Nat} {I : Nat → Nat → Int32} {J : Nat → Nat → Int64}
theorem c_lead : gw_E V 62 (0, [(0, .ref 57), (1, .ref 12)], [], gS n I J, 0, 0) (fun v w' => v = none ∧ ∃ I2, w' = gS n I2 J ∧ (∀ c, c < 10 → I2 13 c = I 60 c) ∧ I2 12 1 = I 12 1 ∧ I2 12 2 = I 12 2 + I 78 1 ∧ I2 12 3 = I 12 3 + 1 ∧ ∀ p, p ≠ 12 → p ≠ 13 → I2 p = I p) := by
  refine gs_aload_n (pc := 0) (gd gk_62 0 rfl) rfl ?_
  refine gs_getR (r := 58) (pc := 1) (gd gk_62 1 rfl) rfl rfl rfl (by decide) ?_
  refine gs_iconst (pc := 4) (gd gk_62 2 rfl) (1) rfl ?_
  refine gs_aaloadK (r := 60) (1) (9) (pc := 5) (gd gk_62 3 rfl) (Or.inr rfl) rfl (by decide) (by first | rfl | (simp only [Int32.ofNat_add, Int32.ofNat_mul]; rfl) | (simp only [Int32.ofNat_add, Int32.ofNat_mul])) (by omega) rfl (by omega) ?_
  refine gs_iconst (pc := 6) (gd gk_62 4 rfl) (0) rfl ?_
  refine gs_aload_n (pc := 7) (gd gk_62 5 rfl) rfl ?_
  refine gs_getR (r := 13) (pc := 8) (gd gk_62 6 rfl) rfl rfl rfl (by decide) ?_
  refine gs_iconst (pc := 11) (gd gk_62 7 rfl) (0) rfl ?_
  refine gs_bipush (pc := 12) (gd gk_62 8 rfl) (10) rfl ?_
  refine gs_copy gs_sl (pc := 14) (gd gk_62 9 rfl) (by decide) (by decide) (Nat.le_of_ble_eq_true rfl) rfl rfl (by decide) (by decide) (by decide) (Nat.le_of_ble_eq_true rfl) (Nat.le_of_ble_eq_true rfl) (fun I_1 hI_1 => ?_)
  refine gs_aload_n (pc := 17) (gd gk_62 10 rfl) rfl ?_
  refine gs_dup (pc := 18) (gd gk_62 11 rfl) rfl ?_
  refine gs_getI (pc := 19) (gd gk_62 12 rfl) rfl rfl ?_
  refine gs_aload_n (pc := 22) (gd gk_62 13 rfl) rfl ?_
  refine gs_getR (r := 78) (pc := 23) (gd gk_62 14 rfl) rfl rfl rfl (by decide) ?_
  refine gs_iconst (pc := 26) (gd gk_62 15 rfl) (1) rfl ?_
  refine gs_ialoadK (1) (9) (pc := 27) (gd gk_62 16 rfl) (Or.inl rfl) rfl (by decide) (by first | rfl | (simp only [Int32.ofNat_add, Int32.ofNat_mul]; rfl) | (simp only [Int32.ofNat_add, Int32.ofNat_mul])) (by omega) ?_
  refine gs_iadd (pc := 28) (gd gk_62 17 rfl) ?_
  refine gs_putI (pc := 29) (gd gk_62 18 rfl) rfl rfl rfl rfl (fun I_2 hI_2 => ?_)
  refine gs_aload_n (pc := 32) (gd gk_62 19 rfl) rfl ?_
  refine gs_dup (pc := 33) (gd gk_62 20 rfl) rfl ?_
  refine gs_getI (pc := 34) (gd gk_62 21 rfl) rfl rfl ?_
  refine gs_iconst (pc := 37) (gd gk_62 22 rfl) (1) rfl ?_
  refine gs_iadd (pc := 38) (gd gk_62 23 rfl) ?_
  refine gs_putI (pc := 39) (gd gk_62 24 rfl) rfl rfl rfl rfl (fun I_3 hI_3 => ?_)
  -- end 1: return, pc 42, locals [(0, .ref (57)), (1, .ref (12))]
  have o1 : ∀ p, p ≠ 13 → I_1 p = I p := fun p hp => by rw [hI_1]; funext z; simp [gw_cp, hp]
  have e2 : ∀ c, c < 10 → I_1 13 c = I 60 c := fun c hc => by
    have z0 : (0 : Int32).toNatClampNeg = 0 := rfl
    have z10 : (10 : Int32).toNatClampNeg = 10 := rfl
    rw [hI_1]
    simp [gw_cp, va_cpy, z0, z10, hc]
  have o3 : ∀ p, p ≠ 12 → I_3 p = I_1 p := fun p hp => by rw [hI_3, gw_u_o hp, hI_2, gw_u_o hp]
  have e12 := o1 12 (by omega)
  have e78 := o1 78 (by omega)
  have e3 : I_3 12 1 = I 12 1 ∧ I_3 12 2 = I 12 2 + I 78 1 ∧ I_3 12 3 = I 12 3 + 1 := by
    refine ⟨?_, ?_, ?_⟩ <;> subst hI_3 hI_2 <;> simp [gw_u, e12, e78]
  exact gs_ret (pc := 42) (gd gk_62 25 rfl) rfl (Nat.zero_le _) (Nat.zero_le _) (⟨rfl, I_3, rfl, fun c hc => by rw [o3 13 (by omega)]; exact e2 c hc, e3.1, e3.2.1, e3.2.2, fun p q1 q2 => by rw [o3 p q1, o1 p q2]⟩)
/-- the smells an hour on -/
abbrev gq_nx (σ : Nat → Nat → Int32) (h0 bc : Nat) (bk : Bool) (ch : Int32) (s : Nat → Int32) : Nat → Int32 := gq_st σ (σ 1 h0) bk bc ch s
theorem c_hour (bk : Bool) (nx sz : Nat) (h1 : I 16 1 = Int32.ofNat nx) (h2 : nx < 14) (h3 : I 16 2 = Int32.ofNat sz) (h4 : sz ≤ 14) (hn : gq_now I W N h0 L bc) : gw_E V 72 (0, [(0, .ref 3), (1, .int (gz_b bk))], [], gS n I J, 0, 0) (fun v w' => ∃ I2 y, w' = gS n I2 J ∧ v = some (.int y) ∧ if h0 = W then y = -3 ∧ I2 = I else y = gq_who (gz_S I) (gq_nx (gz_S I) h0 bc bk (I 12 1) (I 13)) N ∧ gz_rm I I2 nx sz ∧ (∀ c, c < 10 → I2 13 c = gq_nx (gz_S I) h0 bc bk (I 12 1) (I 13) c) ∧ I2 12 1 = I 12 1 ∧ I2 12 2 = I 12 2 + gq_hc (gz_S I) (gq_nx (gz_S I) h0 bc bk (I 12 1) (I 13)) bk (decide (gz_S I 1 h0 = 1)) (fun _ => true) N ∧ I2 12 3 = Int32.ofNat (h0 + 1) ∧ I2 78 0 = I 78 0 ∧ I2 79 0 = I 79 0 ∧ I2 69 = I 69 ∧ ∀ p, p ≠ 18 + 2 * nx → p ≠ 18 + 2 * nx + 1 → p ≠ 16 → p ≠ 12 → p ≠ 13 → ¬ (57 ≤ p ∧ p ≤ 125) → p ≠ 14 → p ≠ 15 → I2 p = I p) := by
  obtain ⟨hok, hh, hW, hbc, hb9, h78, h79, h69⟩ := id hn
  have hW8 : W ≤ 8 := hok.2.1
  have hl := gz_left0 (W := W) (h0 := h0) (I := I) hok.1 hh (by omega) hW8
  have tail : ¬ h0 = W → ∀ I1 (pl : Int32), gz_in pl (Int32.ofNat h0) = bk → gz_rm I I1 nx sz → (∀ p, p ≠ 18 + 2 * nx → p ≠ 18 + 2 * nx + 1 → p ≠ 16 → ¬ (57 ≤ p ∧ p ≤ 125) → I1 p = I p) → I1 78 0 = I 78 0 → I1 79 0 = I 79 0 → I1 69 = I 69 → gq_on I1 W N h0 L bc → I1 57 6 = I 12 1 → (∀ c, c < 10 → I1 59 c = I 13 c) → gw_E V 72 (61, [(0, .ref 3), (1, .int (gz_b bk))], [.int 0, .int pl, .ref 57], gS n I1 J, 0, 0) (fun v w' => ∃ I2 y, w' = gS n I2 J ∧ v = some (.int y) ∧ if h0 = W then y = -3 ∧ I2 = I else y = gq_who (gz_S I) (gq_nx (gz_S I) h0 bc bk (I 12 1) (I 13)) N ∧ gz_rm I I2 nx sz ∧ (∀ c, c < 10 → I2 13 c = gq_nx (gz_S I) h0 bc bk (I 12 1) (I 13) c) ∧ I2 12 1 = I 12 1 ∧ I2 12 2 = I 12 2 + gq_hc (gz_S I) (gq_nx (gz_S I) h0 bc bk (I 12 1) (I 13)) bk (decide (gz_S I 1 h0 = 1)) (fun _ => true) N ∧ I2 12 3 = Int32.ofNat (h0 + 1) ∧ I2 78 0 = I 78 0 ∧ I2 79 0 = I 79 0 ∧ I2 69 = I 69 ∧ ∀ p, p ≠ 18 + 2 * nx → p ≠ 18 + 2 * nx + 1 → p ≠ 16 → p ≠ 12 → p ≠ 13 → ¬ (57 ≤ p ∧ p ≤ 125) → p ≠ 14 → p ≠ 15 → I2 p = I p) := by
    intro hw I1 pl hpl g1 g2 g3 g4 g5 g6 g7 g8
    have hS1 : gz_S I1 = gz_S I := gz_S_eq (fun p q1 q2 => g2 p (by omega) (by omega) (by omega) (by omega))
    refine gs_callV (as := [.int (pl), .int (0)]) (pc := 61) (gd gk_72 30 rfl) (by decide) rfl (by decide) rfl rfl (Nat.le_of_ble_eq_true rfl) gq_72_53 (Nat.le_of_ble_eq_true rfl) (c_take2 pl 0 g6) (fun r_61 w_61 q_61 => ?_)
    obtain ⟨rfl, I_t, rfl, t1, t2, t3⟩ := q_61
    refine gs_aload_n (pc := 64) (gd gk_72 31 rfl) rfl ?_
    refine gs_getR (r := 57) (pc := 65) (gd gk_72 32 rfl) rfl rfl rfl (by decide) ?_
    refine gs_aload_n (pc := 68) (gd gk_72 33 rfl) rfl ?_
    refine gs_getR (r := 12) (pc := 69) (gd gk_72 34 rfl) rfl rfl rfl (by decide) ?_
    refine gs_callV (as := [.ref (12)]) (pc := 72) (gd gk_72 35 rfl) (by decide) rfl (by decide) rfl rfl (Nat.le_of_ble_eq_true rfl) gq_72_62 (Nat.le_of_ble_eq_true rfl) (c_lead) (fun r_72 w_72 q_72 => ?_)
    obtain ⟨rfl, I_l, rfl, l1, l2, l3, l4, l5⟩ := q_72
    refine gs_aload_n (pc := 75) (gd gk_72 36 rfl) rfl ?_
    refine gs_getR (r := 57) (pc := 76) (gd gk_72 37 rfl) rfl rfl rfl (by decide) ?_
    refine gs_getR (r := 80) (pc := 79) (gd gk_72 38 rfl) rfl rfl rfl (by decide) ?_
    refine gs_iconst (pc := 82) (gd gk_72 39 rfl) (1) rfl ?_
    refine gs_ialoadK (1) (9) (pc := 83) (gd gk_72 40 rfl) (Or.inl rfl) rfl (by decide) (by first | rfl | (simp only [Int32.ofNat_add, Int32.ofNat_mul]; rfl) | (simp only [Int32.ofNat_add, Int32.ofNat_mul])) (by omega) ?_
    -- end 1: ireturn (I_l 80 1), pc 84, locals [(0, .ref (3)), (1, .int (gz_b bk))]
    obtain ⟨a1, a2, a3, a4, a5⟩ := t3 1 (by omega)
    have sq1 : gq_sq (gz_S I1) (fun q => gq_wd (gz_S I1) 0 (h0 + q)) (fun q => gz_in pl (Int32.ofNat (h0 + q))) bc (I1 57 6) (I1 59) 1 = gq_nx (gz_S I) h0 bc bk (I 12 1) (I 13) := by
      funext c
      show gq_st (gz_S I1) (gq_wd (gz_S I1) 0 h0) (gz_in pl (Int32.ofNat h0)) bc (I1 57 6) (I1 59) c = _
      rw [hS1, gq_wd_0 _ _ (by omega), hpl, g7, gq_st_c g8]
    have cm1 : gq_cm (gz_S I1) (fun q => gq_wd (gz_S I1) 0 (h0 + q)) (fun q => gz_in pl (Int32.ofNat (h0 + q))) bc (I1 57 6) (I1 59) (fun _ => true) N 1 = gq_hc (gz_S I) (gq_nx (gz_S I) h0 bc bk (I 12 1) (I 13)) bk (decide (gz_S I 1 h0 = 1)) (fun _ => true) N := by
      show 0 + gq_hc (gz_S I1) (gq_sq (gz_S I1) (fun q => gq_wd (gz_S I1) 0 (h0 + q)) (fun q => gz_in pl (Int32.ofNat (h0 + q))) bc (I1 57 6) (I1 59) 1) (gz_in pl (Int32.ofNat h0)) (decide (gq_wd (gz_S I1) 0 h0 = 1)) (fun _ => true) N = _
      rw [sq1, hS1, gq_wd_0 _ _ (by omega), hpl, Int32.zero_add]
    have hq := gq_qf_w t1
    have o : ∀ p, p ≠ 12 → p ≠ 13 → ¬ (57 ≤ p ∧ p ≤ 125) → p ≠ 14 → p ≠ 15 → I_l p = I1 p := fun p q1 q2 q3 q4 q5 => by rw [l5 p q1 q2]; exact hq.1 p q3 q4 q5
    have e12 : I_t 12 = I 12 := by rw [hq.1 12 (by omega) (by omega) (by omega)]; exact g2 12 (by omega) (by omega) (by omega) (by omega)
    exact gs_iret (pc := 84) (gd gk_72 41 rfl) rfl (rfl) (Nat.zero_le _) (Nat.zero_le _) (⟨I_l, _, rfl, rfl, by
      rw [if_neg hw]
      refine ⟨by rw [l5 80 (by omega) (by omega), a5 (by omega), sq1, hS1], ⟨⟨fun c hc => by rw [o _ (by omega) (by omega) (by omega) (by omega) (by omega)]; exact g1.1.1 c hc, by rw [o _ (by omega) (by omega) (by omega) (by omega) (by omega)]; exact g1.1.2.1, by rw [o _ (by omega) (by omega) (by omega) (by omega) (by omega)]; exact g1.1.2.2.1, by rw [o _ (by omega) (by omega) (by omega) (by omega) (by omega)]; exact g1.1.2.2.2⟩, by rw [o _ (by omega) (by omega) (by omega) (by omega) (by omega)]; exact g1.2.1, by rw [o _ (by omega) (by omega) (by omega) (by omega) (by omega)]; exact g1.2.2⟩, fun c hc => ?_, by rw [l2, e12], by rw [l3, e12, a3, cm1], by rw [l4, e12, hh, zsucc], by rw [l5 78 (by omega) (by omega), hq.2.1, g3], by rw [l5 79 (by omega) (by omega), hq.2.2.1, g4], by rw [l5 69 (by omega) (by omega), hq.2.2.2, g5], fun p q1 q2 q3 q4 q5 q6 q7 q8 => by rw [o p q4 q5 q6 q7 q8]; exact g2 p q1 q2 q3 q6⟩
      rw [l1 c hc, ← sq1]
      exact a1 c hc⟩)
  refine gs_aload_n (pc := 0) (gd gk_72 0 rfl) rfl ?_
  refine gs_callV (as := []) (pc := 1) (gd gk_72 1 rfl) (by decide) rfl (by decide) rfl rfl (Nat.le_of_ble_eq_true rfl) gq_72_97 (Nat.le_of_ble_eq_true rfl) (c_left) (fun r_1 w_1 q_1 => ?_)
  obtain ⟨rfl, rfl⟩ := q_1
  refine gs_if_ne (pc := 4) (gd gk_72 2 rfl) (fun c4 => ?_) (fun c4 => ?_)
  · refine gs_aload_n (pc := 10) (gd gk_72 5 rfl) rfl ?_
    refine gs_getR (r := 16) (pc := 11) (gd gk_72 6 rfl) rfl rfl rfl (by decide) ?_
    refine gs_aload_n (pc := 14) (gd gk_72 7 rfl) rfl ?_
    refine gs_getR (r := 12) (pc := 15) (gd gk_72 8 rfl) rfl rfl rfl (by decide) ?_
    refine gs_callV (as := [.ref (12)]) (pc := 18) (gd gk_72 9 rfl) (by decide) rfl (by decide) rfl rfl (Nat.le_of_ble_eq_true rfl) gq_72_2 (Nat.le_of_ble_eq_true rfl) (c_remember nx sz h1 h2 h3 h4) (fun r_18 w_18 q_18 => ?_)
    obtain ⟨rfl, I_r, rfl, r1, r2, r3, r4⟩ := q_18
    refine gs_aload_n (pc := 21) (gd gk_72 10 rfl) rfl ?_
    refine gs_getR (r := 57) (pc := 22) (gd gk_72 11 rfl) rfl rfl rfl (by decide) ?_
    refine gs_aload_n (pc := 25) (gd gk_72 12 rfl) rfl ?_
    refine gs_getR (r := 12) (pc := 26) (gd gk_72 13 rfl) rfl rfl rfl (by decide) ?_
    refine gs_aload_n (pc := 29) (gd gk_72 14 rfl) rfl ?_
    refine gs_getR (r := 6) (pc := 30) (gd gk_72 15 rfl) rfl rfl rfl (by decide) ?_
    refine gs_getI (pc := 33) (gd gk_72 16 rfl) rfl rfl ?_
    refine gs_as (Int32.ofNat bc) (by rw [r4 6 (by omega) (by omega) (by omega)]; exact hbc) ?_
    refine gs_callV (as := [.ref (12), .int (Int32.ofNat bc)]) (pc := 36) (gd gk_72 17 rfl) (by decide) rfl (by decide) rfl rfl (Nat.le_of_ble_eq_true rfl) gq_72_50 (Nat.le_of_ble_eq_true rfl) (c_start_now bc h0 L (by rw [gz_S_eq (fun p q1 q2 => r4 p (by omega) (by omega) (by omega))]; exact hok) (by rw [r4 12 (by omega) (by omega) (by omega)]; exact hh) hW hb9 (by rw [r4 78 (by omega) (by omega) (by omega)]; exact h78) (by rw [r4 79 (by omega) (by omega) (by omega)]; exact h79) (by rw [r4 69 (by omega) (by omega) (by omega)]; exact h69)) (fun r_36 w_36 q_36 => ?_)
    obtain ⟨rfl, I_s, rfl, s1, s2, s3, s4⟩ := q_36
    refine gs_aload_n (pc := 39) (gd gk_72 18 rfl) rfl ?_
    refine gs_getR (r := 57) (pc := 40) (gd gk_72 19 rfl) rfl rfl rfl (by decide) ?_
    refine gs_iload_n (pc := 43) (gd gk_72 20 rfl) rfl ?_
    refine gs_if_eq (pc := 44) (gd gk_72 21 rfl) (fun c44 => ?_) (fun c44 => ?_)
    · refine gs_iconst (pc := 59) (gd gk_72 28 rfl) (0) rfl ?_
      refine gs_iconst (pc := 60) (gd gk_72 29 rfl) (0) rfl ?_
      -- end 1: stop, pc 61, locals [(0, .ref (3)), (1, .int (gz_b bk))]
      have hw : ¬ h0 = W := fun e => c4 (hl.mpr e)
      have km : gz_rm I I_s nx sz := ⟨⟨fun c hc => by rw [s1 _ (by omega) (by omega)]; exact r1.1 c hc, by rw [s1 _ (by omega) (by omega)]; exact r1.2.1, by rw [s1 _ (by omega) (by omega)]; exact r1.2.2.1, by rw [s1 _ (by omega) (by omega)]; exact r1.2.2.2⟩, by rw [s1 _ (by omega) (by omega)]; exact r2, by rw [s1 _ (by omega) (by omega)]; exact r3⟩
      have g2 : ∀ p, p ≠ 18 + 2 * nx → p ≠ 18 + 2 * nx + 1 → p ≠ 16 → ¬ (57 ≤ p ∧ p ≤ 125) → I_s p = I p := fun p q1 q2 q3 q4 => by rw [s1 p (by omega) (by omega)]; exact r4 p q1 q2 q3
      have gx : ∀ p, p = 78 ∨ p = 79 ∨ p = 69 → I_s p = I p := fun p hp => by rw [s1 p (by omega) (by omega)]; exact r4 p (by omega) (by omega) (by omega)
      have h12 : I_r 12 = I 12 := r4 12 (by omega) (by omega) (by omega)
      have h13 : I_r 13 = I 13 := r4 13 (by omega) (by omega) (by omega)
      exact tail hw I_s 0 (by rw [gz_in_0 h0 (by omega)]; exact (gz_b_eq.mp c44).symm) km g2 (by rw [gx 78 (by omega)]) (by rw [gx 79 (by omega)]) (gx 69 (by omega)) s2 (by rw [s3, h12]) (fun c hc => by rw [s4 c hc, h13])
    · refine gs_iconst (pc := 47) (gd gk_72 22 rfl) (1) rfl ?_
      refine gs_aload_n (pc := 48) (gd gk_72 23 rfl) rfl ?_
      refine gs_getR (r := 12) (pc := 49) (gd gk_72 24 rfl) rfl rfl rfl (by decide) ?_
      refine gs_getI (pc := 52) (gd gk_72 25 rfl) rfl rfl ?_
      refine gs_as (Int32.ofNat h0) (by rw [s1 12 (by omega) (by omega), r4 12 (by omega) (by omega) (by omega)]; exact hh) ?_
      refine gs_ishl (pc := 55) (gd gk_72 26 rfl) ?_
      refine gs_goto (pc := 56) (gd gk_72 27 rfl) ?_
      refine gs_iconst (pc := 60) (gd gk_72 29 rfl) (0) rfl ?_
      -- end 2: stop, pc 61, locals [(0, .ref (3)), (1, .int (gz_b bk))]
      have hw : ¬ h0 = W := fun e => c4 (hl.mpr e)
      have km : gz_rm I I_s nx sz := ⟨⟨fun c hc => by rw [s1 _ (by omega) (by omega)]; exact r1.1 c hc, by rw [s1 _ (by omega) (by omega)]; exact r1.2.1, by rw [s1 _ (by omega) (by omega)]; exact r1.2.2.1, by rw [s1 _ (by omega) (by omega)]; exact r1.2.2.2⟩, by rw [s1 _ (by omega) (by omega)]; exact r2, by rw [s1 _ (by omega) (by omega)]; exact r3⟩
      have g2 : ∀ p, p ≠ 18 + 2 * nx → p ≠ 18 + 2 * nx + 1 → p ≠ 16 → ¬ (57 ≤ p ∧ p ≤ 125) → I_s p = I p := fun p q1 q2 q3 q4 => by rw [s1 p (by omega) (by omega)]; exact r4 p q1 q2 q3
      have gx : ∀ p, p = 78 ∨ p = 79 ∨ p = 69 → I_s p = I p := fun p hp => by rw [s1 p (by omega) (by omega)]; exact r4 p (by omega) (by omega) (by omega)
      have h12 : I_r 12 = I 12 := r4 12 (by omega) (by omega) (by omega)
      have h13 : I_r 13 = I 13 := r4 13 (by omega) (by omega) (by omega)
      exact tail hw I_s _ (by rw [gz_one h0 (by omega) h0 (by omega), decide_eq_true rfl]; exact (gz_b_ne.mp c44).symm) km g2 (by rw [gx 78 (by omega)]) (by rw [gx 79 (by omega)]) (gx 69 (by omega)) s2 (by rw [s3, h12]) (fun c hc => by rw [s4 c hc, h13])
  · refine gs_bipush (pc := 7) (gd gk_72 3 rfl) (-3) rfl ?_
    -- end 3: ireturn (-3), pc 9, locals [(0, .ref (3)), (1, .int (gz_b bk))]
    exact gs_iret (pc := 9) (gd gk_72 4 rfl) rfl (rfl) (Nat.zero_le _) (Nat.zero_le _) (⟨I, -3, rfl, rfl, by rw [if_pos (hl.mp c4)]; exact ⟨rfl, rfl⟩⟩)
theorem m_hour (bk : Bool) (nx sz : Nat) (h1 : I 126 20 = Int32.ofNat nx) (h2 : nx < 14) (h3 : I 126 19 = Int32.ofNat sz) (h4 : sz ≤ 14) (hn : gm_now I W N h0 L bc) : gw_E V 131 (0, [(0, .ref 126), (1, .int (gz_b bk))], [], gS n I J, 0, 0) (fun v w' => ∃ I2 y, w' = gS n I2 J ∧ v = some (.int y) ∧ if h0 = W then y = -3 ∧ I2 = I else y = gq_who (gz_M I) (gq_nx (gz_M I) h0 bc bk (I 133 10) (I 133)) N ∧ gm_rm I I2 nx sz ∧ (∀ c, c < 10 → I2 133 c = gq_nx (gz_M I) h0 bc bk (I 133 10) (I 133) c) ∧ I2 133 10 = I 133 10 ∧ I2 133 11 = I 133 11 + gq_hc (gz_M I) (gq_nx (gz_M I) h0 bc bk (I 133 10) (I 133)) bk (decide (gz_M I 1 h0 = 1)) (fun _ => true) N ∧ I2 133 12 = Int32.ofNat (h0 + 1) ∧ (∀ q, q ≠ 19 → q ≠ 20 → I2 126 q = I 126 q) ∧ ∀ p, p ≠ 126 → p ≠ 128 → p ≠ 133 → p ≠ 135 → p ≠ 136 → I2 p = I p) := by
  obtain ⟨hok, hh, hW, hbc, hb9⟩ := id hn
  have hW8 : W ≤ 8 := hok.2.1
  have hW3 : I 126 3 = Int32.ofNat W := hok.1
  have tail : ¬ h0 = W → ∀ I1, gm_rm I I1 nx sz → (∀ h, h < 8 → I1 128 h = I 127 h) → (∀ q, q ≠ 19 → q ≠ 20 → I1 126 q = I 126 q) → (∀ p, p ≠ 126 → p ≠ 128 → p ≠ 136 → I1 p = I p) → gw_E V 131 (25, [(0, .ref 126), (1, .int (gz_b bk))], [], gS n I1 J, 0, 0) (fun v w' => ∃ I2 y, w' = gS n I2 J ∧ v = some (.int y) ∧ if h0 = W then y = -3 ∧ I2 = I else y = gq_who (gz_M I) (gq_nx (gz_M I) h0 bc bk (I 133 10) (I 133)) N ∧ gm_rm I I2 nx sz ∧ (∀ c, c < 10 → I2 133 c = gq_nx (gz_M I) h0 bc bk (I 133 10) (I 133) c) ∧ I2 133 10 = I 133 10 ∧ I2 133 11 = I 133 11 + gq_hc (gz_M I) (gq_nx (gz_M I) h0 bc bk (I 133 10) (I 133)) bk (decide (gz_M I 1 h0 = 1)) (fun _ => true) N ∧ I2 133 12 = Int32.ofNat (h0 + 1) ∧ (∀ q, q ≠ 19 → q ≠ 20 → I2 126 q = I 126 q) ∧ ∀ p, p ≠ 126 → p ≠ 128 → p ≠ 133 → p ≠ 135 → p ≠ 136 → I2 p = I p) := by
    intro hw I1 g1 g2 g3 g4
    have hM1 : gz_M I1 = gz_M I := gz_M_eq (fun k hk => g3 k (by omega) (by omega)) (g4 127 (by omega) (by omega) (by omega)) (g4 129 (by omega) (by omega) (by omega))
    have e133 : I1 133 = I 133 := g4 133 (by omega) (by omega) (by omega)
    have hL : gz_L I1 0 = I 133 := by
      funext c
      show I1 133 (13 * 0 + c) = _
      rw [Nat.mul_zero, Nat.zero_add, e133]
    have hwd : gz_M I 1 h0 = -1 ∨ gz_M I 1 h0 = 0 ∨ gz_M I 1 h0 = 1 := by
      obtain ⟨-, -, -, -, -, -, -, hw, -⟩ := hok
      exact hw h0 (by omega)
    refine gs_aload_n (pc := 25) (gd gk_131 13 rfl) rfl ?_
    refine gs_iconst (pc := 26) (gd gk_131 14 rfl) (0) rfl ?_
    refine gs_iload_n (pc := 27) (gd gk_131 15 rfl) rfl ?_
    refine gs_bipush (pc := 28) (gd gk_131 16 rfl) (63) rfl ?_
    refine gs_callV (as := [.int (0), .int (gz_b bk), .int (63)]) (pc := 30) (gd gk_131 17 rfl) (by decide) rfl (by decide) rfl rfl (Nat.le_of_ble_eq_true rfl) gq_131_127 (Nat.le_of_ble_eq_true rfl) (m_pass (W := W) (N := N) 0 h0 bc bk 63 (gz_M I 1 h0) (by omega) (by rw [hM1]; exact hok) (by rw [e133]; exact hh) (by omega) (g2 h0 (by omega)) hwd (by rw [g3 0 (by omega) (by omega)]; exact hbc) hb9) (fun r_30 w_30 q_30 => ?_)
    obtain ⟨I_p, rfl, rfl, p1, p2, p3, p4, p5⟩ := q_30
    have hMp : gz_M I_p = gz_M I := (gz_M_eq (fun k _ => by rw [p5 126 (by omega) (by omega)]) (p5 127 (by omega) (by omega)) (p5 129 (by omega) (by omega))).trans hM1
    rw [hM1, hL, show I1 133 (13 * 0 + 10) = I 133 10 by rw [e133]] at p1 p2
    refine gs_pop (pc := 33) (gd gk_131 18 rfl) rfl ?_
    refine gs_aload_n (pc := 34) (gd gk_131 19 rfl) rfl ?_
    refine gs_iconst (pc := 35) (gd gk_131 20 rfl) (0) rfl ?_
    refine gs_callV (as := [.int (0)]) (pc := 36) (gd gk_131 21 rfl) (by decide) rfl (by decide) rfl rfl (Nat.le_of_ble_eq_true rfl) gq_131_122 (Nat.le_of_ble_eq_true rfl) (m_who 0 (by omega) (by rw [hMp]; exact hok)) (fun r_36 w_36 q_36 => ?_)
    obtain ⟨rfl, rfl⟩ := q_36
    -- end 1: ireturn (gq_who (gz_M I_p) (gz_L I_p 0) N), pc 39, locals [(0, .ref (126)), (1, .int (gz_b bk))]
    have q1 : ∀ c, c < 10 → I_p 133 c = gq_nx (gz_M I) h0 bc bk (I 133 10) (I 133) c := fun c hc => by have := p1 c hc; rw [Nat.mul_zero, Nat.zero_add] at this; exact this
    have hso : gq_hc (gz_M I) (gq_nx (gz_M I) h0 bc bk (I 133 10) (I 133)) bk (decide (gz_M I 1 h0 = 1)) (fun m => gz_in 63 (Int32.ofNat m)) N = gq_hc (gz_M I) (gq_nx (gz_M I) h0 bc bk (I 133 10) (I 133)) bk (decide (gz_M I 1 h0 = 1)) (fun _ => true) N := gq_hc_k (gq_sim_rf _ N) _ _ _ (gm_all hok.2.2.2.1) (Nat.le_refl N)
    exact gs_iret (pc := 39) (gd gk_131 22 rfl) rfl (rfl) (Nat.zero_le _) (Nat.zero_le _) (⟨I_p, _, rfl, rfl, by
      rw [if_neg hw]
      refine ⟨?_, ⟨by rw [p5 136 (by omega) (by omega)]; exact g1.1, by rw [p5 136 (by omega) (by omega)]; exact g1.2.1, by rw [p5 126 (by omega) (by omega)]; exact g1.2.2.1, by rw [p5 126 (by omega) (by omega)]; exact g1.2.2.2⟩, q1, ?_, ?_, p3, fun q q1 q2 => by rw [p5 126 (by omega) (by omega)]; exact g3 q q1 q2, fun p q1 q2 q3 q4 q5 => by rw [p5 p q3 q4]; exact g4 p q1 q2 q5⟩
      · rw [hMp]
        refine gq_who_c (fun c hc => ?_) (gq_ok_n hok)
        show I_p 133 (13 * 0 + c) = _
        rw [Nat.mul_zero, Nat.zero_add]; exact q1 c hc
      · rw [p4 10 (by omega) (by omega) (by omega), e133]
      · have p2 : I_p 133 11 = I1 133 11 + _ := p2
        rw [p2, e133]; exact congrArg (I 133 11 + ·) hso⟩)
  refine gs_aload_n (pc := 0) (gd gk_131 0 rfl) rfl ?_
  refine gs_getR (r := 133) (pc := 1) (gd gk_131 1 rfl) rfl rfl rfl (by decide) ?_
  refine gs_bipush (pc := 4) (gd gk_131 2 rfl) (12) rfl ?_
  refine gs_ialoadK (12) (52) (pc := 6) (gd gk_131 3 rfl) (Or.inl rfl) rfl (by decide) (by first | rfl | (simp only [Int32.ofNat_add, Int32.ofNat_mul]; rfl) | (simp only [Int32.ofNat_add, Int32.ofNat_mul])) (by omega) ?_
  refine gs_as (Int32.ofNat h0) (hh) ?_
  refine gs_aload_n (pc := 7) (gd gk_131 4 rfl) rfl ?_
  refine gs_getI (pc := 8) (gd gk_131 5 rfl) rfl rfl ?_
  refine gs_as (Int32.ofNat W) (hW3) ?_
  refine gs_icmp_ne (pc := 11) (gd gk_131 6 rfl) (fun c11 => ?_) (fun c11 => ?_)
  · replace c11 : ¬ (h0 = W) := fun q9 => c11 ((zeq (k := h0) (m := W) (by omega) (by omega)).mpr q9)
    refine gs_aload_n (pc := 17) (gd gk_131 9 rfl) rfl ?_
    refine gs_callV (as := []) (pc := 18) (gd gk_131 10 rfl) (by decide) rfl (by decide) rfl rfl (Nat.le_of_ble_eq_true rfl) gq_131_130 (Nat.le_of_ble_eq_true rfl) (m_keepAct nx sz h1 h2 h3 h4) (fun r_18 w_18 q_18 => ?_)
    obtain ⟨rfl, I_r, rfl, r1, r2, r3, r4, r5, r6⟩ := q_18
    refine gs_aload_n (pc := 21) (gd gk_131 11 rfl) rfl ?_
    refine gs_callV (as := []) (pc := 22) (gd gk_131 12 rfl) (by decide) rfl (by decide) rfl rfl (Nat.le_of_ble_eq_true rfl) gq_131_128 (Nat.le_of_ble_eq_true rfl) (m_winds) (fun r_22 w_22 q_22 => ?_)
    obtain ⟨rfl, I_w, rfl, w1, w2⟩ := q_22
    -- end 1: stop, pc 25, locals [(0, .ref (126)), (1, .int (gz_b bk))]
    exact tail c11 I_w ⟨by rw [w2 136 (by omega)]; exact r1, by rw [w2 136 (by omega)]; exact r2, by rw [w2 126 (by omega)]; exact r3, by rw [w2 126 (by omega)]; exact r4⟩ (fun h hh8 => by rw [w1 h hh8, r6 127 (by omega) (by omega)]) (fun q q1 q2 => by rw [w2 126 (by omega)]; exact r5 q q1 q2) (fun p q1 q2 q3 => by rw [w2 p q2]; exact r6 p q1 q3)
  · replace c11 : h0 = W := (zeq (k := h0) (m := W) (by omega) (by omega)).mp c11
    refine gs_bipush (pc := 14) (gd gk_131 7 rfl) (-3) rfl ?_
    -- end 2: ireturn (-3), pc 16, locals [(0, .ref (126)), (1, .int (gz_b bk))]
    exact gs_iret (pc := 16) (gd gk_131 8 rfl) rfl (rfl) (Nat.zero_le _) (Nat.zero_le _) (⟨I, -3, rfl, rfl, by rw [if_pos c11]; exact ⟨rfl, rfl⟩⟩)
end
end
section
/-! ===== keep, again: both ===== -/
section
variable {V : gw_V} {n W N h0 L bc : Nat} {I : Nat → Nat → Int32} {J : Nat → Nat → Int64}
theorem c_put (s : Nat) (hs : s < 2) : gw_E V 29 (0, [(0, .ref 46), (1, .int (Int32.ofNat s)), (2, .ref 12)], [], gS n I J, 0, 0) (fun v w' => v = none ∧ ∃ I2, w' = gS n I2 J ∧ gz_mm I2 (49 + 2 * s) I 12 ∧ I2 48 s = 1 ∧ (∀ q, q ≠ s → I2 48 q = I 48 q) ∧ ∀ p, p ≠ 49 + 2 * s → p ≠ 49 + 2 * s + 1 → p ≠ 48 → I2 p = I p) := by
  refine gs_aload_n (pc := 0) (gd gk_29 0 rfl) rfl ?_
  refine gs_getR (r := 47) (pc := 1) (gd gk_29 1 rfl) rfl rfl rfl (by decide) ?_
  refine gs_iload_n (pc := 4) (gd gk_29 2 rfl) rfl ?_
  refine gs_aaloadK (r := 49 + 2 * s) (s) (2) (pc := 5) (gd gk_29 3 rfl) (Or.inl rfl) rfl (by decide) (by first | rfl | (simp only [Int32.ofNat_add, Int32.ofNat_mul]; rfl) | (simp only [Int32.ofNat_add, Int32.ofNat_mul])) (by omega) rfl (by omega) ?_
  refine gs_aload_n (pc := 6) (gd gk_29 4 rfl) rfl ?_
  refine gs_callV (as := [.ref (12)]) (pc := 7) (gd gk_29 5 rfl) (by decide) rfl (by decide) (gz_mo_s s hs n I J).1 rfl (Nat.le_of_ble_eq_true rfl) gq_29_15 (Nat.le_of_ble_eq_true rfl) (c_copy (49 + 2 * s) 12 (gz_mo_s s hs) gz_mo_12 (by omega) (by omega) (by omega)) (fun r_7 w_7 q_7 => ?_)
  obtain ⟨rfl, I_c, rfl, d2, d3, d4, d5, d6⟩ := q_7
  refine gs_aload_n (pc := 10) (gd gk_29 6 rfl) rfl ?_
  refine gs_getR (r := 48) (pc := 11) (gd gk_29 7 rfl) rfl rfl rfl (by decide) ?_
  refine gs_iload_n (pc := 14) (gd gk_29 8 rfl) rfl ?_
  refine gs_iconst (pc := 15) (gd gk_29 9 rfl) (1) rfl ?_
  refine gs_bastoreK (s) (2) gs_sl (pc := 16) (gd gk_29 10 rfl) rfl rfl (by decide) (by first | rfl | (simp only [Int32.ofNat_add, Int32.ofNat_mul]; rfl) | (simp only [Int32.ofNat_add, Int32.ofNat_mul])) (by omega) (fun I_1 hI_1 => ?_)
  -- end 1: return, pc 17, locals [(0, .ref (46)), (1, .int (Int32.ofNat s)), (2, .ref (12))]
  have o : ∀ p, p ≠ 48 → I_1 p = I_c p := fun p hp => by rw [hI_1, gw_u_o hp]
  exact gs_ret (pc := 17) (gd gk_29 11 rfl) rfl (Nat.zero_le _) (Nat.zero_le _) (⟨rfl, I_1, rfl, ⟨fun c hc => by rw [o _ (by omega)]; exact d2 c hc, by rw [o _ (by omega)]; exact d3, by rw [o _ (by omega)]; exact d4, by rw [o _ (by omega)]; exact d5⟩, by rw [hI_1, gw_u_s]; simp [upd]; rfl, fun q hq => by rw [hI_1, gw_u_s]; simp only [upd]; rw [if_neg hq, d6 48 (by omega) (by omega)], fun p q1 q2 q3 => by rw [o p q3]; exact d6 p q1 q2⟩)
theorem c_give (s : Nat) (hs : s < 2) (b : Bool) (hb : I 48 s = gz_b b) : gw_E V 30 (0, [(0, .ref 46), (1, .int (Int32.ofNat s)), (2, .ref 12)], [], gS n I J, 0, 0) (fun v w' => ∃ I2, w' = gS n I2 J ∧ v = some (.int (gz_b b)) ∧ (b = false → I2 = I) ∧ (b = true → gz_mm I2 12 I (49 + 2 * s) ∧ ∀ p, p ≠ 12 → p ≠ 13 → I2 p = I p)) := by
  refine gs_aload_n (pc := 0) (gd gk_30 0 rfl) rfl ?_
  refine gs_getR (r := 48) (pc := 1) (gd gk_30 1 rfl) rfl rfl rfl (by decide) ?_
  refine gs_iload_n (pc := 4) (gd gk_30 2 rfl) rfl ?_
  refine gs_baloadK (s) (2) (pc := 5) (gd gk_30 3 rfl) rfl rfl (by decide) (by first | rfl | (simp only [Int32.ofNat_add, Int32.ofNat_mul]; rfl) | (simp only [Int32.ofNat_add, Int32.ofNat_mul])) (by omega) ?_
  refine gs_as (gz_b b) (hb) ?_
  refine gs_if_eq (pc := 6) (gd gk_30 4 rfl) (fun c6 => ?_) (fun c6 => ?_)
  · refine gs_aload_n (pc := 19) (gd gk_30 11 rfl) rfl ?_
    refine gs_getR (r := 48) (pc := 20) (gd gk_30 12 rfl) rfl rfl rfl (by decide) ?_
    refine gs_iload_n (pc := 23) (gd gk_30 13 rfl) rfl ?_
    refine gs_baloadK (s) (2) (pc := 24) (gd gk_30 14 rfl) rfl rfl (by decide) (by first | rfl | (simp only [Int32.ofNat_add, Int32.ofNat_mul]; rfl) | (simp only [Int32.ofNat_add, Int32.ofNat_mul])) (by omega) ?_
    refine gs_as (gz_b b) (hb) ?_
    -- end 1: ireturn gz_b b, pc 25, locals [(0, .ref (46)), (1, .int (Int32.ofNat s)), (2, .ref (12))]
    have hb2 := gz_b_eq.mp c6
    exact gs_iret (pc := 25) (gd gk_30 15 rfl) rfl (gz_b_nar _) (Nat.zero_le _) (Nat.zero_le _) (⟨I, rfl, rfl, fun _ => rfl, fun e => by rw [hb2] at e; cases e⟩)
  · refine gs_aload_n (pc := 9) (gd gk_30 5 rfl) rfl ?_
    refine gs_aload_n (pc := 10) (gd gk_30 6 rfl) rfl ?_
    refine gs_getR (r := 47) (pc := 11) (gd gk_30 7 rfl) rfl rfl rfl (by decide) ?_
    refine gs_iload_n (pc := 14) (gd gk_30 8 rfl) rfl ?_
    refine gs_aaloadK (r := 49 + 2 * s) (s) (2) (pc := 15) (gd gk_30 9 rfl) (Or.inl rfl) rfl (by decide) (by first | rfl | (simp only [Int32.ofNat_add, Int32.ofNat_mul]; rfl) | (simp only [Int32.ofNat_add, Int32.ofNat_mul])) (by omega) rfl (by omega) ?_
    refine gs_callV (as := [.ref (49 + 2 * s)]) (pc := 16) (gd gk_30 10 rfl) (by decide) rfl (by decide) rfl rfl (Nat.le_of_ble_eq_true rfl) gq_30_15 (Nat.le_of_ble_eq_true rfl) (c_copy 12 (49 + 2 * s) gz_mo_12 (gz_mo_s s hs) (by omega) (by omega) (by omega)) (fun r_16 w_16 q_16 => ?_)
    obtain ⟨rfl, I_c, rfl, d2, d3, d4, d5, d6⟩ := q_16
    refine gs_aload_n (pc := 19) (gd gk_30 11 rfl) rfl ?_
    refine gs_getR (r := 48) (pc := 20) (gd gk_30 12 rfl) rfl rfl rfl (by decide) ?_
    refine gs_iload_n (pc := 23) (gd gk_30 13 rfl) rfl ?_
    refine gs_baloadK (s) (2) (pc := 24) (gd gk_30 14 rfl) rfl rfl (by decide) (by first | rfl | (simp only [Int32.ofNat_add, Int32.ofNat_mul]; rfl) | (simp only [Int32.ofNat_add, Int32.ofNat_mul])) (by omega) ?_
    refine gs_as (gz_b b) (by rw [d6 48 (by omega) (by omega)]; exact hb) ?_
    -- end 2: ireturn gz_b b, pc 25, locals [(0, .ref (46)), (1, .int (Int32.ofNat s)), (2, .ref (12))]
    have hb2 := gz_b_ne.mp c6
    exact gs_iret (pc := 25) (gd gk_30 15 rfl) rfl (gz_b_nar _) (Nat.zero_le _) (Nat.zero_le _) (⟨I_c, rfl, rfl, (fun e => by rw [hb2] at e; cases e), fun _ => ⟨⟨d2, d3, d4, d5⟩, d6⟩⟩)
theorem c_forgetA : gw_E V 1 (0, [(0, .ref 16)], [], gS n I J, 0, 0) (fun v w' => v = none ∧ ∃ I2, w' = gS n I2 J ∧ I2 = gw_u I 16 2 0) := by
  refine gs_aload_n (pc := 0) (gd gk_1 0 rfl) rfl ?_
  refine gs_iconst (pc := 1) (gd gk_1 1 rfl) (0) rfl ?_
  refine gs_putI (pc := 2) (gd gk_1 2 rfl) rfl rfl rfl rfl (fun I_1 hI_1 => ?_)
  -- end 1: return, pc 5, locals [(0, .ref (16))]
  exact gs_ret (pc := 5) (gd gk_1 3 rfl) rfl (Nat.zero_le _) (Nat.zero_le _) (⟨rfl, I_1, rfl, hI_1⟩)
theorem c_keep (x : Int32) : gw_E V 90 (0, [(0, .ref 3), (1, .int x)], [], gS n I J, 0, 0) (fun v w' => ∃ I2 y, w' = gS n I2 J ∧ v = some (.int y) ∧ if gz_lt x 2 then y = I 12 3 ∧ gz_mm I2 (49 + 2 * x.toNatClampNeg) I 12 ∧ I2 48 x.toNatClampNeg = 1 ∧ (∀ q, q ≠ x.toNatClampNeg → I2 48 q = I 48 q) ∧ (∀ p, p ≠ 49 + 2 * x.toNatClampNeg → p ≠ 49 + 2 * x.toNatClampNeg + 1 → p ≠ 48 → I2 p = I p) else y = -1 ∧ I2 = I) := by
  by_cases hr : gz_lt x 2 = true
  · obtain ⟨c, hc, rfl⟩ := gz_lt_nat hr (by omega)
    have hz : (Int32.ofNat c).toNatClampNeg = c := znn (by omega)
    refine gs_iload_n (pc := 0) (gd gk_90 0 rfl) rfl ?_
    refine gs_if_lt (pc := 1) (gd gk_90 1 rfl) (fun c1 => ?_) (fun c1 => ?_)
    · replace c1 : c < 0 := (zlt (k := c) (m := 0) (by omega) (by omega)).mp c1
      refine gs_iconst (pc := 9) (gd gk_90 5 rfl) (-1) rfl ?_
      -- end 1: ireturn (-1), pc 10, locals [(0, .ref (3)), (1, .int (Int32.ofNat c))]
      exact absurd c1 (Nat.not_lt_zero _)
    · replace c1 : ¬ (c < 0) := fun q9 => c1 ((zlt (k := c) (m := 0) (by omega) (by omega)).mpr q9)
      refine gs_iload_n (pc := 4) (gd gk_90 2 rfl) rfl ?_
      refine gs_iconst (pc := 5) (gd gk_90 3 rfl) (2) rfl ?_
      refine gs_icmp_lt (pc := 6) (gd gk_90 4 rfl) (fun c6 => ?_) (fun c6 => ?_)
      · replace c6 : c < 2 := (zlt (k := c) (m := 2) (by omega) (by omega)).mp c6
        refine gs_aload_n (pc := 11) (gd gk_90 7 rfl) rfl ?_
        refine gs_getR (r := 46) (pc := 12) (gd gk_90 8 rfl) rfl rfl rfl (by decide) ?_
        refine gs_iload_n (pc := 15) (gd gk_90 9 rfl) rfl ?_
        refine gs_aload_n (pc := 16) (gd gk_90 10 rfl) rfl ?_
        refine gs_getR (r := 12) (pc := 17) (gd gk_90 11 rfl) rfl rfl rfl (by decide) ?_
        refine gs_callV (as := [.int (Int32.ofNat c), .ref (12)]) (pc := 20) (gd gk_90 12 rfl) (by decide) rfl (by decide) rfl rfl (Nat.le_of_ble_eq_true rfl) gq_90_29 (Nat.le_of_ble_eq_true rfl) (c_put c hc) (fun r_20 w_20 q_20 => ?_)
        obtain ⟨rfl, I_p, rfl, p1, p2, p3, p4⟩ := q_20
        refine gs_aload_n (pc := 23) (gd gk_90 13 rfl) rfl ?_
        refine gs_getR (r := 12) (pc := 24) (gd gk_90 14 rfl) rfl rfl rfl (by decide) ?_
        refine gs_getI (pc := 27) (gd gk_90 15 rfl) rfl rfl ?_
        -- end 2: ireturn (I_p 12 3), pc 30, locals [(0, .ref (3)), (1, .int (Int32.ofNat c))]
        exact gs_iret (pc := 30) (gd gk_90 16 rfl) rfl (rfl) (Nat.zero_le _) (Nat.zero_le _) (⟨I_p, _, rfl, rfl, by rw [if_pos hr, hz]; exact ⟨by rw [p4 12 (by omega) (by omega) (by omega)], p1, p2, p3, p4⟩⟩)
      · replace c6 : ¬ (c < 2) := fun q9 => c6 ((zlt (k := c) (m := 2) (by omega) (by omega)).mpr q9)
        refine gs_iconst (pc := 9) (gd gk_90 5 rfl) (-1) rfl ?_
        -- end 3: ireturn (-1), pc 10, locals [(0, .ref (3)), (1, .int (Int32.ofNat c))]
        exact absurd hc c6
  · skip
    refine gs_iload_n (pc := 0) (gd gk_90 0 rfl) rfl ?_
    refine gs_if_lt (pc := 1) (gd gk_90 1 rfl) (fun c1 => ?_) (fun c1 => ?_)
    · refine gs_iconst (pc := 9) (gd gk_90 5 rfl) (-1) rfl ?_
      -- end 1: ireturn (-1), pc 10, locals [(0, .ref (3)), (1, .int (x))]
      exact gs_iret (pc := 10) (gd gk_90 6 rfl) rfl (rfl) (Nat.zero_le _) (Nat.zero_le _) (⟨I, -1, rfl, rfl, by rw [if_neg hr]; exact ⟨rfl, rfl⟩⟩)
    · refine gs_iload_n (pc := 4) (gd gk_90 2 rfl) rfl ?_
      refine gs_iconst (pc := 5) (gd gk_90 3 rfl) (2) rfl ?_
      refine gs_icmp_lt (pc := 6) (gd gk_90 4 rfl) (fun c6 => ?_) (fun c6 => ?_)
      · -- end 2: stop, pc 11, locals [(0, .ref (3)), (1, .int (x))]
        exact absurd (decide_eq_true ⟨Int32.not_lt.mp c1, c6⟩) hr
      · refine gs_iconst (pc := 9) (gd gk_90 5 rfl) (-1) rfl ?_
        -- end 3: ireturn (-1), pc 10, locals [(0, .ref (3)), (1, .int (x))]
        exact gs_iret (pc := 10) (gd gk_90 6 rfl) rfl (rfl) (Nat.zero_le _) (Nat.zero_le _) (⟨I, -1, rfl, rfl, by rw [if_neg hr]; exact ⟨rfl, rfl⟩⟩)
theorem c_again (x : Int32) (kb : Nat → Bool) (hk : ∀ s, s < 2 → I 48 s = gz_b (kb s)) : gw_E V 91 (0, [(0, .ref 3), (1, .int x)], [], gS n I J, 0, 0) (fun v w' => ∃ I2 y, w' = gS n I2 J ∧ v = some (.int y) ∧ if gz_lt x 2 then (if kb x.toNatClampNeg then y = I (49 + 2 * x.toNatClampNeg) 3 ∧ gz_mm I2 12 I (49 + 2 * x.toNatClampNeg) ∧ I2 16 2 = 0 ∧ I2 16 1 = I 16 1 ∧ (∀ p, p ≠ 12 → p ≠ 13 → p ≠ 16 → I2 p = I p) else y = -3 ∧ I2 = I) else y = -1 ∧ I2 = I) := by
  by_cases hr : gz_lt x 2 = true
  · obtain ⟨c, hc, rfl⟩ := gz_lt_nat hr (by omega)
    have hz : (Int32.ofNat c).toNatClampNeg = c := znn (by omega)
    refine gs_iload_n (pc := 0) (gd gk_91 0 rfl) rfl ?_
    refine gs_if_lt (pc := 1) (gd gk_91 1 rfl) (fun c1 => ?_) (fun c1 => ?_)
    · replace c1 : c < 0 := (zlt (k := c) (m := 0) (by omega) (by omega)).mp c1
      refine gs_iconst (pc := 9) (gd gk_91 5 rfl) (-1) rfl ?_
      -- end 1: ireturn (-1), pc 10, locals [(0, .ref (3)), (1, .int (Int32.ofNat c))]
      exact absurd c1 (Nat.not_lt_zero _)
    · replace c1 : ¬ (c < 0) := fun q9 => c1 ((zlt (k := c) (m := 0) (by omega) (by omega)).mpr q9)
      refine gs_iload_n (pc := 4) (gd gk_91 2 rfl) rfl ?_
      refine gs_iconst (pc := 5) (gd gk_91 3 rfl) (2) rfl ?_
      refine gs_icmp_lt (pc := 6) (gd gk_91 4 rfl) (fun c6 => ?_) (fun c6 => ?_)
      · replace c6 : c < 2 := (zlt (k := c) (m := 2) (by omega) (by omega)).mp c6
        refine gs_aload_n (pc := 11) (gd gk_91 7 rfl) rfl ?_
        refine gs_getR (r := 46) (pc := 12) (gd gk_91 8 rfl) rfl rfl rfl (by decide) ?_
        refine gs_iload_n (pc := 15) (gd gk_91 9 rfl) rfl ?_
        refine gs_aload_n (pc := 16) (gd gk_91 10 rfl) rfl ?_
        refine gs_getR (r := 12) (pc := 17) (gd gk_91 11 rfl) rfl rfl rfl (by decide) ?_
        refine gs_callV (as := [.int (Int32.ofNat c), .ref (12)]) (pc := 20) (gd gk_91 12 rfl) (by decide) rfl (by decide) rfl rfl (Nat.le_of_ble_eq_true rfl) gq_91_30 (Nat.le_of_ble_eq_true rfl) (c_give c hc (kb c) (hk c hc)) (fun r_20 w_20 q_20 => ?_)
        obtain ⟨I_p, rfl, rfl, p1, p2⟩ := q_20
        refine gs_if_ne (pc := 23) (gd gk_91 13 rfl) (fun c23 => ?_) (fun c23 => ?_)
        · refine gs_aload_n (pc := 29) (gd gk_91 16 rfl) rfl ?_
          refine gs_getR (r := 16) (pc := 30) (gd gk_91 17 rfl) rfl rfl rfl (by decide) ?_
          refine gs_callV (as := []) (pc := 33) (gd gk_91 18 rfl) (by decide) rfl (by decide) rfl rfl (Nat.le_of_ble_eq_true rfl) gq_91_1 (Nat.le_of_ble_eq_true rfl) (c_forgetA) (fun r_33 w_33 q_33 => ?_)
          obtain ⟨rfl, I_f, rfl, f1⟩ := q_33
          refine gs_aload_n (pc := 36) (gd gk_91 19 rfl) rfl ?_
          refine gs_getR (r := 12) (pc := 37) (gd gk_91 20 rfl) rfl rfl rfl (by decide) ?_
          refine gs_getI (pc := 40) (gd gk_91 21 rfl) rfl rfl ?_
          -- end 2: ireturn (I_f 12 3), pc 43, locals [(0, .ref (3)), (1, .int (Int32.ofNat c))]
          have hb := gz_b_ne.mp c23
          obtain ⟨m1, m2⟩ := p2 hb
          have o : ∀ p, p ≠ 16 → I_f p = I_p p := fun p hp => by rw [f1, gw_u_o hp]
          exact gs_iret (pc := 43) (gd gk_91 22 rfl) rfl (rfl) (Nat.zero_le _) (Nat.zero_le _) (⟨I_f, _, rfl, rfl, by
            rw [if_pos hr, hz, if_pos hb]
            exact ⟨by rw [o 12 (by omega)]; exact m1.2.2.2, ⟨fun c hc => by rw [o _ (by omega)]; exact m1.1 c hc, by rw [o _ (by omega)]; exact m1.2.1, by rw [o _ (by omega)]; exact m1.2.2.1, by rw [o _ (by omega)]; exact m1.2.2.2⟩, by rw [f1, gw_u_s]; simp [upd], by rw [f1, gw_u_s]; simp only [upd]; rw [if_neg (by omega), m2 16 (by omega) (by omega)], fun p q1 q2 q3 => by rw [o p q3]; exact m2 p q1 q2⟩⟩)
        · refine gs_bipush (pc := 26) (gd gk_91 14 rfl) (-3) rfl ?_
          -- end 3: ireturn (-3), pc 28, locals [(0, .ref (3)), (1, .int (Int32.ofNat c))]
          have hb := gz_b_eq.mp c23
          exact gs_iret (pc := 28) (gd gk_91 15 rfl) rfl (rfl) (Nat.zero_le _) (Nat.zero_le _) (⟨I_p, -3, rfl, rfl, by rw [if_pos hr, hz, if_neg (by rw [hb]; decide)]; exact ⟨rfl, p1 hb⟩⟩)
      · replace c6 : ¬ (c < 2) := fun q9 => c6 ((zlt (k := c) (m := 2) (by omega) (by omega)).mpr q9)
        refine gs_iconst (pc := 9) (gd gk_91 5 rfl) (-1) rfl ?_
        -- end 4: ireturn (-1), pc 10, locals [(0, .ref (3)), (1, .int (Int32.ofNat c))]
        exact absurd hc c6
  · skip
    refine gs_iload_n (pc := 0) (gd gk_91 0 rfl) rfl ?_
    refine gs_if_lt (pc := 1) (gd gk_91 1 rfl) (fun c1 => ?_) (fun c1 => ?_)
    · refine gs_iconst (pc := 9) (gd gk_91 5 rfl) (-1) rfl ?_
      -- end 1: ireturn (-1), pc 10, locals [(0, .ref (3)), (1, .int (x))]
      exact gs_iret (pc := 10) (gd gk_91 6 rfl) rfl (rfl) (Nat.zero_le _) (Nat.zero_le _) (⟨I, -1, rfl, rfl, by rw [if_neg hr]; exact ⟨rfl, rfl⟩⟩)
    · refine gs_iload_n (pc := 4) (gd gk_91 2 rfl) rfl ?_
      refine gs_iconst (pc := 5) (gd gk_91 3 rfl) (2) rfl ?_
      refine gs_icmp_lt (pc := 6) (gd gk_91 4 rfl) (fun c6 => ?_) (fun c6 => ?_)
      · -- end 2: stop, pc 11, locals [(0, .ref (3)), (1, .int (x))]
        exact absurd (decide_eq_true ⟨Int32.not_lt.mp c1, c6⟩) hr
      · refine gs_iconst (pc := 9) (gd gk_91 5 rfl) (-1) rfl ?_
        -- end 3: ireturn (-1), pc 10, locals [(0, .ref (3)), (1, .int (x))]
        exact gs_iret (pc := 10) (gd gk_91 6 rfl) rfl (rfl) (Nat.zero_le _) (Nat.zero_le _) (⟨I, -1, rfl, rfl, by rw [if_neg hr]; exact ⟨rfl, rfl⟩⟩)
theorem m_keep (x : Int32) : gw_E V 160 (0, [(0, .ref 126), (1, .int x)], [], gS n I J, 0, 0) (fun v w' => ∃ I2 y, w' = gS n I2 J ∧ v = some (.int y) ∧ if gz_lt x 2 then y = I 133 12 ∧ (∀ c, c < 13 → I2 144 (13 * x.toNatClampNeg + c) = I 133 c) ∧ (∀ q, ¬ (13 * x.toNatClampNeg ≤ q ∧ q < 13 * x.toNatClampNeg + 13) → I2 144 q = I 144 q) ∧ I2 143 x.toNatClampNeg = 1 ∧ (∀ q, q ≠ x.toNatClampNeg → I2 143 q = I 143 q) ∧ (∀ p, p ≠ 143 → p ≠ 144 → I2 p = I p) else y = -1 ∧ I2 = I) := by
  by_cases hr : gz_lt x 2 = true
  · obtain ⟨s, hs, rfl⟩ := gz_lt_nat hr (by omega)
    have hz : (Int32.ofNat s).toNatClampNeg = s := znn (by omega)
    simp only [if_pos hr, hz]
    have lp : ∀ (m k : Nat), m + k = 13 → ∀ I1, (∀ c, c < k → I1 144 (13 * s + c) = I 133 c) → (∀ q, ¬ (13 * s ≤ q ∧ q < 13 * s + 13) → I1 144 q = I 144 q) → I1 143 s = 1 → (∀ q, q ≠ s → I1 143 q = I 143 q) → (∀ p, p ≠ 143 → p ≠ 144 → I1 p = I p) → gw_E V 160 (21, [(0, .ref 126), (1, .int (Int32.ofNat s)), (2, .int (Int32.ofNat k))], [], gS n I1 J, 0, 0) (fun v w' => ∃ I2 y, w' = gS n I2 J ∧ v = some (.int y) ∧ y = I 133 12 ∧ (∀ c, c < 13 → I2 144 (13 * s + c) = I 133 c) ∧ (∀ q, ¬ (13 * s ≤ q ∧ q < 13 * s + 13) → I2 144 q = I 144 q) ∧ I2 143 s = 1 ∧ (∀ q, q ≠ s → I2 143 q = I 143 q) ∧ (∀ p, p ≠ 143 → p ≠ 144 → I2 p = I p)) := by
      intro m
      induction m with
      | zero =>
        intro k hk I1 g1 g2 g3 g4 g5
        obtain rfl : k = 13 := by omega
        refine gs_iload_n (pc := 21) (gd gk_160 15 rfl) rfl ?_
        refine gs_bipush (pc := 22) (gd gk_160 16 rfl) (13) rfl ?_
        refine gs_icmp_ge (pc := 24) (gd gk_160 17 rfl) (fun c24 => ?_) (fun c24 => ?_)
        · replace c24 : 13 ≤ 13 := (zle (k := 13) (m := 13) (by omega) (by omega)).mp c24
          refine gs_aload_n (pc := 50) (gd gk_160 32 rfl) rfl ?_
          refine gs_getR (r := 133) (pc := 51) (gd gk_160 33 rfl) rfl rfl rfl (by decide) ?_
          refine gs_bipush (pc := 54) (gd gk_160 34 rfl) (12) rfl ?_
          refine gs_ialoadK (12) (52) (pc := 56) (gd gk_160 35 rfl) (Or.inl rfl) rfl (by decide) (by first | rfl | (simp only [Int32.ofNat_add, Int32.ofNat_mul]; rfl) | (simp only [Int32.ofNat_add, Int32.ofNat_mul])) (by omega) ?_
          -- end 1: ireturn (I1 133 12), pc 57, locals [(0, .ref (126)), (1, .int (Int32.ofNat s)), (2, .int (Int32.ofNat 13))]
          exact gs_iret (pc := 57) (gd gk_160 36 rfl) rfl (rfl) (Nat.zero_le _) (Nat.zero_le _) (⟨I1, _, rfl, rfl, by rw [g5 133 (by omega) (by omega)], g1, g2, g3, g4, g5⟩)
        · replace c24 : ¬ (13 ≤ 13) := fun q9 => c24 ((zle (k := 13) (m := 13) (by omega) (by omega)).mpr q9)
          -- end 2: stop, pc 27, locals [(0, .ref (126)), (1, .int (Int32.ofNat s)), (2, .int (Int32.ofNat 13))]
          exact absurd (by decide) c24
      | succ m ih =>
        intro k hk I1 g1 g2 g3 g4 g5
        refine gs_iload_n (pc := 21) (gd gk_160 15 rfl) rfl ?_
        refine gs_bipush (pc := 22) (gd gk_160 16 rfl) (13) rfl ?_
        refine gs_icmp_ge (pc := 24) (gd gk_160 17 rfl) (fun c24 => ?_) (fun c24 => ?_)
        · replace c24 : 13 ≤ k := (zle (k := 13) (m := k) (by omega) (by omega)).mp c24
          refine gs_aload_n (pc := 50) (gd gk_160 32 rfl) rfl ?_
          refine gs_getR (r := 133) (pc := 51) (gd gk_160 33 rfl) rfl rfl rfl (by decide) ?_
          refine gs_bipush (pc := 54) (gd gk_160 34 rfl) (12) rfl ?_
          refine gs_ialoadK (12) (52) (pc := 56) (gd gk_160 35 rfl) (Or.inl rfl) rfl (by decide) (by first | rfl | (simp only [Int32.ofNat_add, Int32.ofNat_mul]; rfl) | (simp only [Int32.ofNat_add, Int32.ofNat_mul])) (by omega) ?_
          -- end 1: ireturn (I1 133 12), pc 57, locals [(0, .ref (126)), (1, .int (Int32.ofNat s)), (2, .int (Int32.ofNat k))]
          exact absurd c24 (by omega)
        · replace c24 : ¬ (13 ≤ k) := fun q9 => c24 ((zle (k := 13) (m := k) (by omega) (by omega)).mpr q9)
          refine gs_aload_n (pc := 27) (gd gk_160 18 rfl) rfl ?_
          refine gs_getR (r := 144) (pc := 28) (gd gk_160 19 rfl) rfl rfl rfl (by decide) ?_
          refine gs_bipush (pc := 31) (gd gk_160 20 rfl) (13) rfl ?_
          refine gs_iload_n (pc := 33) (gd gk_160 21 rfl) rfl ?_
          refine gs_imul (pc := 34) (gd gk_160 22 rfl) ?_
          refine gs_iload_n (pc := 35) (gd gk_160 23 rfl) rfl ?_
          refine gs_iadd (pc := 36) (gd gk_160 24 rfl) ?_
          refine gs_aload_n (pc := 37) (gd gk_160 25 rfl) rfl ?_
          refine gs_getR (r := 133) (pc := 38) (gd gk_160 26 rfl) rfl rfl rfl (by decide) ?_
          refine gs_iload_n (pc := 41) (gd gk_160 27 rfl) rfl ?_
          refine gs_ialoadK (k) (52) (pc := 42) (gd gk_160 28 rfl) (Or.inl rfl) rfl (by decide) (by first | rfl | (simp only [Int32.ofNat_add, Int32.ofNat_mul]; rfl) | (simp only [Int32.ofNat_add, Int32.ofNat_mul])) (by omega) ?_
          refine gs_iastoreK (((13 * s) + k)) (26) gs_sl (pc := 43) (gd gk_160 29 rfl) rfl rfl (by decide) (by first | rfl | (simp only [Int32.ofNat_add, Int32.ofNat_mul]; rfl) | (simp only [Int32.ofNat_add, Int32.ofNat_mul])) (by omega) (fun I_1 hI_1 => ?_)
          refine gs_iinc (ls2 := fun v => [(0, .ref (126)), (1, .int (Int32.ofNat s)), (2, .int (v))]) (pc := 44) (gd gk_160 30 rfl) rfl (by rw [gL_160]; decide) (fun _ => rfl) (1) rfl (fun v2_1 hv2_1 => ?_)
          obtain rfl : v2_1 = Int32.ofNat (k + 1) := hv2_1.trans (by first | rfl | (simp only [Int32.ofNat_add, Int32.ofNat_mul]; rfl) | (simp only [Int32.ofNat_add, Int32.ofNat_mul]))
          refine gs_goto (pc := 47) (gd gk_160 31 rfl) ?_
          -- end 2: stop, pc 21, locals [(0, .ref (126)), (1, .int (Int32.ofNat s)), (2, .int (Int32.ofNat (k + 1)))]
          refine ih (k + 1) (by omega) I_1 (fun c hc => ?_) (fun q hq => ?_) ?_ (fun q q1 => ?_) (fun p q1 q2 => ?_)
          · rw [hI_1, gw_u_s]
            simp only [upd]
            by_cases e : c = k
            · subst e; rw [if_pos rfl, g5 133 (by omega) (by omega)]
            · rw [if_neg (by omega)]; exact g1 c (by omega)
          · rw [hI_1, gw_u_s]; simp only [upd]; rw [if_neg (by omega)]; exact g2 q hq
          · rw [hI_1, gw_u_o (by omega)]; exact g3
          · rw [hI_1, gw_u_o (by omega)]; exact g4 q q1
          · rw [hI_1, gw_u_o q2]; exact g5 p q1 q2
    refine gs_iload_n (pc := 0) (gd gk_160 0 rfl) rfl ?_
    refine gs_i2l (pc := 1) (gd gk_160 1 rfl) ?_
    refine gs_lconst (pc := 2) (gd gk_160 2 rfl) (0) rfl ?_
    refine gs_lconst (pc := 3) (gd gk_160 3 rfl) (1) rfl ?_
    refine gs_callS (as := [.long ((Int32.ofNat s : Int32).toInt64), .long (0), .long (1)]) (pc := 4) (gd gk_160 4 rfl) (by decide) rfl rfl (Nat.le_of_ble_eq_true rfl) gq_160_107 (Nat.le_of_ble_eq_true rfl) (c_mrg (Int32.ofNat s) (0) (1)) (fun r_4 w_4 q_4 => ?_)
    obtain ⟨rfl, rfl⟩ := q_4
    refine gs_if_ne (pc := 7) (gd gk_160 5 rfl) (fun c7 => ?_) (fun c7 => ?_)
    · refine gs_aload_n (pc := 12) (gd gk_160 8 rfl) rfl ?_
      refine gs_getR (r := 143) (pc := 13) (gd gk_160 9 rfl) rfl rfl rfl (by decide) ?_
      refine gs_iload_n (pc := 16) (gd gk_160 10 rfl) rfl ?_
      refine gs_iconst (pc := 17) (gd gk_160 11 rfl) (1) rfl ?_
      refine gs_bastoreK (s) (2) gs_sl (pc := 18) (gd gk_160 12 rfl) rfl rfl (by decide) (by first | rfl | (simp only [Int32.ofNat_add, Int32.ofNat_mul]; rfl) | (simp only [Int32.ofNat_add, Int32.ofNat_mul])) (by omega) (fun I_1 hI_1 => ?_)
      refine gs_iconst (pc := 19) (gd gk_160 13 rfl) (0) rfl ?_
      refine gs_istore_n (ls2 := fun v => [(0, .ref (126)), (1, .int (Int32.ofNat s)), (2, .int (v))]) (pc := 20) (gd gk_160 14 rfl) (by rw [gL_160]; decide) (fun _ => rfl) (fun v2_1 hv2_1 => ?_)
      obtain rfl : v2_1 = Int32.ofNat 0 := hv2_1.trans (by first | rfl | (simp only [Int32.ofNat_add, Int32.ofNat_mul]; rfl) | (simp only [Int32.ofNat_add, Int32.ofNat_mul]))
      -- end 1: stop, pc 21, locals [(0, .ref (126)), (1, .int (Int32.ofNat s)), (2, .int (Int32.ofNat 0))]
      exact lp 13 0 rfl I_1 (fun c hc => absurd hc (Nat.not_lt_zero _)) (fun q _ => by rw [hI_1, gw_u_o (by omega)]) (by rw [hI_1, gw_u_s]; simp [upd]; rfl) (fun q hq => by rw [hI_1, gw_u_s]; simp only [upd]; rw [if_neg hq]) (fun p q1 _ => by rw [hI_1, gw_u_o q1])
    · refine gs_iconst (pc := 10) (gd gk_160 6 rfl) (-1) rfl ?_
      -- end 2: ireturn (-1), pc 11, locals [(0, .ref (126)), (1, .int (Int32.ofNat s))]
      exact absurd (gz_b_eq.mp c7) (by rw [show gz_rg (Int32.ofNat s) 0 1 = gz_lt (Int32.ofNat s) 2 from gz_rg_lt _ 2 (by omega), hr]; decide)
  · skip
    refine gs_iload_n (pc := 0) (gd gk_160 0 rfl) rfl ?_
    refine gs_i2l (pc := 1) (gd gk_160 1 rfl) ?_
    refine gs_lconst (pc := 2) (gd gk_160 2 rfl) (0) rfl ?_
    refine gs_lconst (pc := 3) (gd gk_160 3 rfl) (1) rfl ?_
    refine gs_callS (as := [.long ((x : Int32).toInt64), .long (0), .long (1)]) (pc := 4) (gd gk_160 4 rfl) (by decide) rfl rfl (Nat.le_of_ble_eq_true rfl) gq_160_107 (Nat.le_of_ble_eq_true rfl) (c_mrg (x) (0) (1)) (fun r_4 w_4 q_4 => ?_)
    obtain ⟨rfl, rfl⟩ := q_4
    refine gs_if_ne (pc := 7) (gd gk_160 5 rfl) (fun c7 => ?_) (fun c7 => ?_)
    · -- end 1: stop, pc 12, locals [(0, .ref (126)), (1, .int (x))]
      exact absurd (gz_b_ne.mp c7) (by rw [show gz_rg x 0 1 = gz_lt x 2 from gz_rg_lt _ 2 (by omega)]; exact hr)
    · refine gs_iconst (pc := 10) (gd gk_160 6 rfl) (-1) rfl ?_
      -- end 2: ireturn (-1), pc 11, locals [(0, .ref (126)), (1, .int (x))]
      exact gs_iret (pc := 11) (gd gk_160 7 rfl) rfl (rfl) (Nat.zero_le _) (Nat.zero_le _) (⟨I, -1, rfl, rfl, by rw [if_neg hr]; exact ⟨rfl, rfl⟩⟩)
theorem m_again (x : Int32) (kb : Nat → Bool) (hk : ∀ s, s < 2 → I 143 s = gz_b (kb s)) : gw_E V 161 (0, [(0, .ref 126), (1, .int x)], [], gS n I J, 0, 0) (fun v w' => ∃ I2 y, w' = gS n I2 J ∧ v = some (.int y) ∧ if gz_lt x 2 then (if kb x.toNatClampNeg then y = I 144 (13 * x.toNatClampNeg + 12) ∧ (∀ c, c < 13 → I2 133 c = I 144 (13 * x.toNatClampNeg + c)) ∧ (∀ q, 13 ≤ q → I2 133 q = I 133 q) ∧ I2 126 19 = 0 ∧ (∀ q, q ≠ 19 → I2 126 q = I 126 q) ∧ (∀ p, p ≠ 126 → p ≠ 133 → I2 p = I p) else y = -3 ∧ I2 = I) else y = -1 ∧ I2 = I) := by
  by_cases hr : gz_lt x 2 = true
  · obtain ⟨s, hs, rfl⟩ := gz_lt_nat hr (by omega)
    have hz : (Int32.ofNat s).toNatClampNeg = s := znn (by omega)
    have e143 := hk s hs
    simp only [if_pos hr, hz]
    have lp : kb s = true → ∀ (m k : Nat), m + k = 13 → ∀ I1, (∀ c, c < k → I1 133 c = I 144 (13 * s + c)) → (∀ q, 13 ≤ q → I1 133 q = I 133 q) → (∀ p, p ≠ 133 → I1 p = I p) → gw_E V 161 (26, [(0, .ref 126), (1, .int (Int32.ofNat s)), (2, .int (Int32.ofNat k))], [], gS n I1 J, 0, 0) (fun v w' => ∃ I2 y, w' = gS n I2 J ∧ v = some (.int y) ∧ (if kb s then y = I 144 (13 * s + 12) ∧ (∀ c, c < 13 → I2 133 c = I 144 (13 * s + c)) ∧ (∀ q, 13 ≤ q → I2 133 q = I 133 q) ∧ I2 126 19 = 0 ∧ (∀ q, q ≠ 19 → I2 126 q = I 126 q) ∧ (∀ p, p ≠ 126 → p ≠ 133 → I2 p = I p) else y = -3 ∧ I2 = I)) := by
      intro hkb m
      induction m with
      | zero =>
        intro k hk I1 g1 g2 g3
        obtain rfl : k = 13 := by omega
        refine gs_iload_n (pc := 26) (gd gk_161 17 rfl) rfl ?_
        refine gs_bipush (pc := 27) (gd gk_161 18 rfl) (13) rfl ?_
        refine gs_icmp_ge (pc := 29) (gd gk_161 19 rfl) (fun c29 => ?_) (fun c29 => ?_)
        · replace c29 : 13 ≤ 13 := (zle (k := 13) (m := 13) (by omega) (by omega)).mp c29
          refine gs_aload_n (pc := 55) (gd gk_161 34 rfl) rfl ?_
          refine gs_iconst (pc := 56) (gd gk_161 35 rfl) (0) rfl ?_
          refine gs_putI (pc := 57) (gd gk_161 36 rfl) rfl rfl rfl rfl (fun I_1 hI_1 => ?_)
          refine gs_aload_n (pc := 60) (gd gk_161 37 rfl) rfl ?_
          refine gs_getR (r := 133) (pc := 61) (gd gk_161 38 rfl) rfl rfl rfl (by decide) ?_
          refine gs_bipush (pc := 64) (gd gk_161 39 rfl) (12) rfl ?_
          refine gs_ialoadK (12) (52) (pc := 66) (gd gk_161 40 rfl) (Or.inl rfl) rfl (by decide) (by first | rfl | (simp only [Int32.ofNat_add, Int32.ofNat_mul]; rfl) | (simp only [Int32.ofNat_add, Int32.ofNat_mul])) (by omega) ?_
          -- end 1: ireturn (I_1 133 12), pc 67, locals [(0, .ref (126)), (1, .int (Int32.ofNat s)), (2, .int (Int32.ofNat 13))]
          exact gs_iret (pc := 67) (gd gk_161 41 rfl) rfl (rfl) (Nat.zero_le _) (Nat.zero_le _) (⟨I_1, _, rfl, rfl, by
            rw [if_pos hkb]
            have o : ∀ p, p ≠ 126 → I_1 p = I1 p := fun p hp => by rw [hI_1, gw_u_o hp]
            exact ⟨by rw [o 133 (by omega)]; exact g1 12 (by omega), by rw [o 133 (by omega)]; exact g1, by rw [o 133 (by omega)]; exact g2, by rw [hI_1, gw_u_s]; simp [upd], fun q hq => by rw [hI_1, gw_u_s]; simp only [upd]; rw [if_neg hq, g3 126 (by omega)], fun p q1 q2 => by rw [o p q1]; exact g3 p q2⟩⟩)
        · replace c29 : ¬ (13 ≤ 13) := fun q9 => c29 ((zle (k := 13) (m := 13) (by omega) (by omega)).mpr q9)
          -- end 2: stop, pc 32, locals [(0, .ref (126)), (1, .int (Int32.ofNat s)), (2, .int (Int32.ofNat 13))]
          exact absurd (by decide) c29
      | succ m ih =>
        intro k hk I1 g1 g2 g3
        refine gs_iload_n (pc := 26) (gd gk_161 17 rfl) rfl ?_
        refine gs_bipush (pc := 27) (gd gk_161 18 rfl) (13) rfl ?_
        refine gs_icmp_ge (pc := 29) (gd gk_161 19 rfl) (fun c29 => ?_) (fun c29 => ?_)
        · replace c29 : 13 ≤ k := (zle (k := 13) (m := k) (by omega) (by omega)).mp c29
          refine gs_aload_n (pc := 55) (gd gk_161 34 rfl) rfl ?_
          refine gs_iconst (pc := 56) (gd gk_161 35 rfl) (0) rfl ?_
          refine gs_putI (pc := 57) (gd gk_161 36 rfl) rfl rfl rfl rfl (fun I_1 hI_1 => ?_)
          refine gs_aload_n (pc := 60) (gd gk_161 37 rfl) rfl ?_
          refine gs_getR (r := 133) (pc := 61) (gd gk_161 38 rfl) rfl rfl rfl (by decide) ?_
          refine gs_bipush (pc := 64) (gd gk_161 39 rfl) (12) rfl ?_
          refine gs_ialoadK (12) (52) (pc := 66) (gd gk_161 40 rfl) (Or.inl rfl) rfl (by decide) (by first | rfl | (simp only [Int32.ofNat_add, Int32.ofNat_mul]; rfl) | (simp only [Int32.ofNat_add, Int32.ofNat_mul])) (by omega) ?_
          -- end 1: ireturn (I_1 133 12), pc 67, locals [(0, .ref (126)), (1, .int (Int32.ofNat s)), (2, .int (Int32.ofNat k))]
          exact absurd c29 (by omega)
        · replace c29 : ¬ (13 ≤ k) := fun q9 => c29 ((zle (k := 13) (m := k) (by omega) (by omega)).mpr q9)
          refine gs_aload_n (pc := 32) (gd gk_161 20 rfl) rfl ?_
          refine gs_getR (r := 133) (pc := 33) (gd gk_161 21 rfl) rfl rfl rfl (by decide) ?_
          refine gs_iload_n (pc := 36) (gd gk_161 22 rfl) rfl ?_
          refine gs_aload_n (pc := 37) (gd gk_161 23 rfl) rfl ?_
          refine gs_getR (r := 144) (pc := 38) (gd gk_161 24 rfl) rfl rfl rfl (by decide) ?_
          refine gs_bipush (pc := 41) (gd gk_161 25 rfl) (13) rfl ?_
          refine gs_iload_n (pc := 43) (gd gk_161 26 rfl) rfl ?_
          refine gs_imul (pc := 44) (gd gk_161 27 rfl) ?_
          refine gs_iload_n (pc := 45) (gd gk_161 28 rfl) rfl ?_
          refine gs_iadd (pc := 46) (gd gk_161 29 rfl) ?_
          refine gs_ialoadK (((13 * s) + k)) (26) (pc := 47) (gd gk_161 30 rfl) (Or.inl rfl) rfl (by decide) (by first | rfl | (simp only [Int32.ofNat_add, Int32.ofNat_mul]; rfl) | (simp only [Int32.ofNat_add, Int32.ofNat_mul])) (by omega) ?_
          refine gs_iastoreK (k) (52) gs_sl (pc := 48) (gd gk_161 31 rfl) rfl rfl (by decide) (by first | rfl | (simp only [Int32.ofNat_add, Int32.ofNat_mul]; rfl) | (simp only [Int32.ofNat_add, Int32.ofNat_mul])) (by omega) (fun I_2 hI_2 => ?_)
          refine gs_iinc (ls2 := fun v => [(0, .ref (126)), (1, .int (Int32.ofNat s)), (2, .int (v))]) (pc := 49) (gd gk_161 32 rfl) rfl (by rw [gL_161]; decide) (fun _ => rfl) (1) rfl (fun v2_1 hv2_1 => ?_)
          obtain rfl : v2_1 = Int32.ofNat (k + 1) := hv2_1.trans (by first | rfl | (simp only [Int32.ofNat_add, Int32.ofNat_mul]; rfl) | (simp only [Int32.ofNat_add, Int32.ofNat_mul]))
          refine gs_goto (pc := 52) (gd gk_161 33 rfl) ?_
          -- end 2: stop, pc 26, locals [(0, .ref (126)), (1, .int (Int32.ofNat s)), (2, .int (Int32.ofNat (k + 1)))]
          refine ih (k + 1) (by omega) I_2 (fun c hc => ?_) (fun q hq => ?_) (fun p q1 => ?_)
          · rw [hI_2, gw_u_s]
            simp only [upd]
            by_cases e : c = k
            · subst e; rw [if_pos rfl, g3 144 (by omega)]
            · rw [if_neg e]; exact g1 c (by omega)
          · rw [hI_2, gw_u_s]; simp only [upd]; rw [if_neg (by omega)]; exact g2 q hq
          · rw [hI_2, gw_u_o q1]; exact g3 p q1
    refine gs_iload_n (pc := 0) (gd gk_161 0 rfl) rfl ?_
    refine gs_i2l (pc := 1) (gd gk_161 1 rfl) ?_
    refine gs_lconst (pc := 2) (gd gk_161 2 rfl) (0) rfl ?_
    refine gs_lconst (pc := 3) (gd gk_161 3 rfl) (1) rfl ?_
    refine gs_callS (as := [.long ((Int32.ofNat s : Int32).toInt64), .long (0), .long (1)]) (pc := 4) (gd gk_161 4 rfl) (by decide) rfl rfl (Nat.le_of_ble_eq_true rfl) gq_161_107 (Nat.le_of_ble_eq_true rfl) (c_mrg (Int32.ofNat s) (0) (1)) (fun r_4 w_4 q_4 => ?_)
    obtain ⟨rfl, rfl⟩ := q_4
    refine gs_if_ne (pc := 7) (gd gk_161 5 rfl) (fun c7 => ?_) (fun c7 => ?_)
    · refine gs_aload_n (pc := 12) (gd gk_161 8 rfl) rfl ?_
      refine gs_getR (r := 143) (pc := 13) (gd gk_161 9 rfl) rfl rfl rfl (by decide) ?_
      refine gs_iload_n (pc := 16) (gd gk_161 10 rfl) rfl ?_
      refine gs_baloadK (s) (2) (pc := 17) (gd gk_161 11 rfl) rfl rfl (by decide) (by first | rfl | (simp only [Int32.ofNat_add, Int32.ofNat_mul]; rfl) | (simp only [Int32.ofNat_add, Int32.ofNat_mul])) (by omega) ?_
      refine gs_as (gz_b (kb s)) (e143) ?_
      refine gs_if_ne (pc := 18) (gd gk_161 12 rfl) (fun c18 => ?_) (fun c18 => ?_)
      · refine gs_iconst (pc := 24) (gd gk_161 15 rfl) (0) rfl ?_
        refine gs_istore_n (ls2 := fun v => [(0, .ref (126)), (1, .int (Int32.ofNat s)), (2, .int (v))]) (pc := 25) (gd gk_161 16 rfl) (by rw [gL_161]; decide) (fun _ => rfl) (fun v2_1 hv2_1 => ?_)
        obtain rfl : v2_1 = Int32.ofNat 0 := hv2_1.trans (by first | rfl | (simp only [Int32.ofNat_add, Int32.ofNat_mul]; rfl) | (simp only [Int32.ofNat_add, Int32.ofNat_mul]))
        -- end 1: stop, pc 26, locals [(0, .ref (126)), (1, .int (Int32.ofNat s)), (2, .int (Int32.ofNat 0))]
        exact lp (gz_b_ne.mp c18) 13 0 rfl I (fun c hc => absurd hc (Nat.not_lt_zero _)) (fun q _ => rfl) (fun p _ => rfl)
      · refine gs_bipush (pc := 21) (gd gk_161 13 rfl) (-3) rfl ?_
        -- end 2: ireturn (-3), pc 23, locals [(0, .ref (126)), (1, .int (Int32.ofNat s))]
        exact gs_iret (pc := 23) (gd gk_161 14 rfl) rfl (rfl) (Nat.zero_le _) (Nat.zero_le _) (⟨I, -3, rfl, rfl, by rw [if_neg (by rw [gz_b_eq.mp c18]; decide)]; exact ⟨rfl, rfl⟩⟩)
    · refine gs_iconst (pc := 10) (gd gk_161 6 rfl) (-1) rfl ?_
      -- end 3: ireturn (-1), pc 11, locals [(0, .ref (126)), (1, .int (Int32.ofNat s))]
      exact absurd (gz_b_eq.mp c7) (by rw [show gz_rg (Int32.ofNat s) 0 1 = gz_lt (Int32.ofNat s) 2 from gz_rg_lt _ 2 (by omega), hr]; decide)
  · skip
    refine gs_iload_n (pc := 0) (gd gk_161 0 rfl) rfl ?_
    refine gs_i2l (pc := 1) (gd gk_161 1 rfl) ?_
    refine gs_lconst (pc := 2) (gd gk_161 2 rfl) (0) rfl ?_
    refine gs_lconst (pc := 3) (gd gk_161 3 rfl) (1) rfl ?_
    refine gs_callS (as := [.long ((x : Int32).toInt64), .long (0), .long (1)]) (pc := 4) (gd gk_161 4 rfl) (by decide) rfl rfl (Nat.le_of_ble_eq_true rfl) gq_161_107 (Nat.le_of_ble_eq_true rfl) (c_mrg (x) (0) (1)) (fun r_4 w_4 q_4 => ?_)
    obtain ⟨rfl, rfl⟩ := q_4
    refine gs_if_ne (pc := 7) (gd gk_161 5 rfl) (fun c7 => ?_) (fun c7 => ?_)
    · -- end 1: stop, pc 12, locals [(0, .ref (126)), (1, .int (x))]
      exact absurd (gz_b_ne.mp c7) (by rw [show gz_rg x 0 1 = gz_lt x 2 from gz_rg_lt _ 2 (by omega)]; exact hr)
    · refine gs_iconst (pc := 10) (gd gk_161 6 rfl) (-1) rfl ?_
      -- end 2: ireturn (-1), pc 11, locals [(0, .ref (126)), (1, .int (x))]
      exact gs_iret (pc := 11) (gd gk_161 7 rfl) rfl (rfl) (Nat.zero_le _) (Nat.zero_le _) (⟨I, -1, rfl, rfl, by rw [if_neg hr]; exact ⟨rfl, rfl⟩⟩)
end
end
section
/-! ===== count: both ===== -/
section
variable {V : gw_V} {n W N h0 L bc : Nat} {I : Nat → Nat → Int32} {J : Nat → Nat → Int64}
def gz_ct (l : List Int32) (u : Int32) : Int32 := if gz_rg u 0 10 then l.getD u.toNatClampNeg 0 else -2
theorem gz_out {u : Int32} (h : ¬ gz_rg u 0 10 = true) : u.toInt < 0 ∨ 10 < u.toInt := by
  have h2 : ¬ (0 ≤ u ∧ u ≤ 10) := fun q => h (gz_rg_t.mpr q)
  rw [Int32.le_iff_toInt_le, Int32.le_iff_toInt_le] at h2
  have z0 : (0 : Int32).toInt = 0 := rfl
  have z1 : (10 : Int32).toInt = 10 := rfl
  omega
theorem c_count (u : Int32) (hok : gq_ok (gz_S I) W N) : gw_E V 92 (0, [(0, .ref 3), (1, .int u)], [], gS n I J, 0, 0) (fun v w' => v = some (.int (gz_ct [I 4 1, I 6 3, I 6 4, I 6 0, I 6 1, I 6 2, I 12 3, I 12 1, gq_who (gz_S I) (I 13) N, I 16 2, I 53 3] u)) ∧ w' = gS n I J) := by
  refine gs_iload_n (pc := 0) (gd gk_92 0 rfl) rfl ?_
  by_cases hr : gz_rg u 0 10 = true
  · obtain ⟨c, hc, rfl⟩ := gz_nat (b := 10) hr (by omega)
    rcases (by omega : c = 0 ∨ c = 1 ∨ c = 2 ∨ c = 3 ∨ c = 4 ∨ c = 5 ∨ c = 6 ∨ c = 7 ∨ c = 8 ∨ c = 9 ∨ c = 10) with rfl | rfl | rfl | rfl | rfl | rfl | rfl | rfl | rfl | rfl | rfl
    · refine gs_tblIn (off := 59) (pc := 1) 60 (gd gk_92 1 rfl) (by decide) (by decide) rfl (by decide) ?_
      refine gs_aload_n (pc := 60) (gd gk_92 2 rfl) rfl ?_
      refine gs_getR (r := 4) (pc := 61) (gd gk_92 3 rfl) rfl rfl rfl (by decide) ?_
      refine gs_getI (pc := 64) (gd gk_92 4 rfl) rfl rfl ?_
      -- end 1: ireturn (I 4 1), pc 67, locals [(0, .ref (3)), (1, .int (Int32.ofNat 0))]
      exact gs_iret (pc := 67) (gd gk_92 5 rfl) rfl (rfl) (Nat.zero_le _) (Nat.zero_le _) (⟨rfl, rfl⟩)
    · refine gs_tblIn (off := 67) (pc := 1) 68 (gd gk_92 1 rfl) (by decide) (by decide) rfl (by decide) ?_
      refine gs_aload_n (pc := 68) (gd gk_92 6 rfl) rfl ?_
      refine gs_getR (r := 6) (pc := 69) (gd gk_92 7 rfl) rfl rfl rfl (by decide) ?_
      refine gs_getI (pc := 72) (gd gk_92 8 rfl) rfl rfl ?_
      -- end 1: ireturn (I 6 3), pc 75, locals [(0, .ref (3)), (1, .int (Int32.ofNat 1))]
      exact gs_iret (pc := 75) (gd gk_92 9 rfl) rfl (rfl) (Nat.zero_le _) (Nat.zero_le _) (⟨rfl, rfl⟩)
    · refine gs_tblIn (off := 75) (pc := 1) 76 (gd gk_92 1 rfl) (by decide) (by decide) rfl (by decide) ?_
      refine gs_aload_n (pc := 76) (gd gk_92 10 rfl) rfl ?_
      refine gs_getR (r := 6) (pc := 77) (gd gk_92 11 rfl) rfl rfl rfl (by decide) ?_
      refine gs_getI (pc := 80) (gd gk_92 12 rfl) rfl rfl ?_
      -- end 1: ireturn (I 6 4), pc 83, locals [(0, .ref (3)), (1, .int (Int32.ofNat 2))]
      exact gs_iret (pc := 83) (gd gk_92 13 rfl) rfl (rfl) (Nat.zero_le _) (Nat.zero_le _) (⟨rfl, rfl⟩)
    · refine gs_tblIn (off := 83) (pc := 1) 84 (gd gk_92 1 rfl) (by decide) (by decide) rfl (by decide) ?_
      refine gs_aload_n (pc := 84) (gd gk_92 14 rfl) rfl ?_
      refine gs_getR (r := 6) (pc := 85) (gd gk_92 15 rfl) rfl rfl rfl (by decide) ?_
      refine gs_getI (pc := 88) (gd gk_92 16 rfl) rfl rfl ?_
      -- end 1: ireturn (I 6 0), pc 91, locals [(0, .ref (3)), (1, .int (Int32.ofNat 3))]
      exact gs_iret (pc := 91) (gd gk_92 17 rfl) rfl (rfl) (Nat.zero_le _) (Nat.zero_le _) (⟨rfl, rfl⟩)
    · refine gs_tblIn (off := 91) (pc := 1) 92 (gd gk_92 1 rfl) (by decide) (by decide) rfl (by decide) ?_
      refine gs_aload_n (pc := 92) (gd gk_92 18 rfl) rfl ?_
      refine gs_getR (r := 6) (pc := 93) (gd gk_92 19 rfl) rfl rfl rfl (by decide) ?_
      refine gs_getI (pc := 96) (gd gk_92 20 rfl) rfl rfl ?_
      -- end 1: ireturn (I 6 1), pc 99, locals [(0, .ref (3)), (1, .int (Int32.ofNat 4))]
      exact gs_iret (pc := 99) (gd gk_92 21 rfl) rfl (rfl) (Nat.zero_le _) (Nat.zero_le _) (⟨rfl, rfl⟩)
    · refine gs_tblIn (off := 99) (pc := 1) 100 (gd gk_92 1 rfl) (by decide) (by decide) rfl (by decide) ?_
      refine gs_aload_n (pc := 100) (gd gk_92 22 rfl) rfl ?_
      refine gs_getR (r := 6) (pc := 101) (gd gk_92 23 rfl) rfl rfl rfl (by decide) ?_
      refine gs_getI (pc := 104) (gd gk_92 24 rfl) rfl rfl ?_
      -- end 1: ireturn (I 6 2), pc 107, locals [(0, .ref (3)), (1, .int (Int32.ofNat 5))]
      exact gs_iret (pc := 107) (gd gk_92 25 rfl) rfl (rfl) (Nat.zero_le _) (Nat.zero_le _) (⟨rfl, rfl⟩)
    · refine gs_tblIn (off := 107) (pc := 1) 108 (gd gk_92 1 rfl) (by decide) (by decide) rfl (by decide) ?_
      refine gs_aload_n (pc := 108) (gd gk_92 26 rfl) rfl ?_
      refine gs_getR (r := 12) (pc := 109) (gd gk_92 27 rfl) rfl rfl rfl (by decide) ?_
      refine gs_getI (pc := 112) (gd gk_92 28 rfl) rfl rfl ?_
      -- end 1: ireturn (I 12 3), pc 115, locals [(0, .ref (3)), (1, .int (Int32.ofNat 6))]
      exact gs_iret (pc := 115) (gd gk_92 29 rfl) rfl (rfl) (Nat.zero_le _) (Nat.zero_le _) (⟨rfl, rfl⟩)
    · refine gs_tblIn (off := 115) (pc := 1) 116 (gd gk_92 1 rfl) (by decide) (by decide) rfl (by decide) ?_
      refine gs_aload_n (pc := 116) (gd gk_92 30 rfl) rfl ?_
      refine gs_getR (r := 12) (pc := 117) (gd gk_92 31 rfl) rfl rfl rfl (by decide) ?_
      refine gs_getI (pc := 120) (gd gk_92 32 rfl) rfl rfl ?_
      -- end 1: ireturn (I 12 1), pc 123, locals [(0, .ref (3)), (1, .int (Int32.ofNat 7))]
      exact gs_iret (pc := 123) (gd gk_92 33 rfl) rfl (rfl) (Nat.zero_le _) (Nat.zero_le _) (⟨rfl, rfl⟩)
    · refine gs_tblIn (off := 123) (pc := 1) 124 (gd gk_92 1 rfl) (by decide) (by decide) rfl (by decide) ?_
      refine gs_aload_n (pc := 124) (gd gk_92 34 rfl) rfl ?_
      refine gs_getR (r := 6) (pc := 125) (gd gk_92 35 rfl) rfl rfl rfl (by decide) ?_
      refine gs_aload_n (pc := 128) (gd gk_92 36 rfl) rfl ?_
      refine gs_getR (r := 12) (pc := 129) (gd gk_92 37 rfl) rfl rfl rfl (by decide) ?_
      refine gs_getR (r := 13) (pc := 132) (gd gk_92 38 rfl) rfl rfl rfl (by decide) ?_
      refine gs_callV (as := [.ref (13)]) (pc := 135) (gd gk_92 39 rfl) (by decide) rfl (by decide) rfl rfl (Nat.le_of_ble_eq_true rfl) gq_92_35 (Nat.le_of_ble_eq_true rfl) (c_who 13 rfl rfl hok) (fun r_135 w_135 q_135 => ?_)
      obtain ⟨rfl, rfl⟩ := q_135
      -- end 1: ireturn (gq_who (gz_S I) (I 13) N), pc 138, locals [(0, .ref (3)), (1, .int (Int32.ofNat 8))]
      exact gs_iret (pc := 138) (gd gk_92 40 rfl) rfl (rfl) (Nat.zero_le _) (Nat.zero_le _) (⟨rfl, rfl⟩)
    · refine gs_tblIn (off := 138) (pc := 1) 139 (gd gk_92 1 rfl) (by decide) (by decide) rfl (by decide) ?_
      refine gs_aload_n (pc := 139) (gd gk_92 41 rfl) rfl ?_
      refine gs_getR (r := 16) (pc := 140) (gd gk_92 42 rfl) rfl rfl rfl (by decide) ?_
      refine gs_getI (pc := 143) (gd gk_92 43 rfl) rfl rfl ?_
      -- end 1: ireturn (I 16 2), pc 146, locals [(0, .ref (3)), (1, .int (Int32.ofNat 9))]
      exact gs_iret (pc := 146) (gd gk_92 44 rfl) rfl (rfl) (Nat.zero_le _) (Nat.zero_le _) (⟨rfl, rfl⟩)
    · refine gs_tblIn (off := 146) (pc := 1) 147 (gd gk_92 1 rfl) (by decide) (by decide) rfl (by decide) ?_
      refine gs_aload_n (pc := 147) (gd gk_92 45 rfl) rfl ?_
      refine gs_getR (r := 53) (pc := 148) (gd gk_92 46 rfl) rfl rfl rfl (by decide) ?_
      refine gs_getI (pc := 151) (gd gk_92 47 rfl) rfl rfl ?_
      -- end 1: ireturn (I 53 3), pc 154, locals [(0, .ref (3)), (1, .int (Int32.ofNat 10))]
      exact gs_iret (pc := 154) (gd gk_92 48 rfl) rfl (rfl) (Nat.zero_le _) (Nat.zero_le _) (⟨rfl, rfl⟩)
  · refine gs_tblOut (pc := 1) 155 (gd gk_92 1 rfl) (gz_out hr) (by decide) ?_
    refine gs_bipush (pc := 155) (gd gk_92 49 rfl) (-2) rfl ?_
    -- end 1: ireturn (-2), pc 157, locals [(0, .ref (3)), (1, .int (u))]
    exact gs_iret (pc := 157) (gd gk_92 50 rfl) rfl (rfl) (Nat.zero_le _) (Nat.zero_le _) (⟨by unfold gz_ct; rw [if_neg hr], rfl⟩)
theorem m_count (u : Int32) (hok : gq_ok (gz_M I) W N) : gw_E V 162 (0, [(0, .ref 126), (1, .int u)], [], gS n I J, 0, 0) (fun v w' => v = some (.int (gz_ct [I 126 15, I 126 3, I 126 4, I 126 0, I 126 1, I 126 2, I 133 12, I 133 10, gq_who (gz_M I) (gz_L I 0) N, I 126 19, I 126 25] u)) ∧ w' = gS n I J) := by
  refine gs_iload_n (pc := 0) (gd gk_162 0 rfl) rfl ?_
  by_cases hr : gz_rg u 0 10 = true
  · obtain ⟨c, hc, rfl⟩ := gz_nat (b := 10) hr (by omega)
    rcases (by omega : c = 0 ∨ c = 1 ∨ c = 2 ∨ c = 3 ∨ c = 4 ∨ c = 5 ∨ c = 6 ∨ c = 7 ∨ c = 8 ∨ c = 9 ∨ c = 10) with rfl | rfl | rfl | rfl | rfl | rfl | rfl | rfl | rfl | rfl | rfl
    · refine gs_tblIn (off := 59) (pc := 1) 60 (gd gk_162 1 rfl) (by decide) (by decide) rfl (by decide) ?_
      refine gs_aload_n (pc := 60) (gd gk_162 2 rfl) rfl ?_
      refine gs_getI (pc := 61) (gd gk_162 3 rfl) rfl rfl ?_
      -- end 1: ireturn (I 126 15), pc 64, locals [(0, .ref (126)), (1, .int (Int32.ofNat 0))]
      exact gs_iret (pc := 64) (gd gk_162 4 rfl) rfl (rfl) (Nat.zero_le _) (Nat.zero_le _) (⟨rfl, rfl⟩)
    · refine gs_tblIn (off := 64) (pc := 1) 65 (gd gk_162 1 rfl) (by decide) (by decide) rfl (by decide) ?_
      refine gs_aload_n (pc := 65) (gd gk_162 5 rfl) rfl ?_
      refine gs_getI (pc := 66) (gd gk_162 6 rfl) rfl rfl ?_
      -- end 1: ireturn (I 126 3), pc 69, locals [(0, .ref (126)), (1, .int (Int32.ofNat 1))]
      exact gs_iret (pc := 69) (gd gk_162 7 rfl) rfl (rfl) (Nat.zero_le _) (Nat.zero_le _) (⟨rfl, rfl⟩)
    · refine gs_tblIn (off := 69) (pc := 1) 70 (gd gk_162 1 rfl) (by decide) (by decide) rfl (by decide) ?_
      refine gs_aload_n (pc := 70) (gd gk_162 8 rfl) rfl ?_
      refine gs_getI (pc := 71) (gd gk_162 9 rfl) rfl rfl ?_
      -- end 1: ireturn (I 126 4), pc 74, locals [(0, .ref (126)), (1, .int (Int32.ofNat 2))]
      exact gs_iret (pc := 74) (gd gk_162 10 rfl) rfl (rfl) (Nat.zero_le _) (Nat.zero_le _) (⟨rfl, rfl⟩)
    · refine gs_tblIn (off := 74) (pc := 1) 75 (gd gk_162 1 rfl) (by decide) (by decide) rfl (by decide) ?_
      refine gs_aload_n (pc := 75) (gd gk_162 11 rfl) rfl ?_
      refine gs_getI (pc := 76) (gd gk_162 12 rfl) rfl rfl ?_
      -- end 1: ireturn (I 126 0), pc 79, locals [(0, .ref (126)), (1, .int (Int32.ofNat 3))]
      exact gs_iret (pc := 79) (gd gk_162 13 rfl) rfl (rfl) (Nat.zero_le _) (Nat.zero_le _) (⟨rfl, rfl⟩)
    · refine gs_tblIn (off := 79) (pc := 1) 80 (gd gk_162 1 rfl) (by decide) (by decide) rfl (by decide) ?_
      refine gs_aload_n (pc := 80) (gd gk_162 14 rfl) rfl ?_
      refine gs_getI (pc := 81) (gd gk_162 15 rfl) rfl rfl ?_
      -- end 1: ireturn (I 126 1), pc 84, locals [(0, .ref (126)), (1, .int (Int32.ofNat 4))]
      exact gs_iret (pc := 84) (gd gk_162 16 rfl) rfl (rfl) (Nat.zero_le _) (Nat.zero_le _) (⟨rfl, rfl⟩)
    · refine gs_tblIn (off := 84) (pc := 1) 85 (gd gk_162 1 rfl) (by decide) (by decide) rfl (by decide) ?_
      refine gs_aload_n (pc := 85) (gd gk_162 17 rfl) rfl ?_
      refine gs_getI (pc := 86) (gd gk_162 18 rfl) rfl rfl ?_
      -- end 1: ireturn (I 126 2), pc 89, locals [(0, .ref (126)), (1, .int (Int32.ofNat 5))]
      exact gs_iret (pc := 89) (gd gk_162 19 rfl) rfl (rfl) (Nat.zero_le _) (Nat.zero_le _) (⟨rfl, rfl⟩)
    · refine gs_tblIn (off := 89) (pc := 1) 90 (gd gk_162 1 rfl) (by decide) (by decide) rfl (by decide) ?_
      refine gs_aload_n (pc := 90) (gd gk_162 20 rfl) rfl ?_
      refine gs_getR (r := 133) (pc := 91) (gd gk_162 21 rfl) rfl rfl rfl (by decide) ?_
      refine gs_bipush (pc := 94) (gd gk_162 22 rfl) (12) rfl ?_
      refine gs_ialoadK (12) (52) (pc := 96) (gd gk_162 23 rfl) (Or.inl rfl) rfl (by decide) (by first | rfl | (simp only [Int32.ofNat_add, Int32.ofNat_mul]; rfl) | (simp only [Int32.ofNat_add, Int32.ofNat_mul])) (by omega) ?_
      -- end 1: ireturn (I 133 12), pc 97, locals [(0, .ref (126)), (1, .int (Int32.ofNat 6))]
      exact gs_iret (pc := 97) (gd gk_162 24 rfl) rfl (rfl) (Nat.zero_le _) (Nat.zero_le _) (⟨rfl, rfl⟩)
    · refine gs_tblIn (off := 97) (pc := 1) 98 (gd gk_162 1 rfl) (by decide) (by decide) rfl (by decide) ?_
      refine gs_aload_n (pc := 98) (gd gk_162 25 rfl) rfl ?_
      refine gs_getR (r := 133) (pc := 99) (gd gk_162 26 rfl) rfl rfl rfl (by decide) ?_
      refine gs_bipush (pc := 102) (gd gk_162 27 rfl) (10) rfl ?_
      refine gs_ialoadK (10) (52) (pc := 104) (gd gk_162 28 rfl) (Or.inl rfl) rfl (by decide) (by first | rfl | (simp only [Int32.ofNat_add, Int32.ofNat_mul]; rfl) | (simp only [Int32.ofNat_add, Int32.ofNat_mul])) (by omega) ?_
      -- end 1: ireturn (I 133 10), pc 105, locals [(0, .ref (126)), (1, .int (Int32.ofNat 7))]
      exact gs_iret (pc := 105) (gd gk_162 29 rfl) rfl (rfl) (Nat.zero_le _) (Nat.zero_le _) (⟨rfl, rfl⟩)
    · refine gs_tblIn (off := 105) (pc := 1) 106 (gd gk_162 1 rfl) (by decide) (by decide) rfl (by decide) ?_
      refine gs_aload_n (pc := 106) (gd gk_162 30 rfl) rfl ?_
      refine gs_iconst (pc := 107) (gd gk_162 31 rfl) (0) rfl ?_
      refine gs_callV (as := [.int (0)]) (pc := 108) (gd gk_162 32 rfl) (by decide) rfl (by decide) rfl rfl (Nat.le_of_ble_eq_true rfl) gq_162_122 (Nat.le_of_ble_eq_true rfl) (m_who 0 (by omega) hok) (fun r_108 w_108 q_108 => ?_)
      obtain ⟨rfl, rfl⟩ := q_108
      -- end 1: ireturn (gq_who (gz_M I) (gz_L I 0) N), pc 111, locals [(0, .ref (126)), (1, .int (Int32.ofNat 8))]
      exact gs_iret (pc := 111) (gd gk_162 33 rfl) rfl (rfl) (Nat.zero_le _) (Nat.zero_le _) (⟨rfl, rfl⟩)
    · refine gs_tblIn (off := 111) (pc := 1) 112 (gd gk_162 1 rfl) (by decide) (by decide) rfl (by decide) ?_
      refine gs_aload_n (pc := 112) (gd gk_162 34 rfl) rfl ?_
      refine gs_getI (pc := 113) (gd gk_162 35 rfl) rfl rfl ?_
      -- end 1: ireturn (I 126 19), pc 116, locals [(0, .ref (126)), (1, .int (Int32.ofNat 9))]
      exact gs_iret (pc := 116) (gd gk_162 36 rfl) rfl (rfl) (Nat.zero_le _) (Nat.zero_le _) (⟨rfl, rfl⟩)
    · refine gs_tblIn (off := 116) (pc := 1) 117 (gd gk_162 1 rfl) (by decide) (by decide) rfl (by decide) ?_
      refine gs_aload_n (pc := 117) (gd gk_162 37 rfl) rfl ?_
      refine gs_getI (pc := 118) (gd gk_162 38 rfl) rfl rfl ?_
      -- end 1: ireturn (I 126 25), pc 121, locals [(0, .ref (126)), (1, .int (Int32.ofNat 10))]
      exact gs_iret (pc := 121) (gd gk_162 39 rfl) rfl (rfl) (Nat.zero_le _) (Nat.zero_le _) (⟨rfl, rfl⟩)
  · refine gs_tblOut (pc := 1) 122 (gd gk_162 1 rfl) (gz_out hr) (by decide) ?_
    refine gs_bipush (pc := 122) (gd gk_162 40 rfl) (-2) rfl ?_
    -- end 1: ireturn (-2), pc 124, locals [(0, .ref (126)), (1, .int (u))]
    exact gs_iret (pc := 124) (gd gk_162 41 rfl) rfl (rfl) (Nat.zero_le _) (Nat.zero_le _) (⟨by unfold gz_ct; rw [if_neg hr], rfl⟩)
end
end
