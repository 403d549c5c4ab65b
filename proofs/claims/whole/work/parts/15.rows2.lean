/-! ===== new int[n][k] ===== -/
/-- a loop over the numbers below N, each turn from a state of P i to one of P (i + 1), the top frame as it was -/
theorem gw_loop {P : Nat → State → Prop} {N : Nat} {f : Nat → PUnit → Sem (ForInStep PUnit)} {e : Env} {fr : JFrame}
    (hf : ∀ (i : Nat) (U : State), i < N → P i U → ∃ U' : State, P (i + 1) U' ∧ ∀ (E : CtlPost) (Q : ForInStep PUnit → Pre) (d : Bool) (acts : List Action), (∀ d' acts', Q (.yield PUnit.unit) d' acts' (U'.setTop fr)) → wp (f i PUnit.unit) Q E e d acts (U.setTop fr)) :
    ∀ (k i : Nat) (U : State), i + k = N → P i U → ∃ U' : State, P N U' ∧ ∀ (E : CtlPost) (Q : PUnit → Pre) (d : Bool) (acts : List Action), (∀ d' acts', Q PUnit.unit d' acts' (U'.setTop fr)) → wp (forIn (List.range' i k) PUnit.unit f) Q E e d acts (U.setTop fr)
  | 0, i, U, hk, hU => by
    refine ⟨U, by rw [← hk]; exact hU, fun E Q d acts hQ => ?_⟩
    rw [List.range'_zero, List.forIn_nil, wp_pure']
    exact hQ _ _
  | k + 1, i, U, hk, hU => by
    obtain ⟨U1, h1, g1⟩ := hf i U (by omega) hU
    obtain ⟨U2, h2, g2⟩ := gw_loop hf k (i + 1) U1 (by omega) h1
    refine ⟨U2, h2, fun E Q d acts hQ => ?_⟩
    rw [List.range'_succ, List.forIn_cons, wp_bind']
    exact g1 E _ d acts fun d' acts' => g2 E Q d' acts' hQ
/-- behind the outer array at T's end lie i rows of K ints, its first i slots name them -/
def gw_mS (T : State) (cA cI : ClassId) (N K i : Nat) (U : State) : Prop :=
  U.vm = T.vm ∧ U.heap.size = T.heap.size + 1 + i ∧ (∀ q : Nat, q < T.heap.size → U.heap[q]? = T.heap[q]?) ∧ (∀ j : Nat, j < i → U.heap[T.heap.size + 1 + j]? = some (arrV cI K (fun _ => .int 0))) ∧ U.heap[T.heap.size]? = some (arrV cA N (fun j => if j < i then .ref (T.heap.size + 1 + j) else .null))
section GM
variable {p : Program} {l : Launch} {e : Env} {R : Room} {s : State} {m : MethodId} {args : Array Value} {below : List Frame} {meth : Method} {cd : Code} {T : State} {locs : List Loc} {cu su : Nat} {cA cI cc : ClassId} {kA kI : Class} {n k : Int32} {N K : Nat} {fr : JFrame}
/-- a row made and named -/
theorem gw_mrow (X0 : Stand p l e R s m args below meth cd T locs cu su) (hkA : T.vm.classes[cA]? = some kA) (hA : kA.kind = .array cI (.array .int)) (hkI : T.vm.classes[cI]? = some kI) (hI : kI.kind = .array cc .int) (hk : ¬ k < 0) (hK : k.toNatClampNeg = K) (hb : K * 4 ≤ 536870912) (hcu : cu + (1 + N) ≤ R.cells) (hsu : su + (N + N * K) ≤ R.slots)
    (i : Nat) (U : State) (hi : i < N) (hU : Stand p l e R s m args below meth cd U locs (cu + 1 + i) (su + N + i * K) ∧ gw_mS T cA cI N K i U) :
    ∃ U' : State, (Stand p l e R s m args below meth cd U' locs (cu + 1 + (i + 1)) (su + N + (i + 1) * K) ∧ gw_mS T cA cI N K (i + 1) U') ∧ ∀ (E : CtlPost) (Q : ForInStep PUnit → Pre) (d : Bool) (acts : List Action), (∀ d' acts', Q (.yield PUnit.unit) d' acts' (U'.setTop fr)) →
      wp (do let x ← multianewarray.make cI [k]; writeLoc T.heap.size i (.ref x); Pure.pure (ForInStep.yield PUnit.unit)) Q E e d acts (U.setTop fr) := by
  obtain ⟨XU, hv, hz, ho, hr, ha⟩ := hU
  have hmul : (i + 1) * K ≤ N * K := Nat.mul_le_mul_right K hi
  have hsum : (i + 1) * K = i * K + K := Nat.succ_mul i K
  obtain ⟨r1, r2⟩ := XU.roomAbove (a := 1) (b := K) (by omega) (by omega)
  have X1 := XU.pushed (arrV cI K (fun _ => .int 0))
  rw [arrV_size] at X1
  have hlt : T.heap.size < U.heap.size := by omega
  have ha1 : (U.pushCell (arrV cI K (fun _ => .int 0))).heap[T.heap.size]? = some (arrV cA N (fun j => if j < i then .ref (T.heap.size + 1 + j) else .null)) := by
    rw [State.heap_pushCell_of_lt (h := hlt)]
    exact ha
  have X2 := (X1.stored ha1 i (.ref U.heap.size)).dropFresh (fun x hx => by
    rw [List.mem_singleton] at hx
    subst hx
    exact X0.heapGrown)
  refine ⟨(U.pushCell (arrV cI K (fun _ => .int 0))).setCell T.heap.size ((arrV cA N (fun j => if j < i then .ref (T.heap.size + 1 + j) else .null)).setSlot i (.ref U.heap.size)), ⟨?_, hv, ?_, fun q hq => ?_, fun j hj => ?_, ?_⟩, fun E Q d acts hQ => ?_⟩
  · rw [hsum, show cu + 1 + (i + 1) = cu + 1 + i + 1 by omega, show su + N + (i * K + K) = su + N + i * K + K by omega]
    exact X2
  · rw [size_setCell]
    show (U.heap.push _).size = _
    rw [Array.size_push, hz]
    omega
  · rw [State.heap_setCell_other (show T.heap.size ≠ q by omega), State.heap_pushCell_of_lt (h := Nat.lt_trans hq hlt)]
    exact ho q hq
  · rw [State.heap_setCell_other (show T.heap.size ≠ T.heap.size + 1 + j by omega)]
    by_cases e : j = i
    · subst e
      rw [← hz]
      exact State.heap_pushCell_size _ _
    · rw [State.heap_pushCell_of_lt (h := show T.heap.size + 1 + j < U.heap.size by omega)]
      exact hr j (by omega)
  · rw [State.heap_setCell_self ha1, arrV_store, hz]
    refine congrArg (fun f => some (arrV cA N f)) (funext fun j => ?_)
    unfold updV
    by_cases e : j = i
    · rw [if_pos e, if_pos (by omega), e]
    · rw [if_neg e]
      show (if j < i then Value.ref (T.heap.size + 1 + j) else Value.null) = _
      by_cases h : j < i
      · rw [if_pos h, if_pos (by omega)]
      · rw [if_neg h, if_neg (by omega)]
  · have hkI' : (U.setTop fr).vm.classes[cI]? = some kI := by
      show U.vm.classes[cI]? = _
      rw [hv]
      exact hkI
    have hkA' : U.vm.classes[cA]? = some kA := by
      rw [hv]
      exact hkA
    rw [wp_bind', multianewarray.make]
    simp only [wp_bind', W.ite, hk, if_false, wp_pure', W.theClass, hkI', hI, Option.some.injEq, exists_eq_left']
    refine W.newArray_of hkI' hI (by rw [Launch.admits_arrayLengthLimit X0.admits]; omega) (by rw [Launch.admits_maxHeapBytes X0.admits, hK]; show ¬ K * 4 > 536870912; omega) (by show U.heap.size < _; omega) (by show U.slotsUsed + _ ≤ _; omega) rfl fun acts' => ?_
    rw [hK, show defaultValue .int = .int 0 from rfl, arrV_new]
    simp only [wp_bind', W.writeLoc, wp_pure']
    refine ⟨_, ha1, by simp [arrV], by rw [arrV_size]; exact hi, ?_, hQ _ _⟩
    show U.fitsSlot cA .none i (.ref U.heap.size) = true
    simp [State.fitsSlot, State.slotType?, hkA', hA]
    rfl
/-- the array and all its rows -/
theorem gw_mmake (X0 : Stand p l e R s m args below meth cd T locs cu su) (hkA : T.vm.classes[cA]? = some kA) (hA : kA.kind = .array cI (.array .int)) (hkI : T.vm.classes[cI]? = some kI) (hI : kI.kind = .array cc .int) (hn : ¬ n < 0) (hN : n.toNatClampNeg = N) (hk : ¬ k < 0) (hK : k.toNatClampNeg = K) (hb1 : N * 4 ≤ 536870912) (hb : K * 4 ≤ 536870912) (hcu : cu + (1 + N) ≤ R.cells) (hsu : su + (N + N * K) ≤ R.slots) :
    ∃ U : State, (Stand p l e R s m args below meth cd U locs (cu + 1 + N) (su + N + N * K) ∧ gw_mS T cA cI N K N U) ∧ ∀ (E : CtlPost) (Q : Addr → Pre) (d : Bool) (acts : List Action), (∀ d' acts', Q T.heap.size d' acts' (U.setTop fr)) → wp (multianewarray.make cA [n, k]) Q E e d acts (T.setTop fr) := by
  obtain ⟨r1, r2⟩ := X0.roomAbove (a := 1) (b := N) (by omega) (by omega)
  have X1 := X0.pushed (arrV cA N (fun _ => .null))
  rw [arrV_size] at X1
  obtain ⟨U, hU, g⟩ := gw_loop (e := e) (fr := fr) (f := fun i _ => do let x ← multianewarray.make cI [k]; writeLoc T.heap.size i (.ref x); Pure.pure (ForInStep.yield PUnit.unit)) (P := fun i U => Stand p l e R s m args below meth cd U locs (cu + 1 + i) (su + N + i * K) ∧ gw_mS T cA cI N K i U) (gw_mrow X0 hkA hA hkI hI hk hK hb hcu hsu) N 0 (T.pushCell (arrV cA N (fun _ => .null))) (Nat.zero_add N)
    ⟨by rw [Nat.zero_mul]; exact X1, rfl, Array.size_push _, fun q hq => State.heap_pushCell_of_lt _ _ hq, fun j hj => absurd hj (Nat.not_lt_zero j), by
      rw [State.heap_pushCell_size]
      refine congrArg (fun f => some (arrV cA N f)) (funext fun j => ?_)
      rw [if_neg (Nat.not_lt_zero j)]⟩
  refine ⟨U, hU, fun E Q d acts hQ => ?_⟩
  have hkA' : (T.setTop fr).vm.classes[cA]? = some kA := hkA
  have hf : ([k].find? (· < 0)) = none := by simp [hk]
  rw [multianewarray.make]
  simp only [wp_bind', W.ite, hn, if_false, wp_pure', W.theClass, hkA', hA, Option.some.injEq, exists_eq_left']
  refine W.newArray_of hkA' hA (by rw [Launch.admits_arrayLengthLimit X0.admits]; omega) (by rw [Launch.admits_maxHeapBytes X0.admits, hN]; show ¬ N * 4 > 536870912; omega) (by show T.heap.size < _; omega) (by show T.slotsUsed + _ ≤ _; omega) rfl fun acts' => ?_
  rw [hN, arrV_new]
  simp only [hf, ite_self, wp_bind', Std.Legacy.Range.forIn_eq_forIn_range']
  rw [show ([:N] : Std.Legacy.Range).size = N by simp [Std.Legacy.Range.size]]
  refine g E _ d acts' fun d' acts'' => ?_
  rw [wp_pure']
  exact hQ _ _
end GM
def gw_mR (F : Nat → Nat → Nat) (n N : Nat) : Nat → Nat → Nat := fun p q => if p = n then (if q < N then n + 1 + q else 0) else gw_z F n (N + 1) 0 p q
theorem gw_T_mr {sh : List (Nat × Nat)} {N K : Nat} {I : Nat → Nat → Int32} {J : Nat → Nat → Int64} {F : Nat → Nat → Nat} {j : Nat} (hj : j < N) : gw_T (sh ++ (15, N) :: List.replicate N (12, K), I, J, F) (sh.length + 1 + j) = 12 ∧ gw_N (sh ++ (15, N) :: List.replicate N (12, K), I, J, F) (sh.length + 1 + j) = K := by
  have e : (sh ++ (15, N) :: List.replicate N (12, K)).getD (sh.length + 1 + j) (99, 0) = (12, K) := by
    rw [List.getD_eq_getElem?_getD, List.getElem?_append_right (by omega), show sh.length + 1 + j - sh.length = j + 1 by omega, List.getElem?_cons_succ, List.getElem?_replicate, if_pos hj]
    rfl
  exact ⟨congrArg Prod.fst e, congrArg Prod.snd e⟩
theorem gw_T_mo {sh : List (Nat × Nat)} {N K : Nat} {I : Nat → Nat → Int32} {J : Nat → Nat → Int64} {F : Nat → Nat → Nat} : gw_T (sh ++ (15, N) :: List.replicate N (12, K), I, J, F) sh.length = 15 ∧ gw_N (sh ++ (15, N) :: List.replicate N (12, K), I, J, F) sh.length = N := by
  have e : (sh ++ (15, N) :: List.replicate N (12, K)).getD sh.length (99, 0) = (15, N) := by
    rw [List.getD_eq_getElem?_getD, List.getElem?_append_right (Nat.le_refl _), Nat.sub_self]
    rfl
  exact ⟨congrArg Prod.fst e, congrArg Prod.snd e⟩
theorem gs_mnew {V : gw_V} {i pc b x N K : Nat} {ls : List (Nat × Value)} {st : List Value} {sh : List (Nat × Nat)} {I : Nat → Nat → Int32} {J : Nat → Nat → Int64} {F : Nat → Nat → Nat} {cu su : Nat} {Q : Option Value → gw_W → Prop} {n k : Int32} (hd : gw_D i pc (.multianewarray x 2) 4 15 b) (hsh : sh.length < 145) (hn : ¬ n < 0) (hk : ¬ k < 0) (hN : n.toNatClampNeg = N) (hKK : k.toNatClampNeg = K) (hb1 : N * 4 ≤ 536870912) (hb2 : K * 4 ≤ 536870912) (hcu : cu + 1 + N ≤ gm_c i) (hsu : su + N + N * K ≤ gm_s i)
    (kk : gw_E V i (pc + 4, ls, .ref sh.length :: st, (sh ++ (15, N) :: List.replicate N (12, K), gw_z I sh.length (N + 1) 0, gw_z J sh.length (N + 1) 0, gw_mR F sh.length N), cu + 1 + N, su + N + N * K) Q) : gw_E V i (pc, ls, .int k :: .int n :: st, (sh, I, J, F), cu, su) Q := by
  intro p l e R s m args below meth cd QQ H locs L X hH hl hret
  obtain ⟨hx, hb, hml, hown, hts, hlk, hnm, hr, hfr, hlo, hce, hsl, hK⟩ := id X
  subst hN
  subst hKK
  have hsz : H.size = V.2.2.1 + (sh.length - 3) := hH.2.1 hsh
  have h3 : 3 ≤ sh.length := hH.2.2.1
  have had : ∀ j, gw_ad V (sh.length + j) = H.size + j := by
    intro j
    unfold gw_ad
    rw [if_neg (by omega), hsz]
    omega
  have had0 : gw_ad V sh.length = H.size := had 0
  have hcl := hd.2
  unfold gc_lk at hcl
  rw [if_neg (by omega)] at hcl
  have hlink : (Cond.classLink (gb_n (gm_o i)) x ("[" ++ (FieldType.array .int).toString)).before args s = true := hts _ (gl_C_in hcl)
  intro T hT Xs
  have hdc : decode cd.code pc = .ok (.multianewarray x 2, 4) := by
    rw [hb]
    exact hd.1
  obtain ⟨comp, cA, kA, fC, -, hkA, hA, fA⟩ := arrayOverA_spec hK.2.2.2.2.2.2.2
  have harr : (Cond.arrayClass .int).before args s = true := hts _ (gl_own_in (by decide +kernel))
  obtain ⟨c1, kI, cc, fI, hkI, hI⟩ := Cond.arrayClass_spec harr
  cases Option.some.inj (fI.symm.trans fC)
  obtain ⟨c2, fL, hL⟩ := Cond.classLink_spec hown hlink e.platform (by rw [Xs.admits.platform])
  cases Option.some.inj (fL.symm.trans fA)
  obtain ⟨hgv, hwm, -⟩ := State.classEntry (e := e) Xs.warmed hL
  generalize T.vm.noted m.cls x (.cls cA) = vm₁ at hgv hwm
  obtain ⟨kA1, hkA1, eA⟩ := hwm.alike.2.2 _ _ hkA
  obtain ⟨kI1, hkI1, eI⟩ := hwm.alike.2.2 _ _ hkI
  have X1 := Xs.noted hwm
  obtain ⟨FF, ⟨X', -, f1, hold, hrow, f2⟩, hgo⟩ := gw_mmake (fr := F0 m pc L (st.map (gw_mv V))) X1 hkA1 (by rw [eA]; exact hA) hkI1 (by rw [eI]; exact hI) hn rfl hk rfl hb1 hb2 (by show cu + (1 + _) ≤ _; omega) (by show su + (_ + _) ≤ _; omega)
  have step : ∀ t, Steps p.tables e below (FF.setTop (F0 m (pc + 4) L (.ref T.heap.size :: st.map (gw_mv V)))) t → Steps p.tables e below (T.setTop (F0 m pc L (.int k :: .int n :: st.map (gw_mv V)))) t := by
    intro t ht
    jvm_step Xs.here [hx, hdc]
    simp only [multianewarray.sem, wp_bind']
    refine (W.resolveClassAt_links (mm := m) (t := T.setTop (F0 m pc L (.int k :: .int n :: st.map (gw_mv V)))) (State.method?_setTop _ Xs.here.top) hgv).mpr ?_
    rw [wp_bind']
    refine (Jvm.Op.popN_top (s := T.setVm vm₁) (f := F0 m pc L (.int k :: .int n :: st.map (gw_mv V))) (args := [.int n, .int k]) (rest := st.map (gw_mv V)) X1.here.top rfl).mpr ?_
    simp only [List.mapM_cons, List.mapM_nil, wp_bind', wp_pure']
    refine hgo _ _ _ _ fun d' acts' => ?_
    simp only [wp_bind', W.mark, W.pushRef, State.topJava?_setTop' _ X'.here.top, Option.some.injEq, exists_eq_left', State.setTop_setTop]
    intro acts
    simp [jvm, X'.here.top]
    exact ht
  have hTh : (T.setVm vm₁).heap = H := hT
  rw [hTh] at f1 hold hrow f2
  replace hrow : ∀ j : Nat, j < n.toNatClampNeg → FF.heap[H.size + 1 + j]? = some (vp_cell comp (k.toNatClampNeg, .inl (fun _ => 0))) := fun j hj => by
    rw [hrow j hj, vp_cell_i]
  have hcA : V.2.1 3 = cA := Option.some.inj ((hK.1.2 3 _ rfl).2.symm.trans fA)
  have hcI : V.2.1 0 = comp := Option.some.inj ((hK.1.2 0 _ rfl).2.symm.trans fC)
  have hH1 : gw_H V (sh ++ (15, n.toNatClampNeg) :: List.replicate n.toNatClampNeg (12, k.toNatClampNeg), gw_z I sh.length (n.toNatClampNeg + 1) 0, gw_z J sh.length (n.toNatClampNeg + 1) 0, gw_mR F sh.length n.toNatClampNeg) s FF.heap locs := by
    refine gw_H_push (w := (sh, I, J, F)) hH hsh hK.2.1 rfl (fun q hq => ⟨gw_z_lt hq, gw_z_lt hq, ?_⟩) ?_ hold (fun q hq1 hq2 => ?_)
    · funext z
      show gw_mR F sh.length n.toNatClampNeg q z = F q z
      have hq : q < sh.length := hq
      unfold gw_mR
      rw [if_neg (by omega), gw_z_lt hq]
    · rw [f1]
      simp
      omega
    · have hq1 : sh.length ≤ q := hq1
      have hq2 : q < sh.length + ((15, n.toNatClampNeg) :: List.replicate n.toNatClampNeg (12, k.toNatClampNeg)).length := hq2
      rw [List.length_cons, List.length_replicate] at hq2
      by_cases e : q = sh.length
      · subst e
        rw [gw_cell_A gw_T_mo.1, had0]
        show FF.heap[H.size]? = some (vp_cell (V.2.1 3) (gw_N _ sh.length, .inr (.inr (.inr (.inr (fun j => gw_ro V (gw_mR F sh.length n.toNatClampNeg sh.length j)))))))
        rw [gw_T_mo.2, hcA, vp_cell_q, f2]
        refine congrArg (fun f => some (arrV cA n.toNatClampNeg f)) (funext fun j => ?_)
        unfold gw_mR
        rw [if_pos rfl]
        by_cases hj : j < n.toNatClampNeg
        · rw [if_pos hj, if_pos hj]
          unfold gw_ro
          rw [if_neg (by omega), show sh.length + 1 + j = sh.length + (1 + j) by omega, had (1 + j), show H.size + 1 + j = H.size + (1 + j) by omega]
          rfl
        · rw [if_neg hj, if_neg hj]
          rfl
      · obtain ⟨j, rfl⟩ : ∃ j, q = sh.length + 1 + j := ⟨q - (sh.length + 1), by omega⟩
        have hj : j < n.toNatClampNeg := by omega
        rw [gw_cell_I (gw_T_mr hj).1, show sh.length + 1 + j = sh.length + (1 + j) by omega, had (1 + j)]
        show FF.heap[H.size + (1 + j)]? = some (vp_cell (V.2.1 0) (gw_N _ (sh.length + (1 + j)), .inl (gw_z I sh.length (n.toNatClampNeg + 1) 0 (sh.length + (1 + j)))))
        rw [show sh.length + (1 + j) = sh.length + 1 + j by omega, (gw_T_mr hj).2, gw_z_in (by omega) (by omega), hcI, show H.size + (1 + j) = H.size + 1 + j by omega]
        exact hrow j hj
  obtain ⟨t, a1, b1⟩ := kk p l e R s m args below meth cd QQ FF.heap locs L X hH1 hl hret FF rfl X'
  refine ⟨t, step t ?_, b1⟩
  have e9 : T.heap.size = gw_ad V sh.length := by rw [hT, had0]
  rw [e9]
  exact a1
