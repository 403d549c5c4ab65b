/-! ===== a judgement is a contract; calls ===== -/
theorem gw_AOA_moved {u U : State} (hvm : u.vm.Alike U.vm) (h : (Cond.arrayOver (.array .int)).before #[] u = true) : (Cond.arrayOver (.array .int)).before #[] U = true := by
  obtain ⟨comp, c, k, h1, h2, h3, h4, h5⟩ := arrayOverA_spec h
  obtain ⟨k', hk', he⟩ := hvm.2.2 _ _ h3
  have hb : U.vm.bare = u.vm.bare := by first | exact hvm.bare_eq | exact hvm.bare_eq.symm
  have e1 := va_idx_bare U.vm comp
  rw [hb] at e1
  have hi := e1.symm.trans ((va_idx_bare u.vm comp).trans h2)
  have hkind : k'.kind = .array comp (.array .int) := by rw [he]; exact h4
  have f1 : U.vm.findClass (FieldType.array .int).toString = some comp := by rw [hvm.findClass]; exact h1
  have f2 : U.vm.findClass ("[" ++ (FieldType.array .int).toString) = some c := by rw [hvm.findClass]; exact h5
  unfold Cond.before Cond.holds
  simp only [Cond.value]
  rw [f1, Option.bind_some]
  refine (congrArg (fun o : Option Nat => (o.bind (fun c => (U.vm.classes[c]?).map fun (k : Class) => match k.kind with | .array _ ty => decide (ty = FieldType.array .int) && decide (U.vm.findClass ("[" ++ (FieldType.array .int).toString) = some c) | _ => false) == some true)) hi).trans ?_
  simp [hk', hkind, f2]
theorem gw_NW_warm {s U : State} (hW : s.WarmedH U.vm) (h : gw_NW s) : gw_NW U :=
  ⟨fun r hr => va_Nw.warmM hW (h.1 r hr), va_Nw.warmF hW h.2.1, va_AO.moved hW.alike h.2.2.1, gw_AOA_moved hW.alike h.2.2.2⟩
theorem gw_NW_same {u U : State} (hv : u.vm = U.vm) (h : gw_NW u) : gw_NW U :=
  ⟨fun r hr => va_Nw.same rfl hv (h.1 r hr), va_Nw.same rfl hv h.2.1, va_AO.moved (by rw [hv]; exact Vm.Alike.refl _) h.2.2.1, gw_AOA_moved (by rw [hv]; exact Vm.Alike.refl _) h.2.2.2⟩
/-- what holds of a state between two calls -/
def gw_B (V : gw_V) (w : gw_W) (U : State) : Prop := gw_K V U ∧ gw_H V w U U.heap []
theorem gw_B_of {V : gw_V} {w : gw_W} {s U : State} {H : Heap} {locs : List Loc} (hal : s.vm.Alike U.vm) (hN : gw_NW U) (hU : U.heap = H) (hK : gw_K V s) (hH : gw_H V w s H locs) : gw_B V w U := by
  obtain ⟨k1, k2, k3, k4, k5⟩ := hK
  obtain ⟨h1, h2, h3, h4, h5⟩ := hH
  subst hU
  have ho : ∀ a : Nat, a < s.heap.size → ¬ gw_A V a → U.heap[a]? = s.heap[a]? := h4.2.1
  exact ⟨⟨va_K.moved hal k1, Nat.le_trans k2 h4.1, (va_Z.moved hal k3).kept ho, (va_Z.moved hal k4).kept ho, hN⟩, h1, h2, h3, va_S.rf, fun k hk => ⟨(h5 k hk).1, (va_T.moved hal (h5 k hk).2).kept ho⟩⟩
def gw_mws (i : Nat) : List Cond := Cond.code (gm_y i) (gm_b i) (gm_L i) (gm_r i) :: gb_t
def gw_rm (i : Nat) : Room := { frames := gm_f i, cells := gm_c i, slots := gm_s i, locals := gm_x i }
def gw_Qc (V : gw_V) (Q : Option Value → gw_W → Prop) : Array Value → State → Outcome → State → Prop := fun _ st oc t => (∃ (v : Option Value) (w' : gw_W), oc = .returned (v.map (gw_mv V)) ∧ Q v w' ∧ gw_B V w' t) ∧ va_F (gw_A V) st t
theorem gw_mk_spec {i : Nat} (h : i < 164) : plainName (gm_y i).cls = true ∧ (parseMethodDescriptor (gm_y i).desc).map (fun d => d.parameters.length) = some (gm_p i) ∧ (gm_y i).cls ≠ "java/lang/invoke/MethodHandle" ∧ (gm_y i).cls ≠ "java/lang/invoke/VarHandle" ∧ (gm_y i).cls = gb_n (gm_o i) ∧ (gm_k i = 2 ↔ (gm_y i).name = "<init>") := by
  have := gb_mkA i h
  unfold gb_mk at this
  simp only [Bool.and_eq_true, decide_eq_true_eq, beq_iff_eq] at this
  obtain ⟨⟨h1, h2⟩, h3, h4, h5, h6⟩ := this
  exact ⟨h1, h2, h3, h4, h5, decide_eq_decide.mp h6⟩
theorem gw_argm (V : gw_V) : ∀ (n : Nat) (as : List Value), lv_args n (as.map (gw_mv V)) = gw_lm V (lv_args n as)
  | _, [] => rfl
  | n, v :: vs => by
    show (n, gw_mv V v) :: lv_args (if (gw_mv V v).category = 2 then n + 2 else n + 1) (vs.map (gw_mv V)) = (n, gw_mv V v) :: gw_lm V (lv_args (if v.category = 2 then n + 2 else n + 1) vs)
    rw [gw_cat, gw_argm V]
theorem gw_argl (V : gw_V) : ∀ (as : List Value), (lg_sl (as.map (gw_mv V))).length = (lg_sl as).length
  | [] => rfl
  | v :: vs => by
    have := gw_argl V vs
    unfold lg_sl at this ⊢
    simp only [List.map_cons, List.flatMap_cons, List.length_append, gw_cat, this]
    by_cases h : v.category = 2 <;> simp [h]
set_option maxHeartbeats 1000000 in
theorem gw_met {V : gw_V} {i : Nat} {as : List Value} {w : gw_W} {Q : Option Value → gw_W → Prop} (l : Launch) (hi : i < 164) (hl : (lg_sl as).length ≤ gm_L i) (hE : gw_E V i (0, lv_args 0 as, [], w, 0, 0) Q) :
    Met l (gm_y i) (gw_mws i) (gw_rm i) (va_Pc (as.map (gw_mv V)) (gw_B V w)) (gw_Qc V Q) (gm_c i) (gm_s i) (gw_A V) := by
  obtain ⟨m1, m2, m3, m4, m5, m6⟩ := gw_mk_spec hi
  refine Met.ofW (cc := gm_b i) (maxL := gm_L i) (ret := gm_r i) m1 rfl ?_
  intro p e s m args below meth c s₁ B hml hv
  obtain ⟨rfl, hK, hH⟩ := hv
  have hts := atoms_spec (ws := gw_mws i) B.pre
  have hown : s.vm.findClass (gb_n (gm_o i)) = some m.cls := by rw [← m5]; exact findClass_of_methodNamed B.named
  have X : gw_X V i p (gw_rm i) s m ((as.map (gw_mv V)).toArray) meth c := ⟨B.exec, B.bytes, hml, hown, fun w hw => hts w (List.mem_cons_of_mem _ hw), B.notSynchronized, fun h => (name_of_methodNamed B.named B.method).1.trans (m6.mp h), B.returns, Nat.le_refl _, Nat.le_refl _, Nat.le_refl _, Nat.le_refl _, hK⟩
  have hl0 := lv_entry (as.map (gw_mv V)) (n := gm_L i) (by rw [gw_argl]; exact hl)
  rw [lg_entry_eq]
  rw [gw_argm] at hl0
  refine hE p l e (gw_rm i) s m _ below meth c _ s.heap [] _ X hH hl0 ?_
  intro v w' H' locs' pc' L' cu su hq hH' hend hcu hsu
  refine W.widen hcu hsu ?_
  have hfin : ∀ t : State, t.heap = H' → s.WarmedH t.vm → gw_Qc V Q ((as.map (gw_mv V)).toArray) s (.returned (v.map (gw_mv V))) t := fun t ht hW =>
    ⟨⟨v, w', rfl, hq, gw_B_of hW.alike (gw_NW_warm hW hK.2.2.2.2) ht hK hH'⟩, hH'.2.2.2.1.F ht⟩
  have hr := B.returns
  have hlocks := B.notSynchronized
  match v, hend, hfin with
  | none, hend, hfin => exact W.vret B.exec B.bytes (hr.trans hend.2) hfin hH'.2.2.2.1.2.2 hend.1
  | some (.int x), hend, hfin =>
    obtain ⟨h1, ty, h2, h3⟩ := hend
    exact W.zret B.exec B.bytes (hr.trans h2) h3 hfin hH'.2.2.2.1.2.2 h1
  | some (.long x), hend, hfin => exact W.lret B.exec B.bytes (hr.trans hend.2) hfin hH'.2.2.2.1.2.2 hend.1
theorem gw_good (i : Nat) (hi : i < 164) : GoodIn gb_t (gw_mws i) := by
  intro w hw
  have key : w ∈ gb_t := by
    rcases List.mem_cons.mp hw with h | h
    · rw [h]; exact gb_word hi _ List.mem_cons_self
    · exact h
  exact ⟨key, good_of_word (List.mem_filter.mp key).2⟩
theorem gw_blind (V : gw_V) (w : gw_W) (as : List Value) : FrameBlind (va_Pc as (gw_B V w)) := by
  intro a U g mk h
  refine ⟨h.1, ?_⟩
  exact gw_B_of (s := U) (Vm.Alike.refl U.vm) (gw_NW_same rfl h.2.1.2.2.2.2) rfl h.2.1 h.2.2
/-- a call that has run: what the caller goes on from -/
theorem gw_after {V : gw_V} {w : gw_W} {p : Program} {l : Launch} {e : Env} {R : Room} {s : State} {m : MethodId} {args : Array Value} {below : List Frame} {meth : Method} {cd : Code} {H : Heap} {locs : List Loc} {cu su mc ms pc : Nat} {L : Array Slot} {st0 rest : List Value} {QQ : State → Prop} {Q1 : Option Value → gw_W → Prop} {a : Array Value}
    (hr : va_Run p l e R s m args below meth cd H locs cu su mc ms (F0 m pc L st0) rest (gw_Qc V Q1 a) (gw_A V)) (hK : gw_K V s) (hH : gw_H V w s H locs)
    (kk : ∀ (v : Option Value) (w' : gw_W) (H1 : Heap) (locs1 : List Loc), Q1 v w' → gw_H V w' s H1 locs1 → W p l e R s m args below meth cd H1 locs1 (cu + mc) (su + ms) QQ (F0 m (pc + 3) L ((v.map (gw_mv V)).toList ++ rest))) : W p l e R s m args below meth cd H locs cu su QQ (F0 m pc L st0) := by
  intro T hT X
  obtain ⟨v0, st₀, t, T', LL, h0, X', hL, e1, e2, ⟨⟨v, w', hv, hq, hB⟩, hz, hk⟩, st⟩ := hr T hT X
  cases hv
  rw [h0] at hz hk
  have hal : s.vm.Alike t.vm := by rw [← e2]; exact X'.warmed.alike
  have hals : t.vm.Alike s.vm := hal.symm
  obtain ⟨-, g1, g2, g3, g4, g5⟩ := hB
  have hS1 : va_S (gw_A V) s.heap T'.heap (locs ++ LL) := ⟨Nat.le_trans hH.2.2.2.1.1 (by rw [e1]; exact hz), fun q h1 h2 => by rw [e1, hk q (Nat.lt_of_lt_of_le h1 hH.2.2.2.1.1) h2]; exact hH.2.2.2.1.2.1 q h1 h2, fun q hq => by
      rcases List.mem_append.mp hq with h | h
      · exact hH.2.2.2.1.2.2 q h
      · exact hL q h⟩
  have hH1 : gw_H V w' s T'.heap (locs ++ LL) := by
    refine ⟨by rw [e1]; exact g1, fun h => by rw [e1]; exact g2 h, g3, hS1, fun k hk' => ⟨(g5 k hk').1, ?_⟩⟩
    obtain ⟨cell0, z1, -, -, -, -, -, z7⟩ := (hH.2.2.2.2 k hk').2
    have hlt : V.2.2.2 k < s.heap.size := (Array.getElem?_eq_some_iff.mp z1).1
    obtain ⟨cell, y1, y2, y3, y4, y5, y6, y7⟩ := va_T.moved hals (g5 k hk').2
    rw [← e1, hS1.2.1 _ hlt z7] at y1
    exact ⟨cell, y1, y2, y3, y4, y5, y6, y7⟩
  obtain ⟨t2, a1, b1⟩ := kk v w' T'.heap (locs ++ LL) hq hH1 T' rfl X'
  exact ⟨t2, st t2 a1, b1⟩
section GCa
variable {V : gw_V} {i pc a b j : Nat} {ls : List (Nat × Value)} {st as : List Value} {w : gw_W} {cu su : Nat} {Q Q1 : Option Value → gw_W → Prop}
/-- the callee fits the caller's room -/
def gw_fit (i j cu su : Nat) : Prop := gm_f j + 1 ≤ gm_f i ∧ 8 + (gm_L j + 11) + gm_x j ≤ gm_x i ∧ cu + gm_c j ≤ gm_c i ∧ su + gm_s j ≤ gm_s i
theorem gw_ylt {j : Nat} (h : j < 164) : gl_y j = gm_y j := by
  unfold gl_y
  split <;> first | omega | rfl
theorem gw_vm {v : Option Value} {st : List Value} : (v.map (gw_mv V)).toList ++ st.map (gw_mv V) = (v.toList ++ st).map (gw_mv V) := by
  cases v <;> rfl
theorem gs_callS {x : Nat} (hd : gw_D i pc (.invokestatic x) 3 j b) (hj : j < 164) (hk : gm_k j = 0) (hn : as.length = gm_p j) (hl : (lg_sl as).length ≤ gm_L j) (hf : gw_fit i j cu su) (hs : (st.map fun v => v.category).sum ≤ 8) (hC : gw_E V j (0, lv_args 0 as, [], w, 0, 0) Q1)
    (kk : ∀ v w', Q1 v w' → gw_E V i (pc + 3, ls, v.toList ++ st, w', cu + gm_c j, su + gm_s j) Q) : gw_E V i (pc, ls, as.reverse ++ st, w, cu, su) Q := by
  intro p l e R s m args below meth cd QQ H locs L X hH hl0 hret
  obtain ⟨m1, m2, m3, m4, m5, m6⟩ := gw_mk_spec hj
  obtain ⟨hx, hb, hml, hown, hts, hlk, hnm, hr, hfr, hlo, hce, hsl, hK⟩ := id X
  have hM := gw_met l hj hl hC
  have hword := gb_word hj
  have hini := hts _ (hword (.initialized (gm_y j).cls) (by simp [gb_mw]))
  have hsta := hts _ (hword (.static (gm_y j)) (by simp [gb_mw, hk]))
  have hpre : PreS s H (va_Pc (as.map (gw_mv V)) (gw_B V w)) (as.map (gw_mv V)) := ⟨gw_blind V w _, fun U hU hW => ⟨rfl, gw_B_of hW.alike (gw_NW_warm hW hK.2.2.2.2) hU hK hH⟩⟩
  have hstk : (as.reverse ++ st).map (gw_mv V) = (as.map (gw_mv V)).reverse ++ st.map (gw_mv V) := by rw [List.map_append, List.map_reverse]
  have hcl := hd.2
  unfold gc_lk at hcl
  have hrun : va_Run p l e R s m args below meth cd H locs cu su (gm_c j) (gm_s j) (F0 m pc L ((as.reverse ++ st).map (gw_mv V))) (st.map (gw_mv V)) (gw_Qc V Q1 (as.map (gw_mv V)).toArray) (gw_A V) := by
    rcases Bool.or_eq_true_iff.mp hcl with q | q
    · have hlink := hts _ (gl_M_in q)
      rw [gw_ylt hj] at hlink
      exact va_runS (nL := gm_L i) (own := gb_n (gm_o i)) ⟨hx, hb, hml, hown, hts⟩ hM ⟨callB_of (gm_p j) hts (gw_good j hj) rfl rfl rfl hini hlink ⟨m3, m4, m2⟩ ⟨by show gm_f j + 1 ≤ _; have := hf.1; omega, by show 8 + (gm_L j + 11) + gm_x j ≤ _; have := hf.2.1; omega⟩, hsta⟩ hpre rfl (by simp [hn]) hl0.1 hstk (lv_room (by rw [gw_sum]; exact hs)) hd.1 ⟨by have := hf.2.2.1; omega, by have := hf.2.2.2; omega⟩
    · obtain ⟨r, hr1, r1, r2, r3⟩ := gl_N_in q
      have hlink := hK.2.2.2.2.1 r hr1
      rw [r1, r2, r3, gw_ylt hj] at hlink
      exact va_runSN (nL := gm_L i) (own := gb_n (gm_o i)) ⟨hx, hb, hml, hown, hts⟩ hM ⟨va_cnB (gm_p j) hts (gw_good j hj) rfl rfl rfl hlink hini ⟨m3, m4, m2⟩ ⟨by show gm_f j + 1 ≤ _; have := hf.1; omega, by show 8 + (gm_L j + 11) + gm_x j ≤ _; have := hf.2.1; omega⟩, hsta, trivial⟩ hpre rfl (by simp [hn]) hl0.1 hstk (lv_room (by rw [gw_sum]; exact hs)) hd.1 ⟨by have := hf.2.2.1; omega, by have := hf.2.2.2; omega⟩
  refine gw_after hrun hK hH (fun v w' H1 locs1 hq hH1 => ?_)
  rw [gw_vm]
  exact kk v w' hq p l e R s m args below meth cd QQ H1 locs1 L X hH1 hl0 hret
theorem gs_callV {x : Nat} (hd : gw_D i pc (.invokevirtual x) 3 j b) (hj : j < 164) (hk : gm_k j = 1) (ho : gm_o j < 12) (ht : gw_T w a = gm_o j) (hn : as.length = gm_p j) (hl : (lg_sl (.ref a :: as)).length ≤ gm_L j) (hf : gw_fit i j cu su) (hs : (st.map fun v => v.category).sum ≤ 8) (hC : gw_E V j (0, lv_args 0 (.ref a :: as), [], w, 0, 0) Q1)
    (kk : ∀ v w', Q1 v w' → gw_E V i (pc + 3, ls, v.toList ++ st, w', cu + gm_c j, su + gm_s j) Q) : gw_E V i (pc, ls, as.reverse ++ .ref a :: st, w, cu, su) Q := by
  intro p l e R s m args below meth cd QQ H locs L X hH hl0 hret
  obtain ⟨m1, m2, m3, m4, m5, m6⟩ := gw_mk_spec hj
  obtain ⟨hx, hb, hml, hown, hts, hlk, hnm, hr, hfr, hlo, hce, hsl, hK⟩ := id X
  have hM := gw_met l hj hl hC
  have hword := gb_word hj
  have hini := hts _ (hword (.initialized (gm_y j).cls) (by simp [gb_mw]))
  have hins := hts _ (hword (.instanceMethod (gm_y j)) (by simp [gb_mw, hk]))
  have hsel := hts _ (hword (.selects (gm_y j).cls (gm_y j) (gm_y j)) (by simp [gb_mw, hk]))
  have he := gw_at hH ht (by omega)
  rw [gw_cell_obj ht ho] at he
  have hrecv := va_recv hK.1 hH.1 (gb_cl_get ho) he
  rw [← m5] at hrecv
  have hpre : PreV s H (gm_y j).cls (gw_ad V a) (va_Pc ((.ref a :: as).map (gw_mv V)) (gw_B V w)) (as.map (gw_mv V)) := ⟨gw_blind V w _, hrecv, fun U hU hW => ⟨rfl, gw_B_of hW.alike (gw_NW_warm hW hK.2.2.2.2) hU hK hH⟩⟩
  have hstk : (as.reverse ++ .ref a :: st).map (gw_mv V) = (as.map (gw_mv V)).reverse ++ .ref (gw_ad V a) :: st.map (gw_mv V) := by rw [List.map_append, List.map_reverse]; rfl
  have hcl := hd.2
  unfold gc_lk at hcl
  have hrun : va_Run p l e R s m args below meth cd H locs cu su (gm_c j) (gm_s j) (F0 m pc L ((as.reverse ++ .ref a :: st).map (gw_mv V))) (st.map (gw_mv V)) (gw_Qc V Q1 (Value.ref (gw_ad V a) :: as.map (gw_mv V)).toArray) (gw_A V) := by
    rcases Bool.or_eq_true_iff.mp hcl with q | q
    · have hlink := hts _ (gl_M_in q)
      rw [gw_ylt hj] at hlink
      exact va_runV (nL := gm_L i) (own := gb_n (gm_o i)) (C := (gm_y j).cls) ⟨hx, hb, hml, hown, hts⟩ hM ⟨callB_of (gm_p j) hts (gw_good j hj) rfl rfl rfl hini hlink ⟨m3, m4, m2⟩ ⟨by show gm_f j + 1 ≤ _; have := hf.1; omega, by show 8 + (gm_L j + 11) + gm_x j ≤ _; have := hf.2.1; omega⟩, hins, hsel⟩ hpre rfl (by simp [hn]) hl0.1 hstk (lv_room (by rw [gw_sum]; exact hs)) hd.1 ⟨by have := hf.2.2.1; omega, by have := hf.2.2.2; omega⟩
    · obtain ⟨r, hr1, r1, r2, r3⟩ := gl_N_in q
      have hlink := hK.2.2.2.2.1 r hr1
      rw [r1, r2, r3, gw_ylt hj] at hlink
      exact va_runVN (nL := gm_L i) (own := gb_n (gm_o i)) (C := (gm_y j).cls) ⟨hx, hb, hml, hown, hts⟩ hM ⟨va_cnB (gm_p j) hts (gw_good j hj) rfl rfl rfl hlink hini ⟨m3, m4, m2⟩ ⟨by show gm_f j + 1 ≤ _; have := hf.1; omega, by show 8 + (gm_L j + 11) + gm_x j ≤ _; have := hf.2.1; omega⟩, hins, hsel⟩ hpre rfl (by simp [hn]) hl0.1 hstk (lv_room (by rw [gw_sum]; exact hs)) hd.1 ⟨by have := hf.2.2.1; omega, by have := hf.2.2.2; omega⟩
  refine gw_after hrun hK hH (fun v w' H1 locs1 hq hH1 => ?_)
  rw [gw_vm]
  exact kk v w' hq p l e R s m args below meth cd QQ H1 locs1 L X hH1 hl0 hret
theorem gs_callI {x : Nat} (hd : gw_D i pc (.invokespecial x) 3 j b) (hj : j < 164) (hk : gm_k j = 2) (hr0 : gm_r j = none) (hn : as.length = gm_p j) (hl : (lg_sl (.ref a :: as)).length ≤ gm_L j) (hf : gw_fit i j cu su) (hs : (st.map fun v => v.category).sum ≤ 8) (hC : gw_E V j (0, lv_args 0 (.ref a :: as), [], w, 0, 0) Q1)
    (kk : ∀ v w', Q1 v w' → gw_E V i (pc + 3, ls, v.toList ++ st, w', cu + gm_c j, su + gm_s j) Q) : gw_E V i (pc, ls, as.reverse ++ .ref a :: st, w, cu, su) Q := by
  intro p l e R s m args below meth cd QQ H locs L X hH hl0 hret
  obtain ⟨m1, m2, m3, m4, m5, m6⟩ := gw_mk_spec hj
  obtain ⟨hx, hb, hml, hown, hts, hlk, hnm, hr, hfr, hlo, hce, hsl, hK⟩ := id X
  have hM := gw_met l hj hl hC
  have hword := gb_word hj
  have hini := hts _ (hword (.initialized (gm_y j).cls) (by simp [gb_mw]))
  have hins := hts _ (hword (.instanceMethod (gm_y j)) (by simp [gb_mw, hk]))
  have hpre : PreS s H (va_Pc ((.ref a :: as).map (gw_mv V)) (gw_B V w)) (.ref (gw_ad V a) :: as.map (gw_mv V)) := ⟨gw_blind V w _, fun U hU hW => ⟨rfl, gw_B_of hW.alike (gw_NW_warm hW hK.2.2.2.2) hU hK hH⟩⟩
  have hstk : (as.reverse ++ .ref a :: st).map (gw_mv V) = (as.map (gw_mv V)).reverse ++ .ref (gw_ad V a) :: st.map (gw_mv V) := by rw [List.map_append, List.map_reverse]; rfl
  have hcl := hd.2
  unfold gc_lk at hcl
  have hgood := gw_good j hj
  have hmw : gw_mws j = Cond.code (gm_y j) (gm_b j) (gm_L j) none :: gb_t := by unfold gw_mws; rw [hr0]
  have hrun : va_Run p l e R s m args below meth cd H locs cu su (gm_c j) (gm_s j) (F0 m pc L ((as.reverse ++ .ref a :: st).map (gw_mv V))) (st.map (gw_mv V)) (gw_Qc V Q1 (Value.ref (gw_ad V a) :: as.map (gw_mv V)).toArray) (gw_A V) := by
    rcases Bool.or_eq_true_iff.mp hcl with q | q
    · have hlink := hts _ (gl_M_in q)
      rw [gw_ylt hj] at hlink
      exact va_runI (nL := gm_L i) (own := gb_n (gm_o i)) ⟨hx, hb, hml, hown, hts⟩ hM ⟨callB_of (gm_p j) hts hgood hmw rfl rfl hini hlink ⟨m3, m4, m2⟩ ⟨by show gm_f j + 1 ≤ _; have := hf.1; omega, by show 8 + (gm_L j + 11) + gm_x j ≤ _; have := hf.2.1; omega⟩, m6.mp hk, hins⟩ hpre rfl (by simp [hn]) hl0.1 hstk (lv_room (by rw [gw_sum]; exact hs)) hd.1 ⟨by have := hf.2.2.1; omega, by have := hf.2.2.2; omega⟩
    · obtain ⟨r, hr1, r1, r2, r3⟩ := gl_N_in q
      have hlink := hK.2.2.2.2.1 r hr1
      rw [r1, r2, r3, gw_ylt hj] at hlink
      exact va_runIN (nL := gm_L i) (own := gb_n (gm_o i)) ⟨hx, hb, hml, hown, hts⟩ hM ⟨va_cnB (gm_p j) hts hgood hmw rfl rfl hlink hini ⟨m3, m4, m2⟩ ⟨by show gm_f j + 1 ≤ _; have := hf.1; omega, by show 8 + (gm_L j + 11) + gm_x j ≤ _; have := hf.2.1; omega⟩, m6.mp hk, hins⟩ hpre rfl (by simp [hn]) hl0.1 hstk (lv_room (by rw [gw_sum]; exact hs)) hd.1 ⟨by have := hf.2.2.1; omega, by have := hf.2.2.2; omega⟩
  refine gw_after hrun hK hH (fun v w' H1 locs1 hq hH1 => ?_)
  rw [gw_vm]
  exact kk v w' hq p l e R s m args below meth cd QQ H1 locs1 L X hH1 hl0 hret
end GCa
