/-! THE CLAIM OUT OF ONE WALK OF THE LAW'S BODY. Your part is whole_start (and what it stands on); all else here is the same for every law, but numbers. -/
def R_law : String := "MorningBillLaw"
def lw_P (b : Addr) (xs : List Int32) (args : Array Value) (s : State) : Prop := args = #[.ref b] ∧ s.IntsAt b xs ∧ xs.length ≤ 320 ∧ (Jvm.Cond.and given_1 narrow_1).before args s = true
def lw_Q (_ : Array Value) (s : State) (o : Outcome) (t : State) : Prop := o = .returned (some (.int 1)) ∧ Framed s o t [] 600000 7302250
def lw_Z (below : List Frame) (a : Array Value) (s : State) : State → Prop := fun t => ∃ o, t.status = .running ∧ Ended t below o ∧ lw_Q a s o t
/-- the law's own end, with 1 on the stack, nothing written that was there before, its room as the claim has it -/
theorem lw_ret {p : Program} {l : Launch} {e : Env} {s : State} {m : MethodId} {below : List Frame} {meth : Method} {c : Code} {b : Nat} (hx : p.tables.exec = Jvm.exec) (hb : c.code = code) (hr : meth.sig.returnType = ret) (hlocks : meth.locks = false) {pc : Nat} {H : Heap} {ls : Array Slot} (hdg : decode code pc = .ok (.ireturn, 1)) : W p l e room_1 s m #[Value.ref b] below meth c H [] 600000 7302250 (lw_Z below #[Value.ref b] s) (F0 m pc ls [.int 1]) := by
  intro T hT X
  obtain ⟨fs, hret, hrun, hended, hW, hframe⟩ := X.leave (v := some (.int 1)) (hlocks := hlocks) (fun h => by rw [hr] at h; cases h)
  have hmeth' : T.vm.method? m = some meth := X.method'
  refine ⟨T.setFrames fs, ?_, .returned (some (.int 1)), hrun, hended, rfl, ⟨_, rfl⟩, hW, hframe⟩
  jvm_step X.here [X.here.top, hx, hb, hdg, hmeth', hr, ret, narrow_b1]
  (try refine ⟨rfl, ?_⟩); (try refine ⟨rfl, ?_⟩)
  first | (intro acts; rw [hret _ acts rfl rfl rfl]) | rw [hret _ _ rfl rfl rfl]
  exact Steps.refl _
/-- what holds at the law's entry: the machine, the code, the tables' words (any of lw_tbl by 'hts w (by decide +kernel)'), the script of L ints xs at the cell b, what the Statement gives of the start (any of its parts by flat_of_before) -/
def lw_At (p : Program) (s : State) (m : MethodId) (meth : Method) (c : Code) (b L : Nat) (xs : Nat → Int32) : Prop :=
  p.tables.exec = Jvm.exec ∧ c.code = code ∧ meth.sig.returnType = ret ∧ c.maxLocals = 4 ∧ s.vm.findClass R_law = some m.cls ∧ (∀ w ∈ lw_tbl, w.before #[Value.ref b] s = true) ∧ va_X b L xs s s.heap ∧ b < s.heap.size ∧ meth.locks = false ∧ (Jvm.Cond.and given_1 narrow_1).before #[Value.ref b] s = true
-- ===== YOUR PART BEGINS =====
theorem gb_inst : ∀ c, c < 12 → Cond.instantiable (gb_n c) (gb_K c) ∈ lw_tbl := by decide +kernel
theorem gl_F7 : ∀ j, j < 7 → Cond.eq (.elem (.static "MorningBill" "FACTORIALS" "[I") (.int (Int32.ofNat j))) (.int (Int32.ofNat (gz_fc j))) ∈ flatC (Jvm.Cond.and given_1 narrow_1) := by decide +kernel
theorem gl_T9 : ∀ j, j < 9 → Cond.eq (.elem (.static "MorningBill" "TENS" "[I") (.int (Int32.ofNat j))) (.int (Int32.ofNat (10 ^ j))) ∈ flatC (Jvm.Cond.and given_1 narrow_1) := by decide +kernel
/-- the world at the start: the script, the two static arrays -/
def gl_I (xs : Nat → Int32) : Nat → Nat → Int32 := fun p q => if p = 0 then xs q else if p = 1 then Int32.ofNat (gz_fc q) else if p = 2 then Int32.ofNat (10 ^ q) else 0
theorem gl_I3 (xs : Nat → Int32) : gI0 (gl_I xs) 3 := fun p hp => by
  funext q
  unfold gl_I
  rw [if_neg (by omega), if_neg (by omega), if_neg (by omega)]
theorem whole_start {p : Program} {e : Env} {s : State} {m : MethodId} {below : List Frame} {meth : Method} {c : Code} (l : Launch) {b L : Nat} {xs : Nat → Int32} (hL : L ≤ 320) (C0 : lw_At p s m meth c b L xs) : W p l e room_1 s m #[Value.ref b] below meth c s.heap [] 0 0 (lw_Z below #[Value.ref b] s) (entryFrame m ([Value.ref b] : List Value).toArray 4) := by
  obtain ⟨hx, hb, hr, hml, hown, hts, hX, hbl, hlocks, hgv⟩ := id C0
  have hs := flat_of_before _ hgv
  have hA : ∀ a : Nat, a < s.heap.size → ¬ (fun q : Nat => s.heap.size ≤ q) a := fun a ha => Nat.not_le.mpr ha
  -- the classes
  have hcl : ∀ k, ∃ q : ClassId × (Nat → Nat), k < 12 → u_Kn s (gb_n k) (gb_F k) (gb_K k) q.1 q.2 := by
    intro k
    by_cases hk : k < 12
    · obtain ⟨cC, iS, h⟩ := u_known (C := gb_n k) (T := gb_F k) (N := gb_K k) (n := gb_K k) hts (fun w hw => (gb_lay0 k hk w hw).1) (hts _ (gb_inst k hk))
      exact ⟨(cC, iS), fun _ => h⟩
    · exact ⟨(m.cls, fun _ => 0), fun h => absurd h hk⟩
  obtain ⟨D, hD⟩ := Classical.axiomOfChoice hcl
  -- the array classes
  obtain ⟨c0, k0, comp0, f0, g0, q0⟩ := Cond.arrayClass_spec (hts (.arrayClass .int) (by decide +kernel))
  obtain ⟨c1, k1, comp1, f1, g1, q1⟩ := Cond.arrayClass_spec (hts (.arrayClass .boolean) (by decide +kernel))
  obtain ⟨comp2, c2, k2, e2, -, g2, q2, f2⟩ := Cond.arrayOver_spec (hts (.arrayOver (.object "MorningBill$Morning")) (by decide +kernel))
  obtain ⟨comp3, c3, k3, e3, -, g3, q3, f3⟩ := arrayOverA_spec (hts (.arrayOver (.array .int)) (by decide +kernel))
  -- the static arrays
  obtain ⟨tF, vF, hF⟩ := va_Tof (tm := .static "MorningBill" "FACTORIALS" "[I") (ty := .int) (N := 7) (f := fun j => .int (Int32.ofNat (gz_fc j))) (A := fun q : Nat => s.heap.size ≤ q) (by decide) (hs _ (by decide +kernel)) (va_eqt (hs _ (by decide +kernel))) (fun j hj => va_eqt (hs _ (gl_F7 j hj))) hA
  obtain ⟨tT, vT, hT⟩ := va_Tof (tm := .static "MorningBill" "TENS" "[I") (ty := .int) (N := 9) (f := fun j => .int (Int32.ofNat (10 ^ j))) (A := fun q : Nat => s.heap.size ≤ q) (by decide) (hs _ (by decide +kernel)) (va_eqt (hs _ (by decide +kernel))) (fun j hj => va_eqt (hs _ (gl_T9 j hj))) hA
  have zF := va_Zof (A := fun q : Nat => s.heap.size ≤ q) (hts (.laysStatic "MorningBill" "FACTORIALS" "[I") (by decide +kernel)) (hts (.initialized "MorningBill") (by decide +kernel)) vF hA
  have zT := va_Zof (A := fun q : Nat => s.heap.size ≤ q) (hts (.laysStatic "MorningBill" "TENS" "[I") (by decide +kernel)) (hts (.initialized "MorningBill") (by decide +kernel)) vT hA
  have hNW : gw_NW s := ⟨fun r hr => va_Nw.of rfl (hts _ (gb_at _ (List.all_eq_true.mp gl_N_ok r hr))), va_Nw.of rfl (hts _ (by decide +kernel)), va_AO.of (hts (.arrayOver (.object "MorningBill$Morning")) (by decide +kernel)), hts (.arrayOver (.array .int)) (by decide +kernel)⟩
  obtain ⟨V, hV⟩ : ∃ V : gw_V, V = ((fun k => (D k).1, fun k => (D k).2), (fun k => if k = 0 then c0 else if k = 1 then c1 else if k = 2 then c2 else c3), s.heap.size, fun k => if k = 0 then b else if k = 1 then tF else tT) := ⟨_, rfl⟩
  have hK : gw_K V s := by
    subst hV
    refine ⟨⟨fun k q hq => ?_, fun k q hq => ?_⟩, Nat.le_refl _, zF, zT, hNW⟩
    · by_cases hk : k < 12
      · rw [gb_cl_get hk] at hq
        cases hq
        exact hD k hk
      · have hn : gb_cl[k]? = none := List.getElem?_eq_none (by unfold gb_cl; rw [List.length_map, List.length_range]; omega)
        rw [hn] at hq
        cases hq
    · match k, hq with
      | 0, hq => cases hq; exact ⟨fun n z => ⟨fun k h => (by cases h), k0, g0, comp0, q0⟩, f0⟩
      | 1, hq => cases hq; exact ⟨fun n z => ⟨fun k h => (by cases h), k1, g1, comp1, q1⟩, f1⟩
      | 2, hq => cases hq; exact ⟨fun n z => ⟨fun k h => (by cases h), k2, g2, comp2, q2⟩, k2, comp2, g2, q2, e2, f2⟩
      | 3, hq => cases hq; exact ⟨fun n z => ⟨fun k h => (by cases h), k3, g3, comp3, q3⟩, f3⟩
      | k + 4, hq => simp [gw_ty] at hq
  have hH : gw_H V (gp L 3, gl_I xs, gJ0, gs_r) s s.heap [] := by
    refine ⟨fun k q hq => ?_, fun _ => ?_, Nat.le_refl 3, va_S.rf, fun k hk => ?_⟩
    · have := (gw_ws_at hq).1
      have h3 : k + 3 < 3 := this
      omega
    · subst hV; rfl
    · have h3 : k = 0 ∨ k = 1 ∨ k = 2 := by omega
      subst hV
      rcases h3 with rfl | rfl | rfl
      · obtain ⟨scr, x1, x2, x3, x4, x5⟩ := hX
        exact ⟨rfl, scr, x1, x2, x3, Nat.le_of_eq x4.symm, by rw [x4]; rfl, fun j hj => x5 j hj, Nat.not_le.mpr hbl⟩
      · exact ⟨rfl, hF⟩
      · exact ⟨rfl, hT⟩
  have X : gw_X V 164 p room_1 s m #[Value.ref b] meth c := ⟨hx, hb, hml, hown, fun w hw => hts w (List.mem_filter.mp hw).1, hlocks, fun h => absurd h (by decide), hr, Nat.le_of_ble_eq_true rfl, Nat.le_of_ble_eq_true rfl, Nat.le_of_ble_eq_true rfl, Nat.le_of_ble_eq_true rfl, hK⟩
  have hl := lv_entry ([.ref b]) (n := 4) (Nat.le_of_ble_eq_true rfl)
  rw [lg_entry_eq]
  generalize (lg_sl ([.ref b]) ++ List.replicate (4 - (lg_sl ([.ref b])).length) Slot.unset).toArray = ls at hl ⊢
  have hl : lv_has ls (gm_L 164) (gw_lm V [(0, .ref 0)]) := by subst hV; exact hl
  refine l_law (V := V) (n := L) (I := gl_I xs) hL (gl_I3 xs) (fun k _ => rfl) (fun k _ => rfl) p l e room_1 s m #[Value.ref b] below meth c (lw_Z below #[Value.ref b] s) s.heap [] ls X hH hl ?_
  intro v w' H' locs' pc' L' cu su hq hH' hend hcu hsu
  subst hq
  refine va_forget (fun q hq => ?_) (W.widen (Nat.le_trans hcu (Nat.le_of_ble_eq_true rfl)) (Nat.le_trans hsu (Nat.le_of_ble_eq_true rfl)) (lw_ret hx hb hr hlocks hend.1))
  have := hH'.2.2.2.1.2.2 q hq
  subst hV
  exact this
-- ===== YOUR PART ENDS =====
set_option maxHeartbeats 4000000 in
theorem lw_walk (l : Launch) (b : Addr) (xs : List Int32) : MetFree l x (headSpec (Jvm.Cond.code x code maxLocals ret :: tables_1) room_1) (lw_P b xs) (fun _ _ _ _ _ => True) lw_Q := by
  refine MetFree.of_bodyS (code := code) (maxLocals := maxLocals) (ret := ret) (by decide) ?_ ?_
  · intro args s m h hn
    obtain ⟨meth, c, h1, h2, h3, h4, h5, h6, -, -⟩ := Cond.code_spec hn (atoms_spec (ws := Jvm.Cond.code x code maxLocals ret :: tables_1) h _ List.mem_cons_self)
    exact ⟨meth, c, h1, h2, h3, h4, h5, h6⟩
  · intro p e s m args below meth c s₁ B hml0 hP _
    obtain ⟨rfl, hx, hbd, hgv⟩ := hP
    obtain ⟨scr, harrAt, hlist, hof, hsmall⟩ := hx
    obtain ⟨hcb, hkn, -, -⟩ := State.arrayAt?_spec harrAt
    have hown : s.vm.findClass R_law = some m.cls := findClass_of_methodNamed B.named
    have hts0 : ∀ c ∈ (Jvm.Cond.code x code maxLocals ret :: tables_1), c.before #[Value.ref b] s = true := atoms_spec (ws := Jvm.Cond.code x code maxLocals ret :: tables_1) B.pre
    have hts : ∀ w ∈ lw_tbl, w.before #[Value.ref b] s = true := k2_hts_sels lw_privs (fun w hw => hts0 w (List.mem_cons_of_mem _ hw)) lw_privs_ok
    have hml : c.maxLocals = 4 := B.maxLocals_eq (hts0 _ List.mem_cons_self)
    have X₀ : Stand p l e room_1 s m #[Value.ref b] below meth c s₁ [] 0 0 := Stand.of_body B
    have hh0 : s₁.heap = s.heap := by rw [B.state]; rfl
    have hsz : scr.slots.size = xs.length := by rw [← Array.length_toList, hlist, List.length_map]
    have hval : ∀ j : Nat, j < xs.length → scr.slots[j]? = some (.int (xs.getD j 0)) := fun j hj => by
      rw [← Array.getElem?_toList, hlist]
      simp [hj]
    have hbl : b < s.heap.size := (Array.getElem?_eq_some_iff.mp hcb).1
    have hX : va_X b xs.length (fun j => xs.getD j 0) s s.heap := ⟨scr, hcb, hof, hkn, hsz, hval⟩
    have K : W p l e room_1 s m #[Value.ref b] below meth c s₁.heap [] 0 0 (lw_Z below #[Value.ref b] s) (entryFrame m ([Value.ref b] : List Value).toArray 4) := by
      rw [hh0]
      exact whole_start l hbd ⟨B.exec, B.bytes, B.returns, hml, hown, hts, hX, hbl, B.notSynchronized, hgv⟩
    obtain ⟨t, a1, o, b1, b2, b3⟩ := K s₁ rfl X₀
    exact ⟨t, o, a1, b1, b2, b3⟩
theorem lw_pre_spec {args : Array Value} {s : State} (h : (Jvm.Cond.and given_1 narrow_1).before args s = true) (hr : rest_1_c.before args s = true) : ∃ (b : Addr) (xs : List Int32), lw_P b xs args s := by
  have hs := flat_of_before _ h
  have hq := flat_of_before _ hr
  have hc : (Cond.count 1).before args s = true := hs _ (by decide +kernel)
  have harr : (Cond.arrayOf (.arg 0) .int).before args s = true := hs _ (by decide +kernel)
  have hle : (Cond.le (.length (.arg 0)) (.int 320)).before args s = true := hs _ (by decide +kernel)
  have hlen : (Cond.isInt (.length (.arg 0))).before args s = true := hq _ (by decide +kernel)
  have hall : (Cond.all (.arg 0) (.isInt (.elem (.arg 0) (.index 0)))).before args s = true := hq _ (by decide +kernel)
  obtain ⟨b, xs, hb, hx⟩ := State.ints_of_pre rfl harr hlen hall
  have hsm : xs.length < 2 ^ 31 := hx.choose_spec.2.2.2
  have hev : (Term.length (.arg 0)).eval args s none [] s = some (.int xs.length.toInt32) := hx.length_eval hb
  have hv := Cond.le_ints hev (show (Term.int 320).eval args s none [] s = some (.int 320) from rfl)
  have hd : xs.length.toInt32 ≤ 320 := by
    simpa [Cond.before, Cond.holds, hv] using hle
  have hN : xs.length ≤ 320 := (Int32.ofNat_le_ofNat hsm (by decide)).mp (show Int32.ofNat xs.length ≤ Int32.ofNat 320 from hd)
  exact ⟨b, xs, Cond.one_arg hc (show args[0]? = some (.ref b) from hb), hx, hN, h⟩
theorem lw_comes (l : Launch) : Comes l x (Jvm.Cond.code x code maxLocals ret :: tables_1) room_1 (fun tb e args s => Calls_1 tb e args s ∧ rest_1 tb e args s ∧ Pre_1 tb e args s)
    (fun _ _ args s o t => lw_Q args s o t) := by
  intro p e ha hc hk s m args below hf hfit hheap happ hpre
  obtain ⟨b, xs, hP⟩ := lw_pre_spec hpre.2.2 hpre.2.1
  obtain ⟨k, o, h1, h2, h3, hQ⟩ := lw_walk l b xs p e ha hc hk s m args below hf ((Spec.applies_iff_loose hf).mp happ).1 hP trivial
  exact ⟨k, o, h1, h2, h3, hQ⟩
theorem lw_frame {s t : State} {o : Outcome} {args : Array Value} (h : Framed s o t [] 600000 7302250) :
    Framed s o t (fieldLocs frame_1_writes args s ++ arrayLocs frame_1_arrays args s ++ staticLocs frame_1_statics s) 600000 7302250 := h
theorem lw_limb (L : Cond) (hL : ∀ (args : Array Value) (s t : State), L.after args s (.returned (some (.int 1))) t = true) :
    ArmFor flags0 classFile x code maxLocals ret World_1 tables_1 room_1 Calls_1 rest_1 Pre_1
      (fun tb e a s o t => postC L tb e a s o t ∧ Framed s o t (fieldLocs frame_1_writes a s ++ arrayLocs frame_1_arrays a s ++ staticLocs frame_1_statics s) 600000 7302250) := by
  intro l _ _ _ p e ha hc hk s m args below hf hfit hheap happ hpre
  obtain ⟨k, o, h1, h2, h3, rfl, hF⟩ := lw_comes l p e ha hc hk s m args below hf hfit hheap happ hpre
  exact ⟨k, _, h1, h2, h3, hL args s _, lw_frame hF⟩
theorem i_vc : Claimed_1_1 ∧ Claimed_1_2 := ⟨lw_limb limb_1_1 (fun args s t => by simp [limb_1_1, Cond.after, Cond.holds, Cond.value]), lw_limb limb_1_2 (fun args s t => Cond.after_iff.mpr (by
  first | (rw [show limb_1_2 = Cond.eq .result (.int 1) from rfl, Cond.eq_ints (x := 1) (y := 1) rfl rfl]; simp; done) | (simp [limb_1_2, Cond.value, Term.eval]; done)))⟩
