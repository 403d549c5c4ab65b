/-! ===== the rules: static arrays, the machine's own methods, calls ===== -/
theorem gl_M_in {o x j : Nat} (h : gl_M.any (fun r => r.1 == o && (r.2.1 == x && r.2.2.1 == j)) = true) : Cond.methodLink (gb_n o) x (gl_y j) ∈ gb_t := by
  obtain ⟨r, hr, h⟩ := List.any_eq_true.mp h
  simp only [Bool.and_eq_true, beq_iff_eq] at h
  obtain ⟨rfl, rfl, rfl⟩ := h
  exact gb_tin (gb_at _ (List.all_eq_true.mp gl_M_ok r hr)) rfl
theorem gl_N_in {o x j : Nat} (h : gl_N.any (fun r => r.1 == o && (r.2.1 == x && r.2.2.1 == j)) = true) : ∃ r ∈ gl_N, r.1 = o ∧ r.2.1 = x ∧ r.2.2.1 = j := by
  obtain ⟨r, hr, h⟩ := List.any_eq_true.mp h
  simp only [Bool.and_eq_true, beq_iff_eq] at h
  exact ⟨r, hr, h.1, h.2.1, h.2.2⟩
theorem gl_N_own : ∀ r ∈ gl_N, r.2.2.1 < 165 := by decide +kernel
/-- the words of the machine's own methods -/
def gl_own : List Cond := [.code objectInit ⟨#[0xb1]⟩ 1 none, .instanceMethod objectInit, .native arraycopyName, .static arraycopyName, .initialized "java/lang/System", .initialized "java/lang/Math",
  .static Lib.Math.max.name, .code Lib.Math.max.name Lib.Math.max.code 2 (some .int), .static Lib.Math.min.name, .code Lib.Math.min.name Lib.Math.min.code 2 (some .int),
  .static Lib.MathLoose.max_long.x, .code Lib.MathLoose.max_long.x Lib.MathLoose.max_long.code 4 (some .long), .static Lib.MathLoose.abs_long.x, .code Lib.MathLoose.abs_long.x Lib.MathLoose.abs_long.code 2 (some .long), .arrayClass .int, .arrayClass .boolean]
set_option maxRecDepth 100000 in
theorem gl_own_ok : ∀ w ∈ gl_own, w ∈ lw_tbl ∧ goodWord w = true := by decide +kernel
theorem gl_own_in {w : Cond} (h : w ∈ gl_own) : w ∈ gb_t := gb_tin (gl_own_ok w h).1 (gl_own_ok w h).2
theorem gw_sum (V : gw_V) (st : List Value) : ((st.map (gw_mv V)).map fun v => v.category).sum = (st.map fun v => v.category).sum := by
  rw [List.map_map]
  congr 2
  funext v
  exact gw_cat V v
section GC
variable {V : gw_V} {i pc len a b c k : Nat} {ls : List (Nat × Value)} {st : List Value} {sh : List (Nat × Nat)} {I : Nat → Nat → Int32} {J : Nat → Nat → Int64} {F : Nat → Nat → Nat} {w : gw_W} {cu su : Nat} {Q : Option Value → gw_W → Prop}
theorem gs_gets {x : Nat} (hd : gw_D i pc (.getstatic x) 3 a b) (kk : gw_E V i (pc + 3, ls, .ref a :: st, w, cu, su) Q) : gw_E V i (pc, ls, st, w, cu, su) Q := by
  intro p l e R s m args below meth cd QQ H locs L X hH hl hret
  have hKK := X.2.2.2.2.2.2.2.2.2.2.2.2
  have h := kk p l e R s m args below meth cd QQ H locs L X hH hl hret
  have ha := gl_S_a hd.2
  have hZ : va_Z "MorningBill" (gl_sn a) "[I" (.ref (V.2.2.2 a)) (gw_A V) s s.heap := by
    rcases ha with rfl | rfl
    · exact hKK.2.2.1
    · exact hKK.2.2.2.1
  have hm : gw_mv V (.ref a) = .ref (V.2.2.2 a) := by
    show Value.ref (gw_ad V a) = _
    unfold gw_ad
    rw [if_pos (by omega)]
  have h' : W p l e R s m args below meth cd H locs cu su QQ (F0 m (pc + 3) L (.ref (V.2.2.2 a) :: st.map (gw_mv V))) := by rw [← hm]; exact h
  rcases gl_S_in hd.2 with q | ⟨q1, q2, q3⟩
  · exact va_gets X.1 X.2.1 hZ hH.2.2.2.1 X.2.2.2.1 (X.2.2.2.2.1 _ q) (fun _ z => z) hd.1 h'
  · have hn := hKK.2.2.2.2.2.1
    subst q3
    refine va_getsN X.1 X.2.1 hZ hH.2.2.2.1 (own := "MorningBill$Groups") (host := "MorningBill") (index := x) (ref := "MorningBill") (by rw [← q1]; exact X.2.2.2.1) ?_ (fun _ z => z) hd.1 h'
    rw [q2]
    exact va_Nw.use rfl hn
theorem gs_objInit {x : Nat} (hd : gw_D i pc (.invokespecial x) 3 1000 b) (hf : 1 ≤ gm_f i) (hx : 20 ≤ gm_x i) (hs : (st.map fun v => v.category).sum ≤ 8) (kk : gw_E V i (pc + 3, ls, st, w, cu, su) Q) : gw_E V i (pc, ls, .ref a :: st, w, cu, su) Q := by
  intro p l e R s m args below meth cd QQ H locs L X hH hl hret
  have hlk : (Cond.methodLink (gb_n (gm_o i)) x objectInit).before args s = true := by
    have := hd.2
    unfold gc_lk at this
    rcases Bool.or_eq_true_iff.mp this with q | q
    · exact X.2.2.2.2.1 _ (gl_M_in q)
    · obtain ⟨r, hr, -, -, h3⟩ := gl_N_in q
      exact absurd (gl_N_own r hr) (by omega)
  have h1 := X.2.2.2.2.2.2.2.2.1
  have h2 := X.2.2.2.2.2.2.2.2.2.1
  refine W.objInit X.1 X.2.1 X.2.2.2.1 hlk (X.2.2.2.2.1 _ (gl_own_in (by decide +kernel))) (X.2.2.2.2.1 _ (gl_own_in (List.mem_of_getElem? (i := 0) rfl))) rfl (by rw [X.2.2.1]; exact hl.1) rfl hd.1 (by omega) ?_ (kk p l e R s m args below meth cd QQ H locs L X hH hl hret)
  show 2 * 0 + ((st.map (gw_mv V)).map fun v => v.category).sum + 12 ≤ R.locals
  rw [gw_sum]
  omega
theorem gw_mlk {x j : Nat} {p : Program} {R : Room} {s : State} {m : MethodId} {args : Array Value} {meth : Method} {cd : Code} {y : MethodName} (X : gw_X V i p R s m args meth cd) (hd : gw_D i pc (.invokestatic x) 3 j b) (hj : 1000 ≤ j) (hy : gl_y j = y) : (Cond.methodLink (gb_n (gm_o i)) x y).before args s = true := by
  subst hy
  have := hd.2
  unfold gc_lk at this
  rcases Bool.or_eq_true_iff.mp this with q | q
  · exact X.2.2.2.2.1 _ (gl_M_in q)
  · obtain ⟨r, hr, -, -, h3⟩ := gl_N_in q
    exact absurd (gl_N_own r hr) (by omega)
theorem gs_mmax {q : Nat} {x y : Int32} (hd : gw_D i pc (.invokestatic q) 3 1002 b) (hf : 1 ≤ gm_f i) (hx : 26 ≤ gm_x i) (hcu : cu ≤ gm_c i) (hsu : su ≤ gm_s i) (hs : (st.map fun v => v.category).sum ≤ 8) (kk : gw_E V i (pc + 3, ls, .int (if x < y then y else x) :: st, w, cu, su) Q) : gw_E V i (pc, ls, .int y :: .int x :: st, w, cu, su) Q := by
  intro p l e R s m args below meth cd QQ H locs L X hH hl hret
  have h1 := X.2.2.2.2.2.2.2.2
  exact va_mmax X.1 X.2.1 (by rw [X.2.2.1]; exact hl.1.symm) X.2.2.2.1 (gw_mlk X hd (by omega) rfl) (X.2.2.2.2.1 _ (gl_own_in (by decide +kernel))) (X.2.2.2.2.1 _ (gl_own_in (by decide +kernel))) (X.2.2.2.2.1 _ (gl_own_in (List.mem_of_getElem? (i := 7) rfl))) (by omega) (by rw [gw_sum]; omega) (by show cu ≤ _; omega) (by show su ≤ _; omega) hd.1 (kk p l e R s m args below meth cd QQ H locs L X hH hl hret)
theorem gs_mmin {q : Nat} {x y : Int32} (hd : gw_D i pc (.invokestatic q) 3 1003 b) (hf : 1 ≤ gm_f i) (hx : 26 ≤ gm_x i) (hcu : cu ≤ gm_c i) (hsu : su ≤ gm_s i) (hs : (st.map fun v => v.category).sum ≤ 8) (kk : gw_E V i (pc + 3, ls, .int (if y < x then y else x) :: st, w, cu, su) Q) : gw_E V i (pc, ls, .int y :: .int x :: st, w, cu, su) Q := by
  intro p l e R s m args below meth cd QQ H locs L X hH hl hret
  have h1 := X.2.2.2.2.2.2.2.2
  exact va_mmin X.1 X.2.1 (by rw [X.2.2.1]; exact hl.1.symm) X.2.2.2.1 (gw_mlk X hd (by omega) rfl) (X.2.2.2.2.1 _ (gl_own_in (by decide +kernel))) (X.2.2.2.2.1 _ (gl_own_in (by decide +kernel))) (X.2.2.2.2.1 _ (gl_own_in (List.mem_of_getElem? (i := 9) rfl))) (by omega) (by rw [gw_sum]; omega) (by show cu ≤ _; omega) (by show su ≤ _; omega) hd.1 (kk p l e R s m args below meth cd QQ H locs L X hH hl hret)
theorem gs_mmaxL {q : Nat} {x y : Int64} (hd : gw_D i pc (.invokestatic q) 3 1004 b) (hf : 1 ≤ gm_f i) (hx : 26 ≤ gm_x i) (hcu : cu ≤ gm_c i) (hsu : su ≤ gm_s i) (hs : (st.map fun v => v.category).sum ≤ 8) (kk : gw_E V i (pc + 3, ls, .long (if y < x then x else y) :: st, w, cu, su) Q) : gw_E V i (pc, ls, .long y :: .long x :: st, w, cu, su) Q := by
  intro p l e R s m args below meth cd QQ H locs L X hH hl hret
  have h1 := X.2.2.2.2.2.2.2.2
  exact va_mmax_long X.1 X.2.1 (by rw [X.2.2.1]; exact hl.1.symm) X.2.2.2.1 (gw_mlk X hd (by omega) rfl) (X.2.2.2.2.1 _ (gl_own_in (by decide +kernel))) (X.2.2.2.2.1 _ (gl_own_in (by decide +kernel))) (X.2.2.2.2.1 _ (gl_own_in (List.mem_of_getElem? (i := 11) rfl))) (by omega) (by rw [gw_sum]; omega) (by show cu ≤ _; omega) (by show su ≤ _; omega) hd.1 (kk p l e R s m args below meth cd QQ H locs L X hH hl hret)
theorem gs_mabsL {q : Nat} {x : Int64} (hd : gw_D i pc (.invokestatic q) 3 1005 b) (hf : 1 ≤ gm_f i) (hx : 26 ≤ gm_x i) (hcu : cu ≤ gm_c i) (hsu : su ≤ gm_s i) (hs : (st.map fun v => v.category).sum ≤ 8) (kk : gw_E V i (pc + 3, ls, .long (if 0 < x then x else -x) :: st, w, cu, su) Q) : gw_E V i (pc, ls, .long x :: st, w, cu, su) Q := by
  intro p l e R s m args below meth cd QQ H locs L X hH hl hret
  have h1 := X.2.2.2.2.2.2.2.2
  exact va_mabs_long X.1 X.2.1 (by rw [X.2.2.1]; exact hl.1.symm) X.2.2.2.1 (gw_mlk X hd (by omega) rfl) (X.2.2.2.2.1 _ (gl_own_in (by decide +kernel))) (X.2.2.2.2.1 _ (gl_own_in (by decide +kernel))) (X.2.2.2.2.1 _ (gl_own_in (List.mem_of_getElem? (i := 13) rfl))) (by omega) (by rw [gw_sum]; omega) (by show cu ≤ _; omega) (by show su ≤ _; omega) hd.1 (kk p l e R s m args below meth cd QQ H locs L X hH hl hret)
/-- a row is copied -/
def gw_cp (f : Nat → Nat → Int32) (a0 a sp dp n : Nat) : Nat → Nat → Int32 := fun p q => if p = a then va_cpy (f a0) (f a) sp dp n q else f p q
theorem gs_copy {q a0 : Nat} {sp dp n : Int32} (hL : 145 ≤ sh.length) (hd : gw_D i pc (.invokestatic q) 3 1001 b) (hf : 1 ≤ gm_f i) (hx : 26 ≤ gm_x i) (hs : (st.map fun v => v.category).sum ≤ 8) (ht0 : gw_T (sh, I, J, F) a0 = 12) (ht : gw_T (sh, I, J, F) a = 12) (h1 : ¬ sp < 0) (h2 : ¬ dp < 0) (h3 : ¬ n < 0) (h4 : sp.toNatClampNeg + n.toNatClampNeg ≤ gw_N (sh, I, J, F) a0) (h5 : dp.toNatClampNeg + n.toNatClampNeg ≤ gw_N (sh, I, J, F) a)
    (kk : ∀ I2, I2 = gw_cp I a0 a sp.toNatClampNeg dp.toNatClampNeg n.toNatClampNeg → gw_E V i (pc + 3, ls, st, (sh, I2, J, F), cu, su) Q) : gw_E V i (pc, ls, .int n :: .int dp :: .ref a :: .int sp :: .ref a0 :: st, (sh, I, J, F), cu, su) Q := by
  intro p l e R s m args below meth cd QQ H locs L X hH hl hret
  have hroom := X.2.2.2.2.2.2.2.2
  have he := gw_at hH ht (by omega)
  have he0 := gw_at hH ht0 (by omega)
  rw [gw_cell_I ht] at he
  rw [gw_cell_I ht0] at he0
  refine va_copyi X.1 X.2.1 (by rw [X.2.2.1]; exact hl.1.symm) X.2.2.2.1 (gw_mlk X hd (by omega) rfl) (X.2.2.2.2.1 _ (gl_own_in (by decide +kernel))) (X.2.2.2.2.1 _ (gl_own_in (by decide +kernel))) (X.2.2.2.2.1 _ (gl_own_in (by decide +kernel))) X.2.2.2.2.2.2.2.2.2.2.2.2.1 hH.1 gw_ws_D hH.2.2.2.1 (a0 - 3) (a - 3) 0 0 he0 he rfl rfl rfl h1 h2 h3 h4 h5 (fun _ _ => rfl) (by omega) ?_ hd.1 (fun H1 locs1 hP1 _ hS1 => ?_)
  · rw [gw_sum]
    have : nativeFrameWords "java/lang/System" "arraycopy" 5 = 7 := by decide +kernel
    omega
  · refine kk _ rfl p l e R s m args below meth cd QQ H1 locs1 L X ?_ hl hret
    refine gw_H_set (w' := (sh, gw_cp I a0 a sp.toNatClampNeg dp.toNatClampNeg n.toNatClampNeg, J, F)) hH ht (by omega) rfl (fun q hq => gw_cell_ext rfl (by funext z; simp [gw_cp, hq]) rfl rfl) (fun q hq => by funext z; simp [gw_cp, hq]) ?_ hP1 (fun h => absurd h (Nat.not_lt.mpr hL)) hS1
    rw [gw_cell_I (w := (sh, gw_cp I a0 a sp.toNatClampNeg dp.toNatClampNeg n.toNatClampNeg, J, F)) ht]
    show Sum.inl (_, _, Sum.inl (gw_cp I a0 a sp.toNatClampNeg dp.toNatClampNeg n.toNatClampNeg a)) = _
    have : gw_cp I a0 a sp.toNatClampNeg dp.toNatClampNeg n.toNatClampNeg a = va_cpy (I a0) (I a) sp.toNatClampNeg dp.toNatClampNeg n.toNatClampNeg := by funext z; simp [gw_cp]
    rw [this]
    rfl
end GC
