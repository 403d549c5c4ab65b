/-! ===== the rules: locals ===== -/
theorem gw_look {V : gw_V} {n : Nat} {L : Array Slot} : ∀ {ls : List (Nat × Value)} {a : Nat} {v : Value}, lv_has L n (gw_lm V ls) → ls.lookup a = some v → L[a]? = some (.val (gw_mv V v)) := by
  intro ls a v h hk
  have hm : (a, v) ∈ ls := by
    induction ls with
    | nil => simp at hk
    | cons q t ih =>
      obtain ⟨q1, q2⟩ := q
      rw [List.lookup_cons] at hk
      by_cases e : a = q1
      · subst e
        simp at hk
        subst hk
        exact List.mem_cons_self
      · have e' : (a == q1) = false := by simpa using e
        rw [e'] at hk
        exact List.mem_cons_of_mem _ (ih ⟨h.1, h.2.1, fun q hq => h.2.2 q (List.mem_cons_of_mem _ hq)⟩ hk)
  exact h.2.2 (a, gw_mv V v) (List.mem_map.mpr ⟨(a, v), hm, rfl⟩)
/-- into its place by the number -/
def gw_ins (k : Nat) (v : Value) : List (Nat × Value) → List (Nat × Value)
  | [] => [(k, v)]
  | q :: t => match Nat.blt q.1 k with
    | true => q :: gw_ins k v t
    | false => (k, v) :: q :: t
theorem gw_ins_mem {k : Nat} {v : Value} {q : Nat × Value} : ∀ {l : List (Nat × Value)}, q ∈ gw_ins k v l → q ∈ (k, v) :: l
  | [], h => h
  | x :: t, h => by
    unfold gw_ins at h
    split at h
    · rcases List.mem_cons.mp h with e | e
      · rw [e]; exact List.mem_cons_of_mem _ List.mem_cons_self
      · rcases List.mem_cons.mp (gw_ins_mem e) with f | f
        · rw [f]; exact List.mem_cons_self
        · exact List.mem_cons_of_mem _ (List.mem_cons_of_mem _ f)
    · exact h
def gw_f1 (k : Nat) (ls : List (Nat × Value)) : List (Nat × Value) := ls.filter (fun q => !(q.1 == k) && !(q.1 + 1 == k && q.2.category == 2))
def gw_f2 (k : Nat) (ls : List (Nat × Value)) : List (Nat × Value) := ls.filter (fun q => !(q.1 == k) && (!(q.1 == k + 1) && !(q.1 + 1 == k && q.2.category == 2)))
theorem gw_f1_map (V : gw_V) (k : Nat) (ls : List (Nat × Value)) : (gw_lm V ls).filter (fun q => !(q.1 == k) && !(q.1 + 1 == k && q.2.category == 2)) = gw_lm V (gw_f1 k ls) := by
  unfold gw_lm gw_f1
  rw [List.filter_map]
  congr 2
  funext q
  simp [gw_cat]
theorem gw_f2_map (V : gw_V) (k : Nat) (ls : List (Nat × Value)) : (gw_lm V ls).filter (fun q => !(q.1 == k) && (!(q.1 == k + 1) && !(q.1 + 1 == k && q.2.category == 2))) = gw_lm V (gw_f2 k ls) := by
  unfold gw_lm gw_f2
  rw [List.filter_map]
  congr 2
  funext q
  simp [gw_cat]
theorem gw_has_ins {V : gw_V} {n k : Nat} {v : Value} {L : Array Slot} {ls : List (Nat × Value)} (h : lv_has L n ((k, gw_mv V v) :: gw_lm V ls)) : lv_has L n (gw_lm V (gw_ins k v ls)) := by
  refine ⟨h.1, h.2.1, fun q hq => ?_⟩
  obtain ⟨q0, h0, rfl⟩ := List.mem_map.mp hq
  rcases List.mem_cons.mp (gw_ins_mem h0) with e | e
  · rw [e]; exact h.2.2 _ List.mem_cons_self
  · exact h.2.2 _ (List.mem_cons_of_mem _ (List.mem_map.mpr ⟨q0, e, rfl⟩))
section GR
variable {V : gw_V} {i pc len a b : Nat} {ls ls2 : List (Nat × Value)} {st : List Value} {w : gw_W} {cu su : Nat} {Q : Option Value → gw_W → Prop}
/-- fewer locals are looked at -/
theorem gs_drop (ks : List Nat) (h : ks.filterMap (fun q => ls[q]?) = ls2) (k : gw_E V i (pc, ls2, st, w, cu, su) Q) : gw_E V i (pc, ls, st, w, cu, su) Q := by
  intro p l e R s m args below meth cd QQ H locs L X hH hl hret
  refine k p l e R s m args below meth cd QQ H locs L X hH ⟨hl.1, hl.2.1, fun q hq => ?_⟩ hret
  subst h
  obtain ⟨q0, h0, rfl⟩ := List.mem_map.mp hq
  obtain ⟨j, -, hj⟩ := List.mem_filterMap.mp h0
  exact hl.2.2 _ (List.mem_map.mpr ⟨q0, List.mem_of_getElem? hj, rfl⟩)
/-- a weaker end -/
theorem gs_mono {c : gw_c} {Q1 : Option Value → gw_W → Prop} (h : ∀ v w, Q1 v w → Q v w) (k : gw_E V i c Q1) : gw_E V i c Q := by
  intro p l e R s m args below meth cd QQ H locs L X hH hl hret
  exact k p l e R s m args below meth cd QQ H locs L X hH hl (fun v w' H' locs' pc' L' cu su hq => hret v w' H' locs' pc' L' cu su (h v w' hq))
theorem gs_eq {c c2 : gw_c} (h : c = c2) (k : gw_E V i c2 Q) : gw_E V i c Q := h ▸ k
theorem gs_iadd {x y : Int32} (hd : gw_D i pc (.iadd) 1 a b) (k : gw_E V i (pc + 1, ls, .int (x + y) :: st, w, cu, su) Q) : gw_E V i (pc, ls, .int y :: .int x :: st, w, cu, su) Q := by
  intro p l e R s m args below meth cd QQ H locs L X hH hl hret
  exact lv_iadd X.1 X.2.1 hd.1 (k p l e R s m args below meth cd QQ H locs L X hH hl hret)
theorem gs_isub {x y : Int32} (hd : gw_D i pc (.isub) 1 a b) (k : gw_E V i (pc + 1, ls, .int (x - y) :: st, w, cu, su) Q) : gw_E V i (pc, ls, .int y :: .int x :: st, w, cu, su) Q := by
  intro p l e R s m args below meth cd QQ H locs L X hH hl hret
  exact lv_isub X.1 X.2.1 hd.1 (k p l e R s m args below meth cd QQ H locs L X hH hl hret)
theorem gs_imul {x y : Int32} (hd : gw_D i pc (.imul) 1 a b) (k : gw_E V i (pc + 1, ls, .int (x * y) :: st, w, cu, su) Q) : gw_E V i (pc, ls, .int y :: .int x :: st, w, cu, su) Q := by
  intro p l e R s m args below meth cd QQ H locs L X hH hl hret
  exact lv_imul X.1 X.2.1 hd.1 (k p l e R s m args below meth cd QQ H locs L X hH hl hret)
theorem gs_iand {x y : Int32} (hd : gw_D i pc (.iand) 1 a b) (k : gw_E V i (pc + 1, ls, .int (x &&& y) :: st, w, cu, su) Q) : gw_E V i (pc, ls, .int y :: .int x :: st, w, cu, su) Q := by
  intro p l e R s m args below meth cd QQ H locs L X hH hl hret
  exact lv_iand X.1 X.2.1 hd.1 (k p l e R s m args below meth cd QQ H locs L X hH hl hret)
theorem gs_ior {x y : Int32} (hd : gw_D i pc (.ior) 1 a b) (k : gw_E V i (pc + 1, ls, .int (x ||| y) :: st, w, cu, su) Q) : gw_E V i (pc, ls, .int y :: .int x :: st, w, cu, su) Q := by
  intro p l e R s m args below meth cd QQ H locs L X hH hl hret
  exact lv_ior X.1 X.2.1 hd.1 (k p l e R s m args below meth cd QQ H locs L X hH hl hret)
theorem gs_ixor {x y : Int32} (hd : gw_D i pc (.ixor) 1 a b) (k : gw_E V i (pc + 1, ls, .int (x ^^^ y) :: st, w, cu, su) Q) : gw_E V i (pc, ls, .int y :: .int x :: st, w, cu, su) Q := by
  intro p l e R s m args below meth cd QQ H locs L X hH hl hret
  exact lv_ixor X.1 X.2.1 hd.1 (k p l e R s m args below meth cd QQ H locs L X hH hl hret)
theorem gs_ishl {x y : Int32} (hd : gw_D i pc (.ishl) 1 a b) (k : gw_E V i (pc + 1, ls, .int (x <<< (y &&& 31)) :: st, w, cu, su) Q) : gw_E V i (pc, ls, .int y :: .int x :: st, w, cu, su) Q := by
  intro p l e R s m args below meth cd QQ H locs L X hH hl hret
  exact lv_ishl X.1 X.2.1 hd.1 (k p l e R s m args below meth cd QQ H locs L X hH hl hret)
theorem gs_ishr {x y : Int32} (hd : gw_D i pc (.ishr) 1 a b) (k : gw_E V i (pc + 1, ls, .int (x >>> (y &&& 31)) :: st, w, cu, su) Q) : gw_E V i (pc, ls, .int y :: .int x :: st, w, cu, su) Q := by
  intro p l e R s m args below meth cd QQ H locs L X hH hl hret
  exact lv_ishr X.1 X.2.1 hd.1 (k p l e R s m args below meth cd QQ H locs L X hH hl hret)
theorem gs_idiv {x y : Int32} (hd : gw_D i pc (.idiv) 1 a b) (hne : ¬ y = 0) (k : gw_E V i (pc + 1, ls, .int (x / y) :: st, w, cu, su) Q) : gw_E V i (pc, ls, .int y :: .int x :: st, w, cu, su) Q := by
  intro p l e R s m args below meth cd QQ H locs L X hH hl hret
  exact lv_idiv X.1 X.2.1 hd.1 hne (k p l e R s m args below meth cd QQ H locs L X hH hl hret)
theorem gs_irem {x y : Int32} (hd : gw_D i pc (.irem) 1 a b) (hne : ¬ y = 0) (k : gw_E V i (pc + 1, ls, .int (x - x / y * y) :: st, w, cu, su) Q) : gw_E V i (pc, ls, .int y :: .int x :: st, w, cu, su) Q := by
  intro p l e R s m args below meth cd QQ H locs L X hH hl hret
  exact lv_irem X.1 X.2.1 hd.1 hne (k p l e R s m args below meth cd QQ H locs L X hH hl hret)
theorem gs_ladd {x y : Int64} (hd : gw_D i pc (.ladd) 1 a b) (k : gw_E V i (pc + 1, ls, .long (x + y) :: st, w, cu, su) Q) : gw_E V i (pc, ls, .long y :: .long x :: st, w, cu, su) Q := by
  intro p l e R s m args below meth cd QQ H locs L X hH hl hret
  exact lv_ladd X.1 X.2.1 hd.1 (k p l e R s m args below meth cd QQ H locs L X hH hl hret)
theorem gs_lmul {x y : Int64} (hd : gw_D i pc (.lmul) 1 a b) (k : gw_E V i (pc + 1, ls, .long (x * y) :: st, w, cu, su) Q) : gw_E V i (pc, ls, .long y :: .long x :: st, w, cu, su) Q := by
  intro p l e R s m args below meth cd QQ H locs L X hH hl hret
  exact lv_lmul X.1 X.2.1 hd.1 (k p l e R s m args below meth cd QQ H locs L X hH hl hret)
theorem gs_land {x y : Int64} (hd : gw_D i pc (.land) 1 a b) (k : gw_E V i (pc + 1, ls, .long (x &&& y) :: st, w, cu, su) Q) : gw_E V i (pc, ls, .long y :: .long x :: st, w, cu, su) Q := by
  intro p l e R s m args below meth cd QQ H locs L X hH hl hret
  exact lv_land X.1 X.2.1 hd.1 (k p l e R s m args below meth cd QQ H locs L X hH hl hret)
theorem gs_lor {x y : Int64} (hd : gw_D i pc (.lor) 1 a b) (k : gw_E V i (pc + 1, ls, .long (x ||| y) :: st, w, cu, su) Q) : gw_E V i (pc, ls, .long y :: .long x :: st, w, cu, su) Q := by
  intro p l e R s m args below meth cd QQ H locs L X hH hl hret
  exact lv_lor X.1 X.2.1 hd.1 (k p l e R s m args below meth cd QQ H locs L X hH hl hret)
theorem gs_ldiv {x y : Int64} (hd : gw_D i pc (.ldiv) 1 a b) (hne : ¬ y = 0) (k : gw_E V i (pc + 1, ls, .long (x / y) :: st, w, cu, su) Q) : gw_E V i (pc, ls, .long y :: .long x :: st, w, cu, su) Q := by
  intro p l e R s m args below meth cd QQ H locs L X hH hl hret
  exact lv_ldiv X.1 X.2.1 hd.1 hne (k p l e R s m args below meth cd QQ H locs L X hH hl hret)
theorem gs_lrem {x y : Int64} (hd : gw_D i pc (.lrem) 1 a b) (hne : ¬ y = 0) (k : gw_E V i (pc + 1, ls, .long (x - x / y * y) :: st, w, cu, su) Q) : gw_E V i (pc, ls, .long y :: .long x :: st, w, cu, su) Q := by
  intro p l e R s m args below meth cd QQ H locs L X hH hl hret
  exact lv_lrem X.1 X.2.1 hd.1 hne (k p l e R s m args below meth cd QQ H locs L X hH hl hret)
theorem gs_ineg {x : Int32} (hd : gw_D i pc (.ineg) 1 a b) (k : gw_E V i (pc + 1, ls, .int (-x) :: st, w, cu, su) Q) : gw_E V i (pc, ls, .int x :: st, w, cu, su) Q := by
  intro p l e R s m args below meth cd QQ H locs L X hH hl hret
  exact lv_ineg X.1 X.2.1 hd.1 (k p l e R s m args below meth cd QQ H locs L X hH hl hret)
theorem gs_lneg {x : Int64} (hd : gw_D i pc (.lneg) 1 a b) (k : gw_E V i (pc + 1, ls, .long (-x) :: st, w, cu, su) Q) : gw_E V i (pc, ls, .long x :: st, w, cu, su) Q := by
  intro p l e R s m args below meth cd QQ H locs L X hH hl hret
  exact lv_lneg X.1 X.2.1 hd.1 (k p l e R s m args below meth cd QQ H locs L X hH hl hret)
theorem gs_iushr {x y : Int32} (hd : gw_D i pc (.iushr) 1 a b) (k : gw_E V i (pc + 1, ls, .int ((x.toUInt32 >>> (y.toUInt32 &&& Int32.toUInt32 31)).toInt32) :: st, w, cu, su) Q) : gw_E V i (pc, ls, .int y :: .int x :: st, w, cu, su) Q := by
  intro p l e R s m args below meth cd QQ H locs L X hH hl hret
  exact lv_iushr X.1 X.2.1 hd.1 rfl (k p l e R s m args below meth cd QQ H locs L X hH hl hret)
theorem gs_lushr {x : Int64} {y : Int32} (hd : gw_D i pc (.lushr) 1 a b) (k : gw_E V i (pc + 1, ls, .long ((x.toUInt64 >>> (y.toInt64.toUInt64 &&& Int64.toUInt64 63)).toInt64) :: st, w, cu, su) Q) : gw_E V i (pc, ls, .int y :: .long x :: st, w, cu, su) Q := by
  intro p l e R s m args below meth cd QQ H locs L X hH hl hret
  exact lv_lushr X.1 X.2.1 hd.1 rfl (k p l e R s m args below meth cd QQ H locs L X hH hl hret)
theorem gs_lshl {x : Int64} {y : Int32} (hd : gw_D i pc (.lshl) 1 a b) (k : gw_E V i (pc + 1, ls, .long (x <<< (y.toInt64 &&& 63)) :: st, w, cu, su) Q) : gw_E V i (pc, ls, .int y :: .long x :: st, w, cu, su) Q := by
  intro p l e R s m args below meth cd QQ H locs L X hH hl hret
  exact lv_lshl X.1 X.2.1 hd.1 rfl (k p l e R s m args below meth cd QQ H locs L X hH hl hret)
theorem gs_i2l {x : Int32} (hd : gw_D i pc (.i2l) 1 a b) (k : gw_E V i (pc + 1, ls, .long x.toInt64 :: st, w, cu, su) Q) : gw_E V i (pc, ls, .int x :: st, w, cu, su) Q := by
  intro p l e R s m args below meth cd QQ H locs L X hH hl hret
  exact lv_i2l X.1 X.2.1 hd.1 rfl (k p l e R s m args below meth cd QQ H locs L X hH hl hret)
theorem gs_l2i {x : Int64} (hd : gw_D i pc (.l2i) 1 a b) (k : gw_E V i (pc + 1, ls, .int x.toInt32 :: st, w, cu, su) Q) : gw_E V i (pc, ls, .long x :: st, w, cu, su) Q := by
  intro p l e R s m args below meth cd QQ H locs L X hH hl hret
  exact lv_l2i X.1 X.2.1 hd.1 rfl (k p l e R s m args below meth cd QQ H locs L X hH hl hret)
theorem gs_lcmp {x y : Int64} (hd : gw_D i pc (.lcmp) 1 a b) (k : gw_E V i (pc + 1, ls, .int (lg_cmp x y) :: st, w, cu, su) Q) : gw_E V i (pc, ls, .long y :: .long x :: st, w, cu, su) Q := by
  intro p l e R s m args below meth cd QQ H locs L X hH hl hret
  exact W.lcmp X.1 X.2.1 hd.1 (k p l e R s m args below meth cd QQ H locs L X hH hl hret)
theorem gs_dup {v : Value} (hd : gw_D i pc (.dup) 1 a b) (hv : v.category = 1) (k : gw_E V i (pc + 1, ls, v :: v :: st, w, cu, su) Q) : gw_E V i (pc, ls, v :: st, w, cu, su) Q := by
  intro p l e R s m args below meth cd QQ H locs L X hH hl hret
  exact lv_dup X.1 X.2.1 hd.1 ((gw_cat V v).trans hv) (k p l e R s m args below meth cd QQ H locs L X hH hl hret)
theorem gs_pop {v : Value} (hd : gw_D i pc (.pop) 1 a b) (hv : v.category = 1) (k : gw_E V i (pc + 1, ls, st, w, cu, su) Q) : gw_E V i (pc, ls, v :: st, w, cu, su) Q := by
  intro p l e R s m args below meth cd QQ H locs L X hH hl hret
  exact lv_pop X.1 X.2.1 hd.1 ((gw_cat V v).trans hv) (k p l e R s m args below meth cd QQ H locs L X hH hl hret)
theorem gs_dup2 {v u : Value} (hd : gw_D i pc (.dup2) 1 a b) (hv : v.category = 1) (hu : u.category = 1) (k : gw_E V i (pc + 1, ls, v :: u :: v :: u :: st, w, cu, su) Q) : gw_E V i (pc, ls, v :: u :: st, w, cu, su) Q := by
  intro p l e R s m args below meth cd QQ H locs L X hH hl hret
  exact lv_dup2_11 X.1 X.2.1 hd.1 ((gw_cat V v).trans hv) ((gw_cat V u).trans hu) (k p l e R s m args below meth cd QQ H locs L X hH hl hret)
theorem gs_dup2L {x : Int64} (hd : gw_D i pc (.dup2) 1 a b) (k : gw_E V i (pc + 1, ls, .long x :: .long x :: st, w, cu, su) Q) : gw_E V i (pc, ls, .long x :: st, w, cu, su) Q := by
  intro p l e R s m args below meth cd QQ H locs L X hH hl hret
  exact lv_dup2_2 X.1 X.2.1 hd.1 rfl (k p l e R s m args below meth cd QQ H locs L X hH hl hret)
theorem gs_iconst {n : Int} (hd : gw_D i pc (.iconst n) 1 a b) (v : Int32) (hv : gb_iv a b = v) (k : gw_E V i (pc + 1, ls, .int v :: st, w, cu, su) Q) : gw_E V i (pc, ls, st, w, cu, su) Q := by
  intro p l e R s m args below meth cd QQ H locs L X hH hl hret
  subst hv
  exact lv_iconst X.1 X.2.1 hd.1 (by have := hd.2; unfold gc_lk at this; simpa using this) (k p l e R s m args below meth cd QQ H locs L X hH hl hret)
theorem gs_bipush {n : Int} (hd : gw_D i pc (.bipush n) 2 a b) (v : Int32) (hv : gb_iv a b = v) (k : gw_E V i (pc + 2, ls, .int v :: st, w, cu, su) Q) : gw_E V i (pc, ls, st, w, cu, su) Q := by
  intro p l e R s m args below meth cd QQ H locs L X hH hl hret
  subst hv
  exact lv_bipush X.1 X.2.1 hd.1 (by have := hd.2; unfold gc_lk at this; simpa using this) (k p l e R s m args below meth cd QQ H locs L X hH hl hret)
theorem gs_sipush {n : Int} (hd : gw_D i pc (.sipush n) 3 a b) (v : Int32) (hv : gb_iv a b = v) (k : gw_E V i (pc + 3, ls, .int v :: st, w, cu, su) Q) : gw_E V i (pc, ls, st, w, cu, su) Q := by
  intro p l e R s m args below meth cd QQ H locs L X hH hl hret
  subst hv
  exact lv_sipush X.1 X.2.1 hd.1 (by have := hd.2; unfold gc_lk at this; simpa using this) (k p l e R s m args below meth cd QQ H locs L X hH hl hret)
theorem gs_lconst {n : Fin 2} (hd : gw_D i pc (.lconst n) 1 a b) (v : Int64) (hv : gb_lv a b = v) (k : gw_E V i (pc + 1, ls, .long v :: st, w, cu, su) Q) : gw_E V i (pc, ls, st, w, cu, su) Q := by
  intro p l e R s m args below meth cd QQ H locs L X hH hl hret
  subst hv
  exact lv_lconst X.1 X.2.1 hd.1 (by have := hd.2; unfold gc_lk at this; simpa using this) (k p l e R s m args below meth cd QQ H locs L X hH hl hret)
theorem gl_K_in {o x a b : Nat} (h : gl_K.any (fun r => r.1 == o && (r.2.1 == x && (r.2.2.1 == a && r.2.2.2.1 == b))) = true) : Cond.constant (gb_n o) x (gb_iv a b) ∈ gb_t := by
  obtain ⟨r, hr, h⟩ := List.any_eq_true.mp h
  simp only [Bool.and_eq_true, beq_iff_eq] at h
  obtain ⟨rfl, rfl, rfl, rfl⟩ := h
  exact gb_tin (gb_at _ (List.all_eq_true.mp gl_K_ok r hr)) rfl
theorem gl_L_in {o x a b : Nat} (h : gl_L.any (fun r => r.1 == o && (r.2.1 == x && (r.2.2.1 == a && r.2.2.2.1 == b))) = true) : Cond.constantLong (gb_n o) x (gb_lv a b) ∈ gb_t := by
  obtain ⟨r, hr, h⟩ := List.any_eq_true.mp h
  simp only [Bool.and_eq_true, beq_iff_eq] at h
  obtain ⟨rfl, rfl, rfl, rfl⟩ := h
  exact gb_tin (gb_at _ (List.all_eq_true.mp gl_L_ok r hr)) rfl
theorem gs_ldc {x : Nat} (hd : gw_D i pc (.ldc x) 2 a b) (v : Int32) (hv : gb_iv a b = v) (k : gw_E V i (pc + 2, ls, .int v :: st, w, cu, su) Q) : gw_E V i (pc, ls, st, w, cu, su) Q := by
  intro p l e R s m args below meth cd QQ H locs L X hH hl hret
  subst hv
  exact lv_ldc X.1 X.2.1 X.2.2.2.1 (X.2.2.2.2.1 _ (gl_K_in hd.2)) hd.1 (k p l e R s m args below meth cd QQ H locs L X hH hl hret)
theorem gs_ldc_w {x : Nat} (hd : gw_D i pc (.ldc_w x) 3 a b) (v : Int32) (hv : gb_iv a b = v) (k : gw_E V i (pc + 3, ls, .int v :: st, w, cu, su) Q) : gw_E V i (pc, ls, st, w, cu, su) Q := by
  intro p l e R s m args below meth cd QQ H locs L X hH hl hret
  subst hv
  exact lv_ldcw X.1 X.2.1 X.2.2.2.1 (X.2.2.2.2.1 _ (gl_K_in hd.2)) hd.1 (k p l e R s m args below meth cd QQ H locs L X hH hl hret)
theorem gs_ldc2_w {x : Nat} (hd : gw_D i pc (.ldc2_w x) 3 a b) (v : Int64) (hv : gb_lv a b = v) (k : gw_E V i (pc + 3, ls, .long v :: st, w, cu, su) Q) : gw_E V i (pc, ls, st, w, cu, su) Q := by
  intro p l e R s m args below meth cd QQ H locs L X hH hl hret
  subst hv
  exact lv_ldc2 X.1 X.2.1 X.2.2.2.1 (X.2.2.2.2.1 _ (gl_L_in hd.2)) hd.1 (k p l e R s m args below meth cd QQ H locs L X hH hl hret)
theorem gs_iload_n {n : Fin 4} {x : Int32} (hd : gw_D i pc (.iload_n n) 1 a b) (hx : ls.lookup a = some (.int x)) (k : gw_E V i (pc + 1, ls, .int x :: st, w, cu, su) Q) : gw_E V i (pc, ls, st, w, cu, su) Q := by
  intro p l e R s m args below meth cd QQ H locs L X hH hl hret
  exact lv_iload_n X.1 X.2.1 hd.1 (by have := hd.2; unfold gc_lk at this; simpa using this) (gw_look hl hx) (k p l e R s m args below meth cd QQ H locs L X hH hl hret)
theorem gs_iload {n : Nat} {x : Int32} (hd : gw_D i pc (.iload n) 2 a b) (hx : ls.lookup a = some (.int x)) (k : gw_E V i (pc + 2, ls, .int x :: st, w, cu, su) Q) : gw_E V i (pc, ls, st, w, cu, su) Q := by
  intro p l e R s m args below meth cd QQ H locs L X hH hl hret
  have hn : n = a := by have := hd.2; unfold gc_lk at this; simpa using this
  exact lv_iload X.1 X.2.1 hd.1 (hn ▸ gw_look hl hx) (k p l e R s m args below meth cd QQ H locs L X hH hl hret)
theorem gs_lload_n {n : Fin 4} {x : Int64} (hd : gw_D i pc (.lload_n n) 1 a b) (hx : ls.lookup a = some (.long x)) (k : gw_E V i (pc + 1, ls, .long x :: st, w, cu, su) Q) : gw_E V i (pc, ls, st, w, cu, su) Q := by
  intro p l e R s m args below meth cd QQ H locs L X hH hl hret
  exact lv_lload_n X.1 X.2.1 hd.1 (by have := hd.2; unfold gc_lk at this; simpa using this) (gw_look hl hx) (k p l e R s m args below meth cd QQ H locs L X hH hl hret)
theorem gs_lload {n : Nat} {x : Int64} (hd : gw_D i pc (.lload n) 2 a b) (hx : ls.lookup a = some (.long x)) (k : gw_E V i (pc + 2, ls, .long x :: st, w, cu, su) Q) : gw_E V i (pc, ls, st, w, cu, su) Q := by
  intro p l e R s m args below meth cd QQ H locs L X hH hl hret
  have hn : n = a := by have := hd.2; unfold gc_lk at this; simpa using this
  exact lv_lload X.1 X.2.1 hd.1 (hn ▸ gw_look hl hx) (k p l e R s m args below meth cd QQ H locs L X hH hl hret)
theorem gs_aload_n {n : Fin 4} {x : Nat} (hd : gw_D i pc (.aload_n n) 1 a b) (hx : ls.lookup a = some (.ref x)) (k : gw_E V i (pc + 1, ls, .ref x :: st, w, cu, su) Q) : gw_E V i (pc, ls, st, w, cu, su) Q := by
  intro p l e R s m args below meth cd QQ H locs L X hH hl hret
  exact lv_aload_n X.1 X.2.1 hd.1 (by have := hd.2; unfold gc_lk at this; simpa using this) (gw_look hl hx) (k p l e R s m args below meth cd QQ H locs L X hH hl hret)
theorem gs_aload {n : Nat} {x : Nat} (hd : gw_D i pc (.aload n) 2 a b) (hx : ls.lookup a = some (.ref x)) (k : gw_E V i (pc + 2, ls, .ref x :: st, w, cu, su) Q) : gw_E V i (pc, ls, st, w, cu, su) Q := by
  intro p l e R s m args below meth cd QQ H locs L X hH hl hret
  have hn : n = a := by have := hd.2; unfold gc_lk at this; simpa using this
  exact lv_aload X.1 X.2.1 hd.1 (hn ▸ gw_look hl hx) (k p l e R s m args below meth cd QQ H locs L X hH hl hret)
theorem gs_istore_n {n : Fin 4} {x : Int32} {ls2 : Int32 → List (Nat × Value)} (hd : gw_D i pc (.istore_n n) 1 a b) (hn : a < gm_L i) (hs : ∀ v, gw_ins a (.int v) (gw_f1 a ls) = ls2 v) (k : ∀ v, v = x → gw_E V i (pc + 1, ls2 v, st, w, cu, su) Q) : gw_E V i (pc, ls, .int x :: st, w, cu, su) Q := by
  intro p l e R s m args below meth cd QQ H locs L X hH hl hret
  have ha : n.val = a := by have := hd.2; unfold gc_lk at this; simpa using this
  refine lv_istore_n X.1 X.2.1 hd.1 ha hl hn rfl (fun L2 hl2 => ?_)
  rw [gw_f1_map] at hl2
  have h9 := gw_has_ins (V := V) (v := .int x) hl2
  rw [hs] at h9
  exact k x rfl p l e R s m args below meth cd QQ H locs L2 X hH h9 hret
theorem gs_istore {n : Nat} {x : Int32} {ls2 : Int32 → List (Nat × Value)} (hd : gw_D i pc (.istore n) 2 a b) (hn : a < gm_L i) (hs : ∀ v, gw_ins a (.int v) (gw_f1 a ls) = ls2 v) (k : ∀ v, v = x → gw_E V i (pc + 2, ls2 v, st, w, cu, su) Q) : gw_E V i (pc, ls, .int x :: st, w, cu, su) Q := by
  intro p l e R s m args below meth cd QQ H locs L X hH hl hret
  have ha : n = a := by have := hd.2; unfold gc_lk at this; simpa using this
  subst ha
  refine lv_istore X.1 X.2.1 hd.1 hl hn rfl (fun L2 hl2 => ?_)
  rw [gw_f1_map] at hl2
  have h9 := gw_has_ins (V := V) (v := .int x) hl2
  rw [hs] at h9
  exact k x rfl p l e R s m args below meth cd QQ H locs L2 X hH h9 hret
theorem gs_lstore_n {n : Fin 4} {x : Int64} {ls2 : Int64 → List (Nat × Value)} (hd : gw_D i pc (.lstore_n n) 1 a b) (hn : a + 1 < gm_L i) (hs : ∀ v, gw_ins a (.long v) (gw_f2 a ls) = ls2 v) (k : ∀ v, v = x → gw_E V i (pc + 1, ls2 v, st, w, cu, su) Q) : gw_E V i (pc, ls, .long x :: st, w, cu, su) Q := by
  intro p l e R s m args below meth cd QQ H locs L X hH hl hret
  have ha : n.val = a := by have := hd.2; unfold gc_lk at this; simpa using this
  refine lv_lstore_n X.1 X.2.1 hd.1 ha hl hn rfl (fun L2 hl2 => ?_)
  rw [gw_f2_map] at hl2
  have h9 := gw_has_ins (V := V) (v := .long x) hl2
  rw [hs] at h9
  exact k x rfl p l e R s m args below meth cd QQ H locs L2 X hH h9 hret
theorem gs_lstore {n : Nat} {x : Int64} {ls2 : Int64 → List (Nat × Value)} (hd : gw_D i pc (.lstore n) 2 a b) (hn : a + 1 < gm_L i) (hs : ∀ v, gw_ins a (.long v) (gw_f2 a ls) = ls2 v) (k : ∀ v, v = x → gw_E V i (pc + 2, ls2 v, st, w, cu, su) Q) : gw_E V i (pc, ls, .long x :: st, w, cu, su) Q := by
  intro p l e R s m args below meth cd QQ H locs L X hH hl hret
  have ha : n = a := by have := hd.2; unfold gc_lk at this; simpa using this
  subst ha
  refine lv_lstore X.1 X.2.1 hd.1 hl hn rfl (fun L2 hl2 => ?_)
  rw [gw_f2_map] at hl2
  have h9 := gw_has_ins (V := V) (v := .long x) hl2
  rw [hs] at h9
  exact k x rfl p l e R s m args below meth cd QQ H locs L2 X hH h9 hret
theorem gs_astore_n {n : Fin 4} {x : Nat} {ls2 : Nat → List (Nat × Value)} (hd : gw_D i pc (.astore_n n) 1 a b) (hn : a < gm_L i) (hs : ∀ v, gw_ins a (.ref v) (gw_f1 a ls) = ls2 v) (k : ∀ v, v = x → gw_E V i (pc + 1, ls2 v, st, w, cu, su) Q) : gw_E V i (pc, ls, .ref x :: st, w, cu, su) Q := by
  intro p l e R s m args below meth cd QQ H locs L X hH hl hret
  have ha : n.val = a := by have := hd.2; unfold gc_lk at this; simpa using this
  refine lv_astore_n X.1 X.2.1 hd.1 ha hl hn rfl (fun L2 hl2 => ?_)
  rw [gw_f1_map] at hl2
  have h9 := gw_has_ins (V := V) (v := .ref x) hl2
  rw [hs] at h9
  exact k x rfl p l e R s m args below meth cd QQ H locs L2 X hH h9 hret
theorem gs_astore {n : Nat} {x : Nat} {ls2 : Nat → List (Nat × Value)} (hd : gw_D i pc (.astore n) 2 a b) (hn : a < gm_L i) (hs : ∀ v, gw_ins a (.ref v) (gw_f1 a ls) = ls2 v) (k : ∀ v, v = x → gw_E V i (pc + 2, ls2 v, st, w, cu, su) Q) : gw_E V i (pc, ls, .ref x :: st, w, cu, su) Q := by
  intro p l e R s m args below meth cd QQ H locs L X hH hl hret
  have ha : n = a := by have := hd.2; unfold gc_lk at this; simpa using this
  subst ha
  refine lv_astore X.1 X.2.1 hd.1 hl hn rfl (fun L2 hl2 => ?_)
  rw [gw_f1_map] at hl2
  have h9 := gw_has_ins (V := V) (v := .ref x) hl2
  rw [hs] at h9
  exact k x rfl p l e R s m args below meth cd QQ H locs L2 X hH h9 hret
theorem gw_lookk {ls : List (Nat × Value)} {a : Nat} {v : Value} (h : ls.lookup a = some v) : ∃ k : Nat, ls[k]? = some (a, v) := by
  induction ls with
  | nil => simp at h
  | cons q t ih =>
    obtain ⟨q1, q2⟩ := q
    rw [List.lookup_cons] at h
    by_cases e : a = q1
    · subst e
      simp at h
      subst h
      exact ⟨0, rfl⟩
    · have e2 : (a == q1) = false := by simpa using e
      rw [e2] at h
      obtain ⟨k, hk⟩ := ih h
      exact ⟨k + 1, hk⟩
theorem gs_iinc {n : Nat} {d : Int} {x : Int32} {ls2 : Int32 → List (Nat × Value)} (hd : gw_D i pc (.iinc n d) 3 a b) (hx : ls.lookup n = some (.int x)) (hn : n < gm_L i) (hs : ∀ v, gw_ins n (.int v) (gw_f1 n ls) = ls2 v) (dl : Int32) (hdl : gb_iv a b = dl) (k : ∀ v, v = x + dl → gw_E V i (pc + 3, ls2 v, st, w, cu, su) Q) : gw_E V i (pc, ls, st, w, cu, su) Q := by
  intro p l e R s m args below meth cd QQ H locs L X hH hl hret
  subst hdl
  have hv : Int32.ofInt d = gb_iv a b := by have := hd.2; unfold gc_lk at this; simpa using this
  obtain ⟨j, hj⟩ := gw_lookk hx
  refine lv_iinc X.1 X.2.1 hd.1 hl (k := j) (x := x) (v := x + gb_iv a b) (by show (gw_lm V ls)[j]? = _; unfold gw_lm; rw [List.getElem?_map, hj]; rfl) (by rw [hv]) hn rfl (fun L2 hl2 => ?_)
  rw [gw_f1_map] at hl2
  have h9 := gw_has_ins (V := V) (v := .int (x + gb_iv a b)) hl2
  rw [hs] at h9
  exact k _ rfl p l e R s m args below meth cd QQ H locs L2 X hH h9 hret
theorem gs_if_eq {x : Int32} {off : Int} (hd : gw_D i pc (.ifCond .eq off) 3 a b) (kt : x = 0 → gw_E V i (a, ls, st, w, cu, su) Q) (kf : ¬ (x = 0) → gw_E V i (pc + 3, ls, st, w, cu, su) Q) : gw_E V i (pc, ls, .int x :: st, w, cu, su) Q := by
  intro p l e R s m args below meth cd QQ H locs L X hH hl hret
  exact lv_if_eq X.1 X.2.1 hd.1 (by have := hd.2; unfold gc_lk at this; simpa using this) (fun h => kt h p l e R s m args below meth cd QQ H locs L X hH hl hret) (fun h => kf h p l e R s m args below meth cd QQ H locs L X hH hl hret)
theorem gs_icmp_eq {x y : Int32} {off : Int} (hd : gw_D i pc (.if_icmp .eq off) 3 a b) (kt : x = y → gw_E V i (a, ls, st, w, cu, su) Q) (kf : ¬ (x = y) → gw_E V i (pc + 3, ls, st, w, cu, su) Q) : gw_E V i (pc, ls, .int y :: .int x :: st, w, cu, su) Q := by
  intro p l e R s m args below meth cd QQ H locs L X hH hl hret
  exact lv_icmp_eq X.1 X.2.1 hd.1 (by have := hd.2; unfold gc_lk at this; simpa using this) (fun h => kt h p l e R s m args below meth cd QQ H locs L X hH hl hret) (fun h => kf h p l e R s m args below meth cd QQ H locs L X hH hl hret)
theorem gs_if_ne {x : Int32} {off : Int} (hd : gw_D i pc (.ifCond .ne off) 3 a b) (kt : ¬ x = 0 → gw_E V i (a, ls, st, w, cu, su) Q) (kf : x = 0 → gw_E V i (pc + 3, ls, st, w, cu, su) Q) : gw_E V i (pc, ls, .int x :: st, w, cu, su) Q := by
  intro p l e R s m args below meth cd QQ H locs L X hH hl hret
  exact lv_if_ne X.1 X.2.1 hd.1 (by have := hd.2; unfold gc_lk at this; simpa using this) (fun h => kt h p l e R s m args below meth cd QQ H locs L X hH hl hret) (fun h => kf h p l e R s m args below meth cd QQ H locs L X hH hl hret)
theorem gs_icmp_ne {x y : Int32} {off : Int} (hd : gw_D i pc (.if_icmp .ne off) 3 a b) (kt : ¬ x = y → gw_E V i (a, ls, st, w, cu, su) Q) (kf : x = y → gw_E V i (pc + 3, ls, st, w, cu, su) Q) : gw_E V i (pc, ls, .int y :: .int x :: st, w, cu, su) Q := by
  intro p l e R s m args below meth cd QQ H locs L X hH hl hret
  exact lv_icmp_ne X.1 X.2.1 hd.1 (by have := hd.2; unfold gc_lk at this; simpa using this) (fun h => kt h p l e R s m args below meth cd QQ H locs L X hH hl hret) (fun h => kf h p l e R s m args below meth cd QQ H locs L X hH hl hret)
theorem gs_if_lt {x : Int32} {off : Int} (hd : gw_D i pc (.ifCond .lt off) 3 a b) (kt : x < 0 → gw_E V i (a, ls, st, w, cu, su) Q) (kf : ¬ (x < 0) → gw_E V i (pc + 3, ls, st, w, cu, su) Q) : gw_E V i (pc, ls, .int x :: st, w, cu, su) Q := by
  intro p l e R s m args below meth cd QQ H locs L X hH hl hret
  exact lv_if_lt X.1 X.2.1 hd.1 (by have := hd.2; unfold gc_lk at this; simpa using this) (fun h => kt h p l e R s m args below meth cd QQ H locs L X hH hl hret) (fun h => kf h p l e R s m args below meth cd QQ H locs L X hH hl hret)
theorem gs_icmp_lt {x y : Int32} {off : Int} (hd : gw_D i pc (.if_icmp .lt off) 3 a b) (kt : x < y → gw_E V i (a, ls, st, w, cu, su) Q) (kf : ¬ (x < y) → gw_E V i (pc + 3, ls, st, w, cu, su) Q) : gw_E V i (pc, ls, .int y :: .int x :: st, w, cu, su) Q := by
  intro p l e R s m args below meth cd QQ H locs L X hH hl hret
  exact lv_icmp_lt X.1 X.2.1 hd.1 (by have := hd.2; unfold gc_lk at this; simpa using this) (fun h => kt h p l e R s m args below meth cd QQ H locs L X hH hl hret) (fun h => kf h p l e R s m args below meth cd QQ H locs L X hH hl hret)
theorem gs_if_ge {x : Int32} {off : Int} (hd : gw_D i pc (.ifCond .ge off) 3 a b) (kt : 0 ≤ x → gw_E V i (a, ls, st, w, cu, su) Q) (kf : ¬ (0 ≤ x) → gw_E V i (pc + 3, ls, st, w, cu, su) Q) : gw_E V i (pc, ls, .int x :: st, w, cu, su) Q := by
  intro p l e R s m args below meth cd QQ H locs L X hH hl hret
  exact lv_if_ge X.1 X.2.1 hd.1 (by have := hd.2; unfold gc_lk at this; simpa using this) (fun h => kt h p l e R s m args below meth cd QQ H locs L X hH hl hret) (fun h => kf h p l e R s m args below meth cd QQ H locs L X hH hl hret)
theorem gs_icmp_ge {x y : Int32} {off : Int} (hd : gw_D i pc (.if_icmp .ge off) 3 a b) (kt : y ≤ x → gw_E V i (a, ls, st, w, cu, su) Q) (kf : ¬ (y ≤ x) → gw_E V i (pc + 3, ls, st, w, cu, su) Q) : gw_E V i (pc, ls, .int y :: .int x :: st, w, cu, su) Q := by
  intro p l e R s m args below meth cd QQ H locs L X hH hl hret
  exact lv_icmp_ge X.1 X.2.1 hd.1 (by have := hd.2; unfold gc_lk at this; simpa using this) (fun h => kt h p l e R s m args below meth cd QQ H locs L X hH hl hret) (fun h => kf h p l e R s m args below meth cd QQ H locs L X hH hl hret)
theorem gs_if_gt {x : Int32} {off : Int} (hd : gw_D i pc (.ifCond .gt off) 3 a b) (kt : 0 < x → gw_E V i (a, ls, st, w, cu, su) Q) (kf : ¬ (0 < x) → gw_E V i (pc + 3, ls, st, w, cu, su) Q) : gw_E V i (pc, ls, .int x :: st, w, cu, su) Q := by
  intro p l e R s m args below meth cd QQ H locs L X hH hl hret
  exact lv_if_gt X.1 X.2.1 hd.1 (by have := hd.2; unfold gc_lk at this; simpa using this) (fun h => kt h p l e R s m args below meth cd QQ H locs L X hH hl hret) (fun h => kf h p l e R s m args below meth cd QQ H locs L X hH hl hret)
theorem gs_icmp_gt {x y : Int32} {off : Int} (hd : gw_D i pc (.if_icmp .gt off) 3 a b) (kt : y < x → gw_E V i (a, ls, st, w, cu, su) Q) (kf : ¬ (y < x) → gw_E V i (pc + 3, ls, st, w, cu, su) Q) : gw_E V i (pc, ls, .int y :: .int x :: st, w, cu, su) Q := by
  intro p l e R s m args below meth cd QQ H locs L X hH hl hret
  exact lv_icmp_gt X.1 X.2.1 hd.1 (by have := hd.2; unfold gc_lk at this; simpa using this) (fun h => kt h p l e R s m args below meth cd QQ H locs L X hH hl hret) (fun h => kf h p l e R s m args below meth cd QQ H locs L X hH hl hret)
theorem gs_if_le {x : Int32} {off : Int} (hd : gw_D i pc (.ifCond .le off) 3 a b) (kt : x ≤ 0 → gw_E V i (a, ls, st, w, cu, su) Q) (kf : ¬ (x ≤ 0) → gw_E V i (pc + 3, ls, st, w, cu, su) Q) : gw_E V i (pc, ls, .int x :: st, w, cu, su) Q := by
  intro p l e R s m args below meth cd QQ H locs L X hH hl hret
  exact lv_if_le X.1 X.2.1 hd.1 (by have := hd.2; unfold gc_lk at this; simpa using this) (fun h => kt h p l e R s m args below meth cd QQ H locs L X hH hl hret) (fun h => kf h p l e R s m args below meth cd QQ H locs L X hH hl hret)
theorem gs_icmp_le {x y : Int32} {off : Int} (hd : gw_D i pc (.if_icmp .le off) 3 a b) (kt : x ≤ y → gw_E V i (a, ls, st, w, cu, su) Q) (kf : ¬ (x ≤ y) → gw_E V i (pc + 3, ls, st, w, cu, su) Q) : gw_E V i (pc, ls, .int y :: .int x :: st, w, cu, su) Q := by
  intro p l e R s m args below meth cd QQ H locs L X hH hl hret
  exact lv_icmp_le X.1 X.2.1 hd.1 (by have := hd.2; unfold gc_lk at this; simpa using this) (fun h => kt h p l e R s m args below meth cd QQ H locs L X hH hl hret) (fun h => kf h p l e R s m args below meth cd QQ H locs L X hH hl hret)
theorem gs_goto {off : Int} (hd : gw_D i pc (.goto off) 3 a b) (k : gw_E V i (a, ls, st, w, cu, su) Q) : gw_E V i (pc, ls, st, w, cu, su) Q := by
  intro p l e R s m args below meth cd QQ H locs L X hH hl hret
  exact lv_goto X.1 X.2.1 hd.1 (by have := hd.2; unfold gc_lk at this; simpa using this) (k p l e R s m args below meth cd QQ H locs L X hH hl hret)
theorem gs_tblIn {dflt lo hi off : Int} {offs : Array Int} {x : Int32} (tgt : Nat) (hd : gw_D i pc (.tableswitch dflt lo hi offs) len a b) (h1 : ¬ x.toInt < lo) (h2 : ¬ hi < x.toInt) (ho : offs[(x.toInt - lo).toNat]? = some off) (ht : (pc : Int) + off = (tgt : Int)) (k : gw_E V i (tgt, ls, st, w, cu, su) Q) : gw_E V i (pc, ls, .int x :: st, w, cu, su) Q := by
  intro p l e R s m args below meth cd QQ H locs L X hH hl hret
  exact lv_tableIn X.1 X.2.1 hd.1 h1 h2 ho ht (k p l e R s m args below meth cd QQ H locs L X hH hl hret)
theorem gs_tblOut {dflt lo hi : Int} {offs : Array Int} {x : Int32} (tgt : Nat) (hd : gw_D i pc (.tableswitch dflt lo hi offs) len a b) (h1 : x.toInt < lo ∨ hi < x.toInt) (ht : (pc : Int) + dflt = (tgt : Int)) (k : gw_E V i (tgt, ls, st, w, cu, su) Q) : gw_E V i (pc, ls, .int x :: st, w, cu, su) Q := by
  intro p l e R s m args below meth cd QQ H locs L X hH hl hret
  exact lv_tableOut X.1 X.2.1 hd.1 h1 ht (k p l e R s m args below meth cd QQ H locs L X hH hl hret)
theorem gs_ret (hd : gw_D i pc .return_ 1 a b) (hr : gm_r i = none) (hc : cu ≤ gm_c i) (hs : su ≤ gm_s i) (q : Q none w) : gw_E V i (pc, ls, [], w, cu, su) Q := by
  intro p l e R s m args below meth cd QQ H locs L X hH hl hret
  exact hret none w H locs pc L cu su q hH ⟨hd.1, hr⟩ hc hs
theorem gs_iret {x : Int32} {ty : FieldType} (hd : gw_D i pc .ireturn 1 a b) (hr : gm_r i = some ty) (hn : narrow ty (.int x) = .int x) (hc : cu ≤ gm_c i) (hs : su ≤ gm_s i) (q : Q (some (.int x)) w) : gw_E V i (pc, ls, [.int x], w, cu, su) Q := by
  intro p l e R s m args below meth cd QQ H locs L X hH hl hret
  exact hret (some (.int x)) w H locs pc L cu su q hH ⟨hd.1, ty, hr, hn⟩ hc hs
theorem gs_lret {x : Int64} (hd : gw_D i pc .lreturn 1 a b) (hr : gm_r i = some .long) (hc : cu ≤ gm_c i) (hs : su ≤ gm_s i) (q : Q (some (.long x)) w) : gw_E V i (pc, ls, [.long x], w, cu, su) Q := by
  intro p l e R s m args below meth cd QQ H locs L X hH hl hret
  exact hret (some (.long x)) w H locs pc L cu su q hH ⟨hd.1, hr⟩ hc hs
end GR
