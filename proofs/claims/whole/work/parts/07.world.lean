/-! ===== the abstract machine's world: cells by number; 0, 1, 2 are arrays that nobody writes (the script, FACTORIALS, TENS) ===== -/
/-- the shapes (kind, length), the ints, the longs, the references (0: null) -/
abbrev gw_W : Type := List (Nat × Nat) × (Nat → Nat → Int32) × (Nat → Nat → Int64) × (Nat → Nat → Nat)
/-- the classes' numbers, the array classes' numbers, where our cells begin, where the three arrays lie -/
abbrev gw_V : Type := va_G × (Nat → ClassId) × Nat × (Nat → Nat)
def gw_T (w : gw_W) (a : Nat) : Nat := (w.1.getD a (99, 0)).1
def gw_N (w : gw_W) (a : Nat) : Nat := (w.1.getD a (99, 0)).2
def gw_ad (V : gw_V) (r : Nat) : Nat := if r < 3 then V.2.2.2 r else V.2.2.1 + (r - 3)
def gw_mv (V : gw_V) : Value → Value
  | .ref r => .ref (gw_ad V r)
  | v => v
def gw_ro (V : gw_V) (r : Nat) : Option Nat := if r = 0 then none else some (gw_ad V r)
def gw_fv (V : gw_V) (w : gw_W) (c k j : Nat) : Value := if gb_s c j = 0 then .int (w.2.1 k j) else if gb_s c j = 1 then .long (w.2.2.1 k j) else va_rf (gw_ro V (w.2.2.2 k j))
def gw_fs (V : gw_V) (w : gw_W) (c k : Nat) : List Value := (List.range (gb_K c)).map (gw_fv V w c k)
def gw_cell (V : gw_V) (w : gw_W) (k : Nat) : va_E :=
  if gw_T w k = 12 then .inl (V.2.1 0, gw_N w k, .inl (w.2.1 k))
  else if gw_T w k = 13 then .inl (V.2.1 1, gw_N w k, .inl (w.2.1 k))
  else if gw_T w k = 14 then .inl (V.2.1 2, gw_N w k, .inr (.inr (.inr (.inr (fun j => gw_ro V (w.2.2.2 k j))))))
  else if gw_T w k = 15 then .inl (V.2.1 3, gw_N w k, .inr (.inr (.inr (.inr (fun j => gw_ro V (w.2.2.2 k j))))))
  else .inr (gw_T w k, gw_fs V w (gw_T w k) k)
def gw_ws (V : gw_V) (w : gw_W) : va_W := (List.range (w.1.length - 3)).map (fun j => (V.2.2.1 + j, gw_cell V w (j + 3)))
def gw_A (V : gw_V) : Nat → Prop := fun q => V.2.2.1 ≤ q
def gw_ty (V : gw_V) : List (ClassId × FieldType) := [(V.2.1 0, .int), (V.2.1 1, .boolean), (V.2.1 2, .object "MorningBill$Morning"), (V.2.1 3, .array .int)]
theorem gw_ws_get {V : gw_V} {w : gw_W} {a : Nat} (h3 : 3 ≤ a) (h : a < w.1.length) : (gw_ws V w)[a - 3]? = some (gw_ad V a, gw_cell V w a) := by
  unfold gw_ws
  rw [List.getElem?_map, List.getElem?_range (by omega)]
  show some (_, _) = _
  rw [Nat.sub_add_cancel h3]
  unfold gw_ad
  rw [if_neg (by omega)]
theorem gw_ws_at {V : gw_V} {w : gw_W} {k : Nat} {q : Nat × va_E} (h : (gw_ws V w)[k]? = some q) : k + 3 < w.1.length ∧ q = (V.2.2.1 + k, gw_cell V w (k + 3)) := by
  unfold gw_ws at h
  rw [List.getElem?_map] at h
  by_cases hk : k < w.1.length - 3
  · rw [List.getElem?_range hk] at h
    exact ⟨by omega, (Option.some.inj h).symm⟩
  · have hn : (List.range (w.1.length - 3))[k]? = none := List.getElem?_eq_none (by rw [List.length_range]; omega)
    rw [hn] at h
    cases h
theorem gw_ws_D {V : gw_V} {w : gw_W} : va_D (gw_A V) (gw_ws V w) := by
  refine ⟨fun i j p q hi hj e => ?_, fun k q hk => ?_⟩
  · obtain ⟨-, rfl⟩ := gw_ws_at hi
    obtain ⟨-, rfl⟩ := gw_ws_at hj
    have e : V.2.2.1 + i = V.2.2.1 + j := e
    omega
  · obtain ⟨-, rfl⟩ := gw_ws_at hk
    exact Nat.le_add_right _ _
theorem gw_ws_set {V : gw_V} {w w' : gw_W} {a : Nat} {x : va_E} (h3 : 3 ≤ a) (h : a < w.1.length) (hs : w'.1.length = w.1.length) (ho : ∀ k, k ≠ a → gw_cell V w' k = gw_cell V w k) (hx : gw_cell V w' a = x) : (gw_ws V w).set (a - 3) (gw_ad V a, x) = gw_ws V w' := by
  apply List.ext_getElem?
  intro k
  by_cases hk : k = a - 3
  · subst hk
    rw [gw_ws_get (w := w') h3 (by omega), List.getElem?_set_self (by unfold gw_ws; simp; omega), hx]
  · rw [List.getElem?_set_ne (Ne.symm hk)]
    unfold gw_ws
    rw [List.getElem?_map, List.getElem?_map, hs]
    by_cases hl : k < w.1.length - 3
    · rw [List.getElem?_range hl]
      show some (_, _) = some (_, _)
      rw [ho (k + 3) (by omega)]
    · have hn : (List.range (w.1.length - 3))[k]? = none := List.getElem?_eq_none (by rw [List.length_range]; omega)
      rw [hn]; rfl
/-- an int is written -/
def gw_u (f : Nat → Nat → Int32) (a k : Nat) (x : Int32) : Nat → Nat → Int32 := fun p q => if p = a ∧ q = k then x else f p q
def gw_uJ (f : Nat → Nat → Int64) (a k : Nat) (x : Int64) : Nat → Nat → Int64 := fun p q => if p = a ∧ q = k then x else f p q
def gw_uR (f : Nat → Nat → Nat) (a k : Nat) (x : Nat) : Nat → Nat → Nat := fun p q => if p = a ∧ q = k then x else f p q
theorem gw_u_o {f : Nat → Nat → Int32} {a k : Nat} {x : Int32} {p : Nat} (h : p ≠ a) : gw_u f a k x p = f p := by funext q; simp [gw_u, h]
theorem gw_u_s {f : Nat → Nat → Int32} {a k : Nat} {x : Int32} : gw_u f a k x a = upd (f a) k x := by funext q; simp [gw_u, upd]
theorem gw_uJ_o {f : Nat → Nat → Int64} {a k : Nat} {x : Int64} {p : Nat} (h : p ≠ a) : gw_uJ f a k x p = f p := by funext q; simp [gw_uJ, h]
theorem gw_uR_o {f : Nat → Nat → Nat} {a k : Nat} {x : Nat} {p : Nat} (h : p ≠ a) : gw_uR f a k x p = f p := by funext q; simp [gw_uR, h]
theorem gw_fs_get {V : gw_V} {w : gw_W} {c k j : Nat} (h : j < gb_K c) : (gw_fs V w c k)[j]? = some (gw_fv V w c k j) := by
  unfold gw_fs
  rw [List.getElem?_map, List.getElem?_range h]; rfl
theorem gw_fs_len {V : gw_V} {w : gw_W} {c k : Nat} : (gw_fs V w c k).length = gb_K c := by simp [gw_fs]
theorem gw_fs_set {V : gw_V} {w w' : gw_W} {c k j : Nat} {v : Value} (h : j < gb_K c) (ho : ∀ q, q ≠ j → gw_fv V w' c k q = gw_fv V w c k q) (hv : gw_fv V w' c k j = v) : (gw_fs V w c k).set j v = gw_fs V w' c k := by
  apply List.ext_getElem?
  intro q
  by_cases hq : q = j
  · subst hq
    rw [gw_fs_get h, List.getElem?_set_self (by rw [gw_fs_len]; exact h), hv]
  · rw [List.getElem?_set_ne (Ne.symm hq)]
    unfold gw_fs
    rw [List.getElem?_map, List.getElem?_map]
    cases he : (List.range (gb_K c))[q]? with
    | none => rfl
    | some z =>
      have hz : z = q := by
        have := List.getElem?_eq_some_iff.mp he
        obtain ⟨h1, h2⟩ := this
        rw [List.getElem_range] at h2
        exact h2.symm
      subst hz
      show some _ = some _
      rw [ho z hq]
/-- what the tables say of the classes, of the static arrays, of nest mates' words -/
def gw_NW (s : State) : Prop := (∀ r ∈ gl_N, va_Nw (.methodLinkNest (gb_n r.1) r.2.1 (gl_y r.2.2.1) "MorningBill") s) ∧ va_Nw (.fieldLinkNest "MorningBill$Groups" 65 "MorningBill" "FACTORIALS" "[I" "MorningBill") s ∧ va_AO "MorningBill$Morning" s ∧ (Cond.arrayOver (.array .int)).before #[] s = true
def gw_K (V : gw_V) (s : State) : Prop := va_K V.1 gb_cl (gw_ty V) s ∧ V.2.2.1 ≤ s.heap.size ∧ va_Z "MorningBill" "FACTORIALS" "[I" (.ref (V.2.2.2 1)) (gw_A V) s s.heap ∧ va_Z "MorningBill" "TENS" "[I" (.ref (V.2.2.2 2)) (gw_A V) s s.heap ∧ gw_NW s
/-- the heap is the world's, since the frame's start nothing outside of it has changed -/
def gw_H (V : gw_V) (w : gw_W) (s : State) (H : Heap) (locs : List Loc) : Prop :=
  va_P V.1 gb_cl (gw_ws V w) H ∧ (w.1.length < 145 → H.size = V.2.2.1 + (w.1.length - 3)) ∧ 3 ≤ w.1.length ∧ va_S (gw_A V) s.heap H locs ∧ ∀ k, k < 3 → gw_T w k = 16 ∧ va_T .int (V.2.2.2 k) (gw_N w k) (fun j => .int (w.2.1 k j)) (gw_A V) s s.heap
/-- a frame of method i -/
def gw_X (V : gw_V) (i : Nat) (p : Program) (R : Room) (s : State) (m : MethodId) (args : Array Value) (meth : Method) (c : Code) : Prop :=
  p.tables.exec = Jvm.exec ∧ c.code = gm_b i ∧ c.maxLocals = gm_L i ∧ s.vm.findClass (gb_n (gm_o i)) = some m.cls ∧ (∀ w ∈ gb_t, w.before args s = true) ∧ meth.locks = false ∧ (gm_k i = 2 → meth.name = "<init>") ∧ meth.sig.returnType = gm_r i ∧ gm_f i ≤ R.frames ∧ gm_x i ≤ R.locals ∧ gm_c i ≤ R.cells ∧ gm_s i ≤ R.slots ∧ gw_K V s
/-- where a walk stands: counter, locals, stack, world, cells and slots made -/
abbrev gw_c : Type := Nat × List (Nat × Value) × List Value × gw_W × Nat × Nat
def gw_lm (V : gw_V) (ls : List (Nat × Value)) : List (Nat × Value) := ls.map (fun q => (q.1, gw_mv V q.2))
/-- an end of method i at pc, with an answer -/
def gw_end (i pc : Nat) : Option Value → Prop
  | none => decode (gm_b i) pc = .ok (.return_, 1) ∧ gm_r i = none
  | some (.int x) => decode (gm_b i) pc = .ok (.ireturn, 1) ∧ ∃ ty, gm_r i = some ty ∧ narrow ty (.int x) = .int x
  | some (.long _) => decode (gm_b i) pc = .ok (.lreturn, 1) ∧ gm_r i = some .long
  | _ => False
/-- THE JUDGEMENT: from here method i comes to its end, with an answer and a world of which Q holds -/
def gw_E (V : gw_V) (i : Nat) (c : gw_c) (Q : Option Value → gw_W → Prop) : Prop :=
  ∀ (p : Program) (l : Launch) (e : Env) (R : Room) (s : State) (m : MethodId) (args : Array Value) (below : List Frame) (meth : Method) (cd : Code) (QQ : State → Prop) (H : Heap) (locs : List Loc) (L : Array Slot),
    gw_X V i p R s m args meth cd → gw_H V c.2.2.2.1 s H locs → lv_has L (gm_L i) (gw_lm V c.2.1) →
    (∀ (v : Option Value) (w' : gw_W) (H' : Heap) (locs' : List Loc) (pc' : Nat) (L' : Array Slot) (cu su : Nat), Q v w' → gw_H V w' s H' locs' → gw_end i pc' v → cu ≤ gm_c i → su ≤ gm_s i → W p l e R s m args below meth cd H' locs' cu su QQ (F0 m pc' L' (v.toList.map (gw_mv V)))) →
    W p l e R s m args below meth cd H locs c.2.2.2.2.1 c.2.2.2.2.2 QQ (F0 m c.1 L (c.2.2.1.map (gw_mv V)))
/-- a row of the code table -/
def gw_D (i pc : Nat) (ins : Instr) (len a b : Nat) : Prop := decode (gm_b i) pc = .ok (ins, len) ∧ gc_lk i ins pc a b = true
theorem gd {i : Nat} {l : List gc_O} (h : ∀ r ∈ l, gc_ok i r = true) (k : Nat) {pc : Nat} {ins : Instr} {len a b : Nat} (hk : l[k]? = some (pc, ins, len, a, b)) : gw_D i pc ins len a b := by
  have := h _ (List.mem_of_getElem? hk)
  unfold gc_ok at this
  rw [Bool.and_eq_true, decide_eq_true_eq] at this
  exact this
theorem gw_cat (V : gw_V) (v : Value) : (gw_mv V v).category = v.category := by cases v <;> rfl
