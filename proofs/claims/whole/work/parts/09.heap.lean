/-! ===== the rules: cells ===== -/
theorem gl_F_in {o x c k : Nat} (h : gl_F.any (fun r => r.1 == o && (r.2.1 == x && (r.2.2.1 == c && r.2.2.2.1 == k))) = true) : Cond.fieldLink (gb_n o) x (gb_F c k).1 (gb_F c k).2.1 (gb_F c k).2.2.1 ∈ gb_t ∧ c < 12 ∧ k < gb_K c := by
  obtain ⟨r, hr, h⟩ := List.any_eq_true.mp h
  simp only [Bool.and_eq_true, beq_iff_eq] at h
  obtain ⟨rfl, rfl, rfl, rfl⟩ := h
  have := List.all_eq_true.mp gl_F_ok r hr
  simp only [Bool.and_eq_true, decide_eq_true_eq] at this
  exact ⟨gb_tin (gb_at _ this.1) rfl, this.2.1, this.2.2⟩
theorem gw_T_lt {w : gw_W} {a t : Nat} (h : gw_T w a = t) (ht : t ≠ 99) : a < w.1.length := by
  rcases Nat.lt_or_ge a w.1.length with q | q
  · exact q
  · unfold gw_T at h
    rw [List.getD_eq_getElem?_getD, List.getElem?_eq_none q] at h
    exact absurd h.symm ht
theorem gw_T_3 {V : gw_V} {w : gw_W} {s : State} {H : Heap} {locs : List Loc} (hH : gw_H V w s H locs) {a t : Nat} (h : gw_T w a = t) (ht : t ≠ 16) : 3 ≤ a := by
  rcases Nat.lt_or_ge a 3 with q | q
  · exact absurd (h.symm.trans (hH.2.2.2.2 a q).1) ht
  · exact q
theorem gw_cell_obj {V : gw_V} {w : gw_W} {a c : Nat} (h : gw_T w a = c) (hc : c < 12) : gw_cell V w a = .inr (c, gw_fs V w c a) := by
  unfold gw_cell
  rw [h, if_neg (by omega), if_neg (by omega), if_neg (by omega), if_neg (by omega)]
theorem gw_cell_I {V : gw_V} {w : gw_W} {a : Nat} (h : gw_T w a = 12) : gw_cell V w a = .inl (V.2.1 0, gw_N w a, .inl (w.2.1 a)) := by
  unfold gw_cell
  rw [if_pos h]
theorem gw_cell_Z {V : gw_V} {w : gw_W} {a : Nat} (h : gw_T w a = 13) : gw_cell V w a = .inl (V.2.1 1, gw_N w a, .inl (w.2.1 a)) := by
  unfold gw_cell
  rw [h, if_neg (by omega), if_pos rfl]
theorem gw_cell_M {V : gw_V} {w : gw_W} {a : Nat} (h : gw_T w a = 14) : gw_cell V w a = .inl (V.2.1 2, gw_N w a, .inr (.inr (.inr (.inr (fun j => gw_ro V (w.2.2.2 a j)))))) := by
  unfold gw_cell
  rw [h, if_neg (by omega), if_neg (by omega), if_pos rfl]
theorem gw_cell_A {V : gw_V} {w : gw_W} {a : Nat} (h : gw_T w a = 15) : gw_cell V w a = .inl (V.2.1 3, gw_N w a, .inr (.inr (.inr (.inr (fun j => gw_ro V (w.2.2.2 a j)))))) := by
  unfold gw_cell
  rw [h, if_neg (by omega), if_neg (by omega), if_neg (by omega), if_pos rfl]
/-- a cell as the world has it -/
theorem gw_at {V : gw_V} {w : gw_W} {s : State} {H : Heap} {locs : List Loc} (hH : gw_H V w s H locs) {a t : Nat} (h : gw_T w a = t) (ht : t < 16) : (gw_ws V w)[a - 3]? = some (gw_ad V a, gw_cell V w a) :=
  gw_ws_get (gw_T_3 hH h (by omega)) (gw_T_lt h (by omega))
/-- another world of the same shapes, that differs at one cell of ours -/
theorem gw_H_set {V : gw_V} {w w' : gw_W} {s : State} {H H1 : Heap} {locs locs1 : List Loc} (hH : gw_H V w s H locs) {a t : Nat} (h : gw_T w a = t) (ht : t < 16) (hw : w'.1 = w.1) (ho : ∀ k, k ≠ a → gw_cell V w' k = gw_cell V w k) (hI : ∀ k, k ≠ a → w'.2.1 k = w.2.1 k) {x : va_E} (hx : gw_cell V w' a = x) (hP : va_P V.1 gb_cl ((gw_ws V w).set (a - 3) (gw_ad V a, x)) H1) (hz : w.1.length < 145 → H1.size = H.size) (hS : va_S (gw_A V) s.heap H1 locs1) : gw_H V w' s H1 locs1 := by
  obtain ⟨h1, h2, h3, h4, h5⟩ := hH
  have hH : gw_H V w s H locs := ⟨h1, h2, h3, h4, h5⟩
  rw [gw_ws_set (w' := w') (gw_T_3 hH h (by omega)) (gw_T_lt h (by omega)) (by rw [hw]) ho hx] at hP
  refine ⟨hP, fun h9 => by rw [hw] at h9 ⊢; rw [hz h9, h2 h9], by rw [hw]; exact h3, hS, fun k hk => ?_⟩
  have ha : 3 ≤ a := gw_T_3 hH h (by omega)
  rw [hI k (by omega)]
  have hT : gw_T w' k = gw_T w k := by unfold gw_T; rw [hw]
  have hN : gw_N w' k = gw_N w k := by unfold gw_N; rw [hw]
  rw [hT, hN]
  exact h5 k hk
theorem gw_cell_ext {V : gw_V} {w w' : gw_W} {k : Nat} (hw : w'.1 = w.1) (h1 : w'.2.1 k = w.2.1 k) (h2 : w'.2.2.1 k = w.2.2.1 k) (h3 : w'.2.2.2 k = w.2.2.2 k) : gw_cell V w' k = gw_cell V w k := by
  unfold gw_cell gw_fs gw_T gw_N
  have e : gw_fv V w' ((w.1.getD k (99, 0)).1) k = gw_fv V w ((w.1.getD k (99, 0)).1) k := by
    funext j
    unfold gw_fv
    rw [h1, h2, h3]
  rw [hw, e, h1, h3]
theorem gw_ro_pos {V : gw_V} {r : Nat} (h : r ≠ 0) : va_rf (gw_ro V r) = gw_mv V (.ref r) := by
  unfold gw_ro
  rw [if_neg h]
  rfl
section GH
variable {V : gw_V} {i pc len a b c k : Nat} {ls : List (Nat × Value)} {st : List Value} {sh : List (Nat × Nat)} {I : Nat → Nat → Int32} {J : Nat → Nat → Int64} {F : Nat → Nat → Nat} {w : gw_W} {cu su : Nat} {Q : Option Value → gw_W → Prop}
theorem gs_getf {x : Nat} {v : Value} (hd : gw_D i pc (.getfield x) 3 c k) (ht : gw_T w a = c) (hv : gw_fv V w c a k = gw_mv V v) (kk : gw_E V i (pc + 3, ls, v :: st, w, cu, su) Q) : gw_E V i (pc, ls, .ref a :: st, w, cu, su) Q := by
  intro p l e R s m args below meth cd QQ H locs L X hH hl hret
  obtain ⟨hin, hc, hk⟩ := gl_F_in hd.2
  have he := gw_at hH ht (by omega)
  rw [gw_cell_obj ht hc] at he
  exact va_get X.1 X.2.1 X.2.2.2.2.1 (gb_lay hc) X.2.2.2.1 X.2.2.2.2.2.2.2.2.2.2.2.2.1 hH.1 (a - 3) he (gb_cl_get hc) k hk (X.2.2.2.2.1 _ hin) (fun _ h9 => h9) (gw_fs_get hk) hd.1 (by rw [hv]; exact kk p l e R s m args below meth cd QQ H locs L X hH hl hret)
theorem gs_getI {x : Nat} (hd : gw_D i pc (.getfield x) 3 c k) (ht : gw_T (sh, I, J, F) a = c) (hs : gb_s c k = 0) (kk : gw_E V i (pc + 3, ls, .int (I a k) :: st, (sh, I, J, F), cu, su) Q) : gw_E V i (pc, ls, .ref a :: st, (sh, I, J, F), cu, su) Q :=
  gs_getf hd ht (by unfold gw_fv; rw [if_pos hs]; rfl) kk
theorem gs_getJ {x : Nat} (hd : gw_D i pc (.getfield x) 3 c k) (ht : gw_T (sh, I, J, F) a = c) (hs : gb_s c k = 1) (kk : gw_E V i (pc + 3, ls, .long (J a k) :: st, (sh, I, J, F), cu, su) Q) : gw_E V i (pc, ls, .ref a :: st, (sh, I, J, F), cu, su) Q :=
  gs_getf hd ht (by unfold gw_fv; rw [if_neg (by omega), if_pos hs]; rfl) kk
theorem gs_getR {x r : Nat} (hd : gw_D i pc (.getfield x) 3 c k) (ht : gw_T (sh, I, J, F) a = c) (hs : gb_s c k = 2) (hr : F a k = r) (h0 : r ≠ 0) (kk : gw_E V i (pc + 3, ls, .ref r :: st, (sh, I, J, F), cu, su) Q) : gw_E V i (pc, ls, .ref a :: st, (sh, I, J, F), cu, su) Q :=
  gs_getf hd ht (by unfold gw_fv; rw [if_neg (by omega), if_neg (by omega)]; show va_rf (gw_ro V (F a k)) = _; rw [hr]; exact gw_ro_pos h0) kk
/-- a field is written: the new world differs at this slot -/
theorem gs_putf {x : Nat} {v : Value} {w' : gw_W} (hd : gw_D i pc (.putfield x) 3 c k) (ht : gw_T w a = c) (hf : (gb_F c k).2.2.2 = false ∨ (gm_k i = 2 ∧ (gb_F c k).1 = gb_n (gm_o i))) (hn : narrow (gb_ty c k) (gw_mv V v) = gw_mv V v) (hfit : fits (gb_ty c k) (gw_mv V v) = true)
    (hw : w'.1 = w.1) (ho : ∀ q, q ≠ a → w'.2.1 q = w.2.1 q ∧ w'.2.2.1 q = w.2.2.1 q ∧ w'.2.2.2 q = w.2.2.2 q) (hs : ∀ q, q ≠ k → gw_fv V w' c a q = gw_fv V w c a q) (hv : gw_fv V w' c a k = gw_mv V v) (kk : gw_E V i (pc + 3, ls, st, w', cu, su) Q) : gw_E V i (pc, ls, v :: .ref a :: st, w, cu, su) Q := by
  intro p l e R s m args below meth cd QQ H locs L X hH hl hret
  obtain ⟨hin, hc, hk⟩ := gl_F_in hd.2
  have he := gw_at hH ht (by omega)
  have hD : va_D (gw_A V) (gw_ws V w) := gw_ws_D
  rw [gw_cell_obj ht hc] at he
  have key : ∀ (H1 : Heap) (locs1 : List Loc), va_P V.1 gb_cl ((gw_ws V w).set (a - 3) (gw_ad V a, .inr (c, (gw_fs V w c a).set k (gw_mv V v)))) H1 → H1.size = H.size → va_S (gw_A V) s.heap H1 locs1 → W p l e R s m args below meth cd H1 locs1 cu su QQ (F0 m (pc + 3) L (st.map (gw_mv V))) := by
    intro H1 locs1 hP1 hz hS1
    refine kk p l e R s m args below meth cd QQ H1 locs1 L X ?_ hl hret
    refine gw_H_set hH ht (by omega) hw (fun q hq => gw_cell_ext hw (ho q hq).1 (ho q hq).2.1 (ho q hq).2.2) (fun q hq => (ho q hq).1) ?_ hP1 (fun _ => hz) hS1
    have hT : gw_T w' a = c := by unfold gw_T; rw [hw]; exact ht
    rw [gw_cell_obj hT hc, gw_fs_set hk hs hv]
  have ha : gw_ad V a < H.size := (hH.1 _ _ he).lt
  have hKK := X.2.2.2.2.2.2.2.2.2.2.2.2.1
  have hty := fun q hq => gb_tok c hc q hq
  have hnm := gb_nm c hc
  obtain ⟨r, h1, cell, q1, q2, q3, q4⟩ := hH.1 _ _ he
  have hr : r = (gb_n c, gb_F c, gb_K c) := Option.some.inj (h1.symm.trans (gb_cl_get hc))
  subst hr
  have hap := va_apart (own := gb_n (gm_o i)) X.2.2.2.2.1 (gb_lay hc) (gb_ty c) hty hnm hKK (gb_cl_get hc)
  obtain ⟨hS, hfc, kC, hkC, hkind⟩ := hKK.1 c _ (gb_cl_get hc)
  obtain ⟨cf, kf, fi, f, hi, hsl⟩ := hS k hk
  have hst := (u_facts hfc hkC (u_lays X.2.2.2.2.1 (gb_lay hc) hk) hi).1
  have fin : ∀ H' : Heap, H'[gw_ad V a]? = some (cell.setSlot f.slot (gw_mv V v)) → H'.size = H.size → (∀ q, q ≠ gw_ad V a → H'[q]? = H[q]?) → W p l e R s m args below meth cd H' (locs ++ [⟨gw_ad V a, f.slot⟩]) cu su QQ (F0 m (pc + 3) L (st.map (gw_mv V))) := by
    intro H' e1 e2 e3
    rw [hsl] at e1 ⊢
    exact key H' _ (hH.1.set hD he ⟨_, gb_cl_get hc, t_OB.to (V := updV (vp_V (gw_fs V w c a)) k (gw_mv V v)) ⟨_, e1, q2, q3, t_set q4 hap hk (gw_mv V v)⟩ (fun j _ => vp_updV_set (by rw [gw_fs_len]; exact hk) (gw_mv V v) j)⟩ e3) e2 (hH.2.2.2.1.put e2 e3 (hD.2 _ _ he))
  have hlay := X.2.2.2.2.1 _ (gb_lay hc _ (u_in_lay hk))
  unfold u_lay at hlay
  rcases hf with hf | ⟨hf1, hf2⟩
  · rw [if_neg (by rw [hf]; decide)] at hlay
    have h6 := u_store hfc hkC hkind hlay hi (hty k hk) hn hfit
    have h7 : k2_Sd s f cell.cls (gw_mv V v) := by rw [q2]; exact h6
    refine W.putf X.1 X.2.1 X.2.2.2.1 (X.2.2.2.2.1 _ hin) hi hst (Or.inl h7.1) q1 (by rw [q3]; exact fun h => by cases h) (by rw [hsl]; exact k2_hasslot (q4 k hk)) h7.2.1 (by rw [q3]; exact h7.2.2) rfl rfl hd.1 ?_
    refine fin _ ?_ ?_ ?_
    · simp [Array.getElem?_setIfInBounds, ha]
    · simp
    · intro q hq
      simp [Array.getElem?_setIfInBounds, Ne.symm hq]
  · by_cases hfb : (gb_F c k).2.2.2 = true
    · rw [if_pos hfb] at hlay
      have hcf : m.cls = cf := by
        obtain ⟨_, _, c', _, _, _, -, -, hf', -, -, -, hown2, -⟩ := Cond.laysFinal_spec hlay
        have e1 : c' = cf := by have := hi.symm.trans hf'; simp at this; exact this.1.symm
        rw [hf2] at hown2
        rw [← e1]; exact Option.some.inj (X.2.2.2.1.symm.trans hown2)
      have h6 := u_fits hfc hkC hkind (Or.inr hlay) hi (hty k hk) hn hfit
      exact W.putFinK X.1 X.2.1 X.2.2.2.1 (X.2.2.2.2.1 _ hin) hi hst hcf (X.2.2.2.2.2.2.1 hf1) (by rw [q2]; exact h6) q1 q3 (by rw [hsl]; exact k2_hasslot (q4 k hk)) rfl rfl hd.1 fin
    · rw [if_neg hfb] at hlay
      have h6 := u_store hfc hkC hkind hlay hi (hty k hk) hn hfit
      have h7 : k2_Sd s f cell.cls (gw_mv V v) := by rw [q2]; exact h6
      refine W.putf X.1 X.2.1 X.2.2.2.1 (X.2.2.2.2.1 _ hin) hi hst (Or.inl h7.1) q1 (by rw [q3]; exact fun h => by cases h) (by rw [hsl]; exact k2_hasslot (q4 k hk)) h7.2.1 (by rw [q3]; exact h7.2.2) rfl rfl hd.1 ?_
      refine fin _ ?_ ?_ ?_
      · simp [Array.getElem?_setIfInBounds, ha]
      · simp
      · intro q hq
        simp [Array.getElem?_setIfInBounds, Ne.symm hq]
theorem gs_putI {x : Nat} {v : Int32} (hd : gw_D i pc (.putfield x) 3 c k) (ht : gw_T (sh, I, J, F) a = c) (hs : gb_s c k = 0) (hty : gb_ty c k = .int) (hf : (gb_F c k).2.2.2 = false) (kk : ∀ I2, I2 = gw_u I a k v → gw_E V i (pc + 3, ls, st, (sh, I2, J, F), cu, su) Q) : gw_E V i (pc, ls, .int v :: .ref a :: st, (sh, I, J, F), cu, su) Q := by
  refine gs_putf (w' := (sh, gw_u I a k v, J, F)) hd ht (Or.inl hf) (by rw [hty]; rfl) (by rw [hty]; rfl) rfl (fun q hq => ⟨gw_u_o hq, rfl, rfl⟩) (fun q hq => ?_) ?_ (kk _ rfl)
  · unfold gw_fv
    show (if _ then Value.int (gw_u I a k v a q) else _) = _
    rw [gw_u_s]
    simp [upd, hq]
  · unfold gw_fv
    rw [if_pos hs]
    show Value.int (gw_u I a k v a k) = _
    rw [gw_u_s]
    simp [upd, gw_mv]
theorem gs_putJ {x : Nat} {v : Int64} (hd : gw_D i pc (.putfield x) 3 c k) (ht : gw_T (sh, I, J, F) a = c) (hs : gb_s c k = 1) (hty : gb_ty c k = .long) (hf : (gb_F c k).2.2.2 = false) (kk : ∀ J2, J2 = gw_uJ J a k v → gw_E V i (pc + 3, ls, st, (sh, I, J2, F), cu, su) Q) : gw_E V i (pc, ls, .long v :: .ref a :: st, (sh, I, J, F), cu, su) Q := by
  refine gs_putf (w' := (sh, I, gw_uJ J a k v, F)) hd ht (Or.inl hf) (by rw [hty]; rfl) (by rw [hty]; rfl) rfl (fun q hq => ⟨rfl, gw_uJ_o hq, rfl⟩) (fun q hq => ?_) ?_ (kk _ rfl)
  · unfold gw_fv
    show (if _ then _ else if _ then Value.long (gw_uJ J a k v a q) else _) = _
    simp [gw_uJ, hq]
  · unfold gw_fv
    rw [if_neg (by omega), if_pos hs]
    show Value.long (gw_uJ J a k v a k) = _
    simp [gw_uJ, gw_mv]
theorem gs_putR {x v : Nat} (hd : gw_D i pc (.putfield x) 3 c k) (ht : gw_T (sh, I, J, F) a = c) (hs : gb_s c k = 2) (hf : gm_k i = 2 ∧ (gb_F c k).1 = gb_n (gm_o i)) (hn : narrow (gb_ty c k) (.ref (gw_ad V v)) = .ref (gw_ad V v)) (hfit : fits (gb_ty c k) (.ref (gw_ad V v)) = true) (h0 : v ≠ 0) (kk : ∀ F2, F2 = gw_uR F a k v → gw_E V i (pc + 3, ls, st, (sh, I, J, F2), cu, su) Q) : gw_E V i (pc, ls, .ref v :: .ref a :: st, (sh, I, J, F), cu, su) Q := by
  refine gs_putf (w' := (sh, I, J, gw_uR F a k v)) hd ht (Or.inr hf) hn hfit rfl (fun q hq => ⟨rfl, rfl, gw_uR_o hq⟩) (fun q hq => ?_) ?_ (kk _ rfl)
  · unfold gw_fv
    show (if _ then _ else if _ then _ else va_rf (gw_ro V (gw_uR F a k v a q))) = _
    simp [gw_uR, hq]
  · unfold gw_fv
    rw [if_neg (by omega), if_neg (by omega)]
    show va_rf (gw_ro V (gw_uR F a k v a k)) = _
    simp [gw_uR]
    exact gw_ro_pos h0
/-- an int of an array: of ours, or of one of the three -/
theorem gs_iaload {j : Int32} (hd : gw_D i pc .iaload 1 b c) (ht : gw_T (sh, I, J, F) a = 12 ∨ gw_T (sh, I, J, F) a = 16 ∧ a < 3) (hin : vp_in j (gw_N (sh, I, J, F) a)) (kk : gw_E V i (pc + 1, ls, .int (I a j.toNatClampNeg) :: st, (sh, I, J, F), cu, su) Q) : gw_E V i (pc, ls, .int j :: .ref a :: st, (sh, I, J, F), cu, su) Q := by
  intro p l e R s m args below meth cd QQ H locs L X hH hl hret
  have hKK := X.2.2.2.2.2.2.2.2.2.2.2.2.1
  rcases ht with ht | ⟨ht, h3⟩
  · have he := gw_at hH ht (by omega)
    rw [gw_cell_I ht] at he
    exact va_iald X.1 X.2.1 hKK hH.1 (a - 3) 0 he rfl hin hd.1 (kk p l e R s m args below meth cd QQ H locs L X hH hl hret)
  · have hT := (hH.2.2.2.2 a h3).2
    have ha : gw_ad V a = V.2.2.2 a := by unfold gw_ad; rw [if_pos h3]
    show W _ _ _ _ _ _ _ _ _ _ _ _ _ _ _ (F0 m pc L (.int j :: .ref (gw_ad V a) :: st.map (gw_mv V)))
    rw [ha]
    exact va_ti X.1 X.2.1 hT hH.2.2.2.1 hin rfl hd.1 (kk p l e R s m args below meth cd QQ H locs L X hH hl hret)
theorem gs_baload {j : Int32} (hd : gw_D i pc .baload 1 b c) (ht : gw_T (sh, I, J, F) a = 13) (hin : vp_in j (gw_N (sh, I, J, F) a)) (kk : gw_E V i (pc + 1, ls, .int (I a j.toNatClampNeg) :: st, (sh, I, J, F), cu, su) Q) : gw_E V i (pc, ls, .int j :: .ref a :: st, (sh, I, J, F), cu, su) Q := by
  intro p l e R s m args below meth cd QQ H locs L X hH hl hret
  have he := gw_at hH ht (by omega)
  rw [gw_cell_Z ht] at he
  exact va_zald X.1 X.2.1 X.2.2.2.2.2.2.2.2.2.2.2.2.1 hH.1 (a - 3) 1 he rfl hin hd.1 (kk p l e R s m args below meth cd QQ H locs L X hH hl hret)
/-- a reference out of an array of mornings, or of rows -/
theorem gs_aaload {j : Int32} {r : Nat} (hd : gw_D i pc .aaload 1 b c) (ht : gw_T (sh, I, J, F) a = 14 ∨ gw_T (sh, I, J, F) a = 15) (hin : vp_in j (gw_N (sh, I, J, F) a)) (hr : F a j.toNatClampNeg = r) (h0 : r ≠ 0) (kk : gw_E V i (pc + 1, ls, .ref r :: st, (sh, I, J, F), cu, su) Q) : gw_E V i (pc, ls, .int j :: .ref a :: st, (sh, I, J, F), cu, su) Q := by
  intro p l e R s m args below meth cd QQ H locs L X hH hl hret
  have hKK := X.2.2.2.2.2.2.2.2.2.2.2.2.1
  have hlt : j.toNatClampNeg < gw_N (sh, I, J, F) a := Nat.not_le.mp fun q => hin (Or.inr q)
  have hkk := kk p l e R s m args below meth cd QQ H locs L X hH hl hret
  have hv : va_rf (gw_ro V (F a j.toNatClampNeg)) = gw_mv V (.ref r) := by rw [hr]; exact gw_ro_pos h0
  rcases ht with ht | ht
  · have he := gw_at hH ht (by omega)
    rw [gw_cell_M ht] at he
    exact va_aldq X.1 X.2.1 hKK hH.1 (a - 3) 2 he rfl hin hd.1 (by rw [hv]; exact hkk)
  · have he := gw_at hH ht (by omega)
    rw [gw_cell_A ht] at he
    refine W.aald (v := gw_mv V (.ref r)) (ty := .array .int) X.1 X.2.1 (hH.1 _ _ he) ((hKK.2 3 _ rfl).1 (gw_N (sh, I, J, F) a) (fun j => va_rf (gw_ro V (F a j)))) rfl (fun q => by cases q) (by show ¬ (j < 0 ∨ (arrV _ _ _).slots.size ≤ _); rw [arrV_size]; exact hin) ?_ rfl rfl hd.1 hkk
    show (arrV _ _ _).slots[j.toNatClampNeg]? = _
    rw [arrV_read _ _ hlt, ← hv]
theorem gs_iastore {j v : Int32} (hL : 145 ≤ sh.length) (hd : gw_D i pc .iastore 1 b c) (ht : gw_T (sh, I, J, F) a = 12) (hin : vp_in j (gw_N (sh, I, J, F) a)) (kk : ∀ I2, I2 = gw_u I a j.toNatClampNeg v → gw_E V i (pc + 1, ls, st, (sh, I2, J, F), cu, su) Q) : gw_E V i (pc, ls, .int v :: .int j :: .ref a :: st, (sh, I, J, F), cu, su) Q := by
  intro p l e R s m args below meth cd QQ H locs L X hH hl hret
  have he := gw_at hH ht (by omega)
  rw [gw_cell_I ht] at he
  refine va_iast X.1 X.2.1 X.2.2.2.2.2.2.2.2.2.2.2.2.1 hH.1 gw_ws_D hH.2.2.2.1 (a - 3) 0 he rfl hin hd.1 (fun H1 locs1 hP1 _ hS1 => ?_)
  refine kk _ rfl p l e R s m args below meth cd QQ H1 locs1 L X ?_ hl hret
  refine gw_H_set (w' := (sh, gw_u I a j.toNatClampNeg v, J, F)) hH ht (by omega) rfl (fun q hq => gw_cell_ext rfl (gw_u_o hq) rfl rfl) (fun q hq => gw_u_o hq) ?_ hP1 (fun h => absurd h (Nat.not_lt.mpr hL)) hS1
  rw [gw_cell_I (w := (sh, gw_u I a j.toNatClampNeg v, J, F)) ht]
  show Sum.inl (_, _, Sum.inl (gw_u I a j.toNatClampNeg v a)) = _
  rw [gw_u_s]
  rfl
theorem gs_bastore {j v : Int32} (hL : 145 ≤ sh.length) (hd : gw_D i pc .bastore 1 b c) (ht : gw_T (sh, I, J, F) a = 13) (hin : vp_in j (gw_N (sh, I, J, F) a)) (kk : ∀ I2, I2 = gw_u I a j.toNatClampNeg (vp_nar .boolean v) → gw_E V i (pc + 1, ls, st, (sh, I2, J, F), cu, su) Q) : gw_E V i (pc, ls, .int v :: .int j :: .ref a :: st, (sh, I, J, F), cu, su) Q := by
  intro p l e R s m args below meth cd QQ H locs L X hH hl hret
  have he := gw_at hH ht (by omega)
  rw [gw_cell_Z ht] at he
  refine va_zast X.1 X.2.1 X.2.2.2.2.2.2.2.2.2.2.2.2.1 hH.1 gw_ws_D hH.2.2.2.1 (a - 3) 1 he rfl hin hd.1 (fun H1 locs1 hP1 _ hS1 => ?_)
  refine kk _ rfl p l e R s m args below meth cd QQ H1 locs1 L X ?_ hl hret
  refine gw_H_set (w' := (sh, gw_u I a j.toNatClampNeg (vp_nar .boolean v), J, F)) hH ht (by omega) rfl (fun q hq => gw_cell_ext rfl (gw_u_o hq) rfl rfl) (fun q hq => gw_u_o hq) ?_ hP1 (fun h => absurd h (Nat.not_lt.mpr hL)) hS1
  rw [gw_cell_Z (w := (sh, gw_u I a j.toNatClampNeg (vp_nar .boolean v), J, F)) ht]
  show Sum.inl (_, _, Sum.inl (gw_u I a j.toNatClampNeg (vp_nar .boolean v) a)) = _
  rw [gw_u_s]
  rfl
theorem gs_alen {v : Int32} (hd : gw_D i pc .arraylength 1 b c) (ht : gw_T (sh, I, J, F) a = 16) (h3 : a < 3) (hv : Int32.ofNat (gw_N (sh, I, J, F) a) = v) (kk : gw_E V i (pc + 1, ls, .int v :: st, (sh, I, J, F), cu, su) Q) : gw_E V i (pc, ls, .ref a :: st, (sh, I, J, F), cu, su) Q := by
  intro p l e R s m args below meth cd QQ H locs L X hH hl hret
  have hT := (hH.2.2.2.2 a h3).2
  have ha : gw_ad V a = V.2.2.2 a := by unfold gw_ad; rw [if_pos h3]
  show W _ _ _ _ _ _ _ _ _ _ _ _ _ _ _ (F0 m pc L (.ref (gw_ad V a) :: st.map (gw_mv V)))
  rw [ha]
  exact va_tlen X.1 X.2.1 hT hH.2.2.2.1 hv hd.1 (kk p l e R s m args below meth cd QQ H locs L X hH hl hret)
theorem gl_S_in {o x : Nat} (h : gl_S.any (fun r => r.1 == o && (r.2.1 == x && r.2.2.1 == a)) = true) : Cond.fieldLink (gb_n o) x "MorningBill" (gl_sn a) "[I" ∈ gb_t ∨ (gb_n o = "MorningBill$Groups" ∧ x = 65 ∧ a = 1) := by
  obtain ⟨r, hr, h⟩ := List.any_eq_true.mp h
  simp only [Bool.and_eq_true, beq_iff_eq] at h
  obtain ⟨rfl, rfl, rfl⟩ := h
  have h1 := List.all_eq_true.mp gl_S_ok r hr
  by_cases e : r.2.2.2 = 0
  · rw [if_pos e, decide_eq_true_eq] at h1
    exact Or.inl (gb_tin h1 rfl)
  · right
    have : ∀ r ∈ gl_S, r.2.2.2 ≠ 0 → gb_n r.1 = "MorningBill$Groups" ∧ r.2.1 = 65 ∧ r.2.2.1 = 1 := by decide +kernel
    exact this r hr e
theorem gl_S_a {o x : Nat} (h : gl_S.any (fun r => r.1 == o && (r.2.1 == x && r.2.2.1 == a)) = true) : a = 1 ∨ a = 2 := by
  obtain ⟨r, hr, h⟩ := List.any_eq_true.mp h
  simp only [Bool.and_eq_true, beq_iff_eq] at h
  obtain ⟨rfl, rfl, rfl⟩ := h
  have : ∀ r ∈ gl_S, r.2.2.1 = 1 ∨ r.2.2.1 = 2 := by decide +kernel
  exact this r hr
end GH
