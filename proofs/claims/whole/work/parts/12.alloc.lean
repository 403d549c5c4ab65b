/-! ===== the rules: cells that are made ===== -/
theorem gw_T_app {w w' : gw_W} {ex : List (Nat × Nat)} (h : w'.1 = w.1 ++ ex) {k : Nat} (hk : k < w.1.length) : gw_T w' k = gw_T w k ∧ gw_N w' k = gw_N w k := by
  unfold gw_T gw_N
  rw [h, List.getD_eq_getElem?_getD, List.getD_eq_getElem?_getD, List.getElem?_append_left hk]
  exact ⟨rfl, rfl⟩
theorem gw_cell_app {V : gw_V} {w w' : gw_W} {ex : List (Nat × Nat)} (h : w'.1 = w.1 ++ ex) {k : Nat} (hk : k < w.1.length) (h1 : w'.2.1 k = w.2.1 k) (h2 : w'.2.2.1 k = w.2.2.1 k) (h3 : w'.2.2.2 k = w.2.2.2 k) : gw_cell V w' k = gw_cell V w k := by
  have e : gw_fv V w' (gw_T w k) k = gw_fv V w (gw_T w k) k := by
    funext j
    unfold gw_fv
    rw [h1, h2, h3]
  unfold gw_cell gw_fs
  rw [(gw_T_app h hk).1, (gw_T_app h hk).2, e, h1, h3]
theorem gw_H_push {V : gw_V} {w w' : gw_W} {s : State} {H H1 : Heap} {locs : List Loc} {ex : List (Nat × Nat)} (hH : gw_H V w s H locs) (hn : w.1.length < 145) (hK : V.2.2.1 ≤ s.heap.size) (h : w'.1 = w.1 ++ ex) (hs : ∀ k, k < w.1.length → w'.2.1 k = w.2.1 k ∧ w'.2.2.1 k = w.2.2.1 k ∧ w'.2.2.2 k = w.2.2.2 k) (hz : H1.size = H.size + ex.length) (ho : ∀ q : Nat, q < H.size → H1[q]? = H[q]?)
    (hx : ∀ k, w.1.length ≤ k → k < w.1.length + ex.length → va_at V.1 gb_cl (gw_ad V k, gw_cell V w' k) H1) : gw_H V w' s H1 locs := by
  obtain ⟨h1, h2, h3, h4, h5⟩ := hH
  have hsz := h2 hn
  refine ⟨fun k q hk => ?_, fun _ => by rw [hz, hsz, h, List.length_append]; omega, by rw [h, List.length_append]; omega, ⟨by rw [hz]; exact Nat.le_trans h4.1 (Nat.le_add_right _ _), fun q g1 g2 => by rw [ho q (Nat.lt_of_lt_of_le g1 h4.1)]; exact h4.2.1 q g1 g2, h4.2.2⟩, fun k hk => ?_⟩
  · obtain ⟨g1, rfl⟩ := gw_ws_at hk
    by_cases hl : k + 3 < w.1.length
    · have hg := gw_ws_get (V := V) (w := w) (a := k + 3) (by omega) hl
      have hv := h1 _ _ hg
      have e1 : gw_ad V (k + 3) = V.2.2.1 + k := by unfold gw_ad; rw [if_neg (by omega)]; omega
      rw [e1] at hv
      rw [gw_cell_app h hl (hs _ hl).1 (hs _ hl).2.1 (hs _ hl).2.2]
      exact hv.kept (ho _ (by rw [hsz]; show V.2.2.1 + k < _; omega))
    · have e1 : gw_ad V (k + 3) = V.2.2.1 + k := by unfold gw_ad; rw [if_neg (by omega)]; omega
      have := hx (k + 3) (by omega) (by rw [h, List.length_append] at g1; exact g1)
      rw [e1] at this
      exact this
  · have hl : k < w.1.length := by omega
    rw [(gw_T_app h hl).1, (gw_T_app h hl).2, (hs k hl).1]
    exact h5 k hk
theorem gl_C_in {o x t : Nat} (h : gl_C.any (fun r => r.1 == o && (r.2.1 == x && r.2.2.1 == t)) = true) : Cond.classLink (gb_n o) x (gl_cn t) ∈ gb_t := by
  obtain ⟨r, hr, h⟩ := List.any_eq_true.mp h
  simp only [Bool.and_eq_true, beq_iff_eq] at h
  obtain ⟨rfl, rfl, rfl⟩ := h
  exact gb_tin (gb_at _ (List.all_eq_true.mp gl_C_ok r hr)) rfl
set_option maxRecDepth 100000 in
theorem gb_new : ∀ c, c < 12 → (Cond.instantiable (gb_n c) (gb_K c) ∈ lw_tbl ∧ goodWord (.instantiable (gb_n c) (gb_K c)) = true) ∧ (Cond.initialized (gb_n c) ∈ lw_tbl ∧ goodWord (.initialized (gb_n c)) = true) := by decide +kernel
theorem gb_dflt : ∀ c, c < 12 → ∀ k, k < gb_K c → defaultValue (gb_ty c k) = (if gb_s c k = 0 then .int 0 else if gb_s c k = 1 then .long 0 else .null) := by decide +kernel
/-- a cell's slots as they are born -/
def gw_z {α : Type} (f : Nat → Nat → α) (n m : Nat) (z : α) : Nat → Nat → α := fun p q => if n ≤ p ∧ p < n + m then z else f p q
theorem gw_z_lt {α : Type} {f : Nat → Nat → α} {n m k : Nat} {z : α} (h : k < n) : gw_z f n m z k = f k := by
  funext q
  unfold gw_z
  rw [if_neg (by omega)]
theorem gw_z_in {α : Type} {f : Nat → Nat → α} {n m k : Nat} {z : α} (h : n ≤ k) (h2 : k < n + m) : gw_z f n m z k = fun _ => z := by
  funext q
  unfold gw_z
  rw [if_pos ⟨h, h2⟩]
theorem gw_T_end {sh : List (Nat × Nat)} {t n : Nat} {I : Nat → Nat → Int32} {J : Nat → Nat → Int64} {F : Nat → Nat → Nat} : gw_T (sh ++ [(t, n)], I, J, F) sh.length = t ∧ gw_N (sh ++ [(t, n)], I, J, F) sh.length = n := by
  have e : (sh ++ [(t, n)]).getD sh.length (99, 0) = (t, n) := by
    rw [List.getD_eq_getElem?_getD, List.getElem?_append_right (Nat.le_refl _), Nat.sub_self]
    rfl
  exact ⟨congrArg Prod.fst e, congrArg Prod.snd e⟩
section GA
variable {V : gw_V} {i pc a b c k : Nat} {ls : List (Nat × Value)} {st : List Value} {sh : List (Nat × Nat)} {I : Nat → Nat → Int32} {J : Nat → Nat → Int64} {F : Nat → Nat → Nat} {cu su : Nat} {Q : Option Value → gw_W → Prop}
theorem gs_new {x : Nat} (hd : gw_D i pc (.new x) 3 c b) (hc : c < 12) (hn : sh.length < 145) (hcu : cu + 1 ≤ gm_c i) (hsu : su + gb_K c ≤ gm_s i)
    (kk : gw_E V i (pc + 3, ls, .ref sh.length :: st, (sh ++ [(c, gb_K c)], gw_z I sh.length 1 0, gw_z J sh.length 1 0, gw_z F sh.length 1 0), cu + 1, su + gb_K c) Q) : gw_E V i (pc, ls, st, (sh, I, J, F), cu, su) Q := by
  intro p l e R s m args below meth cd QQ H locs L X hH hl hret
  obtain ⟨hx, hb, hml, hown, hts, hlk, hnm, hr, hfr, hlo, hce, hsl, hK⟩ := id X
  have hcl := hd.2
  unfold gc_lk at hcl
  rw [if_neg (by omega)] at hcl
  have hlink := hts _ (gl_C_in hcl)
  have hcn : gl_cn c = gb_n c := by unfold gl_cn; rw [if_neg (by omega)]
  rw [hcn] at hlink
  obtain ⟨⟨g1, g2⟩, g3, g4⟩ := gb_new c hc
  have hKn := hK.1.1 c _ (gb_cl_get hc)
  have hsz : H.size = V.2.2.1 + (sh.length - 3) := hH.2.1 hn
  have had : gw_ad V sh.length = H.size := by
    have h3 : 3 ≤ sh.length := hH.2.2.1
    unfold gw_ad
    rw [if_neg (by omega), hsz]
  refine W.newcK hx hb hown hlink (hts _ (gb_tin g1 g2)) (hts _ (gb_tin g3 g4)) rfl hd.1 (by show cu + 1 ≤ _; omega) (by show su + gb_K c ≤ _; omega) hKn.2.1 rfl fun H1 kC hkC e1 z1 o1 => ?_
  have hborn := u_born (gb_ty c) hts (gb_lay hc) hKn hkC e1 (gb_tok c hc)
  have hH1 : gw_H V (sh ++ [(c, gb_K c)], gw_z I sh.length 1 0, gw_z J sh.length 1 0, gw_z F sh.length 1 0) s H1 locs := by
    refine gw_H_push (w := (sh, I, J, F)) hH hn hK.2.1 rfl (fun k hk => ⟨gw_z_lt hk, gw_z_lt hk, gw_z_lt hk⟩) z1 o1 (fun k hk1 hk2 => ?_)
    have hk : k = sh.length := by
      have : k < sh.length + 1 := hk2
      have : sh.length ≤ k := hk1
      omega
    subst hk
    rw [gw_cell_obj (gw_T_end).1 hc, had]
    refine ⟨_, gb_cl_get hc, hborn.to (fun j hj => ?_)⟩
    unfold vp_V
    rw [List.getD_eq_getElem?_getD, gw_fs_get hj]
    show _ = gw_fv V _ c sh.length j
    rw [gb_dflt c hc j hj]
    unfold gw_fv
    show _ = if _ then Value.int (gw_z I sh.length 1 0 sh.length j) else if _ then Value.long (gw_z J sh.length 1 0 sh.length j) else va_rf (gw_ro V (gw_z F sh.length 1 0 sh.length j))
    rw [gw_z_in (Nat.le_refl _) (by omega), gw_z_in (Nat.le_refl _) (by omega), gw_z_in (Nat.le_refl _) (by omega)]
    rfl
  have := kk p l e R s m args below meth cd QQ H1 locs L X hH1 hl hret
  show W _ _ _ _ _ _ _ _ _ _ _ _ _ _ _ { (F0 m pc L (st.map (gw_mv V))) with pc := pc + 3, stack := .ref H.size :: st.map (gw_mv V) }
  rw [← had]
  exact this
theorem gs_newarray {n : Int32} {N t : Nat} {aty : ArrayType} {ty : FieldType} (hd : gw_D i pc (.newarray aty) 2 t b) (hty : (aty = .int ∧ ty = .int ∧ t = 12) ∨ (aty = .boolean ∧ ty = .boolean ∧ t = 13)) (hsh : sh.length < 145) (hn : ¬ n < 0) (hN : n.toNatClampNeg = N) (hb1 : N * 4 ≤ 536870912) (hcu : cu + 1 ≤ gm_c i) (hsu : su + N ≤ gm_s i)
    (kk : gw_E V i (pc + 2, ls, .ref sh.length :: st, (sh ++ [(t, N)], gw_z I sh.length 1 0, gw_z J sh.length 1 0, gw_z F sh.length 1 0), cu + 1, su + N) Q) : gw_E V i (pc, ls, .int n :: st, (sh, I, J, F), cu, su) Q := by
  intro p l e R s m args below meth cd QQ H locs L X hH hl hret
  obtain ⟨hx, hb, hml, hown, hts, hlk, hnm, hr, hfr, hlo, hce, hsl, hK⟩ := id X
  have hsz : H.size = V.2.2.1 + (sh.length - 3) := hH.2.1 hsh
  have had : gw_ad V sh.length = H.size := by
    have h3 : 3 ≤ sh.length := hH.2.2.1
    unfold gw_ad
    rw [if_neg (by omega), hsz]
  have harr : (Cond.arrayClass (newarray.typeOf aty)).before args s = true := by
    rcases hty with ⟨rfl, -, -⟩ | ⟨rfl, -, -⟩
    · exact hts _ (gl_own_in (by decide +kernel))
    · exact hts _ (gl_own_in (by decide +kernel))
  refine va_newaK hx hb harr rfl hd.1 rfl hn hN ?_ (by show cu + 1 ≤ _; omega) (by show su + N ≤ _; omega) rfl fun H1 cA e1 z1 o1 hAr hNm => ?_
  · rcases hty with ⟨rfl, -, -⟩ | ⟨rfl, -, -⟩
    · exact hb1
    · show N * 1 ≤ _
      omega
  have hH1 : gw_H V (sh ++ [(t, N)], gw_z I sh.length 1 0, gw_z J sh.length 1 0, gw_z F sh.length 1 0) s H1 locs := by
    refine gw_H_push (w := (sh, I, J, F)) hH hsh hK.2.1 rfl (fun k hk => ⟨gw_z_lt hk, gw_z_lt hk, gw_z_lt hk⟩) z1 o1 (fun k hk1 hk2 => ?_)
    have hk : k = sh.length := by
      have : k < sh.length + 1 := hk2
      have : sh.length ≤ k := hk1
      omega
    subst hk
    rcases hty with ⟨rfl, -, rfl⟩ | ⟨rfl, -, rfl⟩
    · rw [gw_cell_I (gw_T_end).1, had]
      have hcA : V.2.1 0 = cA := Option.some.inj ((hK.1.2 0 _ rfl).2.symm.trans hNm)
      show H1[H.size]? = some (vp_cell (V.2.1 0) (gw_N _ sh.length, .inl (gw_z I sh.length 1 0 sh.length)))
      rw [gw_T_end.2, gw_z_in (Nat.le_refl _) (by omega), hcA]
      exact e1
    · rw [gw_cell_Z (gw_T_end).1, had]
      have hcA : V.2.1 1 = cA := Option.some.inj ((hK.1.2 1 _ rfl).2.symm.trans hNm)
      show H1[H.size]? = some (vp_cell (V.2.1 1) (gw_N _ sh.length, .inl (gw_z I sh.length 1 0 sh.length)))
      rw [gw_T_end.2, gw_z_in (Nat.le_refl _) (by omega), hcA]
      exact e1
  have := kk p l e R s m args below meth cd QQ H1 locs L X hH1 hl hret
  show W _ _ _ _ _ _ _ _ _ _ _ _ _ _ _ { (F0 m pc L ((.int n :: st).map (gw_mv V))) with pc := pc + 2, stack := .ref H.size :: st.map (gw_mv V) }
  rw [← had]
  exact this
theorem gs_anew {x : Nat} {n : Int32} {N : Nat} (hd : gw_D i pc (.anewarray x) 3 14 b) (hsh : sh.length < 145) (hn : ¬ n < 0) (hN : n.toNatClampNeg = N) (hb1 : N * 4 ≤ 536870912) (hcu : cu + 1 ≤ gm_c i) (hsu : su + N ≤ gm_s i)
    (kk : gw_E V i (pc + 3, ls, .ref sh.length :: st, (sh ++ [(14, N)], gw_z I sh.length 1 0, gw_z J sh.length 1 0, gw_z F sh.length 1 0), cu + 1, su + N) Q) : gw_E V i (pc, ls, .int n :: st, (sh, I, J, F), cu, su) Q := by
  intro p l e R s m args below meth cd QQ H locs L X hH hl hret
  obtain ⟨hx, hb, hml, hown, hts, hlk, hnm, hr, hfr, hlo, hce, hsl, hK⟩ := id X
  subst hN
  have hsz : H.size = V.2.2.1 + (sh.length - 3) := hH.2.1 hsh
  have had : gw_ad V sh.length = H.size := by
    have h3 : 3 ≤ sh.length := hH.2.2.1
    unfold gw_ad
    rw [if_neg (by omega), hsz]
  have hcl := hd.2
  unfold gc_lk at hcl
  rw [if_pos rfl] at hcl
  have hlink : (Cond.classLink (gb_n (gm_o i)) x "MorningBill$Morning").before args s = true := hts _ (gl_C_in hcl)
  refine W.anew hx hb hown hlink (va_AO.use hK.2.2.2.2.2.2.1) rfl hd.1 rfl hn hb1 (by show cu + 1 ≤ _; omega) (by show su + _ ≤ _; omega) fun cA kA comp f1 f2 f3 f4 => ?_
  generalize hH1 : H.push ({ cls := cA, slots := Array.replicate n.toNatClampNeg .null, vm := .none } : Cell) = H1
  have z1 : H1.size = H.size + 1 := by rw [← hH1, Array.size_push]
  have e1 : H1[H.size]? = some (arrV cA n.toNatClampNeg (fun _ => .null)) := by rw [← hH1, Array.getElem?_push_size, ← arrV_new]
  have o1 : ∀ q : Nat, q < H.size → H1[q]? = H[q]? := fun q hq => by rw [← hH1, Array.getElem?_push, if_neg (Nat.ne_of_lt hq)]
  have hH1 : gw_H V (sh ++ [(14, n.toNatClampNeg)], gw_z I sh.length 1 0, gw_z J sh.length 1 0, gw_z F sh.length 1 0) s H1 locs := by
    refine gw_H_push (w := (sh, I, J, F)) hH hsh hK.2.1 rfl (fun k hk => ⟨gw_z_lt hk, gw_z_lt hk, gw_z_lt hk⟩) z1 o1 (fun k hk1 hk2 => ?_)
    have hk : k = sh.length := by
      have : k < sh.length + 1 := hk2
      have : sh.length ≤ k := hk1
      omega
    subst hk
    rw [gw_cell_M (gw_T_end).1, had]
    have hcA : V.2.1 2 = cA := by
      obtain ⟨kA', comp', -, -, -, q4⟩ := (hK.1.2 2 _ rfl).2
      exact Option.some.inj (q4.symm.trans f1)
    show H1[H.size]? = some (vp_cell (V.2.1 2) (gw_N _ sh.length, .inr (.inr (.inr (.inr (fun j => gw_ro V (gw_z F sh.length 1 0 sh.length j)))))))
    rw [gw_T_end.2, gw_z_in (Nat.le_refl _) (by omega), hcA]
    exact e1
  have := kk p l e R s m args below meth cd QQ H1 locs L X hH1 hl hret
  show W _ _ _ _ _ _ _ _ _ _ _ _ _ _ _ { (F0 m pc L ((.int n :: st).map (gw_mv V))) with pc := pc + 3, stack := .ref H.size :: st.map (gw_mv V) }
  rw [← had]
  exact this
theorem gs_aastore {j : Int32} {v : Nat} (hd : gw_D i pc .aastore 1 b c) (ht : gw_T (sh, I, J, F) a = 14) (hv : gw_T (sh, I, J, F) v = 3) (hv0 : v ≠ 0) (hin : vp_in j (gw_N (sh, I, J, F) a)) (kk : ∀ F2, F2 = gw_uR F a j.toNatClampNeg v → gw_E V i (pc + 1, ls, st, (sh, I, J, F2), cu, su) Q) : gw_E V i (pc, ls, .ref v :: .int j :: .ref a :: st, (sh, I, J, F), cu, su) Q := by
  intro p l e R s m args below meth cd QQ H locs L X hH hl hret
  have hK := X.2.2.2.2.2.2.2.2.2.2.2.2
  have he := gw_at hH ht (by omega)
  rw [gw_cell_M ht] at he
  have hev := gw_at hH hv (by omega)
  rw [gw_cell_obj hv (by omega)] at hev
  have hlt : j.toNatClampNeg < gw_N (sh, I, J, F) a := Nat.not_le.mp fun q => hin (Or.inr q)
  have h0 : ¬ j < 0 := fun q => hin (Or.inl q)
  obtain ⟨r', hr', cellV, g1, g2, g3, -⟩ := hH.1 _ _ hev
  have hcls := (hK.1.1 3 _ (gb_cl_get (by omega))).2
  obtain ⟨kA, comp, k1, k2, k3, -⟩ := (hK.1.2 2 _ rfl).2
  have hcomp : comp = V.1.1 3 := Option.some.inj (k3.symm.trans hcls.1)
  subst hcomp
  obtain ⟨kC, hkC, hkk⟩ := id hcls.2
  refine W.aast X.1 X.2.1 (hH.1 _ _ he) (fun q h => by cases h) (fun h => by cases h) k1 k2 rfl hkC ⟨h0, by show _ < (arrV _ _ _).slots.size; rw [arrV_size]; exact hlt⟩ g1 (fun q h => by rw [g3] at h; cases h) (by rw [g2]; exact hkC) (by rw [g2]; exact va_assign hcls) rfl rfl hd.1 fun H1 e1 z oq => ?_
  refine kk _ rfl p l e R s m args below meth cd QQ H1 _ L X ?_ hl hret
  have hD : va_D (gw_A V) (gw_ws V (sh, I, J, F)) := gw_ws_D
  refine gw_H_set (w' := (sh, I, J, gw_uR F a j.toNatClampNeg v)) hH ht (by omega) rfl (fun q hq => gw_cell_ext rfl rfl rfl (gw_uR_o hq)) (fun q hq => rfl) (gw_cell_M (w := (sh, I, J, gw_uR F a j.toNatClampNeg v)) ht) (hH.1.set hD he ?_ oq) (fun _ => z) (hH.2.2.2.1.put z oq (hD.2 _ _ he))
  show H1[gw_ad V a]? = some (vp_cell _ _)
  rw [e1]
  rw [vp_cell_q, vp_cell_q, arrV_store]
  congr 2
  funext q
  show updV _ _ _ q = va_rf (gw_ro V (gw_uR F a j.toNatClampNeg v a q))
  by_cases hq : q = j.toNatClampNeg
  · subst hq
    simp [updV, gw_uR, gw_ro, hv0, va_rf]
  · simp [updV, gw_uR, hq]
end GA
