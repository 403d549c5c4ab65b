/-! ===== new int[n][k] ===== -/
theorem gw_outer (c : ClassId) (N h0 : Nat) : ∀ i : Nat, Jvm.Free.Multi.outerC c N h0 i = arrV c N (fun j => if j < i then .ref (h0 + 1 + j) else .null)
  | 0 => by
    show ({ cls := c, slots := Array.replicate N .null, vm := .none } : Cell) = _
    rw [arrV_new]
    simp
  | i + 1 => by
    show (Jvm.Free.Multi.outerC c N h0 i).setSlot i (.ref (h0 + 1 + i)) = _
    rw [gw_outer c N h0 i, arrV_store]
    refine congrArg (arrV c N) (funext fun j => ?_)
    by_cases e : j = i
    · subst e
      simp [updV]
    · by_cases h : j < i
      · simp [updV, e, h, Nat.lt_succ_of_lt h]
      · simp [updV, e, h, show ¬ j < i + 1 by omega]
def gw_mR (F : Nat → Nat → Nat) (n N : Nat) : Nat → Nat → Nat := fun p q => if p = n then (if q < N then n + 1 + q else 0) else gw_z F n (N + 1) 0 p q
theorem gw_T_mr {sh : List (Nat × Nat)} {N K : Nat} {I : Nat → Nat → Int32} {J : Nat → Nat → Int64} {F : Nat → Nat → Nat} {j : Nat} (hj : j < N) : gw_T (sh ++ (15, N) :: List.replicate N (12, K), I, J, F) (sh.length + 1 + j) = 12 ∧ gw_N (sh ++ (15, N) :: List.replicate N (12, K), I, J, F) (sh.length + 1 + j) = K := by
  have e : (sh ++ (15, N) :: List.replicate N (12, K)).getD (sh.length + 1 + j) (99, 0) = (12, K) := by
    rw [List.getD_eq_getElem?_getD, List.getElem?_append_right (by omega), show sh.length + 1 + j - sh.length = j + 1 by omega, List.getElem?_cons_succ, List.getElem?_replicate, if_pos hj]
    rfl
  exact ⟨congrArg Prod.fst e, congrArg Prod.snd e⟩
theorem gw_T_mo {sh : List (Nat × Nat)} {N K : Nat} {I : Nat → Nat → Int32} {J : Nat → Nat → Int64} {F : Nat → Nat → Nat} : gw_T (sh ++ (15, N) :: List.replicate N (12, K), I, J, F) sh.length = 15 ∧ gw_N (sh ++ (15, N) :: List.replicate N (12, K), I, J, F) sh.length = N := by
  have e : (sh ++ (15, N) :: List.replicate N (12, K)).getD sh.length (99, 0) = (15, N) := by
    rw [List.getD_eq_getElem?_getD, List.getElem?_append_right (Nat.le_refl _), Nat.sub_self]
    rfl
  exact ⟨congrArg Prod.fst e, congrArg Prod.snd e⟩
theorem gs_mnew {V : gw_V} {i pc b x N K : Nat} {ls : List (Nat × Value)} {st : List Value} {sh : List (Nat × Nat)} {I : Nat → Nat → Int32} {J : Nat → Nat → Int64} {F : Nat → Nat → Nat} {cu su : Nat} {Q : Option Value → gw_W → Prop} {n k : Int32} (hd : gw_D i pc (.multianewarray x 2) 4 15 b) (hsh : sh.length < 145) (hn : ¬ n < 0) (hk : ¬ k < 0) (hN : n.toNatClampNeg = N) (hKK : k.toNatClampNeg = K) (hb1 : N * 4 ≤ 536870912) (hb2 : K * 4 ≤ 536870912) (hcu : cu + 1 + N ≤ gm_c i) (hsu : su + N + N * K ≤ gm_s i)
    (kk : gw_E V i (pc + 4, ls, .ref sh.length :: st, (sh ++ (15, N) :: List.replicate N (12, K), gw_z I sh.length (N + 1) 0, gw_z J sh.length (N + 1) 0, gw_mR F sh.length N), cu + 1 + N, su + N + N * K) Q) : gw_E V i (pc, ls, .int k :: .int n :: st, (sh, I, J, F), cu, su) Q := by
  intro p l e R s m args below meth cd QQ H locs L X hH hl hret
  obtain ⟨hx, hb, hml, hown, hts, hlk, hnm, hr, hfr, hlo, hce, hsl, hK⟩ := id X
  subst hN
  subst hKK
  have hsz : H.size = V.2.2.1 + (sh.length - 3) := hH.2.1 hsh
  have h3 : 3 ≤ sh.length := hH.2.2.1
  have had : ∀ j, gw_ad V (sh.length + j) = H.size + j := by
    intro j
    unfold gw_ad
    rw [if_neg (by omega), hsz]
    omega
  have had0 : gw_ad V sh.length = H.size := had 0
  have hcl := hd.2
  unfold gc_lk at hcl
  rw [if_neg (by omega)] at hcl
  have hlink : (Cond.classLink (gb_n (gm_o i)) x ("[" ++ (FieldType.array .int).toString)).before args s = true := hts _ (gl_C_in hcl)
  intro T hT Xs
  obtain ⟨vm₁, cA, comp, -, fA, fC, hO, -, X', step⟩ := Jvm.Stand.multianewarray2F Xs hx (ty := .int) hown hlink hK.2.2.2.2.2.2.2 (hts _ (gl_own_in (by decide +kernel))) (g := F0 m pc L (.int k :: .int n :: st.map (gw_mv V))) rfl (by rw [hb]; exact hd.1) rfl hn hk hb1 hb2 (by omega) rfl rfl (by show cu + (1 + _) ≤ _; omega) (by show su + (_ + _) ≤ _; omega)
  generalize hF : Jvm.Free.Multi.fill (T.setVm vm₁) cA comp n.toNatClampNeg k.toNatClampNeg (defaultValue .int) n.toNatClampNeg = FF at X' step
  have hTh : (T.setVm vm₁).heap = H := hT
  obtain ⟨f1, f2, -, -⟩ := Jvm.Free.Multi.fill_facts (T.setVm vm₁) cA comp n.toNatClampNeg k.toNatClampNeg (defaultValue .int) n.toNatClampNeg
  rw [hF, hTh] at f1 f2
  have hold : ∀ q : Nat, q < H.size → FF.heap[q]? = H[q]? := fun q hq => by
    have := Jvm.Free.Multi.fill_old (T.setVm vm₁) cA comp n.toNatClampNeg k.toNatClampNeg (defaultValue .int) (a := q) (by rw [hTh]; exact hq) n.toNatClampNeg
    rw [hF, hTh] at this
    exact this
  have hrow : ∀ j : Nat, j < n.toNatClampNeg → FF.heap[H.size + 1 + j]? = some (vp_cell comp (k.toNatClampNeg, .inl (fun _ => 0))) := fun j hj => by
    have := Jvm.Free.Multi.fill_inner (T.setVm vm₁) cA comp n.toNatClampNeg k.toNatClampNeg (defaultValue .int) n.toNatClampNeg j hj
    rw [hF, hTh] at this
    rw [this, vp_cell_i]
    show some ({ cls := comp, slots := Array.replicate k.toNatClampNeg (.int 0), vm := .none } : Cell) = _
    rw [arrV_new]
  rw [gw_outer] at f2
  have hcA : V.2.1 3 = cA := Option.some.inj ((hK.1.2 3 _ rfl).2.symm.trans fA)
  have hcI : V.2.1 0 = comp := Option.some.inj ((hK.1.2 0 _ rfl).2.symm.trans fC)
  have hH1 : gw_H V (sh ++ (15, n.toNatClampNeg) :: List.replicate n.toNatClampNeg (12, k.toNatClampNeg), gw_z I sh.length (n.toNatClampNeg + 1) 0, gw_z J sh.length (n.toNatClampNeg + 1) 0, gw_mR F sh.length n.toNatClampNeg) s FF.heap locs := by
    refine gw_H_push (w := (sh, I, J, F)) hH hsh hK.2.1 rfl (fun q hq => ⟨gw_z_lt hq, gw_z_lt hq, ?_⟩) ?_ hold (fun q hq1 hq2 => ?_)
    · funext z
      show gw_mR F sh.length n.toNatClampNeg q z = F q z
      have hq : q < sh.length := hq
      unfold gw_mR
      rw [if_neg (by omega), gw_z_lt hq]
    · rw [f1]
      simp
      omega
    · have hq1 : sh.length ≤ q := hq1
      have hq2 : q < sh.length + ((15, n.toNatClampNeg) :: List.replicate n.toNatClampNeg (12, k.toNatClampNeg)).length := hq2
      rw [List.length_cons, List.length_replicate] at hq2
      by_cases e : q = sh.length
      · subst e
        rw [gw_cell_A gw_T_mo.1, had0]
        show FF.heap[H.size]? = some (vp_cell (V.2.1 3) (gw_N _ sh.length, .inr (.inr (.inr (.inr (fun j => gw_ro V (gw_mR F sh.length n.toNatClampNeg sh.length j)))))))
        rw [gw_T_mo.2, hcA, vp_cell_q, f2]
        refine congrArg (fun f => some (arrV cA n.toNatClampNeg f)) (funext fun j => ?_)
        unfold gw_mR
        rw [if_pos rfl]
        by_cases hj : j < n.toNatClampNeg
        · rw [if_pos hj, if_pos hj]
          unfold gw_ro
          rw [if_neg (by omega), show sh.length + 1 + j = sh.length + (1 + j) by omega, had (1 + j), show H.size + 1 + j = H.size + (1 + j) by omega]
          rfl
        · rw [if_neg hj, if_neg hj]
          rfl
      · obtain ⟨j, rfl⟩ : ∃ j, q = sh.length + 1 + j := ⟨q - (sh.length + 1), by omega⟩
        have hj : j < n.toNatClampNeg := by omega
        rw [gw_cell_I (gw_T_mr hj).1, show sh.length + 1 + j = sh.length + (1 + j) by omega, had (1 + j)]
        show FF.heap[H.size + (1 + j)]? = some (vp_cell (V.2.1 0) (gw_N _ (sh.length + (1 + j)), .inl (gw_z I sh.length (n.toNatClampNeg + 1) 0 (sh.length + (1 + j)))))
        rw [show sh.length + (1 + j) = sh.length + 1 + j by omega, (gw_T_mr hj).2, gw_z_in (by omega) (by omega), hcI, show H.size + (1 + j) = H.size + 1 + j by omega]
        exact hrow j hj
  obtain ⟨t, a1, b1⟩ := kk p l e R s m args below meth cd QQ FF.heap locs L X hH1 hl hret FF rfl X'
  refine ⟨t, step t ?_, b1⟩
  have e9 : T.heap.size = gw_ad V sh.length := by rw [hT, had0]
  rw [e9]
  exact a1
