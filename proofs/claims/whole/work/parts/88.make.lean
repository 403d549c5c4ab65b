/-! ===== worlds that grow: the references of what isn't there yet are free ===== -/
theorem gb_s_2 : ∀ c, c < 12 → ∀ j, j < gb_K c → ¬ gb_s c j = 0 → ¬ gb_s c j = 1 → gb_s c j = 2 := by decide +kernel
theorem gw_H_F {V : gw_V} {sh : List (Nat × Nat)} {I : Nat → Nat → Int32} {J : Nat → Nat → Int64} {F F2 : Nat → Nat → Nat} {s : State} {H : Heap} {locs : List Loc} (hH : gw_H V (sh, I, J, F) s H locs) (h1 : ∀ a j, a < sh.length → gw_T (sh, I, J, F) a = 14 ∨ gw_T (sh, I, J, F) a = 15 → j < gw_N (sh, I, J, F) a → F2 a j = F a j) (h2 : ∀ a j, a < sh.length → gw_T (sh, I, J, F) a < 12 → j < gb_K (gw_T (sh, I, J, F) a) → gb_s (gw_T (sh, I, J, F) a) j = 2 → F2 a j = F a j) : gw_H V (sh, I, J, F2) s H locs := by
  obtain ⟨g1, g2, g3, g4, g5⟩ := hH
  refine ⟨fun k q hk => ?_, g2, g3, g4, g5⟩
  obtain ⟨hk3, rfl⟩ := gw_ws_at hk
  have hv := g1 _ _ (gw_ws_get (V := V) (w := (sh, I, J, F)) (a := k + 3) (by omega) hk3)
  have e1 : gw_ad V (k + 3) = V.2.2.1 + k := by unfold gw_ad; rw [if_neg (by omega)]; omega
  rw [e1] at hv
  have eT : gw_T (sh, I, J, F2) (k + 3) = gw_T (sh, I, J, F) (k + 3) := rfl
  have eN : gw_N (sh, I, J, F2) (k + 3) = gw_N (sh, I, J, F) (k + 3) := rfl
  have arr : ∀ c : ClassId, (∀ j, j < gw_N (sh, I, J, F) (k + 3) → F2 (k + 3) j = F (k + 3) j) → vp_cell c (gw_N (sh, I, J, F) (k + 3), .inr (.inr (.inr (.inr (fun j => gw_ro V (F2 (k + 3) j)))))) = vp_cell c (gw_N (sh, I, J, F) (k + 3), .inr (.inr (.inr (.inr (fun j => gw_ro V (F (k + 3) j)))))) := by
    intro c hj
    rw [vp_cell_q, vp_cell_q]
    unfold arrV
    congr 2
    funext j
    show va_rf (gw_ro V (F2 (k + 3) j.val)) = va_rf (gw_ro V (F (k + 3) j.val))
    rw [hj j.val j.isLt]
  by_cases q12 : gw_T (sh, I, J, F) (k + 3) = 12
  · rw [gw_cell_I q12] at hv; rw [gw_cell_I (w := (sh, I, J, F2)) q12]; exact hv
  by_cases q13 : gw_T (sh, I, J, F) (k + 3) = 13
  · rw [gw_cell_Z q13] at hv; rw [gw_cell_Z (w := (sh, I, J, F2)) q13]; exact hv
  by_cases q14 : gw_T (sh, I, J, F) (k + 3) = 14
  · rw [gw_cell_M q14] at hv
    rw [gw_cell_M (w := (sh, I, J, F2)) q14]
    have hv : H[V.2.2.1 + k]? = some (vp_cell (V.2.1 2) (gw_N (sh, I, J, F) (k + 3), .inr (.inr (.inr (.inr (fun j => gw_ro V (F (k + 3) j))))))) := hv
    show H[V.2.2.1 + k]? = some (vp_cell (V.2.1 2) (gw_N (sh, I, J, F) (k + 3), .inr (.inr (.inr (.inr (fun j => gw_ro V (F2 (k + 3) j)))))))
    rw [arr _ (fun j hj => h1 _ j hk3 (.inl q14) hj)]
    exact hv
  by_cases q15 : gw_T (sh, I, J, F) (k + 3) = 15
  · rw [gw_cell_A q15] at hv
    rw [gw_cell_A (w := (sh, I, J, F2)) q15]
    have hv : H[V.2.2.1 + k]? = some (vp_cell (V.2.1 3) (gw_N (sh, I, J, F) (k + 3), .inr (.inr (.inr (.inr (fun j => gw_ro V (F (k + 3) j))))))) := hv
    show H[V.2.2.1 + k]? = some (vp_cell (V.2.1 3) (gw_N (sh, I, J, F) (k + 3), .inr (.inr (.inr (.inr (fun j => gw_ro V (F2 (k + 3) j)))))))
    rw [arr _ (fun j hj => h1 _ j hk3 (.inr q15) hj)]
    exact hv
  have ec : gw_cell V (sh, I, J, F2) (k + 3) = gw_cell V (sh, I, J, F) (k + 3) := by
    unfold gw_cell
    rw [eT, if_neg q12, if_neg q13, if_neg q14, if_neg q15, if_neg q12, if_neg q13, if_neg q14, if_neg q15]
    congr 2
    unfold gw_fs
    refine List.map_congr_left (fun j hj => ?_)
    have hj : j < gb_K (gw_T (sh, I, J, F) (k + 3)) := List.mem_range.mp hj
    unfold gw_fv
    by_cases a0 : gb_s (gw_T (sh, I, J, F) (k + 3)) j = 0
    · rw [if_pos a0, if_pos a0]
    by_cases a1 : gb_s (gw_T (sh, I, J, F) (k + 3)) j = 1
    · rw [if_neg a0, if_neg a0, if_pos a1, if_pos a1]
    rw [if_neg a0, if_neg a0, if_neg a1, if_neg a1]
    show va_rf (gw_ro V (F2 (k + 3) j)) = va_rf (gw_ro V (F (k + 3) j))
    have hlt : gw_T (sh, I, J, F) (k + 3) < 12 := by
      by_cases q : gw_T (sh, I, J, F) (k + 3) < 12
      · exact q
      · have : gb_K (gw_T (sh, I, J, F) (k + 3)) = 0 := by
          unfold gb_K
          rw [List.getD_eq_getElem?_getD, List.getElem?_eq_none (by show gb_Kl.length ≤ _; have : gb_Kl.length = 12 := rfl; omega)]; rfl
        omega
    rw [h2 _ j hk3 hlt hj (gb_s_2 _ hlt j hj a0 a1)]
  rw [ec]
  exact hv
section
variable {V : gw_V} {i pc a b c : Nat} {ls : List (Nat × Value)} {st : List Value} {sh sh2 : List (Nat × Nat)} {I : Nat → Nat → Int32} {J : Nat → Nat → Int64} {F F2 : Nat → Nat → Nat} {cu su : Nat} {Q : Option Value → gw_W → Prop}
theorem gs_F (h1 : ∀ a j, a < sh.length → gw_T (sh, I, J, F) a = 14 ∨ gw_T (sh, I, J, F) a = 15 → j < gw_N (sh, I, J, F) a → F2 a j = F a j) (h2 : ∀ a j, a < sh.length → gw_T (sh, I, J, F) a < 12 → j < gb_K (gw_T (sh, I, J, F) a) → gb_s (gw_T (sh, I, J, F) a) j = 2 → F2 a j = F a j) (kk : gw_E V i (pc, ls, st, (sh, I, J, F2), cu, su) Q) : gw_E V i (pc, ls, st, (sh, I, J, F), cu, su) Q := by
  intro p l e R s m args below meth cd QQ H locs L X hH hl hret
  exact kk p l e R s m args below meth cd QQ H locs L X (gw_H_F hH h1 h2) hl hret
/-- only one cell's references differ -/
theorem gs_F1 (k : Nat) (ho : ∀ a, a ≠ k → F2 a = F a) (h1 : gw_T (sh, I, J, F) k = 14 ∨ gw_T (sh, I, J, F) k = 15 → ∀ j, j < gw_N (sh, I, J, F) k → F2 k j = F k j) (h2 : gw_T (sh, I, J, F) k < 12 → ∀ j, j < gb_K (gw_T (sh, I, J, F) k) → gb_s (gw_T (sh, I, J, F) k) j = 2 → F2 k j = F k j) (kk : gw_E V i (pc, ls, st, (sh, I, J, F2), cu, su) Q) : gw_E V i (pc, ls, st, (sh, I, J, F), cu, su) Q := by
  refine gs_F (fun a j _ ht hj => ?_) (fun a j _ ht hj hs => ?_) kk
  · by_cases e : a = k
    · subst e; exact h1 ht j hj
    · rw [ho a e]
  · by_cases e : a = k
    · subst e; exact h2 ht j hj hs
    · rw [ho a e]
def gJ0 : Nat → Nat → Int64 := fun _ _ => 0
theorem gJ0_z (k m : Nat) : gw_z gJ0 k m 0 = gJ0 := by funext p q; unfold gw_z gJ0; split <;> rfl
/-- ints are 0 from a cell on -/
def gI0 (I : Nat → Nat → Int32) (k : Nat) : Prop := ∀ p, k ≤ p → I p = fun _ => 0
theorem gI0_z {k m k0 : Nat} (h : gI0 I k0) (hk : k0 ≤ k) : gw_z I k m 0 = I := by
  funext p q
  unfold gw_z
  by_cases e : k ≤ p ∧ p < k + m
  · rw [if_pos e, h p (by omega)]
  · rw [if_neg e]
theorem gk_new {x : Nat} (k k0 : Nat) (hd : gw_D i pc (.new x) 3 c b) (hk : sh.length = k) (hs2 : sh ++ [(c, gb_K c)] = sh2) (hc : c < 12) (hn : k < 145) (hcu : cu + 1 ≤ gm_c i) (hsu : su + gb_K c ≤ gm_s i) (hI : gI0 I k0) (h0 : k0 ≤ k) (kk : gw_E V i (pc + 3, ls, .ref k :: st, (sh2, I, gJ0, gw_z F k 1 0), cu + 1, su + gb_K c) Q) : gw_E V i (pc, ls, st, (sh, I, gJ0, F), cu, su) Q := by
  subst hs2 hk
  refine gs_new hd hc hn hcu hsu ?_
  rw [gI0_z hI h0, gJ0_z]
  exact kk
theorem gk_newa {n : Int32} {N t : Nat} {aty : ArrayType} (k k0 : Nat) (ty : FieldType) (hd : gw_D i pc (.newarray aty) 2 t b) (hty : (aty = .int ∧ ty = .int ∧ t = 12) ∨ (aty = .boolean ∧ ty = .boolean ∧ t = 13)) (hk : sh.length = k) (hs2 : sh ++ [(t, N)] = sh2) (hsh : k < 145) (hn : ¬ n < 0) (hN : n.toNatClampNeg = N) (hb1 : N * 4 ≤ 536870912) (hcu : cu + 1 ≤ gm_c i) (hsu : su + N ≤ gm_s i) (hI : gI0 I k0) (h0 : k0 ≤ k) (kk : gw_E V i (pc + 2, ls, .ref k :: st, (sh2, I, gJ0, F), cu + 1, su + N) Q) : gw_E V i (pc, ls, .int n :: st, (sh, I, gJ0, F), cu, su) Q := by
  subst hs2 hk
  refine gs_newarray hd hty hsh hn hN hb1 hcu hsu ?_
  rw [gI0_z hI h0, gJ0_z]
  have ht : gw_T (sh ++ [(t, N)], I, gJ0, gw_z F sh.length 1 0) sh.length = t := gw_T_end.1
  refine gs_F1 sh.length (fun a ha => ?_) (fun q => ?_) (fun q => ?_) kk
  · funext j
    unfold gw_z
    rw [if_neg (by omega)]
  · rw [ht] at q; omega
  · rw [ht] at q; omega
theorem gk_mnew {x N K : Nat} {n k9 : Int32} (k k0 : Nat) (hd : gw_D i pc (.multianewarray x 2) 4 15 b) (hk : sh.length = k) (hs2 : sh ++ (15, N) :: List.replicate N (12, K) = sh2) (hsh : k < 145) (hn : ¬ n < 0) (hk9 : ¬ k9 < 0) (hN : n.toNatClampNeg = N) (hKK : k9.toNatClampNeg = K) (hb1 : N * 4 ≤ 536870912) (hb2 : K * 4 ≤ 536870912) (hcu : cu + 1 + N ≤ gm_c i) (hsu : su + N + N * K ≤ gm_s i) (hI : gI0 I k0) (h0 : k0 ≤ k) (hF : ∀ q, q < N → F k q = k + 1 + q) (kk : gw_E V i (pc + 4, ls, .ref k :: st, (sh2, I, gJ0, F), cu + 1 + N, su + N + N * K) Q) : gw_E V i (pc, ls, .int k9 :: .int n :: st, (sh, I, gJ0, F), cu, su) Q := by
  subst hs2 hk
  refine gs_mnew hd hsh hn hk9 hN hKK hb1 hb2 hcu hsu ?_
  rw [gI0_z hI h0, gJ0_z]
  have row : ∀ a, sh.length < a → a < sh.length + 1 + N → gw_T (sh ++ (15, N) :: List.replicate N (12, K), I, gJ0, gw_mR F sh.length N) a = 12 := fun a h1 h2 => by
    obtain ⟨j, rfl⟩ : ∃ j, a = sh.length + 1 + j := ⟨a - (sh.length + 1), by omega⟩
    exact (gw_T_mr (by omega)).1
  have out : gw_T (sh ++ (15, N) :: List.replicate N (12, K), I, gJ0, gw_mR F sh.length N) sh.length = 15 ∧ gw_N (sh ++ (15, N) :: List.replicate N (12, K), I, gJ0, gw_mR F sh.length N) sh.length = N := gw_T_mo
  refine gs_F (fun a j ha ht hj => ?_) (fun a j ha ht hj hs => ?_) kk
  · by_cases e : a = sh.length
    · subst e
      rw [out.2] at hj
      unfold gw_mR
      rw [if_pos rfl, if_pos hj, hF j hj]
    · by_cases e2 : sh.length < a ∧ a < sh.length + 1 + N
      · rw [row a e2.1 e2.2] at ht; omega
      · unfold gw_mR
        rw [if_neg e]
        unfold gw_z
        rw [if_neg (by omega)]
  · by_cases e : a = sh.length
    · subst e; rw [out.1] at ht; omega
    · by_cases e2 : sh.length < a ∧ a < sh.length + 1 + N
      · rw [row a e2.1 e2.2] at ht; omega
      · unfold gw_mR
        rw [if_neg e]
        unfold gw_z
        rw [if_neg (by omega)]
theorem gk_anew {x : Nat} {n : Int32} {N : Nat} (k k0 : Nat) (hd : gw_D i pc (.anewarray x) 3 14 b) (hk : sh.length = k) (hs2 : sh ++ [(14, N)] = sh2) (hsh : k < 145) (hn : ¬ n < 0) (hN : n.toNatClampNeg = N) (hb1 : N * 4 ≤ 536870912) (hcu : cu + 1 ≤ gm_c i) (hsu : su + N ≤ gm_s i) (hI : gI0 I k0) (h0 : k0 ≤ k) (kk : gw_E V i (pc + 3, ls, .ref k :: st, (sh2, I, gJ0, gw_z F k 1 0), cu + 1, su + N) Q) : gw_E V i (pc, ls, .int n :: st, (sh, I, gJ0, F), cu, su) Q := by
  subst hs2 hk
  refine gs_anew hd hsh hn hN hb1 hcu hsu ?_
  rw [gI0_z hI h0, gJ0_z]
  exact kk
theorem gk_putR {x v k : Nat} (hd : gw_D i pc (.putfield x) 3 c k) (ht : gw_T (sh, I, J, F) a = c) (hs : gb_s c k = 2) (hf : gm_k i = 2 ∧ (gb_F c k).1 = gb_n (gm_o i)) (hn : ∀ z : Nat, narrow (gb_ty c k) (.ref z) = .ref z) (hfit : ∀ z : Nat, fits (gb_ty c k) (.ref z) = true) (h0 : v ≠ 0) (kk : gw_E V i (pc + 3, ls, st, (sh, I, J, gw_uR F a k v), cu, su) Q) : gw_E V i (pc, ls, .ref v :: .ref a :: st, (sh, I, J, F), cu, su) Q := gs_putR hd ht hs hf (hn _) (hfit _) h0 (fun F2 h => by rw [h]; exact kk)
end
/-- the shapes of the first k cells -/
abbrev gp (n k : Nat) : List (Nat × Nat) := (gs_s n).take k
/-- the references, of the class's object only the first t -/
def gG (t : Nat) : Nat → Nat → Nat := fun p q => if p = 3 ∧ t ≤ q then 0 else gs_r p q
theorem gG_0 : gw_z gs_r 3 1 0 = gG 0 := by
  funext p q
  unfold gw_z gG
  by_cases e : p = 3
  · rw [if_pos ⟨by omega, by omega⟩, if_pos ⟨e, by omega⟩]
  · rw [if_neg (by omega), if_neg (fun h => e h.1)]
theorem gG_s {t v : Nat} (h : gs_r 3 t = v) : gw_uR (gG t) 3 t v = gG (t + 1) := by
  funext p q
  unfold gw_uR gG
  by_cases e : p = 3
  · subst e
    by_cases e2 : q = t
    · subst e2
      rw [if_pos ⟨rfl, rfl⟩, if_neg (by omega), h]
    · rw [if_neg (fun h => e2 h.2)]
      by_cases e3 : t ≤ q
      · rw [if_pos ⟨rfl, e3⟩, if_pos ⟨rfl, by omega⟩]
      · rw [if_neg (fun h => e3 h.2), if_neg (fun h => by omega)]
  · rw [if_neg (fun h => e h.1), if_neg (fun h => e h.1), if_neg (fun h => e h.1)]
theorem gG_11 : ∀ p q, p ≠ 3 ∨ q < 11 → gG 11 p q = gs_r p q := fun p q h => by
  unfold gG
  rw [if_neg (by omega)]
def gN (F : Nat → Nat → Nat) (a t : Nat) : Nat → Nat → Nat := fun p q => if p = a ∧ t ≤ q then 0 else F p q
theorem gw_z_o {F : Nat → Nat → Nat} {a k : Nat} (h : a ≠ k) : gw_z F k 1 0 a = F a := by
  funext q
  unfold gw_z
  rw [if_neg (by omega)]
theorem gN_0 (F : Nat → Nat → Nat) (a : Nat) : gw_z F a 1 0 = gN F a 0 := by
  funext p q
  unfold gw_z gN
  by_cases e : p = a
  · rw [if_pos ⟨by omega, by omega⟩, if_pos ⟨e, by omega⟩]
  · rw [if_neg (by omega), if_neg (fun h => e h.1)]
theorem gN_s {F : Nat → Nat → Nat} {a t v : Nat} (h : F a t = v) : gw_uR (gN F a t) a t v = gN F a (t + 1) := by
  funext p q
  unfold gw_uR gN
  by_cases e : p = a
  · subst e
    by_cases e2 : q = t
    · subst e2
      rw [if_pos ⟨rfl, rfl⟩, if_neg (by omega), h]
    · rw [if_neg (fun h => e2 h.2)]
      by_cases e3 : t ≤ q
      · rw [if_pos ⟨rfl, e3⟩, if_pos ⟨rfl, by omega⟩]
      · rw [if_neg (fun h => e3 h.2), if_neg (fun h => by omega)]
  · rw [if_neg (fun h => e h.1), if_neg (fun h => e h.1), if_neg (fun h => e h.1)]
theorem gN_o {F : Nat → Nat → Nat} {a t p : Nat} (h : p ≠ a) : gN F a t p = F p := by
  funext q
  unfold gN
  rw [if_neg (fun e => h e.1)]
