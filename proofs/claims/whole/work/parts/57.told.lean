/-! ===== the class: windsTold, Slots.forget ===== -/
/-- so many winds are told -/
def gz_wT (t : Nat → Int32) (l W : Nat) : Prop := W ≤ 8 ∧ (∀ j, j < W → gz_iw (gz_la t l (4 + j)) = true) ∧ (W = 8 ∨ gz_iw (gz_la t l (4 + W)) = false)
theorem gz_wT_one {t : Nat → Int32} {l a b : Nat} (h1 : gz_wT t l a) (h2 : gz_wT t l b) : a = b := by
  rcases Nat.lt_trichotomy a b with h | h | h
  · rcases h1.2.2 with e | e
    · have := h2.1; omega
    · have := h2.2.1 a h; rw [e] at this; cases this
  · exact h
  · rcases h2.2.2 with e | e
    · have := h1.1; omega
    · have := h1.2.1 b h; rw [e] at this; cases this
section
variable {V : gw_V} {n l : Nat} {I : Nat → Nat → Int32} {J : Nat → Nat → Int64}
theorem c_windsTold (hl : I 4 1 = Int32.ofNat l) (h8 : l ≤ 48) : gw_E V 41 (0, [(0, .ref 4)], [], gS n I J, 0, 0) (fun v w' => ∃ W, gz_wT (I 5) l W ∧ v = some (.int (Int32.ofNat W)) ∧ w' = gS n I J) := by
  have lp : ∀ (m k : Nat), m + k = 8 → (∀ j, j < k → gz_iw (gz_la (I 5) l (4 + j)) = true) → gw_E V 41 (2, [(0, .ref 4), (1, .int (Int32.ofNat k))], [], gS n I J, 0, 0) (fun v w' => ∃ W, gz_wT (I 5) l W ∧ v = some (.int (Int32.ofNat W)) ∧ w' = gS n I J) := by
    intro m
    induction m with
    | zero =>
      intro k hk g1
      obtain rfl : k = 8 := by omega
      refine gs_iload_n (pc := 2) (gd gk_41 2 rfl) rfl ?_
      refine gs_bipush (pc := 3) (gd gk_41 3 rfl) (8) rfl ?_
      refine gs_icmp_ge (pc := 5) (gd gk_41 4 rfl) (fun c5 => ?_) (fun c5 => ?_)
      · replace c5 : 8 ≤ 8 := (zle (k := 8) (m := 8) (by omega) (by omega)).mp c5
        refine gs_iload_n (pc := 27) (gd gk_41 14 rfl) rfl ?_
        -- end 1: ireturn Int32.ofNat 8, pc 28, locals [(0, .ref (4)), (1, .int (Int32.ofNat 8))]
        exact gs_iret (pc := 28) (gd gk_41 15 rfl) rfl (rfl) (Nat.zero_le _) (Nat.zero_le _) (⟨8, ⟨Nat.le_refl _, g1, .inl rfl⟩, rfl, rfl⟩)
      · replace c5 : ¬ (8 ≤ 8) := fun q9 => c5 ((zle (k := 8) (m := 8) (by omega) (by omega)).mpr q9)
        -- end 2: stop, pc 8, locals [(0, .ref (4)), (1, .int (Int32.ofNat 8))]
        exact absurd (by decide) c5
    | succ m ih =>
      intro k hk g1
      refine gs_iload_n (pc := 2) (gd gk_41 2 rfl) rfl ?_
      refine gs_bipush (pc := 3) (gd gk_41 3 rfl) (8) rfl ?_
      refine gs_icmp_ge (pc := 5) (gd gk_41 4 rfl) (fun c5 => ?_) (fun c5 => ?_)
      · replace c5 : 8 ≤ k := (zle (k := 8) (m := k) (by omega) (by omega)).mp c5
        refine gs_iload_n (pc := 27) (gd gk_41 14 rfl) rfl ?_
        -- end 1: ireturn Int32.ofNat k, pc 28, locals [(0, .ref (4)), (1, .int (Int32.ofNat k))]
        exact absurd c5 (by omega)
      · replace c5 : ¬ (8 ≤ k) := fun q9 => c5 ((zle (k := 8) (m := k) (by omega) (by omega)).mpr q9)
        refine gs_aload_n (pc := 8) (gd gk_41 5 rfl) rfl ?_
        refine gs_iconst (pc := 9) (gd gk_41 6 rfl) (4) rfl ?_
        refine gs_iload_n (pc := 10) (gd gk_41 7 rfl) rfl ?_
        refine gs_iadd (pc := 11) (gd gk_41 8 rfl) ?_
        refine gs_callV (as := [.int ((4 + Int32.ofNat k))]) (pc := 12) (gd gk_41 9 rfl) (by decide) rfl (by decide) rfl rfl (Nat.le_of_ble_eq_true rfl) gq_41_39 (Nat.le_of_ble_eq_true rfl) ((by have := c_letterAt (V := V) (n := n) (J := J) (4 + k) (by omega) hl h8; rw [Int32.ofNat_add] at this; exact this)) (fun r_12 w_12 q_12 => ?_)
        obtain ⟨rfl, rfl⟩ := q_12
        refine gs_callS (as := [.int ((gz_la (I 5) l (4 + k)))]) (pc := 15) (gd gk_41 10 rfl) (by decide) rfl rfl (Nat.le_of_ble_eq_true rfl) gq_41_48 (Nat.le_of_ble_eq_true rfl) (c_isWind _) (fun r_15 w_15 q_15 => ?_)
        obtain ⟨rfl, rfl⟩ := q_15
        refine gs_if_eq (pc := 18) (gd gk_41 11 rfl) (fun c18 => ?_) (fun c18 => ?_)
        · refine gs_iload_n (pc := 27) (gd gk_41 14 rfl) rfl ?_
          -- end 2: ireturn Int32.ofNat k, pc 28, locals [(0, .ref (4)), (1, .int (Int32.ofNat k))]
          exact gs_iret (pc := 28) (gd gk_41 15 rfl) rfl (rfl) (Nat.zero_le _) (Nat.zero_le _) (⟨k, ⟨by omega, g1, .inr (gz_b_eq.mp c18)⟩, rfl, rfl⟩)
        · refine gs_iinc (ls2 := fun v => [(0, .ref (4)), (1, .int (v))]) (pc := 21) (gd gk_41 12 rfl) rfl (by rw [gL_41]; decide) (fun _ => rfl) (1) rfl (fun v1_1 hv1_1 => ?_)
          obtain rfl : v1_1 = Int32.ofNat (k + 1) := hv1_1.trans (by first | rfl | (simp only [Int32.ofNat_add, Int32.ofNat_mul]; rfl) | (simp only [Int32.ofNat_add, Int32.ofNat_mul]))
          refine gs_goto (pc := 24) (gd gk_41 13 rfl) ?_
          -- end 3: stop, pc 2, locals [(0, .ref (4)), (1, .int (Int32.ofNat (k + 1)))]
          refine ih (k + 1) (by omega) (fun j hj => ?_)
          by_cases e : j = k
          · rw [e]; exact gz_b_ne.mp c18
          · exact g1 j (by omega)
  refine gs_iconst (pc := 0) (gd gk_41 0 rfl) (0) rfl ?_
  refine gs_istore_n (ls2 := fun v => [(0, .ref (4)), (1, .int (v))]) (pc := 1) (gd gk_41 1 rfl) (by rw [gL_41]; decide) (fun _ => rfl) (fun v1_1 hv1_1 => ?_)
  obtain rfl : v1_1 = Int32.ofNat 0 := hv1_1.trans (by first | rfl | (simp only [Int32.ofNat_add, Int32.ofNat_mul]; rfl) | (simp only [Int32.ofNat_add, Int32.ofNat_mul]))
  -- end 1: stop, pc 2, locals [(0, .ref (4)), (1, .int (Int32.ofNat 0))]
  exact lp 8 0 rfl (fun j hj => absurd hj (Nat.not_lt_zero _))
theorem c_forgetS : gw_E V 28 (0, [(0, .ref 46)], [], gS n I J, 0, 0) (fun v w' => v = none ∧ ∃ I2, w' = gS n I2 J ∧ (∀ s, s < 2 → I2 48 s = 0) ∧ ∀ p, p ≠ 48 → I2 p = I p) := by
  have lp : ∀ (m k : Nat), m + k = 2 → ∀ I1, (∀ s, s < k → I1 48 s = 0) → (∀ p, p ≠ 48 → I1 p = I p) → gw_E V 28 (2, [(0, .ref 46), (1, .int (Int32.ofNat k))], [], gS n I1 J, 0, 0) (fun v w' => v = none ∧ ∃ I2, w' = gS n I2 J ∧ (∀ s, s < 2 → I2 48 s = 0) ∧ ∀ p, p ≠ 48 → I2 p = I p) := by
    intro m
    induction m with
    | zero =>
      intro k hk I1 g1 g2
      obtain rfl : k = 2 := by omega
      refine gs_iload_n (pc := 2) (gd gk_28 2 rfl) rfl ?_
      refine gs_iconst (pc := 3) (gd gk_28 3 rfl) (2) rfl ?_
      refine gs_icmp_ge (pc := 4) (gd gk_28 4 rfl) (fun c4 => ?_) (fun c4 => ?_)
      · replace c4 : 2 ≤ 2 := (zle (k := 2) (m := 2) (by omega) (by omega)).mp c4
        -- end 1: return, pc 20, locals [(0, .ref (46)), (1, .int (Int32.ofNat 2))]
        exact gs_ret (pc := 20) (gd gk_28 12 rfl) rfl (Nat.zero_le _) (Nat.zero_le _) (⟨rfl, I1, rfl, g1, g2⟩)
      · replace c4 : ¬ (2 ≤ 2) := fun q9 => c4 ((zle (k := 2) (m := 2) (by omega) (by omega)).mpr q9)
        -- end 2: stop, pc 7, locals [(0, .ref (46)), (1, .int (Int32.ofNat 2))]
        exact absurd (by decide) c4
    | succ m ih =>
      intro k hk I1 g1 g2
      refine gs_iload_n (pc := 2) (gd gk_28 2 rfl) rfl ?_
      refine gs_iconst (pc := 3) (gd gk_28 3 rfl) (2) rfl ?_
      refine gs_icmp_ge (pc := 4) (gd gk_28 4 rfl) (fun c4 => ?_) (fun c4 => ?_)
      · replace c4 : 2 ≤ k := (zle (k := 2) (m := k) (by omega) (by omega)).mp c4
        -- end 1: return, pc 20, locals [(0, .ref (46)), (1, .int (Int32.ofNat k))]
        exact absurd c4 (by omega)
      · replace c4 : ¬ (2 ≤ k) := fun q9 => c4 ((zle (k := 2) (m := k) (by omega) (by omega)).mpr q9)
        refine gs_aload_n (pc := 7) (gd gk_28 5 rfl) rfl ?_
        refine gs_getR (r := 48) (pc := 8) (gd gk_28 6 rfl) rfl rfl rfl (by decide) ?_
        refine gs_iload_n (pc := 11) (gd gk_28 7 rfl) rfl ?_
        refine gs_iconst (pc := 12) (gd gk_28 8 rfl) (0) rfl ?_
        refine gs_bastoreK (k) (2) gs_sl (pc := 13) (gd gk_28 9 rfl) rfl rfl (by decide) (by first | rfl | (simp only [Int32.ofNat_add, Int32.ofNat_mul]; rfl) | (simp only [Int32.ofNat_add, Int32.ofNat_mul])) (by omega) (fun I_1 hI_1 => ?_)
        refine gs_iinc (ls2 := fun v => [(0, .ref (46)), (1, .int (v))]) (pc := 14) (gd gk_28 10 rfl) rfl (by rw [gL_28]; decide) (fun _ => rfl) (1) rfl (fun v1_1 hv1_1 => ?_)
        obtain rfl : v1_1 = Int32.ofNat (k + 1) := hv1_1.trans (by first | rfl | (simp only [Int32.ofNat_add, Int32.ofNat_mul]; rfl) | (simp only [Int32.ofNat_add, Int32.ofNat_mul]))
        refine gs_goto (pc := 17) (gd gk_28 11 rfl) ?_
        -- end 2: stop, pc 2, locals [(0, .ref (46)), (1, .int (Int32.ofNat (k + 1)))]
        refine ih (k + 1) (by omega) I_1 (fun s hs => ?_) (fun p hp => by rw [hI_1, gw_u_o hp]; exact g2 p hp)
        rw [hI_1, gw_u_s]
        simp only [upd]
        by_cases e : s = k
        · rw [if_pos e]; rfl
        · rw [if_neg e]; exact g1 s (by omega)
  refine gs_iconst (pc := 0) (gd gk_28 0 rfl) (0) rfl ?_
  refine gs_istore_n (ls2 := fun v => [(0, .ref (46)), (1, .int (v))]) (pc := 1) (gd gk_28 1 rfl) (by rw [gL_28]; decide) (fun _ => rfl) (fun v1_1 hv1_1 => ?_)
  obtain rfl : v1_1 = Int32.ofNat 0 := hv1_1.trans (by first | rfl | (simp only [Int32.ofNat_add, Int32.ofNat_mul]; rfl) | (simp only [Int32.ofNat_add, Int32.ofNat_mul]))
  -- end 1: stop, pc 2, locals [(0, .ref (46)), (1, .int (Int32.ofNat 0))]
  exact lp 2 0 rfl I (fun s hs => absurd hs (Nat.not_lt_zero _)) (fun _ _ => rfl)
end
