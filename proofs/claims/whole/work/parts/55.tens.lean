/-! ===== the reference: tenTo, factorial ===== -/
section
variable {V : gw_V} {w : gw_W}
theorem gz_ten : ∀ k, k < 9 → Int32.ofNat (10 ^ k) * 10 = Int32.ofNat (10 ^ (k + 1)) := by decide +kernel
theorem m_tenTo {n : Nat} {I : Nat → Nat → Int32} {J : Nat → Nat → Int64} (e : Nat) (he : e ≤ 8) : gw_E V 143 (0, [(0, .int (Int32.ofNat e))], [], gS n I J, 0, 0) (fun v w' => v = some (.int (Int32.ofNat (10 ^ e))) ∧ w' = gS n I J) := by
  have lp : ∀ (m k : Nat), m + k = e → ∀ x, x = Int32.ofNat (10 ^ k) → gw_E V 143 (4, [(0, .int (Int32.ofNat e)), (1, .int x), (2, .int (Int32.ofNat k))], [], gS n I J, 0, 0) (fun v w' => v = some (.int (Int32.ofNat (10 ^ e))) ∧ w' = gS n I J) := by
    intro m
    induction m with
    | zero =>
      intro k hk x hx
      obtain rfl : k = e := by omega
      refine gs_iload_n (pc := 4) (gd gk_143 4 rfl) rfl ?_
      refine gs_iload_n (pc := 5) (gd gk_143 5 rfl) rfl ?_
      refine gs_icmp_ge (pc := 6) (gd gk_143 6 rfl) (fun c6 => ?_) (fun c6 => ?_)
      · replace c6 : k ≤ k := (zle (k := k) (m := k) (by omega) (by omega)).mp c6
        refine gs_iload_n (pc := 20) (gd gk_143 13 rfl) rfl ?_
        -- end 1: ireturn x, pc 21, locals [(0, .int (Int32.ofNat k)), (1, .int (x)), (2, .int (Int32.ofNat k))]
        exact gs_iret (pc := 21) (gd gk_143 14 rfl) rfl (rfl) (Nat.zero_le _) (Nat.zero_le _) (⟨by rw [hx], rfl⟩)
      · replace c6 : ¬ (k ≤ k) := fun q9 => c6 ((zle (k := k) (m := k) (by omega) (by omega)).mpr q9)
        -- end 2: stop, pc 9, locals [(0, .int (Int32.ofNat k)), (1, .int (x)), (2, .int (Int32.ofNat k))]
        exact absurd (Nat.le_refl _) c6
    | succ m ih =>
      intro k hk x hx
      refine gs_iload_n (pc := 4) (gd gk_143 4 rfl) rfl ?_
      refine gs_iload_n (pc := 5) (gd gk_143 5 rfl) rfl ?_
      refine gs_icmp_ge (pc := 6) (gd gk_143 6 rfl) (fun c6 => ?_) (fun c6 => ?_)
      · replace c6 : e ≤ k := (zle (k := e) (m := k) (by omega) (by omega)).mp c6
        refine gs_iload_n (pc := 20) (gd gk_143 13 rfl) rfl ?_
        -- end 1: ireturn x, pc 21, locals [(0, .int (Int32.ofNat e)), (1, .int (x)), (2, .int (Int32.ofNat k))]
        exact absurd c6 (by omega)
      · replace c6 : ¬ (e ≤ k) := fun q9 => c6 ((zle (k := e) (m := k) (by omega) (by omega)).mpr q9)
        refine gs_iload_n (pc := 9) (gd gk_143 7 rfl) rfl ?_
        refine gs_bipush (pc := 10) (gd gk_143 8 rfl) (10) rfl ?_
        refine gs_imul (pc := 12) (gd gk_143 9 rfl) ?_
        refine gs_istore_n (ls2 := fun v => [(0, .int (Int32.ofNat e)), (1, .int (v)), (2, .int (Int32.ofNat k))]) (pc := 13) (gd gk_143 10 rfl) (by rw [gL_143]; decide) (fun _ => rfl) (fun v1_1 hv1_1 => ?_)
        refine gs_iinc (ls2 := fun v => [(0, .int (Int32.ofNat e)), (1, .int (v1_1)), (2, .int (v))]) (pc := 14) (gd gk_143 11 rfl) rfl (by rw [gL_143]; decide) (fun _ => rfl) (1) rfl (fun v2_1 hv2_1 => ?_)
        obtain rfl : v2_1 = Int32.ofNat (k + 1) := hv2_1.trans (by first | rfl | (simp only [Int32.ofNat_add, Int32.ofNat_mul]; rfl) | (simp only [Int32.ofNat_add, Int32.ofNat_mul]))
        refine gs_goto (pc := 17) (gd gk_143 12 rfl) ?_
        -- end 2: stop, pc 4, locals [(0, .int (Int32.ofNat e)), (1, .int (v1_1)), (2, .int (Int32.ofNat (k + 1)))]
        exact ih (k + 1) (by omega) _ (by rw [hv1_1, hx]; exact gz_ten k (by omega))
  refine gs_iconst (pc := 0) (gd gk_143 0 rfl) (1) rfl ?_
  refine gs_istore_n (ls2 := fun v => [(0, .int (Int32.ofNat e)), (1, .int (v))]) (pc := 1) (gd gk_143 1 rfl) (by rw [gL_143]; decide) (fun _ => rfl) (fun v1_1 hv1_1 => ?_)
  obtain rfl : v1_1 = Int32.ofNat 1 := hv1_1.trans (by first | rfl | (simp only [Int32.ofNat_add, Int32.ofNat_mul]; rfl) | (simp only [Int32.ofNat_add, Int32.ofNat_mul]))
  refine gs_iconst (pc := 2) (gd gk_143 2 rfl) (0) rfl ?_
  refine gs_istore_n (ls2 := fun v => [(0, .int (Int32.ofNat e)), (1, .int (Int32.ofNat 1)), (2, .int (v))]) (pc := 3) (gd gk_143 3 rfl) (by rw [gL_143]; decide) (fun _ => rfl) (fun v2_1 hv2_1 => ?_)
  obtain rfl : v2_1 = Int32.ofNat 0 := hv2_1.trans (by first | rfl | (simp only [Int32.ofNat_add, Int32.ofNat_mul]; rfl) | (simp only [Int32.ofNat_add, Int32.ofNat_mul]))
  -- end 1: stop, pc 4, locals [(0, .int (Int32.ofNat e)), (1, .int (Int32.ofNat 1)), (2, .int (Int32.ofNat 0))]
  exact lp e 0 (by omega) _ rfl
def gz_fc : Nat → Nat
  | 0 => 1
  | k + 1 => gz_fc k * (k + 1)
theorem gz_fct : ∀ k, k < 7 → Int32.ofNat (gz_fc k) * Int32.ofNat (k + 1) = Int32.ofNat (gz_fc (k + 1)) := by decide +kernel
theorem m_factorial {n : Nat} {I : Nat → Nat → Int32} {J : Nat → Nat → Int64} (e : Nat) (he : e ≤ 6) : gw_E V 140 (0, [(0, .int (Int32.ofNat e))], [], gS n I J, 0, 0) (fun v w' => v = some (.int (Int32.ofNat (gz_fc e))) ∧ w' = gS n I J) := by
  have lp : ∀ (m k : Nat), m + k = e + 1 → 2 ≤ k → ∀ x, x = Int32.ofNat (gz_fc (k - 1)) → gw_E V 140 (4, [(0, .int (Int32.ofNat e)), (1, .int x), (2, .int (Int32.ofNat k))], [], gS n I J, 0, 0) (fun v w' => v = some (.int (Int32.ofNat (gz_fc e))) ∧ w' = gS n I J) := by
    intro m
    induction m with
    | zero =>
      intro k hk h2 x hx
      obtain rfl : k = e + 1 := by omega
      refine gs_iload_n (pc := 4) (gd gk_140 4 rfl) rfl ?_
      refine gs_iload_n (pc := 5) (gd gk_140 5 rfl) rfl ?_
      refine gs_icmp_gt (pc := 6) (gd gk_140 6 rfl) (fun c6 => ?_) (fun c6 => ?_)
      · replace c6 : e < (e + 1) := (zlt (k := e) (m := (e + 1)) (by omega) (by omega)).mp c6
        refine gs_iload_n (pc := 19) (gd gk_140 13 rfl) rfl ?_
        -- end 1: ireturn x, pc 20, locals [(0, .int (Int32.ofNat e)), (1, .int (x)), (2, .int (Int32.ofNat (e + 1)))]
        exact gs_iret (pc := 20) (gd gk_140 14 rfl) rfl (rfl) (Nat.zero_le _) (Nat.zero_le _) (⟨by rw [hx]; rfl, rfl⟩)
      · replace c6 : ¬ (e < (e + 1)) := fun q9 => c6 ((zlt (k := e) (m := (e + 1)) (by omega) (by omega)).mpr q9)
        -- end 2: stop, pc 9, locals [(0, .int (Int32.ofNat e)), (1, .int (x)), (2, .int (Int32.ofNat (e + 1)))]
        exact absurd (by omega) c6
    | succ m ih =>
      intro k hk h2 x hx
      refine gs_iload_n (pc := 4) (gd gk_140 4 rfl) rfl ?_
      refine gs_iload_n (pc := 5) (gd gk_140 5 rfl) rfl ?_
      refine gs_icmp_gt (pc := 6) (gd gk_140 6 rfl) (fun c6 => ?_) (fun c6 => ?_)
      · replace c6 : e < k := (zlt (k := e) (m := k) (by omega) (by omega)).mp c6
        refine gs_iload_n (pc := 19) (gd gk_140 13 rfl) rfl ?_
        -- end 1: ireturn x, pc 20, locals [(0, .int (Int32.ofNat e)), (1, .int (x)), (2, .int (Int32.ofNat k))]
        exact absurd c6 (by omega)
      · replace c6 : ¬ (e < k) := fun q9 => c6 ((zlt (k := e) (m := k) (by omega) (by omega)).mpr q9)
        refine gs_iload_n (pc := 9) (gd gk_140 7 rfl) rfl ?_
        refine gs_iload_n (pc := 10) (gd gk_140 8 rfl) rfl ?_
        refine gs_imul (pc := 11) (gd gk_140 9 rfl) ?_
        refine gs_istore_n (ls2 := fun v => [(0, .int (Int32.ofNat e)), (1, .int (v)), (2, .int (Int32.ofNat k))]) (pc := 12) (gd gk_140 10 rfl) (by rw [gL_140]; decide) (fun _ => rfl) (fun v1_1 hv1_1 => ?_)
        refine gs_iinc (ls2 := fun v => [(0, .int (Int32.ofNat e)), (1, .int (v1_1)), (2, .int (v))]) (pc := 13) (gd gk_140 11 rfl) rfl (by rw [gL_140]; decide) (fun _ => rfl) (1) rfl (fun v2_1 hv2_1 => ?_)
        obtain rfl : v2_1 = Int32.ofNat (k + 1) := hv2_1.trans (by first | rfl | (simp only [Int32.ofNat_add, Int32.ofNat_mul]; rfl) | (simp only [Int32.ofNat_add, Int32.ofNat_mul]))
        refine gs_goto (pc := 16) (gd gk_140 12 rfl) ?_
        -- end 2: stop, pc 4, locals [(0, .int (Int32.ofNat e)), (1, .int (v1_1)), (2, .int (Int32.ofNat (k + 1)))]
        refine ih (k + 1) (by omega) (by omega) _ ?_
        obtain ⟨j, rfl⟩ : ∃ j, k = j + 1 := ⟨k - 1, by omega⟩
        rw [hv1_1, hx]
        exact gz_fct j (by omega)
  by_cases h1 : 1 ≤ e
  · skip
    refine gs_iconst (pc := 0) (gd gk_140 0 rfl) (1) rfl ?_
    refine gs_istore_n (ls2 := fun v => [(0, .int (Int32.ofNat e)), (1, .int (v))]) (pc := 1) (gd gk_140 1 rfl) (by rw [gL_140]; decide) (fun _ => rfl) (fun v1_1 hv1_1 => ?_)
    obtain rfl : v1_1 = Int32.ofNat 1 := hv1_1.trans (by first | rfl | (simp only [Int32.ofNat_add, Int32.ofNat_mul]; rfl) | (simp only [Int32.ofNat_add, Int32.ofNat_mul]))
    refine gs_iconst (pc := 2) (gd gk_140 2 rfl) (2) rfl ?_
    refine gs_istore_n (ls2 := fun v => [(0, .int (Int32.ofNat e)), (1, .int (Int32.ofNat 1)), (2, .int (v))]) (pc := 3) (gd gk_140 3 rfl) (by rw [gL_140]; decide) (fun _ => rfl) (fun v2_1 hv2_1 => ?_)
    obtain rfl : v2_1 = Int32.ofNat 2 := hv2_1.trans (by first | rfl | (simp only [Int32.ofNat_add, Int32.ofNat_mul]; rfl) | (simp only [Int32.ofNat_add, Int32.ofNat_mul]))
    -- end 1: stop, pc 4, locals [(0, .int (Int32.ofNat e)), (1, .int (Int32.ofNat 1)), (2, .int (Int32.ofNat 2))]
    exact lp (e - 1) 2 (by omega) (by omega) _ rfl
  · obtain rfl : e = 0 := by omega
    refine gs_iconst (pc := 0) (gd gk_140 0 rfl) (1) rfl ?_
    refine gs_istore_n (ls2 := fun v => [(0, .int (Int32.ofNat 0)), (1, .int (v))]) (pc := 1) (gd gk_140 1 rfl) (by rw [gL_140]; decide) (fun _ => rfl) (fun v1_1 hv1_1 => ?_)
    obtain rfl : v1_1 = Int32.ofNat 1 := hv1_1.trans (by first | rfl | (simp only [Int32.ofNat_add, Int32.ofNat_mul]; rfl) | (simp only [Int32.ofNat_add, Int32.ofNat_mul]))
    refine gs_iconst (pc := 2) (gd gk_140 2 rfl) (2) rfl ?_
    refine gs_istore_n (ls2 := fun v => [(0, .int (Int32.ofNat 0)), (1, .int (Int32.ofNat 1)), (2, .int (v))]) (pc := 3) (gd gk_140 3 rfl) (by rw [gL_140]; decide) (fun _ => rfl) (fun v2_1 hv2_1 => ?_)
    obtain rfl : v2_1 = Int32.ofNat 2 := hv2_1.trans (by first | rfl | (simp only [Int32.ofNat_add, Int32.ofNat_mul]; rfl) | (simp only [Int32.ofNat_add, Int32.ofNat_mul]))
    refine gs_iload_n (pc := 4) (gd gk_140 4 rfl) rfl ?_
    refine gs_iload_n (pc := 5) (gd gk_140 5 rfl) rfl ?_
    refine gs_icmp_gt (pc := 6) (gd gk_140 6 rfl) (fun c6 => ?_) (fun c6 => ?_)
    · replace c6 : 0 < 2 := (zlt (k := 0) (m := 2) (by omega) (by omega)).mp c6
      refine gs_iload_n (pc := 19) (gd gk_140 13 rfl) rfl ?_
      -- end 1: ireturn Int32.ofNat 1, pc 20, locals [(0, .int (Int32.ofNat 0)), (1, .int (Int32.ofNat 1)), (2, .int (Int32.ofNat 2))]
      exact gs_iret (pc := 20) (gd gk_140 14 rfl) rfl (rfl) (Nat.zero_le _) (Nat.zero_le _) (⟨rfl, rfl⟩)
    · replace c6 : ¬ (0 < 2) := fun q9 => c6 ((zlt (k := 0) (m := 2) (by omega) (by omega)).mpr q9)
      -- end 2: stop, pc 9, locals [(0, .int (Int32.ofNat 0)), (1, .int (Int32.ofNat 1)), (2, .int (Int32.ofNat 2))]
      exact absurd (by decide) c6
end
