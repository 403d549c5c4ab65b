/-! ===== the class: figureAt ===== -/
def gz_fg (row : Int32) (b : Nat) : Int32 := row / Int32.ofNat (10 ^ b) - row / Int32.ofNat (10 ^ b) / 10 * 10
theorem gz_t10 : ∀ b, b < 9 → ¬ Int32.ofNat (10 ^ b) = 0 := by decide +kernel
section
variable {V : gw_V} {n : Nat} {I : Nat → Nat → Int32} {J : Nat → Nat → Int64}
theorem c_figureAt (e k : Nat) (row : Int32) (he : e ≤ 8) (hk : k < e) (hT : ∀ b, b < 9 → I 2 b = Int32.ofNat (10 ^ b)) : gw_E V 99 (0, [(0, .int (Int32.ofNat e)), (1, .int row), (2, .int (Int32.ofNat k))], [], gS n I J, 0, 0) (fun v w' => v = some (.int (gz_fg row (e - 1 - k))) ∧ w' = gS n I J) := by
  obtain ⟨b, rfl⟩ : ∃ b, e = k + b + 1 := ⟨e - 1 - k, by omega⟩
  have eb : Int32.ofNat (k + b + 1) - 1 - Int32.ofNat k = Int32.ofNat b := by rw [zsucc, Int32.ofNat_add]; grind
  have e2 : I 2 b = Int32.ofNat (10 ^ b) := hT b (by omega)
  have hne := gz_t10 b (by omega)
  rw [show k + b + 1 - 1 - k = b by omega]
  refine gs_iload_n (pc := 0) (gd gk_99 0 rfl) rfl ?_
  refine gs_iconst (pc := 1) (gd gk_99 1 rfl) (1) rfl ?_
  refine gs_isub (pc := 2) (gd gk_99 2 rfl) ?_
  refine gs_iload_n (pc := 3) (gd gk_99 3 rfl) rfl ?_
  refine gs_isub (pc := 4) (gd gk_99 4 rfl) ?_
  refine gs_istore_n (ls2 := fun v => [(0, .int (Int32.ofNat (k + b + 1))), (1, .int (row)), (2, .int (Int32.ofNat k)), (3, .int (v))]) (pc := 5) (gd gk_99 5 rfl) (by rw [gL_99]; decide) (fun _ => rfl) (fun v3_1 hv3_1 => ?_)
  obtain rfl : v3_1 = Int32.ofNat b := hv3_1.trans eb
  refine gs_iload_n (pc := 6) (gd gk_99 6 rfl) rfl ?_
  refine gs_if_lt (pc := 7) (gd gk_99 7 rfl) (fun c7 => ?_) (fun c7 => ?_)
  · replace c7 : b < 0 := (zlt (k := b) (m := 0) (by omega) (by omega)).mp c7
    refine gs_iconst (pc := 31) (gd gk_99 20 rfl) (0) rfl ?_
    -- end 1: ireturn 0, pc 32, locals [(0, .int (Int32.ofNat (k + b + 1))), (1, .int (row)), (2, .int (Int32.ofNat k)), (3, .int (Int32.ofNat b))]
    exact absurd c7 (Nat.not_lt_zero _)
  · replace c7 : ¬ (b < 0) := fun q9 => c7 ((zlt (k := b) (m := 0) (by omega) (by omega)).mpr q9)
    refine gs_iload_n (pc := 10) (gd gk_99 8 rfl) rfl ?_
    refine gs_gets (pc := 11) (gd gk_99 9 rfl) ?_
    refine gs_alen (v := Int32.ofNat 9) (pc := 14) (gd gk_99 10 rfl) rfl (by decide) rfl ?_
    refine gs_icmp_ge (pc := 15) (gd gk_99 11 rfl) (fun c15 => ?_) (fun c15 => ?_)
    · replace c15 : 9 ≤ b := (zle (k := 9) (m := b) (by omega) (by omega)).mp c15
      refine gs_iconst (pc := 31) (gd gk_99 20 rfl) (0) rfl ?_
      -- end 2: ireturn 0, pc 32, locals [(0, .int (Int32.ofNat (k + b + 1))), (1, .int (row)), (2, .int (Int32.ofNat k)), (3, .int (Int32.ofNat b))]
      exact absurd c15 (by omega)
    · replace c15 : ¬ (9 ≤ b) := fun q9 => c15 ((zle (k := 9) (m := b) (by omega) (by omega)).mpr q9)
      refine gs_iload_n (pc := 18) (gd gk_99 12 rfl) rfl ?_
      refine gs_gets (pc := 19) (gd gk_99 13 rfl) ?_
      refine gs_iload_n (pc := 22) (gd gk_99 14 rfl) rfl ?_
      refine gs_ialoadK (b) (9) (pc := 23) (gd gk_99 15 rfl) (Or.inr ⟨rfl, by decide⟩) rfl (by decide) (by first | rfl | (simp only [Int32.ofNat_add, Int32.ofNat_mul]; rfl) | (simp only [Int32.ofNat_add, Int32.ofNat_mul])) (by omega) ?_
      refine gs_as (Int32.ofNat (10 ^ b)) (e2) ?_
      refine gs_idiv (pc := 24) (gd gk_99 16 rfl) hne ?_
      refine gs_bipush (pc := 25) (gd gk_99 17 rfl) (10) rfl ?_
      refine gs_irem (pc := 27) (gd gk_99 18 rfl) (by decide) ?_
      refine gs_goto (pc := 28) (gd gk_99 19 rfl) ?_
      -- end 3: ireturn ((row / Int32.ofNat (10 ^ b)) - (row / Int32.ofNat (10 ^ b)) / 10 * 10), pc 32, locals [(0, .int (Int32.ofNat (k + b + 1))), (1, .int (row)), (2, .int (Int32.ofNat k)), (3, .int (Int32.ofNat b))]
      exact gs_iret (pc := 32) (gd gk_99 21 rfl) rfl (rfl) (Nat.zero_le _) (Nat.zero_le _) (⟨rfl, rfl⟩)
end
