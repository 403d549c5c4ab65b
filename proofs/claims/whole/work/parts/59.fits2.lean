/-! ===== the class: fits ===== -/
def gz_fi (t : Nat → Int32) (l W p : Nat) : Bool := if p < 4 then gz_fh t l p else if p < 4 + W then true else decide (p - 4 - W < 30) && gz_fn t l p ((p - 4 - W) % 5)
theorem gz_r5 : ∀ b, b < 100 → Int32.ofNat b - Int32.ofNat b / 5 * 5 = Int32.ofNat (b % 5) := by decide +kernel
theorem gz_neg : ∀ p, p < 12 → ∀ W, W < 9 → p < 4 + W → (Int32.ofNat p - 4 - Int32.ofNat W < 0) := by decide +kernel
section
variable {V : gw_V} {n l : Nat} {I : Nat → Nat → Int32} {J : Nat → Nat → Int64}
theorem c_fits (p W : Nat) (hp : p < 48) (hW : W ≤ 8) (hl : I 4 1 = Int32.ofNat l) (h8 : l ≤ 48) : gw_E V 44 (0, [(0, .ref 4), (1, .int (Int32.ofNat p)), (2, .int (Int32.ofNat W))], [], gS n I J, 0, 0) (fun v w' => v = some (.int (gz_b (gz_fi (I 5) l W p))) ∧ w' = gS n I J) := by
  by_cases h4 : p < 4
  · skip
    refine gs_iload_n (pc := 0) (gd gk_44 0 rfl) rfl ?_
    refine gs_iconst (pc := 1) (gd gk_44 1 rfl) (4) rfl ?_
    refine gs_icmp_ge (pc := 2) (gd gk_44 2 rfl) (fun c2 => ?_) (fun c2 => ?_)
    · replace c2 : 4 ≤ p := (zle (k := 4) (m := p) (by omega) (by omega)).mp c2
      -- end 1: stop, pc 11, locals [(0, .ref (4)), (1, .int (Int32.ofNat p)), (2, .int (Int32.ofNat W))]
      exact absurd c2 (by omega)
    · replace c2 : ¬ (4 ≤ p) := fun q9 => c2 ((zle (k := 4) (m := p) (by omega) (by omega)).mpr q9)
      refine gs_aload_n (pc := 5) (gd gk_44 3 rfl) rfl ?_
      refine gs_iload_n (pc := 6) (gd gk_44 4 rfl) rfl ?_
      refine gs_callV (as := [.int (Int32.ofNat p)]) (pc := 7) (gd gk_44 5 rfl) (by decide) rfl (by decide) rfl rfl (Nat.le_of_ble_eq_true rfl) gq_44_45 (Nat.le_of_ble_eq_true rfl) (c_fitsHead p (by omega) hl h8) (fun r_7 w_7 q_7 => ?_)
      obtain ⟨rfl, rfl⟩ := q_7
      -- end 2: ireturn (gz_b (gz_fh (I 5) l p)), pc 10, locals [(0, .ref (4)), (1, .int (Int32.ofNat p)), (2, .int (Int32.ofNat W))]
      exact gs_iret (pc := 10) (gd gk_44 6 rfl) rfl (gz_b_nar _) (Nat.zero_le _) (Nat.zero_le _) (⟨by unfold gz_fi; rw [if_pos h4], rfl⟩)
  by_cases h5 : p < 4 + W
  · have hneg := gz_neg p (by omega) W (by omega) h5
    refine gs_iload_n (pc := 0) (gd gk_44 0 rfl) rfl ?_
    refine gs_iconst (pc := 1) (gd gk_44 1 rfl) (4) rfl ?_
    refine gs_icmp_ge (pc := 2) (gd gk_44 2 rfl) (fun c2 => ?_) (fun c2 => ?_)
    · replace c2 : 4 ≤ p := (zle (k := 4) (m := p) (by omega) (by omega)).mp c2
      refine gs_iload_n (pc := 11) (gd gk_44 7 rfl) rfl ?_
      refine gs_iconst (pc := 12) (gd gk_44 8 rfl) (4) rfl ?_
      refine gs_isub (pc := 13) (gd gk_44 9 rfl) ?_
      refine gs_iload_n (pc := 14) (gd gk_44 10 rfl) rfl ?_
      refine gs_isub (pc := 15) (gd gk_44 11 rfl) ?_
      refine gs_istore_n (ls2 := fun v => [(0, .ref (4)), (1, .int (Int32.ofNat p)), (2, .int (Int32.ofNat W)), (3, .int (v))]) (pc := 16) (gd gk_44 12 rfl) (by rw [gL_44]; decide) (fun _ => rfl) (fun v3_1 hv3_1 => ?_)
      refine gs_iload_n (pc := 17) (gd gk_44 13 rfl) rfl ?_
      refine gs_if_lt (pc := 18) (gd gk_44 14 rfl) (fun c18 => ?_) (fun c18 => ?_)
      · refine gs_iconst (pc := 38) (gd gk_44 25 rfl) (1) rfl ?_
        refine gs_goto (pc := 39) (gd gk_44 26 rfl) ?_
        -- end 1: ireturn 1, pc 43, locals [(0, .ref (4)), (1, .int (Int32.ofNat p)), (2, .int (Int32.ofNat W)), (3, .int (v3_1))]
        exact gs_iret (pc := 43) (gd gk_44 28 rfl) rfl (rfl) (Nat.zero_le _) (Nat.zero_le _) (⟨by unfold gz_fi; rw [if_neg h4, if_pos h5]; rfl, rfl⟩)
      · -- end 2: stop, pc 21, locals [(0, .ref (4)), (1, .int (Int32.ofNat p)), (2, .int (Int32.ofNat W)), (3, .int (v3_1))]
        exact absurd (hv3_1 ▸ hneg) c18
    · replace c2 : ¬ (4 ≤ p) := fun q9 => c2 ((zle (k := 4) (m := p) (by omega) (by omega)).mpr q9)
      -- end 3: stop, pc 5, locals [(0, .ref (4)), (1, .int (Int32.ofNat p)), (2, .int (Int32.ofNat W))]
      exact absurd (by omega) c2
  · obtain ⟨b, rfl⟩ : ∃ b, p = 4 + W + b := ⟨p - (4 + W), by omega⟩
    have eb : Int32.ofNat (4 + W + b) - 4 - Int32.ofNat W = Int32.ofNat b := by rw [Int32.ofNat_add, Int32.ofNat_add]; have : Int32.ofNat 4 = 4 := rfl; rw [this]; grind
    have ef : gz_fi (I 5) l W (4 + W + b) = (decide (b < 30) && gz_fn (I 5) l (4 + W + b) (b % 5)) := by unfold gz_fi; rw [if_neg h4, if_neg h5, show 4 + W + b - 4 - W = b by omega]
    refine gs_iload_n (pc := 0) (gd gk_44 0 rfl) rfl ?_
    refine gs_iconst (pc := 1) (gd gk_44 1 rfl) (4) rfl ?_
    refine gs_icmp_ge (pc := 2) (gd gk_44 2 rfl) (fun c2 => ?_) (fun c2 => ?_)
    · replace c2 : 4 ≤ (4 + W + b) := (zle (k := 4) (m := (4 + W + b)) (by omega) (by omega)).mp c2
      refine gs_iload_n (pc := 11) (gd gk_44 7 rfl) rfl ?_
      refine gs_iconst (pc := 12) (gd gk_44 8 rfl) (4) rfl ?_
      refine gs_isub (pc := 13) (gd gk_44 9 rfl) ?_
      refine gs_iload_n (pc := 14) (gd gk_44 10 rfl) rfl ?_
      refine gs_isub (pc := 15) (gd gk_44 11 rfl) ?_
      refine gs_istore_n (ls2 := fun v => [(0, .ref (4)), (1, .int (Int32.ofNat (4 + W + b))), (2, .int (Int32.ofNat W)), (3, .int (v))]) (pc := 16) (gd gk_44 12 rfl) (by rw [gL_44]; decide) (fun _ => rfl) (fun v3_1 hv3_1 => ?_)
      obtain rfl : v3_1 = Int32.ofNat b := hv3_1.trans eb
      refine gs_iload_n (pc := 17) (gd gk_44 13 rfl) rfl ?_
      refine gs_if_lt (pc := 18) (gd gk_44 14 rfl) (fun c18 => ?_) (fun c18 => ?_)
      · replace c18 : b < 0 := (zlt (k := b) (m := 0) (by omega) (by omega)).mp c18
        refine gs_iconst (pc := 38) (gd gk_44 25 rfl) (1) rfl ?_
        refine gs_goto (pc := 39) (gd gk_44 26 rfl) ?_
        -- end 1: ireturn 1, pc 43, locals [(0, .ref (4)), (1, .int (Int32.ofNat (4 + W + b))), (2, .int (Int32.ofNat W)), (3, .int (Int32.ofNat b))]
        exact absurd c18 (Nat.not_lt_zero _)
      · replace c18 : ¬ (b < 0) := fun q9 => c18 ((zlt (k := b) (m := 0) (by omega) (by omega)).mpr q9)
        refine gs_iload_n (pc := 21) (gd gk_44 15 rfl) rfl ?_
        refine gs_bipush (pc := 22) (gd gk_44 16 rfl) (30) rfl ?_
        refine gs_icmp_ge (pc := 24) (gd gk_44 17 rfl) (fun c24 => ?_) (fun c24 => ?_)
        · replace c24 : 30 ≤ b := (zle (k := 30) (m := b) (by omega) (by omega)).mp c24
          refine gs_iconst (pc := 42) (gd gk_44 27 rfl) (0) rfl ?_
          -- end 2: ireturn 0, pc 43, locals [(0, .ref (4)), (1, .int (Int32.ofNat (4 + W + b))), (2, .int (Int32.ofNat W)), (3, .int (Int32.ofNat b))]
          exact gs_iret (pc := 43) (gd gk_44 28 rfl) rfl (rfl) (Nat.zero_le _) (Nat.zero_le _) (⟨by rw [ef, decide_eq_false (by omega)]; rfl, rfl⟩)
        · replace c24 : ¬ (30 ≤ b) := fun q9 => c24 ((zle (k := 30) (m := b) (by omega) (by omega)).mpr q9)
          refine gs_aload_n (pc := 27) (gd gk_44 18 rfl) rfl ?_
          refine gs_iload_n (pc := 28) (gd gk_44 19 rfl) rfl ?_
          refine gs_iload_n (pc := 29) (gd gk_44 20 rfl) rfl ?_
          refine gs_iconst (pc := 30) (gd gk_44 21 rfl) (5) rfl ?_
          refine gs_irem (pc := 31) (gd gk_44 22 rfl) (by decide) ?_
          refine gs_callV (as := [.int (Int32.ofNat (4 + W + b)), .int ((Int32.ofNat b - Int32.ofNat b / 5 * 5))]) (pc := 32) (gd gk_44 23 rfl) (by decide) rfl (by decide) rfl rfl (Nat.le_of_ble_eq_true rfl) gq_44_46 (Nat.le_of_ble_eq_true rfl) ((by rw [gz_r5 b (by omega)]; exact c_fitsNose (4 + W + b) (b % 5) (by omega) (by omega) hl h8)) (fun r_32 w_32 q_32 => ?_)
          obtain ⟨rfl, rfl⟩ := q_32
          refine gs_if_eq (pc := 35) (gd gk_44 24 rfl) (fun c35 => ?_) (fun c35 => ?_)
          · refine gs_iconst (pc := 42) (gd gk_44 27 rfl) (0) rfl ?_
            -- end 3: ireturn 0, pc 43, locals [(0, .ref (4)), (1, .int (Int32.ofNat (4 + W + b))), (2, .int (Int32.ofNat W)), (3, .int (Int32.ofNat b))]
            exact gs_iret (pc := 43) (gd gk_44 28 rfl) rfl (rfl) (Nat.zero_le _) (Nat.zero_le _) (⟨by rw [ef, gz_b_eq.mp c35, Bool.and_false]; rfl, rfl⟩)
          · refine gs_iconst (pc := 38) (gd gk_44 25 rfl) (1) rfl ?_
            refine gs_goto (pc := 39) (gd gk_44 26 rfl) ?_
            -- end 4: ireturn 1, pc 43, locals [(0, .ref (4)), (1, .int (Int32.ofNat (4 + W + b))), (2, .int (Int32.ofNat W)), (3, .int (Int32.ofNat b))]
            exact gs_iret (pc := 43) (gd gk_44 28 rfl) rfl (rfl) (Nat.zero_le _) (Nat.zero_le _) (⟨by rw [ef, gz_b_ne.mp c35, decide_eq_true (by omega)]; rfl, rfl⟩)
    · replace c2 : ¬ (4 ≤ (4 + W + b)) := fun q9 => c2 ((zle (k := 4) (m := (4 + W + b)) (by omega) (by omega)).mpr q9)
      -- end 5: stop, pc 5, locals [(0, .ref (4)), (1, .int (Int32.ofNat (4 + W + b))), (2, .int (Int32.ofNat W))]
      exact absurd (by omega) c2
end
