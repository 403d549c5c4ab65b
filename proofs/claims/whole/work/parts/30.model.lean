/-! ===== the reference's street, an hour of it ===== -/
def gz_M (I : Nat → Nat → Int32) : Nat → Nat → Int32 := fun a k => if a = 0 then (if k < 5 then I 126 k else 0) else if a = 1 then I 127 k else if a = 2 then I 129 (4 * k) else if a = 3 then I 129 (4 * k + 1) else if a = 4 then I 129 (4 * k + 2) else if a = 5 then I 129 (4 * k + 3) else 0
theorem gz_M_eq {I I1 : Nat → Nat → Int32} (h : ∀ k, k < 5 → I1 126 k = I 126 k) (h1 : I1 127 = I 127) (h2 : I1 129 = I 129) : gz_M I1 = gz_M I := by
  funext a k
  unfold gz_M
  rw [h1, h2]
  by_cases q : k < 5
  · rw [if_pos q, if_pos q, h k q]
  · rw [if_neg q, if_neg q]
/-- a level of its mornings -/
def gz_L (I : Nat → Nat → Int32) (l : Nat) : Nat → Int32 := fun c => I 133 (13 * l + c)
section
variable {V : gw_V} {n W N : Nat} {I : Nat → Nat → Int32} {J : Nat → Nat → Int64}
theorem m_pays (k : Nat) (hk : k < 6) (bh : Bool) (wd : Int32) (hc : 0 ≤ I 129 (4 * k + 3) ∧ I 129 (4 * k + 3) ≤ 3) : gw_E V 126 (0, [(0, .ref 126), (1, .int (Int32.ofNat k)), (2, .int (gz_b bh)), (3, .int wd)], [], gS n I J, 0, 0) (fun v w' => v = some (.int (gq_due (gz_M I) k bh (decide (wd = 1)))) ∧ w' = gS n I J) := by
  refine gs_aload_n (pc := 0) (gd gk_126 0 rfl) rfl ?_
  refine gs_getR (r := 129) (pc := 1) (gd gk_126 1 rfl) rfl rfl rfl (by decide) ?_
  refine gs_iconst (pc := 4) (gd gk_126 2 rfl) (4) rfl ?_
  refine gs_iload_n (pc := 5) (gd gk_126 3 rfl) rfl ?_
  refine gs_imul (pc := 6) (gd gk_126 4 rfl) ?_
  refine gs_iconst (pc := 7) (gd gk_126 5 rfl) (2) rfl ?_
  refine gs_iadd (pc := 8) (gd gk_126 6 rfl) ?_
  refine gs_ialoadK (((4 * k) + 2)) (24) (pc := 9) (gd gk_126 7 rfl) (Or.inl rfl) rfl (by decide) (by first | rfl | (simp only [Int32.ofNat_add, Int32.ofNat_mul]; rfl) | (simp only [Int32.ofNat_add, Int32.ofNat_mul])) (by omega) ?_
  refine gs_istore (ls2 := fun v => [(0, .ref (126)), (1, .int (Int32.ofNat k)), (2, .int (gz_b bh)), (3, .int (wd)), (4, .int (v))]) (pc := 10) (gd gk_126 8 rfl) (by rw [gL_126]; decide) (fun _ => rfl) (fun v4_1 hv4_1 => ?_)
  refine gs_aload_n (pc := 12) (gd gk_126 9 rfl) rfl ?_
  refine gs_getR (r := 129) (pc := 13) (gd gk_126 10 rfl) rfl rfl rfl (by decide) ?_
  refine gs_iconst (pc := 16) (gd gk_126 11 rfl) (4) rfl ?_
  refine gs_iload_n (pc := 17) (gd gk_126 12 rfl) rfl ?_
  refine gs_imul (pc := 18) (gd gk_126 13 rfl) ?_
  refine gs_iconst (pc := 19) (gd gk_126 14 rfl) (3) rfl ?_
  refine gs_iadd (pc := 20) (gd gk_126 15 rfl) ?_
  refine gs_ialoadK (((4 * k) + 3)) (24) (pc := 21) (gd gk_126 16 rfl) (Or.inl rfl) rfl (by decide) (by first | rfl | (simp only [Int32.ofNat_add, Int32.ofNat_mul]; rfl) | (simp only [Int32.ofNat_add, Int32.ofNat_mul])) (by omega) ?_
  -- end 1: switch, pc 22, locals [(0, .ref (126)), (1, .int (Int32.ofNat k)), (2, .int (gz_b bh)), (3, .int (wd)), (4, .int (v4_1))]
  skip
  have h4 : I 129 (4 * k + 3) = 0 ∨ I 129 (4 * k + 3) = 1 ∨ I 129 (4 * k + 3) = 2 ∨ I 129 (4 * k + 3) = 3 := by grind
  rcases h4 with e | e | e | e
  · rw [e]
    refine gs_tblIn (off := 26) (pc := 22) 48 (gd gk_126 17 rfl) (by decide) (by decide) rfl (by decide) ?_
    refine gs_iload_n (pc := 48) (gd gk_126 18 rfl) rfl ?_
    refine gs_if_eq (pc := 49) (gd gk_126 19 rfl) (fun c49 => ?_) (fun c49 => ?_)
    · refine gs_iconst (pc := 57) (gd gk_126 22 rfl) (0) rfl ?_
      -- end 1: ireturn 0, pc 58, locals [(0, .ref (126)), (1, .int (Int32.ofNat k)), (2, .int (gz_b bh)), (3, .int (wd)), (4, .int (v4_1))]
      exact gs_iret (pc := 58) (gd gk_126 23 rfl) rfl (rfl) (Nat.zero_le _) (Nat.zero_le _) (⟨by simp [gq_due, gz_M, e, gz_b_eq.mp c49], rfl⟩)
    · refine gs_iload (pc := 52) (gd gk_126 20 rfl) rfl ?_
      refine gs_goto (pc := 54) (gd gk_126 21 rfl) ?_
      -- end 2: ireturn v4_1, pc 58, locals [(0, .ref (126)), (1, .int (Int32.ofNat k)), (2, .int (gz_b bh)), (3, .int (wd)), (4, .int (v4_1))]
      exact gs_iret (pc := 58) (gd gk_126 23 rfl) rfl (rfl) (Nat.zero_le _) (Nat.zero_le _) (⟨by simp [gq_due, gz_M, e, gz_b_ne.mp c49, hv4_1], rfl⟩)
  · rw [e]
    refine gs_tblIn (off := 37) (pc := 22) 59 (gd gk_126 17 rfl) (by decide) (by decide) rfl (by decide) ?_
    refine gs_iload_n (pc := 59) (gd gk_126 24 rfl) rfl ?_
    refine gs_if_eq (pc := 60) (gd gk_126 25 rfl) (fun c60 => ?_) (fun c60 => ?_)
    · refine gs_iload (pc := 67) (gd gk_126 28 rfl) rfl ?_
      refine gs_ineg (pc := 69) (gd gk_126 29 rfl) ?_
      -- end 1: ireturn (-v4_1), pc 70, locals [(0, .ref (126)), (1, .int (Int32.ofNat k)), (2, .int (gz_b bh)), (3, .int (wd)), (4, .int (v4_1))]
      exact gs_iret (pc := 70) (gd gk_126 30 rfl) rfl (rfl) (Nat.zero_le _) (Nat.zero_le _) (⟨by simp [gq_due, gz_M, e, gz_b_eq.mp c60, hv4_1], rfl⟩)
    · refine gs_iconst (pc := 63) (gd gk_126 26 rfl) (0) rfl ?_
      refine gs_goto (pc := 64) (gd gk_126 27 rfl) ?_
      -- end 2: ireturn 0, pc 70, locals [(0, .ref (126)), (1, .int (Int32.ofNat k)), (2, .int (gz_b bh)), (3, .int (wd)), (4, .int (v4_1))]
      exact gs_iret (pc := 70) (gd gk_126 30 rfl) rfl (rfl) (Nat.zero_le _) (Nat.zero_le _) (⟨by simp [gq_due, gz_M, e, gz_b_ne.mp c60], rfl⟩)
  · rw [e]
    refine gs_tblIn (off := 49) (pc := 22) 71 (gd gk_126 17 rfl) (by decide) (by decide) rfl (by decide) ?_
    refine gs_iload_n (pc := 71) (gd gk_126 31 rfl) rfl ?_
    refine gs_if_eq (pc := 72) (gd gk_126 32 rfl) (fun c72 => ?_) (fun c72 => ?_)
    · refine gs_iconst (pc := 85) (gd gk_126 38 rfl) (0) rfl ?_
      -- end 1: ireturn 0, pc 86, locals [(0, .ref (126)), (1, .int (Int32.ofNat k)), (2, .int (gz_b bh)), (3, .int (wd)), (4, .int (v4_1))]
      exact gs_iret (pc := 86) (gd gk_126 39 rfl) rfl (rfl) (Nat.zero_le _) (Nat.zero_le _) (⟨by simp [gq_due, gz_M, e, gz_b_eq.mp c72], rfl⟩)
    · refine gs_iload_n (pc := 75) (gd gk_126 33 rfl) rfl ?_
      refine gs_iconst (pc := 76) (gd gk_126 34 rfl) (1) rfl ?_
      refine gs_icmp_ne (pc := 77) (gd gk_126 35 rfl) (fun c77 => ?_) (fun c77 => ?_)
      · refine gs_iconst (pc := 85) (gd gk_126 38 rfl) (0) rfl ?_
        -- end 2: ireturn 0, pc 86, locals [(0, .ref (126)), (1, .int (Int32.ofNat k)), (2, .int (gz_b bh)), (3, .int (wd)), (4, .int (v4_1))]
        exact gs_iret (pc := 86) (gd gk_126 39 rfl) rfl (rfl) (Nat.zero_le _) (Nat.zero_le _) (⟨by simp [gq_due, gz_M, e, gz_b_ne.mp c72, c77], rfl⟩)
      · refine gs_iload (pc := 80) (gd gk_126 36 rfl) rfl ?_
        refine gs_goto (pc := 82) (gd gk_126 37 rfl) ?_
        -- end 3: ireturn v4_1, pc 86, locals [(0, .ref (126)), (1, .int (Int32.ofNat k)), (2, .int (gz_b bh)), (3, .int (wd)), (4, .int (v4_1))]
        exact gs_iret (pc := 86) (gd gk_126 39 rfl) rfl (rfl) (Nat.zero_le _) (Nat.zero_le _) (⟨by simp [gq_due, gz_M, e, gz_b_ne.mp c72, c77, hv4_1], rfl⟩)
  · rw [e]
    refine gs_tblOut (pc := 22) 87 (gd gk_126 17 rfl) (by decide) (by decide) ?_
    refine gs_iload_n (pc := 87) (gd gk_126 40 rfl) rfl ?_
    refine gs_if_eq (pc := 88) (gd gk_126 41 rfl) (fun c88 => ?_) (fun c88 => ?_)
    · refine gs_iconst (pc := 97) (gd gk_126 45 rfl) (0) rfl ?_
      -- end 1: ireturn 0, pc 98, locals [(0, .ref (126)), (1, .int (Int32.ofNat k)), (2, .int (gz_b bh)), (3, .int (wd)), (4, .int (v4_1))]
      exact gs_iret (pc := 98) (gd gk_126 46 rfl) rfl (rfl) (Nat.zero_le _) (Nat.zero_le _) (⟨by simp [gq_due, gz_M, e, gz_b_eq.mp c88], rfl⟩)
    · refine gs_iload (pc := 91) (gd gk_126 42 rfl) rfl ?_
      refine gs_ineg (pc := 93) (gd gk_126 43 rfl) ?_
      refine gs_goto (pc := 94) (gd gk_126 44 rfl) ?_
      -- end 2: ireturn (-v4_1), pc 98, locals [(0, .ref (126)), (1, .int (Int32.ofNat k)), (2, .int (gz_b bh)), (3, .int (wd)), (4, .int (v4_1))]
      exact gs_iret (pc := 98) (gd gk_126 46 rfl) rfl (rfl) (Nat.zero_le _) (Nat.zero_le _) (⟨by simp [gq_due, gz_M, e, gz_b_ne.mp c88, hv4_1], rfl⟩)
theorem m_hasIt (l k : Nat) (hl : l < 3) (hk : k < 6) (hc : 0 ≤ I 129 (4 * k) ∧ I 129 (4 * k) ≤ 9) : gw_E V 121 (0, [(0, .ref 126), (1, .int (Int32.ofNat l)), (2, .int (Int32.ofNat k))], [], gS n I J, 0, 0) (fun v w' => v = some (.int (gz_b (gq_has (gz_M I) (gz_L I l) k))) ∧ w' = gS n I J) := by
  have h9 : (I 129 (4 * k)).toNatClampNeg ≤ 9 := (zle_l hc.1 (n := 9) (by decide)).mp hc.2
  generalize hcc : (I 129 (4 * k)).toNatClampNeg = cc at h9
  have hcv : I 129 (4 * k) = Int32.ofNat cc := by rw [← hcc]; exact (znat hc.1).1.symm
  refine gs_aload_n (pc := 0) (gd gk_121 0 rfl) rfl ?_
  refine gs_getR (r := 133) (pc := 1) (gd gk_121 1 rfl) rfl rfl rfl (by decide) ?_
  refine gs_bipush (pc := 4) (gd gk_121 2 rfl) (13) rfl ?_
  refine gs_iload_n (pc := 6) (gd gk_121 3 rfl) rfl ?_
  refine gs_imul (pc := 7) (gd gk_121 4 rfl) ?_
  refine gs_aload_n (pc := 8) (gd gk_121 5 rfl) rfl ?_
  refine gs_getR (r := 129) (pc := 9) (gd gk_121 6 rfl) rfl rfl rfl (by decide) ?_
  refine gs_iconst (pc := 12) (gd gk_121 7 rfl) (4) rfl ?_
  refine gs_iload_n (pc := 13) (gd gk_121 8 rfl) rfl ?_
  refine gs_imul (pc := 14) (gd gk_121 9 rfl) ?_
  refine gs_ialoadK ((4 * k)) (24) (pc := 15) (gd gk_121 10 rfl) (Or.inl rfl) rfl (by decide) (by first | rfl | (simp only [Int32.ofNat_add, Int32.ofNat_mul]; rfl) | (simp only [Int32.ofNat_add, Int32.ofNat_mul])) (by omega) ?_
  refine gs_as (Int32.ofNat cc) (hcv) ?_
  refine gs_iadd (pc := 16) (gd gk_121 11 rfl) ?_
  refine gs_ialoadK (((13 * l) + cc)) (52) (pc := 17) (gd gk_121 12 rfl) (Or.inl rfl) rfl (by decide) (by first | rfl | (simp only [Int32.ofNat_add, Int32.ofNat_mul]; rfl) | (simp only [Int32.ofNat_add, Int32.ofNat_mul])) (by omega) ?_
  refine gs_aload_n (pc := 18) (gd gk_121 13 rfl) rfl ?_
  refine gs_getR (r := 129) (pc := 19) (gd gk_121 14 rfl) rfl rfl rfl (by decide) ?_
  refine gs_iconst (pc := 22) (gd gk_121 15 rfl) (4) rfl ?_
  refine gs_iload_n (pc := 23) (gd gk_121 16 rfl) rfl ?_
  refine gs_imul (pc := 24) (gd gk_121 17 rfl) ?_
  refine gs_iconst (pc := 25) (gd gk_121 18 rfl) (1) rfl ?_
  refine gs_iadd (pc := 26) (gd gk_121 19 rfl) ?_
  refine gs_ialoadK (((4 * k) + 1)) (24) (pc := 27) (gd gk_121 20 rfl) (Or.inl rfl) rfl (by decide) (by first | rfl | (simp only [Int32.ofNat_add, Int32.ofNat_mul]; rfl) | (simp only [Int32.ofNat_add, Int32.ofNat_mul])) (by omega) ?_
  refine gs_icmp_lt (pc := 28) (gd gk_121 21 rfl) (fun c28 => ?_) (fun c28 => ?_)
  · refine gs_iconst (pc := 35) (gd gk_121 24 rfl) (0) rfl ?_
    -- end 1: ireturn 0, pc 36, locals [(0, .ref (126)), (1, .int (Int32.ofNat l)), (2, .int (Int32.ofNat k))]
    have h9 : gq_has (gz_M I) (gz_L I l) k = false := decide_eq_false (fun q9 => Int32.not_lt.mpr q9 (by show I 133 (13 * l + (I 129 (4 * k)).toNatClampNeg) < _; rw [hcc]; exact c28))
    exact gs_iret (pc := 36) (gd gk_121 25 rfl) rfl (rfl) (Nat.zero_le _) (Nat.zero_le _) (⟨by rw [h9]; rfl, rfl⟩)
  · refine gs_iconst (pc := 31) (gd gk_121 22 rfl) (1) rfl ?_
    refine gs_goto (pc := 32) (gd gk_121 23 rfl) ?_
    -- end 2: ireturn 1, pc 36, locals [(0, .ref (126)), (1, .int (Int32.ofNat l)), (2, .int (Int32.ofNat k))]
    have h9 : gq_has (gz_M I) (gz_L I l) k = true := decide_eq_true (by show _ ≤ I 133 (13 * l + (I 129 (4 * k)).toNatClampNeg); rw [hcc]; exact Int32.not_lt.mp c28)
    exact gs_iret (pc := 36) (gd gk_121 25 rfl) rfl (rfl) (Nat.zero_le _) (Nat.zero_le _) (⟨by rw [h9]; rfl, rfl⟩)
theorem m_who (l : Nat) (hl : l < 3) (hok : gq_ok (gz_M I) W N) : gw_E V 122 (0, [(0, .ref 126), (1, .int (Int32.ofNat l))], [], gS n I J, 0, 0) (fun v w' => v = some (.int (gq_who (gz_M I) (gz_L I l) N)) ∧ w' = gS n I J) := by
  obtain ⟨-, -, hN, hN6, -, -, -, -, hns⟩ := hok
  have hN : I 126 4 = Int32.ofNat N := hN
  have key : ∀ (m k : Nat), m + k = N → ∀ x, x = gq_who (gz_M I) (gz_L I l) k → gw_E V 122 (4, [(0, .ref 126), (1, .int (Int32.ofNat l)), (2, .int x), (3, .int (Int32.ofNat k))], [], gS n I J, 0, 0) (fun v w' => v = some (.int (gq_who (gz_M I) (gz_L I l) N)) ∧ w' = gS n I J) := by
    intro m
    induction m with
    | zero =>
      intro k hk x hx
      obtain rfl : k = N := by omega
      refine gs_iload_n (pc := 4) (gd gk_122 4 rfl) rfl ?_
      refine gs_aload_n (pc := 5) (gd gk_122 5 rfl) rfl ?_
      refine gs_getI (pc := 6) (gd gk_122 6 rfl) rfl rfl ?_
      refine gs_as (Int32.ofNat k) (hN) ?_
      refine gs_icmp_ge (pc := 9) (gd gk_122 7 rfl) (fun c9 => ?_) (fun c9 => ?_)
      · replace c9 : k ≤ k := (zle (k := k) (m := k) (by omega) (by omega)).mp c9
        refine gs_iload_n (pc := 37) (gd gk_122 23 rfl) rfl ?_
        -- end 1: ireturn x, pc 38, locals [(0, .ref (126)), (1, .int (Int32.ofNat l)), (2, .int (x)), (3, .int (Int32.ofNat k))]
        exact gs_iret (pc := 38) (gd gk_122 24 rfl) rfl (rfl) (Nat.zero_le _) (Nat.zero_le _) (⟨by rw [hx], rfl⟩)
      · replace c9 : ¬ (k ≤ k) := fun q9 => c9 ((zle (k := k) (m := k) (by omega) (by omega)).mpr q9)
        -- end 2: stop, pc 12, locals [(0, .ref (126)), (1, .int (Int32.ofNat l)), (2, .int (x)), (3, .int (Int32.ofNat k))]
        exact absurd (Nat.le_refl k) c9
    | succ m ih =>
      intro k hk x hx
      refine gs_iload_n (pc := 4) (gd gk_122 4 rfl) rfl ?_
      refine gs_aload_n (pc := 5) (gd gk_122 5 rfl) rfl ?_
      refine gs_getI (pc := 6) (gd gk_122 6 rfl) rfl rfl ?_
      refine gs_as (Int32.ofNat N) (hN) ?_
      refine gs_icmp_ge (pc := 9) (gd gk_122 7 rfl) (fun c9 => ?_) (fun c9 => ?_)
      · replace c9 : N ≤ k := (zle (k := N) (m := k) (by omega) (by omega)).mp c9
        refine gs_iload_n (pc := 37) (gd gk_122 23 rfl) rfl ?_
        -- end 1: ireturn x, pc 38, locals [(0, .ref (126)), (1, .int (Int32.ofNat l)), (2, .int (x)), (3, .int (Int32.ofNat k))]
        exact absurd c9 (by omega)
      · replace c9 : ¬ (N ≤ k) := fun q9 => c9 ((zle (k := N) (m := k) (by omega) (by omega)).mpr q9)
        refine gs_iload_n (pc := 12) (gd gk_122 8 rfl) rfl ?_
        refine gs_aload_n (pc := 13) (gd gk_122 9 rfl) rfl ?_
        refine gs_iload_n (pc := 14) (gd gk_122 10 rfl) rfl ?_
        refine gs_iload_n (pc := 15) (gd gk_122 11 rfl) rfl ?_
        refine gs_callV (as := [.int (Int32.ofNat l), .int (Int32.ofNat k)]) (pc := 16) (gd gk_122 12 rfl) (by decide) rfl (by decide) rfl rfl (Nat.le_of_ble_eq_true rfl) gq_122_121 (Nat.le_of_ble_eq_true rfl) (m_hasIt l k hl (by omega) (hns k (by omega)).1) (fun r_16 w_16 q_16 => ?_)
        obtain ⟨rfl, rfl⟩ := q_16
        refine gs_if_eq (pc := 19) (gd gk_122 13 rfl) (fun c19 => ?_) (fun c19 => ?_)
        · refine gs_iconst (pc := 28) (gd gk_122 18 rfl) (0) rfl ?_
          refine gs_ior (pc := 29) (gd gk_122 19 rfl) ?_
          refine gs_istore_n (ls2 := fun v => [(0, .ref (126)), (1, .int (Int32.ofNat l)), (2, .int (v)), (3, .int (Int32.ofNat k))]) (pc := 30) (gd gk_122 20 rfl) (by rw [gL_122]; decide) (fun _ => rfl) (fun v2_1 hv2_1 => ?_)
          refine gs_iinc (ls2 := fun v => [(0, .ref (126)), (1, .int (Int32.ofNat l)), (2, .int (v2_1)), (3, .int (v))]) (pc := 31) (gd gk_122 21 rfl) rfl (by rw [gL_122]; decide) (fun _ => rfl) (1) rfl (fun v3_1 hv3_1 => ?_)
          obtain rfl : v3_1 = Int32.ofNat (k + 1) := hv3_1.trans (by first | rfl | (simp only [Int32.ofNat_add, Int32.ofNat_mul]; rfl) | (simp only [Int32.ofNat_add, Int32.ofNat_mul]))
          refine gs_goto (pc := 34) (gd gk_122 22 rfl) ?_
          -- end 2: stop, pc 4, locals [(0, .ref (126)), (1, .int (Int32.ofNat l)), (2, .int (v2_1)), (3, .int (Int32.ofNat (k + 1)))]
          exact ih (k + 1) (by omega) _ (by rw [hv2_1, hx]; simp [gq_who, gz_b_eq.mp c19])
        · refine gs_iconst (pc := 22) (gd gk_122 14 rfl) (1) rfl ?_
          refine gs_iload_n (pc := 23) (gd gk_122 15 rfl) rfl ?_
          refine gs_ishl (pc := 24) (gd gk_122 16 rfl) ?_
          refine gs_goto (pc := 25) (gd gk_122 17 rfl) ?_
          refine gs_ior (pc := 29) (gd gk_122 19 rfl) ?_
          refine gs_istore_n (ls2 := fun v => [(0, .ref (126)), (1, .int (Int32.ofNat l)), (2, .int (v)), (3, .int (Int32.ofNat k))]) (pc := 30) (gd gk_122 20 rfl) (by rw [gL_122]; decide) (fun _ => rfl) (fun v2_2 hv2_2 => ?_)
          refine gs_iinc (ls2 := fun v => [(0, .ref (126)), (1, .int (Int32.ofNat l)), (2, .int (v2_2)), (3, .int (v))]) (pc := 31) (gd gk_122 21 rfl) rfl (by rw [gL_122]; decide) (fun _ => rfl) (1) rfl (fun v3_2 hv3_2 => ?_)
          obtain rfl : v3_2 = Int32.ofNat (k + 1) := hv3_2.trans (by first | rfl | (simp only [Int32.ofNat_add, Int32.ofNat_mul]; rfl) | (simp only [Int32.ofNat_add, Int32.ofNat_mul]))
          refine gs_goto (pc := 34) (gd gk_122 22 rfl) ?_
          -- end 3: stop, pc 4, locals [(0, .ref (126)), (1, .int (Int32.ofNat l)), (2, .int (v2_2)), (3, .int (Int32.ofNat (k + 1)))]
          exact ih (k + 1) (by omega) _ (by rw [hv2_2, hx]; simp [gq_who, gz_b_ne.mp c19])
  refine gs_iconst (pc := 0) (gd gk_122 0 rfl) (0) rfl ?_
  refine gs_istore_n (ls2 := fun v => [(0, .ref (126)), (1, .int (Int32.ofNat l)), (2, .int (v))]) (pc := 1) (gd gk_122 1 rfl) (by rw [gL_122]; decide) (fun _ => rfl) (fun v2_1 hv2_1 => ?_)
  obtain rfl : v2_1 = Int32.ofNat 0 := hv2_1.trans (by first | rfl | (simp only [Int32.ofNat_add, Int32.ofNat_mul]; rfl) | (simp only [Int32.ofNat_add, Int32.ofNat_mul]))
  refine gs_iconst (pc := 2) (gd gk_122 2 rfl) (0) rfl ?_
  refine gs_istore_n (ls2 := fun v => [(0, .ref (126)), (1, .int (Int32.ofNat l)), (2, .int (Int32.ofNat 0)), (3, .int (v))]) (pc := 3) (gd gk_122 3 rfl) (by rw [gL_122]; decide) (fun _ => rfl) (fun v3_1 hv3_1 => ?_)
  obtain rfl : v3_1 = Int32.ofNat 0 := hv3_1.trans (by first | rfl | (simp only [Int32.ofNat_add, Int32.ofNat_mul]; rfl) | (simp only [Int32.ofNat_add, Int32.ofNat_mul]))
  -- end 1: stop, pc 4, locals [(0, .ref (126)), (1, .int (Int32.ofNat l)), (2, .int (Int32.ofNat 0)), (3, .int (Int32.ofNat 0))]
  exact key N 0 (by omega) _ rfl
end
/-- the smells that k cells have sent on -/
def gq_dk (sm : Nat → Int32) (wd : Int32) (k t : Nat) : Int32 := if 0 ≤ Int32.ofNat t - wd ∧ Int32.ofNat t - wd < Int32.ofNat k then (if 0 < sm (Int32.ofNat t - wd).toNatClampNeg then sm (Int32.ofNat t - wd).toNatClampNeg - 1 else 0) else 0
theorem gq_dk_e {sm : Nat → Int32} {wd : Int32} {k t : Nat} (hk : k < 10) (e : Int32.ofNat t - wd = Int32.ofNat k) : gq_dk sm wd (k + 1) t = (if 0 < sm k then sm k - 1 else 0) ∧ gq_dk sm wd k t = 0 := by
  unfold gq_dk
  rw [e, znn (by omega)]
  refine ⟨?_, ?_⟩
  · rw [if_pos ⟨z0 k (by omega), (zlt (by omega) (by omega)).mpr (Nat.lt_succ_self k)⟩]
  · exact if_neg (fun q => absurd ((zlt (by omega) (by omega)).mp q.2) (Nat.lt_irrefl k))
theorem gq_dk_n {sm : Nat → Int32} {wd : Int32} {k t : Nat} (hk : k < 10) (e : ¬ Int32.ofNat t - wd = Int32.ofNat k) : gq_dk sm wd (k + 1) t = gq_dk sm wd k t := by
  unfold gq_dk
  have h1 := z0 k (by omega)
  have h2 : Int32.ofNat k < 10 := (zlt (m := 10) (by omega) (by decide)).mpr hk
  rw [zsucc]
  generalize Int32.ofNat t - wd = x at *
  generalize Int32.ofNat k = y at *
  by_cases q : 0 ≤ x ∧ x < y
  · rw [if_pos q, if_pos (by grind)]
  · rw [if_neg q, if_neg (by grind)]
abbrev mq_drift (n : Nat) (I : Nat → Nat → Int32) (J : Nat → Nat → Int64) (l : Nat) (wd : Int32) (bk : Bool) (bc : Nat) : Option Value → gw_W → Prop := fun v w' => v = none ∧ ∃ I2, w' = gS n I2 J ∧ (∀ c, c < 10 → I2 133 (13 * l + c) = gq_st (gz_M I) wd bk bc (I 133 (13 * l + 10)) (gz_L I l) c) ∧ (∀ q, ¬ (13 * l ≤ q ∧ q < 13 * l + 10) → I2 133 q = I 133 q) ∧ ∀ p, p ≠ 133 → p ≠ 135 → I2 p = I p
theorem m_drift {V : gw_V} {n : Nat} {I : Nat → Nat → Int32} {J : Nat → Nat → Int64} (l : Nat) (hl : l < 3) (wd bs : Int32) (bk : Bool) (bc : Nat) (hbc : bc < 10) (hbs : bs = if bk then Int32.ofNat bc else -99) (hwd : wd = -1 ∨ wd = 0 ∨ wd = 1) : gw_E V 125 (0, [(0, .ref 126), (1, .int (Int32.ofNat l)), (2, .int wd), (3, .int bs)], [], gS n I J, 0, 0) (mq_drift n I J l wd bk bc) := by
  have lp3 : ∀ (m k : Nat), m + k = 10 → ∀ I1, (∀ t, t < 10 → I1 135 t = gq_dr (gz_L I l) wd t) → (∀ c, c < k → I1 133 (13 * l + c) = gq_st (gz_M I) wd bk bc (I 133 (13 * l + 10)) (gz_L I l) c) → (∀ q, ¬ (13 * l ≤ q ∧ q < 13 * l + k) → I1 133 q = I 133 q) → (∀ p, p ≠ 133 → p ≠ 135 → I1 p = I p) → gw_E V 125 (100, [(0, .ref 126), (1, .int (Int32.ofNat l)), (2, .int wd), (3, .int bs), (4, .int (Int32.ofNat (13 * l))), (5, .int (Int32.ofNat k))], [], gS n I1 J, 0, 0) (mq_drift n I J l wd bk bc) := by
    intro m
    induction m with
    | zero =>
      intro k hk I1 h0 h1 h2 h3
      obtain rfl : k = 10 := by omega
      refine gs_iload (pc := 100) (gd gk_125 54 rfl) rfl ?_
      refine gs_bipush (pc := 102) (gd gk_125 55 rfl) (10) rfl ?_
      refine gs_icmp_ge (pc := 104) (gd gk_125 56 rfl) (fun c104 => ?_) (fun c104 => ?_)
      · replace c104 : 10 ≤ 10 := (zle (k := 10) (m := 10) (by omega) (by omega)).mp c104
        -- end 1: return, pc 171, locals [(0, .ref (126)), (1, .int (Int32.ofNat l)), (2, .int (wd)), (3, .int (bs)), (4, .int (Int32.ofNat (13 * l))), (5, .int (Int32.ofNat 10))]
        exact gs_ret (pc := 171) (gd gk_125 90 rfl) rfl (Nat.zero_le _) (Nat.zero_le _) (⟨rfl, I1, rfl, h1, h2, h3⟩)
      · replace c104 : ¬ (10 ≤ 10) := fun q9 => c104 ((zle (k := 10) (m := 10) (by omega) (by omega)).mpr q9)
        -- end 2: stop, pc 107, locals [(0, .ref (126)), (1, .int (Int32.ofNat l)), (2, .int (wd)), (3, .int (bs)), (4, .int (Int32.ofNat (13 * l))), (5, .int (Int32.ofNat 10))]
        exact absurd (Nat.le_refl 10) c104
    | succ m ih =>
      intro k hk I1 h0 h1 h2 h3
      have step : ∀ I2 x, I2 = gw_u I1 133 (13 * l + k) x → x = gq_st (gz_M I) wd bk bc (I 133 (13 * l + 10)) (gz_L I l) k → gw_E V 125 (100, [(0, .ref 126), (1, .int (Int32.ofNat l)), (2, .int wd), (3, .int bs), (4, .int (Int32.ofNat (13 * l))), (5, .int (Int32.ofNat (k + 1)))], [], gS n I2 J, 0, 0) (mq_drift n I J l wd bk bc) := by
        intro I2 x e1 e2
        refine ih (k + 1) (by omega) I2 (fun t ht => ?_) (fun c hc => ?_) (fun q hq => ?_) (fun p p1 p2 => ?_)
        · rw [e1, gw_u_o (by omega)]; exact h0 t ht
        · rw [e1, gw_u_s]
          unfold upd
          by_cases q : c = k
          · rw [q, if_pos rfl, e2]
          · rw [if_neg (by omega)]; exact h1 c (by omega)
        · rw [e1, gw_u_s]
          unfold upd
          rw [if_neg (by omega)]; exact h2 q (by omega)
        · rw [e1, gw_u_o p1]; exact h3 p p1 p2
      have hch : I1 133 (13 * l + 10) = I 133 (13 * l + 10) := h2 _ (by omega)
      have h126 : I1 126 1 = gz_M I 0 1 := by rw [h3 126 (by omega) (by omega)]; rfl
      have hst : ∀ z, z = I1 135 k + (if Int32.ofNat k = bs then I1 126 1 else 0) → (gz_in (I1 133 (13 * l + 10)) (Int32.ofNat k) = true → (0 : Int32) = gq_st (gz_M I) wd bk bc (I 133 (13 * l + 10)) (gz_L I l) k) ∧ (gz_in (I1 133 (13 * l + 10)) (Int32.ofNat k) = false → z = gq_st (gz_M I) wd bk bc (I 133 (13 * l + 10)) (gz_L I l) k) := by
        intro z hz
        rw [hch]
        refine ⟨fun q => by unfold gq_st; rw [if_pos q], fun q => ?_⟩
        unfold gq_st
        rw [q, hz, h0 k (by omega), h126, hbs]
        cases bk
        · have : ¬ Int32.ofNat k = -99 := fun q => by have := z0 k (by omega); rw [q] at this; exact absurd this (by decide)
          simp [this]
        · have : (Int32.ofNat k = Int32.ofNat bc) ↔ k = bc := zeq (by omega) (by omega)
          simp [this]
      refine gs_iload (pc := 100) (gd gk_125 54 rfl) rfl ?_
      refine gs_bipush (pc := 102) (gd gk_125 55 rfl) (10) rfl ?_
      refine gs_icmp_ge (pc := 104) (gd gk_125 56 rfl) (fun c104 => ?_) (fun c104 => ?_)
      · replace c104 : 10 ≤ k := (zle (k := 10) (m := k) (by omega) (by omega)).mp c104
        -- end 1: return, pc 171, locals [(0, .ref (126)), (1, .int (Int32.ofNat l)), (2, .int (wd)), (3, .int (bs)), (4, .int (Int32.ofNat (13 * l))), (5, .int (Int32.ofNat k))]
        exact absurd c104 (by omega)
      · replace c104 : ¬ (10 ≤ k) := fun q9 => c104 ((zle (k := 10) (m := k) (by omega) (by omega)).mpr q9)
        refine gs_aload_n (pc := 107) (gd gk_125 57 rfl) rfl ?_
        refine gs_getR (r := 135) (pc := 108) (gd gk_125 58 rfl) rfl rfl rfl (by decide) ?_
        refine gs_iload (pc := 111) (gd gk_125 59 rfl) rfl ?_
        refine gs_ialoadK (k) (10) (pc := 113) (gd gk_125 60 rfl) (Or.inl rfl) rfl (by decide) (by first | rfl | (simp only [Int32.ofNat_add, Int32.ofNat_mul]; rfl) | (simp only [Int32.ofNat_add, Int32.ofNat_mul])) (by omega) ?_
        refine gs_iload (pc := 114) (gd gk_125 61 rfl) rfl ?_
        refine gs_iload_n (pc := 116) (gd gk_125 62 rfl) rfl ?_
        refine gs_icmp_ne (pc := 117) (gd gk_125 63 rfl) (fun c117 => ?_) (fun c117 => ?_)
        · refine gs_iconst (pc := 127) (gd gk_125 67 rfl) (0) rfl ?_
          refine gs_iadd (pc := 128) (gd gk_125 68 rfl) ?_
          refine gs_istore (ls2 := fun v => [(0, .ref (126)), (1, .int (Int32.ofNat l)), (2, .int (wd)), (3, .int (bs)), (4, .int (Int32.ofNat (13 * l))), (5, .int (Int32.ofNat k)), (6, .int (v))]) (pc := 129) (gd gk_125 69 rfl) (by rw [gL_125]; decide) (fun _ => rfl) (fun v6_1 hv6_1 => ?_)
          refine gs_aload_n (pc := 131) (gd gk_125 70 rfl) rfl ?_
          refine gs_getR (r := 133) (pc := 132) (gd gk_125 71 rfl) rfl rfl rfl (by decide) ?_
          refine gs_iload (pc := 135) (gd gk_125 72 rfl) rfl ?_
          refine gs_iload (pc := 137) (gd gk_125 73 rfl) rfl ?_
          refine gs_iadd (pc := 139) (gd gk_125 74 rfl) ?_
          refine gs_aload_n (pc := 140) (gd gk_125 75 rfl) rfl ?_
          refine gs_getR (r := 133) (pc := 141) (gd gk_125 76 rfl) rfl rfl rfl (by decide) ?_
          refine gs_iload (pc := 144) (gd gk_125 77 rfl) rfl ?_
          refine gs_bipush (pc := 146) (gd gk_125 78 rfl) (10) rfl ?_
          refine gs_iadd (pc := 148) (gd gk_125 79 rfl) ?_
          refine gs_ialoadK (((13 * l) + 10)) (52) (pc := 149) (gd gk_125 80 rfl) (Or.inl rfl) rfl (by decide) (by first | rfl | (simp only [Int32.ofNat_add, Int32.ofNat_mul]; rfl) | (simp only [Int32.ofNat_add, Int32.ofNat_mul])) (by omega) ?_
          refine gs_iload (pc := 150) (gd gk_125 81 rfl) rfl ?_
          refine gs_callS (as := [.int ((I1 133 ((13 * l) + 10))), .int (Int32.ofNat k)]) (pc := 152) (gd gk_125 82 rfl) (by decide) rfl rfl (Nat.le_of_ble_eq_true rfl) gq_125_108 (Nat.le_of_ble_eq_true rfl) (c_mhas ((I1 133 ((13 * l) + 10))) (Int32.ofNat k)) (fun r_152 w_152 q_152 => ?_)
          obtain ⟨rfl, rfl⟩ := q_152
          refine gs_if_eq (pc := 155) (gd gk_125 83 rfl) (fun c155 => ?_) (fun c155 => ?_)
          · refine gs_iload (pc := 162) (gd gk_125 86 rfl) rfl ?_
            refine gs_iastoreK (((13 * l) + k)) (52) gs_sl (pc := 164) (gd gk_125 87 rfl) rfl rfl (by decide) (by first | rfl | (simp only [Int32.ofNat_add, Int32.ofNat_mul]; rfl) | (simp only [Int32.ofNat_add, Int32.ofNat_mul])) (by omega) (fun I_1 hI_1 => ?_)
            refine gs_iinc (ls2 := fun v => [(0, .ref (126)), (1, .int (Int32.ofNat l)), (2, .int (wd)), (3, .int (bs)), (4, .int (Int32.ofNat (13 * l))), (5, .int (v)), (6, .int (v6_1))]) (pc := 165) (gd gk_125 88 rfl) rfl (by rw [gL_125]; decide) (fun _ => rfl) (1) rfl (fun v5_1 hv5_1 => ?_)
            obtain rfl : v5_1 = Int32.ofNat (k + 1) := hv5_1.trans (by first | rfl | (simp only [Int32.ofNat_add, Int32.ofNat_mul]; rfl) | (simp only [Int32.ofNat_add, Int32.ofNat_mul]))
            refine gs_goto (pc := 168) (gd gk_125 89 rfl) ?_
            -- end 2: stop, pc 100, locals [(0, .ref (126)), (1, .int (Int32.ofNat l)), (2, .int (wd)), (3, .int (bs)), (4, .int (Int32.ofNat (13 * l))), (5, .int (Int32.ofNat (k + 1))), (6, .int (v6_1))]
            refine gs_drop [0, 1, 2, 3, 4, 5] rfl (step _ _ hI_1 ?_)
            exact (hst v6_1 (by rw [hv6_1, if_neg c117])).2 (gz_b_eq.mp c155)
          · refine gs_iconst (pc := 158) (gd gk_125 84 rfl) (0) rfl ?_
            refine gs_goto (pc := 159) (gd gk_125 85 rfl) ?_
            refine gs_iastoreK (((13 * l) + k)) (52) gs_sl (pc := 164) (gd gk_125 87 rfl) rfl rfl (by decide) (by first | rfl | (simp only [Int32.ofNat_add, Int32.ofNat_mul]; rfl) | (simp only [Int32.ofNat_add, Int32.ofNat_mul])) (by omega) (fun I_2 hI_2 => ?_)
            refine gs_iinc (ls2 := fun v => [(0, .ref (126)), (1, .int (Int32.ofNat l)), (2, .int (wd)), (3, .int (bs)), (4, .int (Int32.ofNat (13 * l))), (5, .int (v)), (6, .int (v6_1))]) (pc := 165) (gd gk_125 88 rfl) rfl (by rw [gL_125]; decide) (fun _ => rfl) (1) rfl (fun v5_2 hv5_2 => ?_)
            obtain rfl : v5_2 = Int32.ofNat (k + 1) := hv5_2.trans (by first | rfl | (simp only [Int32.ofNat_add, Int32.ofNat_mul]; rfl) | (simp only [Int32.ofNat_add, Int32.ofNat_mul]))
            refine gs_goto (pc := 168) (gd gk_125 89 rfl) ?_
            -- end 3: stop, pc 100, locals [(0, .ref (126)), (1, .int (Int32.ofNat l)), (2, .int (wd)), (3, .int (bs)), (4, .int (Int32.ofNat (13 * l))), (5, .int (Int32.ofNat (k + 1))), (6, .int (v6_1))]
            refine gs_drop [0, 1, 2, 3, 4, 5] rfl (step _ _ hI_2 ?_)
            exact (hst v6_1 (by rw [hv6_1, if_neg c117])).1 (gz_b_ne.mp c155)
        · refine gs_aload_n (pc := 120) (gd gk_125 64 rfl) rfl ?_
          refine gs_getI (pc := 121) (gd gk_125 65 rfl) rfl rfl ?_
          refine gs_goto (pc := 124) (gd gk_125 66 rfl) ?_
          refine gs_iadd (pc := 128) (gd gk_125 68 rfl) ?_
          refine gs_istore (ls2 := fun v => [(0, .ref (126)), (1, .int (Int32.ofNat l)), (2, .int (wd)), (3, .int (bs)), (4, .int (Int32.ofNat (13 * l))), (5, .int (Int32.ofNat k)), (6, .int (v))]) (pc := 129) (gd gk_125 69 rfl) (by rw [gL_125]; decide) (fun _ => rfl) (fun v6_2 hv6_2 => ?_)
          refine gs_aload_n (pc := 131) (gd gk_125 70 rfl) rfl ?_
          refine gs_getR (r := 133) (pc := 132) (gd gk_125 71 rfl) rfl rfl rfl (by decide) ?_
          refine gs_iload (pc := 135) (gd gk_125 72 rfl) rfl ?_
          refine gs_iload (pc := 137) (gd gk_125 73 rfl) rfl ?_
          refine gs_iadd (pc := 139) (gd gk_125 74 rfl) ?_
          refine gs_aload_n (pc := 140) (gd gk_125 75 rfl) rfl ?_
          refine gs_getR (r := 133) (pc := 141) (gd gk_125 76 rfl) rfl rfl rfl (by decide) ?_
          refine gs_iload (pc := 144) (gd gk_125 77 rfl) rfl ?_
          refine gs_bipush (pc := 146) (gd gk_125 78 rfl) (10) rfl ?_
          refine gs_iadd (pc := 148) (gd gk_125 79 rfl) ?_
          refine gs_ialoadK (((13 * l) + 10)) (52) (pc := 149) (gd gk_125 80 rfl) (Or.inl rfl) rfl (by decide) (by first | rfl | (simp only [Int32.ofNat_add, Int32.ofNat_mul]; rfl) | (simp only [Int32.ofNat_add, Int32.ofNat_mul])) (by omega) ?_
          refine gs_iload (pc := 150) (gd gk_125 81 rfl) rfl ?_
          refine gs_callS (as := [.int ((I1 133 ((13 * l) + 10))), .int (Int32.ofNat k)]) (pc := 152) (gd gk_125 82 rfl) (by decide) rfl rfl (Nat.le_of_ble_eq_true rfl) gq_125_108 (Nat.le_of_ble_eq_true rfl) (c_mhas ((I1 133 ((13 * l) + 10))) (Int32.ofNat k)) (fun r_152 w_152 q_152 => ?_)
          obtain ⟨rfl, rfl⟩ := q_152
          refine gs_if_eq (pc := 155) (gd gk_125 83 rfl) (fun c155 => ?_) (fun c155 => ?_)
          · refine gs_iload (pc := 162) (gd gk_125 86 rfl) rfl ?_
            refine gs_iastoreK (((13 * l) + k)) (52) gs_sl (pc := 164) (gd gk_125 87 rfl) rfl rfl (by decide) (by first | rfl | (simp only [Int32.ofNat_add, Int32.ofNat_mul]; rfl) | (simp only [Int32.ofNat_add, Int32.ofNat_mul])) (by omega) (fun I_3 hI_3 => ?_)
            refine gs_iinc (ls2 := fun v => [(0, .ref (126)), (1, .int (Int32.ofNat l)), (2, .int (wd)), (3, .int (bs)), (4, .int (Int32.ofNat (13 * l))), (5, .int (v)), (6, .int (v6_2))]) (pc := 165) (gd gk_125 88 rfl) rfl (by rw [gL_125]; decide) (fun _ => rfl) (1) rfl (fun v5_3 hv5_3 => ?_)
            obtain rfl : v5_3 = Int32.ofNat (k + 1) := hv5_3.trans (by first | rfl | (simp only [Int32.ofNat_add, Int32.ofNat_mul]; rfl) | (simp only [Int32.ofNat_add, Int32.ofNat_mul]))
            refine gs_goto (pc := 168) (gd gk_125 89 rfl) ?_
            -- end 4: stop, pc 100, locals [(0, .ref (126)), (1, .int (Int32.ofNat l)), (2, .int (wd)), (3, .int (bs)), (4, .int (Int32.ofNat (13 * l))), (5, .int (Int32.ofNat (k + 1))), (6, .int (v6_2))]
            refine gs_drop [0, 1, 2, 3, 4, 5] rfl (step _ _ hI_3 ?_)
            exact (hst v6_2 (by rw [hv6_2, if_pos c117])).2 (gz_b_eq.mp c155)
          · refine gs_iconst (pc := 158) (gd gk_125 84 rfl) (0) rfl ?_
            refine gs_goto (pc := 159) (gd gk_125 85 rfl) ?_
            refine gs_iastoreK (((13 * l) + k)) (52) gs_sl (pc := 164) (gd gk_125 87 rfl) rfl rfl (by decide) (by first | rfl | (simp only [Int32.ofNat_add, Int32.ofNat_mul]; rfl) | (simp only [Int32.ofNat_add, Int32.ofNat_mul])) (by omega) (fun I_4 hI_4 => ?_)
            refine gs_iinc (ls2 := fun v => [(0, .ref (126)), (1, .int (Int32.ofNat l)), (2, .int (wd)), (3, .int (bs)), (4, .int (Int32.ofNat (13 * l))), (5, .int (v)), (6, .int (v6_2))]) (pc := 165) (gd gk_125 88 rfl) rfl (by rw [gL_125]; decide) (fun _ => rfl) (1) rfl (fun v5_4 hv5_4 => ?_)
            obtain rfl : v5_4 = Int32.ofNat (k + 1) := hv5_4.trans (by first | rfl | (simp only [Int32.ofNat_add, Int32.ofNat_mul]; rfl) | (simp only [Int32.ofNat_add, Int32.ofNat_mul]))
            refine gs_goto (pc := 168) (gd gk_125 89 rfl) ?_
            -- end 5: stop, pc 100, locals [(0, .ref (126)), (1, .int (Int32.ofNat l)), (2, .int (wd)), (3, .int (bs)), (4, .int (Int32.ofNat (13 * l))), (5, .int (Int32.ofNat (k + 1))), (6, .int (v6_2))]
            refine gs_drop [0, 1, 2, 3, 4, 5] rfl (step _ _ hI_4 ?_)
            exact (hst v6_2 (by rw [hv6_2, if_pos c117])).1 (gz_b_ne.mp c155)
  have lp2 : ∀ (m k : Nat), m + k = 10 → ∀ I1, (∀ t, t < 10 → I1 135 t = gq_dk (gz_L I l) wd k t) → (∀ p, p ≠ 135 → I1 p = I p) → gw_E V 125 (33, [(0, .ref 126), (1, .int (Int32.ofNat l)), (2, .int wd), (3, .int bs), (4, .int (Int32.ofNat (13 * l))), (5, .int (Int32.ofNat k))], [], gS n I1 J, 0, 0) (mq_drift n I J l wd bk bc) := by
    intro m
    induction m with
    | zero =>
      intro k hk I1 h1 h2
      obtain rfl : k = 10 := by omega
      refine gs_iload (pc := 33) (gd gk_125 18 rfl) rfl ?_
      refine gs_bipush (pc := 35) (gd gk_125 19 rfl) (10) rfl ?_
      refine gs_icmp_ge (pc := 37) (gd gk_125 20 rfl) (fun c37 => ?_) (fun c37 => ?_)
      · replace c37 : 10 ≤ 10 := (zle (k := 10) (m := 10) (by omega) (by omega)).mp c37
        refine gs_iconst (pc := 97) (gd gk_125 52 rfl) (0) rfl ?_
        refine gs_istore (ls2 := fun v => [(0, .ref (126)), (1, .int (Int32.ofNat l)), (2, .int (wd)), (3, .int (bs)), (4, .int (Int32.ofNat (13 * l))), (5, .int (v))]) (pc := 98) (gd gk_125 53 rfl) (by rw [gL_125]; decide) (fun _ => rfl) (fun v5_1 hv5_1 => ?_)
        obtain rfl : v5_1 = Int32.ofNat 0 := hv5_1.trans (by first | rfl | (simp only [Int32.ofNat_add, Int32.ofNat_mul]; rfl) | (simp only [Int32.ofNat_add, Int32.ofNat_mul]))
        -- end 1: stop, pc 100, locals [(0, .ref (126)), (1, .int (Int32.ofNat l)), (2, .int (wd)), (3, .int (bs)), (4, .int (Int32.ofNat (13 * l))), (5, .int (Int32.ofNat 0))]
        exact lp3 10 0 rfl I1 (fun t ht => h1 t ht) (fun c hc => absurd hc (Nat.not_lt_zero _)) (fun q _ => by rw [h2 133 (by omega)]) (fun p p1 p2 => h2 p p2)
      · replace c37 : ¬ (10 ≤ 10) := fun q9 => c37 ((zle (k := 10) (m := 10) (by omega) (by omega)).mpr q9)
        -- end 2: stop, pc 40, locals [(0, .ref (126)), (1, .int (Int32.ofNat l)), (2, .int (wd)), (3, .int (bs)), (4, .int (Int32.ofNat (13 * l))), (5, .int (Int32.ofNat 10))]
        exact absurd (Nat.le_refl 10) c37
    | succ m ih =>
      intro k hk I1 h1 h2
      have h133 : I1 133 (13 * l + k) = gz_L I l k := by rw [h2 133 (by omega)]; rfl
      have hto : ∀ t, t < 10 → (Int32.ofNat t - wd = Int32.ofNat k ↔ Int32.ofNat k + wd = Int32.ofNat t) := fun t _ => by constructor <;> (intro q; grind)
      refine gs_iload (pc := 33) (gd gk_125 18 rfl) rfl ?_
      refine gs_bipush (pc := 35) (gd gk_125 19 rfl) (10) rfl ?_
      refine gs_icmp_ge (pc := 37) (gd gk_125 20 rfl) (fun c37 => ?_) (fun c37 => ?_)
      · replace c37 : 10 ≤ k := (zle (k := 10) (m := k) (by omega) (by omega)).mp c37
        -- end 1: stop, pc 97, locals [(0, .ref (126)), (1, .int (Int32.ofNat l)), (2, .int (wd)), (3, .int (bs)), (4, .int (Int32.ofNat (13 * l))), (5, .int (Int32.ofNat k))]
        exact absurd c37 (by omega)
      · replace c37 : ¬ (10 ≤ k) := fun q9 => c37 ((zle (k := 10) (m := k) (by omega) (by omega)).mpr q9)
        refine gs_iload (pc := 40) (gd gk_125 21 rfl) rfl ?_
        refine gs_iload_n (pc := 42) (gd gk_125 22 rfl) rfl ?_
        refine gs_iadd (pc := 43) (gd gk_125 23 rfl) ?_
        refine gs_istore (ls2 := fun v => [(0, .ref (126)), (1, .int (Int32.ofNat l)), (2, .int (wd)), (3, .int (bs)), (4, .int (Int32.ofNat (13 * l))), (5, .int (Int32.ofNat k)), (6, .int (v))]) (pc := 44) (gd gk_125 24 rfl) (by rw [gL_125]; decide) (fun _ => rfl) (fun v6_1 hv6_1 => ?_)
        refine gs_iload (pc := 46) (gd gk_125 25 rfl) rfl ?_
        refine gs_i2l (pc := 48) (gd gk_125 26 rfl) ?_
        refine gs_lconst (pc := 49) (gd gk_125 27 rfl) (0) rfl ?_
        refine gs_ldc2_w (pc := 50) (gd gk_125 28 rfl) (9) rfl ?_
        refine gs_callS (as := [.long ((v6_1 : Int32).toInt64), .long (0), .long (9)]) (pc := 53) (gd gk_125 29 rfl) (by decide) rfl rfl (Nat.le_of_ble_eq_true rfl) gq_125_107 (Nat.le_of_ble_eq_true rfl) (c_mrg (v6_1) (0) (9)) (fun r_53 w_53 q_53 => ?_)
        obtain ⟨rfl, rfl⟩ := q_53
        refine gs_if_eq (pc := 56) (gd gk_125 30 rfl) (fun c56 => ?_) (fun c56 => ?_)
        · refine gs_iinc (ls2 := fun v => [(0, .ref (126)), (1, .int (Int32.ofNat l)), (2, .int (wd)), (3, .int (bs)), (4, .int (Int32.ofNat (13 * l))), (5, .int (v)), (6, .int (v6_1))]) (pc := 91) (gd gk_125 50 rfl) rfl (by rw [gL_125]; decide) (fun _ => rfl) (1) rfl (fun v5_1 hv5_1 => ?_)
          obtain rfl : v5_1 = Int32.ofNat (k + 1) := hv5_1.trans (by first | rfl | (simp only [Int32.ofNat_add, Int32.ofNat_mul]; rfl) | (simp only [Int32.ofNat_add, Int32.ofNat_mul]))
          refine gs_goto (pc := 94) (gd gk_125 51 rfl) ?_
          -- end 2: stop, pc 33, locals [(0, .ref (126)), (1, .int (Int32.ofNat l)), (2, .int (wd)), (3, .int (bs)), (4, .int (Int32.ofNat (13 * l))), (5, .int (Int32.ofNat (k + 1))), (6, .int (v6_1))]
          refine gs_drop [0, 1, 2, 3, 4, 5] rfl (ih (k + 1) (by omega) I1 (fun t ht => ?_) h2)
          have hf := gz_rg_f.mp (gz_b_eq.mp c56)
          rw [gq_dk_n (by omega) (fun q => ?_)]; exact h1 t ht
          rw [hto t ht, ← hv6_1] at q
          exact hf ⟨by rw [q]; exact z0 t (by omega), by rw [q]; exact (zle (m := 9) (by omega) (by decide)).mpr (by omega)⟩
        · refine gs_aload_n (pc := 59) (gd gk_125 31 rfl) rfl ?_
          refine gs_getR (r := 133) (pc := 60) (gd gk_125 32 rfl) rfl rfl rfl (by decide) ?_
          refine gs_iload (pc := 63) (gd gk_125 33 rfl) rfl ?_
          refine gs_iload (pc := 65) (gd gk_125 34 rfl) rfl ?_
          refine gs_iadd (pc := 67) (gd gk_125 35 rfl) ?_
          refine gs_ialoadK (((13 * l) + k)) (52) (pc := 68) (gd gk_125 36 rfl) (Or.inl rfl) rfl (by decide) (by first | rfl | (simp only [Int32.ofNat_add, Int32.ofNat_mul]; rfl) | (simp only [Int32.ofNat_add, Int32.ofNat_mul])) (by omega) ?_
          refine gs_if_le (pc := 69) (gd gk_125 37 rfl) (fun c69 => ?_) (fun c69 => ?_)
          · refine gs_iinc (ls2 := fun v => [(0, .ref (126)), (1, .int (Int32.ofNat l)), (2, .int (wd)), (3, .int (bs)), (4, .int (Int32.ofNat (13 * l))), (5, .int (v)), (6, .int (v6_1))]) (pc := 91) (gd gk_125 50 rfl) rfl (by rw [gL_125]; decide) (fun _ => rfl) (1) rfl (fun v5_2 hv5_2 => ?_)
            obtain rfl : v5_2 = Int32.ofNat (k + 1) := hv5_2.trans (by first | rfl | (simp only [Int32.ofNat_add, Int32.ofNat_mul]; rfl) | (simp only [Int32.ofNat_add, Int32.ofNat_mul]))
            refine gs_goto (pc := 94) (gd gk_125 51 rfl) ?_
            -- end 3: stop, pc 33, locals [(0, .ref (126)), (1, .int (Int32.ofNat l)), (2, .int (wd)), (3, .int (bs)), (4, .int (Int32.ofNat (13 * l))), (5, .int (Int32.ofNat (k + 1))), (6, .int (v6_1))]
            refine gs_drop [0, 1, 2, 3, 4, 5] rfl (ih (k + 1) (by omega) I1 (fun t ht => ?_) h2)
            rw [h133] at c69
            by_cases q : Int32.ofNat t - wd = Int32.ofNat k
            · rw [(gq_dk_e (by omega) q).1, if_neg (by grind), h1 t ht, (gq_dk_e (by omega) q).2]
            · rw [gq_dk_n (by omega) q]; exact h1 t ht
          · refine gs_aload_n (pc := 72) (gd gk_125 38 rfl) rfl ?_
            refine gs_getR (r := 135) (pc := 73) (gd gk_125 39 rfl) rfl rfl rfl (by decide) ?_
            refine gs_iload (pc := 76) (gd gk_125 40 rfl) rfl ?_
            refine gs_as (Int32.ofNat (v6_1.toNatClampNeg)) ((znat (gz_rg_t.mp (gz_b_ne.mp c56)).1).1.symm) ?_
            refine gs_aload_n (pc := 78) (gd gk_125 41 rfl) rfl ?_
            refine gs_getR (r := 133) (pc := 79) (gd gk_125 42 rfl) rfl rfl rfl (by decide) ?_
            refine gs_iload (pc := 82) (gd gk_125 43 rfl) rfl ?_
            refine gs_iload (pc := 84) (gd gk_125 44 rfl) rfl ?_
            refine gs_iadd (pc := 86) (gd gk_125 45 rfl) ?_
            refine gs_ialoadK (((13 * l) + k)) (52) (pc := 87) (gd gk_125 46 rfl) (Or.inl rfl) rfl (by decide) (by first | rfl | (simp only [Int32.ofNat_add, Int32.ofNat_mul]; rfl) | (simp only [Int32.ofNat_add, Int32.ofNat_mul])) (by omega) ?_
            refine gs_iconst (pc := 88) (gd gk_125 47 rfl) (1) rfl ?_
            refine gs_isub (pc := 89) (gd gk_125 48 rfl) ?_
            have h69 := (zle_l (gz_rg_t.mp (gz_b_ne.mp c56)).1 (n := 9) (by decide)).mp (gz_rg_t.mp (gz_b_ne.mp c56)).2
            refine gs_iastoreK ((v6_1.toNatClampNeg)) (10) gs_sl (pc := 90) (gd gk_125 49 rfl) rfl rfl (by decide) (by first | rfl | (simp only [Int32.ofNat_add, Int32.ofNat_mul]; rfl) | (simp only [Int32.ofNat_add, Int32.ofNat_mul])) (by omega) (fun I_1 hI_1 => ?_)
            refine gs_iinc (ls2 := fun v => [(0, .ref (126)), (1, .int (Int32.ofNat l)), (2, .int (wd)), (3, .int (bs)), (4, .int (Int32.ofNat (13 * l))), (5, .int (v)), (6, .int (v6_1))]) (pc := 91) (gd gk_125 50 rfl) rfl (by rw [gL_125]; decide) (fun _ => rfl) (1) rfl (fun v5_3 hv5_3 => ?_)
            obtain rfl : v5_3 = Int32.ofNat (k + 1) := hv5_3.trans (by first | rfl | (simp only [Int32.ofNat_add, Int32.ofNat_mul]; rfl) | (simp only [Int32.ofNat_add, Int32.ofNat_mul]))
            refine gs_goto (pc := 94) (gd gk_125 51 rfl) ?_
            -- end 4: stop, pc 33, locals [(0, .ref (126)), (1, .int (Int32.ofNat l)), (2, .int (wd)), (3, .int (bs)), (4, .int (Int32.ofNat (13 * l))), (5, .int (Int32.ofNat (k + 1))), (6, .int (v6_1))]
            refine gs_drop [0, 1, 2, 3, 4, 5] rfl (ih (k + 1) (by omega) I_1 (fun t ht => ?_) (fun p hp => by rw [hI_1, gw_u_o hp, h2 p hp]))
            rw [h133] at c69
            have hr := gz_rg_t.mp (gz_b_ne.mp c56)
            rw [hI_1, gw_u_s]
            unfold upd
            by_cases q : Int32.ofNat t - wd = Int32.ofNat k
            · have q2 := (hto t ht).mp q
              rw [← hv6_1] at q2
              rw [if_pos (by rw [q2, znn (by omega)]), (gq_dk_e (by omega) q).1, if_pos (Int32.not_le.mp c69), h133]
            · rw [gq_dk_n (by omega) q, if_neg (fun z => q ((hto t ht).mpr ?_))]
              · exact h1 t ht
              · rw [← hv6_1, z, (znat hr.1).1]
  have lp1 : ∀ (m k : Nat), m + k = 10 → ∀ I1, (∀ t, t < k → I1 135 t = 0) → (∀ p, p ≠ 135 → I1 p = I p) → gw_E V 125 (9, [(0, .ref 126), (1, .int (Int32.ofNat l)), (2, .int wd), (3, .int bs), (4, .int (Int32.ofNat (13 * l))), (5, .int (Int32.ofNat k))], [], gS n I1 J, 0, 0) (mq_drift n I J l wd bk bc) := by
    intro m
    induction m with
    | zero =>
      intro k hk I1 h1 h2
      obtain rfl : k = 10 := by omega
      refine gs_iload (pc := 9) (gd gk_125 6 rfl) rfl ?_
      refine gs_bipush (pc := 11) (gd gk_125 7 rfl) (10) rfl ?_
      refine gs_icmp_ge (pc := 13) (gd gk_125 8 rfl) (fun c13 => ?_) (fun c13 => ?_)
      · replace c13 : 10 ≤ 10 := (zle (k := 10) (m := 10) (by omega) (by omega)).mp c13
        refine gs_iconst (pc := 30) (gd gk_125 16 rfl) (0) rfl ?_
        refine gs_istore (ls2 := fun v => [(0, .ref (126)), (1, .int (Int32.ofNat l)), (2, .int (wd)), (3, .int (bs)), (4, .int (Int32.ofNat (13 * l))), (5, .int (v))]) (pc := 31) (gd gk_125 17 rfl) (by rw [gL_125]; decide) (fun _ => rfl) (fun v5_1 hv5_1 => ?_)
        obtain rfl : v5_1 = Int32.ofNat 0 := hv5_1.trans (by first | rfl | (simp only [Int32.ofNat_add, Int32.ofNat_mul]; rfl) | (simp only [Int32.ofNat_add, Int32.ofNat_mul]))
        -- end 1: stop, pc 33, locals [(0, .ref (126)), (1, .int (Int32.ofNat l)), (2, .int (wd)), (3, .int (bs)), (4, .int (Int32.ofNat (13 * l))), (5, .int (Int32.ofNat 0))]
        exact lp2 10 0 rfl I1 (fun t ht => by rw [h1 t ht]; unfold gq_dk; rw [if_neg (by grind)]) h2
      · replace c13 : ¬ (10 ≤ 10) := fun q9 => c13 ((zle (k := 10) (m := 10) (by omega) (by omega)).mpr q9)
        -- end 2: stop, pc 16, locals [(0, .ref (126)), (1, .int (Int32.ofNat l)), (2, .int (wd)), (3, .int (bs)), (4, .int (Int32.ofNat (13 * l))), (5, .int (Int32.ofNat 10))]
        exact absurd (Nat.le_refl 10) c13
    | succ m ih =>
      intro k hk I1 h1 h2
      refine gs_iload (pc := 9) (gd gk_125 6 rfl) rfl ?_
      refine gs_bipush (pc := 11) (gd gk_125 7 rfl) (10) rfl ?_
      refine gs_icmp_ge (pc := 13) (gd gk_125 8 rfl) (fun c13 => ?_) (fun c13 => ?_)
      · replace c13 : 10 ≤ k := (zle (k := 10) (m := k) (by omega) (by omega)).mp c13
        -- end 1: stop, pc 30, locals [(0, .ref (126)), (1, .int (Int32.ofNat l)), (2, .int (wd)), (3, .int (bs)), (4, .int (Int32.ofNat (13 * l))), (5, .int (Int32.ofNat k))]
        exact absurd c13 (by omega)
      · replace c13 : ¬ (10 ≤ k) := fun q9 => c13 ((zle (k := 10) (m := k) (by omega) (by omega)).mpr q9)
        refine gs_aload_n (pc := 16) (gd gk_125 9 rfl) rfl ?_
        refine gs_getR (r := 135) (pc := 17) (gd gk_125 10 rfl) rfl rfl rfl (by decide) ?_
        refine gs_iload (pc := 20) (gd gk_125 11 rfl) rfl ?_
        refine gs_iconst (pc := 22) (gd gk_125 12 rfl) (0) rfl ?_
        refine gs_iastoreK (k) (10) gs_sl (pc := 23) (gd gk_125 13 rfl) rfl rfl (by decide) (by first | rfl | (simp only [Int32.ofNat_add, Int32.ofNat_mul]; rfl) | (simp only [Int32.ofNat_add, Int32.ofNat_mul])) (by omega) (fun I_1 hI_1 => ?_)
        refine gs_iinc (ls2 := fun v => [(0, .ref (126)), (1, .int (Int32.ofNat l)), (2, .int (wd)), (3, .int (bs)), (4, .int (Int32.ofNat (13 * l))), (5, .int (v))]) (pc := 24) (gd gk_125 14 rfl) rfl (by rw [gL_125]; decide) (fun _ => rfl) (1) rfl (fun v5_1 hv5_1 => ?_)
        obtain rfl : v5_1 = Int32.ofNat (k + 1) := hv5_1.trans (by first | rfl | (simp only [Int32.ofNat_add, Int32.ofNat_mul]; rfl) | (simp only [Int32.ofNat_add, Int32.ofNat_mul]))
        refine gs_goto (pc := 27) (gd gk_125 15 rfl) ?_
        -- end 2: stop, pc 9, locals [(0, .ref (126)), (1, .int (Int32.ofNat l)), (2, .int (wd)), (3, .int (bs)), (4, .int (Int32.ofNat (13 * l))), (5, .int (Int32.ofNat (k + 1)))]
        refine ih (k + 1) (by omega) I_1 (fun t ht => ?_) (fun p hp => by rw [hI_1, gw_u_o hp, h2 p hp])
        rw [hI_1, gw_u_s]
        unfold upd
        by_cases q : t = k
        · rw [if_pos q]
        · rw [if_neg q]; exact h1 t (by omega)
  refine gs_bipush (pc := 0) (gd gk_125 0 rfl) (13) rfl ?_
  refine gs_iload_n (pc := 2) (gd gk_125 1 rfl) rfl ?_
  refine gs_imul (pc := 3) (gd gk_125 2 rfl) ?_
  refine gs_istore (ls2 := fun v => [(0, .ref (126)), (1, .int (Int32.ofNat l)), (2, .int (wd)), (3, .int (bs)), (4, .int (v))]) (pc := 4) (gd gk_125 3 rfl) (by rw [gL_125]; decide) (fun _ => rfl) (fun v4_1 hv4_1 => ?_)
  obtain rfl : v4_1 = Int32.ofNat ((13 * l)) := hv4_1.trans (by first | rfl | (simp only [Int32.ofNat_add, Int32.ofNat_mul]; rfl) | (simp only [Int32.ofNat_add, Int32.ofNat_mul]))
  refine gs_iconst (pc := 6) (gd gk_125 4 rfl) (0) rfl ?_
  refine gs_istore (ls2 := fun v => [(0, .ref (126)), (1, .int (Int32.ofNat l)), (2, .int (wd)), (3, .int (bs)), (4, .int (Int32.ofNat ((13 * l)))), (5, .int (v))]) (pc := 7) (gd gk_125 5 rfl) (by rw [gL_125]; decide) (fun _ => rfl) (fun v5_1 hv5_1 => ?_)
  obtain rfl : v5_1 = Int32.ofNat 0 := hv5_1.trans (by first | rfl | (simp only [Int32.ofNat_add, Int32.ofNat_mul]; rfl) | (simp only [Int32.ofNat_add, Int32.ofNat_mul]))
  -- end 1: stop, pc 9, locals [(0, .ref (126)), (1, .int (Int32.ofNat l)), (2, .int (wd)), (3, .int (bs)), (4, .int (Int32.ofNat ((13 * l)))), (5, .int (Int32.ofNat 0))]
  exact lp1 10 0 rfl I (fun t ht => absurd ht (Nat.not_lt_zero _)) (fun _ _ => rfl)
