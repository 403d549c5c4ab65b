/-! ===== the face: write, wipe, smell, wind, pennies; both sides ===== -/
section
variable {V : gw_V} {n W N h0 L bc : Nat} {I : Nat → Nat → Int32} {J : Nat → Nat → Int64}
/-- the answer of write, the text's length being l -/
def gz_wr (x : Int32) (l : Nat) : Int32 := if gz_rg x 0 255 then (if l < 48 then Int32.ofNat (l + 1) else -4) else -2
theorem c_add {l : Nat} (x : Int32) (hl : I 4 1 = Int32.ofNat l) (h8 : l ≤ 48) : gw_E V 38 (0, [(0, .ref 4), (1, .int x)], [], gS n I J, 0, 0) (fun v w' => ∃ I2, w' = gS n I2 J ∧ v = some (.int (gz_b (decide (l < 48)))) ∧ I2 = if l < 48 then gw_u (gw_u I 5 l x) 4 1 (Int32.ofNat (l + 1)) else I) := by
  refine gs_aload_n (pc := 0) (gd gk_38 0 rfl) rfl ?_
  refine gs_getI (pc := 1) (gd gk_38 1 rfl) rfl rfl ?_
  refine gs_as (Int32.ofNat l) (hl) ?_
  refine gs_bipush (pc := 4) (gd gk_38 2 rfl) (48) rfl ?_
  refine gs_icmp_lt (pc := 6) (gd gk_38 3 rfl) (fun c6 => ?_) (fun c6 => ?_)
  · replace c6 : l < 48 := (zlt (k := l) (m := 48) (by omega) (by omega)).mp c6
    refine gs_aload_n (pc := 11) (gd gk_38 6 rfl) rfl ?_
    refine gs_getR (r := 5) (pc := 12) (gd gk_38 7 rfl) rfl rfl rfl (by decide) ?_
    refine gs_aload_n (pc := 15) (gd gk_38 8 rfl) rfl ?_
    refine gs_getI (pc := 16) (gd gk_38 9 rfl) rfl rfl ?_
    refine gs_as (Int32.ofNat l) (hl) ?_
    refine gs_iload_n (pc := 19) (gd gk_38 10 rfl) rfl ?_
    refine gs_iastoreK (l) (48) gs_sl (pc := 20) (gd gk_38 11 rfl) rfl rfl (by decide) (by first | rfl | (simp only [Int32.ofNat_add, Int32.ofNat_mul]; rfl) | (simp only [Int32.ofNat_add, Int32.ofNat_mul])) (by omega) (fun I_1 hI_1 => ?_)
    refine gs_aload_n (pc := 21) (gd gk_38 12 rfl) rfl ?_
    refine gs_dup (pc := 22) (gd gk_38 13 rfl) rfl ?_
    refine gs_getI (pc := 23) (gd gk_38 14 rfl) rfl rfl ?_
    refine gs_as (Int32.ofNat l) (by rw [hI_1, gw_u_o (by omega)]; exact hl) ?_
    refine gs_iconst (pc := 26) (gd gk_38 15 rfl) (1) rfl ?_
    refine gs_iadd (pc := 27) (gd gk_38 16 rfl) ?_
    refine gs_putI (pc := 28) (gd gk_38 17 rfl) rfl rfl rfl rfl (fun I_2 hI_2 => ?_)
    refine gs_iconst (pc := 31) (gd gk_38 18 rfl) (1) rfl ?_
    -- end 1: ireturn 1, pc 32, locals [(0, .ref (4)), (1, .int (x))]
    exact gs_iret (pc := 32) (gd gk_38 19 rfl) rfl (rfl) (Nat.zero_le _) (Nat.zero_le _) (⟨I_2, rfl, by rw [decide_eq_true c6]; rfl, by rw [if_pos c6, hI_2, hI_1, zsucc]⟩)
  · replace c6 : ¬ (l < 48) := fun q9 => c6 ((zlt (k := l) (m := 48) (by omega) (by omega)).mpr q9)
    refine gs_iconst (pc := 9) (gd gk_38 4 rfl) (0) rfl ?_
    -- end 2: ireturn 0, pc 10, locals [(0, .ref (4)), (1, .int (x))]
    exact gs_iret (pc := 10) (gd gk_38 5 rfl) rfl (rfl) (Nat.zero_le _) (Nat.zero_le _) (⟨I, rfl, by rw [decide_eq_false c6]; rfl, by rw [if_neg c6]⟩)
theorem c_write {l : Nat} (x : Int32) (hl : I 4 1 = Int32.ofNat l) (h8 : l ≤ 48) : gw_E V 64 (0, [(0, .ref 3), (1, .int x)], [], gS n I J, 0, 0) (fun v w' => ∃ I2, w' = gS n I2 J ∧ v = some (.int (gz_wr x l)) ∧ I2 = if gz_rg x 0 255 then (if l < 48 then gw_u (gw_u I 5 l x) 4 1 (Int32.ofNat (l + 1)) else I) else I) := by
  refine gs_iload_n (pc := 0) (gd gk_64 0 rfl) rfl ?_
  refine gs_if_lt (pc := 1) (gd gk_64 1 rfl) (fun c1 => ?_) (fun c1 => ?_)
  · refine gs_bipush (pc := 11) (gd gk_64 5 rfl) (-2) rfl ?_
    -- end 1: ireturn (-2), pc 13, locals [(0, .ref (3)), (1, .int (x))]
    exact gs_iret (pc := 13) (gd gk_64 6 rfl) rfl (rfl) (Nat.zero_le _) (Nat.zero_le _) (⟨I, rfl, by unfold gz_wr; rw [if_neg (by intro q; exact absurd c1 (Int32.not_lt.mpr (gz_rg_t.mp q).1))], by rw [if_neg (by intro q; exact absurd c1 (Int32.not_lt.mpr (gz_rg_t.mp q).1))]⟩)
  · refine gs_iload_n (pc := 4) (gd gk_64 2 rfl) rfl ?_
    refine gs_sipush (pc := 5) (gd gk_64 3 rfl) (255) rfl ?_
    refine gs_icmp_le (pc := 8) (gd gk_64 4 rfl) (fun c8 => ?_) (fun c8 => ?_)
    · refine gs_aload_n (pc := 14) (gd gk_64 7 rfl) rfl ?_
      refine gs_getR (r := 4) (pc := 15) (gd gk_64 8 rfl) rfl rfl rfl (by decide) ?_
      refine gs_iload_n (pc := 18) (gd gk_64 9 rfl) rfl ?_
      refine gs_callV (as := [.int (x)]) (pc := 19) (gd gk_64 10 rfl) (by decide) rfl (by decide) rfl rfl (Nat.le_of_ble_eq_true rfl) gq_64_38 (Nat.le_of_ble_eq_true rfl) (c_add x hl h8) (fun r_19 w_19 q_19 => ?_)
      obtain ⟨I_a, rfl, rfl, a1⟩ := q_19
      refine gs_if_eq (pc := 22) (gd gk_64 11 rfl) (fun c22 => ?_) (fun c22 => ?_)
      · refine gs_bipush (pc := 35) (gd gk_64 16 rfl) (-4) rfl ?_
        -- end 2: ireturn (-4), pc 37, locals [(0, .ref (3)), (1, .int (x))]
        have hr : gz_rg x 0 255 = true := gz_rg_t.mpr ⟨Int32.not_lt.mp c1, c8⟩
        have hl8 : ¬ l < 48 := of_decide_eq_false (gz_b_eq.mp c22)
        exact gs_iret (pc := 37) (gd gk_64 17 rfl) rfl (rfl) (Nat.zero_le _) (Nat.zero_le _) (⟨I_a, rfl, by unfold gz_wr; rw [if_pos hr, if_neg hl8], by rw [if_pos hr]; exact a1⟩)
      · refine gs_aload_n (pc := 25) (gd gk_64 12 rfl) rfl ?_
        refine gs_getR (r := 4) (pc := 26) (gd gk_64 13 rfl) rfl rfl rfl (by decide) ?_
        refine gs_getI (pc := 29) (gd gk_64 14 rfl) rfl rfl ?_
        refine gs_goto (pc := 32) (gd gk_64 15 rfl) ?_
        -- end 3: ireturn (I_a 4 1), pc 37, locals [(0, .ref (3)), (1, .int (x))]
        have hr : gz_rg x 0 255 = true := gz_rg_t.mpr ⟨Int32.not_lt.mp c1, c8⟩
        have hl8 : l < 48 := of_decide_eq_true (gz_b_ne.mp c22)
        exact gs_iret (pc := 37) (gd gk_64 17 rfl) rfl (rfl) (Nat.zero_le _) (Nat.zero_le _) (⟨I_a, rfl, by unfold gz_wr; rw [if_pos hr, if_pos hl8, a1, if_pos hl8, gw_u_s]; simp [upd], by rw [if_pos hr]; exact a1⟩)
    · refine gs_bipush (pc := 11) (gd gk_64 5 rfl) (-2) rfl ?_
      -- end 4: ireturn (-2), pc 13, locals [(0, .ref (3)), (1, .int (x))]
      exact gs_iret (pc := 13) (gd gk_64 6 rfl) rfl (rfl) (Nat.zero_le _) (Nat.zero_le _) (⟨I, rfl, by unfold gz_wr; rw [if_neg (by intro q; exact absurd (gz_rg_t.mp q).2 c8)], by rw [if_neg (by intro q; exact absurd (gz_rg_t.mp q).2 c8)]⟩)
theorem m_write {l : Nat} (x : Int32) (hl : I 126 15 = Int32.ofNat l) (h8 : l ≤ 48) : gw_E V 110 (0, [(0, .ref 126), (1, .int x)], [], gS n I J, 0, 0) (fun v w' => ∃ I2, w' = gS n I2 J ∧ v = some (.int (gz_wr x l)) ∧ I2 = if gz_rg x 0 255 then (if l < 48 then gw_u (gw_u I 134 l x) 126 15 (Int32.ofNat (l + 1)) else I) else I) := by
  refine gs_iload_n (pc := 0) (gd gk_110 0 rfl) rfl ?_
  refine gs_i2l (pc := 1) (gd gk_110 1 rfl) ?_
  refine gs_lconst (pc := 2) (gd gk_110 2 rfl) (0) rfl ?_
  refine gs_ldc2_w (pc := 3) (gd gk_110 3 rfl) (255) rfl ?_
  refine gs_callS (as := [.long ((x : Int32).toInt64), .long (0), .long (255)]) (pc := 6) (gd gk_110 4 rfl) (by decide) rfl rfl (Nat.le_of_ble_eq_true rfl) gq_110_107 (Nat.le_of_ble_eq_true rfl) (c_mrg (x) (0) (255)) (fun r_6 w_6 q_6 => ?_)
  obtain ⟨rfl, rfl⟩ := q_6
  refine gs_if_ne (pc := 9) (gd gk_110 5 rfl) (fun c9 => ?_) (fun c9 => ?_)
  · refine gs_aload_n (pc := 15) (gd gk_110 8 rfl) rfl ?_
    refine gs_getI (pc := 16) (gd gk_110 9 rfl) rfl rfl ?_
    refine gs_as (Int32.ofNat l) (hl) ?_
    refine gs_bipush (pc := 19) (gd gk_110 10 rfl) (48) rfl ?_
    refine gs_icmp_ne (pc := 21) (gd gk_110 11 rfl) (fun c21 => ?_) (fun c21 => ?_)
    · replace c21 : ¬ (l = 48) := fun q9 => c21 ((zeq (k := l) (m := 48) (by omega) (by omega)).mpr q9)
      refine gs_aload_n (pc := 27) (gd gk_110 14 rfl) rfl ?_
      refine gs_getR (r := 134) (pc := 28) (gd gk_110 15 rfl) rfl rfl rfl (by decide) ?_
      refine gs_aload_n (pc := 31) (gd gk_110 16 rfl) rfl ?_
      refine gs_getI (pc := 32) (gd gk_110 17 rfl) rfl rfl ?_
      refine gs_as (Int32.ofNat l) (hl) ?_
      refine gs_iload_n (pc := 35) (gd gk_110 18 rfl) rfl ?_
      refine gs_iastoreK (l) (48) gs_sl (pc := 36) (gd gk_110 19 rfl) rfl rfl (by decide) (by first | rfl | (simp only [Int32.ofNat_add, Int32.ofNat_mul]; rfl) | (simp only [Int32.ofNat_add, Int32.ofNat_mul])) (by omega) (fun I_1 hI_1 => ?_)
      refine gs_aload_n (pc := 37) (gd gk_110 20 rfl) rfl ?_
      refine gs_dup (pc := 38) (gd gk_110 21 rfl) rfl ?_
      refine gs_getI (pc := 39) (gd gk_110 22 rfl) rfl rfl ?_
      refine gs_as (Int32.ofNat l) (by rw [hI_1, gw_u_o (by omega)]; exact hl) ?_
      refine gs_iconst (pc := 42) (gd gk_110 23 rfl) (1) rfl ?_
      refine gs_iadd (pc := 43) (gd gk_110 24 rfl) ?_
      refine gs_putI (pc := 44) (gd gk_110 25 rfl) rfl rfl rfl rfl (fun I_2 hI_2 => ?_)
      refine gs_aload_n (pc := 47) (gd gk_110 26 rfl) rfl ?_
      refine gs_getI (pc := 48) (gd gk_110 27 rfl) rfl rfl ?_
      -- end 1: ireturn (I_2 126 15), pc 51, locals [(0, .ref (126)), (1, .int (x))]
      have hr := gz_b_ne.mp c9
      have hl8 : l < 48 := by omega
      exact gs_iret (pc := 51) (gd gk_110 28 rfl) rfl (rfl) (Nat.zero_le _) (Nat.zero_le _) (⟨I_2, rfl, by unfold gz_wr; rw [if_pos hr, if_pos hl8, hI_2, gw_u_s]; simp [upd]; try rfl, by rw [if_pos hr, if_pos hl8, hI_2, hI_1, zsucc]⟩)
    · replace c21 : l = 48 := (zeq (k := l) (m := 48) (by omega) (by omega)).mp c21
      refine gs_bipush (pc := 24) (gd gk_110 12 rfl) (-4) rfl ?_
      -- end 2: ireturn (-4), pc 26, locals [(0, .ref (126)), (1, .int (x))]
      have hr := gz_b_ne.mp c9
      have hl8 : ¬ l < 48 := by omega
      exact gs_iret (pc := 26) (gd gk_110 13 rfl) rfl (rfl) (Nat.zero_le _) (Nat.zero_le _) (⟨I, rfl, by unfold gz_wr; rw [if_pos hr, if_neg hl8], by rw [if_pos hr, if_neg hl8]⟩)
  · refine gs_bipush (pc := 12) (gd gk_110 6 rfl) (-2) rfl ?_
    -- end 3: ireturn (-2), pc 14, locals [(0, .ref (126)), (1, .int (x))]
    have hr : ¬ gz_rg x 0 255 = true := by rw [gz_b_eq.mp c9]; decide
    exact gs_iret (pc := 14) (gd gk_110 7 rfl) rfl (rfl) (Nat.zero_le _) (Nat.zero_le _) (⟨I, rfl, by unfold gz_wr; rw [if_neg hr], by rw [if_neg hr]⟩)
theorem c_wipe : gw_E V 65 (0, [(0, .ref 3)], [], gS n I J, 0, 0) (fun v w' => ∃ I2, w' = gS n I2 J ∧ v = some (.int (I 4 1)) ∧ I2 = gw_u I 4 1 0) := by
  refine gs_aload_n (pc := 0) (gd gk_65 0 rfl) rfl ?_
  refine gs_getR (r := 4) (pc := 1) (gd gk_65 1 rfl) rfl rfl rfl (by decide) ?_
  refine gs_getI (pc := 4) (gd gk_65 2 rfl) rfl rfl ?_
  refine gs_istore_n (ls2 := fun v => [(0, .ref (3)), (1, .int (v))]) (pc := 7) (gd gk_65 3 rfl) (by rw [gL_65]; decide) (fun _ => rfl) (fun v1_1 hv1_1 => ?_)
  refine gs_aload_n (pc := 8) (gd gk_65 4 rfl) rfl ?_
  refine gs_getR (r := 4) (pc := 9) (gd gk_65 5 rfl) rfl rfl rfl (by decide) ?_
  refine gs_iconst (pc := 12) (gd gk_65 6 rfl) (0) rfl ?_
  refine gs_putI (pc := 13) (gd gk_65 7 rfl) rfl rfl rfl rfl (fun I_1 hI_1 => ?_)
  refine gs_iload_n (pc := 16) (gd gk_65 8 rfl) rfl ?_
  -- end 1: ireturn v1_1, pc 17, locals [(0, .ref (3)), (1, .int (v1_1))]
  exact gs_iret (pc := 17) (gd gk_65 9 rfl) rfl (rfl) (Nat.zero_le _) (Nat.zero_le _) (⟨I_1, rfl, by rw [hv1_1], hI_1⟩)
theorem m_wipe : gw_E V 111 (0, [(0, .ref 126)], [], gS n I J, 0, 0) (fun v w' => ∃ I2, w' = gS n I2 J ∧ v = some (.int (I 126 15)) ∧ I2 = gw_u I 126 15 0) := by
  refine gs_aload_n (pc := 0) (gd gk_111 0 rfl) rfl ?_
  refine gs_getI (pc := 1) (gd gk_111 1 rfl) rfl rfl ?_
  refine gs_istore_n (ls2 := fun v => [(0, .ref (126)), (1, .int (v))]) (pc := 4) (gd gk_111 2 rfl) (by rw [gL_111]; decide) (fun _ => rfl) (fun v1_1 hv1_1 => ?_)
  refine gs_aload_n (pc := 5) (gd gk_111 3 rfl) rfl ?_
  refine gs_iconst (pc := 6) (gd gk_111 4 rfl) (0) rfl ?_
  refine gs_putI (pc := 7) (gd gk_111 5 rfl) rfl rfl rfl rfl (fun I_1 hI_1 => ?_)
  refine gs_iload_n (pc := 10) (gd gk_111 6 rfl) rfl ?_
  -- end 1: ireturn v1_1, pc 11, locals [(0, .ref (126)), (1, .int (v1_1))]
  exact gs_iret (pc := 11) (gd gk_111 7 rfl) rfl (rfl) (Nat.zero_le _) (Nat.zero_le _) (⟨I_1, rfl, by rw [hv1_1], hI_1⟩)
theorem c_pennies : gw_E V 71 (0, [(0, .ref 3)], [], gS n I J, 0, 0) (fun v w' => v = some (.int (I 12 2)) ∧ w' = gS n I J) := by
  refine gs_aload_n (pc := 0) (gd gk_71 0 rfl) rfl ?_
  refine gs_getR (r := 12) (pc := 1) (gd gk_71 1 rfl) rfl rfl rfl (by decide) ?_
  refine gs_getI (pc := 4) (gd gk_71 2 rfl) rfl rfl ?_
  -- end 1: ireturn (I 12 2), pc 7, locals [(0, .ref (3))]
  exact gs_iret (pc := 7) (gd gk_71 3 rfl) rfl (rfl) (Nat.zero_le _) (Nat.zero_le _) (⟨rfl, rfl⟩)
theorem m_pennies : gw_E V 124 (0, [(0, .ref 126)], [], gS n I J, 0, 0) (fun v w' => v = some (.int (I 133 11)) ∧ w' = gS n I J) := by
  refine gs_aload_n (pc := 0) (gd gk_124 0 rfl) rfl ?_
  refine gs_getR (r := 133) (pc := 1) (gd gk_124 1 rfl) rfl rfl rfl (by decide) ?_
  refine gs_bipush (pc := 4) (gd gk_124 2 rfl) (11) rfl ?_
  refine gs_ialoadK (11) (52) (pc := 6) (gd gk_124 3 rfl) (Or.inl rfl) rfl (by decide) (by first | rfl | (simp only [Int32.ofNat_add, Int32.ofNat_mul]; rfl) | (simp only [Int32.ofNat_add, Int32.ofNat_mul])) (by omega) ?_
  -- end 1: ireturn (I 133 11), pc 7, locals [(0, .ref (126))]
  exact gs_iret (pc := 7) (gd gk_124 4 rfl) rfl (rfl) (Nat.zero_le _) (Nat.zero_le _) (⟨rfl, rfl⟩)
/-- a number between is some natural number -/
theorem gz_nat {x : Int32} {b : Nat} (h : gz_rg x 0 (Int32.ofNat b) = true) (hb : b < 1000) : ∃ c, c ≤ b ∧ x = Int32.ofNat c := by
  obtain ⟨h1, h2⟩ := gz_rg_t.mp h
  have h2 := (zle_l h1 (n := b) (by omega)).mp h2
  exact ⟨x.toNatClampNeg, h2, (znat h1).1.symm⟩
theorem c_smell (x : Int32) : gw_E V 68 (0, [(0, .ref 3), (1, .int x)], [], gS n I J, 0, 0) (fun v w' => v = some (.int (if gz_rg x 0 9 then I 13 x.toNatClampNeg else -2)) ∧ w' = gS n I J) := by
  by_cases hr : gz_rg x 0 9 = true
  · obtain ⟨c, hc, rfl⟩ := gz_nat (b := 9) hr (by omega)
    refine gs_iload_n (pc := 0) (gd gk_68 0 rfl) rfl ?_
    refine gs_callS (as := [.int (Int32.ofNat c)]) (pc := 1) (gd gk_68 1 rfl) (by decide) rfl rfl (Nat.le_of_ble_eq_true rfl) gq_68_93 (Nat.le_of_ble_eq_true rfl) (c_cell (Int32.ofNat c)) (fun r_1 w_1 q_1 => ?_)
    obtain ⟨rfl, rfl⟩ := q_1
    refine gs_if_eq (pc := 4) (gd gk_68 2 rfl) (fun c4 => ?_) (fun c4 => ?_)
    · refine gs_bipush (pc := 19) (gd gk_68 9 rfl) (-2) rfl ?_
      -- end 1: ireturn (-2), pc 21, locals [(0, .ref (3)), (1, .int (Int32.ofNat c))]
      exact absurd (gz_b_eq.mp c4) (by rw [hr]; decide)
    · refine gs_aload_n (pc := 7) (gd gk_68 3 rfl) rfl ?_
      refine gs_getR (r := 12) (pc := 8) (gd gk_68 4 rfl) rfl rfl rfl (by decide) ?_
      refine gs_getR (r := 13) (pc := 11) (gd gk_68 5 rfl) rfl rfl rfl (by decide) ?_
      refine gs_iload_n (pc := 14) (gd gk_68 6 rfl) rfl ?_
      refine gs_ialoadK (c) (10) (pc := 15) (gd gk_68 7 rfl) (Or.inl rfl) rfl (by decide) (by first | rfl | (simp only [Int32.ofNat_add, Int32.ofNat_mul]; rfl) | (simp only [Int32.ofNat_add, Int32.ofNat_mul])) (by omega) ?_
      refine gs_goto (pc := 16) (gd gk_68 8 rfl) ?_
      -- end 2: ireturn (I 13 c), pc 21, locals [(0, .ref (3)), (1, .int (Int32.ofNat c))]
      exact gs_iret (pc := 21) (gd gk_68 10 rfl) rfl (rfl) (Nat.zero_le _) (Nat.zero_le _) (⟨by rw [if_pos hr, znn (by omega)], rfl⟩)
  · skip
    refine gs_iload_n (pc := 0) (gd gk_68 0 rfl) rfl ?_
    refine gs_callS (as := [.int (x)]) (pc := 1) (gd gk_68 1 rfl) (by decide) rfl rfl (Nat.le_of_ble_eq_true rfl) gq_68_93 (Nat.le_of_ble_eq_true rfl) (c_cell (x)) (fun r_1 w_1 q_1 => ?_)
    obtain ⟨rfl, rfl⟩ := q_1
    refine gs_if_eq (pc := 4) (gd gk_68 2 rfl) (fun c4 => ?_) (fun c4 => ?_)
    · refine gs_bipush (pc := 19) (gd gk_68 9 rfl) (-2) rfl ?_
      -- end 1: ireturn (-2), pc 21, locals [(0, .ref (3)), (1, .int (x))]
      exact gs_iret (pc := 21) (gd gk_68 10 rfl) rfl (rfl) (Nat.zero_le _) (Nat.zero_le _) (⟨by rw [if_neg hr], rfl⟩)
    · -- end 2: stop, pc 7, locals [(0, .ref (3)), (1, .int (x))]
      exact absurd (gz_b_ne.mp c4) hr
theorem m_smell (x : Int32) : gw_E V 119 (0, [(0, .ref 126), (1, .int x)], [], gS n I J, 0, 0) (fun v w' => v = some (.int (if gz_rg x 0 9 then I 133 x.toNatClampNeg else -2)) ∧ w' = gS n I J) := by
  by_cases hr : gz_rg x 0 9 = true
  · obtain ⟨c, hc, rfl⟩ := gz_nat (b := 9) hr (by omega)
    refine gs_iload_n (pc := 0) (gd gk_119 0 rfl) rfl ?_
    refine gs_i2l (pc := 1) (gd gk_119 1 rfl) ?_
    refine gs_lconst (pc := 2) (gd gk_119 2 rfl) (0) rfl ?_
    refine gs_ldc2_w (pc := 3) (gd gk_119 3 rfl) (9) rfl ?_
    refine gs_callS (as := [.long ((Int32.ofNat c : Int32).toInt64), .long (0), .long (9)]) (pc := 6) (gd gk_119 4 rfl) (by decide) rfl rfl (Nat.le_of_ble_eq_true rfl) gq_119_107 (Nat.le_of_ble_eq_true rfl) (c_mrg (Int32.ofNat c) (0) (9)) (fun r_6 w_6 q_6 => ?_)
    obtain ⟨rfl, rfl⟩ := q_6
    refine gs_if_eq (pc := 9) (gd gk_119 5 rfl) (fun c9 => ?_) (fun c9 => ?_)
    · refine gs_bipush (pc := 21) (gd gk_119 11 rfl) (-2) rfl ?_
      -- end 1: ireturn (-2), pc 23, locals [(0, .ref (126)), (1, .int (Int32.ofNat c))]
      exact absurd (gz_b_eq.mp c9) (by rw [hr]; decide)
    · refine gs_aload_n (pc := 12) (gd gk_119 6 rfl) rfl ?_
      refine gs_getR (r := 133) (pc := 13) (gd gk_119 7 rfl) rfl rfl rfl (by decide) ?_
      refine gs_iload_n (pc := 16) (gd gk_119 8 rfl) rfl ?_
      refine gs_ialoadK (c) (52) (pc := 17) (gd gk_119 9 rfl) (Or.inl rfl) rfl (by decide) (by first | rfl | (simp only [Int32.ofNat_add, Int32.ofNat_mul]; rfl) | (simp only [Int32.ofNat_add, Int32.ofNat_mul])) (by omega) ?_
      refine gs_goto (pc := 18) (gd gk_119 10 rfl) ?_
      -- end 2: ireturn (I 133 c), pc 23, locals [(0, .ref (126)), (1, .int (Int32.ofNat c))]
      exact gs_iret (pc := 23) (gd gk_119 12 rfl) rfl (rfl) (Nat.zero_le _) (Nat.zero_le _) (⟨by rw [if_pos hr, znn (by omega)], rfl⟩)
  · skip
    refine gs_iload_n (pc := 0) (gd gk_119 0 rfl) rfl ?_
    refine gs_i2l (pc := 1) (gd gk_119 1 rfl) ?_
    refine gs_lconst (pc := 2) (gd gk_119 2 rfl) (0) rfl ?_
    refine gs_ldc2_w (pc := 3) (gd gk_119 3 rfl) (9) rfl ?_
    refine gs_callS (as := [.long ((x : Int32).toInt64), .long (0), .long (9)]) (pc := 6) (gd gk_119 4 rfl) (by decide) rfl rfl (Nat.le_of_ble_eq_true rfl) gq_119_107 (Nat.le_of_ble_eq_true rfl) (c_mrg (x) (0) (9)) (fun r_6 w_6 q_6 => ?_)
    obtain ⟨rfl, rfl⟩ := q_6
    refine gs_if_eq (pc := 9) (gd gk_119 5 rfl) (fun c9 => ?_) (fun c9 => ?_)
    · refine gs_bipush (pc := 21) (gd gk_119 11 rfl) (-2) rfl ?_
      -- end 1: ireturn (-2), pc 23, locals [(0, .ref (126)), (1, .int (x))]
      exact gs_iret (pc := 23) (gd gk_119 12 rfl) rfl (rfl) (Nat.zero_le _) (Nat.zero_le _) (⟨by rw [if_neg hr], rfl⟩)
    · -- end 2: stop, pc 12, locals [(0, .ref (126)), (1, .int (x))]
      exact absurd (gz_b_ne.mp c9) hr
/-- below a number: as the class asks, and as the reference asks -/
def gz_lt (x : Int32) (b : Nat) : Bool := decide (0 ≤ x ∧ x < Int32.ofNat b)
theorem gz_lt_nat {x : Int32} {b : Nat} (h : gz_lt x b = true) (hb : b < 1000) : ∃ c, c < b ∧ x = Int32.ofNat c := by
  obtain ⟨h1, h2⟩ := of_decide_eq_true h
  exact ⟨x.toNatClampNeg, (zlt_l h1 (n := b) (by omega)).mp h2, (znat h1).1.symm⟩
theorem gz_rg_lt (x : Int32) (b : Nat) (hb : b < 1000) : gz_rg x 0 (Int32.ofNat b - 1) = gz_lt x b := by
  unfold gz_rg gz_lt
  congr 1
  have e0 := Int32.toInt_ofNat_of_lt (n := b) (by omega)
  have e1 : (Int32.ofNat b - 1).toInt = b - 1 := by
    rw [Int32.toInt_sub, e0]
    exact Int.bmod_eq_of_le (by have : (1 : Int32).toInt = 1 := rfl; omega) (by have : (1 : Int32).toInt = 1 := rfl; omega)
  rw [Int32.le_iff_toInt_le, Int32.le_iff_toInt_le, Int32.lt_iff_toInt_lt, e0, e1]
  exact propext ⟨fun q => ⟨q.1, by omega⟩, fun q => ⟨q.1, by omega⟩⟩
theorem c_wind (x : Int32) (hW : I 6 3 = Int32.ofNat W) (h8 : W ≤ 8) : gw_E V 69 (0, [(0, .ref 3), (1, .int x)], [], gS n I J, 0, 0) (fun v w' => v = some (.int (if gz_lt x W then I 7 x.toNatClampNeg else -99)) ∧ w' = gS n I J) := by
  by_cases hr : gz_lt x W = true
  · obtain ⟨c, hc, rfl⟩ := gz_lt_nat hr (by omega)
    refine gs_iload_n (pc := 0) (gd gk_69 0 rfl) rfl ?_
    refine gs_if_lt (pc := 1) (gd gk_69 1 rfl) (fun c1 => ?_) (fun c1 => ?_)
    · replace c1 : c < 0 := (zlt (k := c) (m := 0) (by omega) (by omega)).mp c1
      refine gs_bipush (pc := 27) (gd gk_69 13 rfl) (-99) rfl ?_
      -- end 1: ireturn (-99), pc 29, locals [(0, .ref (3)), (1, .int (Int32.ofNat c))]
      exact absurd c1 (Nat.not_lt_zero _)
    · replace c1 : ¬ (c < 0) := fun q9 => c1 ((zlt (k := c) (m := 0) (by omega) (by omega)).mpr q9)
      refine gs_iload_n (pc := 4) (gd gk_69 2 rfl) rfl ?_
      refine gs_aload_n (pc := 5) (gd gk_69 3 rfl) rfl ?_
      refine gs_getR (r := 6) (pc := 6) (gd gk_69 4 rfl) rfl rfl rfl (by decide) ?_
      refine gs_getI (pc := 9) (gd gk_69 5 rfl) rfl rfl ?_
      refine gs_as (Int32.ofNat W) (hW) ?_
      refine gs_icmp_ge (pc := 12) (gd gk_69 6 rfl) (fun c12 => ?_) (fun c12 => ?_)
      · replace c12 : W ≤ c := (zle (k := W) (m := c) (by omega) (by omega)).mp c12
        refine gs_bipush (pc := 27) (gd gk_69 13 rfl) (-99) rfl ?_
        -- end 2: ireturn (-99), pc 29, locals [(0, .ref (3)), (1, .int (Int32.ofNat c))]
        exact absurd c12 (by omega)
      · replace c12 : ¬ (W ≤ c) := fun q9 => c12 ((zle (k := W) (m := c) (by omega) (by omega)).mpr q9)
        refine gs_aload_n (pc := 15) (gd gk_69 7 rfl) rfl ?_
        refine gs_getR (r := 6) (pc := 16) (gd gk_69 8 rfl) rfl rfl rfl (by decide) ?_
        refine gs_getR (r := 7) (pc := 19) (gd gk_69 9 rfl) rfl rfl rfl (by decide) ?_
        refine gs_iload_n (pc := 22) (gd gk_69 10 rfl) rfl ?_
        refine gs_ialoadK (c) (8) (pc := 23) (gd gk_69 11 rfl) (Or.inl rfl) rfl (by decide) (by first | rfl | (simp only [Int32.ofNat_add, Int32.ofNat_mul]; rfl) | (simp only [Int32.ofNat_add, Int32.ofNat_mul])) (by omega) ?_
        refine gs_goto (pc := 24) (gd gk_69 12 rfl) ?_
        -- end 3: ireturn (I 7 c), pc 29, locals [(0, .ref (3)), (1, .int (Int32.ofNat c))]
        exact gs_iret (pc := 29) (gd gk_69 14 rfl) rfl (rfl) (Nat.zero_le _) (Nat.zero_le _) (⟨by rw [if_pos hr, znn (by omega)], rfl⟩)
  · skip
    refine gs_iload_n (pc := 0) (gd gk_69 0 rfl) rfl ?_
    refine gs_if_lt (pc := 1) (gd gk_69 1 rfl) (fun c1 => ?_) (fun c1 => ?_)
    · refine gs_bipush (pc := 27) (gd gk_69 13 rfl) (-99) rfl ?_
      -- end 1: ireturn (-99), pc 29, locals [(0, .ref (3)), (1, .int (x))]
      exact gs_iret (pc := 29) (gd gk_69 14 rfl) rfl (rfl) (Nat.zero_le _) (Nat.zero_le _) (⟨by rw [if_neg hr], rfl⟩)
    · refine gs_iload_n (pc := 4) (gd gk_69 2 rfl) rfl ?_
      refine gs_aload_n (pc := 5) (gd gk_69 3 rfl) rfl ?_
      refine gs_getR (r := 6) (pc := 6) (gd gk_69 4 rfl) rfl rfl rfl (by decide) ?_
      refine gs_getI (pc := 9) (gd gk_69 5 rfl) rfl rfl ?_
      refine gs_as (Int32.ofNat W) (hW) ?_
      refine gs_icmp_ge (pc := 12) (gd gk_69 6 rfl) (fun c12 => ?_) (fun c12 => ?_)
      · refine gs_bipush (pc := 27) (gd gk_69 13 rfl) (-99) rfl ?_
        -- end 2: ireturn (-99), pc 29, locals [(0, .ref (3)), (1, .int (x))]
        exact gs_iret (pc := 29) (gd gk_69 14 rfl) rfl (rfl) (Nat.zero_le _) (Nat.zero_le _) (⟨by rw [if_neg hr], rfl⟩)
      · -- end 3: stop, pc 15, locals [(0, .ref (3)), (1, .int (x))]
        exact absurd (decide_eq_true ⟨Int32.not_lt.mp c1, Int32.not_le.mp c12⟩) hr
theorem m_wind (x : Int32) (hW : I 126 3 = Int32.ofNat W) (h8 : W ≤ 8) : gw_E V 120 (0, [(0, .ref 126), (1, .int x)], [], gS n I J, 0, 0) (fun v w' => v = some (.int (if gz_lt x W then I 127 x.toNatClampNeg else -99)) ∧ w' = gS n I J) := by
  by_cases hr : gz_lt x W = true
  · obtain ⟨c, hc, rfl⟩ := gz_lt_nat hr (by omega)
    refine gs_iload_n (pc := 0) (gd gk_120 0 rfl) rfl ?_
    refine gs_i2l (pc := 1) (gd gk_120 1 rfl) ?_
    refine gs_lconst (pc := 2) (gd gk_120 2 rfl) (0) rfl ?_
    refine gs_aload_n (pc := 3) (gd gk_120 3 rfl) rfl ?_
    refine gs_getI (pc := 4) (gd gk_120 4 rfl) rfl rfl ?_
    refine gs_as (Int32.ofNat W) (hW) ?_
    refine gs_iconst (pc := 7) (gd gk_120 5 rfl) (1) rfl ?_
    refine gs_isub (pc := 8) (gd gk_120 6 rfl) ?_
    refine gs_i2l (pc := 9) (gd gk_120 7 rfl) ?_
    refine gs_callS (as := [.long ((Int32.ofNat c : Int32).toInt64), .long (0), .long (((Int32.ofNat W - 1) : Int32).toInt64)]) (pc := 10) (gd gk_120 8 rfl) (by decide) rfl rfl (Nat.le_of_ble_eq_true rfl) gq_120_107 (Nat.le_of_ble_eq_true rfl) (c_mrg (Int32.ofNat c) (0) ((Int32.ofNat W - 1))) (fun r_10 w_10 q_10 => ?_)
    obtain ⟨rfl, rfl⟩ := q_10
    refine gs_if_eq (pc := 13) (gd gk_120 9 rfl) (fun c13 => ?_) (fun c13 => ?_)
    · refine gs_bipush (pc := 25) (gd gk_120 15 rfl) (-99) rfl ?_
      -- end 1: ireturn (-99), pc 27, locals [(0, .ref (126)), (1, .int (Int32.ofNat c))]
      exact absurd (gz_b_eq.mp c13) (by rw [gz_rg_lt _ _ (by omega), hr]; decide)
    · refine gs_aload_n (pc := 16) (gd gk_120 10 rfl) rfl ?_
      refine gs_getR (r := 127) (pc := 17) (gd gk_120 11 rfl) rfl rfl rfl (by decide) ?_
      refine gs_iload_n (pc := 20) (gd gk_120 12 rfl) rfl ?_
      refine gs_ialoadK (c) (8) (pc := 21) (gd gk_120 13 rfl) (Or.inl rfl) rfl (by decide) (by first | rfl | (simp only [Int32.ofNat_add, Int32.ofNat_mul]; rfl) | (simp only [Int32.ofNat_add, Int32.ofNat_mul])) (by omega) ?_
      refine gs_goto (pc := 22) (gd gk_120 14 rfl) ?_
      -- end 2: ireturn (I 127 c), pc 27, locals [(0, .ref (126)), (1, .int (Int32.ofNat c))]
      exact gs_iret (pc := 27) (gd gk_120 16 rfl) rfl (rfl) (Nat.zero_le _) (Nat.zero_le _) (⟨by rw [if_pos hr, znn (by omega)], rfl⟩)
  · skip
    refine gs_iload_n (pc := 0) (gd gk_120 0 rfl) rfl ?_
    refine gs_i2l (pc := 1) (gd gk_120 1 rfl) ?_
    refine gs_lconst (pc := 2) (gd gk_120 2 rfl) (0) rfl ?_
    refine gs_aload_n (pc := 3) (gd gk_120 3 rfl) rfl ?_
    refine gs_getI (pc := 4) (gd gk_120 4 rfl) rfl rfl ?_
    refine gs_as (Int32.ofNat W) (hW) ?_
    refine gs_iconst (pc := 7) (gd gk_120 5 rfl) (1) rfl ?_
    refine gs_isub (pc := 8) (gd gk_120 6 rfl) ?_
    refine gs_i2l (pc := 9) (gd gk_120 7 rfl) ?_
    refine gs_callS (as := [.long ((x : Int32).toInt64), .long (0), .long (((Int32.ofNat W - 1) : Int32).toInt64)]) (pc := 10) (gd gk_120 8 rfl) (by decide) rfl rfl (Nat.le_of_ble_eq_true rfl) gq_120_107 (Nat.le_of_ble_eq_true rfl) (c_mrg (x) (0) ((Int32.ofNat W - 1))) (fun r_10 w_10 q_10 => ?_)
    obtain ⟨rfl, rfl⟩ := q_10
    refine gs_if_eq (pc := 13) (gd gk_120 9 rfl) (fun c13 => ?_) (fun c13 => ?_)
    · refine gs_bipush (pc := 25) (gd gk_120 15 rfl) (-99) rfl ?_
      -- end 1: ireturn (-99), pc 27, locals [(0, .ref (126)), (1, .int (x))]
      exact gs_iret (pc := 27) (gd gk_120 16 rfl) rfl (rfl) (Nat.zero_le _) (Nat.zero_le _) (⟨by rw [if_neg hr], rfl⟩)
    · -- end 2: stop, pc 16, locals [(0, .ref (126)), (1, .int (x))]
      exact absurd (gz_b_ne.mp c13) (by rw [gz_rg_lt _ _ (by omega)]; exact hr)
theorem c_hasNose (x : Int32) (hN : I 6 4 = Int32.ofNat N) : gw_E V 34 (0, [(0, .ref 6), (1, .int x)], [], gS n I J, 0, 0) (fun v w' => v = some (.int (gz_b (gz_lt x N))) ∧ w' = gS n I J) := by
  refine gs_iload_n (pc := 0) (gd gk_34 0 rfl) rfl ?_
  refine gs_if_lt (pc := 1) (gd gk_34 1 rfl) (fun c1 => ?_) (fun c1 => ?_)
  · refine gs_iconst (pc := 16) (gd gk_34 8 rfl) (0) rfl ?_
    -- end 1: ireturn 0, pc 17, locals [(0, .ref (6)), (1, .int (x))]
    exact gs_iret (pc := 17) (gd gk_34 9 rfl) rfl (rfl) (Nat.zero_le _) (Nat.zero_le _) (⟨by rw [show gz_lt x N = false from decide_eq_false (fun q => absurd c1 (Int32.not_lt.mpr q.1))]; rfl, rfl⟩)
  · refine gs_iload_n (pc := 4) (gd gk_34 2 rfl) rfl ?_
    refine gs_aload_n (pc := 5) (gd gk_34 3 rfl) rfl ?_
    refine gs_getI (pc := 6) (gd gk_34 4 rfl) rfl rfl ?_
    refine gs_as (Int32.ofNat N) (hN) ?_
    refine gs_icmp_ge (pc := 9) (gd gk_34 5 rfl) (fun c9 => ?_) (fun c9 => ?_)
    · refine gs_iconst (pc := 16) (gd gk_34 8 rfl) (0) rfl ?_
      -- end 2: ireturn 0, pc 17, locals [(0, .ref (6)), (1, .int (x))]
      exact gs_iret (pc := 17) (gd gk_34 9 rfl) rfl (rfl) (Nat.zero_le _) (Nat.zero_le _) (⟨by rw [show gz_lt x N = false from decide_eq_false (fun q => absurd c9 (Int32.not_le.mpr q.2))]; rfl, rfl⟩)
    · refine gs_iconst (pc := 12) (gd gk_34 6 rfl) (1) rfl ?_
      refine gs_goto (pc := 13) (gd gk_34 7 rfl) ?_
      -- end 3: ireturn 1, pc 17, locals [(0, .ref (6)), (1, .int (x))]
      exact gs_iret (pc := 17) (gd gk_34 9 rfl) rfl (rfl) (Nat.zero_le _) (Nat.zero_le _) (⟨by rw [show gz_lt x N = true from decide_eq_true ⟨Int32.not_lt.mp c1, Int32.not_le.mp c9⟩]; rfl, rfl⟩)
theorem m_isNose (x : Int32) (hN : I 126 4 = Int32.ofNat N) (h6 : N ≤ 6) : gw_E V 118 (0, [(0, .ref 126), (1, .int x)], [], gS n I J, 0, 0) (fun v w' => v = some (.int (gz_b (gz_lt x N))) ∧ w' = gS n I J) := by
  refine gs_iload_n (pc := 0) (gd gk_118 0 rfl) rfl ?_
  refine gs_i2l (pc := 1) (gd gk_118 1 rfl) ?_
  refine gs_lconst (pc := 2) (gd gk_118 2 rfl) (0) rfl ?_
  refine gs_aload_n (pc := 3) (gd gk_118 3 rfl) rfl ?_
  refine gs_getI (pc := 4) (gd gk_118 4 rfl) rfl rfl ?_
  refine gs_as (Int32.ofNat N) (hN) ?_
  refine gs_iconst (pc := 7) (gd gk_118 5 rfl) (1) rfl ?_
  refine gs_isub (pc := 8) (gd gk_118 6 rfl) ?_
  refine gs_i2l (pc := 9) (gd gk_118 7 rfl) ?_
  refine gs_callS (as := [.long ((x : Int32).toInt64), .long (0), .long (((Int32.ofNat N - 1) : Int32).toInt64)]) (pc := 10) (gd gk_118 8 rfl) (by decide) rfl rfl (Nat.le_of_ble_eq_true rfl) gq_118_107 (Nat.le_of_ble_eq_true rfl) (c_mrg (x) (0) ((Int32.ofNat N - 1))) (fun r_10 w_10 q_10 => ?_)
  obtain ⟨rfl, rfl⟩ := q_10
  -- end 1: ireturn (gz_b (gz_rg (x) (0) ((Int32.ofNat N - 1)))), pc 13, locals [(0, .ref (126)), (1, .int (x))]
  exact gs_iret (pc := 13) (gd gk_118 9 rfl) rfl (gz_b_nar _) (Nat.zero_le _) (Nat.zero_le _) (⟨by rw [gz_rg_lt _ _ (by omega)], rfl⟩)
end
