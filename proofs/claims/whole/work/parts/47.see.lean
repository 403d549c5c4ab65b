/-! ===== seed, see, unsee: both ===== -/
section
variable {V : gw_V} {n W N h0 L bc : Nat} {I : Nat → Nat → Int32} {J : Nat → Nat → Int64}
theorem c_seed (x : Int64) : gw_E V 88 (0, [(0, .ref 3), (1, .long x)], [], gS n I J, 0, 0) (fun v w' => v = some (.long (J 3 11)) ∧ w' = gS n I (gw_uJ J 3 11 x)) := by
  refine gs_aload_n (pc := 0) (gd gk_88 0 rfl) rfl ?_
  refine gs_getJ (pc := 1) (gd gk_88 1 rfl) rfl rfl ?_
  refine gs_lstore_n (ls2 := fun v => [(0, .ref (3)), (1, .long (x)), (3, .long (v))]) (pc := 4) (gd gk_88 2 rfl) (by rw [gL_88]; decide) (fun _ => rfl) (fun u3_1 hu3_1 => ?_)
  refine gs_aload_n (pc := 5) (gd gk_88 3 rfl) rfl ?_
  refine gs_lload_n (pc := 6) (gd gk_88 4 rfl) rfl ?_
  refine gs_putJ (pc := 7) (gd gk_88 5 rfl) rfl rfl rfl rfl (fun J_1 hJ_1 => ?_)
  refine gs_lload_n (pc := 10) (gd gk_88 6 rfl) rfl ?_
  -- end 1: lreturn u3_1, pc 11, locals [(0, .ref (3)), (1, .long (x)), (3, .long (u3_1))]
  subst hJ_1
  exact gs_lret (pc := 11) (gd gk_88 7 rfl) rfl (Nat.zero_le _) (Nat.zero_le _) (⟨by rw [hu3_1], rfl⟩)
theorem m_seed (x : Int64) : gw_E V 158 (0, [(0, .ref 126), (1, .long x)], [], gS n I J, 0, 0) (fun v w' => v = some (.long (J 126 34)) ∧ w' = gS n I (gw_uJ J 126 34 x)) := by
  refine gs_aload_n (pc := 0) (gd gk_158 0 rfl) rfl ?_
  refine gs_getJ (pc := 1) (gd gk_158 1 rfl) rfl rfl ?_
  refine gs_lstore_n (ls2 := fun v => [(0, .ref (126)), (1, .long (x)), (3, .long (v))]) (pc := 4) (gd gk_158 2 rfl) (by rw [gL_158]; decide) (fun _ => rfl) (fun u3_1 hu3_1 => ?_)
  refine gs_aload_n (pc := 5) (gd gk_158 3 rfl) rfl ?_
  refine gs_lload_n (pc := 6) (gd gk_158 4 rfl) rfl ?_
  refine gs_putJ (pc := 7) (gd gk_158 5 rfl) rfl rfl rfl rfl (fun J_1 hJ_1 => ?_)
  refine gs_lload_n (pc := 10) (gd gk_158 6 rfl) rfl ?_
  -- end 1: lreturn u3_1, pc 11, locals [(0, .ref (126)), (1, .long (x)), (3, .long (u3_1))]
  subst hJ_1
  exact gs_lret (pc := 11) (gd gk_158 7 rfl) rfl (Nat.zero_le _) (Nat.zero_le _) (⟨by rw [hu3_1], rfl⟩)
theorem c_unsee : gw_E V 83 (0, [(0, .ref 3)], [], gS n I J, 0, 0) (fun v w' => ∃ I2, w' = gS n I2 J ∧ v = some (.int (I 53 3)) ∧ I2 = gw_u I 53 3 0) := by
  refine gs_aload_n (pc := 0) (gd gk_83 0 rfl) rfl ?_
  refine gs_getR (r := 53) (pc := 1) (gd gk_83 1 rfl) rfl rfl rfl (by decide) ?_
  refine gs_getI (pc := 4) (gd gk_83 2 rfl) rfl rfl ?_
  refine gs_istore_n (ls2 := fun v => [(0, .ref (3)), (1, .int (v))]) (pc := 7) (gd gk_83 3 rfl) (by rw [gL_83]; decide) (fun _ => rfl) (fun v1_1 hv1_1 => ?_)
  refine gs_aload_n (pc := 8) (gd gk_83 4 rfl) rfl ?_
  refine gs_getR (r := 53) (pc := 9) (gd gk_83 5 rfl) rfl rfl rfl (by decide) ?_
  refine gs_iconst (pc := 12) (gd gk_83 6 rfl) (0) rfl ?_
  refine gs_putI (pc := 13) (gd gk_83 7 rfl) rfl rfl rfl rfl (fun I_1 hI_1 => ?_)
  refine gs_iload_n (pc := 16) (gd gk_83 8 rfl) rfl ?_
  -- end 1: ireturn v1_1, pc 17, locals [(0, .ref (3)), (1, .int (v1_1))]
  exact gs_iret (pc := 17) (gd gk_83 9 rfl) rfl (rfl) (Nat.zero_le _) (Nat.zero_le _) (⟨I_1, rfl, by rw [hv1_1], hI_1⟩)
theorem m_unsee : gw_E V 148 (0, [(0, .ref 126)], [], gS n I J, 0, 0) (fun v w' => ∃ I2, w' = gS n I2 J ∧ v = some (.int (I 126 25)) ∧ I2 = gw_u I 126 25 0) := by
  refine gs_aload_n (pc := 0) (gd gk_148 0 rfl) rfl ?_
  refine gs_getI (pc := 1) (gd gk_148 1 rfl) rfl rfl ?_
  refine gs_istore_n (ls2 := fun v => [(0, .ref (126)), (1, .int (v))]) (pc := 4) (gd gk_148 2 rfl) (by rw [gL_148]; decide) (fun _ => rfl) (fun v1_1 hv1_1 => ?_)
  refine gs_aload_n (pc := 5) (gd gk_148 3 rfl) rfl ?_
  refine gs_iconst (pc := 6) (gd gk_148 4 rfl) (0) rfl ?_
  refine gs_putI (pc := 7) (gd gk_148 5 rfl) rfl rfl rfl rfl (fun I_1 hI_1 => ?_)
  refine gs_iload_n (pc := 10) (gd gk_148 6 rfl) rfl ?_
  -- end 1: ireturn v1_1, pc 11, locals [(0, .ref (126)), (1, .int (v1_1))]
  exact gs_iret (pc := 11) (gd gk_148 7 rfl) rfl (rfl) (Nat.zero_le _) (Nat.zero_le _) (⟨I_1, rfl, by rw [hv1_1], hI_1⟩)
theorem gz_bn (b : Bool) : vp_nar .boolean (gz_b b) = gz_b b := by cases b <;> rfl
/-- one more sight -/
abbrev gz_sg (I : Nat → Nat → Int32) (a b c d e sz : Nat) (x h : Int32) (y : Bool) : Nat → Nat → Int32 := gw_u (gw_u (gw_u (gw_u I a sz x) b sz h) c sz (gz_b y)) d e (Int32.ofNat (sz + 1))
theorem c_sadd (x h : Int32) (y : Bool) (sz : Nat) (hz : I 53 3 = Int32.ofNat sz) (h6 : sz ≤ 6) : gw_E V 24 (0, [(0, .ref 53), (1, .int x), (2, .int h), (3, .int (gz_b y))], [], gS n I J, 0, 0) (fun v w' => ∃ I2, w' = gS n I2 J ∧ v = some (.int (gz_b (decide (sz < 6)))) ∧ I2 = if sz < 6 then gz_sg I 54 55 56 53 3 sz x h y else I) := by
  refine gs_aload_n (pc := 0) (gd gk_24 0 rfl) rfl ?_
  refine gs_getI (pc := 1) (gd gk_24 1 rfl) rfl rfl ?_
  refine gs_as (Int32.ofNat sz) (hz) ?_
  refine gs_bipush (pc := 4) (gd gk_24 2 rfl) (6) rfl ?_
  refine gs_icmp_lt (pc := 6) (gd gk_24 3 rfl) (fun c6 => ?_) (fun c6 => ?_)
  · replace c6 : sz < 6 := (zlt (k := sz) (m := 6) (by omega) (by omega)).mp c6
    refine gs_aload_n (pc := 11) (gd gk_24 6 rfl) rfl ?_
    refine gs_getR (r := 54) (pc := 12) (gd gk_24 7 rfl) rfl rfl rfl (by decide) ?_
    refine gs_aload_n (pc := 15) (gd gk_24 8 rfl) rfl ?_
    refine gs_getI (pc := 16) (gd gk_24 9 rfl) rfl rfl ?_
    refine gs_as (Int32.ofNat sz) (hz) ?_
    refine gs_iload_n (pc := 19) (gd gk_24 10 rfl) rfl ?_
    refine gs_iastoreK (sz) (6) gs_sl (pc := 20) (gd gk_24 11 rfl) rfl rfl (by decide) (by first | rfl | (simp only [Int32.ofNat_add, Int32.ofNat_mul]; rfl) | (simp only [Int32.ofNat_add, Int32.ofNat_mul])) (by omega) (fun I_1 hI_1 => ?_)
    refine gs_aload_n (pc := 21) (gd gk_24 12 rfl) rfl ?_
    refine gs_getR (r := 55) (pc := 22) (gd gk_24 13 rfl) rfl rfl rfl (by decide) ?_
    refine gs_aload_n (pc := 25) (gd gk_24 14 rfl) rfl ?_
    refine gs_getI (pc := 26) (gd gk_24 15 rfl) rfl rfl ?_
    refine gs_as (Int32.ofNat sz) (by rw [hI_1, gw_u_o (by omega)]; exact hz) ?_
    refine gs_iload_n (pc := 29) (gd gk_24 16 rfl) rfl ?_
    refine gs_iastoreK (sz) (6) gs_sl (pc := 30) (gd gk_24 17 rfl) rfl rfl (by decide) (by first | rfl | (simp only [Int32.ofNat_add, Int32.ofNat_mul]; rfl) | (simp only [Int32.ofNat_add, Int32.ofNat_mul])) (by omega) (fun I_2 hI_2 => ?_)
    refine gs_aload_n (pc := 31) (gd gk_24 18 rfl) rfl ?_
    refine gs_getR (r := 56) (pc := 32) (gd gk_24 19 rfl) rfl rfl rfl (by decide) ?_
    refine gs_aload_n (pc := 35) (gd gk_24 20 rfl) rfl ?_
    refine gs_getI (pc := 36) (gd gk_24 21 rfl) rfl rfl ?_
    refine gs_as (Int32.ofNat sz) (by rw [hI_2, gw_u_o (by omega), hI_1, gw_u_o (by omega)]; exact hz) ?_
    refine gs_iload_n (pc := 39) (gd gk_24 22 rfl) rfl ?_
    refine gs_bastoreK (sz) (6) gs_sl (pc := 40) (gd gk_24 23 rfl) rfl rfl (by decide) (by first | rfl | (simp only [Int32.ofNat_add, Int32.ofNat_mul]; rfl) | (simp only [Int32.ofNat_add, Int32.ofNat_mul])) (by omega) (fun I_3 hI_3 => ?_)
    refine gs_aload_n (pc := 41) (gd gk_24 24 rfl) rfl ?_
    refine gs_dup (pc := 42) (gd gk_24 25 rfl) rfl ?_
    refine gs_getI (pc := 43) (gd gk_24 26 rfl) rfl rfl ?_
    refine gs_as (Int32.ofNat sz) (by rw [hI_3, gw_u_o (by omega), hI_2, gw_u_o (by omega), hI_1, gw_u_o (by omega)]; exact hz) ?_
    refine gs_iconst (pc := 46) (gd gk_24 27 rfl) (1) rfl ?_
    refine gs_iadd (pc := 47) (gd gk_24 28 rfl) ?_
    refine gs_putI (pc := 48) (gd gk_24 29 rfl) rfl rfl rfl rfl (fun I_4 hI_4 => ?_)
    refine gs_iconst (pc := 51) (gd gk_24 30 rfl) (1) rfl ?_
    -- end 1: ireturn 1, pc 52, locals [(0, .ref (53)), (1, .int (x)), (2, .int (h)), (3, .int (gz_b y))]
    exact gs_iret (pc := 52) (gd gk_24 31 rfl) rfl (rfl) (Nat.zero_le _) (Nat.zero_le _) (⟨I_4, rfl, by rw [decide_eq_true c6]; rfl, by rw [if_pos c6, hI_4, hI_3, hI_2, hI_1, gz_bn, gz_sg, zsucc]⟩)
  · replace c6 : ¬ (sz < 6) := fun q9 => c6 ((zlt (k := sz) (m := 6) (by omega) (by omega)).mpr q9)
    refine gs_iconst (pc := 9) (gd gk_24 4 rfl) (0) rfl ?_
    -- end 2: ireturn 0, pc 10, locals [(0, .ref (53)), (1, .int (x)), (2, .int (h)), (3, .int (gz_b y))]
    exact gs_iret (pc := 10) (gd gk_24 5 rfl) rfl (rfl) (Nat.zero_le _) (Nat.zero_le _) (⟨I, rfl, by rw [decide_eq_false c6]; rfl, by rw [if_neg c6]⟩)
theorem c_see (x h : Int32) (y : Bool) (sz : Nat) (hz : I 53 3 = Int32.ofNat sz) (h6 : sz ≤ 6) (hN : I 6 4 = Int32.ofNat N) : gw_E V 82 (0, [(0, .ref 3), (1, .int x), (2, .int h), (3, .int (gz_b y))], [], gS n I J, 0, 0) (fun v w' => ∃ I2, w' = gS n I2 J ∧ if gz_lt x N then (if gz_lt h 8 then (if sz < 6 then v = some (.int (Int32.ofNat (sz + 1))) ∧ I2 = gz_sg I 54 55 56 53 3 sz x h y else v = some (.int (-4)) ∧ I2 = I) else v = some (.int (-2)) ∧ I2 = I) else v = some (.int (-1)) ∧ I2 = I) := by
  refine gs_aload_n (pc := 0) (gd gk_82 0 rfl) rfl ?_
  refine gs_getR (r := 6) (pc := 1) (gd gk_82 1 rfl) rfl rfl rfl (by decide) ?_
  refine gs_iload_n (pc := 4) (gd gk_82 2 rfl) rfl ?_
  refine gs_callV (as := [.int (x)]) (pc := 5) (gd gk_82 3 rfl) (by decide) rfl (by decide) rfl rfl (Nat.le_of_ble_eq_true rfl) gq_82_34 (Nat.le_of_ble_eq_true rfl) (c_hasNose x hN) (fun r_5 w_5 q_5 => ?_)
  obtain ⟨rfl, rfl⟩ := q_5
  refine gs_if_ne (pc := 8) (gd gk_82 4 rfl) (fun c8 => ?_) (fun c8 => ?_)
  · refine gs_iload_n (pc := 13) (gd gk_82 7 rfl) rfl ?_
    refine gs_if_lt (pc := 14) (gd gk_82 8 rfl) (fun c14 => ?_) (fun c14 => ?_)
    · refine gs_bipush (pc := 23) (gd gk_82 12 rfl) (-2) rfl ?_
      -- end 1: ireturn (-2), pc 25, locals [(0, .ref (3)), (1, .int (x)), (2, .int (h)), (3, .int (gz_b y))]
      have hh : ¬ gz_lt h 8 = true := fun q => absurd c14 (Int32.not_lt.mpr (of_decide_eq_true q).1)
      exact gs_iret (pc := 25) (gd gk_82 13 rfl) rfl (rfl) (Nat.zero_le _) (Nat.zero_le _) (⟨I, rfl, by rw [if_pos (gz_b_ne.mp c8), if_neg hh]; exact ⟨rfl, rfl⟩⟩)
    · refine gs_iload_n (pc := 17) (gd gk_82 9 rfl) rfl ?_
      refine gs_bipush (pc := 18) (gd gk_82 10 rfl) (8) rfl ?_
      refine gs_icmp_lt (pc := 20) (gd gk_82 11 rfl) (fun c20 => ?_) (fun c20 => ?_)
      · refine gs_aload_n (pc := 26) (gd gk_82 14 rfl) rfl ?_
        refine gs_getR (r := 53) (pc := 27) (gd gk_82 15 rfl) rfl rfl rfl (by decide) ?_
        refine gs_iload_n (pc := 30) (gd gk_82 16 rfl) rfl ?_
        refine gs_iload_n (pc := 31) (gd gk_82 17 rfl) rfl ?_
        refine gs_iload_n (pc := 32) (gd gk_82 18 rfl) rfl ?_
        refine gs_callV (as := [.int (x), .int (h), .int (gz_b y)]) (pc := 33) (gd gk_82 19 rfl) (by decide) rfl (by decide) rfl rfl (Nat.le_of_ble_eq_true rfl) gq_82_24 (Nat.le_of_ble_eq_true rfl) (c_sadd x h y sz hz h6) (fun r_33 w_33 q_33 => ?_)
        obtain ⟨I_a, rfl, rfl, a1⟩ := q_33
        refine gs_if_eq (pc := 36) (gd gk_82 20 rfl) (fun c36 => ?_) (fun c36 => ?_)
        · refine gs_bipush (pc := 49) (gd gk_82 25 rfl) (-4) rfl ?_
          -- end 2: ireturn (-4), pc 51, locals [(0, .ref (3)), (1, .int (x)), (2, .int (h)), (3, .int (gz_b y))]
          have hh : gz_lt h 8 = true := decide_eq_true ⟨Int32.not_lt.mp c14, c20⟩
          have hs := of_decide_eq_false (gz_b_eq.mp c36)
          rw [if_neg hs] at a1
          exact gs_iret (pc := 51) (gd gk_82 26 rfl) rfl (rfl) (Nat.zero_le _) (Nat.zero_le _) (⟨I_a, rfl, by rw [if_pos (gz_b_ne.mp c8), if_pos hh, if_neg hs]; exact ⟨rfl, a1⟩⟩)
        · refine gs_aload_n (pc := 39) (gd gk_82 21 rfl) rfl ?_
          refine gs_getR (r := 53) (pc := 40) (gd gk_82 22 rfl) rfl rfl rfl (by decide) ?_
          refine gs_getI (pc := 43) (gd gk_82 23 rfl) rfl rfl ?_
          refine gs_goto (pc := 46) (gd gk_82 24 rfl) ?_
          -- end 3: ireturn (I_a 53 3), pc 51, locals [(0, .ref (3)), (1, .int (x)), (2, .int (h)), (3, .int (gz_b y))]
          have hh : gz_lt h 8 = true := decide_eq_true ⟨Int32.not_lt.mp c14, c20⟩
          have hs := of_decide_eq_true (gz_b_ne.mp c36)
          rw [if_pos hs] at a1
          exact gs_iret (pc := 51) (gd gk_82 26 rfl) rfl (rfl) (Nat.zero_le _) (Nat.zero_le _) (⟨I_a, rfl, by rw [if_pos (gz_b_ne.mp c8), if_pos hh, if_pos hs]; exact ⟨by rw [a1, gz_sg, gw_u_s]; simp [upd], a1⟩⟩)
      · refine gs_bipush (pc := 23) (gd gk_82 12 rfl) (-2) rfl ?_
        -- end 4: ireturn (-2), pc 25, locals [(0, .ref (3)), (1, .int (x)), (2, .int (h)), (3, .int (gz_b y))]
        have hh : ¬ gz_lt h 8 = true := fun q => absurd (of_decide_eq_true q).2 c20
        exact gs_iret (pc := 25) (gd gk_82 13 rfl) rfl (rfl) (Nat.zero_le _) (Nat.zero_le _) (⟨I, rfl, by rw [if_pos (gz_b_ne.mp c8), if_neg hh]; exact ⟨rfl, rfl⟩⟩)
  · refine gs_iconst (pc := 11) (gd gk_82 5 rfl) (-1) rfl ?_
    -- end 5: ireturn (-1), pc 12, locals [(0, .ref (3)), (1, .int (x)), (2, .int (h)), (3, .int (gz_b y))]
    exact gs_iret (pc := 12) (gd gk_82 6 rfl) rfl (rfl) (Nat.zero_le _) (Nat.zero_le _) (⟨I, rfl, by rw [if_neg (by rw [gz_b_eq.mp c8]; decide)]; exact ⟨rfl, rfl⟩⟩)
theorem m_see (x h : Int32) (y : Bool) (sz : Nat) (hz : I 126 25 = Int32.ofNat sz) (h6 : sz ≤ 6) (hN : I 126 4 = Int32.ofNat N) (hN6 : N ≤ 6) : gw_E V 147 (0, [(0, .ref 126), (1, .int x), (2, .int h), (3, .int (gz_b y))], [], gS n I J, 0, 0) (fun v w' => ∃ I2, w' = gS n I2 J ∧ if gz_lt x N then (if gz_lt h 8 then (if sz < 6 then v = some (.int (Int32.ofNat (sz + 1))) ∧ I2 = gz_sg I 138 139 140 126 25 sz x h y else v = some (.int (-4)) ∧ I2 = I) else v = some (.int (-2)) ∧ I2 = I) else v = some (.int (-1)) ∧ I2 = I) := by
  have h7 : gz_rg h 0 7 = gz_lt h 8 := gz_rg_lt h 8 (by omega)
  refine gs_aload_n (pc := 0) (gd gk_147 0 rfl) rfl ?_
  refine gs_iload_n (pc := 1) (gd gk_147 1 rfl) rfl ?_
  refine gs_callV (as := [.int (x)]) (pc := 2) (gd gk_147 2 rfl) (by decide) rfl (by decide) rfl rfl (Nat.le_of_ble_eq_true rfl) gq_147_118 (Nat.le_of_ble_eq_true rfl) (m_isNose x hN hN6) (fun r_2 w_2 q_2 => ?_)
  obtain ⟨rfl, rfl⟩ := q_2
  refine gs_if_ne (pc := 5) (gd gk_147 3 rfl) (fun c5 => ?_) (fun c5 => ?_)
  · refine gs_iload_n (pc := 10) (gd gk_147 6 rfl) rfl ?_
    refine gs_i2l (pc := 11) (gd gk_147 7 rfl) ?_
    refine gs_lconst (pc := 12) (gd gk_147 8 rfl) (0) rfl ?_
    refine gs_ldc2_w (pc := 13) (gd gk_147 9 rfl) (7) rfl ?_
    refine gs_callS (as := [.long ((h : Int32).toInt64), .long (0), .long (7)]) (pc := 16) (gd gk_147 10 rfl) (by decide) rfl rfl (Nat.le_of_ble_eq_true rfl) gq_147_107 (Nat.le_of_ble_eq_true rfl) (c_mrg (h) (0) (7)) (fun r_16 w_16 q_16 => ?_)
    obtain ⟨rfl, rfl⟩ := q_16
    refine gs_if_ne (pc := 19) (gd gk_147 11 rfl) (fun c19 => ?_) (fun c19 => ?_)
    · refine gs_aload_n (pc := 25) (gd gk_147 14 rfl) rfl ?_
      refine gs_getI (pc := 26) (gd gk_147 15 rfl) rfl rfl ?_
      refine gs_as (Int32.ofNat sz) (hz) ?_
      refine gs_bipush (pc := 29) (gd gk_147 16 rfl) (6) rfl ?_
      refine gs_icmp_ne (pc := 31) (gd gk_147 17 rfl) (fun c31 => ?_) (fun c31 => ?_)
      · replace c31 : ¬ (sz = 6) := fun q9 => c31 ((zeq (k := sz) (m := 6) (by omega) (by omega)).mpr q9)
        refine gs_aload_n (pc := 37) (gd gk_147 20 rfl) rfl ?_
        refine gs_getR (r := 138) (pc := 38) (gd gk_147 21 rfl) rfl rfl rfl (by decide) ?_
        refine gs_aload_n (pc := 41) (gd gk_147 22 rfl) rfl ?_
        refine gs_getI (pc := 42) (gd gk_147 23 rfl) rfl rfl ?_
        refine gs_as (Int32.ofNat sz) (hz) ?_
        refine gs_iload_n (pc := 45) (gd gk_147 24 rfl) rfl ?_
        refine gs_iastoreK (sz) (6) gs_sl (pc := 46) (gd gk_147 25 rfl) rfl rfl (by decide) (by first | rfl | (simp only [Int32.ofNat_add, Int32.ofNat_mul]; rfl) | (simp only [Int32.ofNat_add, Int32.ofNat_mul])) (by omega) (fun I_1 hI_1 => ?_)
        refine gs_aload_n (pc := 47) (gd gk_147 26 rfl) rfl ?_
        refine gs_getR (r := 139) (pc := 48) (gd gk_147 27 rfl) rfl rfl rfl (by decide) ?_
        refine gs_aload_n (pc := 51) (gd gk_147 28 rfl) rfl ?_
        refine gs_getI (pc := 52) (gd gk_147 29 rfl) rfl rfl ?_
        refine gs_as (Int32.ofNat sz) (by rw [hI_1, gw_u_o (by omega)]; exact hz) ?_
        refine gs_iload_n (pc := 55) (gd gk_147 30 rfl) rfl ?_
        refine gs_iastoreK (sz) (6) gs_sl (pc := 56) (gd gk_147 31 rfl) rfl rfl (by decide) (by first | rfl | (simp only [Int32.ofNat_add, Int32.ofNat_mul]; rfl) | (simp only [Int32.ofNat_add, Int32.ofNat_mul])) (by omega) (fun I_2 hI_2 => ?_)
        refine gs_aload_n (pc := 57) (gd gk_147 32 rfl) rfl ?_
        refine gs_getR (r := 140) (pc := 58) (gd gk_147 33 rfl) rfl rfl rfl (by decide) ?_
        refine gs_aload_n (pc := 61) (gd gk_147 34 rfl) rfl ?_
        refine gs_getI (pc := 62) (gd gk_147 35 rfl) rfl rfl ?_
        refine gs_as (Int32.ofNat sz) (by rw [hI_2, gw_u_o (by omega), hI_1, gw_u_o (by omega)]; exact hz) ?_
        refine gs_iload_n (pc := 65) (gd gk_147 36 rfl) rfl ?_
        refine gs_bastoreK (sz) (6) gs_sl (pc := 66) (gd gk_147 37 rfl) rfl rfl (by decide) (by first | rfl | (simp only [Int32.ofNat_add, Int32.ofNat_mul]; rfl) | (simp only [Int32.ofNat_add, Int32.ofNat_mul])) (by omega) (fun I_3 hI_3 => ?_)
        refine gs_aload_n (pc := 67) (gd gk_147 38 rfl) rfl ?_
        refine gs_dup (pc := 68) (gd gk_147 39 rfl) rfl ?_
        refine gs_getI (pc := 69) (gd gk_147 40 rfl) rfl rfl ?_
        refine gs_as (Int32.ofNat sz) (by rw [hI_3, gw_u_o (by omega), hI_2, gw_u_o (by omega), hI_1, gw_u_o (by omega)]; exact hz) ?_
        refine gs_iconst (pc := 72) (gd gk_147 41 rfl) (1) rfl ?_
        refine gs_iadd (pc := 73) (gd gk_147 42 rfl) ?_
        refine gs_putI (pc := 74) (gd gk_147 43 rfl) rfl rfl rfl rfl (fun I_4 hI_4 => ?_)
        refine gs_aload_n (pc := 77) (gd gk_147 44 rfl) rfl ?_
        refine gs_getI (pc := 78) (gd gk_147 45 rfl) rfl rfl ?_
        -- end 1: ireturn (I_4 126 25), pc 81, locals [(0, .ref (126)), (1, .int (x)), (2, .int (h)), (3, .int (gz_b y))]
        have hh : gz_lt h 8 = true := by rw [← h7]; exact gz_b_ne.mp c19
        have hs : sz < 6 := by omega
        have a1 : I_4 = gz_sg I 138 139 140 126 25 sz x h y := by rw [hI_4, hI_3, hI_2, hI_1, gz_bn, gz_sg, zsucc]
        exact gs_iret (pc := 81) (gd gk_147 46 rfl) rfl (rfl) (Nat.zero_le _) (Nat.zero_le _) (⟨I_4, rfl, by rw [if_pos (gz_b_ne.mp c5), if_pos hh, if_pos hs]; exact ⟨by rw [a1, gz_sg, gw_u_s]; simp [upd], a1⟩⟩)
      · replace c31 : sz = 6 := (zeq (k := sz) (m := 6) (by omega) (by omega)).mp c31
        refine gs_bipush (pc := 34) (gd gk_147 18 rfl) (-4) rfl ?_
        -- end 2: ireturn (-4), pc 36, locals [(0, .ref (126)), (1, .int (x)), (2, .int (h)), (3, .int (gz_b y))]
        have hh : gz_lt h 8 = true := by rw [← h7]; exact gz_b_ne.mp c19
        exact gs_iret (pc := 36) (gd gk_147 19 rfl) rfl (rfl) (Nat.zero_le _) (Nat.zero_le _) (⟨I, rfl, by rw [if_pos (gz_b_ne.mp c5), if_pos hh, if_neg (by omega)]; exact ⟨rfl, rfl⟩⟩)
    · refine gs_bipush (pc := 22) (gd gk_147 12 rfl) (-2) rfl ?_
      -- end 3: ireturn (-2), pc 24, locals [(0, .ref (126)), (1, .int (x)), (2, .int (h)), (3, .int (gz_b y))]
      have hh : ¬ gz_lt h 8 = true := by rw [← h7, gz_b_eq.mp c19]; decide
      exact gs_iret (pc := 24) (gd gk_147 13 rfl) rfl (rfl) (Nat.zero_le _) (Nat.zero_le _) (⟨I, rfl, by rw [if_pos (gz_b_ne.mp c5), if_neg hh]; exact ⟨rfl, rfl⟩⟩)
  · refine gs_iconst (pc := 8) (gd gk_147 4 rfl) (-1) rfl ?_
    -- end 4: ireturn (-1), pc 9, locals [(0, .ref (126)), (1, .int (x)), (2, .int (h)), (3, .int (gz_b y))]
    exact gs_iret (pc := 9) (gd gk_147 5 rfl) rfl (rfl) (Nat.zero_le _) (Nat.zero_le _) (⟨I, rfl, by rw [if_neg (by rw [gz_b_eq.mp c5]; decide)]; exact ⟨rfl, rfl⟩⟩)
end
