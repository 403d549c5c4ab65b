/-! ===== nose, of both ===== -/
section
variable {V : gw_V} {n W N h0 L bc : Nat} {I : Nat → Nat → Int32} {J : Nat → Nat → Int64}
/-- the answer of nose -/
def gq_nz (σ : Nat → Nat → Int32) (s : Nat → Int32) (N : Nat) (x u : Int32) : Int32 := if gz_lt x N then (if u = 0 then σ 2 x.toNatClampNeg else if u = 1 then σ 3 x.toNatClampNeg else if u = 2 then σ 4 x.toNatClampNeg else if u = 3 then σ 5 x.toNatClampNeg else if u = 4 then gz_b (gq_has σ s x.toNatClampNeg) else -2) else -1
theorem c_nosep (x u : Int32) (hok : gq_ok (gz_S I) W N) : gw_E V 70 (0, [(0, .ref 3), (1, .int x), (2, .int u)], [], gS n I J, 0, 0) (fun v w' => v = some (.int (gq_nz (gz_S I) (I 13) N x u)) ∧ w' = gS n I J) := by
  have hN : I 6 4 = Int32.ofNat N := hok.2.2.1
  have hN6 : N ≤ 6 := hok.2.2.2.1
  by_cases hr : gz_lt x N = true
  · obtain ⟨c, hc, rfl⟩ := gz_lt_nat hr (by omega)
    have hz : (Int32.ofNat c).toNatClampNeg = c := znn (by omega)
    have sw : gw_E V 70 (14, [(0, .ref 3), (1, .int (Int32.ofNat c)), (2, .int u)], [.int u], gS n I J, 0, 0) (fun v w' => v = some (.int (gq_nz (gz_S I) (I 13) N (Int32.ofNat c) u)) ∧ w' = gS n I J) := by
      by_cases e0 : u = 0
      · subst e0
        refine gs_tblIn (off := 34) (pc := 14) 48 (gd gk_70 8 rfl) (by decide) (by decide) rfl (by decide) ?_
        refine gs_aload_n (pc := 48) (gd gk_70 9 rfl) rfl ?_
        refine gs_getR (r := 6) (pc := 49) (gd gk_70 10 rfl) rfl rfl rfl (by decide) ?_
        refine gs_getR (r := 8) (pc := 52) (gd gk_70 11 rfl) rfl rfl rfl (by decide) ?_
        refine gs_iload_n (pc := 55) (gd gk_70 12 rfl) rfl ?_
        refine gs_ialoadK (c) (6) (pc := 56) (gd gk_70 13 rfl) (Or.inl rfl) rfl (by decide) (by first | rfl | (simp only [Int32.ofNat_add, Int32.ofNat_mul]; rfl) | (simp only [Int32.ofNat_add, Int32.ofNat_mul])) (by omega) ?_
        -- end 1: ireturn (I 8 c), pc 57, locals [(0, .ref (3)), (1, .int (Int32.ofNat c)), (2, .int (0))]
        exact gs_iret (pc := 57) (gd gk_70 14 rfl) rfl (rfl) (Nat.zero_le _) (Nat.zero_le _) (⟨by unfold gq_nz; rw [if_pos hr, hz]; rfl, rfl⟩)
      by_cases e1 : u = 1
      · subst e1
        refine gs_tblIn (off := 44) (pc := 14) 58 (gd gk_70 8 rfl) (by decide) (by decide) rfl (by decide) ?_
        refine gs_aload_n (pc := 58) (gd gk_70 15 rfl) rfl ?_
        refine gs_getR (r := 6) (pc := 59) (gd gk_70 16 rfl) rfl rfl rfl (by decide) ?_
        refine gs_getR (r := 9) (pc := 62) (gd gk_70 17 rfl) rfl rfl rfl (by decide) ?_
        refine gs_iload_n (pc := 65) (gd gk_70 18 rfl) rfl ?_
        refine gs_ialoadK (c) (6) (pc := 66) (gd gk_70 19 rfl) (Or.inl rfl) rfl (by decide) (by first | rfl | (simp only [Int32.ofNat_add, Int32.ofNat_mul]; rfl) | (simp only [Int32.ofNat_add, Int32.ofNat_mul])) (by omega) ?_
        -- end 1: ireturn (I 9 c), pc 67, locals [(0, .ref (3)), (1, .int (Int32.ofNat c)), (2, .int (1))]
        exact gs_iret (pc := 67) (gd gk_70 20 rfl) rfl (rfl) (Nat.zero_le _) (Nat.zero_le _) (⟨by unfold gq_nz; rw [if_pos hr, hz]; rfl, rfl⟩)
      by_cases e2 : u = 2
      · subst e2
        refine gs_tblIn (off := 54) (pc := 14) 68 (gd gk_70 8 rfl) (by decide) (by decide) rfl (by decide) ?_
        refine gs_aload_n (pc := 68) (gd gk_70 21 rfl) rfl ?_
        refine gs_getR (r := 6) (pc := 69) (gd gk_70 22 rfl) rfl rfl rfl (by decide) ?_
        refine gs_getR (r := 10) (pc := 72) (gd gk_70 23 rfl) rfl rfl rfl (by decide) ?_
        refine gs_iload_n (pc := 75) (gd gk_70 24 rfl) rfl ?_
        refine gs_ialoadK (c) (6) (pc := 76) (gd gk_70 25 rfl) (Or.inl rfl) rfl (by decide) (by first | rfl | (simp only [Int32.ofNat_add, Int32.ofNat_mul]; rfl) | (simp only [Int32.ofNat_add, Int32.ofNat_mul])) (by omega) ?_
        -- end 1: ireturn (I 10 c), pc 77, locals [(0, .ref (3)), (1, .int (Int32.ofNat c)), (2, .int (2))]
        exact gs_iret (pc := 77) (gd gk_70 26 rfl) rfl (rfl) (Nat.zero_le _) (Nat.zero_le _) (⟨by unfold gq_nz; rw [if_pos hr, hz]; rfl, rfl⟩)
      by_cases e3 : u = 3
      · subst e3
        refine gs_tblIn (off := 64) (pc := 14) 78 (gd gk_70 8 rfl) (by decide) (by decide) rfl (by decide) ?_
        refine gs_aload_n (pc := 78) (gd gk_70 27 rfl) rfl ?_
        refine gs_getR (r := 6) (pc := 79) (gd gk_70 28 rfl) rfl rfl rfl (by decide) ?_
        refine gs_getR (r := 11) (pc := 82) (gd gk_70 29 rfl) rfl rfl rfl (by decide) ?_
        refine gs_iload_n (pc := 85) (gd gk_70 30 rfl) rfl ?_
        refine gs_ialoadK (c) (6) (pc := 86) (gd gk_70 31 rfl) (Or.inl rfl) rfl (by decide) (by first | rfl | (simp only [Int32.ofNat_add, Int32.ofNat_mul]; rfl) | (simp only [Int32.ofNat_add, Int32.ofNat_mul])) (by omega) ?_
        -- end 1: ireturn (I 11 c), pc 87, locals [(0, .ref (3)), (1, .int (Int32.ofNat c)), (2, .int (3))]
        exact gs_iret (pc := 87) (gd gk_70 32 rfl) rfl (rfl) (Nat.zero_le _) (Nat.zero_le _) (⟨by unfold gq_nz; rw [if_pos hr, hz]; rfl, rfl⟩)
      by_cases e4 : u = 4
      · subst e4
        refine gs_tblIn (off := 74) (pc := 14) 88 (gd gk_70 8 rfl) (by decide) (by decide) rfl (by decide) ?_
        refine gs_aload_n (pc := 88) (gd gk_70 33 rfl) rfl ?_
        refine gs_getR (r := 6) (pc := 89) (gd gk_70 34 rfl) rfl rfl rfl (by decide) ?_
        refine gs_aload_n (pc := 92) (gd gk_70 35 rfl) rfl ?_
        refine gs_getR (r := 12) (pc := 93) (gd gk_70 36 rfl) rfl rfl rfl (by decide) ?_
        refine gs_getR (r := 13) (pc := 96) (gd gk_70 37 rfl) rfl rfl rfl (by decide) ?_
        refine gs_callV (as := [.ref (13)]) (pc := 99) (gd gk_70 38 rfl) (by decide) rfl (by decide) rfl rfl (Nat.le_of_ble_eq_true rfl) gq_70_35 (Nat.le_of_ble_eq_true rfl) (c_who 13 rfl rfl hok) (fun r_99 w_99 q_99 => ?_)
        obtain ⟨rfl, rfl⟩ := q_99
        refine gs_iload_n (pc := 102) (gd gk_70 39 rfl) rfl ?_
        refine gs_callS (as := [.int ((gq_who (gz_S I) (I 13) N)), .int (Int32.ofNat c)]) (pc := 103) (gd gk_70 40 rfl) (by decide) rfl rfl (Nat.le_of_ble_eq_true rfl) gq_70_96 (Nat.le_of_ble_eq_true rfl) (c_in ((gq_who (gz_S I) (I 13) N)) (Int32.ofNat c)) (fun r_103 w_103 q_103 => ?_)
        obtain ⟨rfl, rfl⟩ := q_103
        refine gs_if_eq (pc := 106) (gd gk_70 41 rfl) (fun c106 => ?_) (fun c106 => ?_)
        · refine gs_iconst (pc := 113) (gd gk_70 44 rfl) (0) rfl ?_
          -- end 1: ireturn 0, pc 114, locals [(0, .ref (3)), (1, .int (Int32.ofNat c)), (2, .int (4))]
          have hh : gq_has (gz_S I) (I 13) c = false := by have := gz_b_eq.mp c106; rw [gq_who_bit _ _ (by omega) _ (by omega), decide_eq_true hc, Bool.true_and] at this; exact this
          exact gs_iret (pc := 114) (gd gk_70 45 rfl) rfl (rfl) (Nat.zero_le _) (Nat.zero_le _) (⟨by unfold gq_nz; rw [if_pos hr, hz, hh]; rfl, rfl⟩)
        · refine gs_iconst (pc := 109) (gd gk_70 42 rfl) (1) rfl ?_
          refine gs_goto (pc := 110) (gd gk_70 43 rfl) ?_
          -- end 2: ireturn 1, pc 114, locals [(0, .ref (3)), (1, .int (Int32.ofNat c)), (2, .int (4))]
          have hh : gq_has (gz_S I) (I 13) c = true := by have := gz_b_ne.mp c106; rw [gq_who_bit _ _ (by omega) _ (by omega), decide_eq_true hc, Bool.true_and] at this; exact this
          exact gs_iret (pc := 114) (gd gk_70 45 rfl) rfl (rfl) (Nat.zero_le _) (Nat.zero_le _) (⟨by unfold gq_nz; rw [if_pos hr, hz, hh]; rfl, rfl⟩)
      · refine gs_tblOut (pc := 14) 115 (gd gk_70 8 rfl) ?_ (by decide) ?_
        · have q0 : u.toInt ≠ 0 := fun e => e0 (Int32.toInt_inj.mp e)
          have q1 : u.toInt ≠ 1 := fun e => e1 (Int32.toInt_inj.mp e)
          have q2 : u.toInt ≠ 2 := fun e => e2 (Int32.toInt_inj.mp e)
          have q3 : u.toInt ≠ 3 := fun e => e3 (Int32.toInt_inj.mp e)
          have q4 : u.toInt ≠ 4 := fun e => e4 (Int32.toInt_inj.mp e)
          omega
        refine gs_bipush (pc := 115) (gd gk_70 46 rfl) (-2) rfl ?_
        -- end 1: ireturn (-2), pc 117, locals [(0, .ref (3)), (1, .int (Int32.ofNat c)), (2, .int (u))]
        exact gs_iret (pc := 117) (gd gk_70 47 rfl) rfl (rfl) (Nat.zero_le _) (Nat.zero_le _) (⟨by unfold gq_nz; rw [if_pos hr, if_neg e0, if_neg e1, if_neg e2, if_neg e3, if_neg e4], rfl⟩)
    refine gs_aload_n (pc := 0) (gd gk_70 0 rfl) rfl ?_
    refine gs_getR (r := 6) (pc := 1) (gd gk_70 1 rfl) rfl rfl rfl (by decide) ?_
    refine gs_iload_n (pc := 4) (gd gk_70 2 rfl) rfl ?_
    refine gs_callV (as := [.int (Int32.ofNat c)]) (pc := 5) (gd gk_70 3 rfl) (by decide) rfl (by decide) rfl rfl (Nat.le_of_ble_eq_true rfl) gq_70_34 (Nat.le_of_ble_eq_true rfl) (c_hasNose _ hN) (fun r_5 w_5 q_5 => ?_)
    obtain ⟨rfl, rfl⟩ := q_5
    refine gs_if_ne (pc := 8) (gd gk_70 4 rfl) (fun c8 => ?_) (fun c8 => ?_)
    · refine gs_iload_n (pc := 13) (gd gk_70 7 rfl) rfl ?_
      -- end 1: stop, pc 14, locals [(0, .ref (3)), (1, .int (Int32.ofNat c)), (2, .int (u))]
      exact sw
    · refine gs_iconst (pc := 11) (gd gk_70 5 rfl) (-1) rfl ?_
      -- end 2: ireturn (-1), pc 12, locals [(0, .ref (3)), (1, .int (Int32.ofNat c)), (2, .int (u))]
      exact absurd (gz_b_eq.mp c8) (by rw [hr]; decide)
  · skip
    refine gs_aload_n (pc := 0) (gd gk_70 0 rfl) rfl ?_
    refine gs_getR (r := 6) (pc := 1) (gd gk_70 1 rfl) rfl rfl rfl (by decide) ?_
    refine gs_iload_n (pc := 4) (gd gk_70 2 rfl) rfl ?_
    refine gs_callV (as := [.int (x)]) (pc := 5) (gd gk_70 3 rfl) (by decide) rfl (by decide) rfl rfl (Nat.le_of_ble_eq_true rfl) gq_70_34 (Nat.le_of_ble_eq_true rfl) (c_hasNose _ hN) (fun r_5 w_5 q_5 => ?_)
    obtain ⟨rfl, rfl⟩ := q_5
    refine gs_if_ne (pc := 8) (gd gk_70 4 rfl) (fun c8 => ?_) (fun c8 => ?_)
    · -- end 1: stop, pc 13, locals [(0, .ref (3)), (1, .int (x)), (2, .int (u))]
      exact absurd (gz_b_ne.mp c8) hr
    · refine gs_iconst (pc := 11) (gd gk_70 5 rfl) (-1) rfl ?_
      -- end 2: ireturn (-1), pc 12, locals [(0, .ref (3)), (1, .int (x)), (2, .int (u))]
      exact gs_iret (pc := 12) (gd gk_70 6 rfl) rfl (rfl) (Nat.zero_le _) (Nat.zero_le _) (⟨by unfold gq_nz; rw [if_neg hr], rfl⟩)
theorem m_nosep (x u : Int32) (hok : gq_ok (gz_M I) W N) : gw_E V 123 (0, [(0, .ref 126), (1, .int x), (2, .int u)], [], gS n I J, 0, 0) (fun v w' => v = some (.int (gq_nz (gz_M I) (gz_L I 0) N x u)) ∧ w' = gS n I J) := by
  have hN : I 126 4 = Int32.ofNat N := hok.2.2.1
  have hN6 : N ≤ 6 := hok.2.2.2.1
  by_cases hr : gz_lt x N = true
  · obtain ⟨c, hc, rfl⟩ := gz_lt_nat hr (by omega)
    have hz : (Int32.ofNat c).toNatClampNeg = c := znn (by omega)
    by_cases hu : gz_rg u 0 3 = true
    · obtain ⟨d, hd, rfl⟩ := gz_nat (b := 3) hu (by omega)
      refine gs_aload_n (pc := 0) (gd gk_123 0 rfl) rfl ?_
      refine gs_iload_n (pc := 1) (gd gk_123 1 rfl) rfl ?_
      refine gs_callV (as := [.int (Int32.ofNat c)]) (pc := 2) (gd gk_123 2 rfl) (by decide) rfl (by decide) rfl rfl (Nat.le_of_ble_eq_true rfl) gq_123_118 (Nat.le_of_ble_eq_true rfl) (m_isNose _ hN hN6) (fun r_2 w_2 q_2 => ?_)
      obtain ⟨rfl, rfl⟩ := q_2
      refine gs_if_ne (pc := 5) (gd gk_123 3 rfl) (fun c5 => ?_) (fun c5 => ?_)
      · refine gs_iload_n (pc := 10) (gd gk_123 6 rfl) rfl ?_
        refine gs_i2l (pc := 11) (gd gk_123 7 rfl) ?_
        refine gs_lconst (pc := 12) (gd gk_123 8 rfl) (0) rfl ?_
        refine gs_ldc2_w (pc := 13) (gd gk_123 9 rfl) (3) rfl ?_
        refine gs_callS (as := [.long ((Int32.ofNat d : Int32).toInt64), .long (0), .long (3)]) (pc := 16) (gd gk_123 10 rfl) (by decide) rfl rfl (Nat.le_of_ble_eq_true rfl) gq_123_107 (Nat.le_of_ble_eq_true rfl) (c_mrg (Int32.ofNat d) (0) (3)) (fun r_16 w_16 q_16 => ?_)
        obtain ⟨rfl, rfl⟩ := q_16
        refine gs_if_eq (pc := 19) (gd gk_123 11 rfl) (fun c19 => ?_) (fun c19 => ?_)
        · -- end 1: stop, pc 33, locals [(0, .ref (126)), (1, .int (Int32.ofNat c)), (2, .int (Int32.ofNat d))]
          exact absurd (gz_b_eq.mp c19) (by rw [hu]; decide)
        · refine gs_aload_n (pc := 22) (gd gk_123 12 rfl) rfl ?_
          refine gs_getR (r := 129) (pc := 23) (gd gk_123 13 rfl) rfl rfl rfl (by decide) ?_
          refine gs_iconst (pc := 26) (gd gk_123 14 rfl) (4) rfl ?_
          refine gs_iload_n (pc := 27) (gd gk_123 15 rfl) rfl ?_
          refine gs_imul (pc := 28) (gd gk_123 16 rfl) ?_
          refine gs_iload_n (pc := 29) (gd gk_123 17 rfl) rfl ?_
          refine gs_iadd (pc := 30) (gd gk_123 18 rfl) ?_
          refine gs_ialoadK (((4 * c) + d)) (24) (pc := 31) (gd gk_123 19 rfl) (Or.inl rfl) rfl (by decide) (by first | rfl | (simp only [Int32.ofNat_add, Int32.ofNat_mul]; rfl) | (simp only [Int32.ofNat_add, Int32.ofNat_mul])) (by omega) ?_
          -- end 2: ireturn (I 129 ((4 * c) + d)), pc 32, locals [(0, .ref (126)), (1, .int (Int32.ofNat c)), (2, .int (Int32.ofNat d))]
          exact gs_iret (pc := 32) (gd gk_123 20 rfl) rfl (rfl) (Nat.zero_le _) (Nat.zero_le _) (⟨by
            unfold gq_nz
            rw [if_pos hr, hz]
            rcases (by omega : d = 0 ∨ d = 1 ∨ d = 2 ∨ d = 3) with rfl | rfl | rfl | rfl <;> rfl, rfl⟩)
      · refine gs_iconst (pc := 8) (gd gk_123 4 rfl) (-1) rfl ?_
        -- end 3: ireturn (-1), pc 9, locals [(0, .ref (126)), (1, .int (Int32.ofNat c)), (2, .int (Int32.ofNat d))]
        exact absurd (gz_b_eq.mp c5) (by rw [hr]; decide)
    · skip
      refine gs_aload_n (pc := 0) (gd gk_123 0 rfl) rfl ?_
      refine gs_iload_n (pc := 1) (gd gk_123 1 rfl) rfl ?_
      refine gs_callV (as := [.int (Int32.ofNat c)]) (pc := 2) (gd gk_123 2 rfl) (by decide) rfl (by decide) rfl rfl (Nat.le_of_ble_eq_true rfl) gq_123_118 (Nat.le_of_ble_eq_true rfl) (m_isNose _ hN hN6) (fun r_2 w_2 q_2 => ?_)
      obtain ⟨rfl, rfl⟩ := q_2
      refine gs_if_ne (pc := 5) (gd gk_123 3 rfl) (fun c5 => ?_) (fun c5 => ?_)
      · refine gs_iload_n (pc := 10) (gd gk_123 6 rfl) rfl ?_
        refine gs_i2l (pc := 11) (gd gk_123 7 rfl) ?_
        refine gs_lconst (pc := 12) (gd gk_123 8 rfl) (0) rfl ?_
        refine gs_ldc2_w (pc := 13) (gd gk_123 9 rfl) (3) rfl ?_
        refine gs_callS (as := [.long ((u : Int32).toInt64), .long (0), .long (3)]) (pc := 16) (gd gk_123 10 rfl) (by decide) rfl rfl (Nat.le_of_ble_eq_true rfl) gq_123_107 (Nat.le_of_ble_eq_true rfl) (c_mrg (u) (0) (3)) (fun r_16 w_16 q_16 => ?_)
        obtain ⟨rfl, rfl⟩ := q_16
        refine gs_if_eq (pc := 19) (gd gk_123 11 rfl) (fun c19 => ?_) (fun c19 => ?_)
        · refine gs_iload_n (pc := 33) (gd gk_123 21 rfl) rfl ?_
          refine gs_iconst (pc := 34) (gd gk_123 22 rfl) (4) rfl ?_
          refine gs_icmp_ne (pc := 35) (gd gk_123 23 rfl) (fun c35 => ?_) (fun c35 => ?_)
          · refine gs_bipush (pc := 55) (gd gk_123 33 rfl) (-2) rfl ?_
            -- end 1: ireturn (-2), pc 57, locals [(0, .ref (126)), (1, .int (Int32.ofNat c)), (2, .int (u))]
            have h0 : u ≠ 0 := fun e => hu (by rw [e]; decide)
            have h1 : u ≠ 1 := fun e => hu (by rw [e]; decide)
            have h2 : u ≠ 2 := fun e => hu (by rw [e]; decide)
            have h3 : u ≠ 3 := fun e => hu (by rw [e]; decide)
            exact gs_iret (pc := 57) (gd gk_123 34 rfl) rfl (rfl) (Nat.zero_le _) (Nat.zero_le _) (⟨by unfold gq_nz; rw [if_pos hr, if_neg h0, if_neg h1, if_neg h2, if_neg h3, if_neg c35], rfl⟩)
          · refine gs_aload_n (pc := 38) (gd gk_123 24 rfl) rfl ?_
            refine gs_iconst (pc := 39) (gd gk_123 25 rfl) (0) rfl ?_
            refine gs_iload_n (pc := 40) (gd gk_123 26 rfl) rfl ?_
            refine gs_callV (as := [.int (0), .int (Int32.ofNat c)]) (pc := 41) (gd gk_123 27 rfl) (by decide) rfl (by decide) rfl rfl (Nat.le_of_ble_eq_true rfl) gq_123_121 (Nat.le_of_ble_eq_true rfl) (m_hasIt 0 c (by omega) (by omega) (gq_ok_n hok c hc)) (fun r_41 w_41 q_41 => ?_)
            obtain ⟨rfl, rfl⟩ := q_41
            refine gs_if_eq (pc := 44) (gd gk_123 28 rfl) (fun c44 => ?_) (fun c44 => ?_)
            · refine gs_iconst (pc := 51) (gd gk_123 31 rfl) (0) rfl ?_
              refine gs_goto (pc := 52) (gd gk_123 32 rfl) ?_
              -- end 2: ireturn 0, pc 57, locals [(0, .ref (126)), (1, .int (Int32.ofNat c)), (2, .int (u))]
              have h0 : u ≠ 0 := fun e => hu (by rw [e]; decide)
              have h1 : u ≠ 1 := fun e => hu (by rw [e]; decide)
              have h2 : u ≠ 2 := fun e => hu (by rw [e]; decide)
              have h3 : u ≠ 3 := fun e => hu (by rw [e]; decide)
              exact gs_iret (pc := 57) (gd gk_123 34 rfl) rfl (rfl) (Nat.zero_le _) (Nat.zero_le _) (⟨by unfold gq_nz; rw [if_pos hr, if_neg h0, if_neg h1, if_neg h2, if_neg h3, if_pos c35, hz, gz_b_eq.mp c44]; rfl, rfl⟩)
            · refine gs_iconst (pc := 47) (gd gk_123 29 rfl) (1) rfl ?_
              refine gs_goto (pc := 48) (gd gk_123 30 rfl) ?_
              -- end 3: ireturn 1, pc 57, locals [(0, .ref (126)), (1, .int (Int32.ofNat c)), (2, .int (u))]
              have h0 : u ≠ 0 := fun e => hu (by rw [e]; decide)
              have h1 : u ≠ 1 := fun e => hu (by rw [e]; decide)
              have h2 : u ≠ 2 := fun e => hu (by rw [e]; decide)
              have h3 : u ≠ 3 := fun e => hu (by rw [e]; decide)
              exact gs_iret (pc := 57) (gd gk_123 34 rfl) rfl (rfl) (Nat.zero_le _) (Nat.zero_le _) (⟨by unfold gq_nz; rw [if_pos hr, if_neg h0, if_neg h1, if_neg h2, if_neg h3, if_pos c35, hz, gz_b_ne.mp c44]; rfl, rfl⟩)
        · -- end 4: stop, pc 22, locals [(0, .ref (126)), (1, .int (Int32.ofNat c)), (2, .int (u))]
          exact absurd (gz_b_ne.mp c19) hu
      · refine gs_iconst (pc := 8) (gd gk_123 4 rfl) (-1) rfl ?_
        -- end 5: ireturn (-1), pc 9, locals [(0, .ref (126)), (1, .int (Int32.ofNat c)), (2, .int (u))]
        exact absurd (gz_b_eq.mp c5) (by rw [hr]; decide)
  · skip
    refine gs_aload_n (pc := 0) (gd gk_123 0 rfl) rfl ?_
    refine gs_iload_n (pc := 1) (gd gk_123 1 rfl) rfl ?_
    refine gs_callV (as := [.int (x)]) (pc := 2) (gd gk_123 2 rfl) (by decide) rfl (by decide) rfl rfl (Nat.le_of_ble_eq_true rfl) gq_123_118 (Nat.le_of_ble_eq_true rfl) (m_isNose _ hN hN6) (fun r_2 w_2 q_2 => ?_)
    obtain ⟨rfl, rfl⟩ := q_2
    refine gs_if_ne (pc := 5) (gd gk_123 3 rfl) (fun c5 => ?_) (fun c5 => ?_)
    · -- end 1: stop, pc 10, locals [(0, .ref (126)), (1, .int (x)), (2, .int (u))]
      exact absurd (gz_b_ne.mp c5) hr
    · refine gs_iconst (pc := 8) (gd gk_123 4 rfl) (-1) rfl ?_
      -- end 2: ireturn (-1), pc 9, locals [(0, .ref (126)), (1, .int (x)), (2, .int (u))]
      exact gs_iret (pc := 9) (gd gk_123 5 rfl) rfl (rfl) (Nat.zero_le _) (Nat.zero_le _) (⟨by unfold gq_nz; rw [if_neg hr], rfl⟩)
end
