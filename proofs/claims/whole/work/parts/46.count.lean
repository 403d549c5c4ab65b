/-! ===== count: both ===== -/
section
variable {V : gw_V} {n W N h0 L bc : Nat} {I : Nat → Nat → Int32} {J : Nat → Nat → Int64}
def gz_ct (l : List Int32) (u : Int32) : Int32 := if gz_rg u 0 10 then l.getD u.toNatClampNeg 0 else -2
theorem gz_out {u : Int32} (h : ¬ gz_rg u 0 10 = true) : u.toInt < 0 ∨ 10 < u.toInt := by
  have h2 : ¬ (0 ≤ u ∧ u ≤ 10) := fun q => h (gz_rg_t.mpr q)
  rw [Int32.le_iff_toInt_le, Int32.le_iff_toInt_le] at h2
  have z0 : (0 : Int32).toInt = 0 := rfl
  have z1 : (10 : Int32).toInt = 10 := rfl
  omega
theorem c_count (u : Int32) (hok : gq_ok (gz_S I) W N) : gw_E V 92 (0, [(0, .ref 3), (1, .int u)], [], gS n I J, 0, 0) (fun v w' => v = some (.int (gz_ct [I 4 1, I 6 3, I 6 4, I 6 0, I 6 1, I 6 2, I 12 3, I 12 1, gq_who (gz_S I) (I 13) N, I 16 2, I 53 3] u)) ∧ w' = gS n I J) := by
  refine gs_iload_n (pc := 0) (gd gk_92 0 rfl) rfl ?_
  by_cases hr : gz_rg u 0 10 = true
  · obtain ⟨c, hc, rfl⟩ := gz_nat (b := 10) hr (by omega)
    rcases (by omega : c = 0 ∨ c = 1 ∨ c = 2 ∨ c = 3 ∨ c = 4 ∨ c = 5 ∨ c = 6 ∨ c = 7 ∨ c = 8 ∨ c = 9 ∨ c = 10) with rfl | rfl | rfl | rfl | rfl | rfl | rfl | rfl | rfl | rfl | rfl
    · refine gs_tblIn (off := 59) (pc := 1) 60 (gd gk_92 1 rfl) (by decide) (by decide) rfl (by decide) ?_
      refine gs_aload_n (pc := 60) (gd gk_92 2 rfl) rfl ?_
      refine gs_getR (r := 4) (pc := 61) (gd gk_92 3 rfl) rfl rfl rfl (by decide) ?_
      refine gs_getI (pc := 64) (gd gk_92 4 rfl) rfl rfl ?_
      -- end 1: ireturn (I 4 1), pc 67, locals [(0, .ref (3)), (1, .int (Int32.ofNat 0))]
      exact gs_iret (pc := 67) (gd gk_92 5 rfl) rfl (rfl) (Nat.zero_le _) (Nat.zero_le _) (⟨rfl, rfl⟩)
    · refine gs_tblIn (off := 67) (pc := 1) 68 (gd gk_92 1 rfl) (by decide) (by decide) rfl (by decide) ?_
      refine gs_aload_n (pc := 68) (gd gk_92 6 rfl) rfl ?_
      refine gs_getR (r := 6) (pc := 69) (gd gk_92 7 rfl) rfl rfl rfl (by decide) ?_
      refine gs_getI (pc := 72) (gd gk_92 8 rfl) rfl rfl ?_
      -- end 1: ireturn (I 6 3), pc 75, locals [(0, .ref (3)), (1, .int (Int32.ofNat 1))]
      exact gs_iret (pc := 75) (gd gk_92 9 rfl) rfl (rfl) (Nat.zero_le _) (Nat.zero_le _) (⟨rfl, rfl⟩)
    · refine gs_tblIn (off := 75) (pc := 1) 76 (gd gk_92 1 rfl) (by decide) (by decide) rfl (by decide) ?_
      refine gs_aload_n (pc := 76) (gd gk_92 10 rfl) rfl ?_
      refine gs_getR (r := 6) (pc := 77) (gd gk_92 11 rfl) rfl rfl rfl (by decide) ?_
      refine gs_getI (pc := 80) (gd gk_92 12 rfl) rfl rfl ?_
      -- end 1: ireturn (I 6 4), pc 83, locals [(0, .ref (3)), (1, .int (Int32.ofNat 2))]
      exact gs_iret (pc := 83) (gd gk_92 13 rfl) rfl (rfl) (Nat.zero_le _) (Nat.zero_le _) (⟨rfl, rfl⟩)
    · refine gs_tblIn (off := 83) (pc := 1) 84 (gd gk_92 1 rfl) (by decide) (by decide) rfl (by decide) ?_
      refine gs_aload_n (pc := 84) (gd gk_92 14 rfl) rfl ?_
      refine gs_getR (r := 6) (pc := 85) (gd gk_92 15 rfl) rfl rfl rfl (by decide) ?_
      refine gs_getI (pc := 88) (gd gk_92 16 rfl) rfl rfl ?_
      -- end 1: ireturn (I 6 0), pc 91, locals [(0, .ref (3)), (1, .int (Int32.ofNat 3))]
      exact gs_iret (pc := 91) (gd gk_92 17 rfl) rfl (rfl) (Nat.zero_le _) (Nat.zero_le _) (⟨rfl, rfl⟩)
    · refine gs_tblIn (off := 91) (pc := 1) 92 (gd gk_92 1 rfl) (by decide) (by decide) rfl (by decide) ?_
      refine gs_aload_n (pc := 92) (gd gk_92 18 rfl) rfl ?_
      refine gs_getR (r := 6) (pc := 93) (gd gk_92 19 rfl) rfl rfl rfl (by decide) ?_
      refine gs_getI (pc := 96) (gd gk_92 20 rfl) rfl rfl ?_
      -- end 1: ireturn (I 6 1), pc 99, locals [(0, .ref (3)), (1, .int (Int32.ofNat 4))]
      exact gs_iret (pc := 99) (gd gk_92 21 rfl) rfl (rfl) (Nat.zero_le _) (Nat.zero_le _) (⟨rfl, rfl⟩)
    · refine gs_tblIn (off := 99) (pc := 1) 100 (gd gk_92 1 rfl) (by decide) (by decide) rfl (by decide) ?_
      refine gs_aload_n (pc := 100) (gd gk_92 22 rfl) rfl ?_
      refine gs_getR (r := 6) (pc := 101) (gd gk_92 23 rfl) rfl rfl rfl (by decide) ?_
      refine gs_getI (pc := 104) (gd gk_92 24 rfl) rfl rfl ?_
      -- end 1: ireturn (I 6 2), pc 107, locals [(0, .ref (3)), (1, .int (Int32.ofNat 5))]
      exact gs_iret (pc := 107) (gd gk_92 25 rfl) rfl (rfl) (Nat.zero_le _) (Nat.zero_le _) (⟨rfl, rfl⟩)
    · refine gs_tblIn (off := 107) (pc := 1) 108 (gd gk_92 1 rfl) (by decide) (by decide) rfl (by decide) ?_
      refine gs_aload_n (pc := 108) (gd gk_92 26 rfl) rfl ?_
      refine gs_getR (r := 12) (pc := 109) (gd gk_92 27 rfl) rfl rfl rfl (by decide) ?_
      refine gs_getI (pc := 112) (gd gk_92 28 rfl) rfl rfl ?_
      -- end 1: ireturn (I 12 3), pc 115, locals [(0, .ref (3)), (1, .int (Int32.ofNat 6))]
      exact gs_iret (pc := 115) (gd gk_92 29 rfl) rfl (rfl) (Nat.zero_le _) (Nat.zero_le _) (⟨rfl, rfl⟩)
    · refine gs_tblIn (off := 115) (pc := 1) 116 (gd gk_92 1 rfl) (by decide) (by decide) rfl (by decide) ?_
      refine gs_aload_n (pc := 116) (gd gk_92 30 rfl) rfl ?_
      refine gs_getR (r := 12) (pc := 117) (gd gk_92 31 rfl) rfl rfl rfl (by decide) ?_
      refine gs_getI (pc := 120) (gd gk_92 32 rfl) rfl rfl ?_
      -- end 1: ireturn (I 12 1), pc 123, locals [(0, .ref (3)), (1, .int (Int32.ofNat 7))]
      exact gs_iret (pc := 123) (gd gk_92 33 rfl) rfl (rfl) (Nat.zero_le _) (Nat.zero_le _) (⟨rfl, rfl⟩)
    · refine gs_tblIn (off := 123) (pc := 1) 124 (gd gk_92 1 rfl) (by decide) (by decide) rfl (by decide) ?_
      refine gs_aload_n (pc := 124) (gd gk_92 34 rfl) rfl ?_
      refine gs_getR (r := 6) (pc := 125) (gd gk_92 35 rfl) rfl rfl rfl (by decide) ?_
      refine gs_aload_n (pc := 128) (gd gk_92 36 rfl) rfl ?_
      refine gs_getR (r := 12) (pc := 129) (gd gk_92 37 rfl) rfl rfl rfl (by decide) ?_
      refine gs_getR (r := 13) (pc := 132) (gd gk_92 38 rfl) rfl rfl rfl (by decide) ?_
      refine gs_callV (as := [.ref (13)]) (pc := 135) (gd gk_92 39 rfl) (by decide) rfl (by decide) rfl rfl (Nat.le_of_ble_eq_true rfl) gq_92_35 (Nat.le_of_ble_eq_true rfl) (c_who 13 rfl rfl hok) (fun r_135 w_135 q_135 => ?_)
      obtain ⟨rfl, rfl⟩ := q_135
      -- end 1: ireturn (gq_who (gz_S I) (I 13) N), pc 138, locals [(0, .ref (3)), (1, .int (Int32.ofNat 8))]
      exact gs_iret (pc := 138) (gd gk_92 40 rfl) rfl (rfl) (Nat.zero_le _) (Nat.zero_le _) (⟨rfl, rfl⟩)
    · refine gs_tblIn (off := 138) (pc := 1) 139 (gd gk_92 1 rfl) (by decide) (by decide) rfl (by decide) ?_
      refine gs_aload_n (pc := 139) (gd gk_92 41 rfl) rfl ?_
      refine gs_getR (r := 16) (pc := 140) (gd gk_92 42 rfl) rfl rfl rfl (by decide) ?_
      refine gs_getI (pc := 143) (gd gk_92 43 rfl) rfl rfl ?_
      -- end 1: ireturn (I 16 2), pc 146, locals [(0, .ref (3)), (1, .int (Int32.ofNat 9))]
      exact gs_iret (pc := 146) (gd gk_92 44 rfl) rfl (rfl) (Nat.zero_le _) (Nat.zero_le _) (⟨rfl, rfl⟩)
    · refine gs_tblIn (off := 146) (pc := 1) 147 (gd gk_92 1 rfl) (by decide) (by decide) rfl (by decide) ?_
      refine gs_aload_n (pc := 147) (gd gk_92 45 rfl) rfl ?_
      refine gs_getR (r := 53) (pc := 148) (gd gk_92 46 rfl) rfl rfl rfl (by decide) ?_
      refine gs_getI (pc := 151) (gd gk_92 47 rfl) rfl rfl ?_
      -- end 1: ireturn (I 53 3), pc 154, locals [(0, .ref (3)), (1, .int (Int32.ofNat 10))]
      exact gs_iret (pc := 154) (gd gk_92 48 rfl) rfl (rfl) (Nat.zero_le _) (Nat.zero_le _) (⟨rfl, rfl⟩)
  · refine gs_tblOut (pc := 1) 155 (gd gk_92 1 rfl) (gz_out hr) (by decide) ?_
    refine gs_bipush (pc := 155) (gd gk_92 49 rfl) (-2) rfl ?_
    -- end 1: ireturn (-2), pc 157, locals [(0, .ref (3)), (1, .int (u))]
    exact gs_iret (pc := 157) (gd gk_92 50 rfl) rfl (rfl) (Nat.zero_le _) (Nat.zero_le _) (⟨by unfold gz_ct; rw [if_neg hr], rfl⟩)
theorem m_count (u : Int32) (hok : gq_ok (gz_M I) W N) : gw_E V 162 (0, [(0, .ref 126), (1, .int u)], [], gS n I J, 0, 0) (fun v w' => v = some (.int (gz_ct [I 126 15, I 126 3, I 126 4, I 126 0, I 126 1, I 126 2, I 133 12, I 133 10, gq_who (gz_M I) (gz_L I 0) N, I 126 19, I 126 25] u)) ∧ w' = gS n I J) := by
  refine gs_iload_n (pc := 0) (gd gk_162 0 rfl) rfl ?_
  by_cases hr : gz_rg u 0 10 = true
  · obtain ⟨c, hc, rfl⟩ := gz_nat (b := 10) hr (by omega)
    rcases (by omega : c = 0 ∨ c = 1 ∨ c = 2 ∨ c = 3 ∨ c = 4 ∨ c = 5 ∨ c = 6 ∨ c = 7 ∨ c = 8 ∨ c = 9 ∨ c = 10) with rfl | rfl | rfl | rfl | rfl | rfl | rfl | rfl | rfl | rfl | rfl
    · refine gs_tblIn (off := 59) (pc := 1) 60 (gd gk_162 1 rfl) (by decide) (by decide) rfl (by decide) ?_
      refine gs_aload_n (pc := 60) (gd gk_162 2 rfl) rfl ?_
      refine gs_getI (pc := 61) (gd gk_162 3 rfl) rfl rfl ?_
      -- end 1: ireturn (I 126 15), pc 64, locals [(0, .ref (126)), (1, .int (Int32.ofNat 0))]
      exact gs_iret (pc := 64) (gd gk_162 4 rfl) rfl (rfl) (Nat.zero_le _) (Nat.zero_le _) (⟨rfl, rfl⟩)
    · refine gs_tblIn (off := 64) (pc := 1) 65 (gd gk_162 1 rfl) (by decide) (by decide) rfl (by decide) ?_
      refine gs_aload_n (pc := 65) (gd gk_162 5 rfl) rfl ?_
      refine gs_getI (pc := 66) (gd gk_162 6 rfl) rfl rfl ?_
      -- end 1: ireturn (I 126 3), pc 69, locals [(0, .ref (126)), (1, .int (Int32.ofNat 1))]
      exact gs_iret (pc := 69) (gd gk_162 7 rfl) rfl (rfl) (Nat.zero_le _) (Nat.zero_le _) (⟨rfl, rfl⟩)
    · refine gs_tblIn (off := 69) (pc := 1) 70 (gd gk_162 1 rfl) (by decide) (by decide) rfl (by decide) ?_
      refine gs_aload_n (pc := 70) (gd gk_162 8 rfl) rfl ?_
      refine gs_getI (pc := 71) (gd gk_162 9 rfl) rfl rfl ?_
      -- end 1: ireturn (I 126 4), pc 74, locals [(0, .ref (126)), (1, .int (Int32.ofNat 2))]
      exact gs_iret (pc := 74) (gd gk_162 10 rfl) rfl (rfl) (Nat.zero_le _) (Nat.zero_le _) (⟨rfl, rfl⟩)
    · refine gs_tblIn (off := 74) (pc := 1) 75 (gd gk_162 1 rfl) (by decide) (by decide) rfl (by decide) ?_
      refine gs_aload_n (pc := 75) (gd gk_162 11 rfl) rfl ?_
      refine gs_getI (pc := 76) (gd gk_162 12 rfl) rfl rfl ?_
      -- end 1: ireturn (I 126 0), pc 79, locals [(0, .ref (126)), (1, .int (Int32.ofNat 3))]
      exact gs_iret (pc := 79) (gd gk_162 13 rfl) rfl (rfl) (Nat.zero_le _) (Nat.zero_le _) (⟨rfl, rfl⟩)
    · refine gs_tblIn (off := 79) (pc := 1) 80 (gd gk_162 1 rfl) (by decide) (by decide) rfl (by decide) ?_
      refine gs_aload_n (pc := 80) (gd gk_162 14 rfl) rfl ?_
      refine gs_getI (pc := 81) (gd gk_162 15 rfl) rfl rfl ?_
      -- end 1: ireturn (I 126 1), pc 84, locals [(0, .ref (126)), (1, .int (Int32.ofNat 4))]
      exact gs_iret (pc := 84) (gd gk_162 16 rfl) rfl (rfl) (Nat.zero_le _) (Nat.zero_le _) (⟨rfl, rfl⟩)
    · refine gs_tblIn (off := 84) (pc := 1) 85 (gd gk_162 1 rfl) (by decide) (by decide) rfl (by decide) ?_
      refine gs_aload_n (pc := 85) (gd gk_162 17 rfl) rfl ?_
      refine gs_getI (pc := 86) (gd gk_162 18 rfl) rfl rfl ?_
      -- end 1: ireturn (I 126 2), pc 89, locals [(0, .ref (126)), (1, .int (Int32.ofNat 5))]
      exact gs_iret (pc := 89) (gd gk_162 19 rfl) rfl (rfl) (Nat.zero_le _) (Nat.zero_le _) (⟨rfl, rfl⟩)
    · refine gs_tblIn (off := 89) (pc := 1) 90 (gd gk_162 1 rfl) (by decide) (by decide) rfl (by decide) ?_
      refine gs_aload_n (pc := 90) (gd gk_162 20 rfl) rfl ?_
      refine gs_getR (r := 133) (pc := 91) (gd gk_162 21 rfl) rfl rfl rfl (by decide) ?_
      refine gs_bipush (pc := 94) (gd gk_162 22 rfl) (12) rfl ?_
      refine gs_ialoadK (12) (52) (pc := 96) (gd gk_162 23 rfl) (Or.inl rfl) rfl (by decide) (by first | rfl | (simp only [Int32.ofNat_add, Int32.ofNat_mul]; rfl) | (simp only [Int32.ofNat_add, Int32.ofNat_mul])) (by omega) ?_
      -- end 1: ireturn (I 133 12), pc 97, locals [(0, .ref (126)), (1, .int (Int32.ofNat 6))]
      exact gs_iret (pc := 97) (gd gk_162 24 rfl) rfl (rfl) (Nat.zero_le _) (Nat.zero_le _) (⟨rfl, rfl⟩)
    · refine gs_tblIn (off := 97) (pc := 1) 98 (gd gk_162 1 rfl) (by decide) (by decide) rfl (by decide) ?_
      refine gs_aload_n (pc := 98) (gd gk_162 25 rfl) rfl ?_
      refine gs_getR (r := 133) (pc := 99) (gd gk_162 26 rfl) rfl rfl rfl (by decide) ?_
      refine gs_bipush (pc := 102) (gd gk_162 27 rfl) (10) rfl ?_
      refine gs_ialoadK (10) (52) (pc := 104) (gd gk_162 28 rfl) (Or.inl rfl) rfl (by decide) (by first | rfl | (simp only [Int32.ofNat_add, Int32.ofNat_mul]; rfl) | (simp only [Int32.ofNat_add, Int32.ofNat_mul])) (by omega) ?_
      -- end 1: ireturn (I 133 10), pc 105, locals [(0, .ref (126)), (1, .int (Int32.ofNat 7))]
      exact gs_iret (pc := 105) (gd gk_162 29 rfl) rfl (rfl) (Nat.zero_le _) (Nat.zero_le _) (⟨rfl, rfl⟩)
    · refine gs_tblIn (off := 105) (pc := 1) 106 (gd gk_162 1 rfl) (by decide) (by decide) rfl (by decide) ?_
      refine gs_aload_n (pc := 106) (gd gk_162 30 rfl) rfl ?_
      refine gs_iconst (pc := 107) (gd gk_162 31 rfl) (0) rfl ?_
      refine gs_callV (as := [.int (0)]) (pc := 108) (gd gk_162 32 rfl) (by decide) rfl (by decide) rfl rfl (Nat.le_of_ble_eq_true rfl) gq_162_122 (Nat.le_of_ble_eq_true rfl) (m_who 0 (by omega) hok) (fun r_108 w_108 q_108 => ?_)
      obtain ⟨rfl, rfl⟩ := q_108
      -- end 1: ireturn (gq_who (gz_M I) (gz_L I 0) N), pc 111, locals [(0, .ref (126)), (1, .int (Int32.ofNat 8))]
      exact gs_iret (pc := 111) (gd gk_162 33 rfl) rfl (rfl) (Nat.zero_le _) (Nat.zero_le _) (⟨rfl, rfl⟩)
    · refine gs_tblIn (off := 111) (pc := 1) 112 (gd gk_162 1 rfl) (by decide) (by decide) rfl (by decide) ?_
      refine gs_aload_n (pc := 112) (gd gk_162 34 rfl) rfl ?_
      refine gs_getI (pc := 113) (gd gk_162 35 rfl) rfl rfl ?_
      -- end 1: ireturn (I 126 19), pc 116, locals [(0, .ref (126)), (1, .int (Int32.ofNat 9))]
      exact gs_iret (pc := 116) (gd gk_162 36 rfl) rfl (rfl) (Nat.zero_le _) (Nat.zero_le _) (⟨rfl, rfl⟩)
    · refine gs_tblIn (off := 116) (pc := 1) 117 (gd gk_162 1 rfl) (by decide) (by decide) rfl (by decide) ?_
      refine gs_aload_n (pc := 117) (gd gk_162 37 rfl) rfl ?_
      refine gs_getI (pc := 118) (gd gk_162 38 rfl) rfl rfl ?_
      -- end 1: ireturn (I 126 25), pc 121, locals [(0, .ref (126)), (1, .int (Int32.ofNat 10))]
      exact gs_iret (pc := 121) (gd gk_162 39 rfl) rfl (rfl) (Nat.zero_le _) (Nat.zero_le _) (⟨rfl, rfl⟩)
  · refine gs_tblOut (pc := 1) 122 (gd gk_162 1 rfl) (gz_out hr) (by decide) ?_
    refine gs_bipush (pc := 122) (gd gk_162 40 rfl) (-2) rfl ?_
    -- end 1: ireturn (-2), pc 124, locals [(0, .ref (126)), (1, .int (u))]
    exact gs_iret (pc := 124) (gd gk_162 41 rfl) rfl (rfl) (Nat.zero_le _) (Nat.zero_le _) (⟨by unfold gz_ct; rw [if_neg hr], rfl⟩)
end
