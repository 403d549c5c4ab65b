/-! ===== the two objects ===== -/
section
variable {V : gw_V} {n : Nat} {I : Nat → Nat → Int32}
theorem k_Bill (hI : gI0 I 4) : gw_E V 63 (0, [(0, .ref 3)], [], (gp n 4, I, gJ0, gG 0), 0, 0) (fun v w' => v = none ∧ w' = (gp n 126, gw_u I 6 1 1, gJ0, gG 11)) := by
  have hI1 : gI0 (gw_u I 6 1 1) 7 := fun p hp => by rw [gw_u_o (by omega)]; exact hI p (by omega)
  refine gs_aload_n (pc := 0) (gd gk_63 0 rfl) rfl ?_
  refine gs_objInit (pc := 1) (gd gk_63 1 rfl) (Nat.le_of_ble_eq_true rfl) (Nat.le_of_ble_eq_true rfl) (Nat.le_of_ble_eq_true rfl) ?_
  refine gs_aload_n (pc := 4) (gd gk_63 2 rfl) rfl ?_
  refine gk_new (sh2 := gp n 5) 4 4 (pc := 5) (gd gk_63 3 rfl) rfl rfl (by decide) (by decide) (Nat.le_of_ble_eq_true rfl) (Nat.le_of_ble_eq_true rfl) hI (by decide) ?_
  refine gs_dup (pc := 8) (gd gk_63 4 rfl) rfl ?_
  refine gs_callI (as := []) (pc := 9) (gd gk_63 5 rfl) (by decide) rfl rfl rfl (Nat.le_of_ble_eq_true rfl) ⟨(Nat.le_of_ble_eq_true rfl), (Nat.le_of_ble_eq_true rfl), (Nat.le_of_ble_eq_true rfl), (Nat.le_of_ble_eq_true rfl)⟩ (Nat.le_of_ble_eq_true rfl) (k_Text (fun p hp => hI p (by omega))) (fun r_0 w_0 q_0 => ?_)
  obtain ⟨rfl, rfl⟩ := q_0
  refine gk_putR (pc := 12) (gd gk_63 6 rfl) rfl rfl ⟨rfl, rfl⟩ (fun _ => rfl) (fun _ => rfl) (by decide) ?_
  rw [(gG_s (t := 0) (v := 4) rfl : gw_uR (gG 0) 3 0 4 = gG 1)]
  refine gs_aload_n (pc := 15) (gd gk_63 7 rfl) rfl ?_
  refine gk_new (sh2 := gp n 7) 6 4 (pc := 16) (gd gk_63 8 rfl) rfl rfl (by decide) (by decide) (Nat.le_of_ble_eq_true rfl) (Nat.le_of_ble_eq_true rfl) hI (by decide) ?_
  refine gs_dup (pc := 19) (gd gk_63 9 rfl) rfl ?_
  refine gs_callI (as := []) (pc := 20) (gd gk_63 10 rfl) (by decide) rfl rfl rfl (Nat.le_of_ble_eq_true rfl) ⟨(Nat.le_of_ble_eq_true rfl), (Nat.le_of_ble_eq_true rfl), (Nat.le_of_ble_eq_true rfl), (Nat.le_of_ble_eq_true rfl)⟩ (Nat.le_of_ble_eq_true rfl) (k_Street (fun p hp => hI p (by omega))) (fun r_1 w_1 q_1 => ?_)
  obtain ⟨rfl, rfl⟩ := q_1
  refine gk_putR (pc := 23) (gd gk_63 11 rfl) rfl rfl ⟨rfl, rfl⟩ (fun _ => rfl) (fun _ => rfl) (by decide) ?_
  rw [(gG_s (t := 1) (v := 6) rfl : gw_uR (gG 1) 3 1 6 = gG 2)]
  refine gs_aload_n (pc := 26) (gd gk_63 12 rfl) rfl ?_
  refine gk_new (sh2 := gp n 13) 12 7 (pc := 27) (gd gk_63 13 rfl) rfl rfl (by decide) (by decide) (Nat.le_of_ble_eq_true rfl) (Nat.le_of_ble_eq_true rfl) hI1 (by decide) ?_
  refine gs_dup (pc := 30) (gd gk_63 14 rfl) rfl ?_
  refine gs_callI (as := []) (pc := 31) (gd gk_63 15 rfl) (by decide) rfl rfl rfl (Nat.le_of_ble_eq_true rfl) ⟨(Nat.le_of_ble_eq_true rfl), (Nat.le_of_ble_eq_true rfl), (Nat.le_of_ble_eq_true rfl), (Nat.le_of_ble_eq_true rfl)⟩ (Nat.le_of_ble_eq_true rfl) (k_Morning 12 rfl rfl (by decide) rfl (fun p hp => hI1 p (by omega))) (fun r_2 w_2 q_2 => ?_)
  obtain ⟨rfl, rfl⟩ := q_2
  refine gk_putR (pc := 34) (gd gk_63 16 rfl) rfl rfl ⟨rfl, rfl⟩ (fun _ => rfl) (fun _ => rfl) (by decide) ?_
  rw [(gG_s (t := 2) (v := 12) rfl : gw_uR (gG 2) 3 2 12 = gG 3)]
  refine gs_aload_n (pc := 37) (gd gk_63 17 rfl) rfl ?_
  refine gk_new (sh2 := gp n 15) 14 7 (pc := 38) (gd gk_63 18 rfl) rfl rfl (by decide) (by decide) (Nat.le_of_ble_eq_true rfl) (Nat.le_of_ble_eq_true rfl) hI1 (by decide) ?_
  refine gs_dup (pc := 41) (gd gk_63 19 rfl) rfl ?_
  refine gs_callI (as := []) (pc := 42) (gd gk_63 20 rfl) (by decide) rfl rfl rfl (Nat.le_of_ble_eq_true rfl) ⟨(Nat.le_of_ble_eq_true rfl), (Nat.le_of_ble_eq_true rfl), (Nat.le_of_ble_eq_true rfl), (Nat.le_of_ble_eq_true rfl)⟩ (Nat.le_of_ble_eq_true rfl) (k_Morning 14 rfl rfl (by decide) rfl (fun p hp => hI1 p (by omega))) (fun r_3 w_3 q_3 => ?_)
  obtain ⟨rfl, rfl⟩ := q_3
  refine gk_putR (pc := 45) (gd gk_63 21 rfl) rfl rfl ⟨rfl, rfl⟩ (fun _ => rfl) (fun _ => rfl) (by decide) ?_
  rw [(gG_s (t := 3) (v := 14) rfl : gw_uR (gG 3) 3 3 14 = gG 4)]
  refine gs_aload_n (pc := 48) (gd gk_63 22 rfl) rfl ?_
  refine gk_new (sh2 := gp n 17) 16 7 (pc := 49) (gd gk_63 23 rfl) rfl rfl (by decide) (by decide) (Nat.le_of_ble_eq_true rfl) (Nat.le_of_ble_eq_true rfl) hI1 (by decide) ?_
  refine gs_dup (pc := 52) (gd gk_63 24 rfl) rfl ?_
  refine gs_callI (as := []) (pc := 53) (gd gk_63 25 rfl) (by decide) rfl rfl rfl (Nat.le_of_ble_eq_true rfl) ⟨(Nat.le_of_ble_eq_true rfl), (Nat.le_of_ble_eq_true rfl), (Nat.le_of_ble_eq_true rfl), (Nat.le_of_ble_eq_true rfl)⟩ (Nat.le_of_ble_eq_true rfl) (k_Acts (fun p hp => hI1 p (by omega))) (fun r_4 w_4 q_4 => ?_)
  obtain ⟨rfl, rfl⟩ := q_4
  refine gk_putR (pc := 56) (gd gk_63 26 rfl) rfl rfl ⟨rfl, rfl⟩ (fun _ => rfl) (fun _ => rfl) (by decide) ?_
  rw [(gG_s (t := 4) (v := 16) rfl : gw_uR (gG 4) 3 4 16 = gG 5)]
  refine gs_aload_n (pc := 59) (gd gk_63 27 rfl) rfl ?_
  refine gk_new (sh2 := gp n 47) 46 7 (pc := 60) (gd gk_63 28 rfl) rfl rfl (by decide) (by decide) (Nat.le_of_ble_eq_true rfl) (Nat.le_of_ble_eq_true rfl) hI1 (by decide) ?_
  refine gs_dup (pc := 63) (gd gk_63 29 rfl) rfl ?_
  refine gs_callI (as := []) (pc := 64) (gd gk_63 30 rfl) (by decide) rfl rfl rfl (Nat.le_of_ble_eq_true rfl) ⟨(Nat.le_of_ble_eq_true rfl), (Nat.le_of_ble_eq_true rfl), (Nat.le_of_ble_eq_true rfl), (Nat.le_of_ble_eq_true rfl)⟩ (Nat.le_of_ble_eq_true rfl) (k_Slots (fun p hp => hI1 p (by omega))) (fun r_5 w_5 q_5 => ?_)
  obtain ⟨rfl, rfl⟩ := q_5
  refine gk_putR (pc := 67) (gd gk_63 31 rfl) rfl rfl ⟨rfl, rfl⟩ (fun _ => rfl) (fun _ => rfl) (by decide) ?_
  rw [(gG_s (t := 5) (v := 46) rfl : gw_uR (gG 5) 3 5 46 = gG 6)]
  refine gs_aload_n (pc := 70) (gd gk_63 32 rfl) rfl ?_
  refine gk_new (sh2 := gp n 54) 53 7 (pc := 71) (gd gk_63 33 rfl) rfl rfl (by decide) (by decide) (Nat.le_of_ble_eq_true rfl) (Nat.le_of_ble_eq_true rfl) hI1 (by decide) ?_
  refine gs_dup (pc := 74) (gd gk_63 34 rfl) rfl ?_
  refine gs_callI (as := []) (pc := 75) (gd gk_63 35 rfl) (by decide) rfl rfl rfl (Nat.le_of_ble_eq_true rfl) ⟨(Nat.le_of_ble_eq_true rfl), (Nat.le_of_ble_eq_true rfl), (Nat.le_of_ble_eq_true rfl), (Nat.le_of_ble_eq_true rfl)⟩ (Nat.le_of_ble_eq_true rfl) (k_Sights (fun p hp => hI1 p (by omega))) (fun r_6 w_6 q_6 => ?_)
  obtain ⟨rfl, rfl⟩ := q_6
  refine gk_putR (pc := 78) (gd gk_63 36 rfl) rfl rfl ⟨rfl, rfl⟩ (fun _ => rfl) (fun _ => rfl) (by decide) ?_
  rw [(gG_s (t := 6) (v := 53) rfl : gw_uR (gG 6) 3 6 53 = gG 7)]
  refine gs_aload_n (pc := 81) (gd gk_63 37 rfl) rfl ?_
  refine gk_new (sh2 := gp n 58) 57 7 (pc := 82) (gd gk_63 38 rfl) rfl rfl (by decide) (by decide) (Nat.le_of_ble_eq_true rfl) (Nat.le_of_ble_eq_true rfl) hI1 (by decide) ?_
  refine gs_dup (pc := 85) (gd gk_63 39 rfl) rfl ?_
  refine gs_aload_n (pc := 86) (gd gk_63 40 rfl) rfl ?_
  refine gs_getR (r := 6) (pc := 87) (gd gk_63 41 rfl) rfl rfl rfl (by decide) ?_
  refine gs_callI (as := [.ref (6)]) (pc := 90) (gd gk_63 42 rfl) (by decide) rfl rfl rfl (Nat.le_of_ble_eq_true rfl) ⟨(Nat.le_of_ble_eq_true rfl), (Nat.le_of_ble_eq_true rfl), (Nat.le_of_ble_eq_true rfl), (Nat.le_of_ble_eq_true rfl)⟩ (Nat.le_of_ble_eq_true rfl) (k_Walk (fun p hp => hI1 p (by omega))) (fun r_7 w_7 q_7 => ?_)
  obtain ⟨rfl, rfl⟩ := q_7
  refine gk_putR (pc := 93) (gd gk_63 43 rfl) rfl rfl ⟨rfl, rfl⟩ (fun _ => rfl) (fun _ => rfl) (by decide) ?_
  rw [(gG_s (t := 7) (v := 57) rfl : gw_uR (gG 7) 3 7 57 = gG 8)]
  refine gs_aload_n (pc := 96) (gd gk_63 44 rfl) rfl ?_
  refine gk_new (sh2 := gp n 82) 81 7 (pc := 97) (gd gk_63 45 rfl) rfl rfl (by decide) (by decide) (Nat.le_of_ble_eq_true rfl) (Nat.le_of_ble_eq_true rfl) hI1 (by decide) ?_
  refine gs_dup (pc := 100) (gd gk_63 46 rfl) rfl ?_
  refine gs_aload_n (pc := 101) (gd gk_63 47 rfl) rfl ?_
  refine gs_getR (r := 57) (pc := 102) (gd gk_63 48 rfl) rfl rfl rfl (by decide) ?_
  refine gs_callI (as := [.ref (57)]) (pc := 105) (gd gk_63 49 rfl) (by decide) rfl rfl rfl (Nat.le_of_ble_eq_true rfl) ⟨(Nat.le_of_ble_eq_true rfl), (Nat.le_of_ble_eq_true rfl), (Nat.le_of_ble_eq_true rfl), (Nat.le_of_ble_eq_true rfl)⟩ (Nat.le_of_ble_eq_true rfl) (k_Choice (fun p hp => hI1 p (by omega))) (fun r_8 w_8 q_8 => ?_)
  obtain ⟨rfl, rfl⟩ := q_8
  refine gk_putR (pc := 108) (gd gk_63 50 rfl) rfl rfl ⟨rfl, rfl⟩ (fun _ => rfl) (fun _ => rfl) (by decide) ?_
  rw [(gG_s (t := 8) (v := 81) rfl : gw_uR (gG 8) 3 8 81 = gG 9)]
  refine gs_aload_n (pc := 111) (gd gk_63 51 rfl) rfl ?_
  refine gk_new (sh2 := gp n 83) 82 7 (pc := 112) (gd gk_63 52 rfl) rfl rfl (by decide) (by decide) (Nat.le_of_ble_eq_true rfl) (Nat.le_of_ble_eq_true rfl) hI1 (by decide) ?_
  refine gs_dup (pc := 115) (gd gk_63 53 rfl) rfl ?_
  refine gs_aload_n (pc := 116) (gd gk_63 54 rfl) rfl ?_
  refine gs_getR (r := 6) (pc := 117) (gd gk_63 55 rfl) rfl rfl rfl (by decide) ?_
  refine gs_aload_n (pc := 120) (gd gk_63 56 rfl) rfl ?_
  refine gs_getR (r := 57) (pc := 121) (gd gk_63 57 rfl) rfl rfl rfl (by decide) ?_
  refine gs_callI (as := [.ref (6), .ref (57)]) (pc := 124) (gd gk_63 58 rfl) (by decide) rfl rfl rfl (Nat.le_of_ble_eq_true rfl) ⟨(Nat.le_of_ble_eq_true rfl), (Nat.le_of_ble_eq_true rfl), (Nat.le_of_ble_eq_true rfl), (Nat.le_of_ble_eq_true rfl)⟩ (Nat.le_of_ble_eq_true rfl) (k_Groups (fun p hp => hI1 p (by omega))) (fun r_9 w_9 q_9 => ?_)
  obtain ⟨rfl, rfl⟩ := q_9
  refine gk_putR (pc := 127) (gd gk_63 59 rfl) rfl rfl ⟨rfl, rfl⟩ (fun _ => rfl) (fun _ => rfl) (by decide) ?_
  rw [(gG_s (t := 9) (v := 82) rfl : gw_uR (gG 9) 3 9 82 = gG 10)]
  refine gs_aload_n (pc := 130) (gd gk_63 60 rfl) rfl ?_
  refine gk_new (sh2 := gp n 86) 85 7 (pc := 131) (gd gk_63 61 rfl) rfl rfl (by decide) (by decide) (Nat.le_of_ble_eq_true rfl) (Nat.le_of_ble_eq_true rfl) hI1 (by decide) ?_
  refine gs_dup (pc := 134) (gd gk_63 62 rfl) rfl ?_
  refine gs_aload_n (pc := 135) (gd gk_63 63 rfl) rfl ?_
  refine gs_getR (r := 6) (pc := 136) (gd gk_63 64 rfl) rfl rfl rfl (by decide) ?_
  refine gs_aload_n (pc := 139) (gd gk_63 65 rfl) rfl ?_
  refine gs_getR (r := 57) (pc := 140) (gd gk_63 66 rfl) rfl rfl rfl (by decide) ?_
  refine gs_callI (as := [.ref (6), .ref (57)]) (pc := 143) (gd gk_63 67 rfl) (by decide) rfl rfl rfl (Nat.le_of_ble_eq_true rfl) ⟨(Nat.le_of_ble_eq_true rfl), (Nat.le_of_ble_eq_true rfl), (Nat.le_of_ble_eq_true rfl), (Nat.le_of_ble_eq_true rfl)⟩ (Nat.le_of_ble_eq_true rfl) (k_Rivals (fun p hp => hI1 p (by omega))) (fun r_10 w_10 q_10 => ?_)
  obtain ⟨rfl, rfl⟩ := q_10
  refine gk_putR (pc := 146) (gd gk_63 68 rfl) rfl rfl ⟨rfl, rfl⟩ (fun _ => rfl) (fun _ => rfl) (by decide) ?_
  rw [(gG_s (t := 10) (v := 85) rfl : gw_uR (gG 10) 3 10 85 = gG 11)]
  exact gs_ret (pc := 149) (gd gk_63 69 rfl) rfl (Nat.le_of_ble_eq_true rfl) (Nat.le_of_ble_eq_true rfl) ⟨rfl, rfl⟩
theorem k_Model (hI : gI0 I 126) : gw_E V 106 (0, [(0, .ref 126)], [], (gp n 127, I, gJ0, gw_z gs_r 126 1 0), 0, 0) (fun v w' => v = none ∧ w' = (gp n 145, gw_u I 126 1 1, gJ0, gs_r)) := by
  have hI0 : gI0 I 127 := fun p hp => hI p (by omega)
  refine gs_aload_n (pc := 0) (gd gk_106 0 rfl) rfl ?_
  refine gs_objInit (pc := 1) (gd gk_106 1 rfl) (Nat.le_of_ble_eq_true rfl) (Nat.le_of_ble_eq_true rfl) (Nat.le_of_ble_eq_true rfl) ?_
  refine gs_aload_n (pc := 4) (gd gk_106 2 rfl) rfl ?_
  refine gs_bipush (pc := 5) (gd gk_106 3 rfl) (8) rfl ?_
  refine gk_newa (sh2 := gp n 128) (N := 8) 127 127 .int (pc := 7) (gd gk_106 4 rfl) (Or.inl ⟨rfl, rfl, rfl⟩) rfl rfl (by decide) (by decide) rfl (by decide) (Nat.le_of_ble_eq_true rfl) (Nat.le_of_ble_eq_true rfl) hI0 (by decide) ?_
  refine gk_putR (pc := 9) (gd gk_106 5 rfl) rfl rfl ⟨rfl, rfl⟩ (fun _ => rfl) (fun _ => rfl) (by decide) ?_
  refine gs_aload_n (pc := 12) (gd gk_106 6 rfl) rfl ?_
  refine gs_bipush (pc := 13) (gd gk_106 7 rfl) (8) rfl ?_
  refine gk_newa (sh2 := gp n 129) (N := 8) 128 127 .int (pc := 15) (gd gk_106 8 rfl) (Or.inl ⟨rfl, rfl, rfl⟩) rfl rfl (by decide) (by decide) rfl (by decide) (Nat.le_of_ble_eq_true rfl) (Nat.le_of_ble_eq_true rfl) hI0 (by decide) ?_
  refine gk_putR (pc := 17) (gd gk_106 9 rfl) rfl rfl ⟨rfl, rfl⟩ (fun _ => rfl) (fun _ => rfl) (by decide) ?_
  refine gs_aload_n (pc := 20) (gd gk_106 10 rfl) rfl ?_
  refine gs_bipush (pc := 21) (gd gk_106 11 rfl) (24) rfl ?_
  refine gk_newa (sh2 := gp n 130) (N := 24) 129 127 .int (pc := 23) (gd gk_106 12 rfl) (Or.inl ⟨rfl, rfl, rfl⟩) rfl rfl (by decide) (by decide) rfl (by decide) (Nat.le_of_ble_eq_true rfl) (Nat.le_of_ble_eq_true rfl) hI0 (by decide) ?_
  refine gk_putR (pc := 25) (gd gk_106 13 rfl) rfl rfl ⟨rfl, rfl⟩ (fun _ => rfl) (fun _ => rfl) (by decide) ?_
  refine gs_aload_n (pc := 28) (gd gk_106 14 rfl) rfl ?_
  refine gs_iconst (pc := 29) (gd gk_106 15 rfl) (4) rfl ?_
  refine gk_newa (sh2 := gp n 131) (N := 4) 130 127 .int (pc := 30) (gd gk_106 16 rfl) (Or.inl ⟨rfl, rfl, rfl⟩) rfl rfl (by decide) (by decide) rfl (by decide) (Nat.le_of_ble_eq_true rfl) (Nat.le_of_ble_eq_true rfl) hI0 (by decide) ?_
  refine gk_putR (pc := 32) (gd gk_106 17 rfl) rfl rfl ⟨rfl, rfl⟩ (fun _ => rfl) (fun _ => rfl) (by decide) ?_
  refine gs_aload_n (pc := 35) (gd gk_106 18 rfl) rfl ?_
  refine gs_bipush (pc := 36) (gd gk_106 19 rfl) (8) rfl ?_
  refine gk_newa (sh2 := gp n 132) (N := 8) 131 127 .int (pc := 38) (gd gk_106 20 rfl) (Or.inl ⟨rfl, rfl, rfl⟩) rfl rfl (by decide) (by decide) rfl (by decide) (Nat.le_of_ble_eq_true rfl) (Nat.le_of_ble_eq_true rfl) hI0 (by decide) ?_
  refine gk_putR (pc := 40) (gd gk_106 21 rfl) rfl rfl ⟨rfl, rfl⟩ (fun _ => rfl) (fun _ => rfl) (by decide) ?_
  refine gs_aload_n (pc := 43) (gd gk_106 22 rfl) rfl ?_
  refine gs_bipush (pc := 44) (gd gk_106 23 rfl) (24) rfl ?_
  refine gk_newa (sh2 := gp n 133) (N := 24) 132 127 .int (pc := 46) (gd gk_106 24 rfl) (Or.inl ⟨rfl, rfl, rfl⟩) rfl rfl (by decide) (by decide) rfl (by decide) (Nat.le_of_ble_eq_true rfl) (Nat.le_of_ble_eq_true rfl) hI0 (by decide) ?_
  refine gk_putR (pc := 48) (gd gk_106 25 rfl) rfl rfl ⟨rfl, rfl⟩ (fun _ => rfl) (fun _ => rfl) (by decide) ?_
  refine gs_aload_n (pc := 51) (gd gk_106 26 rfl) rfl ?_
  refine gs_bipush (pc := 52) (gd gk_106 27 rfl) (52) rfl ?_
  refine gk_newa (sh2 := gp n 134) (N := 52) 133 127 .int (pc := 54) (gd gk_106 28 rfl) (Or.inl ⟨rfl, rfl, rfl⟩) rfl rfl (by decide) (by decide) rfl (by decide) (Nat.le_of_ble_eq_true rfl) (Nat.le_of_ble_eq_true rfl) hI0 (by decide) ?_
  refine gk_putR (pc := 56) (gd gk_106 29 rfl) rfl rfl ⟨rfl, rfl⟩ (fun _ => rfl) (fun _ => rfl) (by decide) ?_
  refine gs_aload_n (pc := 59) (gd gk_106 30 rfl) rfl ?_
  refine gs_bipush (pc := 60) (gd gk_106 31 rfl) (48) rfl ?_
  refine gk_newa (sh2 := gp n 135) (N := 48) 134 127 .int (pc := 62) (gd gk_106 32 rfl) (Or.inl ⟨rfl, rfl, rfl⟩) rfl rfl (by decide) (by decide) rfl (by decide) (Nat.le_of_ble_eq_true rfl) (Nat.le_of_ble_eq_true rfl) hI0 (by decide) ?_
  refine gk_putR (pc := 64) (gd gk_106 33 rfl) rfl rfl ⟨rfl, rfl⟩ (fun _ => rfl) (fun _ => rfl) (by decide) ?_
  refine gs_aload_n (pc := 67) (gd gk_106 34 rfl) rfl ?_
  refine gs_bipush (pc := 68) (gd gk_106 35 rfl) (10) rfl ?_
  refine gk_newa (sh2 := gp n 136) (N := 10) 135 127 .int (pc := 70) (gd gk_106 36 rfl) (Or.inl ⟨rfl, rfl, rfl⟩) rfl rfl (by decide) (by decide) rfl (by decide) (Nat.le_of_ble_eq_true rfl) (Nat.le_of_ble_eq_true rfl) hI0 (by decide) ?_
  refine gk_putR (pc := 72) (gd gk_106 37 rfl) rfl rfl ⟨rfl, rfl⟩ (fun _ => rfl) (fun _ => rfl) (by decide) ?_
  refine gs_aload_n (pc := 75) (gd gk_106 38 rfl) rfl ?_
  refine gs_sipush (pc := 76) (gd gk_106 39 rfl) (182) rfl ?_
  refine gk_newa (sh2 := gp n 137) (N := 182) 136 127 .int (pc := 79) (gd gk_106 40 rfl) (Or.inl ⟨rfl, rfl, rfl⟩) rfl rfl (by decide) (by decide) rfl (by decide) (Nat.le_of_ble_eq_true rfl) (Nat.le_of_ble_eq_true rfl) hI0 (by decide) ?_
  refine gk_putR (pc := 81) (gd gk_106 41 rfl) rfl rfl ⟨rfl, rfl⟩ (fun _ => rfl) (fun _ => rfl) (by decide) ?_
  refine gs_aload_n (pc := 84) (gd gk_106 42 rfl) rfl ?_
  refine gs_bipush (pc := 85) (gd gk_106 43 rfl) (64) rfl ?_
  refine gk_newa (sh2 := gp n 138) (N := 64) 137 127 .int (pc := 87) (gd gk_106 44 rfl) (Or.inl ⟨rfl, rfl, rfl⟩) rfl rfl (by decide) (by decide) rfl (by decide) (Nat.le_of_ble_eq_true rfl) (Nat.le_of_ble_eq_true rfl) hI0 (by decide) ?_
  refine gk_putR (pc := 89) (gd gk_106 45 rfl) rfl rfl ⟨rfl, rfl⟩ (fun _ => rfl) (fun _ => rfl) (by decide) ?_
  refine gs_aload_n (pc := 92) (gd gk_106 46 rfl) rfl ?_
  refine gs_bipush (pc := 93) (gd gk_106 47 rfl) (6) rfl ?_
  refine gk_newa (sh2 := gp n 139) (N := 6) 138 127 .int (pc := 95) (gd gk_106 48 rfl) (Or.inl ⟨rfl, rfl, rfl⟩) rfl rfl (by decide) (by decide) rfl (by decide) (Nat.le_of_ble_eq_true rfl) (Nat.le_of_ble_eq_true rfl) hI0 (by decide) ?_
  refine gk_putR (pc := 97) (gd gk_106 49 rfl) rfl rfl ⟨rfl, rfl⟩ (fun _ => rfl) (fun _ => rfl) (by decide) ?_
  refine gs_aload_n (pc := 100) (gd gk_106 50 rfl) rfl ?_
  refine gs_bipush (pc := 101) (gd gk_106 51 rfl) (6) rfl ?_
  refine gk_newa (sh2 := gp n 140) (N := 6) 139 127 .int (pc := 103) (gd gk_106 52 rfl) (Or.inl ⟨rfl, rfl, rfl⟩) rfl rfl (by decide) (by decide) rfl (by decide) (Nat.le_of_ble_eq_true rfl) (Nat.le_of_ble_eq_true rfl) hI0 (by decide) ?_
  refine gk_putR (pc := 105) (gd gk_106 53 rfl) rfl rfl ⟨rfl, rfl⟩ (fun _ => rfl) (fun _ => rfl) (by decide) ?_
  refine gs_aload_n (pc := 108) (gd gk_106 54 rfl) rfl ?_
  refine gs_bipush (pc := 109) (gd gk_106 55 rfl) (6) rfl ?_
  refine gk_newa (sh2 := gp n 141) (N := 6) 140 127 .boolean (pc := 111) (gd gk_106 56 rfl) (Or.inr ⟨rfl, rfl, rfl⟩) rfl rfl (by decide) (by decide) rfl (by decide) (Nat.le_of_ble_eq_true rfl) (Nat.le_of_ble_eq_true rfl) hI0 (by decide) ?_
  refine gk_putR (pc := 113) (gd gk_106 57 rfl) rfl rfl ⟨rfl, rfl⟩ (fun _ => rfl) (fun _ => rfl) (by decide) ?_
  refine gs_aload_n (pc := 116) (gd gk_106 58 rfl) rfl ?_
  refine gs_bipush (pc := 117) (gd gk_106 59 rfl) (100) rfl ?_
  refine gk_newa (sh2 := gp n 142) (N := 100) 141 127 .int (pc := 119) (gd gk_106 60 rfl) (Or.inl ⟨rfl, rfl, rfl⟩) rfl rfl (by decide) (by decide) rfl (by decide) (Nat.le_of_ble_eq_true rfl) (Nat.le_of_ble_eq_true rfl) hI0 (by decide) ?_
  refine gk_putR (pc := 121) (gd gk_106 61 rfl) rfl rfl ⟨rfl, rfl⟩ (fun _ => rfl) (fun _ => rfl) (by decide) ?_
  refine gs_aload_n (pc := 124) (gd gk_106 62 rfl) rfl ?_
  refine gs_bipush (pc := 125) (gd gk_106 63 rfl) (100) rfl ?_
  refine gk_newa (sh2 := gp n 143) (N := 100) 142 127 .int (pc := 127) (gd gk_106 64 rfl) (Or.inl ⟨rfl, rfl, rfl⟩) rfl rfl (by decide) (by decide) rfl (by decide) (Nat.le_of_ble_eq_true rfl) (Nat.le_of_ble_eq_true rfl) hI0 (by decide) ?_
  refine gk_putR (pc := 129) (gd gk_106 65 rfl) rfl rfl ⟨rfl, rfl⟩ (fun _ => rfl) (fun _ => rfl) (by decide) ?_
  refine gs_aload_n (pc := 132) (gd gk_106 66 rfl) rfl ?_
  refine gs_iconst (pc := 133) (gd gk_106 67 rfl) (2) rfl ?_
  refine gk_newa (sh2 := gp n 144) (N := 2) 143 127 .boolean (pc := 134) (gd gk_106 68 rfl) (Or.inr ⟨rfl, rfl, rfl⟩) rfl rfl (by decide) (by decide) rfl (by decide) (Nat.le_of_ble_eq_true rfl) (Nat.le_of_ble_eq_true rfl) hI0 (by decide) ?_
  refine gk_putR (pc := 136) (gd gk_106 69 rfl) rfl rfl ⟨rfl, rfl⟩ (fun _ => rfl) (fun _ => rfl) (by decide) ?_
  refine gs_aload_n (pc := 139) (gd gk_106 70 rfl) rfl ?_
  refine gs_bipush (pc := 140) (gd gk_106 71 rfl) (26) rfl ?_
  refine gk_newa (sh2 := gp n 145) (N := 26) 144 127 .int (pc := 142) (gd gk_106 72 rfl) (Or.inl ⟨rfl, rfl, rfl⟩) rfl rfl (by decide) (by decide) rfl (by decide) (Nat.le_of_ble_eq_true rfl) (Nat.le_of_ble_eq_true rfl) hI0 (by decide) ?_
  refine gk_putR (pc := 144) (gd gk_106 73 rfl) rfl rfl ⟨rfl, rfl⟩ (fun _ => rfl) (fun _ => rfl) (by decide) ?_
  refine gs_aload_n (pc := 147) (gd gk_106 74 rfl) rfl ?_
  refine gs_iconst (pc := 148) (gd gk_106 75 rfl) (1) rfl ?_
  refine gs_putI (pc := 149) (gd gk_106 76 rfl) rfl rfl rfl rfl (fun I2 hI2 => ?_)
  subst hI2
  refine gs_F1 (F2 := gs_r) 126 (fun a ha => by simp only [gw_uR_o ha, gw_z_o ha]) (fun q => ?_) (fun _ => ?_) ?_
  · have q : (11 : Nat) = 14 ∨ (11 : Nat) = 15 := q
    omega
  · change ∀ j, j < gb_K 11 → gb_s 11 j = 2 → _
    decide
  exact gs_ret (pc := 152) (gd gk_106 77 rfl) rfl (Nat.le_of_ble_eq_true rfl) (Nat.le_of_ble_eq_true rfl) ⟨rfl, rfl⟩
end
