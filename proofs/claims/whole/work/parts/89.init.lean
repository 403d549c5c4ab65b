/-! ===== the constructors ===== -/
section
variable {V : gw_V} {n : Nat} {I : Nat → Nat → Int32}
theorem k_Morning {sh : List (Nat × Nat)} {F : Nat → Nat → Nat} (a : Nat) (hl : sh.length = a + 1) (hT : gw_T (sh, I, gJ0, gw_z F a 1 0) a = 3) (ha : a + 1 < 145) (hF : F a 0 = a + 1) (hI : gI0 I (a + 1)) : gw_E V 12 (0, [(0, .ref a)], [], (sh, I, gJ0, gw_z F a 1 0), 0, 0) (fun v w' => v = none ∧ w' = (sh ++ [(12, 10)], I, gJ0, F)) := by
  have hT2 : ∀ F2, gw_T (sh ++ [(12, 10)], I, gJ0, F2) a = 3 := fun F2 => (gw_T_app (w := (sh, I, gJ0, gw_z F a 1 0)) (w' := (sh ++ [(12, 10)], I, gJ0, F2)) (ex := [(12, 10)]) rfl (by show a < sh.length; omega)).1.trans hT
  refine gs_aload_n (pc := 0) (gd gk_12 0 rfl) rfl ?_
  refine gs_objInit (pc := 1) (gd gk_12 1 rfl) (Nat.le_of_ble_eq_true rfl) (Nat.le_of_ble_eq_true rfl) (Nat.le_of_ble_eq_true rfl) ?_
  refine gs_aload_n (pc := 4) (gd gk_12 2 rfl) rfl ?_
  refine gs_bipush (pc := 5) (gd gk_12 3 rfl) (10) rfl ?_
  refine gk_newa (sh2 := sh ++ [(12, 10)]) (N := 10) (a + 1) (a + 1) .int (pc := 7) (gd gk_12 4 rfl) (Or.inl ⟨rfl, rfl, rfl⟩) hl rfl ha (by decide) rfl (by decide) (Nat.le_of_ble_eq_true rfl) (Nat.le_of_ble_eq_true rfl) hI (Nat.le_refl _) ?_
  refine gk_putR (pc := 9) (gd gk_12 5 rfl) (hT2 _) rfl ⟨rfl, rfl⟩ (fun _ => rfl) (fun _ => rfl) (by omega) ?_
  refine gs_F1 (F2 := F) a (fun p hp => by rw [gw_uR_o hp, gw_z_o hp]) (fun q => ?_) (fun _ => ?_) ?_
  · rw [hT2] at q; omega
  · rw [hT2]
    intro j hj hs
    have hj : j < 4 := hj
    have : j = 0 := by
      have h9 : ∀ j, j < 4 → gb_s 3 j = 2 → j = 0 := by decide
      exact h9 j hj hs
    subst this
    unfold gw_uR
    rw [if_pos ⟨rfl, rfl⟩, hF]
  exact gs_ret (pc := 12) (gd gk_12 6 rfl) rfl (Nat.le_of_ble_eq_true rfl) (Nat.le_of_ble_eq_true rfl) ⟨rfl, rfl⟩
theorem k_Text (hI : gI0 I 5) : gw_E V 37 (0, [(0, .ref 4)], [], (gp n 5, I, gJ0, gw_z (gG 0) 4 1 0), 0, 0) (fun v w' => v = none ∧ w' = (gp n 6, I, gJ0, gG 0)) := by
  refine gs_aload_n (pc := 0) (gd gk_37 0 rfl) rfl ?_
  refine gs_objInit (pc := 1) (gd gk_37 1 rfl) (Nat.le_of_ble_eq_true rfl) (Nat.le_of_ble_eq_true rfl) (Nat.le_of_ble_eq_true rfl) ?_
  refine gs_aload_n (pc := 4) (gd gk_37 2 rfl) rfl ?_
  refine gs_bipush (pc := 5) (gd gk_37 3 rfl) (48) rfl ?_
  refine gk_newa (sh2 := gp n 6) (N := 48) 5 5 .int (pc := 7) (gd gk_37 4 rfl) (Or.inl ⟨rfl, rfl, rfl⟩) rfl rfl (by decide) (by decide) rfl (by decide) (Nat.le_of_ble_eq_true rfl) (Nat.le_of_ble_eq_true rfl) hI (by decide) ?_
  refine gk_putR (pc := 9) (gd gk_37 5 rfl) rfl rfl ⟨rfl, rfl⟩ (fun _ => rfl) (fun _ => rfl) (by decide) ?_
  refine gs_F1 (F2 := gG 0) 4 (fun a ha => by simp only [gw_uR_o ha, gw_z_o ha]) (fun q => ?_) (fun _ => ?_) ?_
  · have q : (8 : Nat) = 14 ∨ (8 : Nat) = 15 := q
    omega
  · change ∀ j, j < gb_K 8 → gb_s 8 j = 2 → _
    decide
  exact gs_ret (pc := 12) (gd gk_37 6 rfl) rfl (Nat.le_of_ble_eq_true rfl) (Nat.le_of_ble_eq_true rfl) ⟨rfl, rfl⟩
theorem k_Street (hI : gI0 I 7) : gw_E V 31 (0, [(0, .ref 6)], [], (gp n 7, I, gJ0, gw_z (gG 1) 6 1 0), 0, 0) (fun v w' => v = none ∧ w' = (gp n 12, gw_u I 6 1 1, gJ0, gG 1)) := by
  have hI1 : gI0 (gw_u I 6 1 1) 7 := fun p hp => by rw [gw_u_o (by omega)]; exact hI p hp
  refine gs_aload_n (pc := 0) (gd gk_31 0 rfl) rfl ?_
  refine gs_objInit (pc := 1) (gd gk_31 1 rfl) (Nat.le_of_ble_eq_true rfl) (Nat.le_of_ble_eq_true rfl) (Nat.le_of_ble_eq_true rfl) ?_
  refine gs_aload_n (pc := 4) (gd gk_31 2 rfl) rfl ?_
  refine gs_iconst (pc := 5) (gd gk_31 3 rfl) (1) rfl ?_
  refine gs_putI (pc := 6) (gd gk_31 4 rfl) rfl rfl rfl rfl (fun I2 hI2 => ?_)
  subst hI2
  refine gs_aload_n (pc := 9) (gd gk_31 5 rfl) rfl ?_
  refine gs_bipush (pc := 10) (gd gk_31 6 rfl) (8) rfl ?_
  refine gk_newa (sh2 := gp n 8) (N := 8) 7 7 .int (pc := 12) (gd gk_31 7 rfl) (Or.inl ⟨rfl, rfl, rfl⟩) rfl rfl (by decide) (by decide) rfl (by decide) (Nat.le_of_ble_eq_true rfl) (Nat.le_of_ble_eq_true rfl) hI1 (by decide) ?_
  refine gk_putR (pc := 14) (gd gk_31 8 rfl) rfl rfl ⟨rfl, rfl⟩ (fun _ => rfl) (fun _ => rfl) (by decide) ?_
  refine gs_aload_n (pc := 17) (gd gk_31 9 rfl) rfl ?_
  refine gs_bipush (pc := 18) (gd gk_31 10 rfl) (6) rfl ?_
  refine gk_newa (sh2 := gp n 9) (N := 6) 8 7 .int (pc := 20) (gd gk_31 11 rfl) (Or.inl ⟨rfl, rfl, rfl⟩) rfl rfl (by decide) (by decide) rfl (by decide) (Nat.le_of_ble_eq_true rfl) (Nat.le_of_ble_eq_true rfl) hI1 (by decide) ?_
  refine gk_putR (pc := 22) (gd gk_31 12 rfl) rfl rfl ⟨rfl, rfl⟩ (fun _ => rfl) (fun _ => rfl) (by decide) ?_
  refine gs_aload_n (pc := 25) (gd gk_31 13 rfl) rfl ?_
  refine gs_bipush (pc := 26) (gd gk_31 14 rfl) (6) rfl ?_
  refine gk_newa (sh2 := gp n 10) (N := 6) 9 7 .int (pc := 28) (gd gk_31 15 rfl) (Or.inl ⟨rfl, rfl, rfl⟩) rfl rfl (by decide) (by decide) rfl (by decide) (Nat.le_of_ble_eq_true rfl) (Nat.le_of_ble_eq_true rfl) hI1 (by decide) ?_
  refine gk_putR (pc := 30) (gd gk_31 16 rfl) rfl rfl ⟨rfl, rfl⟩ (fun _ => rfl) (fun _ => rfl) (by decide) ?_
  refine gs_aload_n (pc := 33) (gd gk_31 17 rfl) rfl ?_
  refine gs_bipush (pc := 34) (gd gk_31 18 rfl) (6) rfl ?_
  refine gk_newa (sh2 := gp n 11) (N := 6) 10 7 .int (pc := 36) (gd gk_31 19 rfl) (Or.inl ⟨rfl, rfl, rfl⟩) rfl rfl (by decide) (by decide) rfl (by decide) (Nat.le_of_ble_eq_true rfl) (Nat.le_of_ble_eq_true rfl) hI1 (by decide) ?_
  refine gk_putR (pc := 38) (gd gk_31 20 rfl) rfl rfl ⟨rfl, rfl⟩ (fun _ => rfl) (fun _ => rfl) (by decide) ?_
  refine gs_aload_n (pc := 41) (gd gk_31 21 rfl) rfl ?_
  refine gs_bipush (pc := 42) (gd gk_31 22 rfl) (6) rfl ?_
  refine gk_newa (sh2 := gp n 12) (N := 6) 11 7 .int (pc := 44) (gd gk_31 23 rfl) (Or.inl ⟨rfl, rfl, rfl⟩) rfl rfl (by decide) (by decide) rfl (by decide) (Nat.le_of_ble_eq_true rfl) (Nat.le_of_ble_eq_true rfl) hI1 (by decide) ?_
  refine gk_putR (pc := 46) (gd gk_31 24 rfl) rfl rfl ⟨rfl, rfl⟩ (fun _ => rfl) (fun _ => rfl) (by decide) ?_
  refine gs_F1 (F2 := gG 1) 6 (fun a ha => by simp only [gw_uR_o ha, gw_z_o ha]) (fun q => ?_) (fun _ => ?_) ?_
  · have q : (7 : Nat) = 14 ∨ (7 : Nat) = 15 := q
    omega
  · change ∀ j, j < gb_K 7 → gb_s 7 j = 2 → _
    decide
  exact gs_ret (pc := 49) (gd gk_31 25 rfl) rfl (Nat.le_of_ble_eq_true rfl) (Nat.le_of_ble_eq_true rfl) ⟨rfl, rfl⟩
theorem k_Acts (hI : gI0 I 17) : gw_E V 0 (0, [(0, .ref 16)], [], (gp n 17, I, gJ0, gw_z (gG 4) 16 1 0), 0, 0) (fun v w' => v = none ∧ w' = (gp n 46, I, gJ0, gG 4)) := by
  refine gs_aload_n (pc := 0) (gd gk_0 0 rfl) rfl ?_
  refine gs_objInit (pc := 1) (gd gk_0 1 rfl) (Nat.le_of_ble_eq_true rfl) (Nat.le_of_ble_eq_true rfl) (Nat.le_of_ble_eq_true rfl) ?_
  refine gs_aload_n (pc := 4) (gd gk_0 2 rfl) rfl ?_
  refine gs_bipush (pc := 5) (gd gk_0 3 rfl) (14) rfl ?_
  refine gk_anew (sh2 := gp n 18) (N := 14) 17 17 (pc := 7) (gd gk_0 4 rfl) rfl rfl (by decide) (by decide) rfl (by decide) (Nat.le_of_ble_eq_true rfl) (Nat.le_of_ble_eq_true rfl) hI (by decide) ?_
  refine gk_putR (pc := 10) (gd gk_0 5 rfl) rfl rfl ⟨rfl, rfl⟩ (fun _ => rfl) (fun _ => rfl) (by decide) ?_
  refine gs_F1 (F2 := gN (gG 4) 17 0) 16 (fun a ha => ?_) (fun q => ?_) (fun _ => ?_) ?_
  · simp only [gw_uR_o ha]
    funext j
    unfold gN gw_z
    by_cases e : a = 17
    · rw [if_pos ⟨e, Nat.zero_le _⟩, if_pos (by omega)]
    · rw [if_neg (fun h => e h.1), if_neg (by omega), if_neg (by omega)]
  · have q : (0 : Nat) = 14 ∨ (0 : Nat) = 15 := q
    omega
  · change ∀ j, j < gb_K 0 → gb_s 0 j = 2 → _
    decide
  refine gs_iconst (pc := 13) (gd gk_0 6 rfl) (0) rfl ?_
  refine gs_istore_n (ls2 := fun v => [(0, .ref (16)), (1, .int (v))]) (pc := 14) (gd gk_0 7 rfl) (by rw [gL_0]; decide) (fun _ => rfl) (fun v_0 hv_0 => ?_)
  obtain rfl : v_0 = Int32.ofNat 0 := hv_0
  refine gs_iload_n (pc := 15) (gd gk_0 8 rfl) rfl ?_
  refine gs_bipush (pc := 16) (gd gk_0 9 rfl) (14) rfl ?_
  refine gs_icmp_ge (pc := 18) (gd gk_0 10 rfl) (fun c_1 => absurd c_1 (by decide)) (fun c_1 => ?_)
  refine gs_aload_n (pc := 21) (gd gk_0 11 rfl) rfl ?_
  refine gs_getR (r := 17) (pc := 22) (gd gk_0 12 rfl) rfl rfl rfl (by decide) ?_
  refine gs_iload_n (pc := 25) (gd gk_0 13 rfl) rfl ?_
  refine gk_new (sh2 := gp n 19) 18 17 (pc := 26) (gd gk_0 14 rfl) rfl rfl (by decide) (by decide) (Nat.le_of_ble_eq_true rfl) (Nat.le_of_ble_eq_true rfl) hI (by decide) ?_
  refine gs_dup (pc := 29) (gd gk_0 15 rfl) rfl ?_
  refine gs_callI (as := []) (pc := 30) (gd gk_0 16 rfl) (by decide) rfl rfl rfl (Nat.le_of_ble_eq_true rfl) ⟨(Nat.le_of_ble_eq_true rfl), (Nat.le_of_ble_eq_true rfl), (Nat.le_of_ble_eq_true rfl), (Nat.le_of_ble_eq_true rfl)⟩ (Nat.le_of_ble_eq_true rfl) (k_Morning 18 rfl rfl (by decide) rfl (fun p hp => hI p (by omega))) (fun r_2 w_2 q_2 => ?_)
  obtain ⟨rfl, rfl⟩ := q_2
  refine gs_aastore (v := 18) (pc := 33) (gd gk_0 17 rfl) rfl rfl (by decide) (zvin (n := 14) (by decide) (by decide)) (fun F2 hF2 => ?_)
  obtain rfl : F2 = gN (gG 4) 17 1 := hF2.trans (gN_s rfl)
  refine gs_iinc (ls2 := fun v => [(0, .ref (16)), (1, .int (v))]) (pc := 34) (gd gk_0 18 rfl) rfl (by rw [gL_0]; decide) (fun _ => rfl) (1) rfl (fun v_3 hv_3 => ?_)
  obtain rfl : v_3 = Int32.ofNat 1 := hv_3.trans (by decide)
  refine gs_goto (pc := 37) (gd gk_0 19 rfl) ?_
  refine gs_iload_n (pc := 15) (gd gk_0 8 rfl) rfl ?_
  refine gs_bipush (pc := 16) (gd gk_0 9 rfl) (14) rfl ?_
  refine gs_icmp_ge (pc := 18) (gd gk_0 10 rfl) (fun c_4 => absurd c_4 (by decide)) (fun c_4 => ?_)
  refine gs_aload_n (pc := 21) (gd gk_0 11 rfl) rfl ?_
  refine gs_getR (r := 17) (pc := 22) (gd gk_0 12 rfl) rfl rfl rfl (by decide) ?_
  refine gs_iload_n (pc := 25) (gd gk_0 13 rfl) rfl ?_
  refine gk_new (sh2 := gp n 21) 20 17 (pc := 26) (gd gk_0 14 rfl) rfl rfl (by decide) (by decide) (Nat.le_of_ble_eq_true rfl) (Nat.le_of_ble_eq_true rfl) hI (by decide) ?_
  refine gs_dup (pc := 29) (gd gk_0 15 rfl) rfl ?_
  refine gs_callI (as := []) (pc := 30) (gd gk_0 16 rfl) (by decide) rfl rfl rfl (Nat.le_of_ble_eq_true rfl) ⟨(Nat.le_of_ble_eq_true rfl), (Nat.le_of_ble_eq_true rfl), (Nat.le_of_ble_eq_true rfl), (Nat.le_of_ble_eq_true rfl)⟩ (Nat.le_of_ble_eq_true rfl) (k_Morning 20 rfl rfl (by decide) rfl (fun p hp => hI p (by omega))) (fun r_5 w_5 q_5 => ?_)
  obtain ⟨rfl, rfl⟩ := q_5
  refine gs_aastore (v := 20) (pc := 33) (gd gk_0 17 rfl) rfl rfl (by decide) (zvin (n := 14) (by decide) (by decide)) (fun F2 hF2 => ?_)
  obtain rfl : F2 = gN (gG 4) 17 2 := hF2.trans (gN_s rfl)
  refine gs_iinc (ls2 := fun v => [(0, .ref (16)), (1, .int (v))]) (pc := 34) (gd gk_0 18 rfl) rfl (by rw [gL_0]; decide) (fun _ => rfl) (1) rfl (fun v_6 hv_6 => ?_)
  obtain rfl : v_6 = Int32.ofNat 2 := hv_6.trans (by decide)
  refine gs_goto (pc := 37) (gd gk_0 19 rfl) ?_
  refine gs_iload_n (pc := 15) (gd gk_0 8 rfl) rfl ?_
  refine gs_bipush (pc := 16) (gd gk_0 9 rfl) (14) rfl ?_
  refine gs_icmp_ge (pc := 18) (gd gk_0 10 rfl) (fun c_7 => absurd c_7 (by decide)) (fun c_7 => ?_)
  refine gs_aload_n (pc := 21) (gd gk_0 11 rfl) rfl ?_
  refine gs_getR (r := 17) (pc := 22) (gd gk_0 12 rfl) rfl rfl rfl (by decide) ?_
  refine gs_iload_n (pc := 25) (gd gk_0 13 rfl) rfl ?_
  refine gk_new (sh2 := gp n 23) 22 17 (pc := 26) (gd gk_0 14 rfl) rfl rfl (by decide) (by decide) (Nat.le_of_ble_eq_true rfl) (Nat.le_of_ble_eq_true rfl) hI (by decide) ?_
  refine gs_dup (pc := 29) (gd gk_0 15 rfl) rfl ?_
  refine gs_callI (as := []) (pc := 30) (gd gk_0 16 rfl) (by decide) rfl rfl rfl (Nat.le_of_ble_eq_true rfl) ⟨(Nat.le_of_ble_eq_true rfl), (Nat.le_of_ble_eq_true rfl), (Nat.le_of_ble_eq_true rfl), (Nat.le_of_ble_eq_true rfl)⟩ (Nat.le_of_ble_eq_true rfl) (k_Morning 22 rfl rfl (by decide) rfl (fun p hp => hI p (by omega))) (fun r_8 w_8 q_8 => ?_)
  obtain ⟨rfl, rfl⟩ := q_8
  refine gs_aastore (v := 22) (pc := 33) (gd gk_0 17 rfl) rfl rfl (by decide) (zvin (n := 14) (by decide) (by decide)) (fun F2 hF2 => ?_)
  obtain rfl : F2 = gN (gG 4) 17 3 := hF2.trans (gN_s rfl)
  refine gs_iinc (ls2 := fun v => [(0, .ref (16)), (1, .int (v))]) (pc := 34) (gd gk_0 18 rfl) rfl (by rw [gL_0]; decide) (fun _ => rfl) (1) rfl (fun v_9 hv_9 => ?_)
  obtain rfl : v_9 = Int32.ofNat 3 := hv_9.trans (by decide)
  refine gs_goto (pc := 37) (gd gk_0 19 rfl) ?_
  refine gs_iload_n (pc := 15) (gd gk_0 8 rfl) rfl ?_
  refine gs_bipush (pc := 16) (gd gk_0 9 rfl) (14) rfl ?_
  refine gs_icmp_ge (pc := 18) (gd gk_0 10 rfl) (fun c_10 => absurd c_10 (by decide)) (fun c_10 => ?_)
  refine gs_aload_n (pc := 21) (gd gk_0 11 rfl) rfl ?_
  refine gs_getR (r := 17) (pc := 22) (gd gk_0 12 rfl) rfl rfl rfl (by decide) ?_
  refine gs_iload_n (pc := 25) (gd gk_0 13 rfl) rfl ?_
  refine gk_new (sh2 := gp n 25) 24 17 (pc := 26) (gd gk_0 14 rfl) rfl rfl (by decide) (by decide) (Nat.le_of_ble_eq_true rfl) (Nat.le_of_ble_eq_true rfl) hI (by decide) ?_
  refine gs_dup (pc := 29) (gd gk_0 15 rfl) rfl ?_
  refine gs_callI (as := []) (pc := 30) (gd gk_0 16 rfl) (by decide) rfl rfl rfl (Nat.le_of_ble_eq_true rfl) ⟨(Nat.le_of_ble_eq_true rfl), (Nat.le_of_ble_eq_true rfl), (Nat.le_of_ble_eq_true rfl), (Nat.le_of_ble_eq_true rfl)⟩ (Nat.le_of_ble_eq_true rfl) (k_Morning 24 rfl rfl (by decide) rfl (fun p hp => hI p (by omega))) (fun r_11 w_11 q_11 => ?_)
  obtain ⟨rfl, rfl⟩ := q_11
  refine gs_aastore (v := 24) (pc := 33) (gd gk_0 17 rfl) rfl rfl (by decide) (zvin (n := 14) (by decide) (by decide)) (fun F2 hF2 => ?_)
  obtain rfl : F2 = gN (gG 4) 17 4 := hF2.trans (gN_s rfl)
  refine gs_iinc (ls2 := fun v => [(0, .ref (16)), (1, .int (v))]) (pc := 34) (gd gk_0 18 rfl) rfl (by rw [gL_0]; decide) (fun _ => rfl) (1) rfl (fun v_12 hv_12 => ?_)
  obtain rfl : v_12 = Int32.ofNat 4 := hv_12.trans (by decide)
  refine gs_goto (pc := 37) (gd gk_0 19 rfl) ?_
  refine gs_iload_n (pc := 15) (gd gk_0 8 rfl) rfl ?_
  refine gs_bipush (pc := 16) (gd gk_0 9 rfl) (14) rfl ?_
  refine gs_icmp_ge (pc := 18) (gd gk_0 10 rfl) (fun c_13 => absurd c_13 (by decide)) (fun c_13 => ?_)
  refine gs_aload_n (pc := 21) (gd gk_0 11 rfl) rfl ?_
  refine gs_getR (r := 17) (pc := 22) (gd gk_0 12 rfl) rfl rfl rfl (by decide) ?_
  refine gs_iload_n (pc := 25) (gd gk_0 13 rfl) rfl ?_
  refine gk_new (sh2 := gp n 27) 26 17 (pc := 26) (gd gk_0 14 rfl) rfl rfl (by decide) (by decide) (Nat.le_of_ble_eq_true rfl) (Nat.le_of_ble_eq_true rfl) hI (by decide) ?_
  refine gs_dup (pc := 29) (gd gk_0 15 rfl) rfl ?_
  refine gs_callI (as := []) (pc := 30) (gd gk_0 16 rfl) (by decide) rfl rfl rfl (Nat.le_of_ble_eq_true rfl) ⟨(Nat.le_of_ble_eq_true rfl), (Nat.le_of_ble_eq_true rfl), (Nat.le_of_ble_eq_true rfl), (Nat.le_of_ble_eq_true rfl)⟩ (Nat.le_of_ble_eq_true rfl) (k_Morning 26 rfl rfl (by decide) rfl (fun p hp => hI p (by omega))) (fun r_14 w_14 q_14 => ?_)
  obtain ⟨rfl, rfl⟩ := q_14
  refine gs_aastore (v := 26) (pc := 33) (gd gk_0 17 rfl) rfl rfl (by decide) (zvin (n := 14) (by decide) (by decide)) (fun F2 hF2 => ?_)
  obtain rfl : F2 = gN (gG 4) 17 5 := hF2.trans (gN_s rfl)
  refine gs_iinc (ls2 := fun v => [(0, .ref (16)), (1, .int (v))]) (pc := 34) (gd gk_0 18 rfl) rfl (by rw [gL_0]; decide) (fun _ => rfl) (1) rfl (fun v_15 hv_15 => ?_)
  obtain rfl : v_15 = Int32.ofNat 5 := hv_15.trans (by decide)
  refine gs_goto (pc := 37) (gd gk_0 19 rfl) ?_
  refine gs_iload_n (pc := 15) (gd gk_0 8 rfl) rfl ?_
  refine gs_bipush (pc := 16) (gd gk_0 9 rfl) (14) rfl ?_
  refine gs_icmp_ge (pc := 18) (gd gk_0 10 rfl) (fun c_16 => absurd c_16 (by decide)) (fun c_16 => ?_)
  refine gs_aload_n (pc := 21) (gd gk_0 11 rfl) rfl ?_
  refine gs_getR (r := 17) (pc := 22) (gd gk_0 12 rfl) rfl rfl rfl (by decide) ?_
  refine gs_iload_n (pc := 25) (gd gk_0 13 rfl) rfl ?_
  refine gk_new (sh2 := gp n 29) 28 17 (pc := 26) (gd gk_0 14 rfl) rfl rfl (by decide) (by decide) (Nat.le_of_ble_eq_true rfl) (Nat.le_of_ble_eq_true rfl) hI (by decide) ?_
  refine gs_dup (pc := 29) (gd gk_0 15 rfl) rfl ?_
  refine gs_callI (as := []) (pc := 30) (gd gk_0 16 rfl) (by decide) rfl rfl rfl (Nat.le_of_ble_eq_true rfl) ⟨(Nat.le_of_ble_eq_true rfl), (Nat.le_of_ble_eq_true rfl), (Nat.le_of_ble_eq_true rfl), (Nat.le_of_ble_eq_true rfl)⟩ (Nat.le_of_ble_eq_true rfl) (k_Morning 28 rfl rfl (by decide) rfl (fun p hp => hI p (by omega))) (fun r_17 w_17 q_17 => ?_)
  obtain ⟨rfl, rfl⟩ := q_17
  refine gs_aastore (v := 28) (pc := 33) (gd gk_0 17 rfl) rfl rfl (by decide) (zvin (n := 14) (by decide) (by decide)) (fun F2 hF2 => ?_)
  obtain rfl : F2 = gN (gG 4) 17 6 := hF2.trans (gN_s rfl)
  refine gs_iinc (ls2 := fun v => [(0, .ref (16)), (1, .int (v))]) (pc := 34) (gd gk_0 18 rfl) rfl (by rw [gL_0]; decide) (fun _ => rfl) (1) rfl (fun v_18 hv_18 => ?_)
  obtain rfl : v_18 = Int32.ofNat 6 := hv_18.trans (by decide)
  refine gs_goto (pc := 37) (gd gk_0 19 rfl) ?_
  refine gs_iload_n (pc := 15) (gd gk_0 8 rfl) rfl ?_
  refine gs_bipush (pc := 16) (gd gk_0 9 rfl) (14) rfl ?_
  refine gs_icmp_ge (pc := 18) (gd gk_0 10 rfl) (fun c_19 => absurd c_19 (by decide)) (fun c_19 => ?_)
  refine gs_aload_n (pc := 21) (gd gk_0 11 rfl) rfl ?_
  refine gs_getR (r := 17) (pc := 22) (gd gk_0 12 rfl) rfl rfl rfl (by decide) ?_
  refine gs_iload_n (pc := 25) (gd gk_0 13 rfl) rfl ?_
  refine gk_new (sh2 := gp n 31) 30 17 (pc := 26) (gd gk_0 14 rfl) rfl rfl (by decide) (by decide) (Nat.le_of_ble_eq_true rfl) (Nat.le_of_ble_eq_true rfl) hI (by decide) ?_
  refine gs_dup (pc := 29) (gd gk_0 15 rfl) rfl ?_
  refine gs_callI (as := []) (pc := 30) (gd gk_0 16 rfl) (by decide) rfl rfl rfl (Nat.le_of_ble_eq_true rfl) ⟨(Nat.le_of_ble_eq_true rfl), (Nat.le_of_ble_eq_true rfl), (Nat.le_of_ble_eq_true rfl), (Nat.le_of_ble_eq_true rfl)⟩ (Nat.le_of_ble_eq_true rfl) (k_Morning 30 rfl rfl (by decide) rfl (fun p hp => hI p (by omega))) (fun r_20 w_20 q_20 => ?_)
  obtain ⟨rfl, rfl⟩ := q_20
  refine gs_aastore (v := 30) (pc := 33) (gd gk_0 17 rfl) rfl rfl (by decide) (zvin (n := 14) (by decide) (by decide)) (fun F2 hF2 => ?_)
  obtain rfl : F2 = gN (gG 4) 17 7 := hF2.trans (gN_s rfl)
  refine gs_iinc (ls2 := fun v => [(0, .ref (16)), (1, .int (v))]) (pc := 34) (gd gk_0 18 rfl) rfl (by rw [gL_0]; decide) (fun _ => rfl) (1) rfl (fun v_21 hv_21 => ?_)
  obtain rfl : v_21 = Int32.ofNat 7 := hv_21.trans (by decide)
  refine gs_goto (pc := 37) (gd gk_0 19 rfl) ?_
  refine gs_iload_n (pc := 15) (gd gk_0 8 rfl) rfl ?_
  refine gs_bipush (pc := 16) (gd gk_0 9 rfl) (14) rfl ?_
  refine gs_icmp_ge (pc := 18) (gd gk_0 10 rfl) (fun c_22 => absurd c_22 (by decide)) (fun c_22 => ?_)
  refine gs_aload_n (pc := 21) (gd gk_0 11 rfl) rfl ?_
  refine gs_getR (r := 17) (pc := 22) (gd gk_0 12 rfl) rfl rfl rfl (by decide) ?_
  refine gs_iload_n (pc := 25) (gd gk_0 13 rfl) rfl ?_
  refine gk_new (sh2 := gp n 33) 32 17 (pc := 26) (gd gk_0 14 rfl) rfl rfl (by decide) (by decide) (Nat.le_of_ble_eq_true rfl) (Nat.le_of_ble_eq_true rfl) hI (by decide) ?_
  refine gs_dup (pc := 29) (gd gk_0 15 rfl) rfl ?_
  refine gs_callI (as := []) (pc := 30) (gd gk_0 16 rfl) (by decide) rfl rfl rfl (Nat.le_of_ble_eq_true rfl) ⟨(Nat.le_of_ble_eq_true rfl), (Nat.le_of_ble_eq_true rfl), (Nat.le_of_ble_eq_true rfl), (Nat.le_of_ble_eq_true rfl)⟩ (Nat.le_of_ble_eq_true rfl) (k_Morning 32 rfl rfl (by decide) rfl (fun p hp => hI p (by omega))) (fun r_23 w_23 q_23 => ?_)
  obtain ⟨rfl, rfl⟩ := q_23
  refine gs_aastore (v := 32) (pc := 33) (gd gk_0 17 rfl) rfl rfl (by decide) (zvin (n := 14) (by decide) (by decide)) (fun F2 hF2 => ?_)
  obtain rfl : F2 = gN (gG 4) 17 8 := hF2.trans (gN_s rfl)
  refine gs_iinc (ls2 := fun v => [(0, .ref (16)), (1, .int (v))]) (pc := 34) (gd gk_0 18 rfl) rfl (by rw [gL_0]; decide) (fun _ => rfl) (1) rfl (fun v_24 hv_24 => ?_)
  obtain rfl : v_24 = Int32.ofNat 8 := hv_24.trans (by decide)
  refine gs_goto (pc := 37) (gd gk_0 19 rfl) ?_
  refine gs_iload_n (pc := 15) (gd gk_0 8 rfl) rfl ?_
  refine gs_bipush (pc := 16) (gd gk_0 9 rfl) (14) rfl ?_
  refine gs_icmp_ge (pc := 18) (gd gk_0 10 rfl) (fun c_25 => absurd c_25 (by decide)) (fun c_25 => ?_)
  refine gs_aload_n (pc := 21) (gd gk_0 11 rfl) rfl ?_
  refine gs_getR (r := 17) (pc := 22) (gd gk_0 12 rfl) rfl rfl rfl (by decide) ?_
  refine gs_iload_n (pc := 25) (gd gk_0 13 rfl) rfl ?_
  refine gk_new (sh2 := gp n 35) 34 17 (pc := 26) (gd gk_0 14 rfl) rfl rfl (by decide) (by decide) (Nat.le_of_ble_eq_true rfl) (Nat.le_of_ble_eq_true rfl) hI (by decide) ?_
  refine gs_dup (pc := 29) (gd gk_0 15 rfl) rfl ?_
  refine gs_callI (as := []) (pc := 30) (gd gk_0 16 rfl) (by decide) rfl rfl rfl (Nat.le_of_ble_eq_true rfl) ⟨(Nat.le_of_ble_eq_true rfl), (Nat.le_of_ble_eq_true rfl), (Nat.le_of_ble_eq_true rfl), (Nat.le_of_ble_eq_true rfl)⟩ (Nat.le_of_ble_eq_true rfl) (k_Morning 34 rfl rfl (by decide) rfl (fun p hp => hI p (by omega))) (fun r_26 w_26 q_26 => ?_)
  obtain ⟨rfl, rfl⟩ := q_26
  refine gs_aastore (v := 34) (pc := 33) (gd gk_0 17 rfl) rfl rfl (by decide) (zvin (n := 14) (by decide) (by decide)) (fun F2 hF2 => ?_)
  obtain rfl : F2 = gN (gG 4) 17 9 := hF2.trans (gN_s rfl)
  refine gs_iinc (ls2 := fun v => [(0, .ref (16)), (1, .int (v))]) (pc := 34) (gd gk_0 18 rfl) rfl (by rw [gL_0]; decide) (fun _ => rfl) (1) rfl (fun v_27 hv_27 => ?_)
  obtain rfl : v_27 = Int32.ofNat 9 := hv_27.trans (by decide)
  refine gs_goto (pc := 37) (gd gk_0 19 rfl) ?_
  refine gs_iload_n (pc := 15) (gd gk_0 8 rfl) rfl ?_
  refine gs_bipush (pc := 16) (gd gk_0 9 rfl) (14) rfl ?_
  refine gs_icmp_ge (pc := 18) (gd gk_0 10 rfl) (fun c_28 => absurd c_28 (by decide)) (fun c_28 => ?_)
  refine gs_aload_n (pc := 21) (gd gk_0 11 rfl) rfl ?_
  refine gs_getR (r := 17) (pc := 22) (gd gk_0 12 rfl) rfl rfl rfl (by decide) ?_
  refine gs_iload_n (pc := 25) (gd gk_0 13 rfl) rfl ?_
  refine gk_new (sh2 := gp n 37) 36 17 (pc := 26) (gd gk_0 14 rfl) rfl rfl (by decide) (by decide) (Nat.le_of_ble_eq_true rfl) (Nat.le_of_ble_eq_true rfl) hI (by decide) ?_
  refine gs_dup (pc := 29) (gd gk_0 15 rfl) rfl ?_
  refine gs_callI (as := []) (pc := 30) (gd gk_0 16 rfl) (by decide) rfl rfl rfl (Nat.le_of_ble_eq_true rfl) ⟨(Nat.le_of_ble_eq_true rfl), (Nat.le_of_ble_eq_true rfl), (Nat.le_of_ble_eq_true rfl), (Nat.le_of_ble_eq_true rfl)⟩ (Nat.le_of_ble_eq_true rfl) (k_Morning 36 rfl rfl (by decide) rfl (fun p hp => hI p (by omega))) (fun r_29 w_29 q_29 => ?_)
  obtain ⟨rfl, rfl⟩ := q_29
  refine gs_aastore (v := 36) (pc := 33) (gd gk_0 17 rfl) rfl rfl (by decide) (zvin (n := 14) (by decide) (by decide)) (fun F2 hF2 => ?_)
  obtain rfl : F2 = gN (gG 4) 17 10 := hF2.trans (gN_s rfl)
  refine gs_iinc (ls2 := fun v => [(0, .ref (16)), (1, .int (v))]) (pc := 34) (gd gk_0 18 rfl) rfl (by rw [gL_0]; decide) (fun _ => rfl) (1) rfl (fun v_30 hv_30 => ?_)
  obtain rfl : v_30 = Int32.ofNat 10 := hv_30.trans (by decide)
  refine gs_goto (pc := 37) (gd gk_0 19 rfl) ?_
  refine gs_iload_n (pc := 15) (gd gk_0 8 rfl) rfl ?_
  refine gs_bipush (pc := 16) (gd gk_0 9 rfl) (14) rfl ?_
  refine gs_icmp_ge (pc := 18) (gd gk_0 10 rfl) (fun c_31 => absurd c_31 (by decide)) (fun c_31 => ?_)
  refine gs_aload_n (pc := 21) (gd gk_0 11 rfl) rfl ?_
  refine gs_getR (r := 17) (pc := 22) (gd gk_0 12 rfl) rfl rfl rfl (by decide) ?_
  refine gs_iload_n (pc := 25) (gd gk_0 13 rfl) rfl ?_
  refine gk_new (sh2 := gp n 39) 38 17 (pc := 26) (gd gk_0 14 rfl) rfl rfl (by decide) (by decide) (Nat.le_of_ble_eq_true rfl) (Nat.le_of_ble_eq_true rfl) hI (by decide) ?_
  refine gs_dup (pc := 29) (gd gk_0 15 rfl) rfl ?_
  refine gs_callI (as := []) (pc := 30) (gd gk_0 16 rfl) (by decide) rfl rfl rfl (Nat.le_of_ble_eq_true rfl) ⟨(Nat.le_of_ble_eq_true rfl), (Nat.le_of_ble_eq_true rfl), (Nat.le_of_ble_eq_true rfl), (Nat.le_of_ble_eq_true rfl)⟩ (Nat.le_of_ble_eq_true rfl) (k_Morning 38 rfl rfl (by decide) rfl (fun p hp => hI p (by omega))) (fun r_32 w_32 q_32 => ?_)
  obtain ⟨rfl, rfl⟩ := q_32
  refine gs_aastore (v := 38) (pc := 33) (gd gk_0 17 rfl) rfl rfl (by decide) (zvin (n := 14) (by decide) (by decide)) (fun F2 hF2 => ?_)
  obtain rfl : F2 = gN (gG 4) 17 11 := hF2.trans (gN_s rfl)
  refine gs_iinc (ls2 := fun v => [(0, .ref (16)), (1, .int (v))]) (pc := 34) (gd gk_0 18 rfl) rfl (by rw [gL_0]; decide) (fun _ => rfl) (1) rfl (fun v_33 hv_33 => ?_)
  obtain rfl : v_33 = Int32.ofNat 11 := hv_33.trans (by decide)
  refine gs_goto (pc := 37) (gd gk_0 19 rfl) ?_
  refine gs_iload_n (pc := 15) (gd gk_0 8 rfl) rfl ?_
  refine gs_bipush (pc := 16) (gd gk_0 9 rfl) (14) rfl ?_
  refine gs_icmp_ge (pc := 18) (gd gk_0 10 rfl) (fun c_34 => absurd c_34 (by decide)) (fun c_34 => ?_)
  refine gs_aload_n (pc := 21) (gd gk_0 11 rfl) rfl ?_
  refine gs_getR (r := 17) (pc := 22) (gd gk_0 12 rfl) rfl rfl rfl (by decide) ?_
  refine gs_iload_n (pc := 25) (gd gk_0 13 rfl) rfl ?_
  refine gk_new (sh2 := gp n 41) 40 17 (pc := 26) (gd gk_0 14 rfl) rfl rfl (by decide) (by decide) (Nat.le_of_ble_eq_true rfl) (Nat.le_of_ble_eq_true rfl) hI (by decide) ?_
  refine gs_dup (pc := 29) (gd gk_0 15 rfl) rfl ?_
  refine gs_callI (as := []) (pc := 30) (gd gk_0 16 rfl) (by decide) rfl rfl rfl (Nat.le_of_ble_eq_true rfl) ⟨(Nat.le_of_ble_eq_true rfl), (Nat.le_of_ble_eq_true rfl), (Nat.le_of_ble_eq_true rfl), (Nat.le_of_ble_eq_true rfl)⟩ (Nat.le_of_ble_eq_true rfl) (k_Morning 40 rfl rfl (by decide) rfl (fun p hp => hI p (by omega))) (fun r_35 w_35 q_35 => ?_)
  obtain ⟨rfl, rfl⟩ := q_35
  refine gs_aastore (v := 40) (pc := 33) (gd gk_0 17 rfl) rfl rfl (by decide) (zvin (n := 14) (by decide) (by decide)) (fun F2 hF2 => ?_)
  obtain rfl : F2 = gN (gG 4) 17 12 := hF2.trans (gN_s rfl)
  refine gs_iinc (ls2 := fun v => [(0, .ref (16)), (1, .int (v))]) (pc := 34) (gd gk_0 18 rfl) rfl (by rw [gL_0]; decide) (fun _ => rfl) (1) rfl (fun v_36 hv_36 => ?_)
  obtain rfl : v_36 = Int32.ofNat 12 := hv_36.trans (by decide)
  refine gs_goto (pc := 37) (gd gk_0 19 rfl) ?_
  refine gs_iload_n (pc := 15) (gd gk_0 8 rfl) rfl ?_
  refine gs_bipush (pc := 16) (gd gk_0 9 rfl) (14) rfl ?_
  refine gs_icmp_ge (pc := 18) (gd gk_0 10 rfl) (fun c_37 => absurd c_37 (by decide)) (fun c_37 => ?_)
  refine gs_aload_n (pc := 21) (gd gk_0 11 rfl) rfl ?_
  refine gs_getR (r := 17) (pc := 22) (gd gk_0 12 rfl) rfl rfl rfl (by decide) ?_
  refine gs_iload_n (pc := 25) (gd gk_0 13 rfl) rfl ?_
  refine gk_new (sh2 := gp n 43) 42 17 (pc := 26) (gd gk_0 14 rfl) rfl rfl (by decide) (by decide) (Nat.le_of_ble_eq_true rfl) (Nat.le_of_ble_eq_true rfl) hI (by decide) ?_
  refine gs_dup (pc := 29) (gd gk_0 15 rfl) rfl ?_
  refine gs_callI (as := []) (pc := 30) (gd gk_0 16 rfl) (by decide) rfl rfl rfl (Nat.le_of_ble_eq_true rfl) ⟨(Nat.le_of_ble_eq_true rfl), (Nat.le_of_ble_eq_true rfl), (Nat.le_of_ble_eq_true rfl), (Nat.le_of_ble_eq_true rfl)⟩ (Nat.le_of_ble_eq_true rfl) (k_Morning 42 rfl rfl (by decide) rfl (fun p hp => hI p (by omega))) (fun r_38 w_38 q_38 => ?_)
  obtain ⟨rfl, rfl⟩ := q_38
  refine gs_aastore (v := 42) (pc := 33) (gd gk_0 17 rfl) rfl rfl (by decide) (zvin (n := 14) (by decide) (by decide)) (fun F2 hF2 => ?_)
  obtain rfl : F2 = gN (gG 4) 17 13 := hF2.trans (gN_s rfl)
  refine gs_iinc (ls2 := fun v => [(0, .ref (16)), (1, .int (v))]) (pc := 34) (gd gk_0 18 rfl) rfl (by rw [gL_0]; decide) (fun _ => rfl) (1) rfl (fun v_39 hv_39 => ?_)
  obtain rfl : v_39 = Int32.ofNat 13 := hv_39.trans (by decide)
  refine gs_goto (pc := 37) (gd gk_0 19 rfl) ?_
  refine gs_iload_n (pc := 15) (gd gk_0 8 rfl) rfl ?_
  refine gs_bipush (pc := 16) (gd gk_0 9 rfl) (14) rfl ?_
  refine gs_icmp_ge (pc := 18) (gd gk_0 10 rfl) (fun c_40 => absurd c_40 (by decide)) (fun c_40 => ?_)
  refine gs_aload_n (pc := 21) (gd gk_0 11 rfl) rfl ?_
  refine gs_getR (r := 17) (pc := 22) (gd gk_0 12 rfl) rfl rfl rfl (by decide) ?_
  refine gs_iload_n (pc := 25) (gd gk_0 13 rfl) rfl ?_
  refine gk_new (sh2 := gp n 45) 44 17 (pc := 26) (gd gk_0 14 rfl) rfl rfl (by decide) (by decide) (Nat.le_of_ble_eq_true rfl) (Nat.le_of_ble_eq_true rfl) hI (by decide) ?_
  refine gs_dup (pc := 29) (gd gk_0 15 rfl) rfl ?_
  refine gs_callI (as := []) (pc := 30) (gd gk_0 16 rfl) (by decide) rfl rfl rfl (Nat.le_of_ble_eq_true rfl) ⟨(Nat.le_of_ble_eq_true rfl), (Nat.le_of_ble_eq_true rfl), (Nat.le_of_ble_eq_true rfl), (Nat.le_of_ble_eq_true rfl)⟩ (Nat.le_of_ble_eq_true rfl) (k_Morning 44 rfl rfl (by decide) rfl (fun p hp => hI p (by omega))) (fun r_41 w_41 q_41 => ?_)
  obtain ⟨rfl, rfl⟩ := q_41
  refine gs_aastore (v := 44) (pc := 33) (gd gk_0 17 rfl) rfl rfl (by decide) (zvin (n := 14) (by decide) (by decide)) (fun F2 hF2 => ?_)
  obtain rfl : F2 = gN (gG 4) 17 14 := hF2.trans (gN_s rfl)
  refine gs_iinc (ls2 := fun v => [(0, .ref (16)), (1, .int (v))]) (pc := 34) (gd gk_0 18 rfl) rfl (by rw [gL_0]; decide) (fun _ => rfl) (1) rfl (fun v_42 hv_42 => ?_)
  obtain rfl : v_42 = Int32.ofNat 14 := hv_42.trans (by decide)
  refine gs_goto (pc := 37) (gd gk_0 19 rfl) ?_
  refine gs_iload_n (pc := 15) (gd gk_0 8 rfl) rfl ?_
  refine gs_bipush (pc := 16) (gd gk_0 9 rfl) (14) rfl ?_
  refine gs_icmp_ge (pc := 18) (gd gk_0 10 rfl) (fun c_43 => ?_) (fun c_43 => absurd (by decide) c_43)
  refine gs_F1 (F2 := gG 4) 17 (fun a ha => by rw [gN_o ha]) (fun _ => ?_) (fun q => ?_) ?_
  · change ∀ j, j < 14 → _
    decide
  · have q : (14 : Nat) < 12 := q
    omega
  exact gs_ret (pc := 40) (gd gk_0 20 rfl) rfl (Nat.le_of_ble_eq_true rfl) (Nat.le_of_ble_eq_true rfl) ⟨rfl, rfl⟩
theorem k_Slots (hI : gI0 I 47) : gw_E V 27 (0, [(0, .ref 46)], [], (gp n 47, I, gJ0, gw_z (gG 5) 46 1 0), 0, 0) (fun v w' => v = none ∧ w' = (gp n 53, I, gJ0, gG 5)) := by
  refine gs_aload_n (pc := 0) (gd gk_27 0 rfl) rfl ?_
  refine gs_objInit (pc := 1) (gd gk_27 1 rfl) (Nat.le_of_ble_eq_true rfl) (Nat.le_of_ble_eq_true rfl) (Nat.le_of_ble_eq_true rfl) ?_
  refine gs_aload_n (pc := 4) (gd gk_27 2 rfl) rfl ?_
  refine gs_iconst (pc := 5) (gd gk_27 3 rfl) (2) rfl ?_
  refine gk_anew (sh2 := gp n 48) (N := 2) 47 47 (pc := 6) (gd gk_27 4 rfl) rfl rfl (by decide) (by decide) rfl (by decide) (Nat.le_of_ble_eq_true rfl) (Nat.le_of_ble_eq_true rfl) hI (by decide) ?_
  refine gk_putR (pc := 9) (gd gk_27 5 rfl) rfl rfl ⟨rfl, rfl⟩ (fun _ => rfl) (fun _ => rfl) (by decide) ?_
  refine gs_aload_n (pc := 12) (gd gk_27 6 rfl) rfl ?_
  refine gs_iconst (pc := 13) (gd gk_27 7 rfl) (2) rfl ?_
  refine gk_newa (sh2 := gp n 49) (N := 2) 48 47 .boolean (pc := 14) (gd gk_27 8 rfl) (Or.inr ⟨rfl, rfl, rfl⟩) rfl rfl (by decide) (by decide) rfl (by decide) (Nat.le_of_ble_eq_true rfl) (Nat.le_of_ble_eq_true rfl) hI (by decide) ?_
  refine gk_putR (pc := 16) (gd gk_27 9 rfl) rfl rfl ⟨rfl, rfl⟩ (fun _ => rfl) (fun _ => rfl) (by decide) ?_
  refine gs_F1 (F2 := gN (gG 5) 47 0) 46 (fun a ha => ?_) (fun q => ?_) (fun _ => ?_) ?_
  · simp only [gw_uR_o ha]
    funext j
    unfold gN gw_z
    by_cases e : a = 47
    · rw [if_pos ⟨e, Nat.zero_le _⟩, if_pos (by omega)]
    · rw [if_neg (fun h => e h.1), if_neg (by omega), if_neg (by omega)]
  · have q : (6 : Nat) = 14 ∨ (6 : Nat) = 15 := q
    omega
  · change ∀ j, j < gb_K 6 → gb_s 6 j = 2 → _
    decide
  refine gs_iconst (pc := 19) (gd gk_27 10 rfl) (0) rfl ?_
  refine gs_istore_n (ls2 := fun v => [(0, .ref (46)), (1, .int (v))]) (pc := 20) (gd gk_27 11 rfl) (by rw [gL_27]; decide) (fun _ => rfl) (fun v_0 hv_0 => ?_)
  obtain rfl : v_0 = Int32.ofNat 0 := hv_0
  refine gs_iload_n (pc := 21) (gd gk_27 12 rfl) rfl ?_
  refine gs_iconst (pc := 22) (gd gk_27 13 rfl) (2) rfl ?_
  refine gs_icmp_ge (pc := 23) (gd gk_27 14 rfl) (fun c_1 => absurd c_1 (by decide)) (fun c_1 => ?_)
  refine gs_aload_n (pc := 26) (gd gk_27 15 rfl) rfl ?_
  refine gs_getR (r := 47) (pc := 27) (gd gk_27 16 rfl) rfl rfl rfl (by decide) ?_
  refine gs_iload_n (pc := 30) (gd gk_27 17 rfl) rfl ?_
  refine gk_new (sh2 := gp n 50) 49 47 (pc := 31) (gd gk_27 18 rfl) rfl rfl (by decide) (by decide) (Nat.le_of_ble_eq_true rfl) (Nat.le_of_ble_eq_true rfl) hI (by decide) ?_
  refine gs_dup (pc := 34) (gd gk_27 19 rfl) rfl ?_
  refine gs_callI (as := []) (pc := 35) (gd gk_27 20 rfl) (by decide) rfl rfl rfl (Nat.le_of_ble_eq_true rfl) ⟨(Nat.le_of_ble_eq_true rfl), (Nat.le_of_ble_eq_true rfl), (Nat.le_of_ble_eq_true rfl), (Nat.le_of_ble_eq_true rfl)⟩ (Nat.le_of_ble_eq_true rfl) (k_Morning 49 rfl rfl (by decide) rfl (fun p hp => hI p (by omega))) (fun r_2 w_2 q_2 => ?_)
  obtain ⟨rfl, rfl⟩ := q_2
  refine gs_aastore (v := 49) (pc := 38) (gd gk_27 21 rfl) rfl rfl (by decide) (zvin (n := 2) (by decide) (by decide)) (fun F2 hF2 => ?_)
  obtain rfl : F2 = gN (gG 5) 47 1 := hF2.trans (gN_s rfl)
  refine gs_iinc (ls2 := fun v => [(0, .ref (46)), (1, .int (v))]) (pc := 39) (gd gk_27 22 rfl) rfl (by rw [gL_27]; decide) (fun _ => rfl) (1) rfl (fun v_3 hv_3 => ?_)
  obtain rfl : v_3 = Int32.ofNat 1 := hv_3.trans (by decide)
  refine gs_goto (pc := 42) (gd gk_27 23 rfl) ?_
  refine gs_iload_n (pc := 21) (gd gk_27 12 rfl) rfl ?_
  refine gs_iconst (pc := 22) (gd gk_27 13 rfl) (2) rfl ?_
  refine gs_icmp_ge (pc := 23) (gd gk_27 14 rfl) (fun c_4 => absurd c_4 (by decide)) (fun c_4 => ?_)
  refine gs_aload_n (pc := 26) (gd gk_27 15 rfl) rfl ?_
  refine gs_getR (r := 47) (pc := 27) (gd gk_27 16 rfl) rfl rfl rfl (by decide) ?_
  refine gs_iload_n (pc := 30) (gd gk_27 17 rfl) rfl ?_
  refine gk_new (sh2 := gp n 52) 51 47 (pc := 31) (gd gk_27 18 rfl) rfl rfl (by decide) (by decide) (Nat.le_of_ble_eq_true rfl) (Nat.le_of_ble_eq_true rfl) hI (by decide) ?_
  refine gs_dup (pc := 34) (gd gk_27 19 rfl) rfl ?_
  refine gs_callI (as := []) (pc := 35) (gd gk_27 20 rfl) (by decide) rfl rfl rfl (Nat.le_of_ble_eq_true rfl) ⟨(Nat.le_of_ble_eq_true rfl), (Nat.le_of_ble_eq_true rfl), (Nat.le_of_ble_eq_true rfl), (Nat.le_of_ble_eq_true rfl)⟩ (Nat.le_of_ble_eq_true rfl) (k_Morning 51 rfl rfl (by decide) rfl (fun p hp => hI p (by omega))) (fun r_5 w_5 q_5 => ?_)
  obtain ⟨rfl, rfl⟩ := q_5
  refine gs_aastore (v := 51) (pc := 38) (gd gk_27 21 rfl) rfl rfl (by decide) (zvin (n := 2) (by decide) (by decide)) (fun F2 hF2 => ?_)
  obtain rfl : F2 = gN (gG 5) 47 2 := hF2.trans (gN_s rfl)
  refine gs_iinc (ls2 := fun v => [(0, .ref (46)), (1, .int (v))]) (pc := 39) (gd gk_27 22 rfl) rfl (by rw [gL_27]; decide) (fun _ => rfl) (1) rfl (fun v_6 hv_6 => ?_)
  obtain rfl : v_6 = Int32.ofNat 2 := hv_6.trans (by decide)
  refine gs_goto (pc := 42) (gd gk_27 23 rfl) ?_
  refine gs_iload_n (pc := 21) (gd gk_27 12 rfl) rfl ?_
  refine gs_iconst (pc := 22) (gd gk_27 13 rfl) (2) rfl ?_
  refine gs_icmp_ge (pc := 23) (gd gk_27 14 rfl) (fun c_7 => ?_) (fun c_7 => absurd (by decide) c_7)
  refine gs_F1 (F2 := gG 5) 47 (fun a ha => by rw [gN_o ha]) (fun _ => ?_) (fun q => ?_) ?_
  · change ∀ j, j < 2 → _
    decide
  · have q : (14 : Nat) < 12 := q
    omega
  exact gs_ret (pc := 45) (gd gk_27 24 rfl) rfl (Nat.le_of_ble_eq_true rfl) (Nat.le_of_ble_eq_true rfl) ⟨rfl, rfl⟩
theorem k_Sights (hI : gI0 I 54) : gw_E V 23 (0, [(0, .ref 53)], [], (gp n 54, I, gJ0, gw_z (gG 6) 53 1 0), 0, 0) (fun v w' => v = none ∧ w' = (gp n 57, I, gJ0, gG 6)) := by
  refine gs_aload_n (pc := 0) (gd gk_23 0 rfl) rfl ?_
  refine gs_objInit (pc := 1) (gd gk_23 1 rfl) (Nat.le_of_ble_eq_true rfl) (Nat.le_of_ble_eq_true rfl) (Nat.le_of_ble_eq_true rfl) ?_
  refine gs_aload_n (pc := 4) (gd gk_23 2 rfl) rfl ?_
  refine gs_bipush (pc := 5) (gd gk_23 3 rfl) (6) rfl ?_
  refine gk_newa (sh2 := gp n 55) (N := 6) 54 54 .int (pc := 7) (gd gk_23 4 rfl) (Or.inl ⟨rfl, rfl, rfl⟩) rfl rfl (by decide) (by decide) rfl (by decide) (Nat.le_of_ble_eq_true rfl) (Nat.le_of_ble_eq_true rfl) hI (by decide) ?_
  refine gk_putR (pc := 9) (gd gk_23 5 rfl) rfl rfl ⟨rfl, rfl⟩ (fun _ => rfl) (fun _ => rfl) (by decide) ?_
  refine gs_aload_n (pc := 12) (gd gk_23 6 rfl) rfl ?_
  refine gs_bipush (pc := 13) (gd gk_23 7 rfl) (6) rfl ?_
  refine gk_newa (sh2 := gp n 56) (N := 6) 55 54 .int (pc := 15) (gd gk_23 8 rfl) (Or.inl ⟨rfl, rfl, rfl⟩) rfl rfl (by decide) (by decide) rfl (by decide) (Nat.le_of_ble_eq_true rfl) (Nat.le_of_ble_eq_true rfl) hI (by decide) ?_
  refine gk_putR (pc := 17) (gd gk_23 9 rfl) rfl rfl ⟨rfl, rfl⟩ (fun _ => rfl) (fun _ => rfl) (by decide) ?_
  refine gs_aload_n (pc := 20) (gd gk_23 10 rfl) rfl ?_
  refine gs_bipush (pc := 21) (gd gk_23 11 rfl) (6) rfl ?_
  refine gk_newa (sh2 := gp n 57) (N := 6) 56 54 .boolean (pc := 23) (gd gk_23 12 rfl) (Or.inr ⟨rfl, rfl, rfl⟩) rfl rfl (by decide) (by decide) rfl (by decide) (Nat.le_of_ble_eq_true rfl) (Nat.le_of_ble_eq_true rfl) hI (by decide) ?_
  refine gk_putR (pc := 25) (gd gk_23 13 rfl) rfl rfl ⟨rfl, rfl⟩ (fun _ => rfl) (fun _ => rfl) (by decide) ?_
  refine gs_F1 (F2 := gG 6) 53 (fun a ha => by simp only [gw_uR_o ha, gw_z_o ha]) (fun q => ?_) (fun _ => ?_) ?_
  · have q : (5 : Nat) = 14 ∨ (5 : Nat) = 15 := q
    omega
  · change ∀ j, j < gb_K 5 → gb_s 5 j = 2 → _
    decide
  exact gs_ret (pc := 28) (gd gk_23 14 rfl) rfl (Nat.le_of_ble_eq_true rfl) (Nat.le_of_ble_eq_true rfl) ⟨rfl, rfl⟩
theorem k_Walk (hI : gI0 I 58) : gw_E V 49 (0, [(0, .ref 57), (1, .ref 6)], [], (gp n 58, I, gJ0, gw_z (gG 7) 57 1 0), 0, 0) (fun v w' => v = none ∧ w' = (gp n 81, I, gJ0, gG 7)) := by
  refine gs_aload_n (pc := 0) (gd gk_49 0 rfl) rfl ?_
  refine gs_objInit (pc := 1) (gd gk_49 1 rfl) (Nat.le_of_ble_eq_true rfl) (Nat.le_of_ble_eq_true rfl) (Nat.le_of_ble_eq_true rfl) ?_
  refine gs_aload_n (pc := 4) (gd gk_49 2 rfl) rfl ?_
  refine gs_bipush (pc := 5) (gd gk_49 3 rfl) (9) rfl ?_
  refine gs_bipush (pc := 7) (gd gk_49 4 rfl) (10) rfl ?_
  refine gk_mnew (sh2 := gp n 68) (N := 9) (K := 10) 58 58 (pc := 9) (gd gk_49 5 rfl) rfl rfl (by decide) (by decide) (by decide) rfl rfl (by decide) (by decide) (Nat.le_of_ble_eq_true rfl) (Nat.le_of_ble_eq_true rfl) hI (by decide) (by decide) ?_
  refine gk_putR (pc := 13) (gd gk_49 6 rfl) rfl rfl ⟨rfl, rfl⟩ (fun _ => rfl) (fun _ => rfl) (by decide) ?_
  refine gs_aload_n (pc := 16) (gd gk_49 7 rfl) rfl ?_
  refine gs_bipush (pc := 17) (gd gk_49 8 rfl) (9) rfl ?_
  refine gs_bipush (pc := 19) (gd gk_49 9 rfl) (6) rfl ?_
  refine gk_mnew (sh2 := gp n 78) (N := 9) (K := 6) 68 58 (pc := 21) (gd gk_49 10 rfl) rfl rfl (by decide) (by decide) (by decide) rfl rfl (by decide) (by decide) (Nat.le_of_ble_eq_true rfl) (Nat.le_of_ble_eq_true rfl) hI (by decide) (by decide) ?_
  refine gk_putR (pc := 25) (gd gk_49 11 rfl) rfl rfl ⟨rfl, rfl⟩ (fun _ => rfl) (fun _ => rfl) (by decide) ?_
  refine gs_aload_n (pc := 28) (gd gk_49 12 rfl) rfl ?_
  refine gs_bipush (pc := 29) (gd gk_49 13 rfl) (9) rfl ?_
  refine gk_newa (sh2 := gp n 79) (N := 9) 78 58 .int (pc := 31) (gd gk_49 14 rfl) (Or.inl ⟨rfl, rfl, rfl⟩) rfl rfl (by decide) (by decide) rfl (by decide) (Nat.le_of_ble_eq_true rfl) (Nat.le_of_ble_eq_true rfl) hI (by decide) ?_
  refine gk_putR (pc := 33) (gd gk_49 15 rfl) rfl rfl ⟨rfl, rfl⟩ (fun _ => rfl) (fun _ => rfl) (by decide) ?_
  refine gs_aload_n (pc := 36) (gd gk_49 16 rfl) rfl ?_
  refine gs_bipush (pc := 37) (gd gk_49 17 rfl) (9) rfl ?_
  refine gk_newa (sh2 := gp n 80) (N := 9) 79 58 .int (pc := 39) (gd gk_49 18 rfl) (Or.inl ⟨rfl, rfl, rfl⟩) rfl rfl (by decide) (by decide) rfl (by decide) (Nat.le_of_ble_eq_true rfl) (Nat.le_of_ble_eq_true rfl) hI (by decide) ?_
  refine gk_putR (pc := 41) (gd gk_49 19 rfl) rfl rfl ⟨rfl, rfl⟩ (fun _ => rfl) (fun _ => rfl) (by decide) ?_
  refine gs_aload_n (pc := 44) (gd gk_49 20 rfl) rfl ?_
  refine gs_bipush (pc := 45) (gd gk_49 21 rfl) (9) rfl ?_
  refine gk_newa (sh2 := gp n 81) (N := 9) 80 58 .int (pc := 47) (gd gk_49 22 rfl) (Or.inl ⟨rfl, rfl, rfl⟩) rfl rfl (by decide) (by decide) rfl (by decide) (Nat.le_of_ble_eq_true rfl) (Nat.le_of_ble_eq_true rfl) hI (by decide) ?_
  refine gk_putR (pc := 49) (gd gk_49 23 rfl) rfl rfl ⟨rfl, rfl⟩ (fun _ => rfl) (fun _ => rfl) (by decide) ?_
  refine gs_aload_n (pc := 52) (gd gk_49 24 rfl) rfl ?_
  refine gs_aload_n (pc := 53) (gd gk_49 25 rfl) rfl ?_
  refine gk_putR (pc := 54) (gd gk_49 26 rfl) rfl rfl ⟨rfl, rfl⟩ (fun _ => rfl) (fun _ => rfl) (by decide) ?_
  refine gs_F1 (F2 := gG 7) 57 (fun a ha => by simp only [gw_uR_o ha, gw_z_o ha]) (fun q => ?_) (fun _ => ?_) ?_
  · have q : (9 : Nat) = 14 ∨ (9 : Nat) = 15 := q
    omega
  · change ∀ j, j < gb_K 9 → gb_s 9 j = 2 → _
    decide
  exact gs_ret (pc := 57) (gd gk_49 27 rfl) rfl (Nat.le_of_ble_eq_true rfl) (Nat.le_of_ble_eq_true rfl) ⟨rfl, rfl⟩
theorem k_Choice (hI : gI0 I 82) : gw_E V 4 (0, [(0, .ref 81), (1, .ref 57)], [], (gp n 82, I, gJ0, gw_z (gG 8) 81 1 0), 0, 0) (fun v w' => v = none ∧ w' = (gp n 82, I, gJ0, gG 8)) := by
  refine gs_aload_n (pc := 0) (gd gk_4 0 rfl) rfl ?_
  refine gs_objInit (pc := 1) (gd gk_4 1 rfl) (Nat.le_of_ble_eq_true rfl) (Nat.le_of_ble_eq_true rfl) (Nat.le_of_ble_eq_true rfl) ?_
  refine gs_aload_n (pc := 4) (gd gk_4 2 rfl) rfl ?_
  refine gs_aload_n (pc := 5) (gd gk_4 3 rfl) rfl ?_
  refine gk_putR (pc := 6) (gd gk_4 4 rfl) rfl rfl ⟨rfl, rfl⟩ (fun _ => rfl) (fun _ => rfl) (by decide) ?_
  refine gs_F1 (F2 := gG 8) 81 (fun a ha => by simp only [gw_uR_o ha, gw_z_o ha]) (fun q => ?_) (fun _ => ?_) ?_
  · have q : (1 : Nat) = 14 ∨ (1 : Nat) = 15 := q
    omega
  · change ∀ j, j < gb_K 1 → gb_s 1 j = 2 → _
    decide
  exact gs_ret (pc := 9) (gd gk_4 5 rfl) rfl (Nat.le_of_ble_eq_true rfl) (Nat.le_of_ble_eq_true rfl) ⟨rfl, rfl⟩
theorem k_Groups (hI : gI0 I 83) : gw_E V 8 (0, [(0, .ref 82), (1, .ref 6), (2, .ref 57)], [], (gp n 83, I, gJ0, gw_z (gG 9) 82 1 0), 0, 0) (fun v w' => v = none ∧ w' = (gp n 85, I, gJ0, gG 9)) := by
  refine gs_aload_n (pc := 0) (gd gk_8 0 rfl) rfl ?_
  refine gs_objInit (pc := 1) (gd gk_8 1 rfl) (Nat.le_of_ble_eq_true rfl) (Nat.le_of_ble_eq_true rfl) (Nat.le_of_ble_eq_true rfl) ?_
  refine gs_aload_n (pc := 4) (gd gk_8 2 rfl) rfl ?_
  refine gs_bipush (pc := 5) (gd gk_8 3 rfl) (64) rfl ?_
  refine gk_newa (sh2 := gp n 84) (N := 64) 83 83 .int (pc := 7) (gd gk_8 4 rfl) (Or.inl ⟨rfl, rfl, rfl⟩) rfl rfl (by decide) (by decide) rfl (by decide) (Nat.le_of_ble_eq_true rfl) (Nat.le_of_ble_eq_true rfl) hI (by decide) ?_
  refine gk_putR (pc := 9) (gd gk_8 5 rfl) rfl rfl ⟨rfl, rfl⟩ (fun _ => rfl) (fun _ => rfl) (by decide) ?_
  refine gs_aload_n (pc := 12) (gd gk_8 6 rfl) rfl ?_
  refine gs_bipush (pc := 13) (gd gk_8 7 rfl) (64) rfl ?_
  refine gk_newa (sh2 := gp n 85) (N := 64) 84 83 .int (pc := 15) (gd gk_8 8 rfl) (Or.inl ⟨rfl, rfl, rfl⟩) rfl rfl (by decide) (by decide) rfl (by decide) (Nat.le_of_ble_eq_true rfl) (Nat.le_of_ble_eq_true rfl) hI (by decide) ?_
  refine gk_putR (pc := 17) (gd gk_8 9 rfl) rfl rfl ⟨rfl, rfl⟩ (fun _ => rfl) (fun _ => rfl) (by decide) ?_
  refine gs_aload_n (pc := 20) (gd gk_8 10 rfl) rfl ?_
  refine gs_aload_n (pc := 21) (gd gk_8 11 rfl) rfl ?_
  refine gk_putR (pc := 22) (gd gk_8 12 rfl) rfl rfl ⟨rfl, rfl⟩ (fun _ => rfl) (fun _ => rfl) (by decide) ?_
  refine gs_aload_n (pc := 25) (gd gk_8 13 rfl) rfl ?_
  refine gs_aload_n (pc := 26) (gd gk_8 14 rfl) rfl ?_
  refine gk_putR (pc := 27) (gd gk_8 15 rfl) rfl rfl ⟨rfl, rfl⟩ (fun _ => rfl) (fun _ => rfl) (by decide) ?_
  refine gs_F1 (F2 := gG 9) 82 (fun a ha => by simp only [gw_uR_o ha, gw_z_o ha]) (fun q => ?_) (fun _ => ?_) ?_
  · have q : (2 : Nat) = 14 ∨ (2 : Nat) = 15 := q
    omega
  · change ∀ j, j < gb_K 2 → gb_s 2 j = 2 → _
    decide
  exact gs_ret (pc := 30) (gd gk_8 16 rfl) rfl (Nat.le_of_ble_eq_true rfl) (Nat.le_of_ble_eq_true rfl) ⟨rfl, rfl⟩
theorem k_Rivals (hI : gI0 I 86) : gw_E V 16 (0, [(0, .ref 85), (1, .ref 6), (2, .ref 57)], [], (gp n 86, I, gJ0, gw_z (gG 10) 85 1 0), 0, 0) (fun v w' => v = none ∧ w' = (gp n 126, I, gJ0, gG 10)) := by
  refine gs_aload_n (pc := 0) (gd gk_16 0 rfl) rfl ?_
  refine gs_objInit (pc := 1) (gd gk_16 1 rfl) (Nat.le_of_ble_eq_true rfl) (Nat.le_of_ble_eq_true rfl) (Nat.le_of_ble_eq_true rfl) ?_
  refine gs_aload_n (pc := 4) (gd gk_16 2 rfl) rfl ?_
  refine gs_bipush (pc := 5) (gd gk_16 3 rfl) (9) rfl ?_
  refine gs_bipush (pc := 7) (gd gk_16 4 rfl) (48) rfl ?_
  refine gk_mnew (sh2 := gp n 96) (N := 9) (K := 48) 86 86 (pc := 9) (gd gk_16 5 rfl) rfl rfl (by decide) (by decide) (by decide) rfl rfl (by decide) (by decide) (Nat.le_of_ble_eq_true rfl) (Nat.le_of_ble_eq_true rfl) hI (by decide) (by decide) ?_
  refine gk_putR (pc := 13) (gd gk_16 6 rfl) rfl rfl ⟨rfl, rfl⟩ (fun _ => rfl) (fun _ => rfl) (by decide) ?_
  refine gs_aload_n (pc := 16) (gd gk_16 7 rfl) rfl ?_
  refine gs_bipush (pc := 17) (gd gk_16 8 rfl) (9) rfl ?_
  refine gs_bipush (pc := 19) (gd gk_16 9 rfl) (48) rfl ?_
  refine gk_mnew (sh2 := gp n 106) (N := 9) (K := 48) 96 86 (pc := 21) (gd gk_16 10 rfl) rfl rfl (by decide) (by decide) (by decide) rfl rfl (by decide) (by decide) (Nat.le_of_ble_eq_true rfl) (Nat.le_of_ble_eq_true rfl) hI (by decide) (by decide) ?_
  refine gk_putR (pc := 25) (gd gk_16 11 rfl) rfl rfl ⟨rfl, rfl⟩ (fun _ => rfl) (fun _ => rfl) (by decide) ?_
  refine gs_aload_n (pc := 28) (gd gk_16 12 rfl) rfl ?_
  refine gs_bipush (pc := 29) (gd gk_16 13 rfl) (9) rfl ?_
  refine gs_bipush (pc := 31) (gd gk_16 14 rfl) (9) rfl ?_
  refine gk_mnew (sh2 := gp n 116) (N := 9) (K := 9) 106 86 (pc := 33) (gd gk_16 15 rfl) rfl rfl (by decide) (by decide) (by decide) rfl rfl (by decide) (by decide) (Nat.le_of_ble_eq_true rfl) (Nat.le_of_ble_eq_true rfl) hI (by decide) (by decide) ?_
  refine gk_putR (pc := 37) (gd gk_16 16 rfl) rfl rfl ⟨rfl, rfl⟩ (fun _ => rfl) (fun _ => rfl) (by decide) ?_
  refine gs_aload_n (pc := 40) (gd gk_16 17 rfl) rfl ?_
  refine gs_bipush (pc := 41) (gd gk_16 18 rfl) (9) rfl ?_
  refine gs_bipush (pc := 43) (gd gk_16 19 rfl) (9) rfl ?_
  refine gk_mnew (sh2 := gp n 126) (N := 9) (K := 9) 116 86 (pc := 45) (gd gk_16 20 rfl) rfl rfl (by decide) (by decide) (by decide) rfl rfl (by decide) (by decide) (Nat.le_of_ble_eq_true rfl) (Nat.le_of_ble_eq_true rfl) hI (by decide) (by decide) ?_
  refine gk_putR (pc := 49) (gd gk_16 21 rfl) rfl rfl ⟨rfl, rfl⟩ (fun _ => rfl) (fun _ => rfl) (by decide) ?_
  refine gs_aload_n (pc := 52) (gd gk_16 22 rfl) rfl ?_
  refine gs_aload_n (pc := 53) (gd gk_16 23 rfl) rfl ?_
  refine gk_putR (pc := 54) (gd gk_16 24 rfl) rfl rfl ⟨rfl, rfl⟩ (fun _ => rfl) (fun _ => rfl) (by decide) ?_
  refine gs_aload_n (pc := 57) (gd gk_16 25 rfl) rfl ?_
  refine gs_aload_n (pc := 58) (gd gk_16 26 rfl) rfl ?_
  refine gk_putR (pc := 59) (gd gk_16 27 rfl) rfl rfl ⟨rfl, rfl⟩ (fun _ => rfl) (fun _ => rfl) (by decide) ?_
  refine gs_F1 (F2 := gG 10) 85 (fun a ha => by simp only [gw_uR_o ha, gw_z_o ha]) (fun q => ?_) (fun _ => ?_) ?_
  · have q : (4 : Nat) = 14 ∨ (4 : Nat) = 15 := q
    omega
  · change ∀ j, j < gb_K 4 → gb_s 4 j = 2 → _
    decide
  exact gs_ret (pc := 62) (gd gk_16 28 rfl) rfl (Nat.le_of_ble_eq_true rfl) (Nat.le_of_ble_eq_true rfl) ⟨rfl, rfl⟩
end
