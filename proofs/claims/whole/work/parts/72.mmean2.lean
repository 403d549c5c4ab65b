/-! ===== mean, fair: the reference ===== -/
theorem gq_hc_one {σ : Nat → Nat → Int32} {sm : Nat → Int32} {bk ea : Bool} {so : Nat → Bool} {m : Nat} : ∀ k, (∀ j, j < k → so j = decide (m = j)) → gq_hc σ sm bk ea so k = (if bk then -σ 0 2 else 0) + (if m < k then gq_due σ m (gq_has σ sm m) ea else 0)
  | 0, _ => by unfold gq_hc; rw [if_neg (Nat.not_lt_zero m), Int32.add_zero]
  | k + 1, h => by
    unfold gq_hc
    rw [gq_hc_one k (fun j hj => h j (by omega)), h k (by omega)]
    by_cases e : m = k
    · subst e
      rw [if_neg (Nat.lt_irrefl m), if_pos (Nat.lt_succ_self m), if_pos (decide_eq_true rfl), Int32.add_zero]
    · by_cases e2 : m < k
      · rw [if_pos e2, if_pos (show m < k + 1 by omega), if_neg (show ¬ decide (m = k) = true by simp [e]), Int32.add_zero]
      · rw [if_neg e2, if_neg (show ¬ m < k + 1 by omega), if_neg (show ¬ decide (m = k) = true by simp [e]), Int32.add_zero]
theorem gq_cm_one {σ : Nat → Nat → Int32} {wd : Nat → Int32} {pl : Nat → Bool} {bc : Nat} {ch : Int32} {s0 : Nat → Int32} {so : Nat → Bool} {N m : Nat} (hm : m < N) (h : ∀ j, j < N → so j = decide (m = j)) : ∀ g, gq_cm σ wd pl bc ch s0 so N g + σ 0 2 * gy_k pl g = gq_pd σ wd pl bc ch s0 m g
  | 0 => by show (0 : Int32) + σ 0 2 * 0 = 0; grind
  | g + 1 => by
    have ih := gq_cm_one (σ := σ) (wd := wd) (pl := pl) (bc := bc) (ch := ch) (s0 := s0) hm h g
    unfold gq_cm gq_pd gy_k
    rw [gq_hc_one N h, if_pos hm, ← ih]
    cases pl g <;> simp <;> grind
theorem gy_n_le (c : Nat → Bool) : ∀ k, gy_n c k ≤ k
  | 0 => Nat.le_refl _
  | k + 1 => by
    unfold gy_n
    have := gy_n_le c k
    split <;> omega
section
variable {V : gw_V} {n W N h0 L bc : Nat} {I : Nat → Nat → Int32} {J : Nat → Nat → Int64}
theorem m_mean (pl x : Int32) (up : Bool) (hn : gm_now I W N h0 L bc) : gw_E V 152 (0, [(0, .ref 126), (1, .int pl), (2, .int x), (3, .int (gz_b up))], [], gS n I J, 0, 0) (fun v w' => v = some (.long (gy_a (gz_M I) (gy_m (gz_M I) h0) W N h0 L bc (I 133 10) (I 133) pl x none (10 ^ gy_n (gy_m (gz_M I) h0) W) up)) ∧ ∃ I2 J2, w' = gS n I2 J2 ∧ gm_qf I I2 ∧ ∀ p q, ¬ (p = 126 ∧ q = 29) → J2 p q = J p q) := by
  have hW8 : W ≤ 8 := hn.1.2.1
  have hW : h0 + L = W := hn.2.2.1
  by_cases hx : 0 ≤ x ∧ x ≤ 10
  · obtain ⟨e, rfl, he⟩ := zto (b := 10) (by decide) hx
    have hb := gy_T_b2 (gy_m (gz_M I) h0) (v := gy_vi (gz_M I) N h0 L bc (I 133 10) (I 133) pl none) he hW8 (gy_v_b (W := W) hn.1 (by omega) (fun m q9 => by cases q9))
    have hnn := gy_n_le (gy_m (gz_M I) h0) W
    have h10 := (gy_10 (gy_n (gy_m (gz_M I) h0) W) (by omega)).2
    have hv : ∀ wd, gq_cm (gz_M I) wd (gq_p0 pl h0) bc (I 133 10) (I 133) (fun m => gz_in 63 (Int32.ofNat m)) N L + (if true then 0 else gz_M I 0 2 * gz_on (pl &&& gz_lf W h0) 8) = gy_u (gz_M I) N h0 L bc (I 133 10) (I 133) pl none wd := fun wd => by
      rw [if_pos rfl, Int32.add_zero]
      exact gq_cm_k (gq_sim_rf _ N) (fun _ _ => rfl) (fun _ _ => rfl) (fun _ _ => rfl) (gm_all hn.1.2.2.2.1) (gq_ok_n hn.1) L (Nat.le_refl L)
    generalize hA : gy_T (gy_m (gz_M I) h0) e (10 - e) W (gy_vi (gz_M I) N h0 L bc (I 133 10) (I 133) pl none) = A at hb
    generalize hB : 10 ^ gy_n (gy_m (gz_M I) h0) W = B at h10
    have hg := Nat.gcd_le_right A.natAbs h10.1
    have hg0 := Nat.gcd_pos_of_pos_right A.natAbs h10.1
    have hne : ¬ Int64.ofNat (Nat.gcd A.natAbs B) = 0 := fun q => by have := (zn64 (by omega)).mp q; omega
    have hd := gz_fr_div (A := A) (B := B) (by omega) (by omega) h10.1 h10.2
    refine gs_iload_n (pc := 0) (gd gk_152 0 rfl) rfl ?_
    refine gs_i2l (pc := 1) (gd gk_152 1 rfl) ?_
    refine gs_lconst (pc := 2) (gd gk_152 2 rfl) (0) rfl ?_
    refine gs_ldc2_w (pc := 3) (gd gk_152 3 rfl) (255) rfl ?_
    refine gs_callS (as := [.long ((pl : Int32).toInt64), .long (0), .long (255)]) (pc := 6) (gd gk_152 4 rfl) (by decide) rfl rfl (Nat.le_of_ble_eq_true rfl) gq_152_107 (Nat.le_of_ble_eq_true rfl) (c_mrg (pl) (0) (255)) (fun r_6 w_6 q_6 => ?_)
    obtain ⟨rfl, rfl⟩ := q_6
    refine gs_if_eq (pc := 9) (gd gk_152 5 rfl) (fun c9 => ?_) (fun c9 => ?_)
    · refine gs_ldc2_w (pc := 24) (gd gk_152 12 rfl) (-1000000000002) rfl ?_
      -- end 1: lreturn (-1000000000002), pc 27, locals [(0, .ref (126)), (1, .int (pl)), (2, .int (Int32.ofNat e)), (3, .int (gz_b up))]
      exact gs_lret (pc := 27) (gd gk_152 13 rfl) rfl (Nat.zero_le _) (Nat.zero_le _) (⟨by unfold gy_a; rw [gz_b_eq.mp c9]; rfl, I, J, rfl, gm_qf_rf I, fun _ _ _ => rfl⟩)
    · refine gs_iload_n (pc := 12) (gd gk_152 6 rfl) rfl ?_
      refine gs_i2l (pc := 13) (gd gk_152 7 rfl) ?_
      refine gs_lconst (pc := 14) (gd gk_152 8 rfl) (0) rfl ?_
      refine gs_ldc2_w (pc := 15) (gd gk_152 9 rfl) (10) rfl ?_
      refine gs_callS (as := [.long ((Int32.ofNat e : Int32).toInt64), .long (0), .long (10)]) (pc := 18) (gd gk_152 10 rfl) (by decide) rfl rfl (Nat.le_of_ble_eq_true rfl) gq_152_107 (Nat.le_of_ble_eq_true rfl) (c_mrg (Int32.ofNat e) (0) (10)) (fun r_18 w_18 q_18 => ?_)
      obtain ⟨rfl, rfl⟩ := q_18
      refine gs_if_ne (pc := 21) (gd gk_152 11 rfl) (fun c21 => ?_) (fun c21 => ?_)
      · refine gs_aload_n (pc := 28) (gd gk_152 14 rfl) rfl ?_
        refine gs_iload_n (pc := 29) (gd gk_152 15 rfl) rfl ?_
        refine gs_iload_n (pc := 30) (gd gk_152 16 rfl) rfl ?_
        refine gs_bipush (pc := 31) (gd gk_152 17 rfl) (63) rfl ?_
        refine gs_iconst (pc := 33) (gd gk_152 18 rfl) (1) rfl ?_
        refine gs_callV (as := [.int (pl), .int (Int32.ofNat e), .int (63), .int (1)]) (pc := 34) (gd gk_152 19 rfl) (by decide) rfl (by decide) rfl rfl (Nat.le_of_ble_eq_true rfl) gq_152_151 (Nat.le_of_ble_eq_true rfl) (m_meanOf none 63 pl true e he hn hv) (fun r_34 w_34 q_34 => ?_)
        obtain ⟨rfl, I_m, J_m, rfl, m1, m2, m3⟩ := q_34
        rw [hA]
        have m2 : J_m 126 29 = Int64.ofNat B := by rw [m2, ← hB, ← Int64.ofInt_eq_ofNat, Int.natCast_pow]; rfl
        refine gs_lstore (ls2 := fun v => [(0, .ref (126)), (1, .int (pl)), (2, .int (Int32.ofNat e)), (3, .int (gz_b up)), (4, .long (v))]) (pc := 37) (gd gk_152 20 rfl) (by rw [gL_152]; decide) (fun _ => rfl) (fun u4_1 hu4_1 => ?_)
        obtain rfl := hu4_1
        refine gs_lload (pc := 39) (gd gk_152 21 rfl) rfl ?_
        refine gs_aload_n (pc := 41) (gd gk_152 22 rfl) rfl ?_
        refine gs_getJ (pc := 42) (gd gk_152 23 rfl) rfl rfl ?_
        refine gs_callS (as := [.long (Int64.ofInt A), .long ((J_m 126 29))]) (pc := 45) (gd gk_152 24 rfl) (by decide) rfl rfl (Nat.le_of_ble_eq_true rfl) gq_152_141 (Nat.le_of_ble_eq_true rfl) ((by rw [m2]; exact m_common A B hb.1 hb.2 h10.2)) (fun r_45 w_45 q_45 => ?_)
        obtain ⟨rfl, rfl⟩ := q_45
        refine gs_lstore (ls2 := fun v => [(0, .ref (126)), (1, .int (pl)), (2, .int (Int32.ofNat e)), (3, .int (gz_b up)), (4, .long (Int64.ofInt A)), (6, .long (v))]) (pc := 48) (gd gk_152 25 rfl) (by rw [gL_152]; decide) (fun _ => rfl) (fun u6_1 hu6_1 => ?_)
        refine gs_iload_n (pc := 50) (gd gk_152 26 rfl) rfl ?_
        refine gs_if_eq (pc := 51) (gd gk_152 27 rfl) (fun c51 => ?_) (fun c51 => ?_)
        · refine gs_aload_n (pc := 62) (gd gk_152 32 rfl) rfl ?_
          refine gs_getJ (pc := 63) (gd gk_152 33 rfl) rfl rfl ?_
          refine gs_lload (pc := 66) (gd gk_152 34 rfl) rfl ?_
          refine gs_ldiv (pc := 68) (gd gk_152 35 rfl) (by rw [hu6_1]; exact hne) ?_
          -- end 2: lreturn ((J_m 126 29) / u6_1), pc 69, locals [(0, .ref (126)), (1, .int (pl)), (2, .int (Int32.ofNat e)), (3, .int (gz_b up)), (4, .long (Int64.ofInt A)), (6, .long (u6_1))]
          exact gs_lret (pc := 69) (gd gk_152 36 rfl) rfl (Nat.zero_le _) (Nat.zero_le _) (⟨by unfold gy_a; rw [gz_b_ne.mp c9, gz_b_ne.mp c21, znn (by omega), hA, gz_b_eq.mp c51, hu6_1, m2, hd.2]; rfl, I_m, J_m, rfl, m1, m3⟩)
        · refine gs_lload (pc := 54) (gd gk_152 28 rfl) rfl ?_
          refine gs_lload (pc := 56) (gd gk_152 29 rfl) rfl ?_
          refine gs_ldiv (pc := 58) (gd gk_152 30 rfl) (by rw [hu6_1]; exact hne) ?_
          refine gs_goto (pc := 59) (gd gk_152 31 rfl) ?_
          -- end 3: lreturn (Int64.ofInt A / u6_1), pc 69, locals [(0, .ref (126)), (1, .int (pl)), (2, .int (Int32.ofNat e)), (3, .int (gz_b up)), (4, .long (Int64.ofInt A)), (6, .long (u6_1))]
          exact gs_lret (pc := 69) (gd gk_152 36 rfl) rfl (Nat.zero_le _) (Nat.zero_le _) (⟨by unfold gy_a; rw [gz_b_ne.mp c9, gz_b_ne.mp c21, znn (by omega), hA, gz_b_ne.mp c51, hu6_1, hd.1]; rfl, I_m, J_m, rfl, m1, m3⟩)
      · refine gs_ldc2_w (pc := 24) (gd gk_152 12 rfl) (-1000000000002) rfl ?_
        -- end 4: lreturn (-1000000000002), pc 27, locals [(0, .ref (126)), (1, .int (pl)), (2, .int (Int32.ofNat e)), (3, .int (gz_b up))]
        exact gs_lret (pc := 27) (gd gk_152 13 rfl) rfl (Nat.zero_le _) (Nat.zero_le _) (⟨by unfold gy_a; rw [gz_b_eq.mp c21, Bool.and_false]; rfl, I, J, rfl, gm_qf_rf I, fun _ _ _ => rfl⟩)
  · skip
    refine gs_iload_n (pc := 0) (gd gk_152 0 rfl) rfl ?_
    refine gs_i2l (pc := 1) (gd gk_152 1 rfl) ?_
    refine gs_lconst (pc := 2) (gd gk_152 2 rfl) (0) rfl ?_
    refine gs_ldc2_w (pc := 3) (gd gk_152 3 rfl) (255) rfl ?_
    refine gs_callS (as := [.long ((pl : Int32).toInt64), .long (0), .long (255)]) (pc := 6) (gd gk_152 4 rfl) (by decide) rfl rfl (Nat.le_of_ble_eq_true rfl) gq_152_107 (Nat.le_of_ble_eq_true rfl) (c_mrg (pl) (0) (255)) (fun r_6 w_6 q_6 => ?_)
    obtain ⟨rfl, rfl⟩ := q_6
    refine gs_if_eq (pc := 9) (gd gk_152 5 rfl) (fun c9 => ?_) (fun c9 => ?_)
    · refine gs_ldc2_w (pc := 24) (gd gk_152 12 rfl) (-1000000000002) rfl ?_
      -- end 1: lreturn (-1000000000002), pc 27, locals [(0, .ref (126)), (1, .int (pl)), (2, .int (x)), (3, .int (gz_b up))]
      exact gs_lret (pc := 27) (gd gk_152 13 rfl) rfl (Nat.zero_le _) (Nat.zero_le _) (⟨by unfold gy_a; rw [gz_b_eq.mp c9]; rfl, I, J, rfl, gm_qf_rf I, fun _ _ _ => rfl⟩)
    · refine gs_iload_n (pc := 12) (gd gk_152 6 rfl) rfl ?_
      refine gs_i2l (pc := 13) (gd gk_152 7 rfl) ?_
      refine gs_lconst (pc := 14) (gd gk_152 8 rfl) (0) rfl ?_
      refine gs_ldc2_w (pc := 15) (gd gk_152 9 rfl) (10) rfl ?_
      refine gs_callS (as := [.long ((x : Int32).toInt64), .long (0), .long (10)]) (pc := 18) (gd gk_152 10 rfl) (by decide) rfl rfl (Nat.le_of_ble_eq_true rfl) gq_152_107 (Nat.le_of_ble_eq_true rfl) (c_mrg (x) (0) (10)) (fun r_18 w_18 q_18 => ?_)
      obtain ⟨rfl, rfl⟩ := q_18
      refine gs_if_ne (pc := 21) (gd gk_152 11 rfl) (fun c21 => ?_) (fun c21 => ?_)
      · -- end 2: stop, pc 28, locals [(0, .ref (126)), (1, .int (pl)), (2, .int (x)), (3, .int (gz_b up))]
        exact absurd (gz_rg_t.mp (gz_b_ne.mp c21)) hx
      · refine gs_ldc2_w (pc := 24) (gd gk_152 12 rfl) (-1000000000002) rfl ?_
        -- end 3: lreturn (-1000000000002), pc 27, locals [(0, .ref (126)), (1, .int (pl)), (2, .int (x)), (3, .int (gz_b up))]
        exact gs_lret (pc := 27) (gd gk_152 13 rfl) rfl (Nat.zero_le _) (Nat.zero_le _) (⟨by unfold gy_a; rw [gz_b_eq.mp c21, Bool.and_false]; rfl, I, J, rfl, gm_qf_rf I, fun _ _ _ => rfl⟩)
theorem m_fair (k pl x : Int32) (up : Bool) (hn : gm_now I W N h0 L bc) : gw_E V 153 (0, [(0, .ref 126), (1, .int k), (2, .int pl), (3, .int x), (4, .int (gz_b up))], [], gS n I J, 0, 0) (fun v w' => v = some (.long (if gz_rg k 0 (Int32.ofNat N - 1) then gy_a (gz_M I) (gy_m (gz_M I) h0) W N h0 L bc (I 133 10) (I 133) pl x (some k.toNatClampNeg) (10 ^ gy_n (gy_m (gz_M I) h0) W) up else -1000000000001)) ∧ ∃ I2 J2, w' = gS n I2 J2 ∧ gm_qf I I2 ∧ ∀ p q, ¬ (p = 126 ∧ q = 29) → J2 p q = J p q) := by
  have hW8 : W ≤ 8 := hn.1.2.1
  have hW : h0 + L = W := hn.2.2.1
  have hN6 : N ≤ 6 := hn.1.2.2.2.1
  have hN : I 126 4 = Int32.ofNat N := hn.1.2.2.1
  by_cases hk : 0 ≤ k ∧ k ≤ Int32.ofNat N - 1
  · have hkN : k < Int32.ofNat N := by have := z0 N (by omega); generalize Int32.ofNat N = y at *; grind
    obtain ⟨m, rfl, hm⟩ : ∃ m, k = Int32.ofNat m ∧ m < N := ⟨k.toNatClampNeg, (znat hk.1).1.symm, (zlt_l hk.1 (by omega)).mp hkN⟩
    have hr1 : gz_rg (Int32.ofNat m) 0 (Int32.ofNat N - 1) = true := gz_rg_t.mpr hk
    rw [hr1, znn (by omega)]
    by_cases hx : 0 ≤ x ∧ x ≤ 10
    · obtain ⟨e, rfl, he⟩ := zto (b := 10) (by decide) hx
      by_cases hp : 0 ≤ pl ∧ pl ≤ 255
      · obtain ⟨p, rfl, hp2⟩ := zto (b := 255) (by decide) hp
        have hb := gy_T_b2 (gy_m (gz_M I) h0) (v := gy_vi (gz_M I) N h0 L bc (I 133 10) (I 133) (Int32.ofNat p) (some m)) he hW8 (gy_v_b (W := W) hn.1 (by omega) (fun j q9 => by cases q9; exact hm))
        have hnn := gy_n_le (gy_m (gz_M I) h0) W
        have h10 := (gy_10 (gy_n (gy_m (gz_M I) h0) W) (by omega)).2
        have hv : ∀ wd, gq_cm (gz_M I) wd (gq_p0 (Int32.ofNat p) h0) bc (I 133 10) (I 133) (fun j => gz_in (1 <<< (Int32.ofNat m &&& 31)) (Int32.ofNat j)) N L + (if false then 0 else gz_M I 0 2 * gz_on (Int32.ofNat p &&& gz_lf W h0) 8) = gy_u (gz_M I) N h0 L bc (I 133 10) (I 133) (Int32.ofNat p) (some m) wd := fun wd => by
          rw [if_neg (by decide), ← hW, gy_k_on h0 (by omega) L (by omega) (by omega) p (by omega)]
          exact gq_cm_one hm (fun j hj => gz_one m (by omega) j (by omega)) L
        generalize hA : gy_T (gy_m (gz_M I) h0) e (10 - e) W (gy_vi (gz_M I) N h0 L bc (I 133 10) (I 133) (Int32.ofNat p) (some m)) = A at hb
        generalize hB : 10 ^ gy_n (gy_m (gz_M I) h0) W = B at h10
        have hg := Nat.gcd_le_right A.natAbs h10.1
        have hg0 := Nat.gcd_pos_of_pos_right A.natAbs h10.1
        have hne : ¬ Int64.ofNat (Nat.gcd A.natAbs B) = 0 := fun q => by have := (zn64 (by omega)).mp q; omega
        have hd := gz_fr_div (A := A) (B := B) (by omega) (by omega) h10.1 h10.2
        refine gs_aload_n (pc := 0) (gd gk_153 0 rfl) rfl ?_
        refine gs_iload_n (pc := 1) (gd gk_153 1 rfl) rfl ?_
        refine gs_callV (as := [.int (Int32.ofNat m)]) (pc := 2) (gd gk_153 2 rfl) (by decide) rfl (by decide) rfl rfl (Nat.le_of_ble_eq_true rfl) gq_153_118 (Nat.le_of_ble_eq_true rfl) (m_isNose (Int32.ofNat m) hN hN6) (fun r_2 w_2 q_2 => ?_)
        rw [← gz_rg_lt _ _ (by omega)] at q_2
        obtain ⟨rfl, rfl⟩ := q_2
        refine gs_if_ne (pc := 5) (gd gk_153 3 rfl) (fun c5 => ?_) (fun c5 => ?_)
        · refine gs_iload_n (pc := 12) (gd gk_153 6 rfl) rfl ?_
          refine gs_i2l (pc := 13) (gd gk_153 7 rfl) ?_
          refine gs_lconst (pc := 14) (gd gk_153 8 rfl) (0) rfl ?_
          refine gs_ldc2_w (pc := 15) (gd gk_153 9 rfl) (255) rfl ?_
          refine gs_callS (as := [.long ((Int32.ofNat p : Int32).toInt64), .long (0), .long (255)]) (pc := 18) (gd gk_153 10 rfl) (by decide) rfl rfl (Nat.le_of_ble_eq_true rfl) gq_153_107 (Nat.le_of_ble_eq_true rfl) (c_mrg (Int32.ofNat p) (0) (255)) (fun r_18 w_18 q_18 => ?_)
          obtain ⟨rfl, rfl⟩ := q_18
          refine gs_if_eq (pc := 21) (gd gk_153 11 rfl) (fun c21 => ?_) (fun c21 => ?_)
          · refine gs_ldc2_w (pc := 36) (gd gk_153 18 rfl) (-1000000000002) rfl ?_
            -- end 1: lreturn (-1000000000002), pc 39, locals [(0, .ref (126)), (1, .int (Int32.ofNat m)), (2, .int (Int32.ofNat p)), (3, .int (Int32.ofNat e)), (4, .int (gz_b up))]
            exact gs_lret (pc := 39) (gd gk_153 19 rfl) rfl (Nat.zero_le _) (Nat.zero_le _) (⟨by unfold gy_a; rw [gz_b_eq.mp c21]; rfl, I, J, rfl, gm_qf_rf I, fun _ _ _ => rfl⟩)
          · refine gs_iload_n (pc := 24) (gd gk_153 12 rfl) rfl ?_
            refine gs_i2l (pc := 25) (gd gk_153 13 rfl) ?_
            refine gs_lconst (pc := 26) (gd gk_153 14 rfl) (0) rfl ?_
            refine gs_ldc2_w (pc := 27) (gd gk_153 15 rfl) (10) rfl ?_
            refine gs_callS (as := [.long ((Int32.ofNat e : Int32).toInt64), .long (0), .long (10)]) (pc := 30) (gd gk_153 16 rfl) (by decide) rfl rfl (Nat.le_of_ble_eq_true rfl) gq_153_107 (Nat.le_of_ble_eq_true rfl) (c_mrg (Int32.ofNat e) (0) (10)) (fun r_30 w_30 q_30 => ?_)
            obtain ⟨rfl, rfl⟩ := q_30
            refine gs_if_ne (pc := 33) (gd gk_153 17 rfl) (fun c33 => ?_) (fun c33 => ?_)
            · refine gs_aload_n (pc := 40) (gd gk_153 20 rfl) rfl ?_
              refine gs_iload_n (pc := 41) (gd gk_153 21 rfl) rfl ?_
              refine gs_iload_n (pc := 42) (gd gk_153 22 rfl) rfl ?_
              refine gs_iconst (pc := 43) (gd gk_153 23 rfl) (1) rfl ?_
              refine gs_iload_n (pc := 44) (gd gk_153 24 rfl) rfl ?_
              refine gs_ishl (pc := 45) (gd gk_153 25 rfl) ?_
              refine gs_iconst (pc := 46) (gd gk_153 26 rfl) (0) rfl ?_
              refine gs_callV (as := [.int (Int32.ofNat p), .int (Int32.ofNat e), .int ((1 <<< (Int32.ofNat m &&& 31))), .int (0)]) (pc := 47) (gd gk_153 27 rfl) (by decide) rfl (by decide) rfl rfl (Nat.le_of_ble_eq_true rfl) gq_153_151 (Nat.le_of_ble_eq_true rfl) (m_meanOf (some m) (1 <<< (Int32.ofNat m &&& 31)) (Int32.ofNat p) false e he hn hv) (fun r_47 w_47 q_47 => ?_)
              obtain ⟨rfl, I_m, J_m, rfl, m1, m2, m3⟩ := q_47
              rw [hA]
              have m2 : J_m 126 29 = Int64.ofNat B := by rw [m2, ← hB, ← Int64.ofInt_eq_ofNat, Int.natCast_pow]; rfl
              refine gs_lstore (ls2 := fun v => [(0, .ref (126)), (1, .int (Int32.ofNat m)), (2, .int (Int32.ofNat p)), (3, .int (Int32.ofNat e)), (4, .int (gz_b up)), (5, .long (v))]) (pc := 50) (gd gk_153 28 rfl) (by rw [gL_153]; decide) (fun _ => rfl) (fun u5_1 hu5_1 => ?_)
              obtain rfl := hu5_1
              refine gs_lload (pc := 52) (gd gk_153 29 rfl) rfl ?_
              refine gs_aload_n (pc := 54) (gd gk_153 30 rfl) rfl ?_
              refine gs_getJ (pc := 55) (gd gk_153 31 rfl) rfl rfl ?_
              refine gs_callS (as := [.long (Int64.ofInt A), .long ((J_m 126 29))]) (pc := 58) (gd gk_153 32 rfl) (by decide) rfl rfl (Nat.le_of_ble_eq_true rfl) gq_153_141 (Nat.le_of_ble_eq_true rfl) ((by rw [m2]; exact m_common A B hb.1 hb.2 h10.2)) (fun r_58 w_58 q_58 => ?_)
              obtain ⟨rfl, rfl⟩ := q_58
              refine gs_lstore (ls2 := fun v => [(0, .ref (126)), (1, .int (Int32.ofNat m)), (2, .int (Int32.ofNat p)), (3, .int (Int32.ofNat e)), (4, .int (gz_b up)), (5, .long (Int64.ofInt A)), (7, .long (v))]) (pc := 61) (gd gk_153 33 rfl) (by rw [gL_153]; decide) (fun _ => rfl) (fun u7_1 hu7_1 => ?_)
              refine gs_iload (pc := 63) (gd gk_153 34 rfl) rfl ?_
              refine gs_if_eq (pc := 65) (gd gk_153 35 rfl) (fun c65 => ?_) (fun c65 => ?_)
              · refine gs_aload_n (pc := 76) (gd gk_153 40 rfl) rfl ?_
                refine gs_getJ (pc := 77) (gd gk_153 41 rfl) rfl rfl ?_
                refine gs_lload (pc := 80) (gd gk_153 42 rfl) rfl ?_
                refine gs_ldiv (pc := 82) (gd gk_153 43 rfl) (by rw [hu7_1]; exact hne) ?_
                -- end 2: lreturn ((J_m 126 29) / u7_1), pc 83, locals [(0, .ref (126)), (1, .int (Int32.ofNat m)), (2, .int (Int32.ofNat p)), (3, .int (Int32.ofNat e)), (4, .int (gz_b up)), (5, .long (Int64.ofInt A)), (7, .long (u7_1))]
                exact gs_lret (pc := 83) (gd gk_153 44 rfl) rfl (Nat.zero_le _) (Nat.zero_le _) (⟨by unfold gy_a; rw [gz_b_ne.mp c21, gz_b_ne.mp c33, znn (by omega), hA, gz_b_eq.mp c65, hu7_1, m2, hd.2]; rfl, I_m, J_m, rfl, m1, m3⟩)
              · refine gs_lload (pc := 68) (gd gk_153 36 rfl) rfl ?_
                refine gs_lload (pc := 70) (gd gk_153 37 rfl) rfl ?_
                refine gs_ldiv (pc := 72) (gd gk_153 38 rfl) (by rw [hu7_1]; exact hne) ?_
                refine gs_goto (pc := 73) (gd gk_153 39 rfl) ?_
                -- end 3: lreturn (Int64.ofInt A / u7_1), pc 83, locals [(0, .ref (126)), (1, .int (Int32.ofNat m)), (2, .int (Int32.ofNat p)), (3, .int (Int32.ofNat e)), (4, .int (gz_b up)), (5, .long (Int64.ofInt A)), (7, .long (u7_1))]
                exact gs_lret (pc := 83) (gd gk_153 44 rfl) rfl (Nat.zero_le _) (Nat.zero_le _) (⟨by unfold gy_a; rw [gz_b_ne.mp c21, gz_b_ne.mp c33, znn (by omega), hA, gz_b_ne.mp c65, hu7_1, hd.1]; rfl, I_m, J_m, rfl, m1, m3⟩)
            · refine gs_ldc2_w (pc := 36) (gd gk_153 18 rfl) (-1000000000002) rfl ?_
              -- end 4: lreturn (-1000000000002), pc 39, locals [(0, .ref (126)), (1, .int (Int32.ofNat m)), (2, .int (Int32.ofNat p)), (3, .int (Int32.ofNat e)), (4, .int (gz_b up))]
              exact gs_lret (pc := 39) (gd gk_153 19 rfl) rfl (Nat.zero_le _) (Nat.zero_le _) (⟨by unfold gy_a; rw [gz_b_eq.mp c33, Bool.and_false]; rfl, I, J, rfl, gm_qf_rf I, fun _ _ _ => rfl⟩)
        · refine gs_ldc2_w (pc := 8) (gd gk_153 4 rfl) (-1000000000001) rfl ?_
          -- end 5: lreturn (-1000000000001), pc 11, locals [(0, .ref (126)), (1, .int (Int32.ofNat m)), (2, .int (Int32.ofNat p)), (3, .int (Int32.ofNat e)), (4, .int (gz_b up))]
          exact absurd (by rw [hr1]; decide) (fun q9 : ¬ gz_b (gz_rg (Int32.ofNat m) 0 (Int32.ofNat N - 1)) = 0 => q9 c5)
      · skip
        refine gs_aload_n (pc := 0) (gd gk_153 0 rfl) rfl ?_
        refine gs_iload_n (pc := 1) (gd gk_153 1 rfl) rfl ?_
        refine gs_callV (as := [.int (Int32.ofNat m)]) (pc := 2) (gd gk_153 2 rfl) (by decide) rfl (by decide) rfl rfl (Nat.le_of_ble_eq_true rfl) gq_153_118 (Nat.le_of_ble_eq_true rfl) (m_isNose (Int32.ofNat m) hN hN6) (fun r_2 w_2 q_2 => ?_)
        rw [← gz_rg_lt _ _ (by omega)] at q_2
        obtain ⟨rfl, rfl⟩ := q_2
        refine gs_if_ne (pc := 5) (gd gk_153 3 rfl) (fun c5 => ?_) (fun c5 => ?_)
        · refine gs_iload_n (pc := 12) (gd gk_153 6 rfl) rfl ?_
          refine gs_i2l (pc := 13) (gd gk_153 7 rfl) ?_
          refine gs_lconst (pc := 14) (gd gk_153 8 rfl) (0) rfl ?_
          refine gs_ldc2_w (pc := 15) (gd gk_153 9 rfl) (255) rfl ?_
          refine gs_callS (as := [.long ((pl : Int32).toInt64), .long (0), .long (255)]) (pc := 18) (gd gk_153 10 rfl) (by decide) rfl rfl (Nat.le_of_ble_eq_true rfl) gq_153_107 (Nat.le_of_ble_eq_true rfl) (c_mrg (pl) (0) (255)) (fun r_18 w_18 q_18 => ?_)
          obtain ⟨rfl, rfl⟩ := q_18
          refine gs_if_eq (pc := 21) (gd gk_153 11 rfl) (fun c21 => ?_) (fun c21 => ?_)
          · refine gs_ldc2_w (pc := 36) (gd gk_153 18 rfl) (-1000000000002) rfl ?_
            -- end 1: lreturn (-1000000000002), pc 39, locals [(0, .ref (126)), (1, .int (Int32.ofNat m)), (2, .int (pl)), (3, .int (Int32.ofNat e)), (4, .int (gz_b up))]
            exact gs_lret (pc := 39) (gd gk_153 19 rfl) rfl (Nat.zero_le _) (Nat.zero_le _) (⟨by unfold gy_a; rw [gz_b_eq.mp c21]; rfl, I, J, rfl, gm_qf_rf I, fun _ _ _ => rfl⟩)
          · -- end 2: stop, pc 24, locals [(0, .ref (126)), (1, .int (Int32.ofNat m)), (2, .int (pl)), (3, .int (Int32.ofNat e)), (4, .int (gz_b up))]
            exact absurd (gz_rg_t.mp (gz_b_ne.mp c21)) hp
        · refine gs_ldc2_w (pc := 8) (gd gk_153 4 rfl) (-1000000000001) rfl ?_
          -- end 3: lreturn (-1000000000001), pc 11, locals [(0, .ref (126)), (1, .int (Int32.ofNat m)), (2, .int (pl)), (3, .int (Int32.ofNat e)), (4, .int (gz_b up))]
          exact absurd (by rw [hr1]; decide) (fun q9 : ¬ gz_b (gz_rg (Int32.ofNat m) 0 (Int32.ofNat N - 1)) = 0 => q9 c5)
    · skip
      refine gs_aload_n (pc := 0) (gd gk_153 0 rfl) rfl ?_
      refine gs_iload_n (pc := 1) (gd gk_153 1 rfl) rfl ?_
      refine gs_callV (as := [.int (Int32.ofNat m)]) (pc := 2) (gd gk_153 2 rfl) (by decide) rfl (by decide) rfl rfl (Nat.le_of_ble_eq_true rfl) gq_153_118 (Nat.le_of_ble_eq_true rfl) (m_isNose (Int32.ofNat m) hN hN6) (fun r_2 w_2 q_2 => ?_)
      rw [← gz_rg_lt _ _ (by omega)] at q_2
      obtain ⟨rfl, rfl⟩ := q_2
      refine gs_if_ne (pc := 5) (gd gk_153 3 rfl) (fun c5 => ?_) (fun c5 => ?_)
      · refine gs_iload_n (pc := 12) (gd gk_153 6 rfl) rfl ?_
        refine gs_i2l (pc := 13) (gd gk_153 7 rfl) ?_
        refine gs_lconst (pc := 14) (gd gk_153 8 rfl) (0) rfl ?_
        refine gs_ldc2_w (pc := 15) (gd gk_153 9 rfl) (255) rfl ?_
        refine gs_callS (as := [.long ((pl : Int32).toInt64), .long (0), .long (255)]) (pc := 18) (gd gk_153 10 rfl) (by decide) rfl rfl (Nat.le_of_ble_eq_true rfl) gq_153_107 (Nat.le_of_ble_eq_true rfl) (c_mrg (pl) (0) (255)) (fun r_18 w_18 q_18 => ?_)
        obtain ⟨rfl, rfl⟩ := q_18
        refine gs_if_eq (pc := 21) (gd gk_153 11 rfl) (fun c21 => ?_) (fun c21 => ?_)
        · refine gs_ldc2_w (pc := 36) (gd gk_153 18 rfl) (-1000000000002) rfl ?_
          -- end 1: lreturn (-1000000000002), pc 39, locals [(0, .ref (126)), (1, .int (Int32.ofNat m)), (2, .int (pl)), (3, .int (x)), (4, .int (gz_b up))]
          exact gs_lret (pc := 39) (gd gk_153 19 rfl) rfl (Nat.zero_le _) (Nat.zero_le _) (⟨by unfold gy_a; rw [gz_b_eq.mp c21]; rfl, I, J, rfl, gm_qf_rf I, fun _ _ _ => rfl⟩)
        · refine gs_iload_n (pc := 24) (gd gk_153 12 rfl) rfl ?_
          refine gs_i2l (pc := 25) (gd gk_153 13 rfl) ?_
          refine gs_lconst (pc := 26) (gd gk_153 14 rfl) (0) rfl ?_
          refine gs_ldc2_w (pc := 27) (gd gk_153 15 rfl) (10) rfl ?_
          refine gs_callS (as := [.long ((x : Int32).toInt64), .long (0), .long (10)]) (pc := 30) (gd gk_153 16 rfl) (by decide) rfl rfl (Nat.le_of_ble_eq_true rfl) gq_153_107 (Nat.le_of_ble_eq_true rfl) (c_mrg (x) (0) (10)) (fun r_30 w_30 q_30 => ?_)
          obtain ⟨rfl, rfl⟩ := q_30
          refine gs_if_ne (pc := 33) (gd gk_153 17 rfl) (fun c33 => ?_) (fun c33 => ?_)
          · -- end 2: stop, pc 40, locals [(0, .ref (126)), (1, .int (Int32.ofNat m)), (2, .int (pl)), (3, .int (x)), (4, .int (gz_b up))]
            exact absurd (gz_rg_t.mp (gz_b_ne.mp c33)) hx
          · refine gs_ldc2_w (pc := 36) (gd gk_153 18 rfl) (-1000000000002) rfl ?_
            -- end 3: lreturn (-1000000000002), pc 39, locals [(0, .ref (126)), (1, .int (Int32.ofNat m)), (2, .int (pl)), (3, .int (x)), (4, .int (gz_b up))]
            exact gs_lret (pc := 39) (gd gk_153 19 rfl) rfl (Nat.zero_le _) (Nat.zero_le _) (⟨by unfold gy_a; rw [gz_b_eq.mp c33, Bool.and_false]; rfl, I, J, rfl, gm_qf_rf I, fun _ _ _ => rfl⟩)
      · refine gs_ldc2_w (pc := 8) (gd gk_153 4 rfl) (-1000000000001) rfl ?_
        -- end 4: lreturn (-1000000000001), pc 11, locals [(0, .ref (126)), (1, .int (Int32.ofNat m)), (2, .int (pl)), (3, .int (x)), (4, .int (gz_b up))]
        exact absurd (by rw [hr1]; decide) (fun q9 : ¬ gz_b (gz_rg (Int32.ofNat m) 0 (Int32.ofNat N - 1)) = 0 => q9 c5)
  · have hr1 : gz_rg k 0 (Int32.ofNat N - 1) = false := gz_rg_f.mpr hk
    refine gs_aload_n (pc := 0) (gd gk_153 0 rfl) rfl ?_
    refine gs_iload_n (pc := 1) (gd gk_153 1 rfl) rfl ?_
    refine gs_callV (as := [.int (k)]) (pc := 2) (gd gk_153 2 rfl) (by decide) rfl (by decide) rfl rfl (Nat.le_of_ble_eq_true rfl) gq_153_118 (Nat.le_of_ble_eq_true rfl) (m_isNose k hN hN6) (fun r_2 w_2 q_2 => ?_)
    rw [← gz_rg_lt _ _ (by omega)] at q_2
    obtain ⟨rfl, rfl⟩ := q_2
    refine gs_if_ne (pc := 5) (gd gk_153 3 rfl) (fun c5 => ?_) (fun c5 => ?_)
    · -- end 1: stop, pc 12, locals [(0, .ref (126)), (1, .int (k)), (2, .int (pl)), (3, .int (x)), (4, .int (gz_b up))]
      exact absurd (gz_rg_t.mp (gz_b_ne.mp c5)) hk
    · refine gs_ldc2_w (pc := 8) (gd gk_153 4 rfl) (-1000000000001) rfl ?_
      -- end 2: lreturn (-1000000000001), pc 11, locals [(0, .ref (126)), (1, .int (k)), (2, .int (pl)), (3, .int (x)), (4, .int (gz_b up))]
      exact gs_lret (pc := 11) (gd gk_153 5 rfl) rfl (Nat.zero_le _) (Nat.zero_le _) (⟨by rw [hr1]; rfl, I, J, rfl, gm_qf_rf I, fun _ _ _ => rfl⟩)
end
