/-! ===== the reference: bestBy leaves its own row of bests alone ===== -/
section
variable {V : gw_V} {n W N h0 L bc : Nat} {I : Nat → Nat → Int32} {J : Nat → Nat → Int64}
abbrev mq_bd (n : Nat) (I : Nat → Nat → Int32) (J : Nat → Nat → Int64) (N h0 L bc : Nat) (so : Int32) : Option Value → gw_W → Prop := fun v w' => ∃ I2 p, w' = gS n I2 J ∧ gm_qf I I2 ∧ I2 126 23 = Int32.ofNat p ∧ v = some (.int (gm_val I N h0 L bc so p)) ∧ gq_bst (gm_val I N h0 L bc so) h0 L p ∧ I2 137 = I 137
theorem gm_qf_137 {I I2 : Nat → Nat → Int32} (h : ∀ p, p ≠ 137 → I2 p = I p) : gm_qf I I2 := ⟨fun p _ _ _ _ _ _ _ a _ _ => h p a, fun q _ => by rw [h 133 (by omega)], fun q _ _ _ _ _ _ _ _ => by rw [h 126 (by omega)]⟩
theorem m_bestBy137 (so : Int32) (hn : gm_now I W N h0 L bc) : gw_E V 137 (0, [(0, .ref 126), (1, .int so)], [], gS n I J, 0, 0) (mq_bd n I J N h0 L bc so) := by
  obtain ⟨hok, hh, hW, hbc, hb9⟩ := id hn
  have hW8 : W ≤ 8 := hok.2.1
  have hW3 : I 126 3 = Int32.ofNat W := hok.1
  generalize hval : gm_val I N h0 L bc so = val
  have hpw : 2 ^ W ≤ 256 := Nat.le_trans (Nat.pow_le_pow_right (by omega) hW8) (by decide)
  have lp : ∀ (m k : Nat), m + k = 2 ^ W → 0 < k → ∀ I1 p, gm_qf I I1 → I1 137 = I 137 → (∀ h, h < 8 → I1 128 h = I 127 h) → I1 126 23 = Int32.ofNat p → p < k → gz_su p h0 L → (∀ q, q < k → gz_su q h0 L → gq_ge val p q) → gw_E V 137 (18, [(0, .ref 126), (1, .int so), (2, .int (val p)), (3, .int (Int32.ofNat k))], [], gS n I1 J, 0, 0) (mq_bd n I J N h0 L bc so) := by
    intro m
    induction m with
    | zero =>
      intro k hk k0 I1 p h1 h9 h2 h3 h4 h5 h6
      obtain rfl : k = 2 ^ W := by omega
      have hW31 : I1 126 3 = Int32.ofNat W := (gm_qf_now h1 hn).1.1
      refine gs_iload_n (pc := 18) (gd gk_137 12 rfl) rfl ?_
      refine gs_iconst (pc := 19) (gd gk_137 13 rfl) (1) rfl ?_
      refine gs_aload_n (pc := 20) (gd gk_137 14 rfl) rfl ?_
      refine gs_getI (pc := 21) (gd gk_137 15 rfl) rfl rfl ?_
      refine gs_as (Int32.ofNat W) (hW31) ?_
      refine gs_ishl (pc := 24) (gd gk_137 16 rfl) ?_
      refine gs_icmp_ge (pc := 25) (gd gk_137 17 rfl) (fun c25 => ?_) (fun c25 => ?_)
      · refine gs_iload_n (pc := 115) (gd gk_137 62 rfl) rfl ?_
        -- end 1: ireturn val p, pc 116, locals [(0, .ref (126)), (1, .int (so)), (2, .int (val p)), (3, .int (Int32.ofNat (2 ^ W)))]
        exact gs_iret (pc := 116) (gd gk_137 63 rfl) rfl (rfl) (Nat.zero_le _) (Nat.zero_le _) (⟨I1, p, rfl, h1, h3, by rw [hval], by rw [hval]; exact ⟨h5, fun q hq => h6 q (by rw [← hW]; exact hq.2) hq⟩, h9⟩)
      · -- end 2: stop, pc 28, locals [(0, .ref (126)), (1, .int (so)), (2, .int (val p)), (3, .int (Int32.ofNat (2 ^ W)))]
        exact absurd (by rw [gz_shl W (by omega)]; exact Int32.le_refl _) c25
    | succ m ih =>
      intro k hk k0 I1 p h1 h9 h2 h3 h4 h5 h6
      have hn1 := gm_qf_now h1 hn
      have hW31 : I1 126 3 = Int32.ofNat W := hn1.1.1
      have hsu : Int32.ofNat k &&& (gz_lf W h0 ^^^ -1) = 0 ↔ gz_su k h0 L := by rw [← hW]; exact gz_lf_su (by omega) (by rw [hW]; omega)
      have tail : ∀ I2 (b : Bool), gm_rf I1 I2 → (b = true → gz_su k h0 L ∧ gq_ge val k p) → (b = false → gq_ge val p k) → gw_E V 137 (78, [(0, .ref 126), (1, .int so), (2, .int (val p)), (3, .int (Int32.ofNat k)), (4, .int (val k))], [.int (gz_b b)], gS n I2 J, 0, 0) (mq_bd n I J N h0 L bc so) := by
        intro I2 b t1 t2 t3
        have e128 : ∀ h, h < 8 → I2 128 h = I 127 h := fun h hh => by rw [t1.1 128 (by omega) (by omega) (by omega)]; exact h2 h hh
        have e23 : I2 126 23 = Int32.ofNat p := by rw [t1.2.2 23 (by omega)]; exact h3
        have go : ∀ I3 p2, I3 = gw_u I2 126 23 (Int32.ofNat p2) → p2 < k + 1 → gz_su p2 h0 L → (∀ q, q < k + 1 → gz_su q h0 L → gq_ge val p2 q) → gw_E V 137 (18, [(0, .ref 126), (1, .int so), (2, .int (val p2)), (3, .int (Int32.ofNat (k + 1)))], [], gS n I3 J, 0, 0) (mq_bd n I J N h0 L bc so) := fun I3 p2 e3 g1 g2 g3 => ih (k + 1) (by omega) (by omega) I3 p2 (gm_qf_tr h1 (gm_qf_tr (gm_rf_q t1) (gm_qf_u e3 (by omega)))) (by rw [e3, gw_u_o (by omega), t1.1 137 (by omega) (by omega) (by omega)]; exact h9) (fun h hh => by rw [e3, gw_u_o (by omega)]; exact e128 h hh) (by rw [e3, gw_u_s]; simp [upd]) g1 g2 g3
        refine gs_istore (ls2 := fun v => [(0, .ref (126)), (1, .int (so)), (2, .int (val p)), (3, .int (Int32.ofNat k)), (4, .int (val k)), (5, .int (v))]) (pc := 78) (gd gk_137 45 rfl) (by rw [gL_137]; decide) (fun _ => rfl) (fun v5_1 hv5_1 => ?_)
        refine gs_aload_n (pc := 80) (gd gk_137 46 rfl) rfl ?_
        refine gs_iload (pc := 81) (gd gk_137 47 rfl) rfl ?_
        refine gs_if_eq (pc := 83) (gd gk_137 48 rfl) (fun c83 => ?_) (fun c83 => ?_)
        · refine gs_aload_n (pc := 90) (gd gk_137 51 rfl) rfl ?_
          refine gs_getI (pc := 91) (gd gk_137 52 rfl) rfl rfl ?_
          refine gs_as (Int32.ofNat p) (e23) ?_
          refine gs_putI (pc := 94) (gd gk_137 53 rfl) rfl rfl rfl rfl (fun I_1 hI_1 => ?_)
          refine gs_iload (pc := 97) (gd gk_137 54 rfl) rfl ?_
          refine gs_if_eq (pc := 99) (gd gk_137 55 rfl) (fun c99 => ?_) (fun c99 => ?_)
          · refine gs_iload_n (pc := 107) (gd gk_137 58 rfl) rfl ?_
            refine gs_istore_n (ls2 := fun v => [(0, .ref (126)), (1, .int (so)), (2, .int (v)), (3, .int (Int32.ofNat k)), (4, .int (val k)), (5, .int (v5_1))]) (pc := 108) (gd gk_137 59 rfl) (by rw [gL_137]; decide) (fun _ => rfl) (fun v2_1 hv2_1 => ?_)
            refine gs_iinc (ls2 := fun v => [(0, .ref (126)), (1, .int (so)), (2, .int (v2_1)), (3, .int (v)), (4, .int (val k)), (5, .int (v5_1))]) (pc := 109) (gd gk_137 60 rfl) rfl (by rw [gL_137]; decide) (fun _ => rfl) (1) rfl (fun v3_1 hv3_1 => ?_)
            obtain rfl : v3_1 = Int32.ofNat (k + 1) := hv3_1.trans (by first | rfl | (simp only [Int32.ofNat_add, Int32.ofNat_mul]; rfl) | (simp only [Int32.ofNat_add, Int32.ofNat_mul]))
            refine gs_goto (pc := 112) (gd gk_137 61 rfl) ?_
            -- end 1: stop, pc 18, locals [(0, .ref (126)), (1, .int (so)), (2, .int (v2_1)), (3, .int (Int32.ofNat (k + 1))), (4, .int (val k)), (5, .int (v5_1))]
            have hb : b = false := gz_b_eq.mp (hv5_1.symm.trans c83)
            obtain rfl := hv2_1
            refine gs_drop [0, 1, 2, 3] rfl (go I_1 p hI_1 (by omega) h5 (fun q hq hs => ?_))
            by_cases e : q = k
            · rw [e]; exact t3 hb
            · exact h6 q (by omega) hs
          · refine gs_iload (pc := 102) (gd gk_137 56 rfl) rfl ?_
            refine gs_goto (pc := 104) (gd gk_137 57 rfl) ?_
            refine gs_istore_n (ls2 := fun v => [(0, .ref (126)), (1, .int (so)), (2, .int (v)), (3, .int (Int32.ofNat k)), (4, .int (val k)), (5, .int (v5_1))]) (pc := 108) (gd gk_137 59 rfl) (by rw [gL_137]; decide) (fun _ => rfl) (fun v2_2 hv2_2 => ?_)
            refine gs_iinc (ls2 := fun v => [(0, .ref (126)), (1, .int (so)), (2, .int (v2_2)), (3, .int (v)), (4, .int (val k)), (5, .int (v5_1))]) (pc := 109) (gd gk_137 60 rfl) rfl (by rw [gL_137]; decide) (fun _ => rfl) (1) rfl (fun v3_2 hv3_2 => ?_)
            obtain rfl : v3_2 = Int32.ofNat (k + 1) := hv3_2.trans (by first | rfl | (simp only [Int32.ofNat_add, Int32.ofNat_mul]; rfl) | (simp only [Int32.ofNat_add, Int32.ofNat_mul]))
            refine gs_goto (pc := 112) (gd gk_137 61 rfl) ?_
            -- end 2: stop, pc 18, locals [(0, .ref (126)), (1, .int (so)), (2, .int (v2_2)), (3, .int (Int32.ofNat (k + 1))), (4, .int (val k)), (5, .int (v5_1))]
            exact absurd c83 c99
        · refine gs_iload_n (pc := 86) (gd gk_137 49 rfl) rfl ?_
          refine gs_goto (pc := 87) (gd gk_137 50 rfl) ?_
          refine gs_putI (pc := 94) (gd gk_137 53 rfl) rfl rfl rfl rfl (fun I_2 hI_2 => ?_)
          refine gs_iload (pc := 97) (gd gk_137 54 rfl) rfl ?_
          refine gs_if_eq (pc := 99) (gd gk_137 55 rfl) (fun c99 => ?_) (fun c99 => ?_)
          · refine gs_iload_n (pc := 107) (gd gk_137 58 rfl) rfl ?_
            refine gs_istore_n (ls2 := fun v => [(0, .ref (126)), (1, .int (so)), (2, .int (v)), (3, .int (Int32.ofNat k)), (4, .int (val k)), (5, .int (v5_1))]) (pc := 108) (gd gk_137 59 rfl) (by rw [gL_137]; decide) (fun _ => rfl) (fun v2_3 hv2_3 => ?_)
            refine gs_iinc (ls2 := fun v => [(0, .ref (126)), (1, .int (so)), (2, .int (v2_3)), (3, .int (v)), (4, .int (val k)), (5, .int (v5_1))]) (pc := 109) (gd gk_137 60 rfl) rfl (by rw [gL_137]; decide) (fun _ => rfl) (1) rfl (fun v3_3 hv3_3 => ?_)
            obtain rfl : v3_3 = Int32.ofNat (k + 1) := hv3_3.trans (by first | rfl | (simp only [Int32.ofNat_add, Int32.ofNat_mul]; rfl) | (simp only [Int32.ofNat_add, Int32.ofNat_mul]))
            refine gs_goto (pc := 112) (gd gk_137 61 rfl) ?_
            -- end 3: stop, pc 18, locals [(0, .ref (126)), (1, .int (so)), (2, .int (v2_3)), (3, .int (Int32.ofNat (k + 1))), (4, .int (val k)), (5, .int (v5_1))]
            exact absurd c99 c83
          · refine gs_iload (pc := 102) (gd gk_137 56 rfl) rfl ?_
            refine gs_goto (pc := 104) (gd gk_137 57 rfl) ?_
            refine gs_istore_n (ls2 := fun v => [(0, .ref (126)), (1, .int (so)), (2, .int (v)), (3, .int (Int32.ofNat k)), (4, .int (val k)), (5, .int (v5_1))]) (pc := 108) (gd gk_137 59 rfl) (by rw [gL_137]; decide) (fun _ => rfl) (fun v2_4 hv2_4 => ?_)
            refine gs_iinc (ls2 := fun v => [(0, .ref (126)), (1, .int (so)), (2, .int (v2_4)), (3, .int (v)), (4, .int (val k)), (5, .int (v5_1))]) (pc := 109) (gd gk_137 60 rfl) rfl (by rw [gL_137]; decide) (fun _ => rfl) (1) rfl (fun v3_4 hv3_4 => ?_)
            obtain rfl : v3_4 = Int32.ofNat (k + 1) := hv3_4.trans (by first | rfl | (simp only [Int32.ofNat_add, Int32.ofNat_mul]; rfl) | (simp only [Int32.ofNat_add, Int32.ofNat_mul]))
            refine gs_goto (pc := 112) (gd gk_137 61 rfl) ?_
            -- end 4: stop, pc 18, locals [(0, .ref (126)), (1, .int (so)), (2, .int (v2_4)), (3, .int (Int32.ofNat (k + 1))), (4, .int (val k)), (5, .int (v5_1))]
            have hb : b = true := gz_b_ne.mp (fun e => c83 (hv5_1.trans e))
            obtain rfl := hv2_4
            refine gs_drop [0, 1, 2, 3] rfl (go I_2 k hI_2 (by omega) (t2 hb).1 (fun q hq hs => ?_))
            by_cases e : q = k
            · rw [e]; exact gq_ge_rf val k
            · exact gq_ge_tr (t2 hb).2 (h6 q (by omega) hs)
      refine gs_iload_n (pc := 18) (gd gk_137 12 rfl) rfl ?_
      refine gs_iconst (pc := 19) (gd gk_137 13 rfl) (1) rfl ?_
      refine gs_aload_n (pc := 20) (gd gk_137 14 rfl) rfl ?_
      refine gs_getI (pc := 21) (gd gk_137 15 rfl) rfl rfl ?_
      refine gs_as (Int32.ofNat W) (hW31) ?_
      refine gs_ishl (pc := 24) (gd gk_137 16 rfl) ?_
      refine gs_icmp_ge (pc := 25) (gd gk_137 17 rfl) (fun c25 => ?_) (fun c25 => ?_)
      · refine gs_iload_n (pc := 115) (gd gk_137 62 rfl) rfl ?_
        -- end 1: ireturn val p, pc 116, locals [(0, .ref (126)), (1, .int (so)), (2, .int (val p)), (3, .int (Int32.ofNat k))]
        rw [gz_shl W (by omega)] at c25
        exact absurd ((zle (by omega) (by omega)).mp c25) (by omega)
      · refine gs_iload_n (pc := 28) (gd gk_137 18 rfl) rfl ?_
        refine gs_aload_n (pc := 29) (gd gk_137 19 rfl) rfl ?_
        refine gs_callV (as := []) (pc := 30) (gd gk_137 20 rfl) (by decide) rfl (by decide) rfl rfl (Nat.le_of_ble_eq_true rfl) gq_137_135 (Nat.le_of_ble_eq_true rfl) (m_left hn1) (fun r_30 w_30 q_30 => ?_)
        obtain ⟨rfl, rfl⟩ := q_30
        refine gs_iconst (pc := 33) (gd gk_137 21 rfl) (-1) rfl ?_
        refine gs_ixor (pc := 34) (gd gk_137 22 rfl) ?_
        refine gs_iand (pc := 35) (gd gk_137 23 rfl) ?_
        refine gs_if_ne (pc := 36) (gd gk_137 24 rfl) (fun c36 => ?_) (fun c36 => ?_)
        · refine gs_iinc (ls2 := fun v => [(0, .ref (126)), (1, .int (so)), (2, .int (val p)), (3, .int (v))]) (pc := 109) (gd gk_137 60 rfl) rfl (by rw [gL_137]; decide) (fun _ => rfl) (1) rfl (fun v3_1 hv3_1 => ?_)
          obtain rfl : v3_1 = Int32.ofNat (k + 1) := hv3_1.trans (by first | rfl | (simp only [Int32.ofNat_add, Int32.ofNat_mul]; rfl) | (simp only [Int32.ofNat_add, Int32.ofNat_mul]))
          refine gs_goto (pc := 112) (gd gk_137 61 rfl) ?_
          -- end 2: stop, pc 18, locals [(0, .ref (126)), (1, .int (so)), (2, .int (val p)), (3, .int (Int32.ofNat (k + 1)))]
          refine ih (k + 1) (by omega) (by omega) I1 p h1 h9 h2 h3 (by omega) h5 (fun q hq hs => ?_)
          by_cases e : q = k
          · rw [e] at hs; exact absurd (hsu.mpr hs) c36
          · exact h6 q (by omega) hs
        · refine gs_aload_n (pc := 39) (gd gk_137 25 rfl) rfl ?_
          refine gs_iload_n (pc := 40) (gd gk_137 26 rfl) rfl ?_
          refine gs_iload_n (pc := 41) (gd gk_137 27 rfl) rfl ?_
          refine gs_callV (as := [.int (Int32.ofNat k), .int (so)]) (pc := 42) (gd gk_137 28 rfl) (by decide) rfl (by decide) rfl rfl (Nat.le_of_ble_eq_true rfl) gq_137_134 (Nat.le_of_ble_eq_true rfl) (m_run0 (I0 := I) (Int32.ofNat k) so h1 hn h2) (fun r_42 w_42 q_42 => ?_)
          obtain ⟨I_r, rfl, rfl, r1, r2⟩ := q_42
          refine gs_istore (ls2 := fun v => [(0, .ref (126)), (1, .int (so)), (2, .int (val p)), (3, .int (Int32.ofNat k)), (4, .int (v))]) (pc := 45) (gd gk_137 29 rfl) (by rw [gL_137]; decide) (fun _ => rfl) (fun v4_1 hv4_1 => ?_)
          refine gs_iload (pc := 47) (gd gk_137 30 rfl) rfl ?_
          refine gs_iload_n (pc := 49) (gd gk_137 31 rfl) rfl ?_
          refine gs_icmp_gt (pc := 50) (gd gk_137 32 rfl) (fun c50 => ?_) (fun c50 => ?_)
          · refine gs_iconst (pc := 73) (gd gk_137 42 rfl) (1) rfl ?_
            refine gs_goto (pc := 74) (gd gk_137 43 rfl) ?_
            -- end 3: stop, pc 78, locals [(0, .ref (126)), (1, .int (so)), (2, .int (val p)), (3, .int (Int32.ofNat k)), (4, .int (v4_1))]
            obtain rfl : v4_1 = val k := by rw [hv4_1, ← hval]
            exact tail I_r true r2 (fun _ => ⟨hsu.mp c36, .inl (Int32.lt_iff_toInt_lt.mp c50)⟩) (fun e => by cases e)
          · refine gs_iload (pc := 53) (gd gk_137 33 rfl) rfl ?_
            refine gs_iload_n (pc := 55) (gd gk_137 34 rfl) rfl ?_
            refine gs_icmp_ne (pc := 56) (gd gk_137 35 rfl) (fun c56 => ?_) (fun c56 => ?_)
            · refine gs_iconst (pc := 77) (gd gk_137 44 rfl) (0) rfl ?_
              -- end 4: stop, pc 78, locals [(0, .ref (126)), (1, .int (so)), (2, .int (val p)), (3, .int (Int32.ofNat k)), (4, .int (v4_1))]
              obtain rfl : v4_1 = val k := by rw [hv4_1, ← hval]
              refine tail I_r false r2 (fun e => by cases e) (fun _ => .inl ?_)
              have a1 := Int32.le_iff_toInt_le.mp (Int32.not_lt.mp c50)
              have a2 : (val k).toInt ≠ (val p).toInt := fun e => c56 (Int32.toInt_inj.mp e)
              omega
            · refine gs_iload_n (pc := 59) (gd gk_137 36 rfl) rfl ?_
              refine gs_callS (as := [.int (Int32.ofNat k)]) (pc := 60) (gd gk_137 37 rfl) (by decide) rfl rfl (Nat.le_of_ble_eq_true rfl) gq_137_109 (Nat.le_of_ble_eq_true rfl) (c_ones (Int32.ofNat k)) (fun r_60 w_60 q_60 => ?_)
              obtain ⟨rfl, rfl⟩ := q_60
              refine gs_aload_n (pc := 63) (gd gk_137 38 rfl) rfl ?_
              refine gs_getI (pc := 64) (gd gk_137 39 rfl) rfl rfl ?_
              refine gs_callS (as := [.int ((I_r 126 23))]) (pc := 67) (gd gk_137 40 rfl) (by decide) rfl rfl (Nat.le_of_ble_eq_true rfl) gq_137_109 (Nat.le_of_ble_eq_true rfl) (c_ones ((I_r 126 23))) (fun r_67 w_67 q_67 => ?_)
              obtain ⟨rfl, rfl⟩ := q_67
              refine gs_icmp_ge (pc := 70) (gd gk_137 41 rfl) (fun c70 => ?_) (fun c70 => ?_)
              · refine gs_iconst (pc := 77) (gd gk_137 44 rfl) (0) rfl ?_
                -- end 5: stop, pc 78, locals [(0, .ref (126)), (1, .int (so)), (2, .int (val p)), (3, .int (Int32.ofNat k)), (4, .int (v4_1))]
                obtain rfl : v4_1 = val k := by rw [hv4_1, ← hval]
                rw [r2.2.2 23 (by omega), h3, gz_on_pc k (by omega), gz_on_pc p (by omega)] at c70
                have c70 := (zle (by have := gz_pc_le p; omega) (by have := gz_pc_le k; omega)).mp c70
                refine tail I_r false r2 (fun e => by cases e) (fun _ => .inr ⟨by rw [c56], by omega⟩)
              · refine gs_iconst (pc := 73) (gd gk_137 42 rfl) (1) rfl ?_
                refine gs_goto (pc := 74) (gd gk_137 43 rfl) ?_
                -- end 6: stop, pc 78, locals [(0, .ref (126)), (1, .int (so)), (2, .int (val p)), (3, .int (Int32.ofNat k)), (4, .int (v4_1))]
                obtain rfl : v4_1 = val k := by rw [hv4_1, ← hval]
                rw [r2.2.2 23 (by omega), h3, gz_on_pc k (by omega), gz_on_pc p (by omega)] at c70
                have c70 : ¬ gz_pc p ≤ gz_pc k := fun e => c70 ((zle (by have := gz_pc_le p; omega) (by have := gz_pc_le k; omega)).mpr e)
                refine tail I_r true r2 (fun _ => ⟨hsu.mp c36, .inr ⟨by rw [c56], by omega⟩⟩) (fun e => by cases e)
  refine gs_aload_n (pc := 0) (gd gk_137 0 rfl) rfl ?_
  refine gs_callV (as := []) (pc := 1) (gd gk_137 1 rfl) (by decide) rfl (by decide) rfl rfl (Nat.le_of_ble_eq_true rfl) gq_137_128 (Nat.le_of_ble_eq_true rfl) (m_winds) (fun r_1 w_1 q_1 => ?_)
  obtain ⟨rfl, I_w, rfl, w1, w2⟩ := q_1
  refine gs_aload_n (pc := 4) (gd gk_137 2 rfl) rfl ?_
  refine gs_iconst (pc := 5) (gd gk_137 3 rfl) (0) rfl ?_
  refine gs_putI (pc := 6) (gd gk_137 4 rfl) rfl rfl rfl rfl (fun I_1 hI_1 => ?_)
  refine gs_aload_n (pc := 9) (gd gk_137 5 rfl) rfl ?_
  refine gs_iconst (pc := 10) (gd gk_137 6 rfl) (0) rfl ?_
  refine gs_iload_n (pc := 11) (gd gk_137 7 rfl) rfl ?_
  refine gs_callV (as := [.int (0), .int (so)]) (pc := 12) (gd gk_137 8 rfl) (by decide) rfl (by decide) rfl rfl (Nat.le_of_ble_eq_true rfl) gq_137_134 (Nat.le_of_ble_eq_true rfl) (m_run0 (I0 := I) 0 so (gm_qf_tr (gm_qf_128 w2) (gm_qf_u hI_1 (by omega))) hn (fun h hh => by rw [hI_1, gw_u_o (by omega)]; exact w1 h hh)) (fun r_12 w_12 q_12 => ?_)
  obtain ⟨I_r, rfl, rfl, r1, r2⟩ := q_12
  refine gs_istore_n (ls2 := fun v => [(0, .ref (126)), (1, .int (so)), (2, .int (v))]) (pc := 15) (gd gk_137 9 rfl) (by rw [gL_137]; decide) (fun _ => rfl) (fun v2_1 hv2_1 => ?_)
  refine gs_iconst (pc := 16) (gd gk_137 10 rfl) (1) rfl ?_
  refine gs_istore_n (ls2 := fun v => [(0, .ref (126)), (1, .int (so)), (2, .int (v2_1)), (3, .int (v))]) (pc := 17) (gd gk_137 11 rfl) (by rw [gL_137]; decide) (fun _ => rfl) (fun v3_1 hv3_1 => ?_)
  obtain rfl : v3_1 = Int32.ofNat 1 := hv3_1.trans (by first | rfl | (simp only [Int32.ofNat_add, Int32.ofNat_mul]; rfl) | (simp only [Int32.ofNat_add, Int32.ofNat_mul]))
  -- end 1: stop, pc 18, locals [(0, .ref (126)), (1, .int (so)), (2, .int (v2_1)), (3, .int (Int32.ofNat 1))]
  obtain rfl : v2_1 = val 0 := by rw [hv2_1, ← hval]; rfl
  have hp0 := Nat.two_pow_pos W
  refine lp (2 ^ W - 1) 1 (by omega) (by omega) I_r 0 (gm_qf_tr (gm_qf_tr (gm_qf_128 w2) (gm_qf_u hI_1 (by omega))) (gm_rf_q r2)) (by rw [r2.1 137 (by omega) (by omega) (by omega), hI_1, gw_u_o (by omega), w2 137 (by omega)]) (fun h hh => ?_) ?_ (by omega) ⟨Nat.zero_mod _, Nat.two_pow_pos _⟩ (fun q hq _ => ?_)
  · rw [r2.1 128 (by omega) (by omega) (by omega), hI_1, gw_u_o (by omega)]; exact w1 h hh
  · rw [r2.2.2 23 (by omega), hI_1, gw_u_s]; simp [upd]
  · obtain rfl : q = 0 := by omega
    exact gq_ge_rf val 0
end
