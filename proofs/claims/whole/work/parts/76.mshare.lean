/-! ===== shares: the reference ===== -/
section
variable {V : gw_V} {n W N h0 L bc : Nat} {I : Nat → Nat → Int32} {J : Nat → Nat → Int64}
theorem gq_bst_mx {val : Nat → Int32} {h0 L p : Nat} (h : gq_bst val h0 L p) : gq_mx val h0 L (val p) := by
  refine ⟨⟨p, h.1, rfl⟩, fun q hq => ?_⟩
  have := h.2 q hq
  unfold gq_ge at this
  omega
theorem gm_val_s (s : Nat) (hn : gm_now I W N h0 L bc) : gm_val I N h0 L bc (Int32.ofNat s) = gq_vs (gz_M I) N h0 L bc (I 133 10) (I 133) s := by
  funext p
  have hN6 := hn.1.2.2.2.1
  exact gq_cm_k (gq_sim_rf _ N) (fun _ _ => rfl) (fun _ _ => rfl) (fun _ _ => rfl) (fun m hm => gz_bitn s (by omega)) (gq_ok_n hn.1) L (Nat.le_refl L)
theorem gm_val_e {I1 : Nat → Nat → Int32} {so : Int32} (hq : gm_qf I I1) (hn : gm_now I W N h0 L bc) : gm_val I1 N h0 L bc so = gm_val I N h0 L bc so := by
  funext p
  show gq_cm _ _ _ _ _ _ _ _ _ = gq_cm _ _ _ _ _ _ _ _ _
  rw [gm_qf_M hq, hq.2.1 10 (by omega)]
  exact gq_cm_k (gq_sim_rf _ N) (fun _ _ => rfl) (fun _ _ => rfl) (fun c hc => hq.2.1 c (by omega)) (fun _ _ => rfl) (gq_ok_n hn.1) L (Nat.le_refl L)
abbrev mq_sh (n : Nat) (I : Nat → Nat → Int32) (J : Nat → Nat → Int64) (N h0 L bc : Nat) (x : Int32) (up : Bool) : Option Value → gw_W → Prop := fun v w' => ∃ b, v = some (.int (gz_sa b N x up)) ∧ (gz_lt x N = true → ∀ s, s < 2 ^ N → gq_mx (gq_vs (gz_M I) N h0 L bc (I 133 10) (I 133) s) h0 L (b s)) ∧ ∃ I2, w' = gS n I2 J ∧ gm_qf I I2
theorem m_share (x : Int32) (up : Bool) (hn : gm_now I W N h0 L bc) : gw_E V 142 (0, [(0, .ref 126), (1, .int x), (2, .int (gz_b up))], [], gS n I J, 0, 0) (mq_sh n I J N h0 L bc x up) := by
  obtain ⟨hok, hh, hW, hbc, hb9⟩ := id hn
  have hW8 : W ≤ 8 := hok.2.1
  have hN6 : N ≤ 6 := hok.2.2.2.1
  have hN : I 126 4 = Int32.ofNat N := hok.2.2.1
  have hfb := gz_fc_b N (by omega)
  have h64 := gz_64 hN6
  by_cases hr : gz_lt x N = true
  · obtain ⟨m, hm, rfl⟩ := gz_lt_nat hr (by omega)
    have hN1 : Int32.ofNat N - 1 = Int32.ofNat (N - 1) := zsubn (b := 1) (by omega)
    have lp2 : ∀ I1, gm_qf I I1 → (∀ s, s < 2 ^ N → gq_mx (gq_vs (gz_M I) N h0 L bc (I 133 10) (I 133) s) h0 L (I1 137 s)) → ∀ (r k : Nat), r + k = 2 ^ N → ∀ ab, ab = Int64.ofInt (gy_S (fun s => if s.testBit m then 0 else ((gz_fc (gz_pc s) * gz_fc (N - 1 - gz_pc s) : Nat) : Int) * ((I1 137 (s + 2 ^ m)).toInt - (I1 137 s).toInt)) k) → gw_E V 142 (45, [(0, .ref 126), (1, .int (Int32.ofNat m)), (2, .int (gz_b up)), (3, .long ab), (5, .int (Int32.ofNat k))], [], gS n I1 J, 0, 0) (mq_sh n I J N h0 L bc (Int32.ofNat m) up) := by
      intro I1 g1 g2 r
      have hNm : I1 126 4 = Int32.ofNat N := (gm_qf_now g1 hn).1.2.2.1
      have wb : ∀ s, s < 2 ^ N → -504 ≤ (I1 137 s).toInt ∧ (I1 137 s).toInt ≤ 504 := fun s hs => gq_vs_b hok (by omega) (g2 s hs)
      have hsb := gz_sj_b hN6 hm wb
      induction r with
      | zero =>
        intro k hk ab hab
        obtain rfl : k = 2 ^ N := by omega
        have hab : ab = Int64.ofInt (gz_sj (I1 137) N m) := hab
        subst hab
        generalize hA : gz_sj (I1 137) N m = A at hsb
        have hg := Nat.gcd_le_right A.natAbs hfb.2
        have hg0 := Nat.gcd_pos_of_pos_right A.natAbs hfb.2
        have hne : ¬ Int64.ofNat (Nat.gcd A.natAbs (gz_fc N)) = 0 := fun q => by have := (zn64 (by omega)).mp q; omega
        have hd := gz_fr_div (A := A) (B := gz_fc N) (by omega) (by omega) hfb.2 (by omega)
        have hz : (Int32.ofNat (gz_fc N)).toInt64 = Int64.ofNat (gz_fc N) := by rw [z64 (by omega), Int64.ofInt_eq_ofNat]
        refine gs_iload (pc := 45) (gd gk_142 27 rfl) rfl ?_
        refine gs_iconst (pc := 47) (gd gk_142 28 rfl) (1) rfl ?_
        refine gs_aload_n (pc := 48) (gd gk_142 29 rfl) rfl ?_
        refine gs_getI (pc := 49) (gd gk_142 30 rfl) rfl rfl ?_
        refine gs_as (Int32.ofNat N) (hNm) ?_
        refine gs_ishl (pc := 52) (gd gk_142 31 rfl) ?_
        refine gs_as (Int32.ofNat (2 ^ N)) (gz_shl N (by omega)) ?_
        refine gs_icmp_ge (pc := 53) (gd gk_142 32 rfl) (fun c53 => ?_) (fun c53 => ?_)
        · replace c53 : (2 ^ N) ≤ (2 ^ N) := (zle (k := (2 ^ N)) (m := (2 ^ N)) (by omega) (by omega)).mp c53
          refine gs_lload_n (pc := 123) (gd gk_142 71 rfl) rfl ?_
          refine gs_aload_n (pc := 124) (gd gk_142 72 rfl) rfl ?_
          refine gs_getI (pc := 125) (gd gk_142 73 rfl) rfl rfl ?_
          refine gs_as (Int32.ofNat N) (hNm) ?_
          refine gs_callS (as := [.int (Int32.ofNat N)]) (pc := 128) (gd gk_142 74 rfl) (by decide) rfl rfl (Nat.le_of_ble_eq_true rfl) gq_142_140 (Nat.le_of_ble_eq_true rfl) (m_factorial N hN6) (fun r_128 w_128 q_128 => ?_)
          obtain ⟨rfl, rfl⟩ := q_128
          refine gs_i2l (pc := 131) (gd gk_142 75 rfl) ?_
          refine gs_callS (as := [.long (Int64.ofInt A), .long (((Int32.ofNat (gz_fc N)) : Int32).toInt64)]) (pc := 132) (gd gk_142 76 rfl) (by decide) rfl rfl (Nat.le_of_ble_eq_true rfl) gq_142_141 (Nat.le_of_ble_eq_true rfl) ((by rw [hz]; exact m_common A (gz_fc N) hsb.1 hsb.2 (by omega))) (fun r_132 w_132 q_132 => ?_)
          obtain ⟨rfl, rfl⟩ := q_132
          refine gs_lstore (ls2 := fun v => [(0, .ref (126)), (1, .int (Int32.ofNat m)), (2, .int (gz_b up)), (3, .long (Int64.ofInt A)), (5, .long (v))]) (pc := 135) (gd gk_142 77 rfl) (by rw [gL_142]; decide) (fun _ => rfl) (fun u5_1 hu5_1 => ?_)
          refine gs_iload_n (pc := 137) (gd gk_142 78 rfl) rfl ?_
          refine gs_if_eq (pc := 138) (gd gk_142 79 rfl) (fun c138 => ?_) (fun c138 => ?_)
          · refine gs_aload_n (pc := 148) (gd gk_142 84 rfl) rfl ?_
            refine gs_getI (pc := 149) (gd gk_142 85 rfl) rfl rfl ?_
            refine gs_as (Int32.ofNat N) (hNm) ?_
            refine gs_callS (as := [.int (Int32.ofNat N)]) (pc := 152) (gd gk_142 86 rfl) (by decide) rfl rfl (Nat.le_of_ble_eq_true rfl) gq_142_140 (Nat.le_of_ble_eq_true rfl) (m_factorial N hN6) (fun r_152 w_152 q_152 => ?_)
            obtain ⟨rfl, rfl⟩ := q_152
            refine gs_i2l (pc := 155) (gd gk_142 87 rfl) ?_
            refine gs_lload (pc := 156) (gd gk_142 88 rfl) rfl ?_
            refine gs_ldiv (pc := 158) (gd gk_142 89 rfl) (by rw [hu5_1]; exact hne) ?_
            refine gs_l2i (pc := 159) (gd gk_142 90 rfl) ?_
            -- end 1: ireturn ((((Int32.ofNat (gz_fc N)) : Int32).toInt64 / u5_1)).toInt32, pc 160, locals [(0, .ref (126)), (1, .int (Int32.ofNat m)), (2, .int (gz_b up)), (3, .long (Int64.ofInt A)), (5, .long (u5_1))]
            exact gs_iret (pc := 160) (gd gk_142 91 rfl) rfl (rfl) (Nat.zero_le _) (Nat.zero_le _) (⟨I1 137, by unfold gz_sa; rw [if_pos hr, znn (by omega), hA, hu5_1, hz, hd.2, gz_b_eq.mp c138], fun _ => g2, I1, rfl, g1⟩)
          · refine gs_lload_n (pc := 141) (gd gk_142 80 rfl) rfl ?_
            refine gs_lload (pc := 142) (gd gk_142 81 rfl) rfl ?_
            refine gs_ldiv (pc := 144) (gd gk_142 82 rfl) (by rw [hu5_1]; exact hne) ?_
            refine gs_goto (pc := 145) (gd gk_142 83 rfl) ?_
            refine gs_l2i (pc := 159) (gd gk_142 90 rfl) ?_
            -- end 2: ireturn ((Int64.ofInt A / u5_1)).toInt32, pc 160, locals [(0, .ref (126)), (1, .int (Int32.ofNat m)), (2, .int (gz_b up)), (3, .long (Int64.ofInt A)), (5, .long (u5_1))]
            exact gs_iret (pc := 160) (gd gk_142 91 rfl) rfl (rfl) (Nat.zero_le _) (Nat.zero_le _) (⟨I1 137, by unfold gz_sa; rw [if_pos hr, znn (by omega), hA, hu5_1, hd.1, gz_b_ne.mp c138], fun _ => g2, I1, rfl, g1⟩)
        · replace c53 : ¬ ((2 ^ N) ≤ (2 ^ N)) := fun q9 => c53 ((zle (k := (2 ^ N)) (m := (2 ^ N)) (by omega) (by omega)).mpr q9)
          -- end 3: stop, pc 56, locals [(0, .ref (126)), (1, .int (Int32.ofNat m)), (2, .int (gz_b up)), (3, .long (Int64.ofInt A)), (5, .int (Int32.ofNat (2 ^ N)))]
          exact absurd (Nat.le_refl _) c53
      | succ r ih =>
        intro k hk ab hab
        have hbit : gz_in (Int32.ofNat k) (Int32.ofNat m) = k.testBit m := gz_bitn k (by omega)
        by_cases e : k.testBit m = true
        · skip
          refine gs_iload (pc := 45) (gd gk_142 27 rfl) rfl ?_
          refine gs_iconst (pc := 47) (gd gk_142 28 rfl) (1) rfl ?_
          refine gs_aload_n (pc := 48) (gd gk_142 29 rfl) rfl ?_
          refine gs_getI (pc := 49) (gd gk_142 30 rfl) rfl rfl ?_
          refine gs_as (Int32.ofNat N) (hNm) ?_
          refine gs_ishl (pc := 52) (gd gk_142 31 rfl) ?_
          refine gs_as (Int32.ofNat (2 ^ N)) (gz_shl N (by omega)) ?_
          refine gs_icmp_ge (pc := 53) (gd gk_142 32 rfl) (fun c53 => ?_) (fun c53 => ?_)
          · replace c53 : (2 ^ N) ≤ k := (zle (k := (2 ^ N)) (m := k) (by omega) (by omega)).mp c53
            -- end 1: stop, pc 123, locals [(0, .ref (126)), (1, .int (Int32.ofNat m)), (2, .int (gz_b up)), (3, .long (ab)), (5, .int (Int32.ofNat k))]
            exact absurd c53 (by omega)
          · replace c53 : ¬ ((2 ^ N) ≤ k) := fun q9 => c53 ((zle (k := (2 ^ N)) (m := k) (by omega) (by omega)).mpr q9)
            refine gs_iload (pc := 56) (gd gk_142 33 rfl) rfl ?_
            refine gs_iload_n (pc := 58) (gd gk_142 34 rfl) rfl ?_
            refine gs_callS (as := [.int (Int32.ofNat k), .int (Int32.ofNat m)]) (pc := 59) (gd gk_142 35 rfl) (by decide) rfl rfl (Nat.le_of_ble_eq_true rfl) gq_142_108 (Nat.le_of_ble_eq_true rfl) (c_mhas (Int32.ofNat k) (Int32.ofNat m)) (fun r_59 w_59 q_59 => ?_)
            obtain ⟨rfl, rfl⟩ := q_59
            refine gs_if_ne (pc := 62) (gd gk_142 36 rfl) (fun c62 => ?_) (fun c62 => ?_)
            · refine gs_iinc (ls2 := fun v => [(0, .ref (126)), (1, .int (Int32.ofNat m)), (2, .int (gz_b up)), (3, .long (ab)), (5, .int (v))]) (pc := 117) (gd gk_142 69 rfl) rfl (by rw [gL_142]; decide) (fun _ => rfl) (1) rfl (fun v5_1 hv5_1 => ?_)
              obtain rfl : v5_1 = Int32.ofNat (k + 1) := hv5_1.trans (by first | rfl | (simp only [Int32.ofNat_add, Int32.ofNat_mul]; rfl) | (simp only [Int32.ofNat_add, Int32.ofNat_mul]))
              refine gs_goto (pc := 120) (gd gk_142 70 rfl) ?_
              -- end 2: stop, pc 45, locals [(0, .ref (126)), (1, .int (Int32.ofNat m)), (2, .int (gz_b up)), (3, .long (ab)), (5, .int (Int32.ofNat (k + 1)))]
              refine ih (k + 1) (by omega) ab ?_
              rw [hab]
              show _ = Int64.ofInt (gy_S _ k + if k.testBit m = true then 0 else _)
              rw [if_pos e, Int.add_zero]
            · -- end 3: stop, pc 65, locals [(0, .ref (126)), (1, .int (Int32.ofNat m)), (2, .int (gz_b up)), (3, .long (ab)), (5, .int (Int32.ofNat k))]
              rw [hbit, e] at c62
              exact absurd c62 (by decide)
        · have e : k.testBit m = false := by simpa using e
          have hg := gz_gr hN6 hm (show k < 2 ^ N by omega) e
          have hs1 : Int32.ofNat (N - 1) - Int32.ofNat (gz_pc k) = Int32.ofNat (N - 1 - gz_pc k) := zsubn hg.2.1
          have hf := gz_fc_m0 (gz_pc k) (by omega) (N - 1 - gz_pc k) (by omega)
          have hon := gz_on_pc k (by omega)
          have dI := zsub_b (wb _ hg.1) (wb k (by omega))
          have mI : (Int32.ofNat (gz_fc (gz_pc k) * gz_fc (N - 1 - gz_pc k)) * (I1 137 (k + 2 ^ m) - I1 137 k)).toInt = ((gz_fc (gz_pc k) * gz_fc (N - 1 - gz_pc k) : Nat) : Int) * ((I1 137 (k + 2 ^ m)).toInt - (I1 137 k).toInt) := by
            have h1 := wb k (by omega)
            have h2 := wb _ hg.1
            have h3 := hf.2
            rw [Int32.toInt_mul, dI, Int32.toInt_ofNat_of_lt (by omega)]
            generalize gz_fc (gz_pc k) * gz_fc (N - 1 - gz_pc k) = w at h3
            have a1 := Int.mul_le_mul_of_nonneg_left (show (I1 137 (k + 2 ^ m)).toInt - (I1 137 k).toInt ≤ 1008 by omega) (show (0 : Int) ≤ (w : Int) by omega)
            have a2 := Int.mul_le_mul_of_nonneg_left (show -1008 ≤ (I1 137 (k + 2 ^ m)).toInt - (I1 137 k).toInt by omega) (show (0 : Int) ≤ (w : Int) by omega)
            generalize (w : Int) * ((I1 137 (k + 2 ^ m)).toInt - (I1 137 k).toInt) = z at *
            exact Int.bmod_eq_of_le (by omega) (by omega)
          refine gs_iload (pc := 45) (gd gk_142 27 rfl) rfl ?_
          refine gs_iconst (pc := 47) (gd gk_142 28 rfl) (1) rfl ?_
          refine gs_aload_n (pc := 48) (gd gk_142 29 rfl) rfl ?_
          refine gs_getI (pc := 49) (gd gk_142 30 rfl) rfl rfl ?_
          refine gs_as (Int32.ofNat N) (hNm) ?_
          refine gs_ishl (pc := 52) (gd gk_142 31 rfl) ?_
          refine gs_as (Int32.ofNat (2 ^ N)) (gz_shl N (by omega)) ?_
          refine gs_icmp_ge (pc := 53) (gd gk_142 32 rfl) (fun c53 => ?_) (fun c53 => ?_)
          · replace c53 : (2 ^ N) ≤ k := (zle (k := (2 ^ N)) (m := k) (by omega) (by omega)).mp c53
            -- end 1: stop, pc 123, locals [(0, .ref (126)), (1, .int (Int32.ofNat m)), (2, .int (gz_b up)), (3, .long (ab)), (5, .int (Int32.ofNat k))]
            exact absurd c53 (by omega)
          · replace c53 : ¬ ((2 ^ N) ≤ k) := fun q9 => c53 ((zle (k := (2 ^ N)) (m := k) (by omega) (by omega)).mpr q9)
            refine gs_iload (pc := 56) (gd gk_142 33 rfl) rfl ?_
            refine gs_iload_n (pc := 58) (gd gk_142 34 rfl) rfl ?_
            refine gs_callS (as := [.int (Int32.ofNat k), .int (Int32.ofNat m)]) (pc := 59) (gd gk_142 35 rfl) (by decide) rfl rfl (Nat.le_of_ble_eq_true rfl) gq_142_108 (Nat.le_of_ble_eq_true rfl) (c_mhas (Int32.ofNat k) (Int32.ofNat m)) (fun r_59 w_59 q_59 => ?_)
            obtain ⟨rfl, rfl⟩ := q_59
            refine gs_if_ne (pc := 62) (gd gk_142 36 rfl) (fun c62 => ?_) (fun c62 => ?_)
            · refine gs_iinc (ls2 := fun v => [(0, .ref (126)), (1, .int (Int32.ofNat m)), (2, .int (gz_b up)), (3, .long (ab)), (5, .int (v))]) (pc := 117) (gd gk_142 69 rfl) rfl (by rw [gL_142]; decide) (fun _ => rfl) (1) rfl (fun v5_1 hv5_1 => ?_)
              obtain rfl : v5_1 = Int32.ofNat (k + 1) := hv5_1.trans (by first | rfl | (simp only [Int32.ofNat_add, Int32.ofNat_mul]; rfl) | (simp only [Int32.ofNat_add, Int32.ofNat_mul]))
              refine gs_goto (pc := 120) (gd gk_142 70 rfl) ?_
              -- end 2: stop, pc 45, locals [(0, .ref (126)), (1, .int (Int32.ofNat m)), (2, .int (gz_b up)), (3, .long (ab)), (5, .int (Int32.ofNat (k + 1)))]
              rw [hbit, e] at c62
              exact absurd rfl c62
            · refine gs_iload (pc := 65) (gd gk_142 37 rfl) rfl ?_
              refine gs_callS (as := [.int (Int32.ofNat k)]) (pc := 67) (gd gk_142 38 rfl) (by decide) rfl rfl (Nat.le_of_ble_eq_true rfl) gq_142_109 (Nat.le_of_ble_eq_true rfl) (c_ones (Int32.ofNat k)) (fun r_67 w_67 q_67 => ?_)
              rw [hon] at q_67
              obtain ⟨rfl, rfl⟩ := q_67
              refine gs_callS (as := [.int (Int32.ofNat (gz_pc k))]) (pc := 70) (gd gk_142 39 rfl) (by decide) rfl rfl (Nat.le_of_ble_eq_true rfl) gq_142_140 (Nat.le_of_ble_eq_true rfl) (m_factorial (gz_pc k) (by omega)) (fun r_70 w_70 q_70 => ?_)
              obtain ⟨rfl, rfl⟩ := q_70
              refine gs_aload_n (pc := 73) (gd gk_142 40 rfl) rfl ?_
              refine gs_getI (pc := 74) (gd gk_142 41 rfl) rfl rfl ?_
              refine gs_as (Int32.ofNat N) (hNm) ?_
              refine gs_iconst (pc := 77) (gd gk_142 42 rfl) (1) rfl ?_
              refine gs_isub (pc := 78) (gd gk_142 43 rfl) ?_
              refine gs_as (Int32.ofNat (N - 1)) (hN1) ?_
              refine gs_iload (pc := 79) (gd gk_142 44 rfl) rfl ?_
              refine gs_callS (as := [.int (Int32.ofNat k)]) (pc := 81) (gd gk_142 45 rfl) (by decide) rfl rfl (Nat.le_of_ble_eq_true rfl) gq_142_109 (Nat.le_of_ble_eq_true rfl) (c_ones (Int32.ofNat k)) (fun r_81 w_81 q_81 => ?_)
              rw [hon] at q_81
              obtain ⟨rfl, rfl⟩ := q_81
              refine gs_isub (pc := 84) (gd gk_142 46 rfl) ?_
              refine gs_as (Int32.ofNat (N - 1 - gz_pc k)) (hs1) ?_
              refine gs_callS (as := [.int (Int32.ofNat (N - 1 - gz_pc k))]) (pc := 85) (gd gk_142 47 rfl) (by decide) rfl rfl (Nat.le_of_ble_eq_true rfl) gq_142_140 (Nat.le_of_ble_eq_true rfl) (m_factorial (N - 1 - gz_pc k) (by omega)) (fun r_85 w_85 q_85 => ?_)
              obtain ⟨rfl, rfl⟩ := q_85
              refine gs_imul (pc := 88) (gd gk_142 48 rfl) ?_
              refine gs_istore (ls2 := fun v => [(0, .ref (126)), (1, .int (Int32.ofNat m)), (2, .int (gz_b up)), (3, .long (ab)), (5, .int (Int32.ofNat k)), (6, .int (v))]) (pc := 89) (gd gk_142 49 rfl) (by rw [gL_142]; decide) (fun _ => rfl) (fun v6_1 hv6_1 => ?_)
              obtain rfl : v6_1 = Int32.ofNat ((gz_fc (gz_pc k)) * (gz_fc (N - 1 - gz_pc k))) := hv6_1.trans (by first | rfl | (simp only [Int32.ofNat_add, Int32.ofNat_mul]; rfl) | (simp only [Int32.ofNat_add, Int32.ofNat_mul]))
              refine gs_lload_n (pc := 91) (gd gk_142 50 rfl) rfl ?_
              refine gs_iload (pc := 92) (gd gk_142 51 rfl) rfl ?_
              refine gs_aload_n (pc := 94) (gd gk_142 52 rfl) rfl ?_
              refine gs_getR (r := 137) (pc := 95) (gd gk_142 53 rfl) rfl rfl rfl (by decide) ?_
              refine gs_iload (pc := 98) (gd gk_142 54 rfl) rfl ?_
              refine gs_iconst (pc := 100) (gd gk_142 55 rfl) (1) rfl ?_
              refine gs_iload_n (pc := 101) (gd gk_142 56 rfl) rfl ?_
              refine gs_ishl (pc := 102) (gd gk_142 57 rfl) ?_
              refine gs_ior (pc := 103) (gd gk_142 58 rfl) ?_
              refine gs_as (Int32.ofNat (k + 2 ^ m)) (hg.2.2) ?_
              refine gs_ialoadK ((k + 2 ^ m)) (64) (pc := 104) (gd gk_142 59 rfl) (Or.inl rfl) rfl (by decide) (by first | rfl | (simp only [Int32.ofNat_add, Int32.ofNat_mul]; rfl) | (simp only [Int32.ofNat_add, Int32.ofNat_mul])) (by omega) ?_
              refine gs_aload_n (pc := 105) (gd gk_142 60 rfl) rfl ?_
              refine gs_getR (r := 137) (pc := 106) (gd gk_142 61 rfl) rfl rfl rfl (by decide) ?_
              refine gs_iload (pc := 109) (gd gk_142 62 rfl) rfl ?_
              refine gs_ialoadK (k) (64) (pc := 111) (gd gk_142 63 rfl) (Or.inl rfl) rfl (by decide) (by first | rfl | (simp only [Int32.ofNat_add, Int32.ofNat_mul]; rfl) | (simp only [Int32.ofNat_add, Int32.ofNat_mul])) (by omega) ?_
              refine gs_isub (pc := 112) (gd gk_142 64 rfl) ?_
              refine gs_imul (pc := 113) (gd gk_142 65 rfl) ?_
              refine gs_i2l (pc := 114) (gd gk_142 66 rfl) ?_
              refine gs_ladd (pc := 115) (gd gk_142 67 rfl) ?_
              refine gs_lstore_n (ls2 := fun v => [(0, .ref (126)), (1, .int (Int32.ofNat m)), (2, .int (gz_b up)), (3, .long (v)), (5, .int (Int32.ofNat k)), (6, .int (Int32.ofNat ((gz_fc (gz_pc k)) * (gz_fc (N - 1 - gz_pc k)))))]) (pc := 116) (gd gk_142 68 rfl) (by rw [gL_142]; decide) (fun _ => rfl) (fun u3_1 hu3_1 => ?_)
              refine gs_iinc (ls2 := fun v => [(0, .ref (126)), (1, .int (Int32.ofNat m)), (2, .int (gz_b up)), (3, .long (u3_1)), (5, .int (v)), (6, .int (Int32.ofNat ((gz_fc (gz_pc k)) * (gz_fc (N - 1 - gz_pc k)))))]) (pc := 117) (gd gk_142 69 rfl) rfl (by rw [gL_142]; decide) (fun _ => rfl) (1) rfl (fun v5_2 hv5_2 => ?_)
              obtain rfl : v5_2 = Int32.ofNat (k + 1) := hv5_2.trans (by first | rfl | (simp only [Int32.ofNat_add, Int32.ofNat_mul]; rfl) | (simp only [Int32.ofNat_add, Int32.ofNat_mul]))
              refine gs_goto (pc := 120) (gd gk_142 70 rfl) ?_
              -- end 3: stop, pc 45, locals [(0, .ref (126)), (1, .int (Int32.ofNat m)), (2, .int (gz_b up)), (3, .long (u3_1)), (5, .int (Int32.ofNat (k + 1))), (6, .int (Int32.ofNat ((gz_fc (gz_pc k)) * (gz_fc (N - 1 - gz_pc k)))))]
              refine gs_drop [0, 1, 2, 3, 4] rfl (ih (k + 1) (by omega) _ ?_)
              rw [hu3_1, hab, ← Int64.ofInt_int32ToInt]
              rw [mI, ← Int64.ofInt_add]
              show _ = Int64.ofInt (gy_S _ k + if k.testBit m = true then 0 else _)
              rw [if_neg (by rw [e]; decide)]
    have lp1 : ∀ (r k : Nat), r + k = 2 ^ N → ∀ I1, gm_qf I I1 → (∀ s, s < k → gq_mx (gq_vs (gz_M I) N h0 L bc (I 133 10) (I 133) s) h0 L (I1 137 s)) → gw_E V 142 (13, [(0, .ref 126), (1, .int (Int32.ofNat m)), (2, .int (gz_b up)), (3, .int (Int32.ofNat k))], [], gS n I1 J, 0, 0) (mq_sh n I J N h0 L bc (Int32.ofNat m) up) := by
      intro r
      induction r with
      | zero =>
        intro k hk I1 g1 g2
        obtain rfl : k = 2 ^ N := by omega
        have hNm : I1 126 4 = Int32.ofNat N := (gm_qf_now g1 hn).1.2.2.1
        refine gs_iload_n (pc := 13) (gd gk_142 8 rfl) rfl ?_
        refine gs_iconst (pc := 14) (gd gk_142 9 rfl) (1) rfl ?_
        refine gs_aload_n (pc := 15) (gd gk_142 10 rfl) rfl ?_
        refine gs_getI (pc := 16) (gd gk_142 11 rfl) rfl rfl ?_
        refine gs_as (Int32.ofNat N) (hNm) ?_
        refine gs_ishl (pc := 19) (gd gk_142 12 rfl) ?_
        refine gs_as (Int32.ofNat (2 ^ N)) (gz_shl N (by omega)) ?_
        refine gs_icmp_ge (pc := 20) (gd gk_142 13 rfl) (fun c20 => ?_) (fun c20 => ?_)
        · replace c20 : (2 ^ N) ≤ (2 ^ N) := (zle (k := (2 ^ N)) (m := (2 ^ N)) (by omega) (by omega)).mp c20
          refine gs_lconst (pc := 40) (gd gk_142 23 rfl) (0) rfl ?_
          refine gs_lstore_n (ls2 := fun v => [(0, .ref (126)), (1, .int (Int32.ofNat m)), (2, .int (gz_b up)), (3, .long (v))]) (pc := 41) (gd gk_142 24 rfl) (by rw [gL_142]; decide) (fun _ => rfl) (fun u3_1 hu3_1 => ?_)
          refine gs_iconst (pc := 42) (gd gk_142 25 rfl) (0) rfl ?_
          refine gs_istore (ls2 := fun v => [(0, .ref (126)), (1, .int (Int32.ofNat m)), (2, .int (gz_b up)), (3, .long (u3_1)), (5, .int (v))]) (pc := 43) (gd gk_142 26 rfl) (by rw [gL_142]; decide) (fun _ => rfl) (fun v5_1 hv5_1 => ?_)
          obtain rfl : v5_1 = Int32.ofNat 0 := hv5_1.trans (by first | rfl | (simp only [Int32.ofNat_add, Int32.ofNat_mul]; rfl) | (simp only [Int32.ofNat_add, Int32.ofNat_mul]))
          -- end 1: stop, pc 45, locals [(0, .ref (126)), (1, .int (Int32.ofNat m)), (2, .int (gz_b up)), (3, .long (u3_1)), (5, .int (Int32.ofNat 0))]
          exact lp2 I1 g1 g2 (2 ^ N) 0 (by omega) _ hu3_1
        · replace c20 : ¬ ((2 ^ N) ≤ (2 ^ N)) := fun q9 => c20 ((zle (k := (2 ^ N)) (m := (2 ^ N)) (by omega) (by omega)).mpr q9)
          -- end 2: stop, pc 23, locals [(0, .ref (126)), (1, .int (Int32.ofNat m)), (2, .int (gz_b up)), (3, .int (Int32.ofNat (2 ^ N)))]
          exact absurd (Nat.le_refl _) c20
      | succ r ih =>
        intro k hk I1 g1 g2
        have hn1 := gm_qf_now g1 hn
        have hNm : I1 126 4 = Int32.ofNat N := hn1.1.2.2.1
        refine gs_iload_n (pc := 13) (gd gk_142 8 rfl) rfl ?_
        refine gs_iconst (pc := 14) (gd gk_142 9 rfl) (1) rfl ?_
        refine gs_aload_n (pc := 15) (gd gk_142 10 rfl) rfl ?_
        refine gs_getI (pc := 16) (gd gk_142 11 rfl) rfl rfl ?_
        refine gs_as (Int32.ofNat N) (hNm) ?_
        refine gs_ishl (pc := 19) (gd gk_142 12 rfl) ?_
        refine gs_as (Int32.ofNat (2 ^ N)) (gz_shl N (by omega)) ?_
        refine gs_icmp_ge (pc := 20) (gd gk_142 13 rfl) (fun c20 => ?_) (fun c20 => ?_)
        · replace c20 : (2 ^ N) ≤ k := (zle (k := (2 ^ N)) (m := k) (by omega) (by omega)).mp c20
          -- end 1: stop, pc 40, locals [(0, .ref (126)), (1, .int (Int32.ofNat m)), (2, .int (gz_b up)), (3, .int (Int32.ofNat k))]
          exact absurd c20 (by omega)
        · replace c20 : ¬ ((2 ^ N) ≤ k) := fun q9 => c20 ((zle (k := (2 ^ N)) (m := k) (by omega) (by omega)).mpr q9)
          refine gs_aload_n (pc := 23) (gd gk_142 14 rfl) rfl ?_
          refine gs_getR (r := 137) (pc := 24) (gd gk_142 15 rfl) rfl rfl rfl (by decide) ?_
          refine gs_iload_n (pc := 27) (gd gk_142 16 rfl) rfl ?_
          refine gs_aload_n (pc := 28) (gd gk_142 17 rfl) rfl ?_
          refine gs_iload_n (pc := 29) (gd gk_142 18 rfl) rfl ?_
          refine gs_callV (as := [.int (Int32.ofNat k)]) (pc := 30) (gd gk_142 19 rfl) (by decide) rfl (by decide) rfl rfl (Nat.le_of_ble_eq_true rfl) gq_142_137 (Nat.le_of_ble_eq_true rfl) (m_bestBy137 (Int32.ofNat k) hn1) (fun r_30 w_30 q_30 => ?_)
          obtain ⟨I_b, p, rfl, b1, b2, rfl, b3, b4⟩ := q_30
          rw [gm_val_e g1 hn, gm_val_s k hn] at b3
          rw [gm_val_e g1 hn, gm_val_s k hn]
          refine gs_iastoreK (k) (64) gs_sl (pc := 33) (gd gk_142 20 rfl) rfl rfl (by decide) (by first | rfl | (simp only [Int32.ofNat_add, Int32.ofNat_mul]; rfl) | (simp only [Int32.ofNat_add, Int32.ofNat_mul])) (by omega) (fun I_1 hI_1 => ?_)
          refine gs_iinc (ls2 := fun v => [(0, .ref (126)), (1, .int (Int32.ofNat m)), (2, .int (gz_b up)), (3, .int (v))]) (pc := 34) (gd gk_142 21 rfl) rfl (by rw [gL_142]; decide) (fun _ => rfl) (1) rfl (fun v3_1 hv3_1 => ?_)
          obtain rfl : v3_1 = Int32.ofNat (k + 1) := hv3_1.trans (by first | rfl | (simp only [Int32.ofNat_add, Int32.ofNat_mul]; rfl) | (simp only [Int32.ofNat_add, Int32.ofNat_mul]))
          refine gs_goto (pc := 37) (gd gk_142 22 rfl) ?_
          -- end 2: stop, pc 13, locals [(0, .ref (126)), (1, .int (Int32.ofNat m)), (2, .int (gz_b up)), (3, .int (Int32.ofNat (k + 1)))]
          refine ih (k + 1) (by omega) I_1 (gm_qf_tr (gm_qf_tr g1 b1) (gm_qf_137 (fun p hp => by rw [hI_1, gw_u_o hp]))) (fun s hs => ?_)
          rw [hI_1, gw_u_s]
          unfold upd
          by_cases q9 : s = k
          · rw [if_pos q9, q9]; exact gq_bst_mx b3
          · rw [if_neg q9, b4]; exact g2 s (by omega)
    refine gs_aload_n (pc := 0) (gd gk_142 0 rfl) rfl ?_
    refine gs_iload_n (pc := 1) (gd gk_142 1 rfl) rfl ?_
    refine gs_callV (as := [.int (Int32.ofNat m)]) (pc := 2) (gd gk_142 2 rfl) (by decide) rfl (by decide) rfl rfl (Nat.le_of_ble_eq_true rfl) gq_142_118 (Nat.le_of_ble_eq_true rfl) (m_isNose (Int32.ofNat m) hN hN6) (fun r_2 w_2 q_2 => ?_)
    obtain ⟨rfl, rfl⟩ := q_2
    refine gs_if_ne (pc := 5) (gd gk_142 3 rfl) (fun c5 => ?_) (fun c5 => ?_)
    · refine gs_iconst (pc := 11) (gd gk_142 6 rfl) (0) rfl ?_
      refine gs_istore_n (ls2 := fun v => [(0, .ref (126)), (1, .int (Int32.ofNat m)), (2, .int (gz_b up)), (3, .int (v))]) (pc := 12) (gd gk_142 7 rfl) (by rw [gL_142]; decide) (fun _ => rfl) (fun v3_1 hv3_1 => ?_)
      obtain rfl : v3_1 = Int32.ofNat 0 := hv3_1.trans (by first | rfl | (simp only [Int32.ofNat_add, Int32.ofNat_mul]; rfl) | (simp only [Int32.ofNat_add, Int32.ofNat_mul]))
      -- end 1: stop, pc 13, locals [(0, .ref (126)), (1, .int (Int32.ofNat m)), (2, .int (gz_b up)), (3, .int (Int32.ofNat 0))]
      exact lp1 (2 ^ N) 0 (by omega) I (gm_qf_rf I) (fun s hs => absurd hs (Nat.not_lt_zero _))
    · refine gs_ldc (pc := 8) (gd gk_142 4 rfl) (-1000001) rfl ?_
      -- end 2: ireturn (-1000001), pc 10, locals [(0, .ref (126)), (1, .int (Int32.ofNat m)), (2, .int (gz_b up))]
      rw [hr] at c5
      exact absurd c5 (by decide)
  · skip
    refine gs_aload_n (pc := 0) (gd gk_142 0 rfl) rfl ?_
    refine gs_iload_n (pc := 1) (gd gk_142 1 rfl) rfl ?_
    refine gs_callV (as := [.int (x)]) (pc := 2) (gd gk_142 2 rfl) (by decide) rfl (by decide) rfl rfl (Nat.le_of_ble_eq_true rfl) gq_142_118 (Nat.le_of_ble_eq_true rfl) (m_isNose x hN hN6) (fun r_2 w_2 q_2 => ?_)
    obtain ⟨rfl, rfl⟩ := q_2
    refine gs_if_ne (pc := 5) (gd gk_142 3 rfl) (fun c5 => ?_) (fun c5 => ?_)
    · -- end 1: stop, pc 11, locals [(0, .ref (126)), (1, .int (x)), (2, .int (gz_b up))]
      exact absurd (gz_b_ne.mp c5) hr
    · refine gs_ldc (pc := 8) (gd gk_142 4 rfl) (-1000001) rfl ?_
      -- end 2: ireturn (-1000001), pc 10, locals [(0, .ref (126)), (1, .int (x)), (2, .int (gz_b up))]
      exact gs_iret (pc := 10) (gd gk_142 5 rfl) rfl (rfl) (Nat.zero_le _) (Nat.zero_le _) (⟨fun _ => 0, by unfold gz_sa; rw [if_neg hr], fun q => absurd q hr, I, rfl, gm_qf_rf I⟩)
end
