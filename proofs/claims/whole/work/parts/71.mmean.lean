/-! ===== meanOf: the reference ===== -/
theorem gy_my_and (c d : Nat → Bool) (q : Nat) : ∀ k, gy_my (fun h => c h && d h) q k = (gy_my c q k && gy_my d q k)
  | 0 => rfl
  | k + 1 => by
    unfold gy_my
    rw [gy_my_and c d q k]
    cases gy_my c q k <;> cases gy_my d q k <;> cases q.testBit k <;> cases c k <;> cases d k <;> rfl
/-- hours that are left and have a wind -/
abbrev gy_wd (σ : Nat → Nat → Int32) : Nat → Bool := fun h => decide (¬ σ 1 h = 0)
abbrev gy_m (σ : Nat → Nat → Int32) (h0 : Nat) : Nat → Bool := fun h => gy_c h0 h && gy_wd σ h
theorem gz_lf_bit0 : ∀ h0, h0 < 9 → ∀ L, L < 9 → h0 + L < 9 → ∀ h, h < h0 + L → gz_in (gz_lf (h0 + L) h0) (Int32.ofNat h) = decide (h0 ≤ h) := by decide +kernel
section
variable {V : gw_V} {n W N h0 L bc : Nat} {I : Nat → Nat → Int32} {J : Nat → Nat → Int64}
abbrev mq_mo (n : Nat) (I : Nat → Nat → Int32) (J : Nat → Nat → Int64) (W N h0 L bc : Nat) (o : Option Nat) (pl : Int32) (x : Nat) : Option Value → gw_W → Prop := fun v w' => v = some (.long (Int64.ofInt (gy_T (gy_m (gz_M I) h0) x (10 - x) W (gy_vi (gz_M I) N h0 L bc (I 133 10) (I 133) pl o)))) ∧ ∃ I2 J2, w' = gS n I2 J2 ∧ gm_qf I I2 ∧ J2 126 29 = Int64.ofInt (10 ^ gy_n (gy_m (gz_M I) h0) W) ∧ ∀ p q, ¬ (p = 126 ∧ q = 29) → J2 p q = J p q
theorem m_meanOf (o : Option Nat) (so pl : Int32) (co : Bool) (x : Nat) (hx : x ≤ 10) (hn : gm_now I W N h0 L bc) (hv : ∀ wd, gq_cm (gz_M I) wd (gq_p0 pl h0) bc (I 133 10) (I 133) (fun m => gz_in so (Int32.ofNat m)) N L + (if co then 0 else gz_M I 0 2 * gz_on (pl &&& gz_lf W h0) 8) = gy_u (gz_M I) N h0 L bc (I 133 10) (I 133) pl o wd) : gw_E V 151 (0, [(0, .ref 126), (1, .int pl), (2, .int (Int32.ofNat x)), (3, .int so), (4, .int (gz_b co))], [], gS n I J, 0, 0) (mq_mo n I J W N h0 L bc o pl x) := by
  obtain ⟨hok, hh, hW, hbc, hb9⟩ := id hn
  obtain ⟨hW0, hW8, hN, hN6, -, -, -, hwnd, hns⟩ := id hok
  have hpw : 2 ^ W ≤ 256 := Nat.le_trans (Nat.pow_le_pow_right (by omega) hW8) (by decide)
  have h10 : (10 : Int32) - Int32.ofNat x = Int32.ofNat (10 - x) := zsubn (a := 10) hx
  generalize hcm : gy_m (gz_M I) h0 = cm
  generalize hvv : gy_vi (gz_M I) N h0 L bc (I 133 10) (I 133) pl o = v
  have lp : ∀ (m k : Nat), m + k = 2 ^ W → ∀ I1 J1 su, gm_qf I I1 → (∀ p q, ¬ (p = 126 ∧ q = 29) → J1 p q = J p q) → su = Int64.ofInt (gy_S (fun q => gy_wt cm x (10 - x) W q * v q) k) → J1 126 29 = Int64.ofInt (gy_S (fun q => gy_wt cm x (10 - x) W q * 1) k) → gw_E V 151 (11, [(0, .ref 126), (1, .int pl), (2, .int (Int32.ofNat x)), (3, .int so), (4, .int (gz_b co)), (5, .long su), (7, .int (Int32.ofNat k))], [], gS n I1 J1, 0, 0) (mq_mo n I J W N h0 L bc o pl x) := by
    intro m
    induction m with
    | zero =>
      intro k hk I1 J1 su g1 g2 g3 g4
      obtain rfl : k = 2 ^ W := by omega
      have hW31 : I1 126 3 = Int32.ofNat W := (gm_qf_now g1 hn).1.1
      refine gs_iload (pc := 11) (gd gk_151 7 rfl) rfl ?_
      refine gs_iconst (pc := 13) (gd gk_151 8 rfl) (1) rfl ?_
      refine gs_aload_n (pc := 14) (gd gk_151 9 rfl) rfl ?_
      refine gs_getI (pc := 15) (gd gk_151 10 rfl) rfl rfl ?_
      refine gs_as (Int32.ofNat W) (hW31) ?_
      refine gs_ishl (pc := 18) (gd gk_151 11 rfl) ?_
      refine gs_icmp_ge (pc := 19) (gd gk_151 12 rfl) (fun c19 => ?_) (fun c19 => ?_)
      · refine gs_lload (pc := 243) (gd gk_151 128 rfl) rfl ?_
        -- end 1: lreturn su, pc 245, locals [(0, .ref (126)), (1, .int (pl)), (2, .int (Int32.ofNat x)), (3, .int (so)), (4, .int (gz_b co)), (5, .long (su)), (7, .int (Int32.ofNat (2 ^ W)))]
        exact gs_lret (pc := 245) (gd gk_151 129 rfl) rfl (Nat.zero_le _) (Nat.zero_le _) (⟨by rw [g3, gy_wt_T, hcm, hvv], I1, J1, rfl, g1, by rw [g4, gy_wt_T, hcm, gy_T_1 cm (by omega)], g2⟩)
      · -- end 2: stop, pc 22, locals [(0, .ref (126)), (1, .int (pl)), (2, .int (Int32.ofNat x)), (3, .int (so)), (4, .int (gz_b co)), (5, .long (su)), (7, .int (Int32.ofNat (2 ^ W)))]
        exact absurd (by rw [gz_shl W (by omega)]; exact Int32.le_refl _) c19
    | succ m ih =>
      intro k hk I1 J1 su g1 g2 g3 g4
      have hn1 := gm_qf_now g1 hn
      have hW31 : I1 126 3 = Int32.ofNat W := hn1.1.1
      have hM1 : gz_M I1 = gz_M I := gm_qf_M g1
      have h127 : I1 127 = I 127 := g1.1 127 (by omega) (by omega) (by omega) (by omega) (by omega) (by omega) (by omega) (by omega) (by omega) (by omega)
      have hkW : k < 2 ^ (h0 + L) := by rw [hW]; omega
      have hsu : Int32.ofNat k &&& (gz_lf W h0 ^^^ -1) = 0 ↔ gz_su k h0 L := by rw [← hW]; exact gz_lf_su (by omega) hkW
      have hmy : gy_my cm k W = (decide (k % 2 ^ h0 = 0) && gy_my (gy_wd (gz_M I)) k W) := by
        rw [← hcm, gy_my_and, ← hW, gy_c_my0 h0 (by omega) L (by omega) (by omega) k hkW]
      have goon : ∀ I2 J2 s2, gm_qf I I2 → (∀ p q, ¬ (p = 126 ∧ q = 29) → J2 p q = J p q) → s2 = Int64.ofInt (gy_S (fun q => gy_wt cm x (10 - x) W q * v q) k + gy_wt cm x (10 - x) W k * v k) → J2 126 29 = Int64.ofInt (gy_S (fun q => gy_wt cm x (10 - x) W q * 1) k + gy_wt cm x (10 - x) W k * 1) → gw_E V 151 (11, [(0, .ref 126), (1, .int pl), (2, .int (Int32.ofNat x)), (3, .int so), (4, .int (gz_b co)), (5, .long s2), (7, .int (Int32.ofNat (k + 1)))], [], gS n I2 J2, 0, 0) (mq_mo n I J W N h0 L bc o pl x) := fun I2 J2 s2 a b c d => ih (k + 1) (by omega) I2 J2 s2 a b c d
      have inner : ∀ (r h : Nat), r + h = W → ∀ I2 wt, gm_qf I I2 → (∀ j, j < h → I2 128 j = gq_wd (gz_M I) (Int32.ofNat k) j) → wt = Int64.ofInt (gy_wg cm x (10 - x) k h) → ∀ b, b = (decide (k % 2 ^ h0 = 0) && gy_my (gy_wd (gz_M I)) k h) → gw_E V 151 (47, [(0, .ref 126), (1, .int pl), (2, .int (Int32.ofNat x)), (3, .int so), (4, .int (gz_b co)), (5, .long su), (7, .int (Int32.ofNat k)), (8, .int (gz_b b)), (9, .long wt), (11, .int (Int32.ofNat h))], [], gS n I2 J1, 0, 0) (mq_mo n I J W N h0 L bc o pl x) := by
        intro r
        induction r with
        | zero =>
          intro h hh2 I2 wt a1 a2 a3 b a4
          obtain rfl : h = W := by omega
          have hn2 := gm_qf_now a1 hn
          have hW32 : I2 126 3 = Int32.ofNat h := hn2.1.1
          have hM2 : gz_M I2 = gz_M I := gm_qf_M a1
          have e133 : ∀ q, q < 13 → I2 133 q = I 133 q := a1.2.1
          have hbl : ∀ j, j < h → I2 128 j = -1 ∨ I2 128 j = 0 ∨ I2 128 j = 1 := by
            intro j hj
            rw [a2 j hj]
            have := hwnd j hj
            unfold gq_wd
            split
            · rcases this with e | e | e <;> rw [e] <;> decide
            · exact this
          have tail : ∀ I3 (z : Int32), gm_qf I I3 → z = gy_u (gz_M I) N h0 L bc (I 133 10) (I 133) pl o (fun j => gq_wd (gz_M I) (Int32.ofNat k) (h0 + j)) → b = true → gw_E V 151 (213, [(0, .ref 126), (1, .int pl), (2, .int (Int32.ofNat x)), (3, .int so), (4, .int (gz_b co)), (5, .long su), (7, .int (Int32.ofNat k)), (8, .int (gz_b b)), (9, .long wt)], [.int z], gS n I3 J1, 0, 0) (mq_mo n I J h N h0 L bc o pl x) := by
            intro I3 z d1 d2 d3
            have hz : z.toInt = v k := by rw [d2, ← hvv]
            have hw : gy_wt cm x (10 - x) h k = gy_wg cm x (10 - x) k h := by rw [gy_wt_g, hmy, ← a4, d3]; rfl
            refine gs_istore (ls2 := fun v => [(0, .ref (126)), (1, .int (pl)), (2, .int (Int32.ofNat x)), (3, .int (so)), (4, .int (gz_b co)), (5, .long (su)), (7, .int (Int32.ofNat k)), (8, .int (gz_b b)), (9, .long (wt)), (11, .int (v))]) (pc := 213) (gd gk_151 112 rfl) (by rw [gL_151]; decide) (fun _ => rfl) (fun v11_1 hv11_1 => ?_)
            refine gs_lload (pc := 215) (gd gk_151 113 rfl) rfl ?_
            refine gs_lload (pc := 217) (gd gk_151 114 rfl) rfl ?_
            refine gs_iload (pc := 219) (gd gk_151 115 rfl) rfl ?_
            refine gs_i2l (pc := 221) (gd gk_151 116 rfl) ?_
            refine gs_lmul (pc := 222) (gd gk_151 117 rfl) ?_
            refine gs_ladd (pc := 223) (gd gk_151 118 rfl) ?_
            refine gs_lstore (ls2 := fun v => [(0, .ref (126)), (1, .int (pl)), (2, .int (Int32.ofNat x)), (3, .int (so)), (4, .int (gz_b co)), (5, .long (v)), (7, .int (Int32.ofNat k)), (8, .int (gz_b b)), (9, .long (wt)), (11, .int (v11_1))]) (pc := 224) (gd gk_151 119 rfl) (by rw [gL_151]; decide) (fun _ => rfl) (fun u5_1 hu5_1 => ?_)
            refine gs_aload_n (pc := 226) (gd gk_151 120 rfl) rfl ?_
            refine gs_dup (pc := 227) (gd gk_151 121 rfl) rfl ?_
            refine gs_getJ (pc := 228) (gd gk_151 122 rfl) rfl rfl ?_
            refine gs_lload (pc := 231) (gd gk_151 123 rfl) rfl ?_
            refine gs_ladd (pc := 233) (gd gk_151 124 rfl) ?_
            refine gs_putJ (pc := 234) (gd gk_151 125 rfl) rfl rfl rfl rfl (fun J_1 hJ_1 => ?_)
            refine gs_iinc (ls2 := fun v => [(0, .ref (126)), (1, .int (pl)), (2, .int (Int32.ofNat x)), (3, .int (so)), (4, .int (gz_b co)), (5, .long (u5_1)), (7, .int (v)), (8, .int (gz_b b)), (9, .long (wt)), (11, .int (v11_1))]) (pc := 237) (gd gk_151 126 rfl) rfl (by rw [gL_151]; decide) (fun _ => rfl) (1) rfl (fun v7_1 hv7_1 => ?_)
            obtain rfl : v7_1 = Int32.ofNat (k + 1) := hv7_1.trans (by first | rfl | (simp only [Int32.ofNat_add, Int32.ofNat_mul]; rfl) | (simp only [Int32.ofNat_add, Int32.ofNat_mul]))
            refine gs_goto (pc := 240) (gd gk_151 127 rfl) ?_
            -- end 1: stop, pc 11, locals [(0, .ref (126)), (1, .int (pl)), (2, .int (Int32.ofNat x)), (3, .int (so)), (4, .int (gz_b co)), (5, .long (u5_1)), (7, .int (Int32.ofNat (k + 1))), (8, .int (gz_b b)), (9, .long (wt)), (11, .int (v11_1))]
            refine gs_drop [0, 1, 2, 3, 4, 5, 6] rfl (goon I3 J_1 _ d1 (fun p q hpq => ?_) ?_ ?_)
            · rw [hJ_1]; unfold gw_uJ; rw [if_neg hpq]; exact g2 p q hpq
            · rw [hu5_1, g3, a3, hv11_1, ← Int64.ofInt_int32ToInt, hz, hw, ← Int64.ofInt_mul, ← Int64.ofInt_add]
            · rw [hJ_1, hw, Int.mul_one]
              show (if 126 = 126 ∧ 29 = 29 then J1 126 29 + wt else _) = _
              rw [if_pos ⟨rfl, rfl⟩, g4, a3, ← Int64.ofInt_add]
          have hwd9 : ∀ j, j < L → I2 128 (h0 + j) = gq_wd (gz_M I) (Int32.ofNat k) (h0 + j) := fun j hj => a2 (h0 + j) (by omega)
          refine gs_iload (pc := 47) (gd gk_151 28 rfl) rfl ?_
          refine gs_aload_n (pc := 49) (gd gk_151 29 rfl) rfl ?_
          refine gs_getI (pc := 50) (gd gk_151 30 rfl) rfl rfl ?_
          refine gs_as (Int32.ofNat h) (hW32) ?_
          refine gs_icmp_ge (pc := 53) (gd gk_151 31 rfl) (fun c53 => ?_) (fun c53 => ?_)
          · replace c53 : h ≤ h := (zle (k := h) (m := h) (by omega) (by omega)).mp c53
            refine gs_iload (pc := 174) (gd gk_151 91 rfl) rfl ?_
            refine gs_if_eq (pc := 176) (gd gk_151 92 rfl) (fun c176 => ?_) (fun c176 => ?_)
            · refine gs_iinc (ls2 := fun v => [(0, .ref (126)), (1, .int (pl)), (2, .int (Int32.ofNat x)), (3, .int (so)), (4, .int (gz_b co)), (5, .long (su)), (7, .int (v)), (8, .int (gz_b b)), (9, .long (wt)), (11, .int (Int32.ofNat h))]) (pc := 237) (gd gk_151 126 rfl) rfl (by rw [gL_151]; decide) (fun _ => rfl) (1) rfl (fun v7_1 hv7_1 => ?_)
              obtain rfl : v7_1 = Int32.ofNat (k + 1) := hv7_1.trans (by first | rfl | (simp only [Int32.ofNat_add, Int32.ofNat_mul]; rfl) | (simp only [Int32.ofNat_add, Int32.ofNat_mul]))
              refine gs_goto (pc := 240) (gd gk_151 127 rfl) ?_
              -- end 1: stop, pc 11, locals [(0, .ref (126)), (1, .int (pl)), (2, .int (Int32.ofNat x)), (3, .int (so)), (4, .int (gz_b co)), (5, .long (su)), (7, .int (Int32.ofNat (k + 1))), (8, .int (gz_b b)), (9, .long (wt)), (11, .int (Int32.ofNat h))]
              have hb := gz_b_eq.mp c176
              have hw : gy_wt cm x (10 - x) h k = 0 := by rw [gy_wt_g, hmy, ← a4, hb]; rfl
              exact gs_drop [0, 1, 2, 3, 4, 5, 6] rfl (goon I2 J1 su a1 g2 (by rw [hw, Int.zero_mul, Int.add_zero]; exact g3) (by rw [hw, Int.zero_mul, Int.add_zero]; exact g4))
            · refine gs_aload_n (pc := 179) (gd gk_151 93 rfl) rfl ?_
              refine gs_iload_n (pc := 180) (gd gk_151 94 rfl) rfl ?_
              refine gs_iload_n (pc := 181) (gd gk_151 95 rfl) rfl ?_
              refine gs_callV (as := [.int (pl), .int (so)]) (pc := 182) (gd gk_151 96 rfl) (by decide) rfl (by decide) rfl rfl (Nat.le_of_ble_eq_true rfl) gq_151_134 (Nat.le_of_ble_eq_true rfl) (m_run h0 L bc pl so hn2 hbl) (fun r_182 w_182 q_182 => ?_)
              obtain ⟨I_r, rfl, rfl, r1, r2⟩ := q_182
              have q3 := gm_qf_tr a1 (gm_rf_q r2)
              have hn3 := gm_qf_now q3 hn
              have ev : gq_cm (gz_M I2) (fun q => I2 128 (h0 + q)) (fun q => gz_in pl (Int32.ofNat (h0 + q))) bc (I2 133 10) (I2 133) (fun m => gz_in so (Int32.ofNat m)) N L = gq_cm (gz_M I) (fun j => gq_wd (gz_M I) (Int32.ofNat k) (h0 + j)) (gq_p0 pl h0) bc (I 133 10) (I 133) (fun m => gz_in so (Int32.ofNat m)) N L := by
                rw [hM2, e133 10 (by omega)]
                exact gq_cm_k (gq_sim_rf _ N) hwd9 (fun _ _ => rfl) (fun c hc => e133 c (by omega)) (fun _ _ => rfl) (gq_ok_n hok) L (Nat.le_refl L)
              rw [ev]
              refine gs_istore (ls2 := fun v => [(0, .ref (126)), (1, .int (pl)), (2, .int (Int32.ofNat x)), (3, .int (so)), (4, .int (gz_b co)), (5, .long (su)), (7, .int (Int32.ofNat k)), (8, .int (gz_b b)), (9, .long (wt)), (11, .int (v))]) (pc := 185) (gd gk_151 97 rfl) (by rw [gL_151]; decide) (fun _ => rfl) (fun v11_1 hv11_1 => ?_)
              refine gs_iload (pc := 187) (gd gk_151 98 rfl) rfl ?_
              refine gs_iload (pc := 189) (gd gk_151 99 rfl) rfl ?_
              refine gs_if_eq (pc := 191) (gd gk_151 100 rfl) (fun c191 => ?_) (fun c191 => ?_)
              · refine gs_aload_n (pc := 198) (gd gk_151 103 rfl) rfl ?_
                refine gs_getI (pc := 199) (gd gk_151 104 rfl) rfl rfl ?_
                refine gs_iload_n (pc := 202) (gd gk_151 105 rfl) rfl ?_
                refine gs_aload_n (pc := 203) (gd gk_151 106 rfl) rfl ?_
                refine gs_callV (as := []) (pc := 204) (gd gk_151 107 rfl) (by decide) rfl (by decide) rfl rfl (Nat.le_of_ble_eq_true rfl) gq_151_135 (Nat.le_of_ble_eq_true rfl) (m_left hn3) (fun r_204 w_204 q_204 => ?_)
                obtain ⟨rfl, rfl⟩ := q_204
                refine gs_iand (pc := 207) (gd gk_151 108 rfl) ?_
                refine gs_callS (as := [.int ((pl &&& (gz_lf h h0)))]) (pc := 208) (gd gk_151 109 rfl) (by decide) rfl rfl (Nat.le_of_ble_eq_true rfl) gq_151_109 (Nat.le_of_ble_eq_true rfl) (c_ones ((pl &&& (gz_lf h h0)))) (fun r_208 w_208 q_208 => ?_)
                obtain ⟨rfl, rfl⟩ := q_208
                refine gs_imul (pc := 211) (gd gk_151 110 rfl) ?_
                -- end 2: stop, pc 212, locals [(0, .ref (126)), (1, .int (pl)), (2, .int (Int32.ofNat x)), (3, .int (so)), (4, .int (gz_b co)), (5, .long (su)), (7, .int (Int32.ofNat k)), (8, .int (gz_b b)), (9, .long (wt)), (11, .int (v11_1))]
                have hb := gz_b_ne.mp c176
                have hcof := gz_b_eq.mp c191
                refine gs_iadd (pc := 212) (gd gk_151 111 rfl) ?_
                refine gs_drop [0, 1, 2, 3, 4, 5, 6, 7, 8] rfl (tail I_r _ q3 ?_ hb)
                rw [hv11_1, ← hv, hcof, show I_r 126 2 = gz_M I 0 2 from q3.2.2 2 (by omega) (by omega) (by omega) (by omega) (by omega) (by omega) (by omega) (by omega)]
                rfl
              · refine gs_iconst (pc := 194) (gd gk_151 101 rfl) (0) rfl ?_
                refine gs_goto (pc := 195) (gd gk_151 102 rfl) ?_
                -- end 3: stop, pc 212, locals [(0, .ref (126)), (1, .int (pl)), (2, .int (Int32.ofNat x)), (3, .int (so)), (4, .int (gz_b co)), (5, .long (su)), (7, .int (Int32.ofNat k)), (8, .int (gz_b b)), (9, .long (wt)), (11, .int (v11_1))]
                have hb := gz_b_ne.mp c176
                have hcof := gz_b_ne.mp c191
                refine gs_iadd (pc := 212) (gd gk_151 111 rfl) ?_
                refine gs_drop [0, 1, 2, 3, 4, 5, 6, 7, 8] rfl (tail I_r _ q3 ?_ hb)
                rw [hv11_1, ← hv, hcof]
                rfl
          · replace c53 : ¬ (h ≤ h) := fun q9 => c53 ((zle (k := h) (m := h) (by omega) (by omega)).mpr q9)
            -- end 4: stop, pc 56, locals [(0, .ref (126)), (1, .int (pl)), (2, .int (Int32.ofNat x)), (3, .int (so)), (4, .int (gz_b co)), (5, .long (su)), (7, .int (Int32.ofNat k)), (8, .int (gz_b b)), (9, .long (wt)), (11, .int (Int32.ofNat h))]
            exact absurd (Nat.le_refl _) c53
        | succ r ihr =>
          intro h hh2 I2 wt a1 a2 a3 b a4
          have hn2 := gm_qf_now a1 hn
          have hW32 : I2 126 3 = Int32.ofNat W := hn2.1.1
          have h1272 : I2 127 = I 127 := a1.1 127 (by omega) (by omega) (by omega) (by omega) (by omega) (by omega) (by omega) (by omega) (by omega) (by omega)
          have hb : gz_in (Int32.ofNat k) (Int32.ofNat h) = k.testBit h := gz_bitn k (by omega)
          have hlf : gz_in (gz_lf W h0) (Int32.ofNat h) = decide (h0 ≤ h) := by rw [← hW]; exact gz_lf_bit0 h0 (by omega) L (by omega) (by omega) h (by omega)
          have t165 : ∀ I3 (f : Int64) b2, gm_qf I I3 → (∀ j, j < h + 1 → I3 128 j = gq_wd (gz_M I) (Int32.ofNat k) j) → b2 = (decide (k % 2 ^ h0 = 0) && gy_my (gy_wd (gz_M I)) k (h + 1)) → f = Int64.ofInt (if cm h then (if k.testBit h then (x : Int) else 10 - x) else 1) → gw_E V 151 (165, [(0, .ref 126), (1, .int pl), (2, .int (Int32.ofNat x)), (3, .int so), (4, .int (gz_b co)), (5, .long su), (7, .int (Int32.ofNat k)), (8, .int (gz_b b2)), (9, .long wt), (11, .int (Int32.ofNat h)), (12, .int (gz_b (gz_in (Int32.ofNat k) (Int32.ofNat h))))], [.long f, .long wt], gS n I3 J1, 0, 0) (mq_mo n I J W N h0 L bc o pl x) := by
            intro I3 f b2 d1 d2 d3 d4
            refine gs_lmul (pc := 165) (gd gk_151 87 rfl) ?_
            refine gs_lstore (ls2 := fun v => [(0, .ref (126)), (1, .int (pl)), (2, .int (Int32.ofNat x)), (3, .int (so)), (4, .int (gz_b co)), (5, .long (su)), (7, .int (Int32.ofNat k)), (8, .int (gz_b b2)), (9, .long (v)), (11, .int (Int32.ofNat h)), (12, .int (gz_b (gz_in (Int32.ofNat k) (Int32.ofNat h))))]) (pc := 166) (gd gk_151 88 rfl) (by rw [gL_151]; decide) (fun _ => rfl) (fun u9_1 hu9_1 => ?_)
            refine gs_iinc (ls2 := fun v => [(0, .ref (126)), (1, .int (pl)), (2, .int (Int32.ofNat x)), (3, .int (so)), (4, .int (gz_b co)), (5, .long (su)), (7, .int (Int32.ofNat k)), (8, .int (gz_b b2)), (9, .long (u9_1)), (11, .int (v)), (12, .int (gz_b (gz_in (Int32.ofNat k) (Int32.ofNat h))))]) (pc := 168) (gd gk_151 89 rfl) rfl (by rw [gL_151]; decide) (fun _ => rfl) (1) rfl (fun v11_1 hv11_1 => ?_)
            obtain rfl : v11_1 = Int32.ofNat (h + 1) := hv11_1.trans (by first | rfl | (simp only [Int32.ofNat_add, Int32.ofNat_mul]; rfl) | (simp only [Int32.ofNat_add, Int32.ofNat_mul]))
            refine gs_goto (pc := 171) (gd gk_151 90 rfl) ?_
            -- end 1: stop, pc 47, locals [(0, .ref (126)), (1, .int (pl)), (2, .int (Int32.ofNat x)), (3, .int (so)), (4, .int (gz_b co)), (5, .long (su)), (7, .int (Int32.ofNat k)), (8, .int (gz_b b2)), (9, .long (u9_1)), (11, .int (Int32.ofNat (h + 1))), (12, .int (gz_b (gz_in (Int32.ofNat k) (Int32.ofNat h))))]
            refine gs_drop [0, 1, 2, 3, 4, 5, 6, 7, 8, 9] rfl (ihr (h + 1) (by omega) I3 _ d1 d2 ?_ b2 d3)
            rw [hu9_1, a3, d4, ← Int64.ofInt_mul]; rfl
          have t121 : ∀ (bl : Int32) b2, bl = gq_wd (gz_M I) (Int32.ofNat k) h → b2 = (decide (k % 2 ^ h0 = 0) && gy_my (gy_wd (gz_M I)) k (h + 1)) → gw_E V 151 (121, [(0, .ref 126), (1, .int pl), (2, .int (Int32.ofNat x)), (3, .int so), (4, .int (gz_b co)), (5, .long su), (7, .int (Int32.ofNat k)), (8, .int (gz_b b2)), (9, .long wt), (11, .int (Int32.ofNat h)), (12, .int (gz_b (gz_in (Int32.ofNat k) (Int32.ofNat h))))], [.int bl, .int (Int32.ofNat h), .ref 128], gS n I2 J1, 0, 0) (mq_mo n I J W N h0 L bc o pl x) := by
            intro bl b2 d1 d2
            refine gs_iastoreK (h) (8) gs_sl (pc := 121) (gd gk_151 64 rfl) rfl rfl (by decide) (by first | rfl | (simp only [Int32.ofNat_add, Int32.ofNat_mul]; rfl) | (simp only [Int32.ofNat_add, Int32.ofNat_mul])) (by omega) (fun I_1 hI_1 => ?_)
            refine gs_lload (pc := 122) (gd gk_151 65 rfl) rfl ?_
            have q4 : gm_qf I I_1 := gm_qf_tr a1 (gm_qf_128 (fun p hp => by rw [hI_1, gw_u_o hp]))
            have hn4 := gm_qf_now q4 hn
            have e4 : ∀ j, j < h + 1 → I_1 128 j = gq_wd (gz_M I) (Int32.ofNat k) j := fun j hj => by
              rw [hI_1, gw_u_s]
              unfold upd
              by_cases q9 : j = h
              · rw [if_pos q9, q9, d1]
              · rw [if_neg q9]; exact a2 j (by omega)
            have h1274 : I_1 127 h = gz_M I 1 h := by rw [hI_1, gw_u_o (by omega), h1272]; rfl
            refine gs_aload_n (pc := 124) (gd gk_151 66 rfl) rfl ?_
            refine gs_callV (as := []) (pc := 125) (gd gk_151 67 rfl) (by decide) rfl (by decide) rfl rfl (Nat.le_of_ble_eq_true rfl) gq_151_135 (Nat.le_of_ble_eq_true rfl) (m_left hn4) (fun r_125 w_125 q_125 => ?_)
            obtain ⟨rfl, rfl⟩ := q_125
            refine gs_iload (pc := 128) (gd gk_151 68 rfl) rfl ?_
            refine gs_callS (as := [.int ((gz_lf W h0)), .int (Int32.ofNat h)]) (pc := 130) (gd gk_151 69 rfl) (by decide) rfl rfl (Nat.le_of_ble_eq_true rfl) gq_151_108 (Nat.le_of_ble_eq_true rfl) (c_mhas ((gz_lf W h0)) (Int32.ofNat h)) (fun r_130 w_130 q_130 => ?_)
            obtain ⟨rfl, rfl⟩ := q_130
            refine gs_if_eq (pc := 133) (gd gk_151 70 rfl) (fun c133 => ?_) (fun c133 => ?_)
            · refine gs_lconst (pc := 146) (gd gk_151 76 rfl) (1) rfl ?_
              refine gs_goto (pc := 147) (gd gk_151 77 rfl) ?_
              -- end 1: stop, pc 165, locals [(0, .ref (126)), (1, .int (pl)), (2, .int (Int32.ofNat x)), (3, .int (so)), (4, .int (gz_b co)), (5, .long (su)), (7, .int (Int32.ofNat k)), (8, .int (gz_b b2)), (9, .long (wt)), (11, .int (Int32.ofNat h)), (12, .int (gz_b (gz_in (Int32.ofNat k) (Int32.ofNat h))))]
              have e5 := gz_b_eq.mp c133
              rw [hlf] at e5
              exact t165 I_1 _ b2 q4 e4 d2 (by rw [← hcm]; simp [e5])
            · refine gs_aload_n (pc := 136) (gd gk_151 71 rfl) rfl ?_
              refine gs_getR (r := 127) (pc := 137) (gd gk_151 72 rfl) rfl rfl rfl (by decide) ?_
              refine gs_iload (pc := 140) (gd gk_151 73 rfl) rfl ?_
              refine gs_ialoadK (h) (8) (pc := 142) (gd gk_151 74 rfl) (Or.inl rfl) rfl (by decide) (by first | rfl | (simp only [Int32.ofNat_add, Int32.ofNat_mul]; rfl) | (simp only [Int32.ofNat_add, Int32.ofNat_mul])) (by omega) ?_
              refine gs_if_ne (pc := 143) (gd gk_151 75 rfl) (fun c143 => ?_) (fun c143 => ?_)
              · refine gs_iload (pc := 150) (gd gk_151 78 rfl) rfl ?_
                refine gs_if_eq (pc := 152) (gd gk_151 79 rfl) (fun c152 => ?_) (fun c152 => ?_)
                · refine gs_bipush (pc := 160) (gd gk_151 83 rfl) (10) rfl ?_
                  refine gs_iload_n (pc := 162) (gd gk_151 84 rfl) rfl ?_
                  refine gs_isub (pc := 163) (gd gk_151 85 rfl) ?_
                  refine gs_i2l (pc := 164) (gd gk_151 86 rfl) ?_
                  -- end 2: stop, pc 165, locals [(0, .ref (126)), (1, .int (pl)), (2, .int (Int32.ofNat x)), (3, .int (so)), (4, .int (gz_b co)), (5, .long (su)), (7, .int (Int32.ofNat k)), (8, .int (gz_b b2)), (9, .long (wt)), (11, .int (Int32.ofNat h)), (12, .int (gz_b (gz_in (Int32.ofNat k) (Int32.ofNat h))))]
                  have e5 := gz_b_ne.mp c133
                  rw [hlf] at e5
                  rw [h1274] at c143
                  have e6 := gz_b_eq.mp c152
                  rw [hb] at e6
                  refine t165 I_1 _ b2 q4 e4 d2 ?_
                  rw [← hcm, h10, z64 (by omega), show ((10 - x : Nat) : Int) = 10 - (x : Int) by omega]
                  simp [of_decide_eq_true e5, c143, e6]
                · refine gs_iload_n (pc := 155) (gd gk_151 80 rfl) rfl ?_
                  refine gs_i2l (pc := 156) (gd gk_151 81 rfl) ?_
                  refine gs_goto (pc := 157) (gd gk_151 82 rfl) ?_
                  -- end 3: stop, pc 165, locals [(0, .ref (126)), (1, .int (pl)), (2, .int (Int32.ofNat x)), (3, .int (so)), (4, .int (gz_b co)), (5, .long (su)), (7, .int (Int32.ofNat k)), (8, .int (gz_b b2)), (9, .long (wt)), (11, .int (Int32.ofNat h)), (12, .int (gz_b (gz_in (Int32.ofNat k) (Int32.ofNat h))))]
                  have e5 := gz_b_ne.mp c133
                  rw [hlf] at e5
                  rw [h1274] at c143
                  have e6 := gz_b_ne.mp c152
                  rw [hb] at e6
                  refine t165 I_1 _ b2 q4 e4 d2 ?_
                  rw [← hcm, z64 (by omega)]
                  simp [of_decide_eq_true e5, c143, e6]
              · refine gs_lconst (pc := 146) (gd gk_151 76 rfl) (1) rfl ?_
                refine gs_goto (pc := 147) (gd gk_151 77 rfl) ?_
                -- end 4: stop, pc 165, locals [(0, .ref (126)), (1, .int (pl)), (2, .int (Int32.ofNat x)), (3, .int (so)), (4, .int (gz_b co)), (5, .long (su)), (7, .int (Int32.ofNat k)), (8, .int (gz_b b2)), (9, .long (wt)), (11, .int (Int32.ofNat h)), (12, .int (gz_b (gz_in (Int32.ofNat k) (Int32.ofNat h))))]
                rw [h1274] at c143
                exact t165 I_1 _ b2 q4 e4 d2 (by rw [← hcm]; simp [c143])
          have t90 : ∀ (b2 : Bool), b2 = (decide (k % 2 ^ h0 = 0) && gy_my (gy_wd (gz_M I)) k (h + 1)) → gw_E V 151 (90, [(0, .ref 126), (1, .int pl), (2, .int (Int32.ofNat x)), (3, .int so), (4, .int (gz_b co)), (5, .long su), (7, .int (Int32.ofNat k)), (8, .int (gz_b b)), (9, .long wt), (11, .int (Int32.ofNat h)), (12, .int (gz_b (gz_in (Int32.ofNat k) (Int32.ofNat h))))], [.int (gz_b b2)], gS n I2 J1, 0, 0) (mq_mo n I J W N h0 L bc o pl x) := by
            intro b2 d2
            refine gs_istore (ls2 := fun v => [(0, .ref (126)), (1, .int (pl)), (2, .int (Int32.ofNat x)), (3, .int (so)), (4, .int (gz_b co)), (5, .long (su)), (7, .int (Int32.ofNat k)), (8, .int (v)), (9, .long (wt)), (11, .int (Int32.ofNat h)), (12, .int (gz_b (gz_in (Int32.ofNat k) (Int32.ofNat h))))]) (pc := 90) (gd gk_151 48 rfl) (by rw [gL_151]; decide) (fun _ => rfl) (fun v8_1 hv8_1 => ?_)
            obtain rfl := hv8_1
            refine gs_aload_n (pc := 92) (gd gk_151 49 rfl) rfl ?_
            refine gs_getR (r := 128) (pc := 93) (gd gk_151 50 rfl) rfl rfl rfl (by decide) ?_
            refine gs_iload (pc := 96) (gd gk_151 51 rfl) rfl ?_
            refine gs_iload (pc := 98) (gd gk_151 52 rfl) rfl ?_
            refine gs_if_eq (pc := 100) (gd gk_151 53 rfl) (fun c100 => ?_) (fun c100 => ?_)
            · refine gs_aload_n (pc := 114) (gd gk_151 60 rfl) rfl ?_
              refine gs_getR (r := 127) (pc := 115) (gd gk_151 61 rfl) rfl rfl rfl (by decide) ?_
              refine gs_iload (pc := 118) (gd gk_151 62 rfl) rfl ?_
              refine gs_ialoadK (h) (8) (pc := 120) (gd gk_151 63 rfl) (Or.inl rfl) rfl (by decide) (by first | rfl | (simp only [Int32.ofNat_add, Int32.ofNat_mul]; rfl) | (simp only [Int32.ofNat_add, Int32.ofNat_mul])) (by omega) ?_
              -- end 1: stop, pc 121, locals [(0, .ref (126)), (1, .int (pl)), (2, .int (Int32.ofNat x)), (3, .int (so)), (4, .int (gz_b co)), (5, .long (su)), (7, .int (Int32.ofNat k)), (8, .int (gz_b b2)), (9, .long (wt)), (11, .int (Int32.ofNat h)), (12, .int (gz_b (gz_in (Int32.ofNat k) (Int32.ofNat h))))]
              exact t121 _ b2 (by unfold gq_wd; rw [gz_b_eq.mp c100, h1272]; rfl) d2
            · refine gs_aload_n (pc := 103) (gd gk_151 54 rfl) rfl ?_
              refine gs_getR (r := 127) (pc := 104) (gd gk_151 55 rfl) rfl rfl rfl (by decide) ?_
              refine gs_iload (pc := 107) (gd gk_151 56 rfl) rfl ?_
              refine gs_ialoadK (h) (8) (pc := 109) (gd gk_151 57 rfl) (Or.inl rfl) rfl (by decide) (by first | rfl | (simp only [Int32.ofNat_add, Int32.ofNat_mul]; rfl) | (simp only [Int32.ofNat_add, Int32.ofNat_mul])) (by omega) ?_
              refine gs_ineg (pc := 110) (gd gk_151 58 rfl) ?_
              refine gs_goto (pc := 111) (gd gk_151 59 rfl) ?_
              -- end 2: stop, pc 121, locals [(0, .ref (126)), (1, .int (pl)), (2, .int (Int32.ofNat x)), (3, .int (so)), (4, .int (gz_b co)), (5, .long (su)), (7, .int (Int32.ofNat k)), (8, .int (gz_b b2)), (9, .long (wt)), (11, .int (Int32.ofNat h)), (12, .int (gz_b (gz_in (Int32.ofNat k) (Int32.ofNat h))))]
              exact t121 _ b2 (by unfold gq_wd; rw [gz_b_ne.mp c100, h1272]; rfl) d2
          refine gs_iload (pc := 47) (gd gk_151 28 rfl) rfl ?_
          refine gs_aload_n (pc := 49) (gd gk_151 29 rfl) rfl ?_
          refine gs_getI (pc := 50) (gd gk_151 30 rfl) rfl rfl ?_
          refine gs_as (Int32.ofNat W) (hW32) ?_
          refine gs_icmp_ge (pc := 53) (gd gk_151 31 rfl) (fun c53 => ?_) (fun c53 => ?_)
          · replace c53 : W ≤ h := (zle (k := W) (m := h) (by omega) (by omega)).mp c53
            -- end 1: stop, pc 174, locals [(0, .ref (126)), (1, .int (pl)), (2, .int (Int32.ofNat x)), (3, .int (so)), (4, .int (gz_b co)), (5, .long (su)), (7, .int (Int32.ofNat k)), (8, .int (gz_b b)), (9, .long (wt)), (11, .int (Int32.ofNat h))]
            exact absurd c53 (by omega)
          · replace c53 : ¬ (W ≤ h) := fun q9 => c53 ((zle (k := W) (m := h) (by omega) (by omega)).mpr q9)
            refine gs_iload (pc := 56) (gd gk_151 32 rfl) rfl ?_
            refine gs_iload (pc := 58) (gd gk_151 33 rfl) rfl ?_
            refine gs_callS (as := [.int (Int32.ofNat k), .int (Int32.ofNat h)]) (pc := 60) (gd gk_151 34 rfl) (by decide) rfl rfl (Nat.le_of_ble_eq_true rfl) gq_151_108 (Nat.le_of_ble_eq_true rfl) (c_mhas (Int32.ofNat k) (Int32.ofNat h)) (fun r_60 w_60 q_60 => ?_)
            obtain ⟨rfl, rfl⟩ := q_60
            refine gs_istore (ls2 := fun v => [(0, .ref (126)), (1, .int (pl)), (2, .int (Int32.ofNat x)), (3, .int (so)), (4, .int (gz_b co)), (5, .long (su)), (7, .int (Int32.ofNat k)), (8, .int (gz_b b)), (9, .long (wt)), (11, .int (Int32.ofNat h)), (12, .int (v))]) (pc := 63) (gd gk_151 35 rfl) (by rw [gL_151]; decide) (fun _ => rfl) (fun v12_1 hv12_1 => ?_)
            obtain rfl := hv12_1
            refine gs_iload (pc := 65) (gd gk_151 36 rfl) rfl ?_
            refine gs_if_eq (pc := 67) (gd gk_151 37 rfl) (fun c67 => ?_) (fun c67 => ?_)
            · refine gs_iconst (pc := 89) (gd gk_151 47 rfl) (0) rfl ?_
              -- end 2: stop, pc 90, locals [(0, .ref (126)), (1, .int (pl)), (2, .int (Int32.ofNat x)), (3, .int (so)), (4, .int (gz_b co)), (5, .long (su)), (7, .int (Int32.ofNat k)), (8, .int (gz_b b)), (9, .long (wt)), (11, .int (Int32.ofNat h)), (12, .int (gz_b (gz_in (Int32.ofNat k) (Int32.ofNat h))))]
              have e5 := gz_b_eq.mp c67
              rw [e5] at a4
              exact t90 false (by show false = (_ && (_ && _)); rw [← Bool.and_assoc, ← a4]; rfl)
            · refine gs_iload (pc := 70) (gd gk_151 38 rfl) rfl ?_
              refine gs_if_eq (pc := 72) (gd gk_151 39 rfl) (fun c72 => ?_) (fun c72 => ?_)
              · refine gs_iconst (pc := 85) (gd gk_151 45 rfl) (1) rfl ?_
                refine gs_goto (pc := 86) (gd gk_151 46 rfl) ?_
                -- end 3: stop, pc 90, locals [(0, .ref (126)), (1, .int (pl)), (2, .int (Int32.ofNat x)), (3, .int (so)), (4, .int (gz_b co)), (5, .long (su)), (7, .int (Int32.ofNat k)), (8, .int (gz_b b)), (9, .long (wt)), (11, .int (Int32.ofNat h)), (12, .int (gz_b (gz_in (Int32.ofNat k) (Int32.ofNat h))))]
                have e5 := gz_b_ne.mp c67
                have e6 := gz_b_eq.mp c72
                rw [hb] at e6
                rw [e5] at a4
                exact t90 true (by show true = (_ && (_ && _)); rw [← Bool.and_assoc, ← a4, e6]; rfl)
              · refine gs_aload_n (pc := 75) (gd gk_151 40 rfl) rfl ?_
                refine gs_getR (r := 127) (pc := 76) (gd gk_151 41 rfl) rfl rfl rfl (by decide) ?_
                refine gs_iload (pc := 79) (gd gk_151 42 rfl) rfl ?_
                refine gs_ialoadK (h) (8) (pc := 81) (gd gk_151 43 rfl) (Or.inl rfl) rfl (by decide) (by first | rfl | (simp only [Int32.ofNat_add, Int32.ofNat_mul]; rfl) | (simp only [Int32.ofNat_add, Int32.ofNat_mul])) (by omega) ?_
                refine gs_if_eq (pc := 82) (gd gk_151 44 rfl) (fun c82 => ?_) (fun c82 => ?_)
                · refine gs_iconst (pc := 89) (gd gk_151 47 rfl) (0) rfl ?_
                  -- end 4: stop, pc 90, locals [(0, .ref (126)), (1, .int (pl)), (2, .int (Int32.ofNat x)), (3, .int (so)), (4, .int (gz_b co)), (5, .long (su)), (7, .int (Int32.ofNat k)), (8, .int (gz_b b)), (9, .long (wt)), (11, .int (Int32.ofNat h)), (12, .int (gz_b (gz_in (Int32.ofNat k) (Int32.ofNat h))))]
                  have e5 := gz_b_ne.mp c67
                  have e6 := gz_b_ne.mp c72
                  rw [hb] at e6
                  rw [e5] at a4
                  rw [h1272] at c82
                  exact t90 false (by show false = (_ && (_ && _)); rw [← Bool.and_assoc, ← a4, e6, show gy_wd (gz_M I) h = false from decide_eq_false (fun q9 => q9 c82)]; rfl)
                · refine gs_iconst (pc := 85) (gd gk_151 45 rfl) (1) rfl ?_
                  refine gs_goto (pc := 86) (gd gk_151 46 rfl) ?_
                  -- end 5: stop, pc 90, locals [(0, .ref (126)), (1, .int (pl)), (2, .int (Int32.ofNat x)), (3, .int (so)), (4, .int (gz_b co)), (5, .long (su)), (7, .int (Int32.ofNat k)), (8, .int (gz_b b)), (9, .long (wt)), (11, .int (Int32.ofNat h)), (12, .int (gz_b (gz_in (Int32.ofNat k) (Int32.ofNat h))))]
                  have e5 := gz_b_ne.mp c67
                  have e6 := gz_b_ne.mp c72
                  rw [hb] at e6
                  rw [e5] at a4
                  rw [h1272] at c82
                  exact t90 true (by show true = (_ && (_ && _)); rw [← Bool.and_assoc, ← a4, show gy_wd (gz_M I) h = true from decide_eq_true c82, Bool.or_true]; rfl)
      refine gs_iload (pc := 11) (gd gk_151 7 rfl) rfl ?_
      refine gs_iconst (pc := 13) (gd gk_151 8 rfl) (1) rfl ?_
      refine gs_aload_n (pc := 14) (gd gk_151 9 rfl) rfl ?_
      refine gs_getI (pc := 15) (gd gk_151 10 rfl) rfl rfl ?_
      refine gs_as (Int32.ofNat W) (hW31) ?_
      refine gs_ishl (pc := 18) (gd gk_151 11 rfl) ?_
      refine gs_icmp_ge (pc := 19) (gd gk_151 12 rfl) (fun c19 => ?_) (fun c19 => ?_)
      · refine gs_lload (pc := 243) (gd gk_151 128 rfl) rfl ?_
        -- end 1: lreturn su, pc 245, locals [(0, .ref (126)), (1, .int (pl)), (2, .int (Int32.ofNat x)), (3, .int (so)), (4, .int (gz_b co)), (5, .long (su)), (7, .int (Int32.ofNat k))]
        rw [gz_shl W (by omega)] at c19
        exact absurd ((zle (by omega) (by omega)).mp c19) (by omega)
      · refine gs_iload (pc := 22) (gd gk_151 13 rfl) rfl ?_
        refine gs_aload_n (pc := 24) (gd gk_151 14 rfl) rfl ?_
        refine gs_callV (as := []) (pc := 25) (gd gk_151 15 rfl) (by decide) rfl (by decide) rfl rfl (Nat.le_of_ble_eq_true rfl) gq_151_135 (Nat.le_of_ble_eq_true rfl) (m_left hn1) (fun r_25 w_25 q_25 => ?_)
        obtain ⟨rfl, rfl⟩ := q_25
        refine gs_iconst (pc := 28) (gd gk_151 16 rfl) (-1) rfl ?_
        refine gs_ixor (pc := 29) (gd gk_151 17 rfl) ?_
        refine gs_iand (pc := 30) (gd gk_151 18 rfl) ?_
        refine gs_if_ne (pc := 31) (gd gk_151 19 rfl) (fun c31 => ?_) (fun c31 => ?_)
        · refine gs_iconst (pc := 38) (gd gk_151 22 rfl) (0) rfl ?_
          refine gs_istore (ls2 := fun v => [(0, .ref (126)), (1, .int (pl)), (2, .int (Int32.ofNat x)), (3, .int (so)), (4, .int (gz_b co)), (5, .long (su)), (7, .int (Int32.ofNat k)), (8, .int (v))]) (pc := 39) (gd gk_151 23 rfl) (by rw [gL_151]; decide) (fun _ => rfl) (fun v8_1 hv8_1 => ?_)
          obtain rfl : v8_1 = Int32.ofNat 0 := hv8_1.trans (by first | rfl | (simp only [Int32.ofNat_add, Int32.ofNat_mul]; rfl) | (simp only [Int32.ofNat_add, Int32.ofNat_mul]))
          refine gs_lconst (pc := 41) (gd gk_151 24 rfl) (1) rfl ?_
          refine gs_lstore (ls2 := fun v => [(0, .ref (126)), (1, .int (pl)), (2, .int (Int32.ofNat x)), (3, .int (so)), (4, .int (gz_b co)), (5, .long (su)), (7, .int (Int32.ofNat k)), (8, .int (Int32.ofNat 0)), (9, .long (v))]) (pc := 42) (gd gk_151 25 rfl) (by rw [gL_151]; decide) (fun _ => rfl) (fun u9_1 hu9_1 => ?_)
          refine gs_iconst (pc := 44) (gd gk_151 26 rfl) (0) rfl ?_
          refine gs_istore (ls2 := fun v => [(0, .ref (126)), (1, .int (pl)), (2, .int (Int32.ofNat x)), (3, .int (so)), (4, .int (gz_b co)), (5, .long (su)), (7, .int (Int32.ofNat k)), (8, .int (Int32.ofNat 0)), (9, .long (u9_1)), (11, .int (v))]) (pc := 45) (gd gk_151 27 rfl) (by rw [gL_151]; decide) (fun _ => rfl) (fun v11_1 hv11_1 => ?_)
          obtain rfl : v11_1 = Int32.ofNat 0 := hv11_1.trans (by first | rfl | (simp only [Int32.ofNat_add, Int32.ofNat_mul]; rfl) | (simp only [Int32.ofNat_add, Int32.ofNat_mul]))
          -- end 2: stop, pc 47, locals [(0, .ref (126)), (1, .int (pl)), (2, .int (Int32.ofNat x)), (3, .int (so)), (4, .int (gz_b co)), (5, .long (su)), (7, .int (Int32.ofNat k)), (8, .int (Int32.ofNat 0)), (9, .long (u9_1)), (11, .int (Int32.ofNat 0))]
          exact inner W 0 (by omega) I1 _ g1 (fun j hj => absurd hj (Nat.not_lt_zero _)) hu9_1 false (by rw [decide_eq_false (fun q9 => c31 (hsu.mpr ⟨q9, hkW⟩))]; rfl)
        · refine gs_iconst (pc := 34) (gd gk_151 20 rfl) (1) rfl ?_
          refine gs_goto (pc := 35) (gd gk_151 21 rfl) ?_
          refine gs_istore (ls2 := fun v => [(0, .ref (126)), (1, .int (pl)), (2, .int (Int32.ofNat x)), (3, .int (so)), (4, .int (gz_b co)), (5, .long (su)), (7, .int (Int32.ofNat k)), (8, .int (v))]) (pc := 39) (gd gk_151 23 rfl) (by rw [gL_151]; decide) (fun _ => rfl) (fun v8_2 hv8_2 => ?_)
          obtain rfl : v8_2 = Int32.ofNat 1 := hv8_2.trans (by first | rfl | (simp only [Int32.ofNat_add, Int32.ofNat_mul]; rfl) | (simp only [Int32.ofNat_add, Int32.ofNat_mul]))
          refine gs_lconst (pc := 41) (gd gk_151 24 rfl) (1) rfl ?_
          refine gs_lstore (ls2 := fun v => [(0, .ref (126)), (1, .int (pl)), (2, .int (Int32.ofNat x)), (3, .int (so)), (4, .int (gz_b co)), (5, .long (su)), (7, .int (Int32.ofNat k)), (8, .int (Int32.ofNat 1)), (9, .long (v))]) (pc := 42) (gd gk_151 25 rfl) (by rw [gL_151]; decide) (fun _ => rfl) (fun u9_2 hu9_2 => ?_)
          refine gs_iconst (pc := 44) (gd gk_151 26 rfl) (0) rfl ?_
          refine gs_istore (ls2 := fun v => [(0, .ref (126)), (1, .int (pl)), (2, .int (Int32.ofNat x)), (3, .int (so)), (4, .int (gz_b co)), (5, .long (su)), (7, .int (Int32.ofNat k)), (8, .int (Int32.ofNat 1)), (9, .long (u9_2)), (11, .int (v))]) (pc := 45) (gd gk_151 27 rfl) (by rw [gL_151]; decide) (fun _ => rfl) (fun v11_2 hv11_2 => ?_)
          obtain rfl : v11_2 = Int32.ofNat 0 := hv11_2.trans (by first | rfl | (simp only [Int32.ofNat_add, Int32.ofNat_mul]; rfl) | (simp only [Int32.ofNat_add, Int32.ofNat_mul]))
          -- end 3: stop, pc 47, locals [(0, .ref (126)), (1, .int (pl)), (2, .int (Int32.ofNat x)), (3, .int (so)), (4, .int (gz_b co)), (5, .long (su)), (7, .int (Int32.ofNat k)), (8, .int (Int32.ofNat 1)), (9, .long (u9_2)), (11, .int (Int32.ofNat 0))]
          exact inner W 0 (by omega) I1 _ g1 (fun j hj => absurd hj (Nat.not_lt_zero _)) hu9_2 true (by rw [decide_eq_true (hsu.mp c31).1]; rfl)
  refine gs_lconst (pc := 0) (gd gk_151 0 rfl) (0) rfl ?_
  refine gs_lstore (ls2 := fun v => [(0, .ref (126)), (1, .int (pl)), (2, .int (Int32.ofNat x)), (3, .int (so)), (4, .int (gz_b co)), (5, .long (v))]) (pc := 1) (gd gk_151 1 rfl) (by rw [gL_151]; decide) (fun _ => rfl) (fun u5_1 hu5_1 => ?_)
  refine gs_aload_n (pc := 3) (gd gk_151 2 rfl) rfl ?_
  refine gs_lconst (pc := 4) (gd gk_151 3 rfl) (0) rfl ?_
  refine gs_putJ (pc := 5) (gd gk_151 4 rfl) rfl rfl rfl rfl (fun J_1 hJ_1 => ?_)
  refine gs_iconst (pc := 8) (gd gk_151 5 rfl) (0) rfl ?_
  refine gs_istore (ls2 := fun v => [(0, .ref (126)), (1, .int (pl)), (2, .int (Int32.ofNat x)), (3, .int (so)), (4, .int (gz_b co)), (5, .long (u5_1)), (7, .int (v))]) (pc := 9) (gd gk_151 6 rfl) (by rw [gL_151]; decide) (fun _ => rfl) (fun v7_1 hv7_1 => ?_)
  obtain rfl : v7_1 = Int32.ofNat 0 := hv7_1.trans (by first | rfl | (simp only [Int32.ofNat_add, Int32.ofNat_mul]; rfl) | (simp only [Int32.ofNat_add, Int32.ofNat_mul]))
  -- end 1: stop, pc 11, locals [(0, .ref (126)), (1, .int (pl)), (2, .int (Int32.ofNat x)), (3, .int (so)), (4, .int (gz_b co)), (5, .long (u5_1)), (7, .int (Int32.ofNat 0))]
  exact lp (2 ^ W) 0 (by omega) I J_1 _ (gm_qf_rf I) (fun p q hpq => by rw [hJ_1]; unfold gw_uJ; rw [if_neg hpq]) hu5_1 (by rw [hJ_1]; rfl)
end
