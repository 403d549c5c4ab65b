/-! ===== street: both ===== -/
theorem gz_fp_ok {t : Nat → Int32} {l W : Nat} (h : gz_fp t l W (-99)) (hl : l ≤ 48) : 4 ≤ l ∧ (∀ j, j < l → gz_fi t l W j = true) := by
  rcases h with ⟨p, h1, -, -, h4⟩ | ⟨h1, h2⟩
  · exact absurd h4.symm (z99 (by omega))
  · by_cases e : gz_wh l W = true
    · unfold gz_wh at e
      rw [Bool.and_eq_true, decide_eq_true_eq] at e
      exact ⟨e.1, h1⟩
    · rw [if_neg e] at h2
      exact absurd h2.symm (z99 (by omega))
section
variable {V : gw_V} {n : Nat} {I : Nat → Nat → Int32} {J : Nat → Nat → Int64}
/-- the class, when its street has been made anew -/
def cq_sd (I I2 : Nat → Nat → Int32) (l W : Nat) : Prop := gz_rd (I 5) l W (gz_S I2) ∧ (∀ c, c < 10 → I2 13 c = 0) ∧ I2 12 1 = 0 ∧ I2 12 2 = 0 ∧ I2 12 3 = 0 ∧ I2 16 1 = I 16 1 ∧ I2 16 2 = 0 ∧ (∀ s, s < 2 → I2 48 s = 0) ∧ ∀ p, ¬ (6 ≤ p ∧ p ≤ 13) → p ≠ 16 → p ≠ 48 → I2 p = I p
theorem c_street (l W : Nat) (hT : gz_wT (I 5) l W) (hl : I 4 1 = Int32.ofNat l) (h48 : l ≤ 48) : gw_E V 67 (0, [(0, .ref 3)], [], gS n I J, 0, 0) (fun v w' => ∃ y, gz_fp (I 5) l W y ∧ ∃ I2, w' = gS n I2 J ∧ if y = -99 then v = some (.int (10 * Int32.ofNat W + Int32.ofNat ((l - 4 - W) / 5))) ∧ cq_sd I I2 l W else v = some (.int (-3)) ∧ I2 = I) := by
  have tail : gz_fp (I 5) l W (-99) → gw_E V 67 (15, [(0, .ref 3)], [], gS n I J, 0, 0) (fun v w' => ∃ y, gz_fp (I 5) l W y ∧ ∃ I2, w' = gS n I2 J ∧ if y = -99 then v = some (.int (10 * Int32.ofNat W + Int32.ofNat ((l - 4 - W) / 5))) ∧ cq_sd I I2 l W else v = some (.int (-3)) ∧ I2 = I) := by
    intro hF
    obtain ⟨h4, hg⟩ := gz_fp_ok hF h48
    refine gs_aload_n (pc := 15) (gd gk_67 7 rfl) rfl ?_
    refine gs_getR (r := 6) (pc := 16) (gd gk_67 8 rfl) rfl rfl rfl (by decide) ?_
    refine gs_aload_n (pc := 19) (gd gk_67 9 rfl) rfl ?_
    refine gs_getR (r := 4) (pc := 20) (gd gk_67 10 rfl) rfl rfl rfl (by decide) ?_
    refine gs_callV (as := [.ref (4)]) (pc := 23) (gd gk_67 11 rfl) (by decide) rfl (by decide) rfl rfl (Nat.le_of_ble_eq_true rfl) gq_67_32 (Nat.le_of_ble_eq_true rfl) (c_readFrom l W hT hl h48 (gz_wT_l hT h4) (gz_N6 hg)) (fun r_23 w_23 q_23 => ?_)
    obtain ⟨rfl, I_r, rfl, r1, r2⟩ := q_23
    refine gs_aload_n (pc := 26) (gd gk_67 12 rfl) rfl ?_
    refine gs_getR (r := 12) (pc := 27) (gd gk_67 13 rfl) rfl rfl rfl (by decide) ?_
    refine gs_callV (as := []) (pc := 30) (gd gk_67 14 rfl) (by decide) rfl (by decide) rfl rfl (Nat.le_of_ble_eq_true rfl) gq_67_13 (Nat.le_of_ble_eq_true rfl) (c_begin_12) (fun r_30 w_30 q_30 => ?_)
    obtain ⟨rfl, I_b, rfl, b1, b2, b3, b4, b5⟩ := q_30
    refine gs_aload_n (pc := 33) (gd gk_67 15 rfl) rfl ?_
    refine gs_getR (r := 16) (pc := 34) (gd gk_67 16 rfl) rfl rfl rfl (by decide) ?_
    refine gs_callV (as := []) (pc := 37) (gd gk_67 17 rfl) (by decide) rfl (by decide) rfl rfl (Nat.le_of_ble_eq_true rfl) gq_67_1 (Nat.le_of_ble_eq_true rfl) (c_forgetA) (fun r_37 w_37 q_37 => ?_)
    obtain ⟨rfl, I_a, rfl, a1⟩ := q_37
    refine gs_aload_n (pc := 40) (gd gk_67 18 rfl) rfl ?_
    refine gs_getR (r := 46) (pc := 41) (gd gk_67 19 rfl) rfl rfl rfl (by decide) ?_
    refine gs_callV (as := []) (pc := 44) (gd gk_67 20 rfl) (by decide) rfl (by decide) rfl rfl (Nat.le_of_ble_eq_true rfl) gq_67_28 (Nat.le_of_ble_eq_true rfl) (c_forgetS) (fun r_44 w_44 q_44 => ?_)
    obtain ⟨rfl, I_s, rfl, s1, s2⟩ := q_44
    have o : ∀ p, p ≠ 12 → p ≠ 13 → p ≠ 16 → p ≠ 48 → I_s p = I_r p := fun p q1 q2 q3 q4 => by rw [s2 p q4, a1, gw_u_o q3, b5 p q1 q2]
    have hS : gz_S I_s = gz_S I_r := gz_S_eq (fun p q1 q2 => o p (by omega) (by omega) (by omega) (by omega))
    have h63 : I_s 6 3 = Int32.ofNat W := by rw [o 6 (by omega) (by omega) (by omega) (by omega)]; exact r1.2.2.2.1
    have h64 : I_s 6 4 = Int32.ofNat ((l - 4 - W) / 5) := by rw [o 6 (by omega) (by omega) (by omega) (by omega)]; exact r1.2.2.2.2.1
    refine gs_bipush (pc := 47) (gd gk_67 21 rfl) (10) rfl ?_
    refine gs_aload_n (pc := 49) (gd gk_67 22 rfl) rfl ?_
    refine gs_getR (r := 6) (pc := 50) (gd gk_67 23 rfl) rfl rfl rfl (by decide) ?_
    refine gs_getI (pc := 53) (gd gk_67 24 rfl) rfl rfl ?_
    refine gs_imul (pc := 56) (gd gk_67 25 rfl) ?_
    refine gs_aload_n (pc := 57) (gd gk_67 26 rfl) rfl ?_
    refine gs_getR (r := 6) (pc := 58) (gd gk_67 27 rfl) rfl rfl rfl (by decide) ?_
    refine gs_getI (pc := 61) (gd gk_67 28 rfl) rfl rfl ?_
    refine gs_iadd (pc := 64) (gd gk_67 29 rfl) ?_
    -- end 1: ireturn ((10 * (I_s 6 3)) + (I_s 6 4)), pc 65, locals [(0, .ref (3))]
    have oa : ∀ p, p ≠ 48 → p ≠ 16 → I_s p = I_b p := fun p q1 q2 => by rw [s2 p q1, a1, gw_u_o q2]
    exact gs_iret (pc := 65) (gd gk_67 30 rfl) rfl (rfl) (Nat.zero_le _) (Nat.zero_le _) (⟨-99, hF, I_s, rfl, by
      rw [if_pos rfl, h63, h64]
      refine ⟨rfl, by rw [hS]; exact r1, fun c hc => by rw [oa 13 (by omega) (by omega)]; exact b1 c hc, by rw [oa 12 (by omega) (by omega)]; exact b2, by rw [oa 12 (by omega) (by omega)]; exact b3, by rw [oa 12 (by omega) (by omega)]; exact b4, ?_, ?_, s1, fun p q1 q2 q3 => by rw [o p (by omega) (by omega) q2 q3]; exact r2 p (by omega)⟩
      · rw [s2 16 (by omega), a1, gw_u_s]; unfold upd; rw [if_neg (by omega), b5 16 (by omega) (by omega), r2 16 (by omega)]
      · rw [s2 16 (by omega), a1, gw_u_s]; unfold upd; rw [if_pos rfl]⟩)
  refine gs_aload_n (pc := 0) (gd gk_67 0 rfl) rfl ?_
  refine gs_getR (r := 4) (pc := 1) (gd gk_67 1 rfl) rfl rfl rfl (by decide) ?_
  refine gs_callV (as := []) (pc := 4) (gd gk_67 2 rfl) (by decide) rfl (by decide) rfl rfl (Nat.le_of_ble_eq_true rfl) gq_67_42 (Nat.le_of_ble_eq_true rfl) (c_faultPlace hl h48) (fun r_4 w_4 q_4 => ?_)
  obtain ⟨W2, y, hT2, hF, rfl, rfl⟩ := q_4
  obtain rfl : W2 = W := gz_wT_one hT2 hT
  refine gs_bipush (pc := 7) (gd gk_67 3 rfl) (-99) rfl ?_
  refine gs_icmp_eq (pc := 9) (gd gk_67 4 rfl) (fun c9 => ?_) (fun c9 => ?_)
  · -- end 1: stop, pc 15, locals [(0, .ref (3))]
    rw [c9] at hF
    exact tail hF
  · refine gs_bipush (pc := 12) (gd gk_67 5 rfl) (-3) rfl ?_
    -- end 2: ireturn (-3), pc 14, locals [(0, .ref (3))]
    exact gs_iret (pc := 14) (gd gk_67 6 rfl) rfl (rfl) (Nat.zero_le _) (Nat.zero_le _) (⟨y, hF, I, rfl, by rw [if_neg c9]; exact ⟨rfl, rfl⟩⟩)
/-- the reference, when its street has been made anew -/
def mq_sd (I I2 : Nat → Nat → Int32) (l W : Nat) : Prop := gz_rd (I 134) l W (gz_M I2) ∧ (∀ q, q < 13 → I2 133 q = 0) ∧ I2 126 19 = 0 ∧ (∀ s, s < 2 → I2 143 s = 0) ∧ (∀ q, 5 ≤ q → q ≠ 11 → q ≠ 12 → q ≠ 16 → q ≠ 17 → q ≠ 19 → q ≠ 22 → q ≠ 23 → q ≠ 30 → q ≠ 31 → I2 126 q = I 126 q) ∧ ∀ p, ¬ (126 ≤ p ∧ p ≤ 133) → p ≠ 135 → p ≠ 137 → p ≠ 141 → p ≠ 142 → p ≠ 143 → I2 p = I p
theorem m_street (l W : Nat) (hT : gz_wT (I 134) l W) (hl : I 126 15 = Int32.ofNat l) (h48 : l ≤ 48) : gw_E V 117 (0, [(0, .ref 126)], [], gS n I J, 0, 0) (fun v w' => ∃ y, gz_fp (I 134) l W y ∧ ∃ I2, w' = gS n I2 J ∧ if y = -99 then v = some (.int (10 * Int32.ofNat W + Int32.ofNat ((l - 4 - W) / 5))) ∧ mq_sd I I2 l W else v = some (.int (-3)) ∧ gm_qf I I2) := by
  have tail : gz_fp (I 134) l W (-99) → ∀ Ir, gm_qf I Ir → gm_ra (I 134) l W Ir → gw_E V 117 (12, [(0, .ref 126)], [], gS n Ir J, 0, 0) (fun v w' => ∃ y, gz_fp (I 134) l W y ∧ ∃ I2, w' = gS n I2 J ∧ if y = -99 then v = some (.int (10 * Int32.ofNat W + Int32.ofNat ((l - 4 - W) / 5))) ∧ mq_sd I I2 l W else v = some (.int (-3)) ∧ gm_qf I I2) := by
    intro hF Ir hq ⟨r1, r2, r3, r4, r5, r6, r7⟩
    obtain ⟨h4, hg⟩ := gz_fp_ok hF h48
    have hN6 := gz_N6 hg
    have hT8 : W ≤ 8 := hT.1
    -- the head's five fields, then the three rows
    have lp3 : ∀ Ih : Nat → Nat → Int32, Ih 126 3 = Int32.ofNat W → Ih 126 4 = Int32.ofNat ((l - 4 - W) / 5) → gz_rd (I 134) l W (gz_M Ih) → (∀ q, 5 ≤ q → q ≠ 11 → q ≠ 12 → q ≠ 16 → q ≠ 17 → q ≠ 19 → q ≠ 22 → q ≠ 23 → q ≠ 30 → q ≠ 31 → Ih 126 q = I 126 q) → (∀ p, ¬ (126 ≤ p ∧ p ≤ 133) → p ≠ 135 → p ≠ 137 → p ≠ 141 → p ≠ 142 → p ≠ 143 → Ih p = I p) → (∀ p, p = 135 ∨ p = 137 ∨ p = 141 ∨ p = 142 → Ih p = Ir p) → ∀ (r k : Nat), r + k = 13 → ∀ I1, (∀ q, q < k → I1 133 q = 0) → (∀ p, p ≠ 133 → I1 p = Ih p) → gw_E V 117 (112, [(0, .ref 126), (1, .int (Int32.ofNat k))], [], gS n I1 J, 0, 0) (fun v w' => ∃ y, gz_fp (I 134) l W y ∧ ∃ I2, w' = gS n I2 J ∧ if y = -99 then v = some (.int (10 * Int32.ofNat W + Int32.ofNat ((l - 4 - W) / 5))) ∧ (gz_rd (I 134) l W (gz_M I2) ∧ (∀ q, q < 13 → I2 133 q = 0) ∧ I2 126 19 = 0 ∧ (∀ s, s < 2 → I2 143 s = 0) ∧ (∀ q, 5 ≤ q → q ≠ 11 → q ≠ 12 → q ≠ 16 → q ≠ 17 → q ≠ 19 → q ≠ 22 → q ≠ 23 → q ≠ 30 → q ≠ 31 → I2 126 q = I 126 q) ∧ (∀ p, ¬ (126 ≤ p ∧ p ≤ 133) → p ≠ 135 → p ≠ 137 → p ≠ 141 → p ≠ 142 → p ≠ 143 → I2 p = I p)) else v = some (.int (-3)) ∧ gm_qf I I2) := by
      intro Ih z1 z2 z3 z4 z5 z6 r
      induction r with
      | zero =>
        intro k hk I1 g1 g2
        obtain rfl : k = 13 := by omega
        refine gs_iload_n (pc := 112) (gd gk_117 64 rfl) rfl ?_
        refine gs_bipush (pc := 113) (gd gk_117 65 rfl) (13) rfl ?_
        refine gs_icmp_ge (pc := 115) (gd gk_117 66 rfl) (fun c115 => ?_) (fun c115 => ?_)
        · replace c115 : 13 ≤ 13 := (zle (k := 13) (m := 13) (by omega) (by omega)).mp c115
          refine gs_aload_n (pc := 131) (gd gk_117 74 rfl) rfl ?_
          refine gs_iconst (pc := 132) (gd gk_117 75 rfl) (0) rfl ?_
          refine gs_putI (pc := 133) (gd gk_117 76 rfl) rfl rfl rfl rfl (fun I_1 hI_1 => ?_)
          refine gs_aload_n (pc := 136) (gd gk_117 77 rfl) rfl ?_
          refine gs_getR (r := 143) (pc := 137) (gd gk_117 78 rfl) rfl rfl rfl (by decide) ?_
          refine gs_iconst (pc := 140) (gd gk_117 79 rfl) (0) rfl ?_
          refine gs_iconst (pc := 141) (gd gk_117 80 rfl) (0) rfl ?_
          refine gs_bastoreK (0) (2) gs_sl (pc := 142) (gd gk_117 81 rfl) rfl rfl (by decide) (by first | rfl | (simp only [Int32.ofNat_add, Int32.ofNat_mul]; rfl) | (simp only [Int32.ofNat_add, Int32.ofNat_mul])) (by omega) (fun I_2 hI_2 => ?_)
          refine gs_aload_n (pc := 143) (gd gk_117 82 rfl) rfl ?_
          refine gs_getR (r := 143) (pc := 144) (gd gk_117 83 rfl) rfl rfl rfl (by decide) ?_
          refine gs_iconst (pc := 147) (gd gk_117 84 rfl) (1) rfl ?_
          refine gs_iconst (pc := 148) (gd gk_117 85 rfl) (0) rfl ?_
          refine gs_bastoreK (1) (2) gs_sl (pc := 149) (gd gk_117 86 rfl) rfl rfl (by decide) (by first | rfl | (simp only [Int32.ofNat_add, Int32.ofNat_mul]; rfl) | (simp only [Int32.ofNat_add, Int32.ofNat_mul])) (by omega) (fun I_3 hI_3 => ?_)
          have o6 : ∀ q, q ≠ 19 → I_3 126 q = Ih 126 q := fun q hq9 => by rw [hI_3, gw_u_o (by omega), hI_2, gw_u_o (by omega), hI_1, gw_u_s]; unfold upd; rw [if_neg hq9, g2 126 (by omega)]
          have W3 : I_3 126 3 = Int32.ofNat W := by rw [o6 3 (by omega)]; exact z1
          have W4 : I_3 126 4 = Int32.ofNat ((l - 4 - W) / 5) := by rw [o6 4 (by omega)]; exact z2
          have o7 : ∀ p, p ≠ 126 → p ≠ 143 → I_3 p = I1 p := fun p q1 q2 => by rw [hI_3, gw_u_o q2, hI_2, gw_u_o q2, hI_1, gw_u_o q1]
          refine gs_bipush (pc := 150) (gd gk_117 87 rfl) (10) rfl ?_
          refine gs_aload_n (pc := 152) (gd gk_117 88 rfl) rfl ?_
          refine gs_getI (pc := 153) (gd gk_117 89 rfl) rfl rfl ?_
          refine gs_as (Int32.ofNat W) (W3) ?_
          refine gs_imul (pc := 156) (gd gk_117 90 rfl) ?_
          refine gs_aload_n (pc := 157) (gd gk_117 91 rfl) rfl ?_
          refine gs_getI (pc := 158) (gd gk_117 92 rfl) rfl rfl ?_
          refine gs_as (Int32.ofNat ((l - 4 - W) / 5)) (W4) ?_
          refine gs_iadd (pc := 161) (gd gk_117 93 rfl) ?_
          -- end 1: ireturn ((10 * Int32.ofNat W) + Int32.ofNat ((l - 4 - W) / 5)), pc 162, locals [(0, .ref (126)), (1, .int (Int32.ofNat 13))]
          have hM : gz_M I_3 = gz_M Ih := gz_M_eq (fun k hk => o6 k (by omega)) (by rw [o7 127 (by omega) (by omega), g2 127 (by omega)]) (by rw [o7 129 (by omega) (by omega), g2 129 (by omega)])
          exact gs_iret (pc := 162) (gd gk_117 94 rfl) rfl (rfl) (Nat.zero_le _) (Nat.zero_le _) (⟨-99, hF, I_3, rfl, by
            rw [if_pos rfl]
            refine ⟨rfl, by rw [hM]; exact z3, fun q hq9 => by rw [o7 133 (by omega) (by omega)]; exact g1 q hq9, by rw [hI_3, gw_u_o (by omega), hI_2, gw_u_o (by omega), hI_1, gw_u_s]; unfold upd; rw [if_pos rfl], fun s hs => ?_, fun q q1 q2 q3 q4 q5 q6 q7 q8 q9 qa => by rw [o6 q q6]; exact z4 q q1 q2 q3 q4 q5 q6 q7 q8 q9 qa, fun p q1 q2 q3 q4 q5 q6 => by rw [o7 p (by omega) q6, g2 p (by omega)]; exact z5 p q1 q2 q3 q4 q5 q6⟩
            have : s = 0 ∨ s = 1 := by omega
            rcases this with e | e <;> subst e
            · rw [hI_3, gw_u_s]; unfold upd; rw [if_neg (by omega), hI_2, gw_u_s]; unfold upd; rw [if_pos rfl]; rfl
            · rw [hI_3, gw_u_s]; unfold upd; rw [if_pos rfl]; rfl⟩)
        · replace c115 : ¬ (13 ≤ 13) := fun q9 => c115 ((zle (k := 13) (m := 13) (by omega) (by omega)).mpr q9)
          -- end 2: stop, pc 118, locals [(0, .ref (126)), (1, .int (Int32.ofNat 13))]
          exact absurd (Nat.le_refl _) c115
      | succ r ih =>
        intro k hk I1 g1 g2
        refine gs_iload_n (pc := 112) (gd gk_117 64 rfl) rfl ?_
        refine gs_bipush (pc := 113) (gd gk_117 65 rfl) (13) rfl ?_
        refine gs_icmp_ge (pc := 115) (gd gk_117 66 rfl) (fun c115 => ?_) (fun c115 => ?_)
        · replace c115 : 13 ≤ k := (zle (k := 13) (m := k) (by omega) (by omega)).mp c115
          -- end 1: stop, pc 131, locals [(0, .ref (126)), (1, .int (Int32.ofNat k))]
          exact absurd c115 (by omega)
        · replace c115 : ¬ (13 ≤ k) := fun q9 => c115 ((zle (k := 13) (m := k) (by omega) (by omega)).mpr q9)
          refine gs_aload_n (pc := 118) (gd gk_117 67 rfl) rfl ?_
          refine gs_getR (r := 133) (pc := 119) (gd gk_117 68 rfl) rfl rfl rfl (by decide) ?_
          refine gs_iload_n (pc := 122) (gd gk_117 69 rfl) rfl ?_
          refine gs_iconst (pc := 123) (gd gk_117 70 rfl) (0) rfl ?_
          refine gs_iastoreK (k) (52) gs_sl (pc := 124) (gd gk_117 71 rfl) rfl rfl (by decide) (by first | rfl | (simp only [Int32.ofNat_add, Int32.ofNat_mul]; rfl) | (simp only [Int32.ofNat_add, Int32.ofNat_mul])) (by omega) (fun I_1 hI_1 => ?_)
          refine gs_iinc (ls2 := fun v => [(0, .ref (126)), (1, .int (v))]) (pc := 125) (gd gk_117 72 rfl) rfl (by rw [gL_117]; decide) (fun _ => rfl) (1) rfl (fun v1_1 hv1_1 => ?_)
          obtain rfl : v1_1 = Int32.ofNat (k + 1) := hv1_1.trans (by first | rfl | (simp only [Int32.ofNat_add, Int32.ofNat_mul]; rfl) | (simp only [Int32.ofNat_add, Int32.ofNat_mul]))
          refine gs_goto (pc := 128) (gd gk_117 73 rfl) ?_
          -- end 2: stop, pc 112, locals [(0, .ref (126)), (1, .int (Int32.ofNat (k + 1)))]
          refine ih (k + 1) (by omega) I_1 (fun q hq9 => ?_) (fun p hp => by rw [hI_1, gw_u_o hp]; exact g2 p hp)
          rw [hI_1, gw_u_s]; unfold upd
          by_cases e : q = k
          · rw [if_pos e]
          · rw [if_neg e]; exact g1 q (by omega)
    have fin : ∀ {c : gw_c}, gw_E V 117 c (fun v w' => ∃ y, gz_fp (I 134) l W y ∧ ∃ I2, w' = gS n I2 J ∧ if y = -99 then v = some (.int (10 * Int32.ofNat W + Int32.ofNat ((l - 4 - W) / 5))) ∧ (gz_rd (I 134) l W (gz_M I2) ∧ (∀ q, q < 13 → I2 133 q = 0) ∧ I2 126 19 = 0 ∧ (∀ s, s < 2 → I2 143 s = 0) ∧ (∀ q, 5 ≤ q → q ≠ 11 → q ≠ 12 → q ≠ 16 → q ≠ 17 → q ≠ 19 → q ≠ 22 → q ≠ 23 → q ≠ 30 → q ≠ 31 → I2 126 q = I 126 q) ∧ (∀ p, ¬ (126 ≤ p ∧ p ≤ 133) → p ≠ 135 → p ≠ 137 → p ≠ 141 → p ≠ 142 → p ≠ 143 → I2 p = I p)) else v = some (.int (-3)) ∧ gm_qf I I2) → gw_E V 117 c (fun v w' => ∃ y, gz_fp (I 134) l W y ∧ ∃ I2, w' = gS n I2 J ∧ if y = -99 then v = some (.int (10 * Int32.ofNat W + Int32.ofNat ((l - 4 - W) / 5))) ∧ mq_sd I I2 l W else v = some (.int (-3)) ∧ gm_qf I I2) := by
      intro c h
      refine gs_mono ?_ h
      rintro v w ⟨y, h1, I2, h2, h3⟩
      refine ⟨y, h1, I2, h2, ?_⟩
      by_cases e : y = -99
      · rw [if_pos e] at h3 ⊢
        exact ⟨h3.1, h3.2⟩
      · rw [if_neg e] at h3 ⊢
        exact h3
    refine fin ?_
    have lp2 : ∀ Ih : Nat → Nat → Int32, Ih 126 0 = Ir 130 1 → Ih 126 1 = Ir 130 2 → Ih 126 2 = Ir 130 3 → Ih 126 3 = Int32.ofNat W → Ih 126 4 = Int32.ofNat ((l - 4 - W) / 5) → (∀ q, 5 ≤ q → Ih 126 q = Ir 126 q) → (∀ p, p ≠ 126 → p ≠ 127 → p ≠ 129 → Ih p = Ir p) → (∀ j, j < 8 → Ih 127 j = Ir 131 j) → ∀ (r k : Nat), r + k = 24 → ∀ I1, (∀ q, q < k → I1 129 q = Ir 132 q) → (∀ p, p ≠ 129 → I1 p = Ih p) → gw_E V 117 (86, [(0, .ref 126), (1, .int (Int32.ofNat k))], [], gS n I1 J, 0, 0) (fun v w' => ∃ y, gz_fp (I 134) l W y ∧ ∃ I2, w' = gS n I2 J ∧ if y = -99 then v = some (.int (10 * Int32.ofNat W + Int32.ofNat ((l - 4 - W) / 5))) ∧ (gz_rd (I 134) l W (gz_M I2) ∧ (∀ q, q < 13 → I2 133 q = 0) ∧ I2 126 19 = 0 ∧ (∀ s, s < 2 → I2 143 s = 0) ∧ (∀ q, 5 ≤ q → q ≠ 11 → q ≠ 12 → q ≠ 16 → q ≠ 17 → q ≠ 19 → q ≠ 22 → q ≠ 23 → q ≠ 30 → q ≠ 31 → I2 126 q = I 126 q) ∧ (∀ p, ¬ (126 ≤ p ∧ p ≤ 133) → p ≠ 135 → p ≠ 137 → p ≠ 141 → p ≠ 142 → p ≠ 143 → I2 p = I p)) else v = some (.int (-3)) ∧ gm_qf I I2) := by
      intro Ih z0 z1 z2 z3 z4 z5 z6 z7 r
      induction r with
      | zero =>
        intro k hk I1 g1 g2
        obtain rfl : k = 24 := by omega
        refine gs_iload_n (pc := 86) (gd gk_117 49 rfl) rfl ?_
        refine gs_bipush (pc := 87) (gd gk_117 50 rfl) (24) rfl ?_
        refine gs_icmp_ge (pc := 89) (gd gk_117 51 rfl) (fun c89 => ?_) (fun c89 => ?_)
        · replace c89 : 24 ≤ 24 := (zle (k := 24) (m := 24) (by omega) (by omega)).mp c89
          refine gs_iconst (pc := 110) (gd gk_117 62 rfl) (0) rfl ?_
          refine gs_istore_n (ls2 := fun v => [(0, .ref (126)), (1, .int (v))]) (pc := 111) (gd gk_117 63 rfl) (by rw [gL_117]; decide) (fun _ => rfl) (fun v1_1 hv1_1 => ?_)
          obtain rfl : v1_1 = Int32.ofNat 0 := hv1_1.trans (by first | rfl | (simp only [Int32.ofNat_add, Int32.ofNat_mul]; rfl) | (simp only [Int32.ofNat_add, Int32.ofNat_mul]))
          -- end 1: stop, pc 112, locals [(0, .ref (126)), (1, .int (Int32.ofNat 0))]
          have o : ∀ q, I1 126 q = Ih 126 q := fun q => by rw [g2 126 (by omega)]
          refine lp3 I1 (by rw [o]; exact z3) (by rw [o]; exact z4) ⟨?_, ?_, ?_, ?_, ?_, fun j hj => ?_, fun i hi c hc => ?_⟩ (fun q q1 q2 q3 q4 q5 q6 q7 q8 q9 qa => by rw [o, z5 q q1]; exact hq.2.2 q q2 q3 q4 q5 q7 q8 q9 qa) (fun p q1 q2 q3 q4 q5 q6 => by rw [g2 p (by omega), z6 p (by omega) (by omega) (by omega)]; exact hq.1 p (by omega) (by omega) (by omega) (by omega) (by omega) (by omega) (by omega) (by omega) (by omega) (by omega)) (fun p hp => by rw [g2 p (by omega), z6 p (by omega) (by omega) (by omega)]) 13 0 (by omega) I1 (fun q hq9 => absurd hq9 (Nat.not_lt_zero _)) (fun _ _ => rfl)
          · show I1 126 0 = _; rw [o, z0]; exact r1
          · show I1 126 1 = _; rw [o, z1]; exact r2
          · show I1 126 2 = _; rw [o, z2]; exact r3
          · show I1 126 3 = _; rw [o]; exact z3
          · show I1 126 4 = _; rw [o]; exact z4
          · show I1 127 j = _; rw [g2 127 (by omega), z7 j (by omega)]; exact r6 j hj
          · have e : gz_M I1 (2 + c) i = I1 129 (4 * i + c) := by
              have : c = 0 ∨ c = 1 ∨ c = 2 ∨ c = 3 := by omega
              rcases this with e | e | e | e <;> subst e <;> rfl
            rw [e, g1 _ (by omega)]; exact r7 i hi c hc
        · replace c89 : ¬ (24 ≤ 24) := fun q9 => c89 ((zle (k := 24) (m := 24) (by omega) (by omega)).mpr q9)
          -- end 2: stop, pc 92, locals [(0, .ref (126)), (1, .int (Int32.ofNat 24))]
          exact absurd (Nat.le_refl _) c89
      | succ r ih =>
        intro k hk I1 g1 g2
        have h132 : I1 132 = Ir 132 := by rw [g2 132 (by omega), z6 132 (by omega) (by omega) (by omega)]
        refine gs_iload_n (pc := 86) (gd gk_117 49 rfl) rfl ?_
        refine gs_bipush (pc := 87) (gd gk_117 50 rfl) (24) rfl ?_
        refine gs_icmp_ge (pc := 89) (gd gk_117 51 rfl) (fun c89 => ?_) (fun c89 => ?_)
        · replace c89 : 24 ≤ k := (zle (k := 24) (m := k) (by omega) (by omega)).mp c89
          -- end 1: stop, pc 110, locals [(0, .ref (126)), (1, .int (Int32.ofNat k))]
          exact absurd c89 (by omega)
        · replace c89 : ¬ (24 ≤ k) := fun q9 => c89 ((zle (k := 24) (m := k) (by omega) (by omega)).mpr q9)
          refine gs_aload_n (pc := 92) (gd gk_117 52 rfl) rfl ?_
          refine gs_getR (r := 129) (pc := 93) (gd gk_117 53 rfl) rfl rfl rfl (by decide) ?_
          refine gs_iload_n (pc := 96) (gd gk_117 54 rfl) rfl ?_
          refine gs_aload_n (pc := 97) (gd gk_117 55 rfl) rfl ?_
          refine gs_getR (r := 132) (pc := 98) (gd gk_117 56 rfl) rfl rfl rfl (by decide) ?_
          refine gs_iload_n (pc := 101) (gd gk_117 57 rfl) rfl ?_
          refine gs_ialoadK (k) (24) (pc := 102) (gd gk_117 58 rfl) (Or.inl rfl) rfl (by decide) (by first | rfl | (simp only [Int32.ofNat_add, Int32.ofNat_mul]; rfl) | (simp only [Int32.ofNat_add, Int32.ofNat_mul])) (by omega) ?_
          refine gs_iastoreK (k) (24) gs_sl (pc := 103) (gd gk_117 59 rfl) rfl rfl (by decide) (by first | rfl | (simp only [Int32.ofNat_add, Int32.ofNat_mul]; rfl) | (simp only [Int32.ofNat_add, Int32.ofNat_mul])) (by omega) (fun I_1 hI_1 => ?_)
          refine gs_iinc (ls2 := fun v => [(0, .ref (126)), (1, .int (v))]) (pc := 104) (gd gk_117 60 rfl) rfl (by rw [gL_117]; decide) (fun _ => rfl) (1) rfl (fun v1_1 hv1_1 => ?_)
          obtain rfl : v1_1 = Int32.ofNat (k + 1) := hv1_1.trans (by first | rfl | (simp only [Int32.ofNat_add, Int32.ofNat_mul]; rfl) | (simp only [Int32.ofNat_add, Int32.ofNat_mul]))
          refine gs_goto (pc := 107) (gd gk_117 61 rfl) ?_
          -- end 2: stop, pc 86, locals [(0, .ref (126)), (1, .int (Int32.ofNat (k + 1)))]
          refine ih (k + 1) (by omega) I_1 (fun q hq9 => ?_) (fun p hp => by rw [hI_1, gw_u_o hp]; exact g2 p hp)
          rw [hI_1, gw_u_s]; unfold upd
          by_cases e : q = k
          · rw [if_pos e, h132, e]
          · rw [if_neg e]; exact g1 q (by omega)
    have lp1 : ∀ Ih : Nat → Nat → Int32, Ih 126 0 = Ir 130 1 → Ih 126 1 = Ir 130 2 → Ih 126 2 = Ir 130 3 → Ih 126 3 = Int32.ofNat W → Ih 126 4 = Int32.ofNat ((l - 4 - W) / 5) → (∀ q, 5 ≤ q → Ih 126 q = Ir 126 q) → (∀ p, p ≠ 126 → Ih p = Ir p) → ∀ (r k : Nat), r + k = 8 → ∀ I1, (∀ q, q < k → I1 127 q = Ir 131 q) → (∀ p, p ≠ 127 → I1 p = Ih p) → gw_E V 117 (60, [(0, .ref 126), (1, .int (Int32.ofNat k))], [], gS n I1 J, 0, 0) (fun v w' => ∃ y, gz_fp (I 134) l W y ∧ ∃ I2, w' = gS n I2 J ∧ if y = -99 then v = some (.int (10 * Int32.ofNat W + Int32.ofNat ((l - 4 - W) / 5))) ∧ (gz_rd (I 134) l W (gz_M I2) ∧ (∀ q, q < 13 → I2 133 q = 0) ∧ I2 126 19 = 0 ∧ (∀ s, s < 2 → I2 143 s = 0) ∧ (∀ q, 5 ≤ q → q ≠ 11 → q ≠ 12 → q ≠ 16 → q ≠ 17 → q ≠ 19 → q ≠ 22 → q ≠ 23 → q ≠ 30 → q ≠ 31 → I2 126 q = I 126 q) ∧ (∀ p, ¬ (126 ≤ p ∧ p ≤ 133) → p ≠ 135 → p ≠ 137 → p ≠ 141 → p ≠ 142 → p ≠ 143 → I2 p = I p)) else v = some (.int (-3)) ∧ gm_qf I I2) := by
      intro Ih z0 z1 z2 z3 z4 z5 z6 r
      induction r with
      | zero =>
        intro k hk I1 g1 g2
        obtain rfl : k = 8 := by omega
        have o : ∀ q, I1 126 q = Ih 126 q := fun q => by rw [g2 126 (by omega)]
        refine gs_iload_n (pc := 60) (gd gk_117 34 rfl) rfl ?_
        refine gs_bipush (pc := 61) (gd gk_117 35 rfl) (8) rfl ?_
        refine gs_icmp_ge (pc := 63) (gd gk_117 36 rfl) (fun c63 => ?_) (fun c63 => ?_)
        · replace c63 : 8 ≤ 8 := (zle (k := 8) (m := 8) (by omega) (by omega)).mp c63
          refine gs_iconst (pc := 84) (gd gk_117 47 rfl) (0) rfl ?_
          refine gs_istore_n (ls2 := fun v => [(0, .ref (126)), (1, .int (v))]) (pc := 85) (gd gk_117 48 rfl) (by rw [gL_117]; decide) (fun _ => rfl) (fun v1_1 hv1_1 => ?_)
          obtain rfl : v1_1 = Int32.ofNat 0 := hv1_1.trans (by first | rfl | (simp only [Int32.ofNat_add, Int32.ofNat_mul]; rfl) | (simp only [Int32.ofNat_add, Int32.ofNat_mul]))
          -- end 1: stop, pc 86, locals [(0, .ref (126)), (1, .int (Int32.ofNat 0))]
          exact lp2 I1 (by rw [o]; exact z0) (by rw [o]; exact z1) (by rw [o]; exact z2) (by rw [o]; exact z3) (by rw [o]; exact z4) (fun q q1 => by rw [o]; exact z5 q q1) (fun p q1 q2 _ => by rw [g2 p q2]; exact z6 p q1) g1 24 0 (by omega) I1 (fun q hq9 => absurd hq9 (Nat.not_lt_zero _)) (fun _ _ => rfl)
        · replace c63 : ¬ (8 ≤ 8) := fun q9 => c63 ((zle (k := 8) (m := 8) (by omega) (by omega)).mpr q9)
          -- end 2: stop, pc 66, locals [(0, .ref (126)), (1, .int (Int32.ofNat 8))]
          exact absurd (Nat.le_refl _) c63
      | succ r ih =>
        intro k hk I1 g1 g2
        have h131 : I1 131 = Ir 131 := by rw [g2 131 (by omega), z6 131 (by omega)]
        refine gs_iload_n (pc := 60) (gd gk_117 34 rfl) rfl ?_
        refine gs_bipush (pc := 61) (gd gk_117 35 rfl) (8) rfl ?_
        refine gs_icmp_ge (pc := 63) (gd gk_117 36 rfl) (fun c63 => ?_) (fun c63 => ?_)
        · replace c63 : 8 ≤ k := (zle (k := 8) (m := k) (by omega) (by omega)).mp c63
          -- end 1: stop, pc 84, locals [(0, .ref (126)), (1, .int (Int32.ofNat k))]
          exact absurd c63 (by omega)
        · replace c63 : ¬ (8 ≤ k) := fun q9 => c63 ((zle (k := 8) (m := k) (by omega) (by omega)).mpr q9)
          refine gs_aload_n (pc := 66) (gd gk_117 37 rfl) rfl ?_
          refine gs_getR (r := 127) (pc := 67) (gd gk_117 38 rfl) rfl rfl rfl (by decide) ?_
          refine gs_iload_n (pc := 70) (gd gk_117 39 rfl) rfl ?_
          refine gs_aload_n (pc := 71) (gd gk_117 40 rfl) rfl ?_
          refine gs_getR (r := 131) (pc := 72) (gd gk_117 41 rfl) rfl rfl rfl (by decide) ?_
          refine gs_iload_n (pc := 75) (gd gk_117 42 rfl) rfl ?_
          refine gs_ialoadK (k) (8) (pc := 76) (gd gk_117 43 rfl) (Or.inl rfl) rfl (by decide) (by first | rfl | (simp only [Int32.ofNat_add, Int32.ofNat_mul]; rfl) | (simp only [Int32.ofNat_add, Int32.ofNat_mul])) (by omega) ?_
          refine gs_iastoreK (k) (8) gs_sl (pc := 77) (gd gk_117 44 rfl) rfl rfl (by decide) (by first | rfl | (simp only [Int32.ofNat_add, Int32.ofNat_mul]; rfl) | (simp only [Int32.ofNat_add, Int32.ofNat_mul])) (by omega) (fun I_1 hI_1 => ?_)
          refine gs_iinc (ls2 := fun v => [(0, .ref (126)), (1, .int (v))]) (pc := 78) (gd gk_117 45 rfl) rfl (by rw [gL_117]; decide) (fun _ => rfl) (1) rfl (fun v1_1 hv1_1 => ?_)
          obtain rfl : v1_1 = Int32.ofNat (k + 1) := hv1_1.trans (by first | rfl | (simp only [Int32.ofNat_add, Int32.ofNat_mul]; rfl) | (simp only [Int32.ofNat_add, Int32.ofNat_mul]))
          refine gs_goto (pc := 81) (gd gk_117 46 rfl) ?_
          -- end 2: stop, pc 60, locals [(0, .ref (126)), (1, .int (Int32.ofNat (k + 1)))]
          refine ih (k + 1) (by omega) I_1 (fun q hq9 => ?_) (fun p hp => by rw [hI_1, gw_u_o hp]; exact g2 p hp)
          rw [hI_1, gw_u_s]; unfold upd
          by_cases e : q = k
          · rw [if_pos e, h131, e]
          · rw [if_neg e]; exact g1 q (by omega)
    refine gs_aload_n (pc := 12) (gd gk_117 6 rfl) rfl ?_
    refine gs_aload_n (pc := 13) (gd gk_117 7 rfl) rfl ?_
    refine gs_getR (r := 130) (pc := 14) (gd gk_117 8 rfl) rfl rfl rfl (by decide) ?_
    refine gs_iconst (pc := 17) (gd gk_117 9 rfl) (1) rfl ?_
    refine gs_ialoadK (1) (4) (pc := 18) (gd gk_117 10 rfl) (Or.inl rfl) rfl (by decide) (by first | rfl | (simp only [Int32.ofNat_add, Int32.ofNat_mul]; rfl) | (simp only [Int32.ofNat_add, Int32.ofNat_mul])) (by omega) ?_
    refine gs_putI (pc := 19) (gd gk_117 11 rfl) rfl rfl rfl rfl (fun I_1 hI_1 => ?_)
    refine gs_aload_n (pc := 22) (gd gk_117 12 rfl) rfl ?_
    refine gs_aload_n (pc := 23) (gd gk_117 13 rfl) rfl ?_
    refine gs_getR (r := 130) (pc := 24) (gd gk_117 14 rfl) rfl rfl rfl (by decide) ?_
    refine gs_iconst (pc := 27) (gd gk_117 15 rfl) (2) rfl ?_
    refine gs_ialoadK (2) (4) (pc := 28) (gd gk_117 16 rfl) (Or.inl rfl) rfl (by decide) (by first | rfl | (simp only [Int32.ofNat_add, Int32.ofNat_mul]; rfl) | (simp only [Int32.ofNat_add, Int32.ofNat_mul])) (by omega) ?_
    refine gs_putI (pc := 29) (gd gk_117 17 rfl) rfl rfl rfl rfl (fun I_2 hI_2 => ?_)
    refine gs_aload_n (pc := 32) (gd gk_117 18 rfl) rfl ?_
    refine gs_aload_n (pc := 33) (gd gk_117 19 rfl) rfl ?_
    refine gs_getR (r := 130) (pc := 34) (gd gk_117 20 rfl) rfl rfl rfl (by decide) ?_
    refine gs_iconst (pc := 37) (gd gk_117 21 rfl) (3) rfl ?_
    refine gs_ialoadK (3) (4) (pc := 38) (gd gk_117 22 rfl) (Or.inl rfl) rfl (by decide) (by first | rfl | (simp only [Int32.ofNat_add, Int32.ofNat_mul]; rfl) | (simp only [Int32.ofNat_add, Int32.ofNat_mul])) (by omega) ?_
    refine gs_putI (pc := 39) (gd gk_117 23 rfl) rfl rfl rfl rfl (fun I_3 hI_3 => ?_)
    refine gs_aload_n (pc := 42) (gd gk_117 24 rfl) rfl ?_
    refine gs_aload_n (pc := 43) (gd gk_117 25 rfl) rfl ?_
    refine gs_getI (pc := 44) (gd gk_117 26 rfl) rfl rfl ?_
    refine gs_putI (pc := 47) (gd gk_117 27 rfl) rfl rfl rfl rfl (fun I_4 hI_4 => ?_)
    refine gs_aload_n (pc := 50) (gd gk_117 28 rfl) rfl ?_
    refine gs_aload_n (pc := 51) (gd gk_117 29 rfl) rfl ?_
    refine gs_getI (pc := 52) (gd gk_117 30 rfl) rfl rfl ?_
    refine gs_putI (pc := 55) (gd gk_117 31 rfl) rfl rfl rfl rfl (fun I_5 hI_5 => ?_)
    refine gs_iconst (pc := 58) (gd gk_117 32 rfl) (0) rfl ?_
    refine gs_istore_n (ls2 := fun v => [(0, .ref (126)), (1, .int (v))]) (pc := 59) (gd gk_117 33 rfl) (by rw [gL_117]; decide) (fun _ => rfl) (fun v1_1 hv1_1 => ?_)
    obtain rfl : v1_1 = Int32.ofNat 0 := hv1_1.trans (by first | rfl | (simp only [Int32.ofNat_add, Int32.ofNat_mul]; rfl) | (simp only [Int32.ofNat_add, Int32.ofNat_mul]))
    -- end 1: stop, pc 60, locals [(0, .ref (126)), (1, .int (Int32.ofNat 0))]
    have o : ∀ p, p ≠ 126 → I_5 p = Ir p := fun p hp => by rw [hI_5, gw_u_o hp, hI_4, gw_u_o hp, hI_3, gw_u_o hp, hI_2, gw_u_o hp, hI_1, gw_u_o hp]
    have e130 : I_1 130 = Ir 130 ∧ I_2 130 = Ir 130 := ⟨by rw [hI_1, gw_u_o (by omega)], by rw [hI_2, gw_u_o (by omega), hI_1, gw_u_o (by omega)]⟩
    have f : I_5 126 0 = Ir 130 1 ∧ I_5 126 1 = Ir 130 2 ∧ I_5 126 2 = Ir 130 3 ∧ I_5 126 3 = Ir 126 11 ∧ I_5 126 4 = Ir 126 12 := by
      refine ⟨?_, ?_, ?_, ?_, ?_⟩ <;> rw [hI_5, gw_u_s, hI_4, gw_u_s, hI_3, gw_u_s, hI_2, gw_u_s, hI_1, gw_u_s] <;> simp [upd, gw_u]
    exact lp1 I_5 f.1 f.2.1 f.2.2.1 (f.2.2.2.1.trans r4) (f.2.2.2.2.trans r5) (fun q hq9 => by rw [hI_5, gw_u_s, hI_4, gw_u_s, hI_3, gw_u_s, hI_2, gw_u_s, hI_1, gw_u_s]; unfold upd; rw [if_neg (by omega), if_neg (by omega), if_neg (by omega), if_neg (by omega), if_neg (by omega)]) o 8 0 (by omega) I_5 (fun q hq9 => absurd hq9 (Nat.not_lt_zero _)) (fun _ _ => rfl)
  refine gs_aload_n (pc := 0) (gd gk_117 0 rfl) rfl ?_
  refine gs_callV (as := []) (pc := 1) (gd gk_117 1 rfl) (by decide) rfl (by decide) rfl rfl (Nat.le_of_ble_eq_true rfl) gq_117_114 (Nat.le_of_ble_eq_true rfl) (m_readText l W hT hl h48) (fun r_1 w_1 q_1 => ?_)
  obtain ⟨y, y1, rfl, I_t, rfl, t1, t2⟩ := q_1
  refine gs_bipush (pc := 4) (gd gk_117 2 rfl) (-99) rfl ?_
  refine gs_icmp_eq (pc := 6) (gd gk_117 3 rfl) (fun c6 => ?_) (fun c6 => ?_)
  · -- end 1: stop, pc 12, locals [(0, .ref (126))]
    rw [c6] at y1
    exact tail y1 I_t t1 (t2 c6)
  · refine gs_bipush (pc := 9) (gd gk_117 4 rfl) (-3) rfl ?_
    -- end 2: ireturn (-3), pc 11, locals [(0, .ref (126))]
    exact gs_iret (pc := 11) (gd gk_117 5 rfl) rfl (rfl) (Nat.zero_le _) (Nat.zero_le _) (⟨y, y1, I_t, rfl, by rw [if_neg c6]; exact ⟨rfl, t1⟩⟩)
end
