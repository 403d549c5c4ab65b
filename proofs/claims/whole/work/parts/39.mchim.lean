/-! ===== the reference: bestChimney, only ===== -/
section
variable {V : gw_V} {n W N h0 L bc : Nat} {I : Nat → Nat → Int32} {J : Nat → Nat → Int64}
theorem gz_xx (a b : Int32) : (a ^^^ b) ^^^ b = a := by rw [Int32.xor_assoc, Int32.xor_self, Int32.xor_zero]
theorem gq_bst_0 {val : Nat → Int32} {h0 : Nat} : gq_bst val h0 0 0 := by
  refine ⟨⟨Nat.zero_mod _, Nat.two_pow_pos _⟩, fun q hq => ?_⟩
  obtain ⟨a, b⟩ := hq
  rw [Nat.add_zero] at b
  rw [Nat.mod_eq_of_lt b] at a
  rw [a]
  exact gq_ge_rf val 0
theorem gq_bc_0 {val : Nat → Int32} {valc : Nat → Nat → Int32} {h0 : Nat} (h : val 0 = 0) (hc : ∀ c, valc c 0 = 0) : ∀ k, gq_bc val valc h0 0 k 0 (-99)
  | 0 => ⟨⟨0, gq_bst_0, h.symm⟩, rfl⟩
  | k + 1 => ⟨0, -99, 0, gq_bc_0 h hc k, ⟨0, gq_bst_0, (hc k).symm⟩, by rw [if_neg (by decide)], by rw [if_neg (by decide)]⟩
abbrev mq_bch (n : Nat) (I : Nat → Nat → Int32) (J : Nat → Nat → Int64) (N h0 L bc : Nat) : Option Value → gw_W → Prop := fun v w' => ∃ I2 x f, w' = gS n I2 J ∧ gm_qf I I2 ∧ gq_bc (gq_val (gz_M I) N h0 L bc (I 133 10) (I 133) (fun _ => true)) (fun c => gq_val (gz_M I) N h0 L bc (gq_tc (I 133 10) c) (I 133) (fun _ => true)) h0 L 10 x f ∧ v = some (.int f)
theorem m_bestChimney (hn : gm_now I W N h0 L bc) : gw_E V 139 (0, [(0, .ref 126)], [], gS n I J, 0, 0) (mq_bch n I J N h0 L bc) := by
  obtain ⟨hok, hh, hW, hbc, hb9⟩ := id hn
  have hW8 : W ≤ 8 := hok.2.1
  have hW3 : I 126 3 = Int32.ofNat W := hok.1
  generalize hval : gq_val (gz_M I) N h0 L bc (I 133 10) (I 133) (fun _ => true) = val
  generalize hvalc : (fun c => gq_val (gz_M I) N h0 L bc (gq_tc (I 133 10) c) (I 133) (fun _ => true)) = valc
  have lp : ∀ (m k : Nat), m + k = 10 → ∀ I1 x f, gm_qf I I1 → gq_bc val valc h0 L k x f → gw_E V 139 (29, [(0, .ref 126), (1, .int x), (2, .int f), (3, .int (Int32.ofNat k))], [], gS n I1 J, 0, 0) (mq_bch n I J N h0 L bc) := by
    intro m
    induction m with
    | zero =>
      intro k hk I1 x f h1 h2
      obtain rfl : k = 10 := by omega
      refine gs_iload_n (pc := 29) (gd gk_139 17 rfl) rfl ?_
      refine gs_bipush (pc := 30) (gd gk_139 18 rfl) (10) rfl ?_
      refine gs_icmp_ge (pc := 32) (gd gk_139 19 rfl) (fun c32 => ?_) (fun c32 => ?_)
      · replace c32 : 10 ≤ 10 := (zle (k := 10) (m := 10) (by omega) (by omega)).mp c32
        refine gs_iload_n (pc := 100) (gd gk_139 60 rfl) rfl ?_
        -- end 1: ireturn f, pc 101, locals [(0, .ref (126)), (1, .int (x)), (2, .int (f)), (3, .int (Int32.ofNat 10))]
        exact gs_iret (pc := 101) (gd gk_139 61 rfl) rfl (rfl) (Nat.zero_le _) (Nat.zero_le _) (⟨I1, x, f, rfl, h1, by rw [hval, hvalc]; exact h2, rfl⟩)
      · replace c32 : ¬ (10 ≤ 10) := fun q9 => c32 ((zle (k := 10) (m := 10) (by omega) (by omega)).mpr q9)
        -- end 2: stop, pc 35, locals [(0, .ref (126)), (1, .int (x)), (2, .int (f)), (3, .int (Int32.ofNat 10))]
        exact absurd (by decide) c32
    | succ m ih =>
      intro k hk I1 x f h1 h2
      have hn1 := gm_qf_now h1 hn
      have tail : ∀ I2 y, gm_qf I I2 → gq_bv (valc k) h0 L y → gw_E V 139 (69, [(0, .ref 126), (1, .int x), (2, .int f), (3, .int (Int32.ofNat k)), (4, .int y)], [], gS n I2 J, 0, 0) (mq_bch n I J N h0 L bc) := by
        intro I2 y t1 t2
        refine gs_iload (pc := 69) (gd gk_139 44 rfl) rfl ?_
        refine gs_iload_n (pc := 71) (gd gk_139 45 rfl) rfl ?_
        refine gs_icmp_le (pc := 72) (gd gk_139 46 rfl) (fun c72 => ?_) (fun c72 => ?_)
        · refine gs_iload_n (pc := 79) (gd gk_139 49 rfl) rfl ?_
          refine gs_istore_n (ls2 := fun v => [(0, .ref (126)), (1, .int (x)), (2, .int (v)), (3, .int (Int32.ofNat k)), (4, .int (y))]) (pc := 80) (gd gk_139 50 rfl) (by rw [gL_139]; decide) (fun _ => rfl) (fun v2_1 hv2_1 => ?_)
          refine gs_iload (pc := 81) (gd gk_139 51 rfl) rfl ?_
          refine gs_iload_n (pc := 83) (gd gk_139 52 rfl) rfl ?_
          refine gs_icmp_le (pc := 84) (gd gk_139 53 rfl) (fun c84 => ?_) (fun c84 => ?_)
          · refine gs_iload_n (pc := 92) (gd gk_139 56 rfl) rfl ?_
            refine gs_istore_n (ls2 := fun v => [(0, .ref (126)), (1, .int (v)), (2, .int (v2_1)), (3, .int (Int32.ofNat k)), (4, .int (y))]) (pc := 93) (gd gk_139 57 rfl) (by rw [gL_139]; decide) (fun _ => rfl) (fun v1_1 hv1_1 => ?_)
            refine gs_iinc (ls2 := fun v => [(0, .ref (126)), (1, .int (v1_1)), (2, .int (v2_1)), (3, .int (v)), (4, .int (y))]) (pc := 94) (gd gk_139 58 rfl) rfl (by rw [gL_139]; decide) (fun _ => rfl) (1) rfl (fun v3_1 hv3_1 => ?_)
            obtain rfl : v3_1 = Int32.ofNat (k + 1) := hv3_1.trans (by first | rfl | (simp only [Int32.ofNat_add, Int32.ofNat_mul]; rfl) | (simp only [Int32.ofNat_add, Int32.ofNat_mul]))
            refine gs_goto (pc := 97) (gd gk_139 59 rfl) ?_
            -- end 1: stop, pc 29, locals [(0, .ref (126)), (1, .int (v1_1)), (2, .int (v2_1)), (3, .int (Int32.ofNat (k + 1))), (4, .int (y))]
            obtain rfl := hv2_1
            obtain rfl := hv1_1
            exact gs_drop [0, 1, 2, 3] rfl (ih (k + 1) (by omega) I2 _ _ t1 ⟨_, _, y, h2, t2, by rw [if_neg (Int32.not_lt.mpr c72)], by rw [if_neg (Int32.not_lt.mpr c72)]⟩)
          · refine gs_iload (pc := 87) (gd gk_139 54 rfl) rfl ?_
            refine gs_goto (pc := 89) (gd gk_139 55 rfl) ?_
            refine gs_istore_n (ls2 := fun v => [(0, .ref (126)), (1, .int (v)), (2, .int (v2_1)), (3, .int (Int32.ofNat k)), (4, .int (y))]) (pc := 93) (gd gk_139 57 rfl) (by rw [gL_139]; decide) (fun _ => rfl) (fun v1_2 hv1_2 => ?_)
            refine gs_iinc (ls2 := fun v => [(0, .ref (126)), (1, .int (v1_2)), (2, .int (v2_1)), (3, .int (v)), (4, .int (y))]) (pc := 94) (gd gk_139 58 rfl) rfl (by rw [gL_139]; decide) (fun _ => rfl) (1) rfl (fun v3_2 hv3_2 => ?_)
            obtain rfl : v3_2 = Int32.ofNat (k + 1) := hv3_2.trans (by first | rfl | (simp only [Int32.ofNat_add, Int32.ofNat_mul]; rfl) | (simp only [Int32.ofNat_add, Int32.ofNat_mul]))
            refine gs_goto (pc := 97) (gd gk_139 59 rfl) ?_
            -- end 2: stop, pc 29, locals [(0, .ref (126)), (1, .int (v1_2)), (2, .int (v2_1)), (3, .int (Int32.ofNat (k + 1))), (4, .int (y))]
            exact absurd c72 c84
        · refine gs_iload_n (pc := 75) (gd gk_139 47 rfl) rfl ?_
          refine gs_goto (pc := 76) (gd gk_139 48 rfl) ?_
          refine gs_istore_n (ls2 := fun v => [(0, .ref (126)), (1, .int (x)), (2, .int (v)), (3, .int (Int32.ofNat k)), (4, .int (y))]) (pc := 80) (gd gk_139 50 rfl) (by rw [gL_139]; decide) (fun _ => rfl) (fun v2_2 hv2_2 => ?_)
          obtain rfl : v2_2 = Int32.ofNat k := hv2_2.trans (by first | rfl | (simp only [Int32.ofNat_add, Int32.ofNat_mul]; rfl) | (simp only [Int32.ofNat_add, Int32.ofNat_mul]))
          refine gs_iload (pc := 81) (gd gk_139 51 rfl) rfl ?_
          refine gs_iload_n (pc := 83) (gd gk_139 52 rfl) rfl ?_
          refine gs_icmp_le (pc := 84) (gd gk_139 53 rfl) (fun c84 => ?_) (fun c84 => ?_)
          · refine gs_iload_n (pc := 92) (gd gk_139 56 rfl) rfl ?_
            refine gs_istore_n (ls2 := fun v => [(0, .ref (126)), (1, .int (v)), (2, .int (Int32.ofNat k)), (3, .int (Int32.ofNat k)), (4, .int (y))]) (pc := 93) (gd gk_139 57 rfl) (by rw [gL_139]; decide) (fun _ => rfl) (fun v1_3 hv1_3 => ?_)
            refine gs_iinc (ls2 := fun v => [(0, .ref (126)), (1, .int (v1_3)), (2, .int (Int32.ofNat k)), (3, .int (v)), (4, .int (y))]) (pc := 94) (gd gk_139 58 rfl) rfl (by rw [gL_139]; decide) (fun _ => rfl) (1) rfl (fun v3_3 hv3_3 => ?_)
            obtain rfl : v3_3 = Int32.ofNat (k + 1) := hv3_3.trans (by first | rfl | (simp only [Int32.ofNat_add, Int32.ofNat_mul]; rfl) | (simp only [Int32.ofNat_add, Int32.ofNat_mul]))
            refine gs_goto (pc := 97) (gd gk_139 59 rfl) ?_
            -- end 3: stop, pc 29, locals [(0, .ref (126)), (1, .int (v1_3)), (2, .int (Int32.ofNat k)), (3, .int (Int32.ofNat (k + 1))), (4, .int (y))]
            exact absurd c84 c72
          · refine gs_iload (pc := 87) (gd gk_139 54 rfl) rfl ?_
            refine gs_goto (pc := 89) (gd gk_139 55 rfl) ?_
            refine gs_istore_n (ls2 := fun v => [(0, .ref (126)), (1, .int (v)), (2, .int (Int32.ofNat k)), (3, .int (Int32.ofNat k)), (4, .int (y))]) (pc := 93) (gd gk_139 57 rfl) (by rw [gL_139]; decide) (fun _ => rfl) (fun v1_4 hv1_4 => ?_)
            refine gs_iinc (ls2 := fun v => [(0, .ref (126)), (1, .int (v1_4)), (2, .int (Int32.ofNat k)), (3, .int (v)), (4, .int (y))]) (pc := 94) (gd gk_139 58 rfl) rfl (by rw [gL_139]; decide) (fun _ => rfl) (1) rfl (fun v3_4 hv3_4 => ?_)
            obtain rfl : v3_4 = Int32.ofNat (k + 1) := hv3_4.trans (by first | rfl | (simp only [Int32.ofNat_add, Int32.ofNat_mul]; rfl) | (simp only [Int32.ofNat_add, Int32.ofNat_mul]))
            refine gs_goto (pc := 97) (gd gk_139 59 rfl) ?_
            -- end 4: stop, pc 29, locals [(0, .ref (126)), (1, .int (v1_4)), (2, .int (Int32.ofNat k)), (3, .int (Int32.ofNat (k + 1))), (4, .int (y))]
            obtain rfl := hv1_4
            exact gs_drop [0, 1, 2, 3] rfl (ih (k + 1) (by omega) I2 _ _ t1 ⟨_, _, _, h2, t2, by rw [if_pos (Int32.not_le.mp c72)], by rw [if_pos (Int32.not_le.mp c72)]⟩)
      refine gs_iload_n (pc := 29) (gd gk_139 17 rfl) rfl ?_
      refine gs_bipush (pc := 30) (gd gk_139 18 rfl) (10) rfl ?_
      refine gs_icmp_ge (pc := 32) (gd gk_139 19 rfl) (fun c32 => ?_) (fun c32 => ?_)
      · replace c32 : 10 ≤ k := (zle (k := 10) (m := k) (by omega) (by omega)).mp c32
        refine gs_iload_n (pc := 100) (gd gk_139 60 rfl) rfl ?_
        -- end 1: ireturn f, pc 101, locals [(0, .ref (126)), (1, .int (x)), (2, .int (f)), (3, .int (Int32.ofNat k))]
        exact absurd c32 (by omega)
      · replace c32 : ¬ (10 ≤ k) := fun q9 => c32 ((zle (k := 10) (m := k) (by omega) (by omega)).mpr q9)
        refine gs_aload_n (pc := 35) (gd gk_139 20 rfl) rfl ?_
        refine gs_getR (r := 133) (pc := 36) (gd gk_139 21 rfl) rfl rfl rfl (by decide) ?_
        refine gs_bipush (pc := 39) (gd gk_139 22 rfl) (10) rfl ?_
        refine gs_dup2 (pc := 41) (gd gk_139 23 rfl) rfl rfl ?_
        refine gs_ialoadK (10) (52) (pc := 42) (gd gk_139 24 rfl) (Or.inl rfl) rfl (by decide) (by first | rfl | (simp only [Int32.ofNat_add, Int32.ofNat_mul]; rfl) | (simp only [Int32.ofNat_add, Int32.ofNat_mul])) (by omega) ?_
        refine gs_iconst (pc := 43) (gd gk_139 25 rfl) (1) rfl ?_
        refine gs_iload_n (pc := 44) (gd gk_139 26 rfl) rfl ?_
        refine gs_ishl (pc := 45) (gd gk_139 27 rfl) ?_
        refine gs_ixor (pc := 46) (gd gk_139 28 rfl) ?_
        refine gs_iastoreK (10) (52) gs_sl (pc := 47) (gd gk_139 29 rfl) rfl rfl (by decide) (by first | rfl | (simp only [Int32.ofNat_add, Int32.ofNat_mul]; rfl) | (simp only [Int32.ofNat_add, Int32.ofNat_mul])) (by omega) (fun I_1 hI_1 => ?_)
        have o1 : ∀ p, p ≠ 133 → I_1 p = I1 p := fun p q => by rw [hI_1, gw_u_o q]
        have o2 : ∀ q, q ≠ 10 → I_1 133 q = I1 133 q := fun q hq => by rw [hI_1, gw_u_s]; simp [upd, hq]
        have o3 : I_1 133 10 = gq_tc (I 133 10) k := by rw [hI_1, gw_u_s]; simp [upd]; rw [h1.2.1 10 (by omega)]
        have oM : gz_M I_1 = gz_M I := (gz_M_eq (fun k _ => by rw [o1 126 (by omega)]) (o1 127 (by omega)) (o1 129 (by omega))).trans (gm_qf_M h1)
        have on : gm_now I_1 W N h0 L bc := ⟨by rw [oM]; exact hok, by rw [o2 12 (by omega)]; exact hn1.2.1, hW, by rw [o1 126 (by omega)]; exact hn1.2.2.2.1, hb9⟩
        refine gs_aload_n (pc := 48) (gd gk_139 30 rfl) rfl ?_
        refine gs_bipush (pc := 49) (gd gk_139 31 rfl) (63) rfl ?_
        refine gs_callV (as := [.int (63)]) (pc := 51) (gd gk_139 32 rfl) (by decide) rfl (by decide) rfl rfl (Nat.le_of_ble_eq_true rfl) gq_139_137 (Nat.le_of_ble_eq_true rfl) (m_bestBy 63 on) (fun r_51 w_51 q_51 => ?_)
        obtain ⟨I_b, p, rfl, b1, b2, rfl, b3⟩ := q_51
        have hvv : gm_val I_1 N h0 L bc 63 = valc k := by rw [gm_val_63 on, oM, o3, ← hvalc, gq_val_c (s2 := I 133) (fun c hc => by rw [o2 c (by omega)]; exact h1.2.1 c (by omega)) (gq_ok_n hok)]
        rw [hvv] at b3
        refine gs_istore (ls2 := fun v => [(0, .ref (126)), (1, .int (x)), (2, .int (f)), (3, .int (Int32.ofNat k)), (4, .int (v))]) (pc := 54) (gd gk_139 33 rfl) (by rw [gL_139]; decide) (fun _ => rfl) (fun v4_1 hv4_1 => ?_)
        refine gs_aload_n (pc := 56) (gd gk_139 34 rfl) rfl ?_
        refine gs_getR (r := 133) (pc := 57) (gd gk_139 35 rfl) rfl rfl rfl (by decide) ?_
        refine gs_bipush (pc := 60) (gd gk_139 36 rfl) (10) rfl ?_
        refine gs_dup2 (pc := 62) (gd gk_139 37 rfl) rfl rfl ?_
        refine gs_ialoadK (10) (52) (pc := 63) (gd gk_139 38 rfl) (Or.inl rfl) rfl (by decide) (by first | rfl | (simp only [Int32.ofNat_add, Int32.ofNat_mul]; rfl) | (simp only [Int32.ofNat_add, Int32.ofNat_mul])) (by omega) ?_
        refine gs_iconst (pc := 64) (gd gk_139 39 rfl) (1) rfl ?_
        refine gs_iload_n (pc := 65) (gd gk_139 40 rfl) rfl ?_
        refine gs_ishl (pc := 66) (gd gk_139 41 rfl) ?_
        refine gs_ixor (pc := 67) (gd gk_139 42 rfl) ?_
        refine gs_iastoreK (10) (52) gs_sl (pc := 68) (gd gk_139 43 rfl) rfl rfl (by decide) (by first | rfl | (simp only [Int32.ofNat_add, Int32.ofNat_mul]; rfl) | (simp only [Int32.ofNat_add, Int32.ofNat_mul])) (by omega) (fun I_2 hI_2 => ?_)
        -- end 2: stop, pc 69, locals [(0, .ref (126)), (1, .int (x)), (2, .int (f)), (3, .int (Int32.ofNat k)), (4, .int (v4_1))]
        have hq2 : gm_qf I I_2 := by
          refine ⟨fun p q1 q2 q3 q4 q5 q6 q7 q8 q9 q10 => ?_, fun q hq => ?_, fun q q1 q2 q3 q4 q5 q6 q7 q8 => ?_⟩
          · rw [hI_2, gw_u_o q6, b1.1 p q1 q2 q3 q4 q5 q6 q7 q8 q9 q10, o1 p q6]; exact h1.1 p q1 q2 q3 q4 q5 q6 q7 q8 q9 q10
          · rw [hI_2, gw_u_s]
            unfold upd
            by_cases e : q = 10
            · rw [if_pos e, e, b1.2.1 10 (by omega), o3]; exact gz_xx _ _
            · rw [if_neg e, b1.2.1 q hq, o2 q e]; exact h1.2.1 q hq
          · rw [hI_2, gw_u_o (by omega), b1.2.2 q q1 q2 q3 q4 q5 q6 q7 q8, o1 126 (by omega)]; exact h1.2.2 q q1 q2 q3 q4 q5 q6 q7 q8
        exact tail I_2 _ hq2 ⟨p, b3, by rw [hv4_1, hvv]⟩
  refine gs_aload_n (pc := 0) (gd gk_139 0 rfl) rfl ?_
  refine gs_getR (r := 133) (pc := 1) (gd gk_139 1 rfl) rfl rfl rfl (by decide) ?_
  refine gs_bipush (pc := 4) (gd gk_139 2 rfl) (12) rfl ?_
  refine gs_ialoadK (12) (52) (pc := 6) (gd gk_139 3 rfl) (Or.inl rfl) rfl (by decide) (by first | rfl | (simp only [Int32.ofNat_add, Int32.ofNat_mul]; rfl) | (simp only [Int32.ofNat_add, Int32.ofNat_mul])) (by omega) ?_
  refine gs_as (Int32.ofNat h0) (hh) ?_
  refine gs_aload_n (pc := 7) (gd gk_139 4 rfl) rfl ?_
  refine gs_getI (pc := 8) (gd gk_139 5 rfl) rfl rfl ?_
  refine gs_as (Int32.ofNat W) (hW3) ?_
  refine gs_icmp_ne (pc := 11) (gd gk_139 6 rfl) (fun c11 => ?_) (fun c11 => ?_)
  · replace c11 : ¬ (h0 = W) := fun q9 => c11 ((zeq (k := h0) (m := W) (by omega) (by omega)).mpr q9)
    refine gs_aload_n (pc := 17) (gd gk_139 9 rfl) rfl ?_
    refine gs_bipush (pc := 18) (gd gk_139 10 rfl) (63) rfl ?_
    refine gs_callV (as := [.int (63)]) (pc := 20) (gd gk_139 11 rfl) (by decide) rfl (by decide) rfl rfl (Nat.le_of_ble_eq_true rfl) gq_139_137 (Nat.le_of_ble_eq_true rfl) (m_bestBy 63 hn) (fun r_20 w_20 q_20 => ?_)
    obtain ⟨I_b, p, rfl, b1, b2, rfl, b3⟩ := q_20
    rw [gm_val_63 hn] at b3
    refine gs_istore_n (ls2 := fun v => [(0, .ref (126)), (1, .int (v))]) (pc := 23) (gd gk_139 12 rfl) (by rw [gL_139]; decide) (fun _ => rfl) (fun v1_1 hv1_1 => ?_)
    refine gs_bipush (pc := 24) (gd gk_139 13 rfl) (-99) rfl ?_
    refine gs_istore_n (ls2 := fun v => [(0, .ref (126)), (1, .int (v1_1)), (2, .int (v))]) (pc := 26) (gd gk_139 14 rfl) (by rw [gL_139]; decide) (fun _ => rfl) (fun v2_1 hv2_1 => ?_)
    refine gs_iconst (pc := 27) (gd gk_139 15 rfl) (0) rfl ?_
    refine gs_istore_n (ls2 := fun v => [(0, .ref (126)), (1, .int (v1_1)), (2, .int (v2_1)), (3, .int (v))]) (pc := 28) (gd gk_139 16 rfl) (by rw [gL_139]; decide) (fun _ => rfl) (fun v3_1 hv3_1 => ?_)
    obtain rfl : v3_1 = Int32.ofNat 0 := hv3_1.trans (by first | rfl | (simp only [Int32.ofNat_add, Int32.ofNat_mul]; rfl) | (simp only [Int32.ofNat_add, Int32.ofNat_mul]))
    -- end 1: stop, pc 29, locals [(0, .ref (126)), (1, .int (v1_1)), (2, .int (v2_1)), (3, .int (Int32.ofNat 0))]
    refine lp 10 0 rfl I_b _ _ b1 ⟨⟨p, by rw [hval] at b3; exact b3, ?_⟩, ?_⟩
    · rw [hv1_1, gm_val_63 hn, hval]
    · exact hv2_1
  · replace c11 : h0 = W := (zeq (k := h0) (m := W) (by omega) (by omega)).mp c11
    refine gs_bipush (pc := 14) (gd gk_139 7 rfl) (-99) rfl ?_
    -- end 2: ireturn (-99), pc 16, locals [(0, .ref (126))]
    obtain rfl : L = 0 := by omega
    exact gs_iret (pc := 16) (gd gk_139 8 rfl) rfl (rfl) (Nat.zero_le _) (Nat.zero_le _) (⟨I, 0, -99, rfl, gm_qf_rf I, gq_bc_0 rfl (fun _ => rfl) 10, rfl⟩)
abbrev gm_hv (I : Nat → Nat → Int32) (N h0 L bc : Nat) : Nat → Int32 := gq_hv (gz_M I) N h0 L bc (I 133 10) (I 133)
def gq_oi (hv : Nat → Int32) (told : Int32) (h0 L k : Nat) (x : Int32) : Prop := (∃ p, x = Int32.ofNat p ∧ p < k ∧ gz_su p h0 L ∧ hv p = told ∧ ∀ q, q < k → gz_su q h0 L → hv q = told → gq_le p q) ∨ (x = -99 ∧ ∀ q, q < k → gz_su q h0 L → hv q ≠ told)
theorem gq_oi_k {hv : Nat → Int32} {told : Int32} {h0 L k : Nat} {x : Int32} (h : gq_oi hv told h0 L k x) (h1 : ∀ p, x = Int32.ofNat p → p < k → gz_su k h0 L → hv k = told → gq_le p k) (h2 : x = -99 → gz_su k h0 L → hv k ≠ told) : gq_oi hv told h0 L (k + 1) x := by
  rcases h with ⟨p, a1, a2, a3, a4, a5⟩ | ⟨a1, a2⟩
  · refine .inl ⟨p, a1, by omega, a3, a4, fun q hq hs hh => ?_⟩
    by_cases e : q = k
    · subst e; exact h1 p a1 a2 hs hh
    · exact a5 q (by omega) hs hh
  · refine .inr ⟨a1, fun q hq hs => ?_⟩
    by_cases e : q = k
    · subst e; exact h2 a1 hs
    · exact a2 q (by omega) hs
theorem gq_oi_n {hv : Nat → Int32} {told : Int32} {h0 L k : Nat} {x : Int32} (h : gq_oi hv told h0 L k x) (h1 : ∀ p, x = Int32.ofNat p → p < k → gq_le k p) (h2 : gz_su k h0 L) (h3 : hv k = told) : gq_oi hv told h0 L (k + 1) (Int32.ofNat k) := by
  refine .inl ⟨k, rfl, by omega, h2, h3, fun q hq hs hh => ?_⟩
  by_cases e : q = k
  · subst e; exact .inr ⟨rfl, Nat.le_refl _⟩
  · rcases h with ⟨p, a1, a2, a3, a4, a5⟩ | ⟨a1, a2⟩
    · exact gq_le_tr (h1 p a1 a2) (a5 q (by omega) hs hh)
    · exact absurd hh (a2 q (by omega) hs)
theorem gz_n99 : ∀ p, p < 256 → Int32.ofNat p ≠ -99 := by decide +kernel
abbrev mq_only (n : Nat) (I : Nat → Nat → Int32) (J : Nat → Nat → Int64) (N h0 L bc : Nat) (told : Int32) : Option Value → gw_W → Prop := fun v w' => ∃ I2 x, w' = gS n I2 J ∧ gm_qf I I2 ∧ gq_oa (gm_hv I N h0 L bc) told N h0 L x ∧ v = some (.int x)
theorem m_only (told : Int32) (hn : gm_now I W N h0 L bc) : gw_E V 146 (0, [(0, .ref 126), (1, .int told)], [], gS n I J, 0, 0) (mq_only n I J N h0 L bc told) := by
  obtain ⟨hok, hh, hW, hbc, hb9⟩ := id hn
  have hW8 : W ≤ 8 := hok.2.1
  have hN : I 126 4 = Int32.ofNat N := hok.2.2.1
  have hN6 : N ≤ 6 := hok.2.2.2.1
  generalize hval : gm_hv I N h0 L bc = hv
  have hpw : 2 ^ W ≤ 256 := Nat.le_trans (Nat.pow_le_pow_right (by omega) hW8) (by decide)
  have lp : gz_rg told 0 (Int32.ofNat (2 ^ N) - 1) = true → ∀ (m k : Nat), m + k = 2 ^ W → ∀ I1 x, gm_qf I I1 → (∀ h, h < 8 → I1 128 h = I 127 h) → gq_oi hv told h0 L k x → gw_E V 146 (30, [(0, .ref 126), (1, .int told), (2, .int x), (3, .int (Int32.ofNat k))], [], gS n I1 J, 0, 0) (mq_only n I J N h0 L bc told) := by
    intro hrg m
    induction m with
    | zero =>
      intro k hk I1 x h1 h2 h3
      obtain rfl : k = 2 ^ W := by omega
      have hW31 : I1 126 3 = Int32.ofNat W := (gm_qf_now h1 hn).1.1
      refine gs_iload_n (pc := 30) (gd gk_146 20 rfl) rfl ?_
      refine gs_iconst (pc := 31) (gd gk_146 21 rfl) (1) rfl ?_
      refine gs_aload_n (pc := 32) (gd gk_146 22 rfl) rfl ?_
      refine gs_getI (pc := 33) (gd gk_146 23 rfl) rfl rfl ?_
      refine gs_as (Int32.ofNat W) (hW31) ?_
      refine gs_ishl (pc := 36) (gd gk_146 24 rfl) ?_
      refine gs_icmp_ge (pc := 37) (gd gk_146 25 rfl) (fun c37 => ?_) (fun c37 => ?_)
      · refine gs_iload_n (pc := 96) (gd gk_146 56 rfl) rfl ?_
        -- end 1: ireturn x, pc 97, locals [(0, .ref (126)), (1, .int (told)), (2, .int (x)), (3, .int (Int32.ofNat (2 ^ W)))]
        exact gs_iret (pc := 97) (gd gk_146 57 rfl) rfl (rfl) (Nat.zero_le _) (Nat.zero_le _) (⟨I1, x, rfl, h1, by
          unfold gq_oa
          rw [if_pos hrg, hval]
          rcases h3 with ⟨p, a1, a2, a3, a4, a5⟩ | ⟨a1, a2⟩
          · exact .inl ⟨p, a1, a3, a4, fun q hq hh => a5 q (by rw [← hW]; exact hq.2) hq hh⟩
          · exact .inr ⟨a1, fun q hq => a2 q (by rw [← hW]; exact hq.2) hq⟩, rfl⟩)
      · -- end 2: stop, pc 40, locals [(0, .ref (126)), (1, .int (told)), (2, .int (x)), (3, .int (Int32.ofNat (2 ^ W)))]
        exact absurd (by rw [gz_shl W (by omega)]; exact Int32.le_refl _) c37
    | succ m ih =>
      intro k hk I1 x h1 h2 h3
      have hn1 := gm_qf_now h1 hn
      have hW31 : I1 126 3 = Int32.ofNat W := hn1.1.1
      have hsu : Int32.ofNat k &&& (gz_lf W h0 ^^^ -1) = 0 ↔ gz_su k h0 L := by rw [← hW]; exact gz_lf_su (by omega) (by rw [hW]; omega)
      have r128 : ∀ {I2}, gm_rf I1 I2 → ∀ h, h < 8 → I2 128 h = I 127 h := fun r h hh => by rw [r.1 128 (by omega) (by omega) (by omega)]; exact h2 h hh
      have rk : hv k = gq_hd (gz_M I) (gq_w0 (gz_M I) h0) (gq_p0 (Int32.ofNat k) h0) bc (I 133 10) (I 133) N L := by rw [← hval]
      have on65 : ∀ p, x = Int32.ofNat p → p < k → gz_on x 8 = Int32.ofNat (gz_pc p) ∧ gz_on (Int32.ofNat k) 8 = Int32.ofNat (gz_pc k) := fun p e1 e2 => ⟨by rw [e1]; exact gz_on_pc p (by omega), gz_on_pc k (by omega)⟩
      refine gs_iload_n (pc := 30) (gd gk_146 20 rfl) rfl ?_
      refine gs_iconst (pc := 31) (gd gk_146 21 rfl) (1) rfl ?_
      refine gs_aload_n (pc := 32) (gd gk_146 22 rfl) rfl ?_
      refine gs_getI (pc := 33) (gd gk_146 23 rfl) rfl rfl ?_
      refine gs_as (Int32.ofNat W) (hW31) ?_
      refine gs_ishl (pc := 36) (gd gk_146 24 rfl) ?_
      refine gs_icmp_ge (pc := 37) (gd gk_146 25 rfl) (fun c37 => ?_) (fun c37 => ?_)
      · refine gs_iload_n (pc := 96) (gd gk_146 56 rfl) rfl ?_
        -- end 1: ireturn x, pc 97, locals [(0, .ref (126)), (1, .int (told)), (2, .int (x)), (3, .int (Int32.ofNat k))]
        rw [gz_shl W (by omega)] at c37
        exact absurd ((zle (by omega) (by omega)).mp c37) (by omega)
      · refine gs_iload_n (pc := 40) (gd gk_146 26 rfl) rfl ?_
        refine gs_aload_n (pc := 41) (gd gk_146 27 rfl) rfl ?_
        refine gs_callV (as := []) (pc := 42) (gd gk_146 28 rfl) (by decide) rfl (by decide) rfl rfl (Nat.le_of_ble_eq_true rfl) gq_146_135 (Nat.le_of_ble_eq_true rfl) (m_left hn1) (fun r_42 w_42 q_42 => ?_)
        obtain ⟨rfl, rfl⟩ := q_42
        refine gs_iconst (pc := 45) (gd gk_146 29 rfl) (-1) rfl ?_
        refine gs_ixor (pc := 46) (gd gk_146 30 rfl) ?_
        refine gs_iand (pc := 47) (gd gk_146 31 rfl) ?_
        refine gs_if_ne (pc := 48) (gd gk_146 32 rfl) (fun c48 => ?_) (fun c48 => ?_)
        · refine gs_iinc (ls2 := fun v => [(0, .ref (126)), (1, .int (told)), (2, .int (x)), (3, .int (v))]) (pc := 90) (gd gk_146 54 rfl) rfl (by rw [gL_146]; decide) (fun _ => rfl) (1) rfl (fun v3_1 hv3_1 => ?_)
          obtain rfl : v3_1 = Int32.ofNat (k + 1) := hv3_1.trans (by first | rfl | (simp only [Int32.ofNat_add, Int32.ofNat_mul]; rfl) | (simp only [Int32.ofNat_add, Int32.ofNat_mul]))
          refine gs_goto (pc := 93) (gd gk_146 55 rfl) ?_
          -- end 2: stop, pc 30, locals [(0, .ref (126)), (1, .int (told)), (2, .int (x)), (3, .int (Int32.ofNat (k + 1)))]
          exact ih (k + 1) (by omega) I1 x h1 h2 (gq_oi_k h3 (fun _ _ _ hs => absurd (hsu.mpr hs) c48) (fun _ hs => absurd (hsu.mpr hs) c48))
        · refine gs_iload_n (pc := 51) (gd gk_146 33 rfl) rfl ?_
          refine gs_bipush (pc := 52) (gd gk_146 34 rfl) (-99) rfl ?_
          refine gs_icmp_eq (pc := 54) (gd gk_146 35 rfl) (fun c54 => ?_) (fun c54 => ?_)
          · refine gs_aload_n (pc := 68) (gd gk_146 41 rfl) rfl ?_
            refine gs_iload_n (pc := 69) (gd gk_146 42 rfl) rfl ?_
            refine gs_bipush (pc := 70) (gd gk_146 43 rfl) (63) rfl ?_
            refine gs_callV (as := [.int (Int32.ofNat k), .int (63)]) (pc := 72) (gd gk_146 44 rfl) (by decide) rfl (by decide) rfl rfl (Nat.le_of_ble_eq_true rfl) gq_146_134 (Nat.le_of_ble_eq_true rfl) (m_run0 (I0 := I) (Int32.ofNat k) 63 h1 hn h2) (fun r_72 w_72 q_72 => ?_)
            obtain ⟨I_r, rfl, rfl, r1, r2⟩ := q_72
            refine gs_pop (pc := 75) (gd gk_146 45 rfl) rfl ?_
            refine gs_aload_n (pc := 76) (gd gk_146 46 rfl) rfl ?_
            refine gs_getI (pc := 77) (gd gk_146 47 rfl) rfl rfl ?_
            refine gs_iload_n (pc := 80) (gd gk_146 48 rfl) rfl ?_
            refine gs_icmp_ne (pc := 81) (gd gk_146 49 rfl) (fun c81 => ?_) (fun c81 => ?_)
            · refine gs_iload_n (pc := 88) (gd gk_146 52 rfl) rfl ?_
              refine gs_istore_n (ls2 := fun v => [(0, .ref (126)), (1, .int (told)), (2, .int (v)), (3, .int (Int32.ofNat k))]) (pc := 89) (gd gk_146 53 rfl) (by rw [gL_146]; decide) (fun _ => rfl) (fun v2_1 hv2_1 => ?_)
              refine gs_iinc (ls2 := fun v => [(0, .ref (126)), (1, .int (told)), (2, .int (v2_1)), (3, .int (v))]) (pc := 90) (gd gk_146 54 rfl) rfl (by rw [gL_146]; decide) (fun _ => rfl) (1) rfl (fun v3_2 hv3_2 => ?_)
              obtain rfl : v3_2 = Int32.ofNat (k + 1) := hv3_2.trans (by first | rfl | (simp only [Int32.ofNat_add, Int32.ofNat_mul]; rfl) | (simp only [Int32.ofNat_add, Int32.ofNat_mul]))
              refine gs_goto (pc := 93) (gd gk_146 55 rfl) ?_
              -- end 3: stop, pc 30, locals [(0, .ref (126)), (1, .int (told)), (2, .int (v2_1)), (3, .int (Int32.ofNat (k + 1)))]
              obtain rfl := hv2_1
              refine ih (k + 1) (by omega) I_r _ (gm_qf_tr h1 (gm_rf_q r2)) (r128 r2) (gq_oi_k h3 (fun p e1 e2 _ _ => absurd (e1.symm.trans c54) (gz_n99 p (by omega))) (fun _ _ => ?_))
              rw [r1, ← rk] at c81; exact c81
            · refine gs_iload_n (pc := 84) (gd gk_146 50 rfl) rfl ?_
              refine gs_goto (pc := 85) (gd gk_146 51 rfl) ?_
              refine gs_istore_n (ls2 := fun v => [(0, .ref (126)), (1, .int (told)), (2, .int (v)), (3, .int (Int32.ofNat k))]) (pc := 89) (gd gk_146 53 rfl) (by rw [gL_146]; decide) (fun _ => rfl) (fun v2_2 hv2_2 => ?_)
              obtain rfl : v2_2 = Int32.ofNat k := hv2_2.trans (by first | rfl | (simp only [Int32.ofNat_add, Int32.ofNat_mul]; rfl) | (simp only [Int32.ofNat_add, Int32.ofNat_mul]))
              refine gs_iinc (ls2 := fun v => [(0, .ref (126)), (1, .int (told)), (2, .int (Int32.ofNat k)), (3, .int (v))]) (pc := 90) (gd gk_146 54 rfl) rfl (by rw [gL_146]; decide) (fun _ => rfl) (1) rfl (fun v3_3 hv3_3 => ?_)
              obtain rfl : v3_3 = Int32.ofNat (k + 1) := hv3_3.trans (by first | rfl | (simp only [Int32.ofNat_add, Int32.ofNat_mul]; rfl) | (simp only [Int32.ofNat_add, Int32.ofNat_mul]))
              refine gs_goto (pc := 93) (gd gk_146 55 rfl) ?_
              -- end 4: stop, pc 30, locals [(0, .ref (126)), (1, .int (told)), (2, .int (Int32.ofNat k)), (3, .int (Int32.ofNat (k + 1)))]
              refine ih (k + 1) (by omega) I_r _ (gm_qf_tr h1 (gm_rf_q r2)) (r128 r2) (gq_oi_n h3 (fun p e1 e2 => absurd (e1.symm.trans c54) (gz_n99 p (by omega))) (hsu.mp c48) ?_)
              rw [r1, ← rk] at c81; exact c81
          · refine gs_iload_n (pc := 57) (gd gk_146 36 rfl) rfl ?_
            refine gs_callS (as := [.int (Int32.ofNat k)]) (pc := 58) (gd gk_146 37 rfl) (by decide) rfl rfl (Nat.le_of_ble_eq_true rfl) gq_146_109 (Nat.le_of_ble_eq_true rfl) (c_ones (Int32.ofNat k)) (fun r_58 w_58 q_58 => ?_)
            obtain ⟨rfl, rfl⟩ := q_58
            refine gs_iload_n (pc := 61) (gd gk_146 38 rfl) rfl ?_
            refine gs_callS (as := [.int (x)]) (pc := 62) (gd gk_146 39 rfl) (by decide) rfl rfl (Nat.le_of_ble_eq_true rfl) gq_146_109 (Nat.le_of_ble_eq_true rfl) (c_ones (x)) (fun r_62 w_62 q_62 => ?_)
            obtain ⟨rfl, rfl⟩ := q_62
            refine gs_icmp_ge (pc := 65) (gd gk_146 40 rfl) (fun c65 => ?_) (fun c65 => ?_)
            · refine gs_iinc (ls2 := fun v => [(0, .ref (126)), (1, .int (told)), (2, .int (x)), (3, .int (v))]) (pc := 90) (gd gk_146 54 rfl) rfl (by rw [gL_146]; decide) (fun _ => rfl) (1) rfl (fun v3_4 hv3_4 => ?_)
              obtain rfl : v3_4 = Int32.ofNat (k + 1) := hv3_4.trans (by first | rfl | (simp only [Int32.ofNat_add, Int32.ofNat_mul]; rfl) | (simp only [Int32.ofNat_add, Int32.ofNat_mul]))
              refine gs_goto (pc := 93) (gd gk_146 55 rfl) ?_
              -- end 5: stop, pc 30, locals [(0, .ref (126)), (1, .int (told)), (2, .int (x)), (3, .int (Int32.ofNat (k + 1)))]
              refine ih (k + 1) (by omega) I1 x h1 h2 (gq_oi_k h3 (fun p e1 e2 _ _ => ?_) (fun e => absurd e c54))
              have := on65 p e1 e2
              rw [this.1, this.2] at c65
              have c65 := (zle (by have := gz_pc_le p; omega) (by have := gz_pc_le k; omega)).mp c65
              unfold gq_le; omega
            · refine gs_aload_n (pc := 68) (gd gk_146 41 rfl) rfl ?_
              refine gs_iload_n (pc := 69) (gd gk_146 42 rfl) rfl ?_
              refine gs_bipush (pc := 70) (gd gk_146 43 rfl) (63) rfl ?_
              refine gs_callV (as := [.int (Int32.ofNat k), .int (63)]) (pc := 72) (gd gk_146 44 rfl) (by decide) rfl (by decide) rfl rfl (Nat.le_of_ble_eq_true rfl) gq_146_134 (Nat.le_of_ble_eq_true rfl) (m_run0 (I0 := I) (Int32.ofNat k) 63 h1 hn h2) (fun r_72 w_72 q_72 => ?_)
              obtain ⟨I_r, rfl, rfl, r1, r2⟩ := q_72
              refine gs_pop (pc := 75) (gd gk_146 45 rfl) rfl ?_
              refine gs_aload_n (pc := 76) (gd gk_146 46 rfl) rfl ?_
              refine gs_getI (pc := 77) (gd gk_146 47 rfl) rfl rfl ?_
              refine gs_iload_n (pc := 80) (gd gk_146 48 rfl) rfl ?_
              refine gs_icmp_ne (pc := 81) (gd gk_146 49 rfl) (fun c81 => ?_) (fun c81 => ?_)
              · refine gs_iload_n (pc := 88) (gd gk_146 52 rfl) rfl ?_
                refine gs_istore_n (ls2 := fun v => [(0, .ref (126)), (1, .int (told)), (2, .int (v)), (3, .int (Int32.ofNat k))]) (pc := 89) (gd gk_146 53 rfl) (by rw [gL_146]; decide) (fun _ => rfl) (fun v2_3 hv2_3 => ?_)
                refine gs_iinc (ls2 := fun v => [(0, .ref (126)), (1, .int (told)), (2, .int (v2_3)), (3, .int (v))]) (pc := 90) (gd gk_146 54 rfl) rfl (by rw [gL_146]; decide) (fun _ => rfl) (1) rfl (fun v3_5 hv3_5 => ?_)
                obtain rfl : v3_5 = Int32.ofNat (k + 1) := hv3_5.trans (by first | rfl | (simp only [Int32.ofNat_add, Int32.ofNat_mul]; rfl) | (simp only [Int32.ofNat_add, Int32.ofNat_mul]))
                refine gs_goto (pc := 93) (gd gk_146 55 rfl) ?_
                -- end 6: stop, pc 30, locals [(0, .ref (126)), (1, .int (told)), (2, .int (v2_3)), (3, .int (Int32.ofNat (k + 1)))]
                obtain rfl := hv2_3
                refine ih (k + 1) (by omega) I_r _ (gm_qf_tr h1 (gm_rf_q r2)) (r128 r2) (gq_oi_k h3 (fun p e1 e2 hs hh => ?_) (fun e => absurd e c54))
                rw [r1, ← rk] at c81; exact absurd hh c81
              · refine gs_iload_n (pc := 84) (gd gk_146 50 rfl) rfl ?_
                refine gs_goto (pc := 85) (gd gk_146 51 rfl) ?_
                refine gs_istore_n (ls2 := fun v => [(0, .ref (126)), (1, .int (told)), (2, .int (v)), (3, .int (Int32.ofNat k))]) (pc := 89) (gd gk_146 53 rfl) (by rw [gL_146]; decide) (fun _ => rfl) (fun v2_4 hv2_4 => ?_)
                obtain rfl : v2_4 = Int32.ofNat k := hv2_4.trans (by first | rfl | (simp only [Int32.ofNat_add, Int32.ofNat_mul]; rfl) | (simp only [Int32.ofNat_add, Int32.ofNat_mul]))
                refine gs_iinc (ls2 := fun v => [(0, .ref (126)), (1, .int (told)), (2, .int (Int32.ofNat k)), (3, .int (v))]) (pc := 90) (gd gk_146 54 rfl) rfl (by rw [gL_146]; decide) (fun _ => rfl) (1) rfl (fun v3_6 hv3_6 => ?_)
                obtain rfl : v3_6 = Int32.ofNat (k + 1) := hv3_6.trans (by first | rfl | (simp only [Int32.ofNat_add, Int32.ofNat_mul]; rfl) | (simp only [Int32.ofNat_add, Int32.ofNat_mul]))
                refine gs_goto (pc := 93) (gd gk_146 55 rfl) ?_
                -- end 7: stop, pc 30, locals [(0, .ref (126)), (1, .int (told)), (2, .int (Int32.ofNat k)), (3, .int (Int32.ofNat (k + 1)))]
                refine ih (k + 1) (by omega) I_r _ (gm_qf_tr h1 (gm_rf_q r2)) (r128 r2) (gq_oi_n h3 (fun p e1 e2 => ?_) (hsu.mp c48) ?_)
                · have := on65 p e1 e2
                  rw [this.1, this.2] at c65
                  have c65 : ¬ gz_pc p ≤ gz_pc k := fun e => c65 ((zle (by have := gz_pc_le p; omega) (by have := gz_pc_le k; omega)).mpr e)
                  unfold gq_le; omega
                · rw [r1, ← rk] at c81; exact c81
  refine gs_iload_n (pc := 0) (gd gk_146 0 rfl) rfl ?_
  refine gs_i2l (pc := 1) (gd gk_146 1 rfl) ?_
  refine gs_lconst (pc := 2) (gd gk_146 2 rfl) (0) rfl ?_
  refine gs_iconst (pc := 3) (gd gk_146 3 rfl) (1) rfl ?_
  refine gs_aload_n (pc := 4) (gd gk_146 4 rfl) rfl ?_
  refine gs_getI (pc := 5) (gd gk_146 5 rfl) rfl rfl ?_
  refine gs_as (Int32.ofNat N) (hN) ?_
  refine gs_ishl (pc := 8) (gd gk_146 6 rfl) ?_
  refine gs_iconst (pc := 9) (gd gk_146 7 rfl) (1) rfl ?_
  refine gs_isub (pc := 10) (gd gk_146 8 rfl) ?_
  refine gs_i2l (pc := 11) (gd gk_146 9 rfl) ?_
  refine gs_callS (as := [.long ((told : Int32).toInt64), .long (0), .long ((((1 <<< (Int32.ofNat N &&& 31)) - 1) : Int32).toInt64)]) (pc := 12) (gd gk_146 10 rfl) (by decide) rfl rfl (Nat.le_of_ble_eq_true rfl) gq_146_107 (Nat.le_of_ble_eq_true rfl) (c_mrg (told) (0) (((1 <<< (Int32.ofNat N &&& 31)) - 1))) (fun r_12 w_12 q_12 => ?_)
  obtain ⟨rfl, rfl⟩ := q_12
  refine gs_if_ne (pc := 15) (gd gk_146 11 rfl) (fun c15 => ?_) (fun c15 => ?_)
  · refine gs_aload_n (pc := 21) (gd gk_146 14 rfl) rfl ?_
    refine gs_callV (as := []) (pc := 22) (gd gk_146 15 rfl) (by decide) rfl (by decide) rfl rfl (Nat.le_of_ble_eq_true rfl) gq_146_128 (Nat.le_of_ble_eq_true rfl) (m_winds) (fun r_22 w_22 q_22 => ?_)
    obtain ⟨rfl, I_w, rfl, w1, w2⟩ := q_22
    refine gs_bipush (pc := 25) (gd gk_146 16 rfl) (-99) rfl ?_
    refine gs_istore_n (ls2 := fun v => [(0, .ref (126)), (1, .int (told)), (2, .int (v))]) (pc := 27) (gd gk_146 17 rfl) (by rw [gL_146]; decide) (fun _ => rfl) (fun v2_1 hv2_1 => ?_)
    refine gs_iconst (pc := 28) (gd gk_146 18 rfl) (0) rfl ?_
    refine gs_istore_n (ls2 := fun v => [(0, .ref (126)), (1, .int (told)), (2, .int (v2_1)), (3, .int (v))]) (pc := 29) (gd gk_146 19 rfl) (by rw [gL_146]; decide) (fun _ => rfl) (fun v3_1 hv3_1 => ?_)
    obtain rfl : v3_1 = Int32.ofNat 0 := hv3_1.trans (by first | rfl | (simp only [Int32.ofNat_add, Int32.ofNat_mul]; rfl) | (simp only [Int32.ofNat_add, Int32.ofNat_mul]))
    -- end 1: stop, pc 30, locals [(0, .ref (126)), (1, .int (told)), (2, .int (v2_1)), (3, .int (Int32.ofNat 0))]
    obtain rfl := hv2_1
    exact lp (by rw [← gz_shl6 N (by omega)]; exact gz_b_ne.mp c15) (2 ^ W) 0 (by omega) I_w _ (gm_qf_128 w2) w1 (.inr ⟨rfl, fun q hq => absurd hq (Nat.not_lt_zero _)⟩)
  · refine gs_bipush (pc := 18) (gd gk_146 12 rfl) (-2) rfl ?_
    -- end 2: ireturn (-2), pc 20, locals [(0, .ref (126)), (1, .int (told))]
    exact gs_iret (pc := 20) (gd gk_146 13 rfl) rfl (rfl) (Nat.zero_le _) (Nat.zero_le _) (⟨I, -2, rfl, gm_qf_rf I, by
      unfold gq_oa
      rw [if_neg (by rw [← gz_shl6 N (by omega), gz_b_eq.mp c15]; decide)], rfl⟩)
end
