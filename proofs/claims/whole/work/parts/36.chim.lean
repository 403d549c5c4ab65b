/-! ===== the class: bestChimney ===== -/
section
variable {V : gw_V} {n W N h0 L bc : Nat} {I : Nat → Nat → Int32} {J : Nat → Nat → Int64}
theorem c_start_sup2 (bc h0 L : Nat) (hn : gq_now I W N h0 L bc) (h14 : I 14 3 = Int32.ofNat h0) : gw_E V 50 (0, [(0, .ref 57), (1, .ref 14), (2, .int (Int32.ofNat bc))], [], gS n I J, 0, 0)
    (fun v w' => v = none ∧ ∃ I2, w' = gS n I2 J ∧ gq_sf I I2 ∧ gq_on I2 W N h0 L bc ∧ I2 57 6 = I 14 1 ∧ ∀ c, c < 10 → I2 59 c = I 15 c) := by
  obtain ⟨hok, hh, hW, hbc, hb9, h78, h79, h69⟩ := hn
  exact c_start_sup bc h0 L hok h14 hW hb9 h78 h79 h69
abbrev cq_bch (n : Nat) (I : Nat → Nat → Int32) (J : Nat → Nat → Int64) (N h0 L bc : Nat) : Option Value → gw_W → Prop := fun v w' => ∃ I2 x f, w' = gS n I2 J ∧ gq_qf I I2 ∧ gq_bc (gq_val (gz_S I) N h0 L bc (I 12 1) (I 13) (fun _ => true)) (fun c => gq_val (gz_S I) N h0 L bc (gq_tc (I 12 1) c) (I 13) (fun _ => true)) h0 L 10 x f ∧ v = some (.int f)
theorem c_bestChimney (hn : gq_now I W N h0 L bc) : gw_E V 77 (0, [(0, .ref 3)], [], gS n I J, 0, 0) (cq_bch n I J N h0 L bc) := by
  generalize hval : gq_val (gz_S I) N h0 L bc (I 12 1) (I 13) (fun _ => true) = val
  generalize hvalc : (fun c => gq_val (gz_S I) N h0 L bc (gq_tc (I 12 1) c) (I 13) (fun _ => true)) = valc
  have lp : ∀ (m k : Nat), m + k = 10 → ∀ I1 x f, gq_qf I I1 → gq_bc val valc h0 L k x f → gw_E V 77 (11, [(0, .ref 3), (1, .int x), (2, .int f), (3, .int (Int32.ofNat k))], [], gS n I1 J, 0, 0) (cq_bch n I J N h0 L bc) := by
    intro m
    induction m with
    | zero =>
      intro k hk I1 x f h1 h2
      obtain rfl : k = 10 := by omega
      refine gs_iload_n (pc := 11) (gd gk_77 8 rfl) rfl ?_
      refine gs_bipush (pc := 12) (gd gk_77 9 rfl) (10) rfl ?_
      refine gs_icmp_ge (pc := 14) (gd gk_77 10 rfl) (fun c14 => ?_) (fun c14 => ?_)
      · replace c14 : 10 ≤ 10 := (zle (k := 10) (m := 10) (by omega) (by omega)).mp c14
        refine gs_iload_n (pc := 95) (gd gk_77 49 rfl) rfl ?_
        -- end 1: ireturn f, pc 96, locals [(0, .ref (3)), (1, .int (x)), (2, .int (f)), (3, .int (Int32.ofNat 10))]
        exact gs_iret (pc := 96) (gd gk_77 50 rfl) rfl (rfl) (Nat.zero_le _) (Nat.zero_le _) (⟨I1, x, f, rfl, h1, by rw [hval, hvalc]; exact h2, rfl⟩)
      · replace c14 : ¬ (10 ≤ 10) := fun q9 => c14 ((zle (k := 10) (m := 10) (by omega) (by omega)).mpr q9)
        -- end 2: stop, pc 17, locals [(0, .ref (3)), (1, .int (x)), (2, .int (f)), (3, .int (Int32.ofNat 10))]
        exact absurd (by decide) c14
    | succ m ih =>
      intro k hk I1 x f h1 h2
      have hn1 := gq_now_qf h1 hn
      have hbc1 : I1 6 0 = Int32.ofNat bc := hn1.2.2.2.1
      have hh1 : I1 12 3 = Int32.ofNat h0 := hn1.2.1
      refine gs_iload_n (pc := 11) (gd gk_77 8 rfl) rfl ?_
      refine gs_bipush (pc := 12) (gd gk_77 9 rfl) (10) rfl ?_
      refine gs_icmp_ge (pc := 14) (gd gk_77 10 rfl) (fun c14 => ?_) (fun c14 => ?_)
      · replace c14 : 10 ≤ k := (zle (k := 10) (m := k) (by omega) (by omega)).mp c14
        refine gs_iload_n (pc := 95) (gd gk_77 49 rfl) rfl ?_
        -- end 1: ireturn f, pc 96, locals [(0, .ref (3)), (1, .int (x)), (2, .int (f)), (3, .int (Int32.ofNat k))]
        exact absurd c14 (by omega)
      · replace c14 : ¬ (10 ≤ k) := fun q9 => c14 ((zle (k := 10) (m := k) (by omega) (by omega)).mpr q9)
        refine gs_aload_n (pc := 17) (gd gk_77 11 rfl) rfl ?_
        refine gs_getR (r := 14) (pc := 18) (gd gk_77 12 rfl) rfl rfl rfl (by decide) ?_
        refine gs_aload_n (pc := 21) (gd gk_77 13 rfl) rfl ?_
        refine gs_getR (r := 12) (pc := 22) (gd gk_77 14 rfl) rfl rfl rfl (by decide) ?_
        refine gs_callV (as := [.ref (12)]) (pc := 25) (gd gk_77 15 rfl) (by decide) rfl (by decide) rfl rfl (Nat.le_of_ble_eq_true rfl) gq_77_15 (Nat.le_of_ble_eq_true rfl) (c_copy 14 12 gz_mo_14 gz_mo_12 (by omega) (by omega) (by omega)) (fun r_25 w_25 q_25 => ?_)
        obtain ⟨rfl, I_c, rfl, d2, d3, d4, d5, d6⟩ := q_25
        refine gs_aload_n (pc := 28) (gd gk_77 16 rfl) rfl ?_
        refine gs_getR (r := 14) (pc := 29) (gd gk_77 17 rfl) rfl rfl rfl (by decide) ?_
        refine gs_dup (pc := 32) (gd gk_77 18 rfl) rfl ?_
        refine gs_getI (pc := 33) (gd gk_77 19 rfl) rfl rfl ?_
        refine gs_iconst (pc := 36) (gd gk_77 20 rfl) (1) rfl ?_
        refine gs_iload_n (pc := 37) (gd gk_77 21 rfl) rfl ?_
        refine gs_ishl (pc := 38) (gd gk_77 22 rfl) ?_
        refine gs_ixor (pc := 39) (gd gk_77 23 rfl) ?_
        refine gs_putI (pc := 40) (gd gk_77 24 rfl) rfl rfl rfl rfl (fun I_1 hI_1 => ?_)
        have ho : ∀ p, p ≠ 14 → p ≠ 15 → I_1 p = I1 p := fun p q1 q2 => by rw [hI_1, gw_u_o q1, d6 p q1 q2]
        have hq1 : gq_qf I1 I_1 := ⟨fun p _ a b => ho p a b, by rw [ho 78 (by omega) (by omega)], by rw [ho 79 (by omega) (by omega)], ho 69 (by omega) (by omega)⟩
        have hn2 := gq_now_qf hq1 hn1
        have h6 : I_1 6 0 = Int32.ofNat bc := hn2.2.2.2.1
        have h14 : I_1 14 3 = Int32.ofNat h0 := by rw [hI_1, gw_u_s]; simp [upd]; rw [d5]; exact hh1
        have h141 : I_1 14 1 = gq_tc (I 12 1) k := by rw [hI_1, gw_u_s]; simp [upd]; rw [d3, h1.1 12 (by omega) (by omega) (by omega)]
        have h15 : ∀ c, c < 10 → I_1 15 c = I 13 c := fun c hc => by rw [hI_1, gw_u_o (by omega), d2 c hc, h1.1 13 (by omega) (by omega) (by omega)]
        refine gs_aload_n (pc := 43) (gd gk_77 25 rfl) rfl ?_
        refine gs_getR (r := 57) (pc := 44) (gd gk_77 26 rfl) rfl rfl rfl (by decide) ?_
        refine gs_aload_n (pc := 47) (gd gk_77 27 rfl) rfl ?_
        refine gs_getR (r := 14) (pc := 48) (gd gk_77 28 rfl) rfl rfl rfl (by decide) ?_
        refine gs_aload_n (pc := 51) (gd gk_77 29 rfl) rfl ?_
        refine gs_getR (r := 6) (pc := 52) (gd gk_77 30 rfl) rfl rfl rfl (by decide) ?_
        refine gs_getI (pc := 55) (gd gk_77 31 rfl) rfl rfl ?_
        refine gs_as (Int32.ofNat bc) (h6) ?_
        refine gs_callV (as := [.ref (14), .int (Int32.ofNat bc)]) (pc := 58) (gd gk_77 32 rfl) (by decide) rfl (by decide) rfl rfl (Nat.le_of_ble_eq_true rfl) gq_77_50 (Nat.le_of_ble_eq_true rfl) (c_start_sup2 bc h0 L hn2 h14) (fun r_58 w_58 q_58 => ?_)
        obtain ⟨rfl, I_s, rfl, s1, s2, s3, s4⟩ := q_58
        refine gs_aload_n (pc := 61) (gd gk_77 33 rfl) rfl ?_
        refine gs_getR (r := 81) (pc := 62) (gd gk_77 34 rfl) rfl rfl rfl (by decide) ?_
        refine gs_callV (as := []) (pc := 65) (gd gk_77 35 rfl) (by decide) rfl (by decide) rfl rfl (Nat.le_of_ble_eq_true rfl) gq_77_5 (Nat.le_of_ble_eq_true rfl) (c_findBest s2) (fun r_65 w_65 q_65 => ?_)
        obtain ⟨rfl, I_t, p, rfl, t1, t2, t3, t4⟩ := q_65
        have hS : gz_S I_s = gz_S I := by rw [gq_qf_S (gq_qf_s s1), gq_qf_S hq1, gq_qf_S h1]
        rw [hS, s3, h141, gq_val_c (fun c hc => (s4 c hc).trans (h15 c hc)) (gq_ok_n hn.1)] at t3 t4
        have hv : gq_bv (valc k) h0 L (I_t 81 2) := by rw [← hvalc]; exact ⟨p, t4, t3⟩
        have hqt := gq_qf_tr h1 (gq_qf_tr hq1 (gq_qf_tr (gq_qf_s s1) t1))
        refine gs_aload_n (pc := 68) (gd gk_77 36 rfl) rfl ?_
        refine gs_getR (r := 81) (pc := 69) (gd gk_77 37 rfl) rfl rfl rfl (by decide) ?_
        refine gs_getI (pc := 72) (gd gk_77 38 rfl) rfl rfl ?_
        refine gs_iload_n (pc := 75) (gd gk_77 39 rfl) rfl ?_
        refine gs_icmp_le (pc := 76) (gd gk_77 40 rfl) (fun c76 => ?_) (fun c76 => ?_)
        · refine gs_iinc (ls2 := fun v => [(0, .ref (3)), (1, .int (x)), (2, .int (f)), (3, .int (v))]) (pc := 89) (gd gk_77 47 rfl) rfl (by rw [gL_77]; decide) (fun _ => rfl) (1) rfl (fun v3_1 hv3_1 => ?_)
          obtain rfl : v3_1 = Int32.ofNat (k + 1) := hv3_1.trans (by first | rfl | (simp only [Int32.ofNat_add, Int32.ofNat_mul]; rfl) | (simp only [Int32.ofNat_add, Int32.ofNat_mul]))
          refine gs_goto (pc := 92) (gd gk_77 48 rfl) ?_
          -- end 2: stop, pc 11, locals [(0, .ref (3)), (1, .int (x)), (2, .int (f)), (3, .int (Int32.ofNat (k + 1)))]
          exact ih (k + 1) (by omega) I_t x f hqt ⟨x, f, _, h2, hv, by rw [if_neg (Int32.not_lt.mpr c76)], by rw [if_neg (Int32.not_lt.mpr c76)]⟩
        · refine gs_aload_n (pc := 79) (gd gk_77 41 rfl) rfl ?_
          refine gs_getR (r := 81) (pc := 80) (gd gk_77 42 rfl) rfl rfl rfl (by decide) ?_
          refine gs_getI (pc := 83) (gd gk_77 43 rfl) rfl rfl ?_
          refine gs_istore_n (ls2 := fun v => [(0, .ref (3)), (1, .int (v)), (2, .int (f)), (3, .int (Int32.ofNat k))]) (pc := 86) (gd gk_77 44 rfl) (by rw [gL_77]; decide) (fun _ => rfl) (fun v1_1 hv1_1 => ?_)
          refine gs_iload_n (pc := 87) (gd gk_77 45 rfl) rfl ?_
          refine gs_istore_n (ls2 := fun v => [(0, .ref (3)), (1, .int (v1_1)), (2, .int (v)), (3, .int (Int32.ofNat k))]) (pc := 88) (gd gk_77 46 rfl) (by rw [gL_77]; decide) (fun _ => rfl) (fun v2_1 hv2_1 => ?_)
          obtain rfl : v2_1 = Int32.ofNat k := hv2_1.trans (by first | rfl | (simp only [Int32.ofNat_add, Int32.ofNat_mul]; rfl) | (simp only [Int32.ofNat_add, Int32.ofNat_mul]))
          refine gs_iinc (ls2 := fun v => [(0, .ref (3)), (1, .int (v1_1)), (2, .int (Int32.ofNat k)), (3, .int (v))]) (pc := 89) (gd gk_77 47 rfl) rfl (by rw [gL_77]; decide) (fun _ => rfl) (1) rfl (fun v3_2 hv3_2 => ?_)
          obtain rfl : v3_2 = Int32.ofNat (k + 1) := hv3_2.trans (by first | rfl | (simp only [Int32.ofNat_add, Int32.ofNat_mul]; rfl) | (simp only [Int32.ofNat_add, Int32.ofNat_mul]))
          refine gs_goto (pc := 92) (gd gk_77 48 rfl) ?_
          -- end 3: stop, pc 11, locals [(0, .ref (3)), (1, .int (v1_1)), (2, .int (Int32.ofNat k)), (3, .int (Int32.ofNat (k + 1)))]
          exact ih (k + 1) (by omega) I_t _ _ hqt ⟨x, f, _, h2, hv, by rw [if_pos (Int32.not_le.mp c76)]; exact hv1_1, by rw [if_pos (Int32.not_le.mp c76)]⟩
  refine gs_aload_n (pc := 0) (gd gk_77 0 rfl) rfl ?_
  refine gs_iconst (pc := 1) (gd gk_77 1 rfl) (1) rfl ?_
  refine gs_callV (as := [.int (1)]) (pc := 2) (gd gk_77 2 rfl) (by decide) rfl (by decide) rfl rfl (Nat.le_of_ble_eq_true rfl) gq_77_76 (Nat.le_of_ble_eq_true rfl) (c_best true hn) (fun r_2 w_2 q_2 => ?_)
  obtain ⟨I_b, p, rfl, b1, b2, rfl⟩ := q_2
  refine gs_istore_n (ls2 := fun v => [(0, .ref (3)), (1, .int (v))]) (pc := 5) (gd gk_77 3 rfl) (by rw [gL_77]; decide) (fun _ => rfl) (fun v1_1 hv1_1 => ?_)
  refine gs_bipush (pc := 6) (gd gk_77 4 rfl) (-99) rfl ?_
  refine gs_istore_n (ls2 := fun v => [(0, .ref (3)), (1, .int (v1_1)), (2, .int (v))]) (pc := 8) (gd gk_77 5 rfl) (by rw [gL_77]; decide) (fun _ => rfl) (fun v2_1 hv2_1 => ?_)
  refine gs_iconst (pc := 9) (gd gk_77 6 rfl) (0) rfl ?_
  refine gs_istore_n (ls2 := fun v => [(0, .ref (3)), (1, .int (v1_1)), (2, .int (v2_1)), (3, .int (v))]) (pc := 10) (gd gk_77 7 rfl) (by rw [gL_77]; decide) (fun _ => rfl) (fun v3_1 hv3_1 => ?_)
  obtain rfl : v3_1 = Int32.ofNat 0 := hv3_1.trans (by first | rfl | (simp only [Int32.ofNat_add, Int32.ofNat_mul]; rfl) | (simp only [Int32.ofNat_add, Int32.ofNat_mul]))
  -- end 1: stop, pc 11, locals [(0, .ref (3)), (1, .int (v1_1)), (2, .int (v2_1)), (3, .int (Int32.ofNat 0))]
  refine lp 10 0 rfl I_b _ _ b1 ⟨⟨p, by rw [hval] at b2; exact b2, ?_⟩, ?_⟩
  · rw [hv1_1, hval]; rfl
  · exact hv2_1
end
