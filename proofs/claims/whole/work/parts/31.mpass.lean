/-! ===== the reference: an hour passes, a plan is run ===== -/
abbrev mq_pass (n : Nat) (I : Nat → Nat → Int32) (J : Nat → Nat → Int64) (N l h : Nat) (wd : Int32) (bk : Bool) (bc : Nat) (so : Int32) : Option Value → gw_W → Prop := fun v w' => ∃ I2, w' = gS n I2 J ∧ v = some (.int (gq_hc (gz_M I) (gq_st (gz_M I) wd bk bc (I 133 (13 * l + 10)) (gz_L I l)) bk (decide (wd = 1)) (fun m => gz_in so (Int32.ofNat m)) N))
    ∧ (∀ c, c < 10 → I2 133 (13 * l + c) = gq_st (gz_M I) wd bk bc (I 133 (13 * l + 10)) (gz_L I l) c) ∧ I2 133 (13 * l + 11) = I 133 (13 * l + 11) + gq_hc (gz_M I) (gq_st (gz_M I) wd bk bc (I 133 (13 * l + 10)) (gz_L I l)) bk (decide (wd = 1)) (fun m => gz_in so (Int32.ofNat m)) N ∧ I2 133 (13 * l + 12) = Int32.ofNat (h + 1)
    ∧ (∀ q, ¬ (13 * l ≤ q ∧ q < 13 * l + 10) → q ≠ 13 * l + 11 → q ≠ 13 * l + 12 → I2 133 q = I 133 q) ∧ ∀ p, p ≠ 133 → p ≠ 135 → I2 p = I p
theorem m_pass {V : gw_V} {n W N : Nat} {I : Nat → Nat → Int32} {J : Nat → Nat → Int64} (l h bc : Nat) (bk : Bool) (so wd : Int32) (hl : l < 3) (hok : gq_ok (gz_M I) W N) (hh : I 133 (13 * l + 12) = Int32.ofNat h) (hh8 : h < 8) (hb : I 128 h = wd) (hwd : wd = -1 ∨ wd = 0 ∨ wd = 1) (hbc : I 126 0 = Int32.ofNat bc) (hbc9 : bc < 10) : gw_E V 127 (0, [(0, .ref 126), (1, .int (Int32.ofNat l)), (2, .int (gz_b bk)), (3, .int so)], [], gS n I J, 0, 0) (mq_pass n I J N l h wd bk bc so) := by
  obtain ⟨-, -, hN, hN6, -, -, -, -, hns⟩ := id hok
  have hN : I 126 4 = Int32.ofNat N := hN
  have join43 : ∀ I1, (∀ c, c < 10 → I1 133 (13 * l + c) = gq_st (gz_M I) wd bk bc (I 133 (13 * l + 10)) (gz_L I l) c) → (∀ q, ¬ (13 * l ≤ q ∧ q < 13 * l + 10) → I1 133 q = I 133 q) → (∀ p, p ≠ 133 → p ≠ 135 → I1 p = I p) → gw_E V 127 (43, [(0, .ref 126), (1, .int (Int32.ofNat l)), (2, .int (gz_b bk)), (3, .int so), (4, .int (Int32.ofNat (13 * l))), (5, .int wd)], [], gS n I1 J, 0, 0) (mq_pass n I J N l h wd bk bc so) := by
    intro I1 h1 h2 h3
    have hM : gz_M I1 = gz_M I := gz_M_eq (fun k _ => by rw [h3 126 (by omega) (by omega)]) (h3 127 (by omega) (by omega)) (h3 129 (by omega) (by omega))
    have hns1 : ∀ m, m < N → 0 ≤ gz_M I 2 m ∧ gz_M I 2 m ≤ 9 := fun m hm => (hns m hm).1
    have hc1 : ∀ c, c < 10 → gz_L I1 l c = gq_st (gz_M I) wd bk bc (I 133 (13 * l + 10)) (gz_L I l) c := h1
    generalize hsm : gq_st (gz_M I) wd bk bc (I 133 (13 * l + 10)) (gz_L I l) = sm at *
    have hN1 : I1 126 4 = Int32.ofNat N := by rw [h3 126 (by omega) (by omega)]; exact hN
    have h129 : I1 129 = I 129 := h3 129 (by omega) (by omega)
    have lp : ∀ (m k : Nat), m + k = N → ∀ x, x = gq_hc (gz_M I) sm bk (decide (wd = 1)) (fun m => gz_in so (Int32.ofNat m)) k → gw_E V 127 (61, [(0, .ref 126), (1, .int (Int32.ofNat l)), (2, .int (gz_b bk)), (3, .int so), (4, .int (Int32.ofNat (13 * l))), (5, .int wd), (6, .int x), (7, .int (Int32.ofNat k))], [], gS n I1 J, 0, 0) (mq_pass n I J N l h wd bk bc so) := by
      intro m
      induction m with
      | zero =>
        intro k hk x hx
        obtain rfl : k = N := by omega
        have e12 : I1 133 (13 * l + 12) = Int32.ofNat h := by rw [h2 _ (by omega)]; exact hh
        refine gs_iload (pc := 61) (gd gk_127 34 rfl) rfl ?_
        refine gs_aload_n (pc := 63) (gd gk_127 35 rfl) rfl ?_
        refine gs_getI (pc := 64) (gd gk_127 36 rfl) rfl rfl ?_
        refine gs_as (Int32.ofNat k) (hN1) ?_
        refine gs_icmp_ge (pc := 67) (gd gk_127 37 rfl) (fun c67 => ?_) (fun c67 => ?_)
        · replace c67 : k ≤ k := (zle (k := k) (m := k) (by omega) (by omega)).mp c67
          refine gs_aload_n (pc := 109) (gd gk_127 57 rfl) rfl ?_
          refine gs_getR (r := 133) (pc := 110) (gd gk_127 58 rfl) rfl rfl rfl (by decide) ?_
          refine gs_iload (pc := 113) (gd gk_127 59 rfl) rfl ?_
          refine gs_bipush (pc := 115) (gd gk_127 60 rfl) (12) rfl ?_
          refine gs_iadd (pc := 117) (gd gk_127 61 rfl) ?_
          refine gs_dup2 (pc := 118) (gd gk_127 62 rfl) rfl rfl ?_
          refine gs_ialoadK (((13 * l) + 12)) (52) (pc := 119) (gd gk_127 63 rfl) (Or.inl rfl) rfl (by decide) (by first | rfl | (simp only [Int32.ofNat_add, Int32.ofNat_mul]; rfl) | (simp only [Int32.ofNat_add, Int32.ofNat_mul])) (by omega) ?_
          refine gs_as (Int32.ofNat h) (e12) ?_
          refine gs_iconst (pc := 120) (gd gk_127 64 rfl) (1) rfl ?_
          refine gs_iadd (pc := 121) (gd gk_127 65 rfl) ?_
          refine gs_iastoreK (((13 * l) + 12)) (52) gs_sl (pc := 122) (gd gk_127 66 rfl) rfl rfl (by decide) (by first | rfl | (simp only [Int32.ofNat_add, Int32.ofNat_mul]; rfl) | (simp only [Int32.ofNat_add, Int32.ofNat_mul])) (by omega) (fun I_1 hI_1 => ?_)
          refine gs_aload_n (pc := 123) (gd gk_127 67 rfl) rfl ?_
          refine gs_getR (r := 133) (pc := 124) (gd gk_127 68 rfl) rfl rfl rfl (by decide) ?_
          refine gs_iload (pc := 127) (gd gk_127 69 rfl) rfl ?_
          refine gs_bipush (pc := 129) (gd gk_127 70 rfl) (11) rfl ?_
          refine gs_iadd (pc := 131) (gd gk_127 71 rfl) ?_
          refine gs_dup2 (pc := 132) (gd gk_127 72 rfl) rfl rfl ?_
          refine gs_ialoadK (((13 * l) + 11)) (52) (pc := 133) (gd gk_127 73 rfl) (Or.inl rfl) rfl (by decide) (by first | rfl | (simp only [Int32.ofNat_add, Int32.ofNat_mul]; rfl) | (simp only [Int32.ofNat_add, Int32.ofNat_mul])) (by omega) ?_
          refine gs_iload (pc := 134) (gd gk_127 74 rfl) rfl ?_
          refine gs_iadd (pc := 136) (gd gk_127 75 rfl) ?_
          refine gs_iastoreK (((13 * l) + 11)) (52) gs_sl (pc := 137) (gd gk_127 76 rfl) rfl rfl (by decide) (by first | rfl | (simp only [Int32.ofNat_add, Int32.ofNat_mul]; rfl) | (simp only [Int32.ofNat_add, Int32.ofNat_mul])) (by omega) (fun I_2 hI_2 => ?_)
          refine gs_iload (pc := 138) (gd gk_127 77 rfl) rfl ?_
          -- end 1: ireturn x, pc 140, locals [(0, .ref (126)), (1, .int (Int32.ofNat l)), (2, .int (gz_b bk)), (3, .int (so)), (4, .int (Int32.ofNat (13 * l))), (5, .int (wd)), (6, .int (x)), (7, .int (Int32.ofNat k))]
          have e0 : ∀ q, q ≠ 13 * l + 11 → q ≠ 13 * l + 12 → I_2 133 q = I1 133 q := fun q q1 q2 => by rw [hI_2, gw_u_s, hI_1, gw_u_s]; simp [upd, q1, q2]
          exact gs_iret (pc := 140) (gd gk_127 78 rfl) rfl (rfl) (Nat.zero_le _) (Nat.zero_le _) (⟨I_2, rfl, by rw [hx, hsm], fun c hc => by rw [e0 _ (by omega) (by omega), h1 c hc, hsm], by rw [hI_2, gw_u_s, hI_1, gw_u_s, hx, hsm]; simp [upd, h2 (13 * l + 11) (by omega)], by rw [hI_2, gw_u_s, hI_1, gw_u_s]; simp [upd, Int32.ofNat_add], fun q q1 q2 q3 => by rw [e0 q q2 q3, h2 q q1], fun p p1 p2 => by rw [hI_2, gw_u_o p1, hI_1, gw_u_o p1, h3 p p1 p2]⟩)
        · replace c67 : ¬ (k ≤ k) := fun q9 => c67 ((zle (k := k) (m := k) (by omega) (by omega)).mpr q9)
          -- end 2: stop, pc 70, locals [(0, .ref (126)), (1, .int (Int32.ofNat l)), (2, .int (gz_b bk)), (3, .int (so)), (4, .int (Int32.ofNat (13 * l))), (5, .int (wd)), (6, .int (x)), (7, .int (Int32.ofNat k))]
          exact absurd (Nat.le_refl k) c67
      | succ m ih =>
        intro k hk x hx
        refine gs_iload (pc := 61) (gd gk_127 34 rfl) rfl ?_
        refine gs_aload_n (pc := 63) (gd gk_127 35 rfl) rfl ?_
        refine gs_getI (pc := 64) (gd gk_127 36 rfl) rfl rfl ?_
        refine gs_as (Int32.ofNat N) (hN1) ?_
        refine gs_icmp_ge (pc := 67) (gd gk_127 37 rfl) (fun c67 => ?_) (fun c67 => ?_)
        · replace c67 : N ≤ k := (zle (k := N) (m := k) (by omega) (by omega)).mp c67
          -- end 1: stop, pc 109, locals [(0, .ref (126)), (1, .int (Int32.ofNat l)), (2, .int (gz_b bk)), (3, .int (so)), (4, .int (Int32.ofNat (13 * l))), (5, .int (wd)), (6, .int (x)), (7, .int (Int32.ofNat k))]
          exact absurd c67 (by omega)
        · replace c67 : ¬ (N ≤ k) := fun q9 => c67 ((zle (k := N) (m := k) (by omega) (by omega)).mpr q9)
          refine gs_iload (pc := 70) (gd gk_127 38 rfl) rfl ?_
          refine gs_iload_n (pc := 72) (gd gk_127 39 rfl) rfl ?_
          refine gs_iload (pc := 73) (gd gk_127 40 rfl) rfl ?_
          refine gs_callS (as := [.int (so), .int (Int32.ofNat k)]) (pc := 75) (gd gk_127 41 rfl) (by decide) rfl rfl (Nat.le_of_ble_eq_true rfl) gq_127_108 (Nat.le_of_ble_eq_true rfl) (c_mhas (so) (Int32.ofNat k)) (fun r_75 w_75 q_75 => ?_)
          obtain ⟨rfl, rfl⟩ := q_75
          refine gs_if_eq (pc := 78) (gd gk_127 42 rfl) (fun c78 => ?_) (fun c78 => ?_)
          · refine gs_iconst (pc := 99) (gd gk_127 52 rfl) (0) rfl ?_
            refine gs_iadd (pc := 100) (gd gk_127 53 rfl) ?_
            refine gs_istore (ls2 := fun v => [(0, .ref (126)), (1, .int (Int32.ofNat l)), (2, .int (gz_b bk)), (3, .int (so)), (4, .int (Int32.ofNat (13 * l))), (5, .int (wd)), (6, .int (v)), (7, .int (Int32.ofNat k))]) (pc := 101) (gd gk_127 54 rfl) (by rw [gL_127]; decide) (fun _ => rfl) (fun v6_1 hv6_1 => ?_)
            refine gs_iinc (ls2 := fun v => [(0, .ref (126)), (1, .int (Int32.ofNat l)), (2, .int (gz_b bk)), (3, .int (so)), (4, .int (Int32.ofNat (13 * l))), (5, .int (wd)), (6, .int (v6_1)), (7, .int (v))]) (pc := 103) (gd gk_127 55 rfl) rfl (by rw [gL_127]; decide) (fun _ => rfl) (1) rfl (fun v7_1 hv7_1 => ?_)
            obtain rfl : v7_1 = Int32.ofNat (k + 1) := hv7_1.trans (by first | rfl | (simp only [Int32.ofNat_add, Int32.ofNat_mul]; rfl) | (simp only [Int32.ofNat_add, Int32.ofNat_mul]))
            refine gs_goto (pc := 106) (gd gk_127 56 rfl) ?_
            -- end 2: stop, pc 61, locals [(0, .ref (126)), (1, .int (Int32.ofNat l)), (2, .int (gz_b bk)), (3, .int (so)), (4, .int (Int32.ofNat (13 * l))), (5, .int (wd)), (6, .int (v6_1)), (7, .int (Int32.ofNat (k + 1)))]
            exact ih (k + 1) (by omega) _ (by rw [hv6_1, hx]; simp [gq_hc, gz_b_eq.mp c78])
          · refine gs_aload_n (pc := 81) (gd gk_127 43 rfl) rfl ?_
            refine gs_iload (pc := 82) (gd gk_127 44 rfl) rfl ?_
            refine gs_aload_n (pc := 84) (gd gk_127 45 rfl) rfl ?_
            refine gs_iload_n (pc := 85) (gd gk_127 46 rfl) rfl ?_
            refine gs_iload (pc := 86) (gd gk_127 47 rfl) rfl ?_
            refine gs_callV (as := [.int (Int32.ofNat l), .int (Int32.ofNat k)]) (pc := 88) (gd gk_127 48 rfl) (by decide) rfl (by decide) rfl rfl (Nat.le_of_ble_eq_true rfl) gq_127_121 (Nat.le_of_ble_eq_true rfl) (m_hasIt l k hl (by omega) (by rw [h129]; exact (hns k (by omega)).1)) (fun r_88 w_88 q_88 => ?_)
            obtain ⟨rfl, rfl⟩ := q_88
            refine gs_iload (pc := 91) (gd gk_127 49 rfl) rfl ?_
            refine gs_callV (as := [.int (Int32.ofNat k), .int ((gz_b (gq_has (gz_M I1) (gz_L I1 l) k))), .int (wd)]) (pc := 93) (gd gk_127 50 rfl) (by decide) rfl (by decide) rfl rfl (Nat.le_of_ble_eq_true rfl) gq_127_126 (Nat.le_of_ble_eq_true rfl) (m_pays k (by omega) (gq_has (gz_M I1) (gz_L I1 l) k) wd (by rw [h129]; exact (hns k (by omega)).2.2.2)) (fun r_93 w_93 q_93 => ?_)
            obtain ⟨rfl, rfl⟩ := q_93
            refine gs_goto (pc := 96) (gd gk_127 51 rfl) ?_
            refine gs_iadd (pc := 100) (gd gk_127 53 rfl) ?_
            refine gs_istore (ls2 := fun v => [(0, .ref (126)), (1, .int (Int32.ofNat l)), (2, .int (gz_b bk)), (3, .int (so)), (4, .int (Int32.ofNat (13 * l))), (5, .int (wd)), (6, .int (v)), (7, .int (Int32.ofNat k))]) (pc := 101) (gd gk_127 54 rfl) (by rw [gL_127]; decide) (fun _ => rfl) (fun v6_2 hv6_2 => ?_)
            refine gs_iinc (ls2 := fun v => [(0, .ref (126)), (1, .int (Int32.ofNat l)), (2, .int (gz_b bk)), (3, .int (so)), (4, .int (Int32.ofNat (13 * l))), (5, .int (wd)), (6, .int (v6_2)), (7, .int (v))]) (pc := 103) (gd gk_127 55 rfl) rfl (by rw [gL_127]; decide) (fun _ => rfl) (1) rfl (fun v7_2 hv7_2 => ?_)
            obtain rfl : v7_2 = Int32.ofNat (k + 1) := hv7_2.trans (by first | rfl | (simp only [Int32.ofNat_add, Int32.ofNat_mul]; rfl) | (simp only [Int32.ofNat_add, Int32.ofNat_mul]))
            refine gs_goto (pc := 106) (gd gk_127 56 rfl) ?_
            -- end 3: stop, pc 61, locals [(0, .ref (126)), (1, .int (Int32.ofNat l)), (2, .int (gz_b bk)), (3, .int (so)), (4, .int (Int32.ofNat (13 * l))), (5, .int (wd)), (6, .int (v6_2)), (7, .int (Int32.ofNat (k + 1)))]
            exact ih (k + 1) (by omega) _ (by rw [hv6_2, hx, hM, gq_has_c hc1 (hns1 k (by omega))]; simp [gq_hc, gz_b_ne.mp c78])
    refine gs_iload_n (pc := 43) (gd gk_127 24 rfl) rfl ?_
    refine gs_if_eq (pc := 44) (gd gk_127 25 rfl) (fun c44 => ?_) (fun c44 => ?_)
    · refine gs_iconst (pc := 55) (gd gk_127 30 rfl) (0) rfl ?_
      refine gs_istore (ls2 := fun v => [(0, .ref (126)), (1, .int (Int32.ofNat l)), (2, .int (gz_b bk)), (3, .int (so)), (4, .int (Int32.ofNat (13 * l))), (5, .int (wd)), (6, .int (v))]) (pc := 56) (gd gk_127 31 rfl) (by rw [gL_127]; decide) (fun _ => rfl) (fun v6_1 hv6_1 => ?_)
      obtain rfl : v6_1 = Int32.ofNat 0 := hv6_1.trans (by first | rfl | (simp only [Int32.ofNat_add, Int32.ofNat_mul]; rfl) | (simp only [Int32.ofNat_add, Int32.ofNat_mul]))
      refine gs_iconst (pc := 58) (gd gk_127 32 rfl) (0) rfl ?_
      refine gs_istore (ls2 := fun v => [(0, .ref (126)), (1, .int (Int32.ofNat l)), (2, .int (gz_b bk)), (3, .int (so)), (4, .int (Int32.ofNat (13 * l))), (5, .int (wd)), (6, .int (Int32.ofNat 0)), (7, .int (v))]) (pc := 59) (gd gk_127 33 rfl) (by rw [gL_127]; decide) (fun _ => rfl) (fun v7_1 hv7_1 => ?_)
      obtain rfl : v7_1 = Int32.ofNat 0 := hv7_1.trans (by first | rfl | (simp only [Int32.ofNat_add, Int32.ofNat_mul]; rfl) | (simp only [Int32.ofNat_add, Int32.ofNat_mul]))
      -- end 1: stop, pc 61, locals [(0, .ref (126)), (1, .int (Int32.ofNat l)), (2, .int (gz_b bk)), (3, .int (so)), (4, .int (Int32.ofNat (13 * l))), (5, .int (wd)), (6, .int (Int32.ofNat 0)), (7, .int (Int32.ofNat 0))]
      exact lp N 0 (by omega) _ (by rw [gz_b_eq.mp c44]; rfl)
    · refine gs_aload_n (pc := 47) (gd gk_127 26 rfl) rfl ?_
      refine gs_getI (pc := 48) (gd gk_127 27 rfl) rfl rfl ?_
      refine gs_ineg (pc := 51) (gd gk_127 28 rfl) ?_
      refine gs_goto (pc := 52) (gd gk_127 29 rfl) ?_
      refine gs_istore (ls2 := fun v => [(0, .ref (126)), (1, .int (Int32.ofNat l)), (2, .int (gz_b bk)), (3, .int (so)), (4, .int (Int32.ofNat (13 * l))), (5, .int (wd)), (6, .int (v))]) (pc := 56) (gd gk_127 31 rfl) (by rw [gL_127]; decide) (fun _ => rfl) (fun v6_2 hv6_2 => ?_)
      refine gs_iconst (pc := 58) (gd gk_127 32 rfl) (0) rfl ?_
      refine gs_istore (ls2 := fun v => [(0, .ref (126)), (1, .int (Int32.ofNat l)), (2, .int (gz_b bk)), (3, .int (so)), (4, .int (Int32.ofNat (13 * l))), (5, .int (wd)), (6, .int (v6_2)), (7, .int (v))]) (pc := 59) (gd gk_127 33 rfl) (by rw [gL_127]; decide) (fun _ => rfl) (fun v7_2 hv7_2 => ?_)
      obtain rfl : v7_2 = Int32.ofNat 0 := hv7_2.trans (by first | rfl | (simp only [Int32.ofNat_add, Int32.ofNat_mul]; rfl) | (simp only [Int32.ofNat_add, Int32.ofNat_mul]))
      -- end 2: stop, pc 61, locals [(0, .ref (126)), (1, .int (Int32.ofNat l)), (2, .int (gz_b bk)), (3, .int (so)), (4, .int (Int32.ofNat (13 * l))), (5, .int (wd)), (6, .int (v6_2)), (7, .int (Int32.ofNat 0))]
      exact lp N 0 (by omega) _ (by rw [hv6_2, gz_b_ne.mp c44, h3 126 (by omega) (by omega)]; rfl)
  refine gs_bipush (pc := 0) (gd gk_127 0 rfl) (13) rfl ?_
  refine gs_iload_n (pc := 2) (gd gk_127 1 rfl) rfl ?_
  refine gs_imul (pc := 3) (gd gk_127 2 rfl) ?_
  refine gs_istore (ls2 := fun v => [(0, .ref (126)), (1, .int (Int32.ofNat l)), (2, .int (gz_b bk)), (3, .int (so)), (4, .int (v))]) (pc := 4) (gd gk_127 3 rfl) (by rw [gL_127]; decide) (fun _ => rfl) (fun v4_1 hv4_1 => ?_)
  obtain rfl : v4_1 = Int32.ofNat (13 * l) := hv4_1.trans (by first | rfl | (simp only [Int32.ofNat_add, Int32.ofNat_mul]; rfl) | (simp only [Int32.ofNat_add, Int32.ofNat_mul]))
  refine gs_aload_n (pc := 6) (gd gk_127 4 rfl) rfl ?_
  refine gs_getR (r := 128) (pc := 7) (gd gk_127 5 rfl) rfl rfl rfl (by decide) ?_
  refine gs_aload_n (pc := 10) (gd gk_127 6 rfl) rfl ?_
  refine gs_getR (r := 133) (pc := 11) (gd gk_127 7 rfl) rfl rfl rfl (by decide) ?_
  refine gs_iload (pc := 14) (gd gk_127 8 rfl) rfl ?_
  refine gs_bipush (pc := 16) (gd gk_127 9 rfl) (12) rfl ?_
  refine gs_iadd (pc := 18) (gd gk_127 10 rfl) ?_
  refine gs_ialoadK (((13 * l) + 12)) (52) (pc := 19) (gd gk_127 11 rfl) (Or.inl rfl) rfl (by decide) (by first | rfl | (simp only [Int32.ofNat_add, Int32.ofNat_mul]; rfl) | (simp only [Int32.ofNat_add, Int32.ofNat_mul])) (by omega) ?_
  refine gs_as (Int32.ofNat h) (hh) ?_
  refine gs_ialoadK (h) (8) (pc := 20) (gd gk_127 12 rfl) (Or.inl rfl) rfl (by decide) (by first | rfl | (simp only [Int32.ofNat_add, Int32.ofNat_mul]; rfl) | (simp only [Int32.ofNat_add, Int32.ofNat_mul])) (by omega) ?_
  refine gs_istore (ls2 := fun v => [(0, .ref (126)), (1, .int (Int32.ofNat l)), (2, .int (gz_b bk)), (3, .int (so)), (4, .int (Int32.ofNat (13 * l))), (5, .int (v))]) (pc := 21) (gd gk_127 13 rfl) (by rw [gL_127]; decide) (fun _ => rfl) (fun v5_1 hv5_1 => ?_)
  rw [hb] at hv5_1
  subst hv5_1
  refine gs_aload_n (pc := 23) (gd gk_127 14 rfl) rfl ?_
  refine gs_iload_n (pc := 24) (gd gk_127 15 rfl) rfl ?_
  refine gs_iload (pc := 25) (gd gk_127 16 rfl) rfl ?_
  refine gs_iload_n (pc := 27) (gd gk_127 17 rfl) rfl ?_
  refine gs_if_eq (pc := 28) (gd gk_127 18 rfl) (fun c28 => ?_) (fun c28 => ?_)
  · refine gs_bipush (pc := 38) (gd gk_127 22 rfl) (-99) rfl ?_
    refine gs_callV (as := [.int (Int32.ofNat l), .int (v5_1), .int ((-99))]) (pc := 40) (gd gk_127 23 rfl) (by decide) rfl (by decide) rfl rfl (Nat.le_of_ble_eq_true rfl) gq_127_125 (Nat.le_of_ble_eq_true rfl) (m_drift l hl v5_1 ((-99)) bk bc hbc9 (by rw [gz_b_eq.mp c28]; rfl) hwd) (fun r_40 w_40 q_40 => ?_)
    obtain ⟨rfl, I_d, rfl, hd1, hd2, hd3⟩ := q_40
    -- end 1: stop, pc 43, locals [(0, .ref (126)), (1, .int (Int32.ofNat l)), (2, .int (gz_b bk)), (3, .int (so)), (4, .int (Int32.ofNat (13 * l))), (5, .int (v5_1))]
    exact join43 I_d hd1 hd2 hd3
  · refine gs_aload_n (pc := 31) (gd gk_127 19 rfl) rfl ?_
    refine gs_getI (pc := 32) (gd gk_127 20 rfl) rfl rfl ?_
    refine gs_as (Int32.ofNat bc) (hbc) ?_
    refine gs_goto (pc := 35) (gd gk_127 21 rfl) ?_
    refine gs_callV (as := [.int (Int32.ofNat l), .int (v5_1), .int (Int32.ofNat bc)]) (pc := 40) (gd gk_127 23 rfl) (by decide) rfl (by decide) rfl rfl (Nat.le_of_ble_eq_true rfl) gq_127_125 (Nat.le_of_ble_eq_true rfl) (m_drift l hl v5_1 (Int32.ofNat bc) bk bc hbc9 (by rw [gz_b_ne.mp c28]; rfl) hwd) (fun r_40 w_40 q_40 => ?_)
    obtain ⟨rfl, I_d, rfl, hd1, hd2, hd3⟩ := q_40
    -- end 2: stop, pc 43, locals [(0, .ref (126)), (1, .int (Int32.ofNat l)), (2, .int (gz_b bk)), (3, .int (so)), (4, .int (Int32.ofNat (13 * l))), (5, .int (v5_1))]
    exact join43 I_d hd1 hd2 hd3
theorem m_winds {V : gw_V} {n : Nat} {I : Nat → Nat → Int32} {J : Nat → Nat → Int64} : gw_E V 128 (0, [(0, .ref 126)], [], gS n I J, 0, 0) (fun v w' => v = none ∧ ∃ I2, w' = gS n I2 J ∧ (∀ h, h < 8 → I2 128 h = I 127 h) ∧ ∀ p, p ≠ 128 → I2 p = I p) := by
  have lp : ∀ (m k : Nat), m + k = 8 → ∀ I1, (∀ h, h < k → I1 128 h = I 127 h) → (∀ p, p ≠ 128 → I1 p = I p) → gw_E V 128 (2, [(0, .ref 126), (1, .int (Int32.ofNat k))], [], gS n I1 J, 0, 0) (fun v w' => v = none ∧ ∃ I2, w' = gS n I2 J ∧ (∀ h, h < 8 → I2 128 h = I 127 h) ∧ ∀ p, p ≠ 128 → I2 p = I p) := by
    intro m
    induction m with
    | zero =>
      intro k hk I1 h1 h2
      obtain rfl : k = 8 := by omega
      refine gs_iload_n (pc := 2) (gd gk_128 2 rfl) rfl ?_
      refine gs_bipush (pc := 3) (gd gk_128 3 rfl) (8) rfl ?_
      refine gs_icmp_ge (pc := 5) (gd gk_128 4 rfl) (fun c5 => ?_) (fun c5 => ?_)
      · replace c5 : 8 ≤ 8 := (zle (k := 8) (m := 8) (by omega) (by omega)).mp c5
        -- end 1: return, pc 26, locals [(0, .ref (126)), (1, .int (Int32.ofNat 8))]
        exact gs_ret (pc := 26) (gd gk_128 15 rfl) rfl (Nat.zero_le _) (Nat.zero_le _) (⟨rfl, I1, rfl, h1, h2⟩)
      · replace c5 : ¬ (8 ≤ 8) := fun q9 => c5 ((zle (k := 8) (m := 8) (by omega) (by omega)).mpr q9)
        -- end 2: stop, pc 8, locals [(0, .ref (126)), (1, .int (Int32.ofNat 8))]
        exact absurd (Nat.le_refl 8) c5
    | succ m ih =>
      intro k hk I1 h1 h2
      refine gs_iload_n (pc := 2) (gd gk_128 2 rfl) rfl ?_
      refine gs_bipush (pc := 3) (gd gk_128 3 rfl) (8) rfl ?_
      refine gs_icmp_ge (pc := 5) (gd gk_128 4 rfl) (fun c5 => ?_) (fun c5 => ?_)
      · replace c5 : 8 ≤ k := (zle (k := 8) (m := k) (by omega) (by omega)).mp c5
        -- end 1: return, pc 26, locals [(0, .ref (126)), (1, .int (Int32.ofNat k))]
        exact absurd c5 (by omega)
      · replace c5 : ¬ (8 ≤ k) := fun q9 => c5 ((zle (k := 8) (m := k) (by omega) (by omega)).mpr q9)
        refine gs_aload_n (pc := 8) (gd gk_128 5 rfl) rfl ?_
        refine gs_getR (r := 128) (pc := 9) (gd gk_128 6 rfl) rfl rfl rfl (by decide) ?_
        refine gs_iload_n (pc := 12) (gd gk_128 7 rfl) rfl ?_
        refine gs_aload_n (pc := 13) (gd gk_128 8 rfl) rfl ?_
        refine gs_getR (r := 127) (pc := 14) (gd gk_128 9 rfl) rfl rfl rfl (by decide) ?_
        refine gs_iload_n (pc := 17) (gd gk_128 10 rfl) rfl ?_
        refine gs_ialoadK (k) (8) (pc := 18) (gd gk_128 11 rfl) (Or.inl rfl) rfl (by decide) (by first | rfl | (simp only [Int32.ofNat_add, Int32.ofNat_mul]; rfl) | (simp only [Int32.ofNat_add, Int32.ofNat_mul])) (by omega) ?_
        refine gs_iastoreK (k) (8) gs_sl (pc := 19) (gd gk_128 12 rfl) rfl rfl (by decide) (by first | rfl | (simp only [Int32.ofNat_add, Int32.ofNat_mul]; rfl) | (simp only [Int32.ofNat_add, Int32.ofNat_mul])) (by omega) (fun I_1 hI_1 => ?_)
        refine gs_iinc (ls2 := fun v => [(0, .ref (126)), (1, .int (v))]) (pc := 20) (gd gk_128 13 rfl) rfl (by rw [gL_128]; decide) (fun _ => rfl) (1) rfl (fun v1_1 hv1_1 => ?_)
        obtain rfl : v1_1 = Int32.ofNat (k + 1) := hv1_1.trans (by first | rfl | (simp only [Int32.ofNat_add, Int32.ofNat_mul]; rfl) | (simp only [Int32.ofNat_add, Int32.ofNat_mul]))
        refine gs_goto (pc := 23) (gd gk_128 14 rfl) ?_
        -- end 2: stop, pc 2, locals [(0, .ref (126)), (1, .int (Int32.ofNat (k + 1)))]
        refine ih (k + 1) (by omega) I_1 (fun h hh => ?_) (fun p hp => by rw [hI_1, gw_u_o hp, h2 p hp])
        rw [hI_1, gw_u_s]
        unfold upd
        by_cases q : h = k
        · rw [if_pos q, q, h2 127 (by omega)]
        · rw [if_neg q]; exact h1 h (by omega)
  refine gs_iconst (pc := 0) (gd gk_128 0 rfl) (0) rfl ?_
  refine gs_istore_n (ls2 := fun v => [(0, .ref (126)), (1, .int (v))]) (pc := 1) (gd gk_128 1 rfl) (by rw [gL_128]; decide) (fun _ => rfl) (fun v1_1 hv1_1 => ?_)
  obtain rfl : v1_1 = Int32.ofNat 0 := hv1_1.trans (by first | rfl | (simp only [Int32.ofNat_add, Int32.ofNat_mul]; rfl) | (simp only [Int32.ofNat_add, Int32.ofNat_mul]))
  -- end 1: stop, pc 2, locals [(0, .ref (126)), (1, .int (Int32.ofNat 0))]
  exact lp 8 0 rfl I (fun h hh => absurd hh (Nat.not_lt_zero _)) (fun _ _ => rfl)
theorem m_lay {V : gw_V} {n : Nat} {I : Nat → Nat → Int32} {J : Nat → Nat → Int64} (a b : Nat) (ha : a < 3) (hb : b < 3) (hab : a ≠ b) : gw_E V 129 (0, [(0, .ref 126), (1, .int (Int32.ofNat a)), (2, .int (Int32.ofNat b))], [], gS n I J, 0, 0) (fun v w' => v = none ∧ ∃ I2, w' = gS n I2 J ∧ (∀ c, c < 13 → I2 133 (13 * b + c) = I 133 (13 * a + c)) ∧ (∀ q, ¬ (13 * b ≤ q ∧ q < 13 * b + 13) → I2 133 q = I 133 q) ∧ ∀ p, p ≠ 133 → I2 p = I p) := by
  have lp : ∀ (m k : Nat), m + k = 13 → ∀ I1, (∀ c, c < k → I1 133 (13 * b + c) = I 133 (13 * a + c)) → (∀ q, ¬ (13 * b ≤ q ∧ q < 13 * b + 13) → I1 133 q = I 133 q) → (∀ p, p ≠ 133 → I1 p = I p) → gw_E V 129 (2, [(0, .ref 126), (1, .int (Int32.ofNat a)), (2, .int (Int32.ofNat b)), (3, .int (Int32.ofNat k))], [], gS n I1 J, 0, 0) (fun v w' => v = none ∧ ∃ I2, w' = gS n I2 J ∧ (∀ c, c < 13 → I2 133 (13 * b + c) = I 133 (13 * a + c)) ∧ (∀ q, ¬ (13 * b ≤ q ∧ q < 13 * b + 13) → I2 133 q = I 133 q) ∧ ∀ p, p ≠ 133 → I2 p = I p) := by
    intro m
    induction m with
    | zero =>
      intro k hk I1 h1 h2 h3
      obtain rfl : k = 13 := by omega
      refine gs_iload_n (pc := 2) (gd gk_129 2 rfl) rfl ?_
      refine gs_bipush (pc := 3) (gd gk_129 3 rfl) (13) rfl ?_
      refine gs_icmp_ge (pc := 5) (gd gk_129 4 rfl) (fun c5 => ?_) (fun c5 => ?_)
      · replace c5 : 13 ≤ 13 := (zle (k := 13) (m := 13) (by omega) (by omega)).mp c5
        -- end 1: return, pc 36, locals [(0, .ref (126)), (1, .int (Int32.ofNat a)), (2, .int (Int32.ofNat b)), (3, .int (Int32.ofNat 13))]
        exact gs_ret (pc := 36) (gd gk_129 23 rfl) rfl (Nat.zero_le _) (Nat.zero_le _) (⟨rfl, I1, rfl, h1, h2, h3⟩)
      · replace c5 : ¬ (13 ≤ 13) := fun q9 => c5 ((zle (k := 13) (m := 13) (by omega) (by omega)).mpr q9)
        -- end 2: stop, pc 8, locals [(0, .ref (126)), (1, .int (Int32.ofNat a)), (2, .int (Int32.ofNat b)), (3, .int (Int32.ofNat 13))]
        exact absurd (Nat.le_refl 13) c5
    | succ m ih =>
      intro k hk I1 h1 h2 h3
      refine gs_iload_n (pc := 2) (gd gk_129 2 rfl) rfl ?_
      refine gs_bipush (pc := 3) (gd gk_129 3 rfl) (13) rfl ?_
      refine gs_icmp_ge (pc := 5) (gd gk_129 4 rfl) (fun c5 => ?_) (fun c5 => ?_)
      · replace c5 : 13 ≤ k := (zle (k := 13) (m := k) (by omega) (by omega)).mp c5
        -- end 1: return, pc 36, locals [(0, .ref (126)), (1, .int (Int32.ofNat a)), (2, .int (Int32.ofNat b)), (3, .int (Int32.ofNat k))]
        exact absurd c5 (by omega)
      · replace c5 : ¬ (13 ≤ k) := fun q9 => c5 ((zle (k := 13) (m := k) (by omega) (by omega)).mpr q9)
        refine gs_aload_n (pc := 8) (gd gk_129 5 rfl) rfl ?_
        refine gs_getR (r := 133) (pc := 9) (gd gk_129 6 rfl) rfl rfl rfl (by decide) ?_
        refine gs_bipush (pc := 12) (gd gk_129 7 rfl) (13) rfl ?_
        refine gs_iload_n (pc := 14) (gd gk_129 8 rfl) rfl ?_
        refine gs_imul (pc := 15) (gd gk_129 9 rfl) ?_
        refine gs_iload_n (pc := 16) (gd gk_129 10 rfl) rfl ?_
        refine gs_iadd (pc := 17) (gd gk_129 11 rfl) ?_
        refine gs_aload_n (pc := 18) (gd gk_129 12 rfl) rfl ?_
        refine gs_getR (r := 133) (pc := 19) (gd gk_129 13 rfl) rfl rfl rfl (by decide) ?_
        refine gs_bipush (pc := 22) (gd gk_129 14 rfl) (13) rfl ?_
        refine gs_iload_n (pc := 24) (gd gk_129 15 rfl) rfl ?_
        refine gs_imul (pc := 25) (gd gk_129 16 rfl) ?_
        refine gs_iload_n (pc := 26) (gd gk_129 17 rfl) rfl ?_
        refine gs_iadd (pc := 27) (gd gk_129 18 rfl) ?_
        refine gs_ialoadK (((13 * a) + k)) (52) (pc := 28) (gd gk_129 19 rfl) (Or.inl rfl) rfl (by decide) (by first | rfl | (simp only [Int32.ofNat_add, Int32.ofNat_mul]; rfl) | (simp only [Int32.ofNat_add, Int32.ofNat_mul])) (by omega) ?_
        refine gs_iastoreK (((13 * b) + k)) (52) gs_sl (pc := 29) (gd gk_129 20 rfl) rfl rfl (by decide) (by first | rfl | (simp only [Int32.ofNat_add, Int32.ofNat_mul]; rfl) | (simp only [Int32.ofNat_add, Int32.ofNat_mul])) (by omega) (fun I_1 hI_1 => ?_)
        refine gs_iinc (ls2 := fun v => [(0, .ref (126)), (1, .int (Int32.ofNat a)), (2, .int (Int32.ofNat b)), (3, .int (v))]) (pc := 30) (gd gk_129 21 rfl) rfl (by rw [gL_129]; decide) (fun _ => rfl) (1) rfl (fun v3_1 hv3_1 => ?_)
        obtain rfl : v3_1 = Int32.ofNat (k + 1) := hv3_1.trans (by first | rfl | (simp only [Int32.ofNat_add, Int32.ofNat_mul]; rfl) | (simp only [Int32.ofNat_add, Int32.ofNat_mul]))
        refine gs_goto (pc := 33) (gd gk_129 22 rfl) ?_
        -- end 2: stop, pc 2, locals [(0, .ref (126)), (1, .int (Int32.ofNat a)), (2, .int (Int32.ofNat b)), (3, .int (Int32.ofNat (k + 1)))]
        refine ih (k + 1) (by omega) I_1 (fun c hc => ?_) (fun q hq => ?_) (fun p hp => by rw [hI_1, gw_u_o hp, h3 p hp])
        · rw [hI_1, gw_u_s]
          unfold upd
          by_cases q : c = k
          · rw [q, if_pos rfl, h2 _ (by omega)]
          · rw [if_neg (by omega)]; exact h1 c (by omega)
        · rw [hI_1, gw_u_s]
          unfold upd
          rw [if_neg (by omega)]; exact h2 q hq
  refine gs_iconst (pc := 0) (gd gk_129 0 rfl) (0) rfl ?_
  refine gs_istore_n (ls2 := fun v => [(0, .ref (126)), (1, .int (Int32.ofNat a)), (2, .int (Int32.ofNat b)), (3, .int (v))]) (pc := 1) (gd gk_129 1 rfl) (by rw [gL_129]; decide) (fun _ => rfl) (fun v3_1 hv3_1 => ?_)
  obtain rfl : v3_1 = Int32.ofNat 0 := hv3_1.trans (by first | rfl | (simp only [Int32.ofNat_add, Int32.ofNat_mul]; rfl) | (simp only [Int32.ofNat_add, Int32.ofNat_mul]))
  -- end 1: stop, pc 2, locals [(0, .ref (126)), (1, .int (Int32.ofNat a)), (2, .int (Int32.ofNat b)), (3, .int (Int32.ofNat 0))]
  exact lp 13 0 rfl I (fun c hc => absurd hc (Nat.not_lt_zero _)) (fun _ _ => rfl) (fun _ _ => rfl)
